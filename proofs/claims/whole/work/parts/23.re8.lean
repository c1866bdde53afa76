/-! Replica: sleep, patience, a lie (g_re8.py) -/
def sSl (σ : Sg) (p b : Nat) : Sg := U σ 17 p 0 b
def canS (σ : Sg) (p b : Nat) : Prop := σ 0 p 0 = 0 ∧ ¬ σ 17 p 0 = b
/-- patience ends -/
def k0 (σ : Sg) (p : Nat) : Sg := U (sSend σ p 1 0 0) 12 p 0 1
def k1 (σ : Sg) (p : Nat) : Sg := U (sSend σ p 2 0 0) 12 p 0 2
def k2 (σ : Sg) (p : Nat) : Sg := U (U σ 11 p 0 (σ 11 p 0 + 1)) 12 p 0 0
/-- a lie is taken -/
def sLie (σ : Sg) (p k r x : Nat) : Sg := U (U (U σ 28 (3 * (p / 4) + p % 4) (102 * k + 6 * σ 10 p 0 + r) (x + 1)) 29 p (slt k r 3) (x + 1)) 30 p (slt k r 3) 0

theorem bn : ∀ b, b < 2 → narrow .boolean (.int (nI b)) = .int (nI b) := by
  intro b hb
  have : b = 0 ∨ b = 1 := by omega
  rcases this with rfl | rfl <;> decide +kernel
theorem bf : ∀ b, b < 2 → fits .boolean (.int (nI b)) = true := by
  intro b hb
  have : b = 0 ∨ b = 1 := by omega
  rcases this with rfl | rfl <;> decide +kernel

theorem KR_new {B nx : Nat} {σ : Sg} {κ : Kp} {m : Nat → Nat} (kr : KR B σ κ nx) (hm : ∀ i, m i < 100000) : KR B σ (Knew κ nx m) (nx + 1) := by
  obtain ⟨k1, k2, k3, k4, ⟨k5, k5'⟩, k6⟩ := kr
  have old : ∀ {a : Nat}, κ.2.2.1 a = true → a ≠ nx := fun h e => by have := (k5' _ h).2; omega
  have epr : ∀ a, (Knew κ nx m).2.2.1 a = if a = nx then true else κ.2.2.1 a := fun a => rfl
  have emf : ∀ a, (Knew κ nx m).2.2.2 a = if a = nx then m else κ.2.2.2 a := fun a => rfl
  refine ⟨k1, fun q j a hq hj h => ?_, fun s j hs hj => ?_, k4, ⟨by omega, fun a ha => ?_⟩, fun a i ha => ?_⟩
  · obtain ⟨g1, g2, g3, g4⟩ := k2 q j a hq hj h
    rw [epr, emf, if_neg (old g1), if_neg (old g1)]
    exact ⟨g1, g2, g3, g4⟩
  · obtain ⟨a, g1, g2, g3, g4⟩ := k3 s j hs hj
    refine ⟨a, g1, by rw [epr, if_neg (old g2)]; exact g2, g3, fun i hi => by rw [emf, if_neg (old g2)]; exact g4 i hi⟩
  · rw [epr] at ha
    by_cases e : a = nx
    · subst e; exact ⟨by omega, by omega⟩
    · rw [if_neg e] at ha
      have := k5' a ha
      exact ⟨by omega, by omega⟩
  · rw [epr] at ha
    rw [emf]
    by_cases e : a = nx
    · rw [if_pos e]; exact hm i
    · rw [if_neg e] at ha ⊢; exact k6 a i ha

set_option maxHeartbeats 4000000 in
set_option maxRecDepth 100000 in
theorem t_Re_turnSleep_f {l : Launch} {D : va_G} {B nx : Nat} {σ : Sg} {κ : Kp} {g : Nat → Option va_E} {p : Nat} (hp : p < 8) {I : Sg → Prop} {mu : Nat → Sg → Nat} (ok : OkI I mu) (hi : I σ) (kr : KR B σ κ nx) (b : Nat) (hb2 : b < 2) (h : ¬ canS σ p b) : jM (G0 l D) m_Re_turnSleep 0 0 0 [.ref (aP B p + 3), .int (nI b)] (hC D B σ κ g, nx) (fun v h => v = some (.int (nI 0)) ∧ h = (hC D B σ κ g, nx)) := by
  refine jM.of (by decide +kernel) (Nat.le_of_ble_eq_true rfl) rfl ?_
  obtain ⟨hb, h32, h8, hr6, hc6, hq3, hsd, b15, b16⟩ := (ok p hp).1 σ hi
  have b0 := hb 0 p 0
  have b17 := hb 17 p 0
  have b12 := hb 12 p 0
  have b11 := hb 11 p 0
  have hnx : B + 93 ≤ nx := by have := kr.2.2.2.2.1.1; omega
  first | refine j_aload_n d_Re_turnSleep_0 rfl ?_ | refine j_aload_nq d_Re_turnSleep_0 rfl ?_ | refine j_aload_nN d_Re_turnSleep_0 rfl ?_
  refine j_get d_Re_turnSleep_1 f_Re_39 (hC_p hp (by decide)) rfl ?_
  first | refine c_if_ne (t := 15) d_Re_turnSleep_4 (by decide) (fun c4 => ?_) (fun c4 => ?_) | refine n_if_ne (t := 15) d_Re_turnSleep_4 (by decide) (by omega) (fun c4 => ?_) (fun c4 => ?_) | refine j_if_ne (t := 15) d_Re_turnSleep_4 (by decide) (fun c4 => ?_) (fun c4 => ?_)
  · refine j_iconst (v := nI 0) d_Re_turnSleep_15 (by decide +kernel) ?_
    exact j_zret d_Re_turnSleep_16 rfl (by decide +kernel) ⟨rfl, rfl⟩
  · first | refine j_aload_n d_Re_turnSleep_7 rfl ?_ | refine j_aload_nq d_Re_turnSleep_7 rfl ?_ | refine j_aload_nN d_Re_turnSleep_7 rfl ?_
    refine j_get d_Re_turnSleep_8 f_Re_106 (hC_p hp (by decide)) rfl ?_
    refine j_iload_n d_Re_turnSleep_11 rfl ?_
    first | refine nn_icmp_ne (t := 17) d_Re_turnSleep_12 (by decide) (by omega) (by omega) (fun c12 => ?_) (fun c12 => ?_) | refine mm_icmp_ne (t := 17) d_Re_turnSleep_12 (by decide) (by omega) (by omega) (fun c12 => ?_) (fun c12 => ?_) | refine mn_icmp_ne (t := 17) d_Re_turnSleep_12 (by decide) (by omega) (by omega) (fun c12 => ?_) (fun c12 => ?_) | refine nm_icmp_ne (t := 17) d_Re_turnSleep_12 (by decide) (by omega) (by omega) (fun c12 => ?_) (fun c12 => ?_) | refine j_icmp_ne (t := 17) d_Re_turnSleep_12 (by decide) (fun c12 => ?_) (fun c12 => ?_)
    · exact absurd ⟨c4, c12⟩ h
    · refine j_iconst (v := nI 0) d_Re_turnSleep_15 (by decide +kernel) ?_
      exact j_zret d_Re_turnSleep_16 rfl (by decide +kernel) ⟨rfl, rfl⟩

set_option maxHeartbeats 4000000 in
set_option maxRecDepth 100000 in
theorem t_Re_turnSleep_t {l : Launch} {D : va_G} {B nx : Nat} {σ : Sg} {κ : Kp} {g : Nat → Option va_E} {p : Nat} (hp : p < 8) {I : Sg → Prop} {mu : Nat → Sg → Nat} (ok : OkI I mu) (hi : I σ) (kr : KR B σ κ nx) (b : Nat) (hb2 : b < 2) (h : canS σ p b) (hi' : I (sSl σ p b)) : jM (G0 l D) m_Re_turnSleep 6 (sS (sAct (sSl σ p b) p) - sS σ) (7 * (sS (sAct (sSl σ p b) p) - sS σ)) [.ref (aP B p + 3), .int (nI b)] (hC D B σ κ g, nx) (fun v h => v = some (.int (nI 1)) ∧ ∃ κ' nx', h = (hC D B (sAct (sSl σ p b) p) κ' g, nx') ∧ KR B (sAct (sSl σ p b) p) κ' nx' ∧ nx ≤ nx') := by
  refine jM.of (by decide +kernel) (Nat.le_of_ble_eq_true rfl) rfl ?_
  obtain ⟨hb, h32, h8, hr6, hc6, hq3, hsd, b15, b16⟩ := (ok p hp).1 σ hi
  have b0 := hb 0 p 0
  have b17 := hb 17 p 0
  have b12 := hb 12 p 0
  have b11 := hb 11 p 0
  have hnx : B + 93 ≤ nx := by have := kr.2.2.2.2.1.1; omega
  first | refine j_aload_n d_Re_turnSleep_0 rfl ?_ | refine j_aload_nq d_Re_turnSleep_0 rfl ?_ | refine j_aload_nN d_Re_turnSleep_0 rfl ?_
  refine j_get d_Re_turnSleep_1 f_Re_39 (hC_p hp (by decide)) rfl ?_
  first | refine c_if_ne (t := 15) d_Re_turnSleep_4 (by decide) (fun c4 => ?_) (fun c4 => ?_) | refine n_if_ne (t := 15) d_Re_turnSleep_4 (by decide) (by omega) (fun c4 => ?_) (fun c4 => ?_) | refine j_if_ne (t := 15) d_Re_turnSleep_4 (by decide) (fun c4 => ?_) (fun c4 => ?_)
  · exfalso
    exact c4 h.1
  · first | refine j_aload_n d_Re_turnSleep_7 rfl ?_ | refine j_aload_nq d_Re_turnSleep_7 rfl ?_ | refine j_aload_nN d_Re_turnSleep_7 rfl ?_
    refine j_get d_Re_turnSleep_8 f_Re_106 (hC_p hp (by decide)) rfl ?_
    refine j_iload_n d_Re_turnSleep_11 rfl ?_
    first | refine nn_icmp_ne (t := 17) d_Re_turnSleep_12 (by decide) (by omega) (by omega) (fun c12 => ?_) (fun c12 => ?_) | refine mm_icmp_ne (t := 17) d_Re_turnSleep_12 (by decide) (by omega) (by omega) (fun c12 => ?_) (fun c12 => ?_) | refine mn_icmp_ne (t := 17) d_Re_turnSleep_12 (by decide) (by omega) (by omega) (fun c12 => ?_) (fun c12 => ?_) | refine nm_icmp_ne (t := 17) d_Re_turnSleep_12 (by decide) (by omega) (by omega) (fun c12 => ?_) (fun c12 => ?_) | refine j_icmp_ne (t := 17) d_Re_turnSleep_12 (by decide) (fun c12 => ?_) (fun c12 => ?_)
    · first | refine j_aload_n d_Re_turnSleep_17 rfl ?_ | refine j_aload_nq d_Re_turnSleep_17 rfl ?_ | refine j_aload_nN d_Re_turnSleep_17 rfl ?_
      refine j_iload_n d_Re_turnSleep_18 rfl ?_
      refine j_put d_Re_turnSleep_19 p_Re_106 (hC_p hp (by decide)) (bn _ hb2) (by first | rfl | exact bf _ hb2) (Nat.le_of_ble_eq_true rfl) (J.hq (w17 hp) ?_)
      rw [show sS σ = sS (sSl σ p b) from (sS_U (by decide)).symm]
      first | refine j_aload_n d_Re_turnSleep_22 rfl ?_ | refine j_aload_nq d_Re_turnSleep_22 rfl ?_ | refine j_aload_nN d_Re_turnSleep_22 rfl ?_
      refine j_callV1 (As := []) G0_good G0_E d_Re_turnSleep_23 c_Re_77 rfl rfl (t_Re_act (σ := sSl σ p b) hp ok hi' (KR_cgr kr (fun f hf => U_ne (by omega)))) (hC_p hp (by decide)) rfl rfl (by decide) (Nat.le_of_ble_eq_true rfl) ?_
      rintro _ _ ⟨rfl, κ', nx', rfl, kr', hle⟩
      refine j_iconst (v := nI 1) d_Re_turnSleep_26 (by decide +kernel) ?_
      exact j_zret d_Re_turnSleep_27 rfl (by decide +kernel) ⟨rfl, κ', nx', rfl, kr', by omega⟩
    · exfalso
      exact h.2 c12

def cT (σ : Sg) (p : Nat) : Prop := awake σ p ∧ (σ 12 p 0 = 0 ∨ (σ 12 p 0 = 1 ∧ 3 ≤ ca σ p 1 (σ 11 p 0) 4) ∨ (σ 12 p 0 = 2 ∧ 3 ≤ ca σ p 2 (σ 11 p 0) 4 ∧ σ 11 p 0 < 5))

set_option maxHeartbeats 4000000 in
set_option maxRecDepth 100000 in
theorem t_Re_lose_f {l : Launch} {D : va_G} {B nx : Nat} {σ : Sg} {κ : Kp} {g : Nat → Option va_E} {p : Nat} (hp : p < 8) {I : Sg → Prop} {mu : Nat → Sg → Nat} (ok : OkI I mu) (hi : I σ) (kr : KR B σ κ nx) (h : ¬ cT σ p) : jM (G0 l D) m_Re_losePatience 3 0 0 [.ref (aP B p + 3)] (hC D B σ κ g, nx) (fun v h => v = some (.int (nI 0)) ∧ h = (hC D B σ κ g, nx)) := by
  refine jM.of (by decide +kernel) (Nat.le_of_ble_eq_true rfl) rfl ?_
  obtain ⟨hb, h32, h8, hr6, hc6, hq3, hsd, b15, b16⟩ := (ok p hp).1 σ hi
  have b0 := hb 0 p 0
  have b17 := hb 17 p 0
  have b12 := hb 12 p 0
  have b11 := hb 11 p 0
  have hnx : B + 93 ≤ nx := by have := kr.2.2.2.2.1.1; omega
  first | refine j_aload_n d_Re_losePatience_0 rfl ?_ | refine j_aload_nq d_Re_losePatience_0 rfl ?_ | refine j_aload_nN d_Re_losePatience_0 rfl ?_
  refine j_callV0 (As := []) G0_good G0_E d_Re_losePatience_1 c_Re_55 rfl rfl (t_Re_isIdle hp hb) (hC_p hp (by decide)) rfl rfl (by decide) (Nat.le_of_ble_eq_true rfl) ?_
  rintro _ _ ⟨rfl, rfl⟩
  first | refine c_if_eq (t := 9) d_Re_losePatience_4 (by decide) (fun c4 => ?_) (fun c4 => ?_) | refine n_if_eq (t := 9) d_Re_losePatience_4 (by decide) (by omega) (fun c4 => ?_) (fun c4 => ?_) | refine j_if_eq (t := 9) d_Re_losePatience_4 (by decide) (fun c4 => ?_) (fun c4 => ?_)
  · first | refine j_aload_n d_Re_losePatience_9 rfl ?_ | refine j_aload_nq d_Re_losePatience_9 rfl ?_ | refine j_aload_nN d_Re_losePatience_9 rfl ?_
    refine j_get d_Re_losePatience_10 f_Re_87 (hC_p hp (by decide)) rfl ?_
    first | refine c_if_ne (t := 24) d_Re_losePatience_13 (by decide) (fun c13 => ?_) (fun c13 => ?_) | refine n_if_ne (t := 24) d_Re_losePatience_13 (by decide) (by omega) (fun c13 => ?_) (fun c13 => ?_) | refine j_if_ne (t := 24) d_Re_losePatience_13 (by decide) (fun c13 => ?_) (fun c13 => ?_)
    · first | refine j_aload_n d_Re_losePatience_24 rfl ?_ | refine j_aload_nq d_Re_losePatience_24 rfl ?_ | refine j_aload_nN d_Re_losePatience_24 rfl ?_
      refine j_get d_Re_losePatience_25 f_Re_87 (hC_p hp (by decide)) rfl ?_
      refine j_iconst (v := nI 1) d_Re_losePatience_28 (by decide +kernel) ?_
      first | refine nn_icmp_ne (t := 55) d_Re_losePatience_29 (by decide) (by omega) (by omega) (fun c29 => ?_) (fun c29 => ?_) | refine mm_icmp_ne (t := 55) d_Re_losePatience_29 (by decide) (by omega) (by omega) (fun c29 => ?_) (fun c29 => ?_) | refine mn_icmp_ne (t := 55) d_Re_losePatience_29 (by decide) (by omega) (by omega) (fun c29 => ?_) (fun c29 => ?_) | refine nm_icmp_ne (t := 55) d_Re_losePatience_29 (by decide) (by omega) (by omega) (fun c29 => ?_) (fun c29 => ?_) | refine j_icmp_ne (t := 55) d_Re_losePatience_29 (by decide) (fun c29 => ?_) (fun c29 => ?_)
      · first | refine j_aload_n d_Re_losePatience_55 rfl ?_ | refine j_aload_nq d_Re_losePatience_55 rfl ?_ | refine j_aload_nN d_Re_losePatience_55 rfl ?_
        refine j_get d_Re_losePatience_56 f_Re_87 (hC_p hp (by decide)) rfl ?_
        refine j_iconst (v := nI 2) d_Re_losePatience_59 (by decide +kernel) ?_
        first | refine nn_icmp_ne (t := 99) d_Re_losePatience_60 (by decide) (by omega) (by omega) (fun c60 => ?_) (fun c60 => ?_) | refine mm_icmp_ne (t := 99) d_Re_losePatience_60 (by decide) (by omega) (by omega) (fun c60 => ?_) (fun c60 => ?_) | refine mn_icmp_ne (t := 99) d_Re_losePatience_60 (by decide) (by omega) (by omega) (fun c60 => ?_) (fun c60 => ?_) | refine nm_icmp_ne (t := 99) d_Re_losePatience_60 (by decide) (by omega) (by omega) (fun c60 => ?_) (fun c60 => ?_) | refine j_icmp_ne (t := 99) d_Re_losePatience_60 (by decide) (fun c60 => ?_) (fun c60 => ?_)
        · refine j_iconst (v := nI 0) d_Re_losePatience_99 (by decide +kernel) ?_
          exact j_zret d_Re_losePatience_100 rfl (by decide +kernel) ⟨rfl, rfl⟩
        · first | refine j_aload_n d_Re_losePatience_63 rfl ?_ | refine j_aload_nq d_Re_losePatience_63 rfl ?_ | refine j_aload_nN d_Re_losePatience_63 rfl ?_
          refine j_get d_Re_losePatience_64 f_Re_12 (hC_p hp (by decide)) rfl ?_
          refine j_iconst (v := nI 2) d_Re_losePatience_67 (by decide +kernel) ?_
          first | refine j_aload_n d_Re_losePatience_68 rfl ?_ | refine j_aload_nq d_Re_losePatience_68 rfl ?_ | refine j_aload_nN d_Re_losePatience_68 rfl ?_
          refine j_get d_Re_losePatience_69 f_Re_93 (hC_p hp (by decide)) rfl ?_
          refine j_callV0 (As := [_, _]) G0_good G0_E d_Re_losePatience_72 c_Re_96 rfl rfl (t_In_hasQuorumOfAny hp hb kr 2 (σ 11 p 0) (by decide) hr6) (hC_p hp (by decide)) rfl rfl (by decide) (Nat.le_of_ble_eq_true rfl) ?_
          rintro _ _ ⟨rfl, rfl⟩
          first | refine c_if_eq (t := 99) d_Re_losePatience_75 (by decide) (fun c75 => ?_) (fun c75 => ?_) | refine n_if_eq (t := 99) d_Re_losePatience_75 (by decide) (by omega) (fun c75 => ?_) (fun c75 => ?_) | refine j_if_eq (t := 99) d_Re_losePatience_75 (by decide) (fun c75 => ?_) (fun c75 => ?_)
          · refine j_iconst (v := nI 0) d_Re_losePatience_99 (by decide +kernel) ?_
            exact j_zret d_Re_losePatience_100 rfl (by decide +kernel) ⟨rfl, rfl⟩
          · first | refine j_aload_n d_Re_losePatience_78 rfl ?_ | refine j_aload_nq d_Re_losePatience_78 rfl ?_ | refine j_aload_nN d_Re_losePatience_78 rfl ?_
            refine j_get d_Re_losePatience_79 f_Re_93 (hC_p hp (by decide)) rfl ?_
            refine j_iconst (v := nI 5) d_Re_losePatience_82 (by decide +kernel) ?_
            first | refine nn_icmp_ge (t := 99) d_Re_losePatience_83 (by decide) (by omega) (by omega) (fun c83 => ?_) (fun c83 => ?_) | refine mm_icmp_ge (t := 99) d_Re_losePatience_83 (by decide) (by omega) (by omega) (fun c83 => ?_) (fun c83 => ?_) | refine mn_icmp_ge (t := 99) d_Re_losePatience_83 (by decide) (by omega) (by omega) (fun c83 => ?_) (fun c83 => ?_) | refine nm_icmp_ge (t := 99) d_Re_losePatience_83 (by decide) (by omega) (by omega) (fun c83 => ?_) (fun c83 => ?_) | refine j_icmp_ge (t := 99) d_Re_losePatience_83 (by decide) (fun c83 => ?_) (fun c83 => ?_)
            · refine j_iconst (v := nI 0) d_Re_losePatience_99 (by decide +kernel) ?_
              exact j_zret d_Re_losePatience_100 rfl (by decide +kernel) ⟨rfl, rfl⟩
            · exact absurd ⟨⟨by omega, by omega⟩, Or.inr (Or.inr ⟨c60, c75, by omega⟩)⟩ h
      · first | refine j_aload_n d_Re_losePatience_32 rfl ?_ | refine j_aload_nq d_Re_losePatience_32 rfl ?_ | refine j_aload_nN d_Re_losePatience_32 rfl ?_
        refine j_get d_Re_losePatience_33 f_Re_12 (hC_p hp (by decide)) rfl ?_
        refine j_iconst (v := nI 1) d_Re_losePatience_36 (by decide +kernel) ?_
        first | refine j_aload_n d_Re_losePatience_37 rfl ?_ | refine j_aload_nq d_Re_losePatience_37 rfl ?_ | refine j_aload_nN d_Re_losePatience_37 rfl ?_
        refine j_get d_Re_losePatience_38 f_Re_93 (hC_p hp (by decide)) rfl ?_
        refine j_callV0 (As := [_, _]) G0_good G0_E d_Re_losePatience_41 c_Re_96 rfl rfl (t_In_hasQuorumOfAny hp hb kr 1 (σ 11 p 0) (by decide) hr6) (hC_p hp (by decide)) rfl rfl (by decide) (Nat.le_of_ble_eq_true rfl) ?_
        rintro _ _ ⟨rfl, rfl⟩
        first | refine c_if_eq (t := 55) d_Re_losePatience_44 (by decide) (fun c44 => ?_) (fun c44 => ?_) | refine n_if_eq (t := 55) d_Re_losePatience_44 (by decide) (by omega) (fun c44 => ?_) (fun c44 => ?_) | refine j_if_eq (t := 55) d_Re_losePatience_44 (by decide) (fun c44 => ?_) (fun c44 => ?_)
        · first | refine j_aload_n d_Re_losePatience_55 rfl ?_ | refine j_aload_nq d_Re_losePatience_55 rfl ?_ | refine j_aload_nN d_Re_losePatience_55 rfl ?_
          refine j_get d_Re_losePatience_56 f_Re_87 (hC_p hp (by decide)) rfl ?_
          refine j_iconst (v := nI 2) d_Re_losePatience_59 (by decide +kernel) ?_
          first | refine nn_icmp_ne (t := 99) d_Re_losePatience_60 (by decide) (by omega) (by omega) (fun c60 => ?_) (fun c60 => ?_) | refine mm_icmp_ne (t := 99) d_Re_losePatience_60 (by decide) (by omega) (by omega) (fun c60 => ?_) (fun c60 => ?_) | refine mn_icmp_ne (t := 99) d_Re_losePatience_60 (by decide) (by omega) (by omega) (fun c60 => ?_) (fun c60 => ?_) | refine nm_icmp_ne (t := 99) d_Re_losePatience_60 (by decide) (by omega) (by omega) (fun c60 => ?_) (fun c60 => ?_) | refine j_icmp_ne (t := 99) d_Re_losePatience_60 (by decide) (fun c60 => ?_) (fun c60 => ?_)
          · refine j_iconst (v := nI 0) d_Re_losePatience_99 (by decide +kernel) ?_
            exact j_zret d_Re_losePatience_100 rfl (by decide +kernel) ⟨rfl, rfl⟩
          · first | refine j_aload_n d_Re_losePatience_63 rfl ?_ | refine j_aload_nq d_Re_losePatience_63 rfl ?_ | refine j_aload_nN d_Re_losePatience_63 rfl ?_
            refine j_get d_Re_losePatience_64 f_Re_12 (hC_p hp (by decide)) rfl ?_
            refine j_iconst (v := nI 2) d_Re_losePatience_67 (by decide +kernel) ?_
            first | refine j_aload_n d_Re_losePatience_68 rfl ?_ | refine j_aload_nq d_Re_losePatience_68 rfl ?_ | refine j_aload_nN d_Re_losePatience_68 rfl ?_
            refine j_get d_Re_losePatience_69 f_Re_93 (hC_p hp (by decide)) rfl ?_
            refine j_callV0 (As := [_, _]) G0_good G0_E d_Re_losePatience_72 c_Re_96 rfl rfl (t_In_hasQuorumOfAny hp hb kr 2 (σ 11 p 0) (by decide) hr6) (hC_p hp (by decide)) rfl rfl (by decide) (Nat.le_of_ble_eq_true rfl) ?_
            rintro _ _ ⟨rfl, rfl⟩
            first | refine c_if_eq (t := 99) d_Re_losePatience_75 (by decide) (fun c75 => ?_) (fun c75 => ?_) | refine n_if_eq (t := 99) d_Re_losePatience_75 (by decide) (by omega) (fun c75 => ?_) (fun c75 => ?_) | refine j_if_eq (t := 99) d_Re_losePatience_75 (by decide) (fun c75 => ?_) (fun c75 => ?_)
            · refine j_iconst (v := nI 0) d_Re_losePatience_99 (by decide +kernel) ?_
              exact j_zret d_Re_losePatience_100 rfl (by decide +kernel) ⟨rfl, rfl⟩
            · first | refine j_aload_n d_Re_losePatience_78 rfl ?_ | refine j_aload_nq d_Re_losePatience_78 rfl ?_ | refine j_aload_nN d_Re_losePatience_78 rfl ?_
              refine j_get d_Re_losePatience_79 f_Re_93 (hC_p hp (by decide)) rfl ?_
              refine j_iconst (v := nI 5) d_Re_losePatience_82 (by decide +kernel) ?_
              first | refine nn_icmp_ge (t := 99) d_Re_losePatience_83 (by decide) (by omega) (by omega) (fun c83 => ?_) (fun c83 => ?_) | refine mm_icmp_ge (t := 99) d_Re_losePatience_83 (by decide) (by omega) (by omega) (fun c83 => ?_) (fun c83 => ?_) | refine mn_icmp_ge (t := 99) d_Re_losePatience_83 (by decide) (by omega) (by omega) (fun c83 => ?_) (fun c83 => ?_) | refine nm_icmp_ge (t := 99) d_Re_losePatience_83 (by decide) (by omega) (by omega) (fun c83 => ?_) (fun c83 => ?_) | refine j_icmp_ge (t := 99) d_Re_losePatience_83 (by decide) (fun c83 => ?_) (fun c83 => ?_)
              · refine j_iconst (v := nI 0) d_Re_losePatience_99 (by decide +kernel) ?_
                exact j_zret d_Re_losePatience_100 rfl (by decide +kernel) ⟨rfl, rfl⟩
              · exact absurd ⟨⟨by omega, by omega⟩, Or.inr (Or.inr ⟨c60, c75, by omega⟩)⟩ h
        · exact absurd ⟨⟨by omega, by omega⟩, Or.inr (Or.inl ⟨c29, c44⟩)⟩ h
    · exact absurd ⟨⟨by omega, by omega⟩, Or.inl c13⟩ h
  · refine j_iconst (v := nI 0) d_Re_losePatience_7 (by decide +kernel) ?_
    exact j_zret d_Re_losePatience_8 rfl (by decide +kernel) ⟨rfl, rfl⟩

set_option maxHeartbeats 4000000 in
set_option maxRecDepth 100000 in
theorem t_Re_lose_0 {l : Launch} {D : va_G} {B nx : Nat} {σ : Sg} {κ : Kp} {g : Nat → Option va_E} {p : Nat} (hp : p < 8) {I : Sg → Prop} {mu : Nat → Sg → Nat} (ok : OkI I mu) (hi : I σ) (kr : KR B σ κ nx) (haw : awake σ p) (h : σ 12 p 0 = 0) (hi' : I (k0 σ p)) (h918 : σ 20 (p / 4) 0 < 918) : jM (G0 l D) m_Re_losePatience 6 (sS (sAct (k0 σ p) p) - sS σ) (7 * (sS (sAct (k0 σ p) p) - sS σ)) [.ref (aP B p + 3)] (hC D B σ κ g, nx) (fun v h => v = some (.int (nI 1)) ∧ ∃ κ' nx', h = (hC D B (sAct (k0 σ p) p) κ' g, nx') ∧ KR B (sAct (k0 σ p) p) κ' nx' ∧ nx ≤ nx') := by
  refine jM.of (by decide +kernel) (Nat.le_of_ble_eq_true rfl) rfl ?_
  obtain ⟨hb, h32, h8, hr6, hc6, hq3, hsd, b15, b16⟩ := (ok p hp).1 σ hi
  have b0 := hb 0 p 0
  have b17 := hb 17 p 0
  have b12 := hb 12 p 0
  have b11 := hb 11 p 0
  have hnx : B + 93 ≤ nx := by have := kr.2.2.2.2.1.1; omega
  have q0 := haw.1
  have q17 := haw.2
  have hmo := sS_act (σ := k0 σ p) hp
  have hss : sS (k0 σ p) = sS σ + 1 := by unfold k0; rw [sS_U (by decide), sS_send hp]
  rw [show sS (sAct (k0 σ p) p) - sS σ = 1 + (sS (sAct (k0 σ p) p) - sS (k0 σ p)) by omega, Nat.mul_add]
  first | refine j_aload_n d_Re_losePatience_0 rfl ?_ | refine j_aload_nq d_Re_losePatience_0 rfl ?_ | refine j_aload_nN d_Re_losePatience_0 rfl ?_
  refine j_callV0 (As := []) G0_good G0_E d_Re_losePatience_1 c_Re_55 rfl rfl (t_Re_isIdle hp hb) (hC_p hp (by decide)) rfl rfl (by decide) (Nat.le_of_ble_eq_true rfl) ?_
  rintro _ _ ⟨rfl, rfl⟩
  first | refine c_if_eq (t := 9) d_Re_losePatience_4 (by decide) (fun c4 => ?_) (fun c4 => ?_) | refine n_if_eq (t := 9) d_Re_losePatience_4 (by decide) (by omega) (fun c4 => ?_) (fun c4 => ?_) | refine j_if_eq (t := 9) d_Re_losePatience_4 (by decide) (fun c4 => ?_) (fun c4 => ?_)
  · first | refine j_aload_n d_Re_losePatience_9 rfl ?_ | refine j_aload_nq d_Re_losePatience_9 rfl ?_ | refine j_aload_nN d_Re_losePatience_9 rfl ?_
    refine j_get d_Re_losePatience_10 f_Re_87 (hC_p hp (by decide)) rfl ?_
    first | refine c_if_ne (t := 24) d_Re_losePatience_13 (by decide) (fun c13 => ?_) (fun c13 => ?_) | refine n_if_ne (t := 24) d_Re_losePatience_13 (by decide) (by omega) (fun c13 => ?_) (fun c13 => ?_) | refine j_if_ne (t := 24) d_Re_losePatience_13 (by decide) (fun c13 => ?_) (fun c13 => ?_)
    · exfalso; first | exact c13 | omega
    · first | refine j_aload_n d_Re_losePatience_16 rfl ?_ | refine j_aload_nq d_Re_losePatience_16 rfl ?_ | refine j_aload_nN d_Re_losePatience_16 rfl ?_
      refine j_iconst (v := mI 0) d_Re_losePatience_17 (by decide +kernel) ?_
      refine j_callV (As := [_]) G0_good G0_E d_Re_losePatience_18 c_Re_90 rfl rfl (t_Re_sendVote hp hb hnx h918 hr6 0) (hC_p hp (by decide)) rfl rfl (by decide) (Nat.le_of_ble_eq_true rfl) ?_
      rintro _ _ ⟨rfl, rfl⟩
      refine j_goto (t := 101) d_Re_losePatience_21 (by decide) ?_
      first | refine j_aload_n d_Re_losePatience_101 rfl ?_ | refine j_aload_nq d_Re_losePatience_101 rfl ?_ | refine j_aload_nN d_Re_losePatience_101 rfl ?_
      refine j_callV1 (As := []) G0_good G0_E d_Re_losePatience_102 c_Re_77 rfl rfl (t_Re_act (σ := k0 σ p) hp ok hi' (KR_cgr (σ' := k0 σ p) (KR_send kr hb hp (by decide) hr6 (by decide) (by decide)) (fun f hf => by unfold k0; rw [U_ne (by omega)]))) (hC_p hp (by decide)) rfl rfl (by decide) (Nat.le_of_ble_eq_true rfl) ?_
      rintro _ _ ⟨rfl, κ', nx', rfl, kr', hle⟩
      refine j_iconst (v := nI 1) d_Re_losePatience_105 (by decide +kernel) ?_
      exact j_zret d_Re_losePatience_106 rfl (by decide +kernel) ⟨rfl, κ', nx', rfl, kr', by omega⟩
  · exfalso; first | exact c4 | omega

set_option maxHeartbeats 4000000 in
set_option maxRecDepth 100000 in
theorem t_Re_lose_1 {l : Launch} {D : va_G} {B nx : Nat} {σ : Sg} {κ : Kp} {g : Nat → Option va_E} {p : Nat} (hp : p < 8) {I : Sg → Prop} {mu : Nat → Sg → Nat} (ok : OkI I mu) (hi : I σ) (kr : KR B σ κ nx) (haw : awake σ p) (h : σ 12 p 0 = 1) (h3 : 3 ≤ ca σ p 1 (σ 11 p 0) 4) (hi' : I (k1 σ p)) (h918 : σ 20 (p / 4) 0 < 918) : jM (G0 l D) m_Re_losePatience 6 (sS (sAct (k1 σ p) p) - sS σ) (7 * (sS (sAct (k1 σ p) p) - sS σ)) [.ref (aP B p + 3)] (hC D B σ κ g, nx) (fun v h => v = some (.int (nI 1)) ∧ ∃ κ' nx', h = (hC D B (sAct (k1 σ p) p) κ' g, nx') ∧ KR B (sAct (k1 σ p) p) κ' nx' ∧ nx ≤ nx') := by
  refine jM.of (by decide +kernel) (Nat.le_of_ble_eq_true rfl) rfl ?_
  obtain ⟨hb, h32, h8, hr6, hc6, hq3, hsd, b15, b16⟩ := (ok p hp).1 σ hi
  have b0 := hb 0 p 0
  have b17 := hb 17 p 0
  have b12 := hb 12 p 0
  have b11 := hb 11 p 0
  have hnx : B + 93 ≤ nx := by have := kr.2.2.2.2.1.1; omega
  have q0 := haw.1
  have q17 := haw.2
  have hmo := sS_act (σ := k1 σ p) hp
  have hss : sS (k1 σ p) = sS σ + 1 := by unfold k1; rw [sS_U (by decide), sS_send hp]
  rw [show sS (sAct (k1 σ p) p) - sS σ = 1 + (sS (sAct (k1 σ p) p) - sS (k1 σ p)) by omega, Nat.mul_add]
  first | refine j_aload_n d_Re_losePatience_0 rfl ?_ | refine j_aload_nq d_Re_losePatience_0 rfl ?_ | refine j_aload_nN d_Re_losePatience_0 rfl ?_
  refine j_callV0 (As := []) G0_good G0_E d_Re_losePatience_1 c_Re_55 rfl rfl (t_Re_isIdle hp hb) (hC_p hp (by decide)) rfl rfl (by decide) (Nat.le_of_ble_eq_true rfl) ?_
  rintro _ _ ⟨rfl, rfl⟩
  first | refine c_if_eq (t := 9) d_Re_losePatience_4 (by decide) (fun c4 => ?_) (fun c4 => ?_) | refine n_if_eq (t := 9) d_Re_losePatience_4 (by decide) (by omega) (fun c4 => ?_) (fun c4 => ?_) | refine j_if_eq (t := 9) d_Re_losePatience_4 (by decide) (fun c4 => ?_) (fun c4 => ?_)
  · first | refine j_aload_n d_Re_losePatience_9 rfl ?_ | refine j_aload_nq d_Re_losePatience_9 rfl ?_ | refine j_aload_nN d_Re_losePatience_9 rfl ?_
    refine j_get d_Re_losePatience_10 f_Re_87 (hC_p hp (by decide)) rfl ?_
    first | refine c_if_ne (t := 24) d_Re_losePatience_13 (by decide) (fun c13 => ?_) (fun c13 => ?_) | refine n_if_ne (t := 24) d_Re_losePatience_13 (by decide) (by omega) (fun c13 => ?_) (fun c13 => ?_) | refine j_if_ne (t := 24) d_Re_losePatience_13 (by decide) (fun c13 => ?_) (fun c13 => ?_)
    · first | refine j_aload_n d_Re_losePatience_24 rfl ?_ | refine j_aload_nq d_Re_losePatience_24 rfl ?_ | refine j_aload_nN d_Re_losePatience_24 rfl ?_
      refine j_get d_Re_losePatience_25 f_Re_87 (hC_p hp (by decide)) rfl ?_
      refine j_iconst (v := nI 1) d_Re_losePatience_28 (by decide +kernel) ?_
      first | refine nn_icmp_ne (t := 55) d_Re_losePatience_29 (by decide) (by omega) (by omega) (fun c29 => ?_) (fun c29 => ?_) | refine mm_icmp_ne (t := 55) d_Re_losePatience_29 (by decide) (by omega) (by omega) (fun c29 => ?_) (fun c29 => ?_) | refine mn_icmp_ne (t := 55) d_Re_losePatience_29 (by decide) (by omega) (by omega) (fun c29 => ?_) (fun c29 => ?_) | refine nm_icmp_ne (t := 55) d_Re_losePatience_29 (by decide) (by omega) (by omega) (fun c29 => ?_) (fun c29 => ?_) | refine j_icmp_ne (t := 55) d_Re_losePatience_29 (by decide) (fun c29 => ?_) (fun c29 => ?_)
      · exfalso; first | exact c29 | omega
      · first | refine j_aload_n d_Re_losePatience_32 rfl ?_ | refine j_aload_nq d_Re_losePatience_32 rfl ?_ | refine j_aload_nN d_Re_losePatience_32 rfl ?_
        refine j_get d_Re_losePatience_33 f_Re_12 (hC_p hp (by decide)) rfl ?_
        refine j_iconst (v := nI 1) d_Re_losePatience_36 (by decide +kernel) ?_
        first | refine j_aload_n d_Re_losePatience_37 rfl ?_ | refine j_aload_nq d_Re_losePatience_37 rfl ?_ | refine j_aload_nN d_Re_losePatience_37 rfl ?_
        refine j_get d_Re_losePatience_38 f_Re_93 (hC_p hp (by decide)) rfl ?_
        refine j_callV0 (As := [_, _]) G0_good G0_E d_Re_losePatience_41 c_Re_96 rfl rfl (t_In_hasQuorumOfAny hp hb kr 1 (σ 11 p 0) (by decide) hr6) (hC_p hp (by decide)) rfl rfl (by decide) (Nat.le_of_ble_eq_true rfl) ?_
        rintro _ _ ⟨rfl, rfl⟩
        first | refine c_if_eq (t := 55) d_Re_losePatience_44 (by decide) (fun c44 => ?_) (fun c44 => ?_) | refine n_if_eq (t := 55) d_Re_losePatience_44 (by decide) (by omega) (fun c44 => ?_) (fun c44 => ?_) | refine j_if_eq (t := 55) d_Re_losePatience_44 (by decide) (fun c44 => ?_) (fun c44 => ?_)
        · exact absurd h3 c44
        · first | refine j_aload_n d_Re_losePatience_47 rfl ?_ | refine j_aload_nq d_Re_losePatience_47 rfl ?_ | refine j_aload_nN d_Re_losePatience_47 rfl ?_
          refine j_iconst (v := mI 0) d_Re_losePatience_48 (by decide +kernel) ?_
          refine j_callV (As := [_]) G0_good G0_E d_Re_losePatience_49 c_Re_100 rfl rfl (t_Re_sendSeal hp hb hnx h918 hr6 0) (hC_p hp (by decide)) rfl rfl (by decide) (Nat.le_of_ble_eq_true rfl) ?_
          rintro _ _ ⟨rfl, rfl⟩
          refine j_goto (t := 101) d_Re_losePatience_52 (by decide) ?_
          first | refine j_aload_n d_Re_losePatience_101 rfl ?_ | refine j_aload_nq d_Re_losePatience_101 rfl ?_ | refine j_aload_nN d_Re_losePatience_101 rfl ?_
          refine j_callV1 (As := []) G0_good G0_E d_Re_losePatience_102 c_Re_77 rfl rfl (t_Re_act (σ := k1 σ p) hp ok hi' (KR_cgr (σ' := k1 σ p) (KR_send kr hb hp (by decide) hr6 (by decide) (by decide)) (fun f hf => by unfold k1; rw [U_ne (by omega)]))) (hC_p hp (by decide)) rfl rfl (by decide) (Nat.le_of_ble_eq_true rfl) ?_
          rintro _ _ ⟨rfl, κ', nx', rfl, kr', hle⟩
          refine j_iconst (v := nI 1) d_Re_losePatience_105 (by decide +kernel) ?_
          exact j_zret d_Re_losePatience_106 rfl (by decide +kernel) ⟨rfl, κ', nx', rfl, kr', by omega⟩
    · exfalso; first | exact c13 | omega
  · exfalso; first | exact c4 | omega

set_option maxHeartbeats 4000000 in
set_option maxRecDepth 100000 in
theorem t_Re_lose_2 {l : Launch} {D : va_G} {B nx : Nat} {σ : Sg} {κ : Kp} {g : Nat → Option va_E} {p : Nat} (hp : p < 8) {I : Sg → Prop} {mu : Nat → Sg → Nat} (ok : OkI I mu) (hi : I σ) (kr : KR B σ κ nx) (haw : awake σ p) (h : σ 12 p 0 = 2) (h3 : 3 ≤ ca σ p 2 (σ 11 p 0) 4) (h5 : σ 11 p 0 < 5) (hi' : I (k2 σ p)) : jM (G0 l D) m_Re_losePatience 6 (sS (sAct (k2 σ p) p) - sS σ) (7 * (sS (sAct (k2 σ p) p) - sS σ)) [.ref (aP B p + 3)] (hC D B σ κ g, nx) (fun v h => v = some (.int (nI 1)) ∧ ∃ κ' nx', h = (hC D B (sAct (k2 σ p) p) κ' g, nx') ∧ KR B (sAct (k2 σ p) p) κ' nx' ∧ nx ≤ nx') := by
  refine jM.of (by decide +kernel) (Nat.le_of_ble_eq_true rfl) rfl ?_
  obtain ⟨hb, h32, h8, hr6, hc6, hq3, hsd, b15, b16⟩ := (ok p hp).1 σ hi
  have b0 := hb 0 p 0
  have b17 := hb 17 p 0
  have b12 := hb 12 p 0
  have b11 := hb 11 p 0
  have hnx : B + 93 ≤ nx := by have := kr.2.2.2.2.1.1; omega
  have q0 := haw.1
  have q17 := haw.2
  rw [show sS σ = sS (k2 σ p) from by unfold k2; rw [sS_U (by decide), sS_U (by decide)]]
  first | refine j_aload_n d_Re_losePatience_0 rfl ?_ | refine j_aload_nq d_Re_losePatience_0 rfl ?_ | refine j_aload_nN d_Re_losePatience_0 rfl ?_
  refine j_callV0 (As := []) G0_good G0_E d_Re_losePatience_1 c_Re_55 rfl rfl (t_Re_isIdle hp hb) (hC_p hp (by decide)) rfl rfl (by decide) (Nat.le_of_ble_eq_true rfl) ?_
  rintro _ _ ⟨rfl, rfl⟩
  first | refine c_if_eq (t := 9) d_Re_losePatience_4 (by decide) (fun c4 => ?_) (fun c4 => ?_) | refine n_if_eq (t := 9) d_Re_losePatience_4 (by decide) (by omega) (fun c4 => ?_) (fun c4 => ?_) | refine j_if_eq (t := 9) d_Re_losePatience_4 (by decide) (fun c4 => ?_) (fun c4 => ?_)
  · first | refine j_aload_n d_Re_losePatience_9 rfl ?_ | refine j_aload_nq d_Re_losePatience_9 rfl ?_ | refine j_aload_nN d_Re_losePatience_9 rfl ?_
    refine j_get d_Re_losePatience_10 f_Re_87 (hC_p hp (by decide)) rfl ?_
    first | refine c_if_ne (t := 24) d_Re_losePatience_13 (by decide) (fun c13 => ?_) (fun c13 => ?_) | refine n_if_ne (t := 24) d_Re_losePatience_13 (by decide) (by omega) (fun c13 => ?_) (fun c13 => ?_) | refine j_if_ne (t := 24) d_Re_losePatience_13 (by decide) (fun c13 => ?_) (fun c13 => ?_)
    · first | refine j_aload_n d_Re_losePatience_24 rfl ?_ | refine j_aload_nq d_Re_losePatience_24 rfl ?_ | refine j_aload_nN d_Re_losePatience_24 rfl ?_
      refine j_get d_Re_losePatience_25 f_Re_87 (hC_p hp (by decide)) rfl ?_
      refine j_iconst (v := nI 1) d_Re_losePatience_28 (by decide +kernel) ?_
      first | refine nn_icmp_ne (t := 55) d_Re_losePatience_29 (by decide) (by omega) (by omega) (fun c29 => ?_) (fun c29 => ?_) | refine mm_icmp_ne (t := 55) d_Re_losePatience_29 (by decide) (by omega) (by omega) (fun c29 => ?_) (fun c29 => ?_) | refine mn_icmp_ne (t := 55) d_Re_losePatience_29 (by decide) (by omega) (by omega) (fun c29 => ?_) (fun c29 => ?_) | refine nm_icmp_ne (t := 55) d_Re_losePatience_29 (by decide) (by omega) (by omega) (fun c29 => ?_) (fun c29 => ?_) | refine j_icmp_ne (t := 55) d_Re_losePatience_29 (by decide) (fun c29 => ?_) (fun c29 => ?_)
      · first | refine j_aload_n d_Re_losePatience_55 rfl ?_ | refine j_aload_nq d_Re_losePatience_55 rfl ?_ | refine j_aload_nN d_Re_losePatience_55 rfl ?_
        refine j_get d_Re_losePatience_56 f_Re_87 (hC_p hp (by decide)) rfl ?_
        refine j_iconst (v := nI 2) d_Re_losePatience_59 (by decide +kernel) ?_
        first | refine nn_icmp_ne (t := 99) d_Re_losePatience_60 (by decide) (by omega) (by omega) (fun c60 => ?_) (fun c60 => ?_) | refine mm_icmp_ne (t := 99) d_Re_losePatience_60 (by decide) (by omega) (by omega) (fun c60 => ?_) (fun c60 => ?_) | refine mn_icmp_ne (t := 99) d_Re_losePatience_60 (by decide) (by omega) (by omega) (fun c60 => ?_) (fun c60 => ?_) | refine nm_icmp_ne (t := 99) d_Re_losePatience_60 (by decide) (by omega) (by omega) (fun c60 => ?_) (fun c60 => ?_) | refine j_icmp_ne (t := 99) d_Re_losePatience_60 (by decide) (fun c60 => ?_) (fun c60 => ?_)
        · exfalso; first | exact c60 | omega
        · first | refine j_aload_n d_Re_losePatience_63 rfl ?_ | refine j_aload_nq d_Re_losePatience_63 rfl ?_ | refine j_aload_nN d_Re_losePatience_63 rfl ?_
          refine j_get d_Re_losePatience_64 f_Re_12 (hC_p hp (by decide)) rfl ?_
          refine j_iconst (v := nI 2) d_Re_losePatience_67 (by decide +kernel) ?_
          first | refine j_aload_n d_Re_losePatience_68 rfl ?_ | refine j_aload_nq d_Re_losePatience_68 rfl ?_ | refine j_aload_nN d_Re_losePatience_68 rfl ?_
          refine j_get d_Re_losePatience_69 f_Re_93 (hC_p hp (by decide)) rfl ?_
          refine j_callV0 (As := [_, _]) G0_good G0_E d_Re_losePatience_72 c_Re_96 rfl rfl (t_In_hasQuorumOfAny hp hb kr 2 (σ 11 p 0) (by decide) hr6) (hC_p hp (by decide)) rfl rfl (by decide) (Nat.le_of_ble_eq_true rfl) ?_
          rintro _ _ ⟨rfl, rfl⟩
          first | refine c_if_eq (t := 99) d_Re_losePatience_75 (by decide) (fun c75 => ?_) (fun c75 => ?_) | refine n_if_eq (t := 99) d_Re_losePatience_75 (by decide) (by omega) (fun c75 => ?_) (fun c75 => ?_) | refine j_if_eq (t := 99) d_Re_losePatience_75 (by decide) (fun c75 => ?_) (fun c75 => ?_)
          · exact absurd h3 c75
          · first | refine j_aload_n d_Re_losePatience_78 rfl ?_ | refine j_aload_nq d_Re_losePatience_78 rfl ?_ | refine j_aload_nN d_Re_losePatience_78 rfl ?_
            refine j_get d_Re_losePatience_79 f_Re_93 (hC_p hp (by decide)) rfl ?_
            refine j_iconst (v := nI 5) d_Re_losePatience_82 (by decide +kernel) ?_
            first | refine nn_icmp_ge (t := 99) d_Re_losePatience_83 (by decide) (by omega) (by omega) (fun c83 => ?_) (fun c83 => ?_) | refine mm_icmp_ge (t := 99) d_Re_losePatience_83 (by decide) (by omega) (by omega) (fun c83 => ?_) (fun c83 => ?_) | refine mn_icmp_ge (t := 99) d_Re_losePatience_83 (by decide) (by omega) (by omega) (fun c83 => ?_) (fun c83 => ?_) | refine nm_icmp_ge (t := 99) d_Re_losePatience_83 (by decide) (by omega) (by omega) (fun c83 => ?_) (fun c83 => ?_) | refine j_icmp_ge (t := 99) d_Re_losePatience_83 (by decide) (fun c83 => ?_) (fun c83 => ?_)
            · exfalso; first | exact c83 | omega
            · first | refine j_aload_n d_Re_losePatience_86 rfl ?_ | refine j_aload_nq d_Re_losePatience_86 rfl ?_ | refine j_aload_nN d_Re_losePatience_86 rfl ?_
              first | refine j_aload_n d_Re_losePatience_87 rfl ?_ | refine j_aload_nq d_Re_losePatience_87 rfl ?_ | refine j_aload_nN d_Re_losePatience_87 rfl ?_
              refine j_get d_Re_losePatience_88 f_Re_93 (hC_p hp (by decide)) rfl ?_
              refine j_iconst (v := nI 1) d_Re_losePatience_91 (by decide +kernel) ?_
              refine jn_iadd d_Re_losePatience_92 ?_
              refine j_callV0 (As := [_]) G0_good G0_E d_Re_losePatience_93 c_Re_103 rfl rfl (t_Re_enterRound hp (σ 11 p 0 + 1)) (hC_p hp (by decide)) rfl rfl (by decide) (Nat.le_of_ble_eq_true rfl) ?_
              rintro _ _ ⟨rfl, rfl⟩
              refine j_goto (t := 101) d_Re_losePatience_96 (by decide) ?_
              first | refine j_aload_n d_Re_losePatience_101 rfl ?_ | refine j_aload_nq d_Re_losePatience_101 rfl ?_ | refine j_aload_nN d_Re_losePatience_101 rfl ?_
              refine j_callV1 (As := []) G0_good G0_E d_Re_losePatience_102 c_Re_77 rfl rfl (t_Re_act (σ := k2 σ p) hp ok hi' (KR_cgr kr (fun f hf => by unfold k2; rw [U_ne (by omega), U_ne (by omega)]))) (hC_p hp (by decide)) rfl rfl (by decide) (Nat.le_of_ble_eq_true rfl) ?_
              rintro _ _ ⟨rfl, κ', nx', rfl, kr', hle⟩
              refine j_iconst (v := nI 1) d_Re_losePatience_105 (by decide +kernel) ?_
              exact j_zret d_Re_losePatience_106 rfl (by decide +kernel) ⟨rfl, κ', nx', rfl, kr', by omega⟩
      · exfalso; first | exact c29 | omega
    · exfalso; first | exact c13 | omega
  · exfalso; first | exact c4 | omega

set_option maxHeartbeats 4000000 in
set_option maxRecDepth 100000 in
theorem t_Re_believe_f {l : Launch} {D : va_G} {B nx : Nat} {σ : Sg} {κ : Kp} {g : Nat → Option va_E} {p : Nat} (hp : p < 8) {I : Sg → Prop} {mu : Nat → Sg → Nat} (ok : OkI I mu) (hi : I σ) (kr : KR B σ κ nx) (k r x : Nat) (hk : k < 3) (hr : r < 6) (hx : x < 99999) (h : ¬ (awake σ p ∧ σ 29 p (slt k r 3) = 0)) : jM (G0 l D) m_Re_believe 2 0 0 [.ref (aP B p + 3), .int (nI k), .int (nI r), .int (mI x)] (hC D B σ κ g, nx) (fun v h => v = some (.int (nI 0)) ∧ h = (hC D B σ κ g, nx)) := by
  refine jM.of (by decide +kernel) (Nat.le_of_ble_eq_true rfl) rfl ?_
  obtain ⟨hb, h32, h8, hr6, hc6, hq3, hsd, b15, b16⟩ := (ok p hp).1 σ hi
  have b0 := hb 0 p 0
  have b17 := hb 17 p 0
  have b12 := hb 12 p 0
  have b11 := hb 11 p 0
  have hnx : B + 93 ≤ nx := by have := kr.2.2.2.2.1.1; omega
  first | refine j_aload_n d_Re_believe_0 rfl ?_ | refine j_aload_nq d_Re_believe_0 rfl ?_ | refine j_aload_nN d_Re_believe_0 rfl ?_
  refine j_callV0 (As := []) G0_good G0_E d_Re_believe_1 c_Re_55 rfl rfl (t_Re_isIdle hp hb) (hC_p hp (by decide)) rfl rfl (by decide) (Nat.le_of_ble_eq_true rfl) ?_
  rintro _ _ ⟨rfl, rfl⟩
  first | refine c_if_ne (t := 20) d_Re_believe_4 (by decide) (fun c4 => ?_) (fun c4 => ?_) | refine n_if_ne (t := 20) d_Re_believe_4 (by decide) (by omega) (fun c4 => ?_) (fun c4 => ?_) | refine j_if_ne (t := 20) d_Re_believe_4 (by decide) (fun c4 => ?_) (fun c4 => ?_)
  · refine j_iconst (v := nI 0) d_Re_believe_20 (by decide +kernel) ?_
    exact j_zret d_Re_believe_21 rfl (by decide +kernel) ⟨rfl, rfl⟩
  · first | refine j_aload_n d_Re_believe_7 rfl ?_ | refine j_aload_nq d_Re_believe_7 rfl ?_ | refine j_aload_nN d_Re_believe_7 rfl ?_
    refine j_get d_Re_believe_8 f_Re_12 (hC_p hp (by decide)) rfl ?_
    refine j_iload_n d_Re_believe_11 rfl ?_
    refine j_iload_n d_Re_believe_12 rfl ?_
    refine j_iconst (v := nI 3) d_Re_believe_13 (by decide +kernel) ?_
    refine j_callV0 (As := [_, _, _]) G0_good G0_E d_Re_believe_14 c_Re_80 rfl rfl (t_In_find hp k r 3 hk hr (by decide)) (hC_p hp (by decide)) rfl rfl (by decide) (Nat.le_of_ble_eq_true rfl) ?_
    rintro _ _ ⟨rfl, rfl⟩
    refine j_ifnull (t := 22) d_Re_believe_17 (by decide) (fun c17 => ?_) (fun x17 c17 => ?_)
    · exact absurd ⟨⟨by omega, by omega⟩, (kr.1 p _ hp (slt_lt hk hr (by decide))).mp c17⟩ h
    · refine j_iconst (v := nI 0) d_Re_believe_20 (by decide +kernel) ?_
      exact j_zret d_Re_believe_21 rfl (by decide +kernel) ⟨rfl, rfl⟩

set_option maxHeartbeats 4000000 in
set_option maxRecDepth 100000 in
theorem t_Re_believe_t {l : Launch} {D : va_G} {B nx : Nat} {σ : Sg} {κ : Kp} {g : Nat → Option va_E} {p : Nat} (hp : p < 8) {I : Sg → Prop} {mu : Nat → Sg → Nat} (ok : OkI I mu) (hi : I σ) (kr : KR B σ κ nx) (k r x : Nat) (hk : k < 3) (hr : r < 6) (hx : x < 99999) (haw : awake σ p) (hz : σ 29 p (slt k r 3) = 0) (hi' : I (sLie σ p k r x)) : jM (G0 l D) m_Re_believe 6 (1 + (sS (sAct (sLie σ p k r x) p) - sS σ)) (7 + 7 * (sS (sAct (sLie σ p k r x) p) - sS σ)) [.ref (aP B p + 3), .int (nI k), .int (nI r), .int (mI x)] (hC D B σ κ g, nx) (fun v h => v = some (.int (nI 1)) ∧ ∃ κ' nx', h = (hC D B (sAct (sLie σ p k r x) p) κ' g, nx') ∧ KR B (sAct (sLie σ p k r x) p) κ' nx' ∧ nx ≤ nx') := by
  refine jM.of (by decide +kernel) (Nat.le_of_ble_eq_true rfl) rfl ?_
  obtain ⟨hb, h32, h8, hr6, hc6, hq3, hsd, b15, b16⟩ := (ok p hp).1 σ hi
  have b0 := hb 0 p 0
  have b17 := hb 17 p 0
  have b12 := hb 12 p 0
  have b11 := hb 11 p 0
  have hnx : B + 93 ≤ nx := by have := kr.2.2.2.2.1.1; omega
  have q0 := haw.1
  have q17 := haw.2
  have hpr1 : (Knew κ nx (msgF k 3 (σ 10 p 0) r x 0 (2 ^ 3))).2.2.1 nx = true := by simp [Knew, va_up]
  have f : (Knew κ nx (msgF k 3 (σ 10 p 0) r x 0 (2 ^ 3))).2.2.2 nx = msgF k 3 (σ 10 p 0) r x 0 (2 ^ 3) := by simp [Knew, va_up]
  have hss : sS (sLie σ p k r x) = sS σ := by unfold sLie; rw [sS_U (by decide), sS_U (by decide), sS_U (by decide)]
  have hCL : ∀ κ1 : Kp, hC D B σ κ1 g = hC D B (sLie σ p k r x) κ1 g := by
    intro κ1
    symm
    refine hC_cgr (fun f hf => ?_)
    unfold sLie
    rw [U_ne (by rintro rfl; simp [tidx, pidx, sidx] at hf), U_ne (by rintro rfl; simp [tidx, pidx, sidx] at hf), U_ne (by rintro rfl; simp [tidx, pidx, sidx] at hf)]
  have krN : KR B σ (Knew κ nx (msgF k 3 (σ 10 p 0) r x 0 (2 ^ 3))) (nx + 1) := KR_new kr (msgF_lt (by omega) (by decide) (hb _ _ _) (by omega) (by omega) (by decide) (by decide))
  have krL : KR B (sLie σ p k r x) (Kib (Knew κ nx (msgF k 3 (σ 10 p 0) r x 0 (2 ^ 3))) p (slt k r 3) (some nx)) (nx + 1) := by
    have := KR_put (p := p) (j := slt k r 3) (KR_cgr (σ' := U σ 28 (3 * (p / 4) + p % 4) (102 * k + 6 * σ 10 p 0 + r) (x + 1)) krN (fun f hf => U_ne (by omega))) hpr1 (x := x) (y := 0) (by rw [f]; rfl) (by rw [f]; rfl)
    exact this
  first | refine j_aload_n d_Re_believe_0 rfl ?_ | refine j_aload_nq d_Re_believe_0 rfl ?_ | refine j_aload_nN d_Re_believe_0 rfl ?_
  refine j_callV0 (As := []) G0_good G0_E d_Re_believe_1 c_Re_55 rfl rfl (t_Re_isIdle hp hb) (hC_p hp (by decide)) rfl rfl (by decide) (Nat.le_of_ble_eq_true rfl) ?_
  rintro _ _ ⟨rfl, rfl⟩
  first | refine c_if_ne (t := 20) d_Re_believe_4 (by decide) (fun c4 => ?_) (fun c4 => ?_) | refine n_if_ne (t := 20) d_Re_believe_4 (by decide) (by omega) (fun c4 => ?_) (fun c4 => ?_) | refine j_if_ne (t := 20) d_Re_believe_4 (by decide) (fun c4 => ?_) (fun c4 => ?_)
  · exfalso
    exact c4.elim (fun z => z q0) (fun z => z q17)
  · first | refine j_aload_n d_Re_believe_7 rfl ?_ | refine j_aload_nq d_Re_believe_7 rfl ?_ | refine j_aload_nN d_Re_believe_7 rfl ?_
    refine j_get d_Re_believe_8 f_Re_12 (hC_p hp (by decide)) rfl ?_
    refine j_iload_n d_Re_believe_11 rfl ?_
    refine j_iload_n d_Re_believe_12 rfl ?_
    refine j_iconst (v := nI 3) d_Re_believe_13 (by decide +kernel) ?_
    refine j_callV0 (As := [_, _, _]) G0_good G0_E d_Re_believe_14 c_Re_80 rfl rfl (t_In_find hp k r 3 hk hr (by decide)) (hC_p hp (by decide)) rfl rfl (by decide) (Nat.le_of_ble_eq_true rfl) ?_
    rintro _ _ ⟨rfl, rfl⟩
    refine j_ifnull (t := 22) d_Re_believe_17 (by decide) (fun c17 => ?_) (fun x17 c17 => ?_)
    · first | refine j_aload_n d_Re_believe_22 rfl ?_ | refine j_aload_nq d_Re_believe_22 rfl ?_ | refine j_aload_nN d_Re_believe_22 rfl ?_
      refine j_get d_Re_believe_23 f_Re_12 (hC_p hp (by decide)) rfl ?_
      rw [Nat.add_comm 1, Nat.add_comm 7]
      refine j_new d_Re_believe_26 n_Re_60 ?_
      refine j_dup d_Re_believe_29 rfl ?_
      refine j_iload_n d_Re_believe_30 rfl ?_
      refine j_iconst (v := nI 3) d_Re_believe_31 (by decide +kernel) ?_
      first | refine j_aload_n d_Re_believe_32 rfl ?_ | refine j_aload_nq d_Re_believe_32 rfl ?_ | refine j_aload_nN d_Re_believe_32 rfl ?_
      refine j_get d_Re_believe_33 f_Re_65 (vu_p hp hnx (by decide)) rfl ?_
      refine j_iload_n d_Re_believe_36 rfl ?_
      refine j_iload_n d_Re_believe_37 rfl ?_
      refine j_iconst (v := mI 0) d_Re_believe_38 (by decide +kernel) ?_
      refine j_callI0 (As := [_, _, _, _, _, _]) G0_good G0_E d_Re_believe_39 c_Re_84 rfl rfl (t_Me_init vu_at k 3 (σ 10 p 0) r x 0 (by decide)) (by decide) (Nat.le_of_ble_eq_true rfl) ?_
      rintro _ _ ⟨rfl, rfl⟩
      refine J.hq (vu_vu.trans (hC_new (m := msgF k 3 (σ 10 p 0) r x 0 (2 ^ 3)) hnx)) ?_
      refine j_callV0 (As := [_]) G0_good G0_E d_Re_believe_42 c_Re_73 rfl rfl (t_In_put hp hnx hpr1 (by rw [f]; exact hk) (by rw [f]; exact hr) (by rw [f]; exact (by decide : 3 < 4))) (hC_p hp (by decide)) rfl rfl (by decide) (Nat.le_of_ble_eq_true rfl) ?_
      rintro _ _ ⟨rfl, rfl⟩
      rw [f]
      refine J.hq (hCL _) ?_
      rw [← hss]
      first | refine j_aload_n d_Re_believe_45 rfl ?_ | refine j_aload_nq d_Re_believe_45 rfl ?_ | refine j_aload_nN d_Re_believe_45 rfl ?_
      refine j_callV1 (As := []) G0_good G0_E d_Re_believe_46 c_Re_77 rfl rfl (t_Re_act (σ := sLie σ p k r x) hp ok hi' krL) (hC_p hp (by decide)) rfl rfl (by decide) (Nat.le_of_ble_eq_true rfl) ?_
      rintro _ _ ⟨rfl, κ', nx', rfl, kr', hle⟩
      refine j_iconst (v := nI 1) d_Re_believe_49 (by decide +kernel) ?_
      exact j_zret d_Re_believe_50 rfl (by decide +kernel) ⟨rfl, κ', nx', rfl, kr', by omega⟩
    · exfalso
      rw [(kr.1 p _ hp (slt_lt hk hr (by decide))).mpr hz] at c17
      cases c17
