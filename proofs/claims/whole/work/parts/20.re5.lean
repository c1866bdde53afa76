/-! Replica: it acts (g_re5.py) -/
/-- one rule, the first that can be done -/
noncomputable def one (σ : Sg) (p : Nat) : Option Sg := ifP (g1 σ p) (some (a1 σ p)) (ifP (¬ j2 σ p = 0) (some (a2 σ p)) (ifP (g3 σ p) (some (a3 σ p)) (ifP (g4 σ p) (some (a4 σ p)) (ifP (g5 σ p) (some (ifP (σ 12 p 0 = 1) (s5 σ p) (c5 σ p))) (ifP (g6 σ p) (some (a6 σ p)) none)))))
/-- as long as one can be done -/
noncomputable def actF : Nat → Sg → Nat → Sg
  | 0, σ, _ => σ
  | m + 1, σ, p => match one σ p with
    | none => σ
    | some σ' => actF m σ' p
theorem actF_s {m p : Nat} {σ σ' : Sg} (h : one σ p = some σ') : actF (m + 1) σ p = actF m σ' p := by
  simp only [actF, h]
theorem actF_n {m p : Nat} {σ : Sg} (h : one σ p = none) : actF (m + 1) σ p = σ := by
  simp only [actF, h]
noncomputable def sAct (σ : Sg) (p : Nat) : Sg := ifP (¬ σ 0 p 0 = 0 ∨ ¬ σ 17 p 0 = 0) σ (actF 3000 σ p)
/-- how many messages were sent -/
def sS (σ : Sg) : Nat := σ 20 0 0 + σ 20 1 0
theorem sS_send {σ : Sg} {p k x y : Nat} (hp : p < 8) : sS (sSend σ p k x y) = sS σ + 1 := by
  unfold sS
  rw [sSend_20, sSend_20]
  have : p / 4 = 0 ∨ p / 4 = 1 := by omega
  rcases this with h | h <;> rw [h] <;> simp <;> omega
theorem sS_U {σ : Sg} {f a b v : Nat} (h : f ≠ 20) : sS (U σ f a b v) = sS σ := by
  unfold sS
  rw [U_ne (Ne.symm h)]
theorem sS_of {σ σ' : Sg} (h : σ' 20 = σ 20) : sS σ' = sS σ := by unfold sS; rw [h]
theorem sS_a1 {σ : Sg} {p : Nat} : sS (a1 σ p) = sS σ := by
  refine sS_of ?_
  unfold a1 e7 e4
  rw [clrB_ne (by decide) (by decide), U_ne (by decide), U_ne (by decide), U_ne (by decide), U_ne (by decide), U_ne (by decide), U_ne (by decide), U_ne (by decide), U_ne (by decide), U_ne (by decide), e2_ne (by decide) (by decide) (by decide) (by decide)]
/-- what is asked of a state for p to act in it -/
def Rq (σ : Sg) (p : Nat) : Prop := bd σ ∧ σ 34 0 0 ≤ 32 ∧ σ 33 0 0 ≤ 8 ∧ σ 11 p 0 < 6 ∧ (∀ j, σ 30 p j ≤ 6) ∧ (∀ q, q < σ 34 0 0 → σ 6 0 q < 3 ∧ σ 7 0 q < σ 33 0 0) ∧ (g3 σ p ∨ g4 σ p ∨ (g5 σ p ∧ σ 12 p 0 = 1) ∨ g6 σ p → σ 20 (p / 4) 0 < 918) ∧ σ 15 p 0 < 1000 ∧ σ 16 p 0 < 1000
/-- pointers behind an emptied inbox -/
theorem KR_a1 {B nx p : Nat} {σ : Sg} {κ : Kp} (kr : KR B σ κ nx) : KR B (a1 σ p) (Kclr κ p 72) nx := by
  obtain ⟨k1, k2, k3, k4, k5, k6⟩ := kr
  have ne : ∀ f, 19 < f → f < 28 → a1 σ p f = σ f := by
    intro f h1 h2
    unfold a1 e7 e4
    rw [clrB_ne (by omega) (by omega), U_ne (by omega), U_ne (by omega), U_ne (by omega), U_ne (by omega), U_ne (by omega), U_ne (by omega), U_ne (by omega), U_ne (by omega), U_ne (by omega), e2_ne (by omega) (by omega) (by omega) (by omega)]
  have n29 : ∀ f a b, (f = 29 ∨ f = 30) → a1 σ p f a b = if a = p then 0 else σ f a b := by
    intro f a b hf
    unfold a1 clrB
    by_cases h : a = p
    · rw [if_pos ⟨hf, h⟩, if_pos h]
    · rw [if_neg (fun z => h z.2), if_neg h]
      unfold e7 e4
      rw [U_ne (by omega), U_ne (by omega), U_ne (by omega), U_ne (by omega), U_ne (by omega), U_ne (by omega), U_ne (by omega), U_ne (by omega), U_ne (by omega), e2_ne (by omega) (by omega) (by omega) (by omega)]
  have eib : ∀ q j, j < 72 → (Kclr κ p 72).1 q j = if q = p then none else κ.1 q j := by
    intro q j hj
    by_cases h : q = p
    · subst h; simp [Kclr, va_up, hj]
    · simp [Kclr, va_up, h]
  refine ⟨fun q j hq hj => ?_, fun q j a hq hj h => ?_, fun s j hs hj => ?_, fun s j s' j' a hs hs' h1 h2 => ?_, k5, k6⟩
  · rw [eib q j hj, n29 29 q j (Or.inl rfl)]
    by_cases h : q = p
    · rw [if_pos h, if_pos h]; simp
    · rw [if_neg h, if_neg h]; exact k1 q j hq hj
  · rw [eib q j hj] at h
    rw [n29 29 q j (Or.inl rfl), n29 30 q j (Or.inr rfl)]
    by_cases e : q = p
    · rw [if_pos e] at h; cases h
    · rw [if_neg e] at h
      rw [if_neg e, if_neg e]
      exact k2 q j a hq hj h
  · rw [ne 20 (by decide) (by decide)] at hj
    obtain ⟨x, z1, z2, z3, z4⟩ := k3 s j hs hj
    exact ⟨x, z1, z2, z3, fun i hi => by rw [ne (21 + i) (by omega) (by omega)]; exact z4 i hi⟩
  · rw [ne 20 (by decide) (by decide)] at h1 h2
    exact k4 s j s' j' a hs hs' h1 h2

set_option maxHeartbeats 4000000 in
set_option maxRecDepth 100000 in
/-- the loop of act: I is kept by every rule, and mu falls -/
theorem lp_Re_act {l : Launch} {D : va_G} {B : Nat} {g : Nat → Option va_E} {p : Nat} (hp : p < 8) (I : Sg → Prop) (mu : Sg → Nat) (hI1 : ∀ σ, I σ → Rq σ p) (hI2 : ∀ σ σ', I σ → one σ p = some σ' → I σ' ∧ mu σ' < mu σ) (hI3 : ∀ m σ, I σ → sS σ ≤ sS (actF m σ p)) : ∀ m, ∀ (σ : Sg) (κ : Kp) (nx c : Nat), I σ → KR B σ κ nx → mu σ < m → c + m ≤ 1000000 → J (G0 l D) jT m_Re_act 5 (fun v h => v = none ∧ ∃ κ' nx', h = (hC D B (actF m σ p) κ' g, nx') ∧ KR B (actF m σ p) κ' nx' ∧ nx ≤ nx') (sS (actF m σ p) - sS σ) (7 * (sS (actF m σ p) - sS σ)) 15 [some (.ref (aP B p + 3)), some (.int (nI 1)), some (.int (nI c))] [] (hC D B σ κ g, nx) := by
  intro m
  induction m with
  | zero =>
    intro σ κ nx c _ _ h
    exact absurd h (Nat.not_lt_zero _)
  | succ m ih =>
    intro σ κ nx c hi kr hmu hc
    obtain ⟨hb, h32, h8, hr6, hc6, hq3, hsd, b15, b16⟩ := hI1 σ hi
    have b29 : ∀ j, σ 29 p j < 100000 := fun j => hb 29 p j
    have bpr : prp σ p (σ 11 p 0) - 1 < 99999 := by
      have := b29 (slt 0 (σ 11 p 0) (ld σ p (σ 11 p 0)))
      have e : prp σ p (σ 11 p 0) = σ 29 p (slt 0 (σ 11 p 0) (ld σ p (σ 11 p 0))) := rfl
      omega
    by_cases h1 : g1 σ p
    · have ho : one σ p = some (a1 σ p) := by rw [one, ifP_t h1]
      have hst := hI2 σ _ hi ho
      have hss : sS (a1 σ p) = sS σ := sS_a1
      have hmo := hI3 m _ hst.1
      rw [actF_s ho]
      rw [← hss]
      refine j_iload_n d_Re_act_15 rfl ?_
      refine j_if_eq (t := 79) d_Re_act_16 (by decide) (fun q => absurd q (by decide +kernel)) (fun _ => ?_)
      refine j_iload_n d_Re_act_19 rfl ?_
      refine j_ldc d_Re_act_20 w_Re_109 ?_
      rw [show (1000000 : Int32) = nI 1000000 by decide +kernel]
      first | refine nn_icmp_ge (t := 79) d_Re_act_22 (by decide) (by omega) (by omega) (fun c22 => ?_) (fun c22 => ?_) | refine mm_icmp_ge (t := 79) d_Re_act_22 (by decide) (by omega) (by omega) (fun c22 => ?_) (fun c22 => ?_) | refine mn_icmp_ge (t := 79) d_Re_act_22 (by decide) (by omega) (by omega) (fun c22 => ?_) (fun c22 => ?_) | refine nm_icmp_ge (t := 79) d_Re_act_22 (by decide) (by omega) (by omega) (fun c22 => ?_) (fun c22 => ?_) | refine j_icmp_ge (t := 79) d_Re_act_22 (by decide) (fun c22 => ?_) (fun c22 => ?_)
      · exfalso; first | exact c22 | omega
      · first | refine j_aload_n d_Re_act_25 rfl ?_ | refine j_aload_nq d_Re_act_25 rfl ?_ | refine j_aload_nN d_Re_act_25 rfl ?_
        refine j_callV0 (As := []) G0_good G0_E d_Re_act_26 c_Re_110 rfl rfl (t_Re_exec_t hp hb h32 kr h8 hq3 h1) (hC_p hp (by decide)) rfl rfl (by decide) (Nat.le_of_ble_eq_true rfl) ?_
        rintro _ _ ⟨rfl, rfl⟩
        refine j_if_ne (t := 67) d_Re_act_29 (by decide) (fun _ => ?_) (fun q => absurd q (by decide +kernel))
        refine j_iconst (v := nI 1) d_Re_act_67 (by decide +kernel) ?_
        refine j_goto (t := 72) d_Re_act_68 (by decide) ?_
        refine j_istore_n d_Re_act_72 (by decide) rfl rfl ?_
        refine n_iinc (k := 1) d_Re_act_73 (by decide +kernel) rfl (by decide) rfl rfl ?_
        refine j_goto (t := 15) d_Re_act_76 (by decide) ?_
        exact J.post (fun v h z => ⟨z.1, let ⟨a, b, c, d, e⟩ := z.2; ⟨a, b, c, d, by omega⟩⟩) (ih _ _ _ _ hst.1 (KR_a1 kr) (by omega) (by omega))
    by_cases h2 : ¬ j2 σ p = 0
    · have ho : one σ p = some (a2 σ p) := by rw [one, ifP_f h1, ifP_t h2]
      have hst := hI2 σ _ hi ho
      have hss : sS (a2 σ p) = sS σ := by unfold a2; rw [sS_U (by decide), sS_U (by decide)]
      have hmo := hI3 m _ hst.1
      rw [actF_s ho]
      rw [← hss]
      refine j_iload_n d_Re_act_15 rfl ?_
      refine j_if_eq (t := 79) d_Re_act_16 (by decide) (fun q => absurd q (by decide +kernel)) (fun _ => ?_)
      refine j_iload_n d_Re_act_19 rfl ?_
      refine j_ldc d_Re_act_20 w_Re_109 ?_
      rw [show (1000000 : Int32) = nI 1000000 by decide +kernel]
      first | refine nn_icmp_ge (t := 79) d_Re_act_22 (by decide) (by omega) (by omega) (fun c22 => ?_) (fun c22 => ?_) | refine mm_icmp_ge (t := 79) d_Re_act_22 (by decide) (by omega) (by omega) (fun c22 => ?_) (fun c22 => ?_) | refine mn_icmp_ge (t := 79) d_Re_act_22 (by decide) (by omega) (by omega) (fun c22 => ?_) (fun c22 => ?_) | refine nm_icmp_ge (t := 79) d_Re_act_22 (by decide) (by omega) (by omega) (fun c22 => ?_) (fun c22 => ?_) | refine j_icmp_ge (t := 79) d_Re_act_22 (by decide) (fun c22 => ?_) (fun c22 => ?_)
      · exfalso; first | exact c22 | omega
      · first | refine j_aload_n d_Re_act_25 rfl ?_ | refine j_aload_nq d_Re_act_25 rfl ?_ | refine j_aload_nN d_Re_act_25 rfl ?_
        refine j_callV0 (As := []) G0_good G0_E d_Re_act_26 c_Re_110 rfl rfl (t_Re_exec_f hp hb h32 kr h1) (hC_p hp (by decide)) rfl rfl (by decide) (Nat.le_of_ble_eq_true rfl) ?_
        rintro _ _ ⟨rfl, rfl⟩
        refine j_if_ne (t := 67) d_Re_act_29 (by decide) (fun q => absurd q (by decide +kernel)) (fun _ => ?_)
        first | refine j_aload_n d_Re_act_32 rfl ?_ | refine j_aload_nq d_Re_act_32 rfl ?_ | refine j_aload_nN d_Re_act_32 rfl ?_
        refine j_callV0 (As := []) G0_good G0_E d_Re_act_33 c_Re_113 rfl rfl (t_Re_join hp hb h32 kr hr6) (hC_p hp (by decide)) rfl rfl (by decide) (Nat.le_of_ble_eq_true rfl) ?_
        rintro _ _ (⟨z, rfl, rfl⟩ | ⟨z, rfl, rfl⟩)
        rotate_left
        · exact absurd z h2
        refine j_if_ne (t := 67) d_Re_act_36 (by decide) (fun _ => ?_) (fun q => absurd q (by decide +kernel))
        refine j_iconst (v := nI 1) d_Re_act_67 (by decide +kernel) ?_
        refine j_goto (t := 72) d_Re_act_68 (by decide) ?_
        refine j_istore_n d_Re_act_72 (by decide) rfl rfl ?_
        refine n_iinc (k := 1) d_Re_act_73 (by decide +kernel) rfl (by decide) rfl rfl ?_
        refine j_goto (t := 15) d_Re_act_76 (by decide) ?_
        exact J.post (fun v h z => ⟨z.1, let ⟨a, b, c, d, e⟩ := z.2; ⟨a, b, c, d, by omega⟩⟩) (ih _ _ _ _ hst.1 (KR_cgr kr (fun f hf => by unfold a2; rw [U_ne (by omega), U_ne (by omega)])) (by omega) (by omega))
    have h2z : j2 σ p = 0 := Decidable.byContradiction h2
    by_cases h3 : g3 σ p
    · have bx3 : x3 σ p < 99999 := by
        unfold x3
        by_cases z : σ 15 p 0 = 0
        · rw [ifP_t z]
          cases e : srch (gdn σ p) (σ 34 0 0) 0 with
          | zero => decide
          | succ x => have := srch_spec e; omega
        · rw [ifP_f z]; omega
      have h918 := hsd (Or.inl h3)
      have ho : one σ p = some (a3 σ p) := by rw [one, ifP_f h1, ifP_f h2, ifP_t h3]
      have hst := hI2 σ _ hi ho
      have hss : sS (a3 σ p) = sS σ + 1 := by unfold a3; exact sS_send hp
      have hmo := hI3 m _ hst.1
      rw [actF_s ho]
      rw [show sS (actF m (a3 σ p) p) - sS σ = 1 + (sS (actF m (a3 σ p) p) - sS (a3 σ p)) by omega, Nat.mul_add]
      refine j_iload_n d_Re_act_15 rfl ?_
      refine j_if_eq (t := 79) d_Re_act_16 (by decide) (fun q => absurd q (by decide +kernel)) (fun _ => ?_)
      refine j_iload_n d_Re_act_19 rfl ?_
      refine j_ldc d_Re_act_20 w_Re_109 ?_
      rw [show (1000000 : Int32) = nI 1000000 by decide +kernel]
      first | refine nn_icmp_ge (t := 79) d_Re_act_22 (by decide) (by omega) (by omega) (fun c22 => ?_) (fun c22 => ?_) | refine mm_icmp_ge (t := 79) d_Re_act_22 (by decide) (by omega) (by omega) (fun c22 => ?_) (fun c22 => ?_) | refine mn_icmp_ge (t := 79) d_Re_act_22 (by decide) (by omega) (by omega) (fun c22 => ?_) (fun c22 => ?_) | refine nm_icmp_ge (t := 79) d_Re_act_22 (by decide) (by omega) (by omega) (fun c22 => ?_) (fun c22 => ?_) | refine j_icmp_ge (t := 79) d_Re_act_22 (by decide) (fun c22 => ?_) (fun c22 => ?_)
      · exfalso; first | exact c22 | omega
      · first | refine j_aload_n d_Re_act_25 rfl ?_ | refine j_aload_nq d_Re_act_25 rfl ?_ | refine j_aload_nN d_Re_act_25 rfl ?_
        refine j_callV0 (As := []) G0_good G0_E d_Re_act_26 c_Re_110 rfl rfl (t_Re_exec_f hp hb h32 kr h1) (hC_p hp (by decide)) rfl rfl (by decide) (Nat.le_of_ble_eq_true rfl) ?_
        rintro _ _ ⟨rfl, rfl⟩
        refine j_if_ne (t := 67) d_Re_act_29 (by decide) (fun q => absurd q (by decide +kernel)) (fun _ => ?_)
        first | refine j_aload_n d_Re_act_32 rfl ?_ | refine j_aload_nq d_Re_act_32 rfl ?_ | refine j_aload_nN d_Re_act_32 rfl ?_
        refine j_callV0 (As := []) G0_good G0_E d_Re_act_33 c_Re_113 rfl rfl (t_Re_join hp hb h32 kr hr6) (hC_p hp (by decide)) rfl rfl (by decide) (Nat.le_of_ble_eq_true rfl) ?_
        rintro _ _ (⟨z, rfl, rfl⟩ | ⟨z, rfl, rfl⟩)
        · exact absurd h2z z
        refine j_if_ne (t := 67) d_Re_act_36 (by decide) (fun q => absurd q (by decide +kernel)) (fun _ => ?_)
        first | refine j_aload_n d_Re_act_39 rfl ?_ | refine j_aload_nq d_Re_act_39 rfl ?_ | refine j_aload_nN d_Re_act_39 rfl ?_
        refine j_callV (As := []) G0_good G0_E d_Re_act_40 c_Re_116 rfl rfl (t_Re_propose_t hp hb h32 kr hr6 h918 h3) (hC_p hp (by decide)) rfl rfl (by decide) (Nat.le_of_ble_eq_true rfl) ?_
        rintro _ _ ⟨rfl, rfl⟩
        refine j_if_ne (t := 67) d_Re_act_43 (by decide) (fun _ => ?_) (fun q => absurd q (by decide +kernel))
        refine j_iconst (v := nI 1) d_Re_act_67 (by decide +kernel) ?_
        refine j_goto (t := 72) d_Re_act_68 (by decide) ?_
        refine j_istore_n d_Re_act_72 (by decide) rfl rfl ?_
        refine n_iinc (k := 1) d_Re_act_73 (by decide +kernel) rfl (by decide) rfl rfl ?_
        refine j_goto (t := 15) d_Re_act_76 (by decide) ?_
        exact J.post (fun v h z => ⟨z.1, let ⟨a, b, c, d, e⟩ := z.2; ⟨a, b, c, d, by omega⟩⟩) (ih _ _ _ _ hst.1 (KR_send kr hb hp (by decide) hr6 (bx3) (by omega)) (by omega) (by omega))
    by_cases h4 : g4 σ p
    · have bx4 : x4 σ p < 99999 := by
        unfold x4
        by_cases z : welcome σ p (prp σ p (σ 11 p 0) - 1) (prc σ p (σ 11 p 0))
        · rw [ifP_t z]; exact bpr
        · rw [ifP_f z]; decide
      have h918 := hsd (Or.inr (Or.inl h4))
      have ho : one σ p = some (a4 σ p) := by rw [one, ifP_f h1, ifP_f h2, ifP_f h3, ifP_t h4]
      have hst := hI2 σ _ hi ho
      have hss : sS (a4 σ p) = sS σ + 1 := by unfold a4; rw [sS_U (by decide)]; exact sS_send hp
      have hmo := hI3 m _ hst.1
      rw [actF_s ho]
      rw [show sS (actF m (a4 σ p) p) - sS σ = 1 + (sS (actF m (a4 σ p) p) - sS (a4 σ p)) by omega, Nat.mul_add]
      refine j_iload_n d_Re_act_15 rfl ?_
      refine j_if_eq (t := 79) d_Re_act_16 (by decide) (fun q => absurd q (by decide +kernel)) (fun _ => ?_)
      refine j_iload_n d_Re_act_19 rfl ?_
      refine j_ldc d_Re_act_20 w_Re_109 ?_
      rw [show (1000000 : Int32) = nI 1000000 by decide +kernel]
      first | refine nn_icmp_ge (t := 79) d_Re_act_22 (by decide) (by omega) (by omega) (fun c22 => ?_) (fun c22 => ?_) | refine mm_icmp_ge (t := 79) d_Re_act_22 (by decide) (by omega) (by omega) (fun c22 => ?_) (fun c22 => ?_) | refine mn_icmp_ge (t := 79) d_Re_act_22 (by decide) (by omega) (by omega) (fun c22 => ?_) (fun c22 => ?_) | refine nm_icmp_ge (t := 79) d_Re_act_22 (by decide) (by omega) (by omega) (fun c22 => ?_) (fun c22 => ?_) | refine j_icmp_ge (t := 79) d_Re_act_22 (by decide) (fun c22 => ?_) (fun c22 => ?_)
      · exfalso; first | exact c22 | omega
      · first | refine j_aload_n d_Re_act_25 rfl ?_ | refine j_aload_nq d_Re_act_25 rfl ?_ | refine j_aload_nN d_Re_act_25 rfl ?_
        refine j_callV0 (As := []) G0_good G0_E d_Re_act_26 c_Re_110 rfl rfl (t_Re_exec_f hp hb h32 kr h1) (hC_p hp (by decide)) rfl rfl (by decide) (Nat.le_of_ble_eq_true rfl) ?_
        rintro _ _ ⟨rfl, rfl⟩
        refine j_if_ne (t := 67) d_Re_act_29 (by decide) (fun q => absurd q (by decide +kernel)) (fun _ => ?_)
        first | refine j_aload_n d_Re_act_32 rfl ?_ | refine j_aload_nq d_Re_act_32 rfl ?_ | refine j_aload_nN d_Re_act_32 rfl ?_
        refine j_callV0 (As := []) G0_good G0_E d_Re_act_33 c_Re_113 rfl rfl (t_Re_join hp hb h32 kr hr6) (hC_p hp (by decide)) rfl rfl (by decide) (Nat.le_of_ble_eq_true rfl) ?_
        rintro _ _ (⟨z, rfl, rfl⟩ | ⟨z, rfl, rfl⟩)
        · exact absurd h2z z
        refine j_if_ne (t := 67) d_Re_act_36 (by decide) (fun q => absurd q (by decide +kernel)) (fun _ => ?_)
        first | refine j_aload_n d_Re_act_39 rfl ?_ | refine j_aload_nq d_Re_act_39 rfl ?_ | refine j_aload_nN d_Re_act_39 rfl ?_
        refine j_callV0 (As := []) G0_good G0_E d_Re_act_40 c_Re_116 rfl rfl (t_Re_propose_f hp hb h32 kr hr6 h3) (hC_p hp (by decide)) rfl rfl (by decide) (Nat.le_of_ble_eq_true rfl) ?_
        rintro _ _ ⟨rfl, rfl⟩
        refine j_if_ne (t := 67) d_Re_act_43 (by decide) (fun q => absurd q (by decide +kernel)) (fun _ => ?_)
        first | refine j_aload_n d_Re_act_46 rfl ?_ | refine j_aload_nq d_Re_act_46 rfl ?_ | refine j_aload_nN d_Re_act_46 rfl ?_
        refine j_callV (As := []) G0_good G0_E d_Re_act_47 c_Re_119 rfl rfl (t_Re_vote_t hp hb h32 kr hr6 h918 hc6 h4) (hC_p hp (by decide)) rfl rfl (by decide) (Nat.le_of_ble_eq_true rfl) ?_
        rintro _ _ ⟨rfl, rfl⟩
        refine j_if_ne (t := 67) d_Re_act_50 (by decide) (fun _ => ?_) (fun q => absurd q (by decide +kernel))
        refine j_iconst (v := nI 1) d_Re_act_67 (by decide +kernel) ?_
        refine j_goto (t := 72) d_Re_act_68 (by decide) ?_
        refine j_istore_n d_Re_act_72 (by decide) rfl rfl ?_
        refine n_iinc (k := 1) d_Re_act_73 (by decide +kernel) rfl (by decide) rfl rfl ?_
        refine j_goto (t := 15) d_Re_act_76 (by decide) ?_
        exact J.post (fun v h z => ⟨z.1, let ⟨a, b, c, d, e⟩ := z.2; ⟨a, b, c, d, by omega⟩⟩) (ih _ _ _ _ hst.1 (KR_cgr (σ' := a4 σ p) (KR_send kr hb hp (by decide) hr6 (bx4) (by decide)) (fun f hf => by unfold a4; rw [U_ne (by omega)])) (by omega) (by omega))
    by_cases h5 : g5 σ p
    · by_cases h51 : σ 12 p 0 = 1
      · have hbk : bd (k5 σ p) := bd_U (bd_U (bd_U (bd_U hb (by omega)) (by omega)) (by omega)) (by omega)
        have h918 := hsd (Or.inr (Or.inr (Or.inl ⟨h5, h51⟩)))
        have ho : one σ p = some (s5 σ p) := by rw [one, ifP_f h1, ifP_f h2, ifP_f h3, ifP_f h4, ifP_t h5, ifP_t h51]
        have hst := hI2 σ _ hi ho
        have hss : sS (s5 σ p) = sS σ + 1 := by unfold s5; rw [sS_U (by decide), sS_send hp]; unfold k5 c5; rw [sS_U (by decide), sS_U (by decide), sS_U (by decide), sS_U (by decide)]
        have hmo := hI3 m _ hst.1
        rw [actF_s ho]
        rw [show sS (actF m (s5 σ p) p) - sS σ = 1 + (sS (actF m (s5 σ p) p) - sS (s5 σ p)) by omega, Nat.mul_add]
        refine j_iload_n d_Re_act_15 rfl ?_
        refine j_if_eq (t := 79) d_Re_act_16 (by decide) (fun q => absurd q (by decide +kernel)) (fun _ => ?_)
        refine j_iload_n d_Re_act_19 rfl ?_
        refine j_ldc d_Re_act_20 w_Re_109 ?_
        rw [show (1000000 : Int32) = nI 1000000 by decide +kernel]
        first | refine nn_icmp_ge (t := 79) d_Re_act_22 (by decide) (by omega) (by omega) (fun c22 => ?_) (fun c22 => ?_) | refine mm_icmp_ge (t := 79) d_Re_act_22 (by decide) (by omega) (by omega) (fun c22 => ?_) (fun c22 => ?_) | refine mn_icmp_ge (t := 79) d_Re_act_22 (by decide) (by omega) (by omega) (fun c22 => ?_) (fun c22 => ?_) | refine nm_icmp_ge (t := 79) d_Re_act_22 (by decide) (by omega) (by omega) (fun c22 => ?_) (fun c22 => ?_) | refine j_icmp_ge (t := 79) d_Re_act_22 (by decide) (fun c22 => ?_) (fun c22 => ?_)
        · exfalso; first | exact c22 | omega
        · first | refine j_aload_n d_Re_act_25 rfl ?_ | refine j_aload_nq d_Re_act_25 rfl ?_ | refine j_aload_nN d_Re_act_25 rfl ?_
          refine j_callV0 (As := []) G0_good G0_E d_Re_act_26 c_Re_110 rfl rfl (t_Re_exec_f hp hb h32 kr h1) (hC_p hp (by decide)) rfl rfl (by decide) (Nat.le_of_ble_eq_true rfl) ?_
          rintro _ _ ⟨rfl, rfl⟩
          refine j_if_ne (t := 67) d_Re_act_29 (by decide) (fun q => absurd q (by decide +kernel)) (fun _ => ?_)
          first | refine j_aload_n d_Re_act_32 rfl ?_ | refine j_aload_nq d_Re_act_32 rfl ?_ | refine j_aload_nN d_Re_act_32 rfl ?_
          refine j_callV0 (As := []) G0_good G0_E d_Re_act_33 c_Re_113 rfl rfl (t_Re_join hp hb h32 kr hr6) (hC_p hp (by decide)) rfl rfl (by decide) (Nat.le_of_ble_eq_true rfl) ?_
          rintro _ _ (⟨z, rfl, rfl⟩ | ⟨z, rfl, rfl⟩)
          · exact absurd h2z z
          refine j_if_ne (t := 67) d_Re_act_36 (by decide) (fun q => absurd q (by decide +kernel)) (fun _ => ?_)
          first | refine j_aload_n d_Re_act_39 rfl ?_ | refine j_aload_nq d_Re_act_39 rfl ?_ | refine j_aload_nN d_Re_act_39 rfl ?_
          refine j_callV0 (As := []) G0_good G0_E d_Re_act_40 c_Re_116 rfl rfl (t_Re_propose_f hp hb h32 kr hr6 h3) (hC_p hp (by decide)) rfl rfl (by decide) (Nat.le_of_ble_eq_true rfl) ?_
          rintro _ _ ⟨rfl, rfl⟩
          refine j_if_ne (t := 67) d_Re_act_43 (by decide) (fun q => absurd q (by decide +kernel)) (fun _ => ?_)
          first | refine j_aload_n d_Re_act_46 rfl ?_ | refine j_aload_nq d_Re_act_46 rfl ?_ | refine j_aload_nN d_Re_act_46 rfl ?_
          refine j_callV0 (As := []) G0_good G0_E d_Re_act_47 c_Re_119 rfl rfl (t_Re_vote_f hp hb h32 kr hr6 hc6 h4) (hC_p hp (by decide)) rfl rfl (by decide) (Nat.le_of_ble_eq_true rfl) ?_
          rintro _ _ ⟨rfl, rfl⟩
          refine j_if_ne (t := 67) d_Re_act_50 (by decide) (fun q => absurd q (by decide +kernel)) (fun _ => ?_)
          first | refine j_aload_n d_Re_act_53 rfl ?_ | refine j_aload_nq d_Re_act_53 rfl ?_ | refine j_aload_nN d_Re_act_53 rfl ?_
          refine j_callV (As := []) G0_good G0_E d_Re_act_54 c_Re_122 rfl rfl (t_Re_choose_s hp hb h32 kr hr6 h918 h5 h51) (hC_p hp (by decide)) rfl rfl (by decide) (Nat.le_of_ble_eq_true rfl) ?_
          rintro _ _ ⟨rfl, rfl⟩
          refine j_if_ne (t := 67) d_Re_act_57 (by decide) (fun _ => ?_) (fun q => absurd q (by decide +kernel))
          refine j_iconst (v := nI 1) d_Re_act_67 (by decide +kernel) ?_
          refine j_goto (t := 72) d_Re_act_68 (by decide) ?_
          refine j_istore_n d_Re_act_72 (by decide) rfl rfl ?_
          refine n_iinc (k := 1) d_Re_act_73 (by decide +kernel) rfl (by decide) rfl rfl ?_
          refine j_goto (t := 15) d_Re_act_76 (by decide) ?_
          exact J.post (fun v h z => ⟨z.1, let ⟨a, b, c, d, e⟩ := z.2; ⟨a, b, c, d, by omega⟩⟩) (ih _ _ _ _ hst.1 (KR_cgr (σ' := s5 σ p) (KR_send (KR_cgr (σ' := k5 σ p) kr (fun f hf => by unfold k5 c5; rw [U_ne (by omega), U_ne (by omega), U_ne (by omega), U_ne (by omega)])) hbk hp (by decide) hr6 bpr (by decide)) (fun f hf => by unfold s5; rw [U_ne (by omega)])) (by omega) (by omega))
      have ho : one σ p = some (c5 σ p) := by rw [one, ifP_f h1, ifP_f h2, ifP_f h3, ifP_f h4, ifP_t h5, ifP_f h51]
      have hst := hI2 σ _ hi ho
      have hss : sS (c5 σ p) = sS σ := by unfold c5; rw [sS_U (by decide), sS_U (by decide)]
      have hmo := hI3 m _ hst.1
      rw [actF_s ho]
      rw [← hss]
      refine j_iload_n d_Re_act_15 rfl ?_
      refine j_if_eq (t := 79) d_Re_act_16 (by decide) (fun q => absurd q (by decide +kernel)) (fun _ => ?_)
      refine j_iload_n d_Re_act_19 rfl ?_
      refine j_ldc d_Re_act_20 w_Re_109 ?_
      rw [show (1000000 : Int32) = nI 1000000 by decide +kernel]
      first | refine nn_icmp_ge (t := 79) d_Re_act_22 (by decide) (by omega) (by omega) (fun c22 => ?_) (fun c22 => ?_) | refine mm_icmp_ge (t := 79) d_Re_act_22 (by decide) (by omega) (by omega) (fun c22 => ?_) (fun c22 => ?_) | refine mn_icmp_ge (t := 79) d_Re_act_22 (by decide) (by omega) (by omega) (fun c22 => ?_) (fun c22 => ?_) | refine nm_icmp_ge (t := 79) d_Re_act_22 (by decide) (by omega) (by omega) (fun c22 => ?_) (fun c22 => ?_) | refine j_icmp_ge (t := 79) d_Re_act_22 (by decide) (fun c22 => ?_) (fun c22 => ?_)
      · exfalso; first | exact c22 | omega
      · first | refine j_aload_n d_Re_act_25 rfl ?_ | refine j_aload_nq d_Re_act_25 rfl ?_ | refine j_aload_nN d_Re_act_25 rfl ?_
        refine j_callV0 (As := []) G0_good G0_E d_Re_act_26 c_Re_110 rfl rfl (t_Re_exec_f hp hb h32 kr h1) (hC_p hp (by decide)) rfl rfl (by decide) (Nat.le_of_ble_eq_true rfl) ?_
        rintro _ _ ⟨rfl, rfl⟩
        refine j_if_ne (t := 67) d_Re_act_29 (by decide) (fun q => absurd q (by decide +kernel)) (fun _ => ?_)
        first | refine j_aload_n d_Re_act_32 rfl ?_ | refine j_aload_nq d_Re_act_32 rfl ?_ | refine j_aload_nN d_Re_act_32 rfl ?_
        refine j_callV0 (As := []) G0_good G0_E d_Re_act_33 c_Re_113 rfl rfl (t_Re_join hp hb h32 kr hr6) (hC_p hp (by decide)) rfl rfl (by decide) (Nat.le_of_ble_eq_true rfl) ?_
        rintro _ _ (⟨z, rfl, rfl⟩ | ⟨z, rfl, rfl⟩)
        · exact absurd h2z z
        refine j_if_ne (t := 67) d_Re_act_36 (by decide) (fun q => absurd q (by decide +kernel)) (fun _ => ?_)
        first | refine j_aload_n d_Re_act_39 rfl ?_ | refine j_aload_nq d_Re_act_39 rfl ?_ | refine j_aload_nN d_Re_act_39 rfl ?_
        refine j_callV0 (As := []) G0_good G0_E d_Re_act_40 c_Re_116 rfl rfl (t_Re_propose_f hp hb h32 kr hr6 h3) (hC_p hp (by decide)) rfl rfl (by decide) (Nat.le_of_ble_eq_true rfl) ?_
        rintro _ _ ⟨rfl, rfl⟩
        refine j_if_ne (t := 67) d_Re_act_43 (by decide) (fun q => absurd q (by decide +kernel)) (fun _ => ?_)
        first | refine j_aload_n d_Re_act_46 rfl ?_ | refine j_aload_nq d_Re_act_46 rfl ?_ | refine j_aload_nN d_Re_act_46 rfl ?_
        refine j_callV0 (As := []) G0_good G0_E d_Re_act_47 c_Re_119 rfl rfl (t_Re_vote_f hp hb h32 kr hr6 hc6 h4) (hC_p hp (by decide)) rfl rfl (by decide) (Nat.le_of_ble_eq_true rfl) ?_
        rintro _ _ ⟨rfl, rfl⟩
        refine j_if_ne (t := 67) d_Re_act_50 (by decide) (fun q => absurd q (by decide +kernel)) (fun _ => ?_)
        first | refine j_aload_n d_Re_act_53 rfl ?_ | refine j_aload_nq d_Re_act_53 rfl ?_ | refine j_aload_nN d_Re_act_53 rfl ?_
        refine j_callV0 (As := []) G0_good G0_E d_Re_act_54 c_Re_122 rfl rfl (t_Re_choose_c hp hb h32 kr hr6 h5 h51) (hC_p hp (by decide)) rfl rfl (by decide) (Nat.le_of_ble_eq_true rfl) ?_
        rintro _ _ ⟨rfl, rfl⟩
        refine j_if_ne (t := 67) d_Re_act_57 (by decide) (fun _ => ?_) (fun q => absurd q (by decide +kernel))
        refine j_iconst (v := nI 1) d_Re_act_67 (by decide +kernel) ?_
        refine j_goto (t := 72) d_Re_act_68 (by decide) ?_
        refine j_istore_n d_Re_act_72 (by decide) rfl rfl ?_
        refine n_iinc (k := 1) d_Re_act_73 (by decide +kernel) rfl (by decide) rfl rfl ?_
        refine j_goto (t := 15) d_Re_act_76 (by decide) ?_
        exact J.post (fun v h z => ⟨z.1, let ⟨a, b, c, d, e⟩ := z.2; ⟨a, b, c, d, by omega⟩⟩) (ih _ _ _ _ hst.1 (KR_cgr (σ' := c5 σ p) kr (fun f hf => by unfold c5; rw [U_ne (by omega), U_ne (by omega)])) (by omega) (by omega))
    by_cases h6 : g6 σ p
    · have h918 := hsd (Or.inr (Or.inr (Or.inr h6)))
      have ho : one σ p = some (a6 σ p) := by rw [one, ifP_f h1, ifP_f h2, ifP_f h3, ifP_f h4, ifP_f h5, ifP_t h6]
      have hst := hI2 σ _ hi ho
      have hss : sS (a6 σ p) = sS σ + 1 := by unfold a6; rw [sS_U (by decide)]; exact sS_send hp
      have hmo := hI3 m _ hst.1
      rw [actF_s ho]
      rw [show sS (actF m (a6 σ p) p) - sS σ = 1 + (sS (actF m (a6 σ p) p) - sS (a6 σ p)) by omega, Nat.mul_add]
      refine j_iload_n d_Re_act_15 rfl ?_
      refine j_if_eq (t := 79) d_Re_act_16 (by decide) (fun q => absurd q (by decide +kernel)) (fun _ => ?_)
      refine j_iload_n d_Re_act_19 rfl ?_
      refine j_ldc d_Re_act_20 w_Re_109 ?_
      rw [show (1000000 : Int32) = nI 1000000 by decide +kernel]
      first | refine nn_icmp_ge (t := 79) d_Re_act_22 (by decide) (by omega) (by omega) (fun c22 => ?_) (fun c22 => ?_) | refine mm_icmp_ge (t := 79) d_Re_act_22 (by decide) (by omega) (by omega) (fun c22 => ?_) (fun c22 => ?_) | refine mn_icmp_ge (t := 79) d_Re_act_22 (by decide) (by omega) (by omega) (fun c22 => ?_) (fun c22 => ?_) | refine nm_icmp_ge (t := 79) d_Re_act_22 (by decide) (by omega) (by omega) (fun c22 => ?_) (fun c22 => ?_) | refine j_icmp_ge (t := 79) d_Re_act_22 (by decide) (fun c22 => ?_) (fun c22 => ?_)
      · exfalso; first | exact c22 | omega
      · first | refine j_aload_n d_Re_act_25 rfl ?_ | refine j_aload_nq d_Re_act_25 rfl ?_ | refine j_aload_nN d_Re_act_25 rfl ?_
        refine j_callV0 (As := []) G0_good G0_E d_Re_act_26 c_Re_110 rfl rfl (t_Re_exec_f hp hb h32 kr h1) (hC_p hp (by decide)) rfl rfl (by decide) (Nat.le_of_ble_eq_true rfl) ?_
        rintro _ _ ⟨rfl, rfl⟩
        refine j_if_ne (t := 67) d_Re_act_29 (by decide) (fun q => absurd q (by decide +kernel)) (fun _ => ?_)
        first | refine j_aload_n d_Re_act_32 rfl ?_ | refine j_aload_nq d_Re_act_32 rfl ?_ | refine j_aload_nN d_Re_act_32 rfl ?_
        refine j_callV0 (As := []) G0_good G0_E d_Re_act_33 c_Re_113 rfl rfl (t_Re_join hp hb h32 kr hr6) (hC_p hp (by decide)) rfl rfl (by decide) (Nat.le_of_ble_eq_true rfl) ?_
        rintro _ _ (⟨z, rfl, rfl⟩ | ⟨z, rfl, rfl⟩)
        · exact absurd h2z z
        refine j_if_ne (t := 67) d_Re_act_36 (by decide) (fun q => absurd q (by decide +kernel)) (fun _ => ?_)
        first | refine j_aload_n d_Re_act_39 rfl ?_ | refine j_aload_nq d_Re_act_39 rfl ?_ | refine j_aload_nN d_Re_act_39 rfl ?_
        refine j_callV0 (As := []) G0_good G0_E d_Re_act_40 c_Re_116 rfl rfl (t_Re_propose_f hp hb h32 kr hr6 h3) (hC_p hp (by decide)) rfl rfl (by decide) (Nat.le_of_ble_eq_true rfl) ?_
        rintro _ _ ⟨rfl, rfl⟩
        refine j_if_ne (t := 67) d_Re_act_43 (by decide) (fun q => absurd q (by decide +kernel)) (fun _ => ?_)
        first | refine j_aload_n d_Re_act_46 rfl ?_ | refine j_aload_nq d_Re_act_46 rfl ?_ | refine j_aload_nN d_Re_act_46 rfl ?_
        refine j_callV0 (As := []) G0_good G0_E d_Re_act_47 c_Re_119 rfl rfl (t_Re_vote_f hp hb h32 kr hr6 hc6 h4) (hC_p hp (by decide)) rfl rfl (by decide) (Nat.le_of_ble_eq_true rfl) ?_
        rintro _ _ ⟨rfl, rfl⟩
        refine j_if_ne (t := 67) d_Re_act_50 (by decide) (fun q => absurd q (by decide +kernel)) (fun _ => ?_)
        first | refine j_aload_n d_Re_act_53 rfl ?_ | refine j_aload_nq d_Re_act_53 rfl ?_ | refine j_aload_nN d_Re_act_53 rfl ?_
        refine j_callV0 (As := []) G0_good G0_E d_Re_act_54 c_Re_122 rfl rfl (t_Re_choose_f hp hb h32 kr hr6 h5) (hC_p hp (by decide)) rfl rfl (by decide) (Nat.le_of_ble_eq_true rfl) ?_
        rintro _ _ ⟨rfl, rfl⟩
        refine j_if_ne (t := 67) d_Re_act_57 (by decide) (fun q => absurd q (by decide +kernel)) (fun _ => ?_)
        first | refine j_aload_n d_Re_act_60 rfl ?_ | refine j_aload_nq d_Re_act_60 rfl ?_ | refine j_aload_nN d_Re_act_60 rfl ?_
        refine j_callV (As := []) G0_good G0_E d_Re_act_61 c_Re_125 rfl rfl (t_Re_sealNone_t hp hb h32 kr hr6 h918 h6) (hC_p hp (by decide)) rfl rfl (by decide) (Nat.le_of_ble_eq_true rfl) ?_
        rintro _ _ ⟨rfl, rfl⟩
        refine j_if_eq (t := 71) d_Re_act_64 (by decide) (fun q => absurd q (by decide +kernel)) (fun _ => ?_)
        refine j_iconst (v := nI 1) d_Re_act_67 (by decide +kernel) ?_
        refine j_goto (t := 72) d_Re_act_68 (by decide) ?_
        refine j_istore_n d_Re_act_72 (by decide) rfl rfl ?_
        refine n_iinc (k := 1) d_Re_act_73 (by decide +kernel) rfl (by decide) rfl rfl ?_
        refine j_goto (t := 15) d_Re_act_76 (by decide) ?_
        exact J.post (fun v h z => ⟨z.1, let ⟨a, b, c, d, e⟩ := z.2; ⟨a, b, c, d, by omega⟩⟩) (ih _ _ _ _ hst.1 (KR_cgr (σ' := a6 σ p) (KR_send kr hb hp (by decide) hr6 (by decide) (by decide)) (fun f hf => by unfold a6; rw [U_ne (by omega)])) (by omega) (by omega))
    have ho : one σ p = none := by rw [one, ifP_f h1, ifP_f h2, ifP_f h3, ifP_f h4, ifP_f h5, ifP_f h6]
    rw [actF_n ho]
    refine j_iload_n d_Re_act_15 rfl ?_
    refine j_if_eq (t := 79) d_Re_act_16 (by decide) (fun q => absurd q (by decide +kernel)) (fun _ => ?_)
    refine j_iload_n d_Re_act_19 rfl ?_
    refine j_ldc d_Re_act_20 w_Re_109 ?_
    rw [show (1000000 : Int32) = nI 1000000 by decide +kernel]
    first | refine nn_icmp_ge (t := 79) d_Re_act_22 (by decide) (by omega) (by omega) (fun c22 => ?_) (fun c22 => ?_) | refine mm_icmp_ge (t := 79) d_Re_act_22 (by decide) (by omega) (by omega) (fun c22 => ?_) (fun c22 => ?_) | refine mn_icmp_ge (t := 79) d_Re_act_22 (by decide) (by omega) (by omega) (fun c22 => ?_) (fun c22 => ?_) | refine nm_icmp_ge (t := 79) d_Re_act_22 (by decide) (by omega) (by omega) (fun c22 => ?_) (fun c22 => ?_) | refine j_icmp_ge (t := 79) d_Re_act_22 (by decide) (fun c22 => ?_) (fun c22 => ?_)
    · exfalso; first | exact c22 | omega
    · first | refine j_aload_n d_Re_act_25 rfl ?_ | refine j_aload_nq d_Re_act_25 rfl ?_ | refine j_aload_nN d_Re_act_25 rfl ?_
      refine j_callV0 (As := []) G0_good G0_E d_Re_act_26 c_Re_110 rfl rfl (t_Re_exec_f hp hb h32 kr h1) (hC_p hp (by decide)) rfl rfl (by decide) (Nat.le_of_ble_eq_true rfl) ?_
      rintro _ _ ⟨rfl, rfl⟩
      refine j_if_ne (t := 67) d_Re_act_29 (by decide) (fun q => absurd q (by decide +kernel)) (fun _ => ?_)
      first | refine j_aload_n d_Re_act_32 rfl ?_ | refine j_aload_nq d_Re_act_32 rfl ?_ | refine j_aload_nN d_Re_act_32 rfl ?_
      refine j_callV0 (As := []) G0_good G0_E d_Re_act_33 c_Re_113 rfl rfl (t_Re_join hp hb h32 kr hr6) (hC_p hp (by decide)) rfl rfl (by decide) (Nat.le_of_ble_eq_true rfl) ?_
      rintro _ _ (⟨z, rfl, rfl⟩ | ⟨z, rfl, rfl⟩)
      · exact absurd h2z z
      refine j_if_ne (t := 67) d_Re_act_36 (by decide) (fun q => absurd q (by decide +kernel)) (fun _ => ?_)
      first | refine j_aload_n d_Re_act_39 rfl ?_ | refine j_aload_nq d_Re_act_39 rfl ?_ | refine j_aload_nN d_Re_act_39 rfl ?_
      refine j_callV0 (As := []) G0_good G0_E d_Re_act_40 c_Re_116 rfl rfl (t_Re_propose_f hp hb h32 kr hr6 h3) (hC_p hp (by decide)) rfl rfl (by decide) (Nat.le_of_ble_eq_true rfl) ?_
      rintro _ _ ⟨rfl, rfl⟩
      refine j_if_ne (t := 67) d_Re_act_43 (by decide) (fun q => absurd q (by decide +kernel)) (fun _ => ?_)
      first | refine j_aload_n d_Re_act_46 rfl ?_ | refine j_aload_nq d_Re_act_46 rfl ?_ | refine j_aload_nN d_Re_act_46 rfl ?_
      refine j_callV0 (As := []) G0_good G0_E d_Re_act_47 c_Re_119 rfl rfl (t_Re_vote_f hp hb h32 kr hr6 hc6 h4) (hC_p hp (by decide)) rfl rfl (by decide) (Nat.le_of_ble_eq_true rfl) ?_
      rintro _ _ ⟨rfl, rfl⟩
      refine j_if_ne (t := 67) d_Re_act_50 (by decide) (fun q => absurd q (by decide +kernel)) (fun _ => ?_)
      first | refine j_aload_n d_Re_act_53 rfl ?_ | refine j_aload_nq d_Re_act_53 rfl ?_ | refine j_aload_nN d_Re_act_53 rfl ?_
      refine j_callV0 (As := []) G0_good G0_E d_Re_act_54 c_Re_122 rfl rfl (t_Re_choose_f hp hb h32 kr hr6 h5) (hC_p hp (by decide)) rfl rfl (by decide) (Nat.le_of_ble_eq_true rfl) ?_
      rintro _ _ ⟨rfl, rfl⟩
      refine j_if_ne (t := 67) d_Re_act_57 (by decide) (fun q => absurd q (by decide +kernel)) (fun _ => ?_)
      first | refine j_aload_n d_Re_act_60 rfl ?_ | refine j_aload_nq d_Re_act_60 rfl ?_ | refine j_aload_nN d_Re_act_60 rfl ?_
      refine j_callV0 (As := []) G0_good G0_E d_Re_act_61 c_Re_125 rfl rfl (t_Re_sealNone_f hp hb h32 kr hr6 h6) (hC_p hp (by decide)) rfl rfl (by decide) (Nat.le_of_ble_eq_true rfl) ?_
      rintro _ _ ⟨rfl, rfl⟩
      refine j_if_eq (t := 71) d_Re_act_64 (by decide) (fun _ => ?_) (fun q => absurd q (by decide +kernel))
      refine j_iconst (v := nI 0) d_Re_act_71 (by decide +kernel) ?_
      refine j_istore_n d_Re_act_72 (by decide) rfl rfl ?_
      refine n_iinc (k := 1) d_Re_act_73 (by decide +kernel) rfl (by decide) rfl rfl ?_
      refine j_goto (t := 15) d_Re_act_76 (by decide) ?_
      refine j_iload_n d_Re_act_15 rfl ?_
      refine j_if_eq (t := 79) d_Re_act_16 (by decide) (fun _ => ?_) (fun q => absurd q (by decide +kernel))
      exact j_vret d_Re_act_79 rfl ⟨rfl, κ, nx, rfl, kr, Nat.le_refl _⟩
