/-! Replica: the rules 2 to 6 (g_re3.py) -/
noncomputable def j2 (σ : Sg) (p : Nat) : Nat := srch (joinAt σ p) (5 - σ 11 p 0) (σ 11 p 0 + 1)
noncomputable def a2 (σ : Sg) (p : Nat) : Sg := U (U σ 11 p 0 (j2 σ p - 1)) 12 p 0 0
noncomputable def x3 (σ : Sg) (p : Nat) : Nat := ifP (σ 15 p 0 = 0) (srch (gdn σ p) (σ 34 0 0) 0) (σ 15 p 0)
def g3 (σ : Sg) (p : Nat) : Prop := σ 12 p 0 = 0 ∧ ld σ p (σ 11 p 0) = p % 4 ∧ σ 29 p (slt 0 (σ 11 p 0) (p % 4)) = 0 ∧ ¬ x3 σ p = 0
noncomputable def a3 (σ : Sg) (p : Nat) : Sg := sSend σ p 0 (x3 σ p) (σ 16 p 0)
def g4 (σ : Sg) (p : Nat) : Prop := σ 12 p 0 = 0 ∧ ¬ prp σ p (σ 11 p 0) = 0 ∧ backed σ p (prp σ p (σ 11 p 0) - 1) (prc σ p (σ 11 p 0))
noncomputable def x4 (σ : Sg) (p : Nat) : Nat := ifP (welcome σ p (prp σ p (σ 11 p 0) - 1) (prc σ p (σ 11 p 0))) (prp σ p (σ 11 p 0) - 1) 0
noncomputable def a4 (σ : Sg) (p : Nat) : Sg := U (sSend σ p 1 (x4 σ p) 0) 12 p 0 1
def g5 (σ : Sg) (p : Nat) : Prop := ¬ σ 12 p 0 = 0 ∧ ¬ σ 16 p 0 = σ 11 p 0 + 1 ∧ ¬ prp σ p (σ 11 p 0) = 0 ∧ gd σ p (prp σ p (σ 11 p 0) - 1) ∧ 3 ≤ cq σ p 1 (σ 11 p 0) (prp σ p (σ 11 p 0) - 1) 4
/-- the candidate chosen -/
def c5 (σ : Sg) (p : Nat) : Sg := U (U σ 15 p 0 (prp σ p (σ 11 p 0) - 1)) 16 p 0 (σ 11 p 0 + 1)
/-- and locked -/
def k5 (σ : Sg) (p : Nat) : Sg := U (U (c5 σ p) 13 p 0 (prp σ p (σ 11 p 0) - 1)) 14 p 0 (σ 11 p 0 + 1)
def s5 (σ : Sg) (p : Nat) : Sg := U (sSend (k5 σ p) p 2 (prp σ p (σ 11 p 0) - 1) 0) 12 p 0 2
def g6 (σ : Sg) (p : Nat) : Prop := σ 12 p 0 = 1 ∧ 3 ≤ cq σ p 1 (σ 11 p 0) 0 4
def a6 (σ : Sg) (p : Nat) : Sg := U (sSend σ p 2 0 0) 12 p 0 2

set_option maxHeartbeats 4000000 in
set_option maxRecDepth 100000 in
theorem lp_Re_join {l : Launch} {D : va_G} {B nx : Nat} {σ : Sg} {κ : Kp} {g : Nat → Option va_E} {p : Nat} (hp : p < 8) (hb : bd σ) (h32 : σ 34 0 0 ≤ 32) (kr : KR B σ κ nx) (hr6 : σ 11 p 0 < 6) : ∀ (m : Nat) (r : Nat), r ≤ 6 → 6 - r < m → j2 σ p = srch (joinAt σ p) (6 - r) r → J (G0 l D) jT m_Re_joinHigherRound 3 (fun v h => (¬ j2 σ p = 0 ∧ v = some (.int (nI 1)) ∧ h = (hC D B (a2 σ p) κ g, nx)) ∨ (j2 σ p = 0 ∧ v = some (.int (nI 0)) ∧ h = (hC D B σ κ g, nx))) 0 0 7 [some (.ref (aP B p + 3)), some (.int (nI r))] [] (hC D B σ κ g, nx) := by
  intro m
  induction m with
  | zero =>
    intros
    exfalso
    omega
  | succ m ih =>
    intro r h1 h2 hs
    have bc := cs_le (σ := σ) (p := p) (r := r) (ld := ld σ p r) 4
    refine j_iload_n d_Re_joinHigherRound_7 rfl ?_
    refine j_bipush (v := nI 6) d_Re_joinHigherRound_8 (by decide +kernel) ?_
    first | refine nn_icmp_ge (t := 43) d_Re_joinHigherRound_10 (by decide) (by omega) (by omega) (fun c10 => ?_) (fun c10 => ?_) | refine mm_icmp_ge (t := 43) d_Re_joinHigherRound_10 (by decide) (by omega) (by omega) (fun c10 => ?_) (fun c10 => ?_) | refine mn_icmp_ge (t := 43) d_Re_joinHigherRound_10 (by decide) (by omega) (by omega) (fun c10 => ?_) (fun c10 => ?_) | refine nm_icmp_ge (t := 43) d_Re_joinHigherRound_10 (by decide) (by omega) (by omega) (fun c10 => ?_) (fun c10 => ?_) | refine j_icmp_ge (t := 43) d_Re_joinHigherRound_10 (by decide) (fun c10 => ?_) (fun c10 => ?_)
    · refine j_iconst (v := nI 0) d_Re_joinHigherRound_43 (by decide +kernel) ?_
      exact j_zret d_Re_joinHigherRound_44 rfl (by decide +kernel) (Or.inr ⟨by rw [hs, show 6 - r = 0 by omega]; rfl, rfl, rfl⟩)
    · first | refine j_aload_n d_Re_joinHigherRound_13 rfl ?_ | refine j_aload_nq d_Re_joinHigherRound_13 rfl ?_ | refine j_aload_nN d_Re_joinHigherRound_13 rfl ?_
      refine j_get d_Re_joinHigherRound_14 f_Re_12 (hC_p hp (by decide)) rfl ?_
      refine j_iload_n d_Re_joinHigherRound_17 rfl ?_
      first | refine j_aload_n d_Re_joinHigherRound_18 rfl ?_ | refine j_aload_nq d_Re_joinHigherRound_18 rfl ?_ | refine j_aload_nN d_Re_joinHigherRound_18 rfl ?_
      refine j_iload_n d_Re_joinHigherRound_19 rfl ?_
      refine j_callV0 (As := [_]) G0_good G0_E d_Re_joinHigherRound_20 c_Re_159 rfl rfl (t_Re_leaderOf hp hb r (by omega)) (hC_p hp (by decide)) rfl rfl (by decide) (Nat.le_of_ble_eq_true rfl) ?_
      rintro _ _ ⟨rfl, rfl⟩
      refine j_callV0 (As := [_, _]) G0_good G0_E d_Re_joinHigherRound_23 c_Re_170 rfl rfl (t_In_countSenders hp hb kr r (ld σ p r) (by omega) ld_lt) (hC_p hp (by decide)) rfl rfl (by decide) (Nat.le_of_ble_eq_true rfl) ?_
      rintro _ _ ⟨rfl, rfl⟩
      refine j_iconst (v := nI 2) d_Re_joinHigherRound_26 (by decide +kernel) ?_
      first | refine nn_icmp_lt (t := 37) d_Re_joinHigherRound_27 (by decide) (by omega) (by omega) (fun c27 => ?_) (fun c27 => ?_) | refine mm_icmp_lt (t := 37) d_Re_joinHigherRound_27 (by decide) (by omega) (by omega) (fun c27 => ?_) (fun c27 => ?_) | refine mn_icmp_lt (t := 37) d_Re_joinHigherRound_27 (by decide) (by omega) (by omega) (fun c27 => ?_) (fun c27 => ?_) | refine nm_icmp_lt (t := 37) d_Re_joinHigherRound_27 (by decide) (by omega) (by omega) (fun c27 => ?_) (fun c27 => ?_) | refine j_icmp_lt (t := 37) d_Re_joinHigherRound_27 (by decide) (fun c27 => ?_) (fun c27 => ?_)
      · refine n_iinc (k := 1) d_Re_joinHigherRound_37 (by decide +kernel) rfl (by decide) rfl rfl ?_
        refine j_goto (t := 7) d_Re_joinHigherRound_40 (by decide) ?_
        exact ih (r + 1) (by omega) (by omega) (by rw [hs, show 6 - r = (6 - (r + 1)) + 1 by omega]; exact srch_f (P := joinAt σ p) (fun z => absurd (show 2 ≤ cs σ p r (ld σ p r) 4 from z) (by omega)))
      · first | refine j_aload_n d_Re_joinHigherRound_30 rfl ?_ | refine j_aload_nq d_Re_joinHigherRound_30 rfl ?_ | refine j_aload_nN d_Re_joinHigherRound_30 rfl ?_
        refine j_iload_n d_Re_joinHigherRound_31 rfl ?_
        refine j_callV0 (As := [_]) G0_good G0_E d_Re_joinHigherRound_32 c_Re_103 rfl rfl (t_Re_enterRound hp r) (hC_p hp (by decide)) rfl rfl (by decide) (Nat.le_of_ble_eq_true rfl) ?_
        rintro _ _ ⟨rfl, rfl⟩
        refine j_iconst (v := nI 1) d_Re_joinHigherRound_35 (by decide +kernel) ?_
        have ej : j2 σ p = r + 1 := by rw [hs, show 6 - r = (6 - (r + 1)) + 1 by omega]; exact srch_t c27
        exact j_zret d_Re_joinHigherRound_36 rfl (by decide +kernel) (Or.inl ⟨by omega, rfl, by rw [a2, ej]; rfl⟩)

set_option maxHeartbeats 4000000 in
set_option maxRecDepth 100000 in
theorem t_Re_join {l : Launch} {D : va_G} {B nx : Nat} {σ : Sg} {κ : Kp} {g : Nat → Option va_E} {p : Nat} (hp : p < 8) (hb : bd σ) (h32 : σ 34 0 0 ≤ 32) (kr : KR B σ κ nx) (hr6 : σ 11 p 0 < 6) : jM (G0 l D) m_Re_joinHigherRound 3 0 0 [.ref (aP B p + 3)] (hC D B σ κ g, nx) (fun v h => (¬ j2 σ p = 0 ∧ v = some (.int (nI 1)) ∧ h = (hC D B (a2 σ p) κ g, nx)) ∨ (j2 σ p = 0 ∧ v = some (.int (nI 0)) ∧ h = (hC D B σ κ g, nx))) := by
  refine jM.of (by decide +kernel) (Nat.le_of_ble_eq_true rfl) rfl ?_
  have b11 := hb 11 p 0
  first | refine j_aload_n d_Re_joinHigherRound_0 rfl ?_ | refine j_aload_nq d_Re_joinHigherRound_0 rfl ?_ | refine j_aload_nN d_Re_joinHigherRound_0 rfl ?_
  refine j_get d_Re_joinHigherRound_1 f_Re_93 (hC_p hp (by decide)) rfl ?_
  refine j_iconst (v := nI 1) d_Re_joinHigherRound_4 (by decide +kernel) ?_
  refine jn_iadd d_Re_joinHigherRound_5 ?_
  refine j_istore_n d_Re_joinHigherRound_6 (by decide) rfl rfl ?_
  exact lp_Re_join hp hb h32 kr hr6 7 (σ 11 p 0 + 1) (by omega) (by omega) (by rw [j2, show 5 - σ 11 p 0 = 6 - (σ 11 p 0 + 1) by omega])

set_option maxHeartbeats 4000000 in
set_option maxRecDepth 100000 in
theorem t_Re_propose_t {l : Launch} {D : va_G} {B nx : Nat} {σ : Sg} {κ : Kp} {g : Nat → Option va_E} {p : Nat} (hp : p < 8) (hb : bd σ) (h32 : σ 34 0 0 ≤ 32) (kr : KR B σ κ nx) (hr6 : σ 11 p 0 < 6) (h918 : σ 20 (p / 4) 0 < 918) (h : g3 σ p) : jM (G0 l D) m_Re_propose 3 1 7 [.ref (aP B p + 3)] (hC D B σ κ g, nx) (fun v h => v = some (.int (nI 1)) ∧ h = (hC D B (a3 σ p) (Ksend σ κ nx p 0 (x3 σ p) (σ 16 p 0)) g, nx + 1)) := by
  refine jM.of (by decide +kernel) (Nat.le_of_ble_eq_true rfl) rfl ?_
  have b10 := hb 10 p 0
  have b11 := hb 11 p 0
  have b12 := hb 12 p 0
  have b13 := hb 13 p 0
  have b14 := hb 14 p 0
  have b15 := hb 15 p 0
  have b16 := hb 16 p 0
  have hi : p % 4 < 4 := Nat.mod_lt _ (by decide)
  have bld : ld σ p (σ 11 p 0) < 4 := ld_lt
  have hnx : B + 93 ≤ nx := by have := kr.2.2.2.2.1.1; omega
  have bs : srch (gdn σ p) (σ 34 0 0) 0 < 100000 := by
    cases e : srch (gdn σ p) (σ 34 0 0) 0 with
    | zero => decide
    | succ x => have := srch_spec e; omega
  have q1 := h.1
  have q2 := h.2.1
  first | refine j_aload_n d_Re_propose_0 rfl ?_ | refine j_aload_nq d_Re_propose_0 rfl ?_ | refine j_aload_nN d_Re_propose_0 rfl ?_
  refine j_get d_Re_propose_1 f_Re_87 (hC_p hp (by decide)) rfl ?_
  first | refine c_if_ne (t := 41) d_Re_propose_4 (by decide) (fun c4 => ?_) (fun c4 => ?_) | refine n_if_ne (t := 41) d_Re_propose_4 (by decide) (by omega) (fun c4 => ?_) (fun c4 => ?_) | refine j_if_ne (t := 41) d_Re_propose_4 (by decide) (fun c4 => ?_) (fun c4 => ?_)
  · exfalso; first | exact c4 | omega
  · first | refine j_aload_n d_Re_propose_7 rfl ?_ | refine j_aload_nq d_Re_propose_7 rfl ?_ | refine j_aload_nN d_Re_propose_7 rfl ?_
    first | refine j_aload_n d_Re_propose_8 rfl ?_ | refine j_aload_nq d_Re_propose_8 rfl ?_ | refine j_aload_nN d_Re_propose_8 rfl ?_
    refine j_get d_Re_propose_9 f_Re_93 (hC_p hp (by decide)) rfl ?_
    refine j_callV0 (As := [_]) G0_good G0_E d_Re_propose_12 c_Re_159 rfl rfl (t_Re_leaderOf hp hb (σ 11 p 0) (by omega)) (hC_p hp (by decide)) rfl rfl (by decide) (Nat.le_of_ble_eq_true rfl) ?_
    rintro _ _ ⟨rfl, rfl⟩
    first | refine j_aload_n d_Re_propose_15 rfl ?_ | refine j_aload_nq d_Re_propose_15 rfl ?_ | refine j_aload_nN d_Re_propose_15 rfl ?_
    refine j_get d_Re_propose_16 f_Re_36 (hC_p hp (by decide)) rfl ?_
    first | refine nn_icmp_ne (t := 41) d_Re_propose_19 (by decide) (by omega) (by omega) (fun c19 => ?_) (fun c19 => ?_) | refine mm_icmp_ne (t := 41) d_Re_propose_19 (by decide) (by omega) (by omega) (fun c19 => ?_) (fun c19 => ?_) | refine mn_icmp_ne (t := 41) d_Re_propose_19 (by decide) (by omega) (by omega) (fun c19 => ?_) (fun c19 => ?_) | refine nm_icmp_ne (t := 41) d_Re_propose_19 (by decide) (by omega) (by omega) (fun c19 => ?_) (fun c19 => ?_) | refine j_icmp_ne (t := 41) d_Re_propose_19 (by decide) (fun c19 => ?_) (fun c19 => ?_)
    · exfalso; first | exact c19 | omega
    · first | refine j_aload_n d_Re_propose_22 rfl ?_ | refine j_aload_nq d_Re_propose_22 rfl ?_ | refine j_aload_nN d_Re_propose_22 rfl ?_
      refine j_get d_Re_propose_23 f_Re_12 (hC_p hp (by decide)) rfl ?_
      refine j_iconst (v := nI 0) d_Re_propose_26 (by decide +kernel) ?_
      first | refine j_aload_n d_Re_propose_27 rfl ?_ | refine j_aload_nq d_Re_propose_27 rfl ?_ | refine j_aload_nN d_Re_propose_27 rfl ?_
      refine j_get d_Re_propose_28 f_Re_93 (hC_p hp (by decide)) rfl ?_
      first | refine j_aload_n d_Re_propose_31 rfl ?_ | refine j_aload_nq d_Re_propose_31 rfl ?_ | refine j_aload_nN d_Re_propose_31 rfl ?_
      refine j_get d_Re_propose_32 f_Re_36 (hC_p hp (by decide)) rfl ?_
      refine j_callV0 (As := [_, _, _]) G0_good G0_E d_Re_propose_35 c_Re_80 rfl rfl (t_In_find hp 0 (σ 11 p 0) (p % 4) (by decide) hr6 hi) (hC_p hp (by decide)) rfl rfl (by decide) (Nat.le_of_ble_eq_true rfl) ?_
      rintro _ _ ⟨rfl, rfl⟩
      refine j_ifnull (t := 43) d_Re_propose_38 (by decide) (fun c38 => ?_) (fun x38 c38 => ?_)
      · first | refine j_aload_n d_Re_propose_43 rfl ?_ | refine j_aload_nq d_Re_propose_43 rfl ?_ | refine j_aload_nN d_Re_propose_43 rfl ?_
        refine j_get d_Re_propose_44 f_Re_25 (hC_p hp (by decide)) rfl ?_
        refine j_get d_Re_propose_47 f_Re_128 (hC_p hp (by decide)) rfl ?_
        refine j_iconst (v := mI 0) d_Re_propose_50 (by decide +kernel) ?_
        first | refine nn_icmp_ne (t := 61) d_Re_propose_51 (by decide) (by omega) (by omega) (fun c51 => ?_) (fun c51 => ?_) | refine mm_icmp_ne (t := 61) d_Re_propose_51 (by decide) (by omega) (by omega) (fun c51 => ?_) (fun c51 => ?_) | refine mn_icmp_ne (t := 61) d_Re_propose_51 (by decide) (by omega) (by omega) (fun c51 => ?_) (fun c51 => ?_) | refine nm_icmp_ne (t := 61) d_Re_propose_51 (by decide) (by omega) (by omega) (fun c51 => ?_) (fun c51 => ?_) | refine j_icmp_ne (t := 61) d_Re_propose_51 (by decide) (fun c51 => ?_) (fun c51 => ?_)
        · first | refine j_aload_n d_Re_propose_61 rfl ?_ | refine j_aload_nq d_Re_propose_61 rfl ?_ | refine j_aload_nN d_Re_propose_61 rfl ?_
          refine j_get d_Re_propose_62 f_Re_25 (hC_p hp (by decide)) rfl ?_
          refine j_get d_Re_propose_65 f_Re_128 (hC_p hp (by decide)) rfl ?_
          refine j_istore_n d_Re_propose_68 (by decide) rfl rfl ?_
          refine j_iload_n d_Re_propose_69 rfl ?_
          refine j_iconst (v := mI 0) d_Re_propose_70 (by decide +kernel) ?_
          first | refine nn_icmp_ne (t := 76) d_Re_propose_71 (by decide) (by omega) (by omega) (fun c71 => ?_) (fun c71 => ?_) | refine mm_icmp_ne (t := 76) d_Re_propose_71 (by decide) (by omega) (by omega) (fun c71 => ?_) (fun c71 => ?_) | refine mn_icmp_ne (t := 76) d_Re_propose_71 (by decide) (by omega) (by omega) (fun c71 => ?_) (fun c71 => ?_) | refine nm_icmp_ne (t := 76) d_Re_propose_71 (by decide) (by omega) (by omega) (fun c71 => ?_) (fun c71 => ?_) | refine j_icmp_ne (t := 76) d_Re_propose_71 (by decide) (fun c71 => ?_) (fun c71 => ?_)
          · have ex : σ 15 p 0 = x3 σ p := by rw [x3, ifP_f c51]
            rw [ex]
            first | refine j_aload_n d_Re_propose_76 rfl ?_ | refine j_aload_nq d_Re_propose_76 rfl ?_ | refine j_aload_nN d_Re_propose_76 rfl ?_
            refine j_iconst (v := nI 0) d_Re_propose_77 (by decide +kernel) ?_
            refine j_iload_n d_Re_propose_78 rfl ?_
            first | refine j_aload_n d_Re_propose_79 rfl ?_ | refine j_aload_nq d_Re_propose_79 rfl ?_ | refine j_aload_nN d_Re_propose_79 rfl ?_
            refine j_get d_Re_propose_80 f_Re_25 (hC_p hp (by decide)) rfl ?_
            refine j_get d_Re_propose_83 f_Re_131 (hC_p hp (by decide)) rfl ?_
            refine j_callV1 (As := [_, _, _]) G0_good G0_E d_Re_propose_86 c_Re_176 rfl rfl (t_Re_send hp hb hnx h918 hr6 0 (x3 σ p) (σ 16 p 0) (by decide)) (hC_p hp (by decide)) rfl rfl (by decide) (Nat.le_of_ble_eq_true rfl) ?_
            rintro _ _ ⟨rfl, rfl⟩
            refine j_iconst (v := nI 1) d_Re_propose_89 (by decide +kernel) ?_
            exact j_zret d_Re_propose_90 rfl (by decide +kernel) ⟨rfl, rfl⟩
          · exfalso
            exact h.2.2.2 (by rw [x3, ifP_f c51]; exact c71)
        · first | refine j_aload_n d_Re_propose_54 rfl ?_ | refine j_aload_nq d_Re_propose_54 rfl ?_ | refine j_aload_nN d_Re_propose_54 rfl ?_
          refine j_callV0 (As := []) G0_good G0_E d_Re_propose_55 c_Re_173 rfl rfl (t_Re_firstGood hp hb h32) (hC_p hp (by decide)) rfl rfl (by decide) (Nat.le_of_ble_eq_true rfl) ?_
          rintro _ _ ⟨rfl, rfl⟩
          refine j_goto (t := 68) d_Re_propose_58 (by decide) ?_
          refine j_istore_n d_Re_propose_68 (by decide) rfl rfl ?_
          refine j_iload_n d_Re_propose_69 rfl ?_
          refine j_iconst (v := mI 0) d_Re_propose_70 (by decide +kernel) ?_
          first | refine nn_icmp_ne (t := 76) d_Re_propose_71 (by decide) (by omega) (by omega) (fun c71 => ?_) (fun c71 => ?_) | refine mm_icmp_ne (t := 76) d_Re_propose_71 (by decide) (by omega) (by omega) (fun c71 => ?_) (fun c71 => ?_) | refine mn_icmp_ne (t := 76) d_Re_propose_71 (by decide) (by omega) (by omega) (fun c71 => ?_) (fun c71 => ?_) | refine nm_icmp_ne (t := 76) d_Re_propose_71 (by decide) (by omega) (by omega) (fun c71 => ?_) (fun c71 => ?_) | refine j_icmp_ne (t := 76) d_Re_propose_71 (by decide) (fun c71 => ?_) (fun c71 => ?_)
          · have ex : srch (gdn σ p) (σ 34 0 0) 0 = x3 σ p := by rw [x3, ifP_t c51]
            rw [ex]
            first | refine j_aload_n d_Re_propose_76 rfl ?_ | refine j_aload_nq d_Re_propose_76 rfl ?_ | refine j_aload_nN d_Re_propose_76 rfl ?_
            refine j_iconst (v := nI 0) d_Re_propose_77 (by decide +kernel) ?_
            refine j_iload_n d_Re_propose_78 rfl ?_
            first | refine j_aload_n d_Re_propose_79 rfl ?_ | refine j_aload_nq d_Re_propose_79 rfl ?_ | refine j_aload_nN d_Re_propose_79 rfl ?_
            refine j_get d_Re_propose_80 f_Re_25 (hC_p hp (by decide)) rfl ?_
            refine j_get d_Re_propose_83 f_Re_131 (hC_p hp (by decide)) rfl ?_
            refine j_callV1 (As := [_, _, _]) G0_good G0_E d_Re_propose_86 c_Re_176 rfl rfl (t_Re_send hp hb hnx h918 hr6 0 (x3 σ p) (σ 16 p 0) (by decide)) (hC_p hp (by decide)) rfl rfl (by decide) (Nat.le_of_ble_eq_true rfl) ?_
            rintro _ _ ⟨rfl, rfl⟩
            refine j_iconst (v := nI 1) d_Re_propose_89 (by decide +kernel) ?_
            exact j_zret d_Re_propose_90 rfl (by decide +kernel) ⟨rfl, rfl⟩
          · exfalso
            exact h.2.2.2 (by rw [x3, ifP_t c51]; exact c71)
      · exfalso
        have z := (kr.1 p _ hp (slt_lt (by decide) hr6 hi)).mpr h.2.2.1
        rw [z] at c38
        cases c38

set_option maxHeartbeats 4000000 in
set_option maxRecDepth 100000 in
theorem t_Re_propose_f {l : Launch} {D : va_G} {B nx : Nat} {σ : Sg} {κ : Kp} {g : Nat → Option va_E} {p : Nat} (hp : p < 8) (hb : bd σ) (h32 : σ 34 0 0 ≤ 32) (kr : KR B σ κ nx) (hr6 : σ 11 p 0 < 6) (h : ¬ g3 σ p) : jM (G0 l D) m_Re_propose 3 0 0 [.ref (aP B p + 3)] (hC D B σ κ g, nx) (fun v h => v = some (.int (nI 0)) ∧ h = (hC D B σ κ g, nx)) := by
  refine jM.of (by decide +kernel) (Nat.le_of_ble_eq_true rfl) rfl ?_
  have b10 := hb 10 p 0
  have b11 := hb 11 p 0
  have b12 := hb 12 p 0
  have b13 := hb 13 p 0
  have b14 := hb 14 p 0
  have b15 := hb 15 p 0
  have b16 := hb 16 p 0
  have hi : p % 4 < 4 := Nat.mod_lt _ (by decide)
  have bld : ld σ p (σ 11 p 0) < 4 := ld_lt
  have hnx : B + 93 ≤ nx := by have := kr.2.2.2.2.1.1; omega
  have bs : srch (gdn σ p) (σ 34 0 0) 0 < 100000 := by
    cases e : srch (gdn σ p) (σ 34 0 0) 0 with
    | zero => decide
    | succ x => have := srch_spec e; omega
  first | refine j_aload_n d_Re_propose_0 rfl ?_ | refine j_aload_nq d_Re_propose_0 rfl ?_ | refine j_aload_nN d_Re_propose_0 rfl ?_
  refine j_get d_Re_propose_1 f_Re_87 (hC_p hp (by decide)) rfl ?_
  first | refine c_if_ne (t := 41) d_Re_propose_4 (by decide) (fun c4 => ?_) (fun c4 => ?_) | refine n_if_ne (t := 41) d_Re_propose_4 (by decide) (by omega) (fun c4 => ?_) (fun c4 => ?_) | refine j_if_ne (t := 41) d_Re_propose_4 (by decide) (fun c4 => ?_) (fun c4 => ?_)
  · refine j_iconst (v := nI 0) d_Re_propose_41 (by decide +kernel) ?_
    exact j_zret d_Re_propose_42 rfl (by decide +kernel) ⟨rfl, rfl⟩
  · first | refine j_aload_n d_Re_propose_7 rfl ?_ | refine j_aload_nq d_Re_propose_7 rfl ?_ | refine j_aload_nN d_Re_propose_7 rfl ?_
    first | refine j_aload_n d_Re_propose_8 rfl ?_ | refine j_aload_nq d_Re_propose_8 rfl ?_ | refine j_aload_nN d_Re_propose_8 rfl ?_
    refine j_get d_Re_propose_9 f_Re_93 (hC_p hp (by decide)) rfl ?_
    refine j_callV0 (As := [_]) G0_good G0_E d_Re_propose_12 c_Re_159 rfl rfl (t_Re_leaderOf hp hb (σ 11 p 0) (by omega)) (hC_p hp (by decide)) rfl rfl (by decide) (Nat.le_of_ble_eq_true rfl) ?_
    rintro _ _ ⟨rfl, rfl⟩
    first | refine j_aload_n d_Re_propose_15 rfl ?_ | refine j_aload_nq d_Re_propose_15 rfl ?_ | refine j_aload_nN d_Re_propose_15 rfl ?_
    refine j_get d_Re_propose_16 f_Re_36 (hC_p hp (by decide)) rfl ?_
    first | refine nn_icmp_ne (t := 41) d_Re_propose_19 (by decide) (by omega) (by omega) (fun c19 => ?_) (fun c19 => ?_) | refine mm_icmp_ne (t := 41) d_Re_propose_19 (by decide) (by omega) (by omega) (fun c19 => ?_) (fun c19 => ?_) | refine mn_icmp_ne (t := 41) d_Re_propose_19 (by decide) (by omega) (by omega) (fun c19 => ?_) (fun c19 => ?_) | refine nm_icmp_ne (t := 41) d_Re_propose_19 (by decide) (by omega) (by omega) (fun c19 => ?_) (fun c19 => ?_) | refine j_icmp_ne (t := 41) d_Re_propose_19 (by decide) (fun c19 => ?_) (fun c19 => ?_)
    · refine j_iconst (v := nI 0) d_Re_propose_41 (by decide +kernel) ?_
      exact j_zret d_Re_propose_42 rfl (by decide +kernel) ⟨rfl, rfl⟩
    · first | refine j_aload_n d_Re_propose_22 rfl ?_ | refine j_aload_nq d_Re_propose_22 rfl ?_ | refine j_aload_nN d_Re_propose_22 rfl ?_
      refine j_get d_Re_propose_23 f_Re_12 (hC_p hp (by decide)) rfl ?_
      refine j_iconst (v := nI 0) d_Re_propose_26 (by decide +kernel) ?_
      first | refine j_aload_n d_Re_propose_27 rfl ?_ | refine j_aload_nq d_Re_propose_27 rfl ?_ | refine j_aload_nN d_Re_propose_27 rfl ?_
      refine j_get d_Re_propose_28 f_Re_93 (hC_p hp (by decide)) rfl ?_
      first | refine j_aload_n d_Re_propose_31 rfl ?_ | refine j_aload_nq d_Re_propose_31 rfl ?_ | refine j_aload_nN d_Re_propose_31 rfl ?_
      refine j_get d_Re_propose_32 f_Re_36 (hC_p hp (by decide)) rfl ?_
      refine j_callV0 (As := [_, _, _]) G0_good G0_E d_Re_propose_35 c_Re_80 rfl rfl (t_In_find hp 0 (σ 11 p 0) (p % 4) (by decide) hr6 hi) (hC_p hp (by decide)) rfl rfl (by decide) (Nat.le_of_ble_eq_true rfl) ?_
      rintro _ _ ⟨rfl, rfl⟩
      refine j_ifnull (t := 43) d_Re_propose_38 (by decide) (fun c38 => ?_) (fun x38 c38 => ?_)
      · first | refine j_aload_n d_Re_propose_43 rfl ?_ | refine j_aload_nq d_Re_propose_43 rfl ?_ | refine j_aload_nN d_Re_propose_43 rfl ?_
        refine j_get d_Re_propose_44 f_Re_25 (hC_p hp (by decide)) rfl ?_
        refine j_get d_Re_propose_47 f_Re_128 (hC_p hp (by decide)) rfl ?_
        refine j_iconst (v := mI 0) d_Re_propose_50 (by decide +kernel) ?_
        first | refine nn_icmp_ne (t := 61) d_Re_propose_51 (by decide) (by omega) (by omega) (fun c51 => ?_) (fun c51 => ?_) | refine mm_icmp_ne (t := 61) d_Re_propose_51 (by decide) (by omega) (by omega) (fun c51 => ?_) (fun c51 => ?_) | refine mn_icmp_ne (t := 61) d_Re_propose_51 (by decide) (by omega) (by omega) (fun c51 => ?_) (fun c51 => ?_) | refine nm_icmp_ne (t := 61) d_Re_propose_51 (by decide) (by omega) (by omega) (fun c51 => ?_) (fun c51 => ?_) | refine j_icmp_ne (t := 61) d_Re_propose_51 (by decide) (fun c51 => ?_) (fun c51 => ?_)
        · first | refine j_aload_n d_Re_propose_61 rfl ?_ | refine j_aload_nq d_Re_propose_61 rfl ?_ | refine j_aload_nN d_Re_propose_61 rfl ?_
          refine j_get d_Re_propose_62 f_Re_25 (hC_p hp (by decide)) rfl ?_
          refine j_get d_Re_propose_65 f_Re_128 (hC_p hp (by decide)) rfl ?_
          refine j_istore_n d_Re_propose_68 (by decide) rfl rfl ?_
          refine j_iload_n d_Re_propose_69 rfl ?_
          refine j_iconst (v := mI 0) d_Re_propose_70 (by decide +kernel) ?_
          first | refine nn_icmp_ne (t := 76) d_Re_propose_71 (by decide) (by omega) (by omega) (fun c71 => ?_) (fun c71 => ?_) | refine mm_icmp_ne (t := 76) d_Re_propose_71 (by decide) (by omega) (by omega) (fun c71 => ?_) (fun c71 => ?_) | refine mn_icmp_ne (t := 76) d_Re_propose_71 (by decide) (by omega) (by omega) (fun c71 => ?_) (fun c71 => ?_) | refine nm_icmp_ne (t := 76) d_Re_propose_71 (by decide) (by omega) (by omega) (fun c71 => ?_) (fun c71 => ?_) | refine j_icmp_ne (t := 76) d_Re_propose_71 (by decide) (fun c71 => ?_) (fun c71 => ?_)
          · exfalso
            exact h ⟨c4, c19, (kr.1 p _ hp (slt_lt (by decide) hr6 hi)).mp c38, by rw [x3, ifP_f c51]; exact c71⟩
          · refine j_iconst (v := nI 0) d_Re_propose_74 (by decide +kernel) ?_
            exact j_zret d_Re_propose_75 rfl (by decide +kernel) ⟨rfl, rfl⟩
        · first | refine j_aload_n d_Re_propose_54 rfl ?_ | refine j_aload_nq d_Re_propose_54 rfl ?_ | refine j_aload_nN d_Re_propose_54 rfl ?_
          refine j_callV0 (As := []) G0_good G0_E d_Re_propose_55 c_Re_173 rfl rfl (t_Re_firstGood hp hb h32) (hC_p hp (by decide)) rfl rfl (by decide) (Nat.le_of_ble_eq_true rfl) ?_
          rintro _ _ ⟨rfl, rfl⟩
          refine j_goto (t := 68) d_Re_propose_58 (by decide) ?_
          refine j_istore_n d_Re_propose_68 (by decide) rfl rfl ?_
          refine j_iload_n d_Re_propose_69 rfl ?_
          refine j_iconst (v := mI 0) d_Re_propose_70 (by decide +kernel) ?_
          first | refine nn_icmp_ne (t := 76) d_Re_propose_71 (by decide) (by omega) (by omega) (fun c71 => ?_) (fun c71 => ?_) | refine mm_icmp_ne (t := 76) d_Re_propose_71 (by decide) (by omega) (by omega) (fun c71 => ?_) (fun c71 => ?_) | refine mn_icmp_ne (t := 76) d_Re_propose_71 (by decide) (by omega) (by omega) (fun c71 => ?_) (fun c71 => ?_) | refine nm_icmp_ne (t := 76) d_Re_propose_71 (by decide) (by omega) (by omega) (fun c71 => ?_) (fun c71 => ?_) | refine j_icmp_ne (t := 76) d_Re_propose_71 (by decide) (fun c71 => ?_) (fun c71 => ?_)
          · exfalso
            exact h ⟨c4, c19, (kr.1 p _ hp (slt_lt (by decide) hr6 hi)).mp c38, by rw [x3, ifP_t c51]; exact c71⟩
          · refine j_iconst (v := nI 0) d_Re_propose_74 (by decide +kernel) ?_
            exact j_zret d_Re_propose_75 rfl (by decide +kernel) ⟨rfl, rfl⟩
      · refine j_iconst (v := nI 0) d_Re_propose_41 (by decide +kernel) ?_
        exact j_zret d_Re_propose_42 rfl (by decide +kernel) ⟨rfl, rfl⟩

set_option maxHeartbeats 4000000 in
set_option maxRecDepth 100000 in
theorem t_Re_vote_t {l : Launch} {D : va_G} {B nx : Nat} {σ : Sg} {κ : Kp} {g : Nat → Option va_E} {p : Nat} (hp : p < 8) (hb : bd σ) (h32 : σ 34 0 0 ≤ 32) (kr : KR B σ κ nx) (hr6 : σ 11 p 0 < 6) (h918 : σ 20 (p / 4) 0 < 918) (hc6 : ∀ j, σ 30 p j ≤ 6) (h : g4 σ p) : jM (G0 l D) m_Re_vote 4 1 7 [.ref (aP B p + 3)] (hC D B σ κ g, nx) (fun v h => v = some (.int (nI 1)) ∧ h = (hC D B (a4 σ p) (Ksend σ κ nx p 1 (x4 σ p) 0) g, nx + 1)) := by
  refine jM.of (by decide +kernel) (Nat.le_of_ble_eq_true rfl) rfl ?_
  have b10 := hb 10 p 0
  have b11 := hb 11 p 0
  have b12 := hb 12 p 0
  have b13 := hb 13 p 0
  have b14 := hb 14 p 0
  have b15 := hb 15 p 0
  have b16 := hb 16 p 0
  have hi : p % 4 < 4 := Nat.mod_lt _ (by decide)
  have bld : ld σ p (σ 11 p 0) < 4 := ld_lt
  have hnx : B + 93 ≤ nx := by have := kr.2.2.2.2.1.1; omega
  have q1 := h.1
  first | refine j_aload_n d_Re_vote_0 rfl ?_ | refine j_aload_nq d_Re_vote_0 rfl ?_ | refine j_aload_nN d_Re_vote_0 rfl ?_
  refine j_get d_Re_vote_1 f_Re_87 (hC_p hp (by decide)) rfl ?_
  first | refine c_if_eq (t := 9) d_Re_vote_4 (by decide) (fun c4 => ?_) (fun c4 => ?_) | refine n_if_eq (t := 9) d_Re_vote_4 (by decide) (by omega) (fun c4 => ?_) (fun c4 => ?_) | refine j_if_eq (t := 9) d_Re_vote_4 (by decide) (fun c4 => ?_) (fun c4 => ?_)
  · first | refine j_aload_n d_Re_vote_9 rfl ?_ | refine j_aload_nq d_Re_vote_9 rfl ?_ | refine j_aload_nN d_Re_vote_9 rfl ?_
    refine j_get d_Re_vote_10 f_Re_12 (hC_p hp (by decide)) rfl ?_
    refine j_iconst (v := nI 0) d_Re_vote_13 (by decide +kernel) ?_
    first | refine j_aload_n d_Re_vote_14 rfl ?_ | refine j_aload_nq d_Re_vote_14 rfl ?_ | refine j_aload_nN d_Re_vote_14 rfl ?_
    refine j_get d_Re_vote_15 f_Re_93 (hC_p hp (by decide)) rfl ?_
    first | refine j_aload_n d_Re_vote_18 rfl ?_ | refine j_aload_nq d_Re_vote_18 rfl ?_ | refine j_aload_nN d_Re_vote_18 rfl ?_
    first | refine j_aload_n d_Re_vote_19 rfl ?_ | refine j_aload_nq d_Re_vote_19 rfl ?_ | refine j_aload_nN d_Re_vote_19 rfl ?_
    refine j_get d_Re_vote_20 f_Re_93 (hC_p hp (by decide)) rfl ?_
    refine j_callV0 (As := [_]) G0_good G0_E d_Re_vote_23 c_Re_159 rfl rfl (t_Re_leaderOf hp hb (σ 11 p 0) (by omega)) (hC_p hp (by decide)) rfl rfl (by decide) (Nat.le_of_ble_eq_true rfl) ?_
    rintro _ _ ⟨rfl, rfl⟩
    refine j_callV0 (As := [_, _, _]) G0_good G0_E d_Re_vote_26 c_Re_80 rfl rfl (t_In_find hp 0 (σ 11 p 0) (ld σ p (σ 11 p 0)) (by decide) hr6 ld_lt) (hC_p hp (by decide)) rfl rfl (by decide) (Nat.le_of_ble_eq_true rfl) ?_
    rintro _ _ ⟨rfl, rfl⟩
    first | refine j_astore_n d_Re_vote_29 (by decide) rfl rfl ?_ | refine j_astore_nq d_Re_vote_29 (by decide) rfl rfl ?_ | refine j_astore_nN d_Re_vote_29 (by decide) rfl rfl ?_
    first | refine j_aload_n d_Re_vote_30 rfl ?_ | refine j_aload_nq d_Re_vote_30 rfl ?_ | refine j_aload_nN d_Re_vote_30 rfl ?_
    refine j_ifnull (t := 42) d_Re_vote_31 (by decide) (fun c31 => ?_) (fun x31 c31 => ?_)
    · exfalso
      exact h.2.1 ((kr.1 p _ hp (slt_lt (by decide) hr6 ld_lt)).mp c31)
    · rw [c31]
      obtain ⟨hpr, hm, e4, e5⟩ := kr.2.1 p _ _ hp (slt_lt (by decide) hr6 ld_lt) c31
      have e4p : prp σ p (σ 11 p 0) = κ.2.2.2 x31 4 + 1 := e4.symm
      have e4q : prp σ p (σ 11 p 0) - 1 = κ.2.2.2 x31 4 := by rw [e4p, Nat.add_sub_cancel]
      have e5p : prc σ p (σ 11 p 0) = κ.2.2.2 x31 5 := e5.symm
      have b4 := kr.2.2.2.2.2 _ 4 hpr
      first | refine j_aload_n d_Re_vote_34 rfl ?_ | refine j_aload_nq d_Re_vote_34 rfl ?_ | refine j_aload_nN d_Re_vote_34 rfl ?_
      first | refine j_aload_n d_Re_vote_35 rfl ?_ | refine j_aload_nq d_Re_vote_35 rfl ?_ | refine j_aload_nN d_Re_vote_35 rfl ?_
      refine j_callV0 (As := [_]) G0_good G0_E d_Re_vote_36 c_Re_180 rfl rfl (t_Re_isBacked hp hb h32 kr hm hpr (by rw [e5]; exact hc6 _)) (hC_p hp (by decide)) rfl rfl (by decide) (Nat.le_of_ble_eq_true rfl) ?_
      rintro _ _ ⟨rfl, rfl⟩
      first | refine c_if_ne (t := 44) d_Re_vote_39 (by decide) (fun c39 => ?_) (fun c39 => ?_) | refine n_if_ne (t := 44) d_Re_vote_39 (by decide) (by omega) (fun c39 => ?_) (fun c39 => ?_) | refine j_if_ne (t := 44) d_Re_vote_39 (by decide) (fun c39 => ?_) (fun c39 => ?_)
      · first | refine j_aload_n d_Re_vote_44 rfl ?_ | refine j_aload_nq d_Re_vote_44 rfl ?_ | refine j_aload_nN d_Re_vote_44 rfl ?_
        first | refine j_aload_n d_Re_vote_45 rfl ?_ | refine j_aload_nq d_Re_vote_45 rfl ?_ | refine j_aload_nN d_Re_vote_45 rfl ?_
        first | refine j_aload_n d_Re_vote_46 rfl ?_ | refine j_aload_nq d_Re_vote_46 rfl ?_ | refine j_aload_nN d_Re_vote_46 rfl ?_
        refine j_callV0 (As := [_]) G0_good G0_E d_Re_vote_47 c_Re_184 rfl rfl (t_Re_isWelcome hp hb h32 kr hm hpr) (hC_p hp (by decide)) rfl rfl (by decide) (Nat.le_of_ble_eq_true rfl) ?_
        rintro _ _ ⟨rfl, rfl⟩
        first | refine c_if_eq (t := 60) d_Re_vote_50 (by decide) (fun c50 => ?_) (fun c50 => ?_) | refine n_if_eq (t := 60) d_Re_vote_50 (by decide) (by omega) (fun c50 => ?_) (fun c50 => ?_) | refine j_if_eq (t := 60) d_Re_vote_50 (by decide) (fun c50 => ?_) (fun c50 => ?_)
        · refine j_iconst (v := mI 0) d_Re_vote_60 (by decide +kernel) ?_
          have ex : 0 = x4 σ p := by rw [x4, ifP_f (fun z => c50 (by rw [e4q, e5p] at z; exact z))]
          rw [show mI (0) = mI (x4 σ p) from congrArg mI ex]
          refine j_callV1 (As := [_]) G0_good G0_E d_Re_vote_61 c_Re_90 rfl rfl (t_Re_sendVote hp hb hnx h918 hr6 (x4 σ p)) (hC_p hp (by decide)) rfl rfl (by decide) (Nat.le_of_ble_eq_true rfl) ?_
          rintro _ _ ⟨rfl, rfl⟩
          refine j_iconst (v := nI 1) d_Re_vote_64 (by decide +kernel) ?_
          exact j_zret d_Re_vote_65 rfl (by decide +kernel) ⟨rfl, rfl⟩
        · first | refine j_aload_n d_Re_vote_53 rfl ?_ | refine j_aload_nq d_Re_vote_53 rfl ?_ | refine j_aload_nN d_Re_vote_53 rfl ?_
          refine j_get d_Re_vote_54 f_Re_162 (hC_m hm hpr) rfl ?_
          refine j_goto (t := 61) d_Re_vote_57 (by decide) ?_
          have ex : κ.2.2.2 x31 4 = x4 σ p := by rw [x4, ifP_t (by rw [e4q, e5p]; exact c50), e4q]
          rw [show mI (κ.2.2.2 x31 4) = mI (x4 σ p) from congrArg mI ex]
          refine j_callV1 (As := [_]) G0_good G0_E d_Re_vote_61 c_Re_90 rfl rfl (t_Re_sendVote hp hb hnx h918 hr6 (x4 σ p)) (hC_p hp (by decide)) rfl rfl (by decide) (Nat.le_of_ble_eq_true rfl) ?_
          rintro _ _ ⟨rfl, rfl⟩
          refine j_iconst (v := nI 1) d_Re_vote_64 (by decide +kernel) ?_
          exact j_zret d_Re_vote_65 rfl (by decide +kernel) ⟨rfl, rfl⟩
      · exfalso
        exact c39 (by have z := h.2.2; rw [e4q, e5p] at z; exact z)
  · exfalso; first | exact c4 | omega

set_option maxHeartbeats 4000000 in
set_option maxRecDepth 100000 in
theorem t_Re_vote_f {l : Launch} {D : va_G} {B nx : Nat} {σ : Sg} {κ : Kp} {g : Nat → Option va_E} {p : Nat} (hp : p < 8) (hb : bd σ) (h32 : σ 34 0 0 ≤ 32) (kr : KR B σ κ nx) (hr6 : σ 11 p 0 < 6) (hc6 : ∀ j, σ 30 p j ≤ 6) (h : ¬ g4 σ p) : jM (G0 l D) m_Re_vote 4 0 0 [.ref (aP B p + 3)] (hC D B σ κ g, nx) (fun v h => v = some (.int (nI 0)) ∧ h = (hC D B σ κ g, nx)) := by
  refine jM.of (by decide +kernel) (Nat.le_of_ble_eq_true rfl) rfl ?_
  have b10 := hb 10 p 0
  have b11 := hb 11 p 0
  have b12 := hb 12 p 0
  have b13 := hb 13 p 0
  have b14 := hb 14 p 0
  have b15 := hb 15 p 0
  have b16 := hb 16 p 0
  have hi : p % 4 < 4 := Nat.mod_lt _ (by decide)
  have bld : ld σ p (σ 11 p 0) < 4 := ld_lt
  have hnx : B + 93 ≤ nx := by have := kr.2.2.2.2.1.1; omega
  first | refine j_aload_n d_Re_vote_0 rfl ?_ | refine j_aload_nq d_Re_vote_0 rfl ?_ | refine j_aload_nN d_Re_vote_0 rfl ?_
  refine j_get d_Re_vote_1 f_Re_87 (hC_p hp (by decide)) rfl ?_
  first | refine c_if_eq (t := 9) d_Re_vote_4 (by decide) (fun c4 => ?_) (fun c4 => ?_) | refine n_if_eq (t := 9) d_Re_vote_4 (by decide) (by omega) (fun c4 => ?_) (fun c4 => ?_) | refine j_if_eq (t := 9) d_Re_vote_4 (by decide) (fun c4 => ?_) (fun c4 => ?_)
  · first | refine j_aload_n d_Re_vote_9 rfl ?_ | refine j_aload_nq d_Re_vote_9 rfl ?_ | refine j_aload_nN d_Re_vote_9 rfl ?_
    refine j_get d_Re_vote_10 f_Re_12 (hC_p hp (by decide)) rfl ?_
    refine j_iconst (v := nI 0) d_Re_vote_13 (by decide +kernel) ?_
    first | refine j_aload_n d_Re_vote_14 rfl ?_ | refine j_aload_nq d_Re_vote_14 rfl ?_ | refine j_aload_nN d_Re_vote_14 rfl ?_
    refine j_get d_Re_vote_15 f_Re_93 (hC_p hp (by decide)) rfl ?_
    first | refine j_aload_n d_Re_vote_18 rfl ?_ | refine j_aload_nq d_Re_vote_18 rfl ?_ | refine j_aload_nN d_Re_vote_18 rfl ?_
    first | refine j_aload_n d_Re_vote_19 rfl ?_ | refine j_aload_nq d_Re_vote_19 rfl ?_ | refine j_aload_nN d_Re_vote_19 rfl ?_
    refine j_get d_Re_vote_20 f_Re_93 (hC_p hp (by decide)) rfl ?_
    refine j_callV0 (As := [_]) G0_good G0_E d_Re_vote_23 c_Re_159 rfl rfl (t_Re_leaderOf hp hb (σ 11 p 0) (by omega)) (hC_p hp (by decide)) rfl rfl (by decide) (Nat.le_of_ble_eq_true rfl) ?_
    rintro _ _ ⟨rfl, rfl⟩
    refine j_callV0 (As := [_, _, _]) G0_good G0_E d_Re_vote_26 c_Re_80 rfl rfl (t_In_find hp 0 (σ 11 p 0) (ld σ p (σ 11 p 0)) (by decide) hr6 ld_lt) (hC_p hp (by decide)) rfl rfl (by decide) (Nat.le_of_ble_eq_true rfl) ?_
    rintro _ _ ⟨rfl, rfl⟩
    first | refine j_astore_n d_Re_vote_29 (by decide) rfl rfl ?_ | refine j_astore_nq d_Re_vote_29 (by decide) rfl rfl ?_ | refine j_astore_nN d_Re_vote_29 (by decide) rfl rfl ?_
    first | refine j_aload_n d_Re_vote_30 rfl ?_ | refine j_aload_nq d_Re_vote_30 rfl ?_ | refine j_aload_nN d_Re_vote_30 rfl ?_
    refine j_ifnull (t := 42) d_Re_vote_31 (by decide) (fun c31 => ?_) (fun x31 c31 => ?_)
    · refine j_iconst (v := nI 0) d_Re_vote_42 (by decide +kernel) ?_
      exact j_zret d_Re_vote_43 rfl (by decide +kernel) ⟨rfl, rfl⟩
    · rw [c31]
      obtain ⟨hpr, hm, e4, e5⟩ := kr.2.1 p _ _ hp (slt_lt (by decide) hr6 ld_lt) c31
      have e4p : prp σ p (σ 11 p 0) = κ.2.2.2 x31 4 + 1 := e4.symm
      have e4q : prp σ p (σ 11 p 0) - 1 = κ.2.2.2 x31 4 := by rw [e4p, Nat.add_sub_cancel]
      have e5p : prc σ p (σ 11 p 0) = κ.2.2.2 x31 5 := e5.symm
      have b4 := kr.2.2.2.2.2 _ 4 hpr
      first | refine j_aload_n d_Re_vote_34 rfl ?_ | refine j_aload_nq d_Re_vote_34 rfl ?_ | refine j_aload_nN d_Re_vote_34 rfl ?_
      first | refine j_aload_n d_Re_vote_35 rfl ?_ | refine j_aload_nq d_Re_vote_35 rfl ?_ | refine j_aload_nN d_Re_vote_35 rfl ?_
      refine j_callV0 (As := [_]) G0_good G0_E d_Re_vote_36 c_Re_180 rfl rfl (t_Re_isBacked hp hb h32 kr hm hpr (by rw [e5]; exact hc6 _)) (hC_p hp (by decide)) rfl rfl (by decide) (Nat.le_of_ble_eq_true rfl) ?_
      rintro _ _ ⟨rfl, rfl⟩
      first | refine c_if_ne (t := 44) d_Re_vote_39 (by decide) (fun c39 => ?_) (fun c39 => ?_) | refine n_if_ne (t := 44) d_Re_vote_39 (by decide) (by omega) (fun c39 => ?_) (fun c39 => ?_) | refine j_if_ne (t := 44) d_Re_vote_39 (by decide) (fun c39 => ?_) (fun c39 => ?_)
      · exfalso
        exact h ⟨c4, by omega, by rw [e4q, e5p]; exact c39⟩
      · refine j_iconst (v := nI 0) d_Re_vote_42 (by decide +kernel) ?_
        exact j_zret d_Re_vote_43 rfl (by decide +kernel) ⟨rfl, rfl⟩
  · refine j_iconst (v := nI 0) d_Re_vote_7 (by decide +kernel) ?_
    exact j_zret d_Re_vote_8 rfl (by decide +kernel) ⟨rfl, rfl⟩

set_option maxHeartbeats 4000000 in
set_option maxRecDepth 100000 in
theorem t_Re_sealNone_t {l : Launch} {D : va_G} {B nx : Nat} {σ : Sg} {κ : Kp} {g : Nat → Option va_E} {p : Nat} (hp : p < 8) (hb : bd σ) (h32 : σ 34 0 0 ≤ 32) (kr : KR B σ κ nx) (hr6 : σ 11 p 0 < 6) (h918 : σ 20 (p / 4) 0 < 918) (h : g6 σ p) : jM (G0 l D) m_Re_sealNone 4 1 7 [.ref (aP B p + 3)] (hC D B σ κ g, nx) (fun v h => v = some (.int (nI 1)) ∧ h = (hC D B (a6 σ p) (Ksend σ κ nx p 2 0 0) g, nx + 1)) := by
  refine jM.of (by decide +kernel) (Nat.le_of_ble_eq_true rfl) rfl ?_
  have b10 := hb 10 p 0
  have b11 := hb 11 p 0
  have b12 := hb 12 p 0
  have b13 := hb 13 p 0
  have b14 := hb 14 p 0
  have b15 := hb 15 p 0
  have b16 := hb 16 p 0
  have hi : p % 4 < 4 := Nat.mod_lt _ (by decide)
  have bld : ld σ p (σ 11 p 0) < 4 := ld_lt
  have hnx : B + 93 ≤ nx := by have := kr.2.2.2.2.1.1; omega
  have q1 := h.1
  first | refine j_aload_n d_Re_sealNone_0 rfl ?_ | refine j_aload_nq d_Re_sealNone_0 rfl ?_ | refine j_aload_nN d_Re_sealNone_0 rfl ?_
  refine j_get d_Re_sealNone_1 f_Re_87 (hC_p hp (by decide)) rfl ?_
  refine j_iconst (v := nI 1) d_Re_sealNone_4 (by decide +kernel) ?_
  first | refine nn_icmp_ne (t := 24) d_Re_sealNone_5 (by decide) (by omega) (by omega) (fun c5 => ?_) (fun c5 => ?_) | refine mm_icmp_ne (t := 24) d_Re_sealNone_5 (by decide) (by omega) (by omega) (fun c5 => ?_) (fun c5 => ?_) | refine mn_icmp_ne (t := 24) d_Re_sealNone_5 (by decide) (by omega) (by omega) (fun c5 => ?_) (fun c5 => ?_) | refine nm_icmp_ne (t := 24) d_Re_sealNone_5 (by decide) (by omega) (by omega) (fun c5 => ?_) (fun c5 => ?_) | refine j_icmp_ne (t := 24) d_Re_sealNone_5 (by decide) (fun c5 => ?_) (fun c5 => ?_)
  · exfalso; first | exact c5 | omega
  · first | refine j_aload_n d_Re_sealNone_8 rfl ?_ | refine j_aload_nq d_Re_sealNone_8 rfl ?_ | refine j_aload_nN d_Re_sealNone_8 rfl ?_
    refine j_get d_Re_sealNone_9 f_Re_12 (hC_p hp (by decide)) rfl ?_
    refine j_iconst (v := nI 1) d_Re_sealNone_12 (by decide +kernel) ?_
    first | refine j_aload_n d_Re_sealNone_13 rfl ?_ | refine j_aload_nq d_Re_sealNone_13 rfl ?_ | refine j_aload_nN d_Re_sealNone_13 rfl ?_
    refine j_get d_Re_sealNone_14 f_Re_93 (hC_p hp (by decide)) rfl ?_
    refine j_iconst (v := mI 0) d_Re_sealNone_17 (by decide +kernel) ?_
    refine j_callV0 (As := [_, _, _]) G0_good G0_E d_Re_sealNone_18 c_Re_166 rfl rfl (t_In_hasQuorumFor hp hb kr 1 (σ 11 p 0) 0 (by decide) hr6 (by decide)) (hC_p hp (by decide)) rfl rfl (by decide) (Nat.le_of_ble_eq_true rfl) ?_
    rintro _ _ ⟨rfl, rfl⟩
    first | refine c_if_ne (t := 26) d_Re_sealNone_21 (by decide) (fun c21 => ?_) (fun c21 => ?_) | refine n_if_ne (t := 26) d_Re_sealNone_21 (by decide) (by omega) (fun c21 => ?_) (fun c21 => ?_) | refine j_if_ne (t := 26) d_Re_sealNone_21 (by decide) (fun c21 => ?_) (fun c21 => ?_)
    · first | refine j_aload_n d_Re_sealNone_26 rfl ?_ | refine j_aload_nq d_Re_sealNone_26 rfl ?_ | refine j_aload_nN d_Re_sealNone_26 rfl ?_
      refine j_iconst (v := mI 0) d_Re_sealNone_27 (by decide +kernel) ?_
      refine j_callV1 (As := [_]) G0_good G0_E d_Re_sealNone_28 c_Re_100 rfl rfl (t_Re_sendSeal hp hb hnx h918 hr6 0) (hC_p hp (by decide)) rfl rfl (by decide) (Nat.le_of_ble_eq_true rfl) ?_
      rintro _ _ ⟨rfl, rfl⟩
      refine j_iconst (v := nI 1) d_Re_sealNone_31 (by decide +kernel) ?_
      exact j_zret d_Re_sealNone_32 rfl (by decide +kernel) ⟨rfl, rfl⟩
    · exact absurd h.2 c21

set_option maxHeartbeats 4000000 in
set_option maxRecDepth 100000 in
theorem t_Re_sealNone_f {l : Launch} {D : va_G} {B nx : Nat} {σ : Sg} {κ : Kp} {g : Nat → Option va_E} {p : Nat} (hp : p < 8) (hb : bd σ) (h32 : σ 34 0 0 ≤ 32) (kr : KR B σ κ nx) (hr6 : σ 11 p 0 < 6) (h : ¬ g6 σ p) : jM (G0 l D) m_Re_sealNone 4 0 0 [.ref (aP B p + 3)] (hC D B σ κ g, nx) (fun v h => v = some (.int (nI 0)) ∧ h = (hC D B σ κ g, nx)) := by
  refine jM.of (by decide +kernel) (Nat.le_of_ble_eq_true rfl) rfl ?_
  have b10 := hb 10 p 0
  have b11 := hb 11 p 0
  have b12 := hb 12 p 0
  have b13 := hb 13 p 0
  have b14 := hb 14 p 0
  have b15 := hb 15 p 0
  have b16 := hb 16 p 0
  have hi : p % 4 < 4 := Nat.mod_lt _ (by decide)
  have bld : ld σ p (σ 11 p 0) < 4 := ld_lt
  have hnx : B + 93 ≤ nx := by have := kr.2.2.2.2.1.1; omega
  first | refine j_aload_n d_Re_sealNone_0 rfl ?_ | refine j_aload_nq d_Re_sealNone_0 rfl ?_ | refine j_aload_nN d_Re_sealNone_0 rfl ?_
  refine j_get d_Re_sealNone_1 f_Re_87 (hC_p hp (by decide)) rfl ?_
  refine j_iconst (v := nI 1) d_Re_sealNone_4 (by decide +kernel) ?_
  first | refine nn_icmp_ne (t := 24) d_Re_sealNone_5 (by decide) (by omega) (by omega) (fun c5 => ?_) (fun c5 => ?_) | refine mm_icmp_ne (t := 24) d_Re_sealNone_5 (by decide) (by omega) (by omega) (fun c5 => ?_) (fun c5 => ?_) | refine mn_icmp_ne (t := 24) d_Re_sealNone_5 (by decide) (by omega) (by omega) (fun c5 => ?_) (fun c5 => ?_) | refine nm_icmp_ne (t := 24) d_Re_sealNone_5 (by decide) (by omega) (by omega) (fun c5 => ?_) (fun c5 => ?_) | refine j_icmp_ne (t := 24) d_Re_sealNone_5 (by decide) (fun c5 => ?_) (fun c5 => ?_)
  · refine j_iconst (v := nI 0) d_Re_sealNone_24 (by decide +kernel) ?_
    exact j_zret d_Re_sealNone_25 rfl (by decide +kernel) ⟨rfl, rfl⟩
  · first | refine j_aload_n d_Re_sealNone_8 rfl ?_ | refine j_aload_nq d_Re_sealNone_8 rfl ?_ | refine j_aload_nN d_Re_sealNone_8 rfl ?_
    refine j_get d_Re_sealNone_9 f_Re_12 (hC_p hp (by decide)) rfl ?_
    refine j_iconst (v := nI 1) d_Re_sealNone_12 (by decide +kernel) ?_
    first | refine j_aload_n d_Re_sealNone_13 rfl ?_ | refine j_aload_nq d_Re_sealNone_13 rfl ?_ | refine j_aload_nN d_Re_sealNone_13 rfl ?_
    refine j_get d_Re_sealNone_14 f_Re_93 (hC_p hp (by decide)) rfl ?_
    refine j_iconst (v := mI 0) d_Re_sealNone_17 (by decide +kernel) ?_
    refine j_callV0 (As := [_, _, _]) G0_good G0_E d_Re_sealNone_18 c_Re_166 rfl rfl (t_In_hasQuorumFor hp hb kr 1 (σ 11 p 0) 0 (by decide) hr6 (by decide)) (hC_p hp (by decide)) rfl rfl (by decide) (Nat.le_of_ble_eq_true rfl) ?_
    rintro _ _ ⟨rfl, rfl⟩
    first | refine c_if_ne (t := 26) d_Re_sealNone_21 (by decide) (fun c21 => ?_) (fun c21 => ?_) | refine n_if_ne (t := 26) d_Re_sealNone_21 (by decide) (by omega) (fun c21 => ?_) (fun c21 => ?_) | refine j_if_ne (t := 26) d_Re_sealNone_21 (by decide) (fun c21 => ?_) (fun c21 => ?_)
    · exact absurd ⟨c5, c21⟩ h
    · refine j_iconst (v := nI 0) d_Re_sealNone_24 (by decide +kernel) ?_
      exact j_zret d_Re_sealNone_25 rfl (by decide +kernel) ⟨rfl, rfl⟩

set_option maxHeartbeats 4000000 in
set_option maxRecDepth 100000 in
theorem t_Re_choose_f {l : Launch} {D : va_G} {B nx : Nat} {σ : Sg} {κ : Kp} {g : Nat → Option va_E} {p : Nat} (hp : p < 8) (hb : bd σ) (h32 : σ 34 0 0 ≤ 32) (kr : KR B σ κ nx) (hr6 : σ 11 p 0 < 6) (h : ¬ g5 σ p) : jM (G0 l D) m_Re_chooseCandidate 4 0 0 [.ref (aP B p + 3)] (hC D B σ κ g, nx) (fun v h => v = some (.int (nI 0)) ∧ h = (hC D B σ κ g, nx)) := by
  refine jM.of (by decide +kernel) (Nat.le_of_ble_eq_true rfl) rfl ?_
  have b10 := hb 10 p 0
  have b11 := hb 11 p 0
  have b12 := hb 12 p 0
  have b13 := hb 13 p 0
  have b14 := hb 14 p 0
  have b15 := hb 15 p 0
  have b16 := hb 16 p 0
  have hi : p % 4 < 4 := Nat.mod_lt _ (by decide)
  have bld : ld σ p (σ 11 p 0) < 4 := ld_lt
  have hnx : B + 93 ≤ nx := by have := kr.2.2.2.2.1.1; omega
  first | refine j_aload_n d_Re_chooseCandidate_0 rfl ?_ | refine j_aload_nq d_Re_chooseCandidate_0 rfl ?_ | refine j_aload_nN d_Re_chooseCandidate_0 rfl ?_
  refine j_get d_Re_chooseCandidate_1 f_Re_87 (hC_p hp (by decide)) rfl ?_
  first | refine c_if_eq (t := 21) d_Re_chooseCandidate_4 (by decide) (fun c4 => ?_) (fun c4 => ?_) | refine n_if_eq (t := 21) d_Re_chooseCandidate_4 (by decide) (by omega) (fun c4 => ?_) (fun c4 => ?_) | refine j_if_eq (t := 21) d_Re_chooseCandidate_4 (by decide) (fun c4 => ?_) (fun c4 => ?_)
  · refine j_iconst (v := nI 0) d_Re_chooseCandidate_21 (by decide +kernel) ?_
    exact j_zret d_Re_chooseCandidate_22 rfl (by decide +kernel) ⟨rfl, rfl⟩
  · first | refine j_aload_n d_Re_chooseCandidate_7 rfl ?_ | refine j_aload_nq d_Re_chooseCandidate_7 rfl ?_ | refine j_aload_nN d_Re_chooseCandidate_7 rfl ?_
    refine j_get d_Re_chooseCandidate_8 f_Re_25 (hC_p hp (by decide)) rfl ?_
    refine j_get d_Re_chooseCandidate_11 f_Re_131 (hC_p hp (by decide)) rfl ?_
    first | refine j_aload_n d_Re_chooseCandidate_14 rfl ?_ | refine j_aload_nq d_Re_chooseCandidate_14 rfl ?_ | refine j_aload_nN d_Re_chooseCandidate_14 rfl ?_
    refine j_get d_Re_chooseCandidate_15 f_Re_93 (hC_p hp (by decide)) rfl ?_
    first | refine nn_icmp_ne (t := 23) d_Re_chooseCandidate_18 (by decide) (by omega) (by omega) (fun c18 => ?_) (fun c18 => ?_) | refine mm_icmp_ne (t := 23) d_Re_chooseCandidate_18 (by decide) (by omega) (by omega) (fun c18 => ?_) (fun c18 => ?_) | refine mn_icmp_ne (t := 23) d_Re_chooseCandidate_18 (by decide) (by omega) (by omega) (fun c18 => ?_) (fun c18 => ?_) | refine nm_icmp_ne (t := 23) d_Re_chooseCandidate_18 (by decide) (by omega) (by omega) (fun c18 => ?_) (fun c18 => ?_) | refine j_icmp_ne (t := 23) d_Re_chooseCandidate_18 (by decide) (fun c18 => ?_) (fun c18 => ?_)
    · first | refine j_aload_n d_Re_chooseCandidate_23 rfl ?_ | refine j_aload_nq d_Re_chooseCandidate_23 rfl ?_ | refine j_aload_nN d_Re_chooseCandidate_23 rfl ?_
      refine j_get d_Re_chooseCandidate_24 f_Re_12 (hC_p hp (by decide)) rfl ?_
      refine j_iconst (v := nI 0) d_Re_chooseCandidate_27 (by decide +kernel) ?_
      first | refine j_aload_n d_Re_chooseCandidate_28 rfl ?_ | refine j_aload_nq d_Re_chooseCandidate_28 rfl ?_ | refine j_aload_nN d_Re_chooseCandidate_28 rfl ?_
      refine j_get d_Re_chooseCandidate_29 f_Re_93 (hC_p hp (by decide)) rfl ?_
      first | refine j_aload_n d_Re_chooseCandidate_32 rfl ?_ | refine j_aload_nq d_Re_chooseCandidate_32 rfl ?_ | refine j_aload_nN d_Re_chooseCandidate_32 rfl ?_
      first | refine j_aload_n d_Re_chooseCandidate_33 rfl ?_ | refine j_aload_nq d_Re_chooseCandidate_33 rfl ?_ | refine j_aload_nN d_Re_chooseCandidate_33 rfl ?_
      refine j_get d_Re_chooseCandidate_34 f_Re_93 (hC_p hp (by decide)) rfl ?_
      refine j_callV0 (As := [_]) G0_good G0_E d_Re_chooseCandidate_37 c_Re_159 rfl rfl (t_Re_leaderOf hp hb (σ 11 p 0) (by omega)) (hC_p hp (by decide)) rfl rfl (by decide) (Nat.le_of_ble_eq_true rfl) ?_
      rintro _ _ ⟨rfl, rfl⟩
      refine j_callV0 (As := [_, _, _]) G0_good G0_E d_Re_chooseCandidate_40 c_Re_80 rfl rfl (t_In_find hp 0 (σ 11 p 0) (ld σ p (σ 11 p 0)) (by decide) hr6 ld_lt) (hC_p hp (by decide)) rfl rfl (by decide) (Nat.le_of_ble_eq_true rfl) ?_
      rintro _ _ ⟨rfl, rfl⟩
      first | refine j_astore_n d_Re_chooseCandidate_43 (by decide) rfl rfl ?_ | refine j_astore_nq d_Re_chooseCandidate_43 (by decide) rfl rfl ?_ | refine j_astore_nN d_Re_chooseCandidate_43 (by decide) rfl rfl ?_
      first | refine j_aload_n d_Re_chooseCandidate_44 rfl ?_ | refine j_aload_nq d_Re_chooseCandidate_44 rfl ?_ | refine j_aload_nN d_Re_chooseCandidate_44 rfl ?_
      refine j_ifnull (t := 59) d_Re_chooseCandidate_45 (by decide) (fun c45 => ?_) (fun x45 c45 => ?_)
      · refine j_iconst (v := nI 0) d_Re_chooseCandidate_59 (by decide +kernel) ?_
        exact j_zret d_Re_chooseCandidate_60 rfl (by decide +kernel) ⟨rfl, rfl⟩
      · rw [c45]
        obtain ⟨hpr, hm, e4, e5⟩ := kr.2.1 p _ _ hp (slt_lt (by decide) hr6 ld_lt) c45
        have e4p : prp σ p (σ 11 p 0) = κ.2.2.2 x45 4 + 1 := e4.symm
        have e4q : prp σ p (σ 11 p 0) - 1 = κ.2.2.2 x45 4 := by rw [e4p, Nat.add_sub_cancel]
        have e5p : prc σ p (σ 11 p 0) = κ.2.2.2 x45 5 := e5.symm
        have b4 := kr.2.2.2.2.2 _ 4 hpr
        first | refine j_aload_n d_Re_chooseCandidate_48 rfl ?_ | refine j_aload_nq d_Re_chooseCandidate_48 rfl ?_ | refine j_aload_nN d_Re_chooseCandidate_48 rfl ?_
        first | refine j_aload_n d_Re_chooseCandidate_49 rfl ?_ | refine j_aload_nq d_Re_chooseCandidate_49 rfl ?_ | refine j_aload_nN d_Re_chooseCandidate_49 rfl ?_
        refine j_get d_Re_chooseCandidate_50 f_Re_162 (hC_m hm hpr) rfl ?_
        refine j_callV0 (As := [_]) G0_good G0_E d_Re_chooseCandidate_53 c_Re_163 rfl rfl (t_Re_isGoodM hp hb h32 (κ.2.2.2 x45 4) (by omega)) (hC_p hp (by decide)) rfl rfl (by decide) (Nat.le_of_ble_eq_true rfl) ?_
        rintro _ _ ⟨rfl, rfl⟩
        first | refine c_if_ne (t := 61) d_Re_chooseCandidate_56 (by decide) (fun c56 => ?_) (fun c56 => ?_) | refine n_if_ne (t := 61) d_Re_chooseCandidate_56 (by decide) (by omega) (fun c56 => ?_) (fun c56 => ?_) | refine j_if_ne (t := 61) d_Re_chooseCandidate_56 (by decide) (fun c56 => ?_) (fun c56 => ?_)
        · first | refine j_aload_n d_Re_chooseCandidate_61 rfl ?_ | refine j_aload_nq d_Re_chooseCandidate_61 rfl ?_ | refine j_aload_nN d_Re_chooseCandidate_61 rfl ?_
          refine j_get d_Re_chooseCandidate_62 f_Re_162 (hC_m hm hpr) rfl ?_
          refine j_istore_n d_Re_chooseCandidate_65 (by decide) rfl rfl ?_
          first | refine j_aload_n d_Re_chooseCandidate_66 rfl ?_ | refine j_aload_nq d_Re_chooseCandidate_66 rfl ?_ | refine j_aload_nN d_Re_chooseCandidate_66 rfl ?_
          refine j_get d_Re_chooseCandidate_67 f_Re_12 (hC_p hp (by decide)) rfl ?_
          refine j_iconst (v := nI 1) d_Re_chooseCandidate_70 (by decide +kernel) ?_
          first | refine j_aload_n d_Re_chooseCandidate_71 rfl ?_ | refine j_aload_nq d_Re_chooseCandidate_71 rfl ?_ | refine j_aload_nN d_Re_chooseCandidate_71 rfl ?_
          refine j_get d_Re_chooseCandidate_72 f_Re_93 (hC_p hp (by decide)) rfl ?_
          refine j_iload_n d_Re_chooseCandidate_75 rfl ?_
          refine j_callV0 (As := [_, _, _]) G0_good G0_E d_Re_chooseCandidate_76 c_Re_166 rfl rfl (t_In_hasQuorumFor hp hb kr 1 (σ 11 p 0) (κ.2.2.2 x45 4) (by decide) hr6 (by omega)) (hC_p hp (by decide)) rfl rfl (by decide) (Nat.le_of_ble_eq_true rfl) ?_
          rintro _ _ ⟨rfl, rfl⟩
          first | refine c_if_ne (t := 84) d_Re_chooseCandidate_79 (by decide) (fun c79 => ?_) (fun c79 => ?_) | refine n_if_ne (t := 84) d_Re_chooseCandidate_79 (by decide) (by omega) (fun c79 => ?_) (fun c79 => ?_) | refine j_if_ne (t := 84) d_Re_chooseCandidate_79 (by decide) (fun c79 => ?_) (fun c79 => ?_)
          · exfalso
            exact h ⟨c4, c18, by omega, by rw [e4q]; exact c56, by rw [e4q]; exact c79⟩
          · refine j_iconst (v := nI 0) d_Re_chooseCandidate_82 (by decide +kernel) ?_
            exact j_zret d_Re_chooseCandidate_83 rfl (by decide +kernel) ⟨rfl, rfl⟩
        · refine j_iconst (v := nI 0) d_Re_chooseCandidate_59 (by decide +kernel) ?_
          exact j_zret d_Re_chooseCandidate_60 rfl (by decide +kernel) ⟨rfl, rfl⟩
    · refine j_iconst (v := nI 0) d_Re_chooseCandidate_21 (by decide +kernel) ?_
      exact j_zret d_Re_chooseCandidate_22 rfl (by decide +kernel) ⟨rfl, rfl⟩

set_option maxHeartbeats 4000000 in
set_option maxRecDepth 100000 in
theorem t_Re_choose_c {l : Launch} {D : va_G} {B nx : Nat} {σ : Sg} {κ : Kp} {g : Nat → Option va_E} {p : Nat} (hp : p < 8) (hb : bd σ) (h32 : σ 34 0 0 ≤ 32) (kr : KR B σ κ nx) (hr6 : σ 11 p 0 < 6) (h : g5 σ p) (h2 : ¬ σ 12 p 0 = 1) : jM (G0 l D) m_Re_chooseCandidate 4 0 0 [.ref (aP B p + 3)] (hC D B σ κ g, nx) (fun v h => v = some (.int (nI 1)) ∧ h = (hC D B (c5 σ p) (κ) g, nx)) := by
  refine jM.of (by decide +kernel) (Nat.le_of_ble_eq_true rfl) rfl ?_
  have b10 := hb 10 p 0
  have b11 := hb 11 p 0
  have b12 := hb 12 p 0
  have b13 := hb 13 p 0
  have b14 := hb 14 p 0
  have b15 := hb 15 p 0
  have b16 := hb 16 p 0
  have hi : p % 4 < 4 := Nat.mod_lt _ (by decide)
  have bld : ld σ p (σ 11 p 0) < 4 := ld_lt
  have hnx : B + 93 ≤ nx := by have := kr.2.2.2.2.1.1; omega
  have q1 := h.1
  have q2 := h.2.1
  have q3 : U (U σ 15 p 0 (prp σ p (σ 11 p 0) - 1)) 16 p 0 (σ 11 p 0 + 1) 12 p 0 = σ 12 p 0 := by rw [U_ne (by decide), U_ne (by decide)]
  first | refine j_aload_n d_Re_chooseCandidate_0 rfl ?_ | refine j_aload_nq d_Re_chooseCandidate_0 rfl ?_ | refine j_aload_nN d_Re_chooseCandidate_0 rfl ?_
  refine j_get d_Re_chooseCandidate_1 f_Re_87 (hC_p hp (by decide)) rfl ?_
  first | refine c_if_eq (t := 21) d_Re_chooseCandidate_4 (by decide) (fun c4 => ?_) (fun c4 => ?_) | refine n_if_eq (t := 21) d_Re_chooseCandidate_4 (by decide) (by omega) (fun c4 => ?_) (fun c4 => ?_) | refine j_if_eq (t := 21) d_Re_chooseCandidate_4 (by decide) (fun c4 => ?_) (fun c4 => ?_)
  · exfalso; first | exact c4 | omega
  · first | refine j_aload_n d_Re_chooseCandidate_7 rfl ?_ | refine j_aload_nq d_Re_chooseCandidate_7 rfl ?_ | refine j_aload_nN d_Re_chooseCandidate_7 rfl ?_
    refine j_get d_Re_chooseCandidate_8 f_Re_25 (hC_p hp (by decide)) rfl ?_
    refine j_get d_Re_chooseCandidate_11 f_Re_131 (hC_p hp (by decide)) rfl ?_
    first | refine j_aload_n d_Re_chooseCandidate_14 rfl ?_ | refine j_aload_nq d_Re_chooseCandidate_14 rfl ?_ | refine j_aload_nN d_Re_chooseCandidate_14 rfl ?_
    refine j_get d_Re_chooseCandidate_15 f_Re_93 (hC_p hp (by decide)) rfl ?_
    first | refine nn_icmp_ne (t := 23) d_Re_chooseCandidate_18 (by decide) (by omega) (by omega) (fun c18 => ?_) (fun c18 => ?_) | refine mm_icmp_ne (t := 23) d_Re_chooseCandidate_18 (by decide) (by omega) (by omega) (fun c18 => ?_) (fun c18 => ?_) | refine mn_icmp_ne (t := 23) d_Re_chooseCandidate_18 (by decide) (by omega) (by omega) (fun c18 => ?_) (fun c18 => ?_) | refine nm_icmp_ne (t := 23) d_Re_chooseCandidate_18 (by decide) (by omega) (by omega) (fun c18 => ?_) (fun c18 => ?_) | refine j_icmp_ne (t := 23) d_Re_chooseCandidate_18 (by decide) (fun c18 => ?_) (fun c18 => ?_)
    · first | refine j_aload_n d_Re_chooseCandidate_23 rfl ?_ | refine j_aload_nq d_Re_chooseCandidate_23 rfl ?_ | refine j_aload_nN d_Re_chooseCandidate_23 rfl ?_
      refine j_get d_Re_chooseCandidate_24 f_Re_12 (hC_p hp (by decide)) rfl ?_
      refine j_iconst (v := nI 0) d_Re_chooseCandidate_27 (by decide +kernel) ?_
      first | refine j_aload_n d_Re_chooseCandidate_28 rfl ?_ | refine j_aload_nq d_Re_chooseCandidate_28 rfl ?_ | refine j_aload_nN d_Re_chooseCandidate_28 rfl ?_
      refine j_get d_Re_chooseCandidate_29 f_Re_93 (hC_p hp (by decide)) rfl ?_
      first | refine j_aload_n d_Re_chooseCandidate_32 rfl ?_ | refine j_aload_nq d_Re_chooseCandidate_32 rfl ?_ | refine j_aload_nN d_Re_chooseCandidate_32 rfl ?_
      first | refine j_aload_n d_Re_chooseCandidate_33 rfl ?_ | refine j_aload_nq d_Re_chooseCandidate_33 rfl ?_ | refine j_aload_nN d_Re_chooseCandidate_33 rfl ?_
      refine j_get d_Re_chooseCandidate_34 f_Re_93 (hC_p hp (by decide)) rfl ?_
      refine j_callV0 (As := [_]) G0_good G0_E d_Re_chooseCandidate_37 c_Re_159 rfl rfl (t_Re_leaderOf hp hb (σ 11 p 0) (by omega)) (hC_p hp (by decide)) rfl rfl (by decide) (Nat.le_of_ble_eq_true rfl) ?_
      rintro _ _ ⟨rfl, rfl⟩
      refine j_callV0 (As := [_, _, _]) G0_good G0_E d_Re_chooseCandidate_40 c_Re_80 rfl rfl (t_In_find hp 0 (σ 11 p 0) (ld σ p (σ 11 p 0)) (by decide) hr6 ld_lt) (hC_p hp (by decide)) rfl rfl (by decide) (Nat.le_of_ble_eq_true rfl) ?_
      rintro _ _ ⟨rfl, rfl⟩
      first | refine j_astore_n d_Re_chooseCandidate_43 (by decide) rfl rfl ?_ | refine j_astore_nq d_Re_chooseCandidate_43 (by decide) rfl rfl ?_ | refine j_astore_nN d_Re_chooseCandidate_43 (by decide) rfl rfl ?_
      first | refine j_aload_n d_Re_chooseCandidate_44 rfl ?_ | refine j_aload_nq d_Re_chooseCandidate_44 rfl ?_ | refine j_aload_nN d_Re_chooseCandidate_44 rfl ?_
      refine j_ifnull (t := 59) d_Re_chooseCandidate_45 (by decide) (fun c45 => ?_) (fun x45 c45 => ?_)
      · exfalso
        exact h.2.2.1 ((kr.1 p _ hp (slt_lt (by decide) hr6 ld_lt)).mp c45)
      · rw [c45]
        obtain ⟨hpr, hm, e4, e5⟩ := kr.2.1 p _ _ hp (slt_lt (by decide) hr6 ld_lt) c45
        have e4p : prp σ p (σ 11 p 0) = κ.2.2.2 x45 4 + 1 := e4.symm
        have e4q : prp σ p (σ 11 p 0) - 1 = κ.2.2.2 x45 4 := by rw [e4p, Nat.add_sub_cancel]
        have e5p : prc σ p (σ 11 p 0) = κ.2.2.2 x45 5 := e5.symm
        have b4 := kr.2.2.2.2.2 _ 4 hpr
        first | refine j_aload_n d_Re_chooseCandidate_48 rfl ?_ | refine j_aload_nq d_Re_chooseCandidate_48 rfl ?_ | refine j_aload_nN d_Re_chooseCandidate_48 rfl ?_
        first | refine j_aload_n d_Re_chooseCandidate_49 rfl ?_ | refine j_aload_nq d_Re_chooseCandidate_49 rfl ?_ | refine j_aload_nN d_Re_chooseCandidate_49 rfl ?_
        refine j_get d_Re_chooseCandidate_50 f_Re_162 (hC_m hm hpr) rfl ?_
        refine j_callV0 (As := [_]) G0_good G0_E d_Re_chooseCandidate_53 c_Re_163 rfl rfl (t_Re_isGoodM hp hb h32 (κ.2.2.2 x45 4) (by omega)) (hC_p hp (by decide)) rfl rfl (by decide) (Nat.le_of_ble_eq_true rfl) ?_
        rintro _ _ ⟨rfl, rfl⟩
        first | refine c_if_ne (t := 61) d_Re_chooseCandidate_56 (by decide) (fun c56 => ?_) (fun c56 => ?_) | refine n_if_ne (t := 61) d_Re_chooseCandidate_56 (by decide) (by omega) (fun c56 => ?_) (fun c56 => ?_) | refine j_if_ne (t := 61) d_Re_chooseCandidate_56 (by decide) (fun c56 => ?_) (fun c56 => ?_)
        · first | refine j_aload_n d_Re_chooseCandidate_61 rfl ?_ | refine j_aload_nq d_Re_chooseCandidate_61 rfl ?_ | refine j_aload_nN d_Re_chooseCandidate_61 rfl ?_
          refine j_get d_Re_chooseCandidate_62 f_Re_162 (hC_m hm hpr) rfl ?_
          refine j_istore_n d_Re_chooseCandidate_65 (by decide) rfl rfl ?_
          first | refine j_aload_n d_Re_chooseCandidate_66 rfl ?_ | refine j_aload_nq d_Re_chooseCandidate_66 rfl ?_ | refine j_aload_nN d_Re_chooseCandidate_66 rfl ?_
          refine j_get d_Re_chooseCandidate_67 f_Re_12 (hC_p hp (by decide)) rfl ?_
          refine j_iconst (v := nI 1) d_Re_chooseCandidate_70 (by decide +kernel) ?_
          first | refine j_aload_n d_Re_chooseCandidate_71 rfl ?_ | refine j_aload_nq d_Re_chooseCandidate_71 rfl ?_ | refine j_aload_nN d_Re_chooseCandidate_71 rfl ?_
          refine j_get d_Re_chooseCandidate_72 f_Re_93 (hC_p hp (by decide)) rfl ?_
          refine j_iload_n d_Re_chooseCandidate_75 rfl ?_
          refine j_callV0 (As := [_, _, _]) G0_good G0_E d_Re_chooseCandidate_76 c_Re_166 rfl rfl (t_In_hasQuorumFor hp hb kr 1 (σ 11 p 0) (κ.2.2.2 x45 4) (by decide) hr6 (by omega)) (hC_p hp (by decide)) rfl rfl (by decide) (Nat.le_of_ble_eq_true rfl) ?_
          rintro _ _ ⟨rfl, rfl⟩
          first | refine c_if_ne (t := 84) d_Re_chooseCandidate_79 (by decide) (fun c79 => ?_) (fun c79 => ?_) | refine n_if_ne (t := 84) d_Re_chooseCandidate_79 (by decide) (by omega) (fun c79 => ?_) (fun c79 => ?_) | refine j_if_ne (t := 84) d_Re_chooseCandidate_79 (by decide) (fun c79 => ?_) (fun c79 => ?_)
          · rw [← e4q]
            have e11 : nI (σ 11 p 0) = mI (σ 11 p 0 + 1) := (mI_succ _).symm
            first | refine j_aload_n d_Re_chooseCandidate_84 rfl ?_ | refine j_aload_nq d_Re_chooseCandidate_84 rfl ?_ | refine j_aload_nN d_Re_chooseCandidate_84 rfl ?_
            refine j_get d_Re_chooseCandidate_85 f_Re_25 (hC_p hp (by decide)) rfl ?_
            refine j_iload_n d_Re_chooseCandidate_88 rfl ?_
            first | refine j_aload_n d_Re_chooseCandidate_89 rfl ?_ | refine j_aload_nq d_Re_chooseCandidate_89 rfl ?_ | refine j_aload_nN d_Re_chooseCandidate_89 rfl ?_
            refine j_get d_Re_chooseCandidate_90 f_Re_93 (hC_p hp (by decide)) rfl ?_
            rw [e11]
            refine j_callV0 (As := [_, _]) G0_good G0_E d_Re_chooseCandidate_93 c_Re_187 rfl rfl (t_Ch_set_cand hp (prp σ p (σ 11 p 0) - 1) (σ 11 p 0 + 1)) (hC_p hp (by decide)) rfl rfl (by decide) (Nat.le_of_ble_eq_true rfl) ?_
            rintro _ _ ⟨rfl, rfl⟩
            first | refine j_aload_n d_Re_chooseCandidate_96 rfl ?_ | refine j_aload_nq d_Re_chooseCandidate_96 rfl ?_ | refine j_aload_nN d_Re_chooseCandidate_96 rfl ?_
            refine j_get d_Re_chooseCandidate_97 f_Re_87 (hC_p hp (by decide)) rfl ?_
            refine j_iconst (v := nI 1) d_Re_chooseCandidate_100 (by decide +kernel) ?_
            first | refine nn_icmp_ne (t := 121) d_Re_chooseCandidate_101 (by decide) (by omega) (by omega) (fun c101 => ?_) (fun c101 => ?_) | refine mm_icmp_ne (t := 121) d_Re_chooseCandidate_101 (by decide) (by omega) (by omega) (fun c101 => ?_) (fun c101 => ?_) | refine mn_icmp_ne (t := 121) d_Re_chooseCandidate_101 (by decide) (by omega) (by omega) (fun c101 => ?_) (fun c101 => ?_) | refine nm_icmp_ne (t := 121) d_Re_chooseCandidate_101 (by decide) (by omega) (by omega) (fun c101 => ?_) (fun c101 => ?_) | refine j_icmp_ne (t := 121) d_Re_chooseCandidate_101 (by decide) (fun c101 => ?_) (fun c101 => ?_)
            · refine j_iconst (v := nI 1) d_Re_chooseCandidate_121 (by decide +kernel) ?_
              exact j_zret d_Re_chooseCandidate_122 rfl (by decide +kernel) ⟨rfl, rfl⟩
            · exfalso; first | exact c101 | omega
          · exfalso
            exact c79 (by have z := h.2.2.2.2; rw [e4q] at z; exact z)
        · exfalso
          exact c56 (by have z := h.2.2.2.1; rw [e4q] at z; exact z)
    · exfalso; first | exact c18 | omega

set_option maxHeartbeats 4000000 in
set_option maxRecDepth 100000 in
theorem t_Re_choose_s {l : Launch} {D : va_G} {B nx : Nat} {σ : Sg} {κ : Kp} {g : Nat → Option va_E} {p : Nat} (hp : p < 8) (hb : bd σ) (h32 : σ 34 0 0 ≤ 32) (kr : KR B σ κ nx) (hr6 : σ 11 p 0 < 6) (h918 : σ 20 (p / 4) 0 < 918) (h : g5 σ p) (h2 : σ 12 p 0 = 1) : jM (G0 l D) m_Re_chooseCandidate 4 1 7 [.ref (aP B p + 3)] (hC D B σ κ g, nx) (fun v h => v = some (.int (nI 1)) ∧ h = (hC D B (s5 σ p) (Ksend (k5 σ p) κ nx p 2 (prp σ p (σ 11 p 0) - 1) 0) g, nx + 1)) := by
  refine jM.of (by decide +kernel) (Nat.le_of_ble_eq_true rfl) rfl ?_
  have b10 := hb 10 p 0
  have b11 := hb 11 p 0
  have b12 := hb 12 p 0
  have b13 := hb 13 p 0
  have b14 := hb 14 p 0
  have b15 := hb 15 p 0
  have b16 := hb 16 p 0
  have hi : p % 4 < 4 := Nat.mod_lt _ (by decide)
  have bld : ld σ p (σ 11 p 0) < 4 := ld_lt
  have hnx : B + 93 ≤ nx := by have := kr.2.2.2.2.1.1; omega
  have q1 := h.1
  have q2 := h.2.1
  have q3 : U (U σ 15 p 0 (prp σ p (σ 11 p 0) - 1)) 16 p 0 (σ 11 p 0 + 1) 12 p 0 = σ 12 p 0 := by rw [U_ne (by decide), U_ne (by decide)]
  have b29 := hb 29 p (slt 0 (σ 11 p 0) (ld σ p (σ 11 p 0)))
  have bpr : prp σ p (σ 11 p 0) - 1 < 100000 := by unfold prp; omega
  have hbk : bd (k5 σ p) := bd_U (bd_U (bd_U (bd_U hb bpr) (by omega)) bpr) (by omega)
  first | refine j_aload_n d_Re_chooseCandidate_0 rfl ?_ | refine j_aload_nq d_Re_chooseCandidate_0 rfl ?_ | refine j_aload_nN d_Re_chooseCandidate_0 rfl ?_
  refine j_get d_Re_chooseCandidate_1 f_Re_87 (hC_p hp (by decide)) rfl ?_
  first | refine c_if_eq (t := 21) d_Re_chooseCandidate_4 (by decide) (fun c4 => ?_) (fun c4 => ?_) | refine n_if_eq (t := 21) d_Re_chooseCandidate_4 (by decide) (by omega) (fun c4 => ?_) (fun c4 => ?_) | refine j_if_eq (t := 21) d_Re_chooseCandidate_4 (by decide) (fun c4 => ?_) (fun c4 => ?_)
  · exfalso; first | exact c4 | omega
  · first | refine j_aload_n d_Re_chooseCandidate_7 rfl ?_ | refine j_aload_nq d_Re_chooseCandidate_7 rfl ?_ | refine j_aload_nN d_Re_chooseCandidate_7 rfl ?_
    refine j_get d_Re_chooseCandidate_8 f_Re_25 (hC_p hp (by decide)) rfl ?_
    refine j_get d_Re_chooseCandidate_11 f_Re_131 (hC_p hp (by decide)) rfl ?_
    first | refine j_aload_n d_Re_chooseCandidate_14 rfl ?_ | refine j_aload_nq d_Re_chooseCandidate_14 rfl ?_ | refine j_aload_nN d_Re_chooseCandidate_14 rfl ?_
    refine j_get d_Re_chooseCandidate_15 f_Re_93 (hC_p hp (by decide)) rfl ?_
    first | refine nn_icmp_ne (t := 23) d_Re_chooseCandidate_18 (by decide) (by omega) (by omega) (fun c18 => ?_) (fun c18 => ?_) | refine mm_icmp_ne (t := 23) d_Re_chooseCandidate_18 (by decide) (by omega) (by omega) (fun c18 => ?_) (fun c18 => ?_) | refine mn_icmp_ne (t := 23) d_Re_chooseCandidate_18 (by decide) (by omega) (by omega) (fun c18 => ?_) (fun c18 => ?_) | refine nm_icmp_ne (t := 23) d_Re_chooseCandidate_18 (by decide) (by omega) (by omega) (fun c18 => ?_) (fun c18 => ?_) | refine j_icmp_ne (t := 23) d_Re_chooseCandidate_18 (by decide) (fun c18 => ?_) (fun c18 => ?_)
    · first | refine j_aload_n d_Re_chooseCandidate_23 rfl ?_ | refine j_aload_nq d_Re_chooseCandidate_23 rfl ?_ | refine j_aload_nN d_Re_chooseCandidate_23 rfl ?_
      refine j_get d_Re_chooseCandidate_24 f_Re_12 (hC_p hp (by decide)) rfl ?_
      refine j_iconst (v := nI 0) d_Re_chooseCandidate_27 (by decide +kernel) ?_
      first | refine j_aload_n d_Re_chooseCandidate_28 rfl ?_ | refine j_aload_nq d_Re_chooseCandidate_28 rfl ?_ | refine j_aload_nN d_Re_chooseCandidate_28 rfl ?_
      refine j_get d_Re_chooseCandidate_29 f_Re_93 (hC_p hp (by decide)) rfl ?_
      first | refine j_aload_n d_Re_chooseCandidate_32 rfl ?_ | refine j_aload_nq d_Re_chooseCandidate_32 rfl ?_ | refine j_aload_nN d_Re_chooseCandidate_32 rfl ?_
      first | refine j_aload_n d_Re_chooseCandidate_33 rfl ?_ | refine j_aload_nq d_Re_chooseCandidate_33 rfl ?_ | refine j_aload_nN d_Re_chooseCandidate_33 rfl ?_
      refine j_get d_Re_chooseCandidate_34 f_Re_93 (hC_p hp (by decide)) rfl ?_
      refine j_callV0 (As := [_]) G0_good G0_E d_Re_chooseCandidate_37 c_Re_159 rfl rfl (t_Re_leaderOf hp hb (σ 11 p 0) (by omega)) (hC_p hp (by decide)) rfl rfl (by decide) (Nat.le_of_ble_eq_true rfl) ?_
      rintro _ _ ⟨rfl, rfl⟩
      refine j_callV0 (As := [_, _, _]) G0_good G0_E d_Re_chooseCandidate_40 c_Re_80 rfl rfl (t_In_find hp 0 (σ 11 p 0) (ld σ p (σ 11 p 0)) (by decide) hr6 ld_lt) (hC_p hp (by decide)) rfl rfl (by decide) (Nat.le_of_ble_eq_true rfl) ?_
      rintro _ _ ⟨rfl, rfl⟩
      first | refine j_astore_n d_Re_chooseCandidate_43 (by decide) rfl rfl ?_ | refine j_astore_nq d_Re_chooseCandidate_43 (by decide) rfl rfl ?_ | refine j_astore_nN d_Re_chooseCandidate_43 (by decide) rfl rfl ?_
      first | refine j_aload_n d_Re_chooseCandidate_44 rfl ?_ | refine j_aload_nq d_Re_chooseCandidate_44 rfl ?_ | refine j_aload_nN d_Re_chooseCandidate_44 rfl ?_
      refine j_ifnull (t := 59) d_Re_chooseCandidate_45 (by decide) (fun c45 => ?_) (fun x45 c45 => ?_)
      · exfalso
        exact h.2.2.1 ((kr.1 p _ hp (slt_lt (by decide) hr6 ld_lt)).mp c45)
      · rw [c45]
        obtain ⟨hpr, hm, e4, e5⟩ := kr.2.1 p _ _ hp (slt_lt (by decide) hr6 ld_lt) c45
        have e4p : prp σ p (σ 11 p 0) = κ.2.2.2 x45 4 + 1 := e4.symm
        have e4q : prp σ p (σ 11 p 0) - 1 = κ.2.2.2 x45 4 := by rw [e4p, Nat.add_sub_cancel]
        have e5p : prc σ p (σ 11 p 0) = κ.2.2.2 x45 5 := e5.symm
        have b4 := kr.2.2.2.2.2 _ 4 hpr
        first | refine j_aload_n d_Re_chooseCandidate_48 rfl ?_ | refine j_aload_nq d_Re_chooseCandidate_48 rfl ?_ | refine j_aload_nN d_Re_chooseCandidate_48 rfl ?_
        first | refine j_aload_n d_Re_chooseCandidate_49 rfl ?_ | refine j_aload_nq d_Re_chooseCandidate_49 rfl ?_ | refine j_aload_nN d_Re_chooseCandidate_49 rfl ?_
        refine j_get d_Re_chooseCandidate_50 f_Re_162 (hC_m hm hpr) rfl ?_
        refine j_callV0 (As := [_]) G0_good G0_E d_Re_chooseCandidate_53 c_Re_163 rfl rfl (t_Re_isGoodM hp hb h32 (κ.2.2.2 x45 4) (by omega)) (hC_p hp (by decide)) rfl rfl (by decide) (Nat.le_of_ble_eq_true rfl) ?_
        rintro _ _ ⟨rfl, rfl⟩
        first | refine c_if_ne (t := 61) d_Re_chooseCandidate_56 (by decide) (fun c56 => ?_) (fun c56 => ?_) | refine n_if_ne (t := 61) d_Re_chooseCandidate_56 (by decide) (by omega) (fun c56 => ?_) (fun c56 => ?_) | refine j_if_ne (t := 61) d_Re_chooseCandidate_56 (by decide) (fun c56 => ?_) (fun c56 => ?_)
        · first | refine j_aload_n d_Re_chooseCandidate_61 rfl ?_ | refine j_aload_nq d_Re_chooseCandidate_61 rfl ?_ | refine j_aload_nN d_Re_chooseCandidate_61 rfl ?_
          refine j_get d_Re_chooseCandidate_62 f_Re_162 (hC_m hm hpr) rfl ?_
          refine j_istore_n d_Re_chooseCandidate_65 (by decide) rfl rfl ?_
          first | refine j_aload_n d_Re_chooseCandidate_66 rfl ?_ | refine j_aload_nq d_Re_chooseCandidate_66 rfl ?_ | refine j_aload_nN d_Re_chooseCandidate_66 rfl ?_
          refine j_get d_Re_chooseCandidate_67 f_Re_12 (hC_p hp (by decide)) rfl ?_
          refine j_iconst (v := nI 1) d_Re_chooseCandidate_70 (by decide +kernel) ?_
          first | refine j_aload_n d_Re_chooseCandidate_71 rfl ?_ | refine j_aload_nq d_Re_chooseCandidate_71 rfl ?_ | refine j_aload_nN d_Re_chooseCandidate_71 rfl ?_
          refine j_get d_Re_chooseCandidate_72 f_Re_93 (hC_p hp (by decide)) rfl ?_
          refine j_iload_n d_Re_chooseCandidate_75 rfl ?_
          refine j_callV0 (As := [_, _, _]) G0_good G0_E d_Re_chooseCandidate_76 c_Re_166 rfl rfl (t_In_hasQuorumFor hp hb kr 1 (σ 11 p 0) (κ.2.2.2 x45 4) (by decide) hr6 (by omega)) (hC_p hp (by decide)) rfl rfl (by decide) (Nat.le_of_ble_eq_true rfl) ?_
          rintro _ _ ⟨rfl, rfl⟩
          first | refine c_if_ne (t := 84) d_Re_chooseCandidate_79 (by decide) (fun c79 => ?_) (fun c79 => ?_) | refine n_if_ne (t := 84) d_Re_chooseCandidate_79 (by decide) (by omega) (fun c79 => ?_) (fun c79 => ?_) | refine j_if_ne (t := 84) d_Re_chooseCandidate_79 (by decide) (fun c79 => ?_) (fun c79 => ?_)
          · rw [← e4q]
            have e11 : nI (σ 11 p 0) = mI (σ 11 p 0 + 1) := (mI_succ _).symm
            first | refine j_aload_n d_Re_chooseCandidate_84 rfl ?_ | refine j_aload_nq d_Re_chooseCandidate_84 rfl ?_ | refine j_aload_nN d_Re_chooseCandidate_84 rfl ?_
            refine j_get d_Re_chooseCandidate_85 f_Re_25 (hC_p hp (by decide)) rfl ?_
            refine j_iload_n d_Re_chooseCandidate_88 rfl ?_
            first | refine j_aload_n d_Re_chooseCandidate_89 rfl ?_ | refine j_aload_nq d_Re_chooseCandidate_89 rfl ?_ | refine j_aload_nN d_Re_chooseCandidate_89 rfl ?_
            refine j_get d_Re_chooseCandidate_90 f_Re_93 (hC_p hp (by decide)) rfl ?_
            rw [e11]
            refine j_callV0 (As := [_, _]) G0_good G0_E d_Re_chooseCandidate_93 c_Re_187 rfl rfl (t_Ch_set_cand hp (prp σ p (σ 11 p 0) - 1) (σ 11 p 0 + 1)) (hC_p hp (by decide)) rfl rfl (by decide) (Nat.le_of_ble_eq_true rfl) ?_
            rintro _ _ ⟨rfl, rfl⟩
            first | refine j_aload_n d_Re_chooseCandidate_96 rfl ?_ | refine j_aload_nq d_Re_chooseCandidate_96 rfl ?_ | refine j_aload_nN d_Re_chooseCandidate_96 rfl ?_
            refine j_get d_Re_chooseCandidate_97 f_Re_87 (hC_p hp (by decide)) rfl ?_
            refine j_iconst (v := nI 1) d_Re_chooseCandidate_100 (by decide +kernel) ?_
            first | refine nn_icmp_ne (t := 121) d_Re_chooseCandidate_101 (by decide) (by omega) (by omega) (fun c101 => ?_) (fun c101 => ?_) | refine mm_icmp_ne (t := 121) d_Re_chooseCandidate_101 (by decide) (by omega) (by omega) (fun c101 => ?_) (fun c101 => ?_) | refine mn_icmp_ne (t := 121) d_Re_chooseCandidate_101 (by decide) (by omega) (by omega) (fun c101 => ?_) (fun c101 => ?_) | refine nm_icmp_ne (t := 121) d_Re_chooseCandidate_101 (by decide) (by omega) (by omega) (fun c101 => ?_) (fun c101 => ?_) | refine j_icmp_ne (t := 121) d_Re_chooseCandidate_101 (by decide) (fun c101 => ?_) (fun c101 => ?_)
            · exfalso; first | exact c101 | omega
            · first | refine j_aload_n d_Re_chooseCandidate_104 rfl ?_ | refine j_aload_nq d_Re_chooseCandidate_104 rfl ?_ | refine j_aload_nN d_Re_chooseCandidate_104 rfl ?_
              refine j_get d_Re_chooseCandidate_105 f_Re_21 (hC_p hp (by decide)) rfl ?_
              refine j_iload_n d_Re_chooseCandidate_108 rfl ?_
              first | refine j_aload_n d_Re_chooseCandidate_109 rfl ?_ | refine j_aload_nq d_Re_chooseCandidate_109 rfl ?_ | refine j_aload_nN d_Re_chooseCandidate_109 rfl ?_
              refine j_get d_Re_chooseCandidate_110 f_Re_93 (hC_p hp (by decide)) rfl ?_
              rw [show nI (U (U σ 15 p 0 (prp σ p (σ 11 p 0) - 1)) 16 p 0 (σ 11 p 0 + 1) 11 p 0) = mI (σ 11 p 0 + 1) from e11]
              refine j_callV0 (As := [_, _]) G0_good G0_E d_Re_chooseCandidate_113 c_Re_187 rfl rfl (t_Ch_set_lock hp (prp σ p (σ 11 p 0) - 1) (σ 11 p 0 + 1)) (hC_p hp (by decide)) rfl rfl (by decide) (Nat.le_of_ble_eq_true rfl) ?_
              rintro _ _ ⟨rfl, rfl⟩
              first | refine j_aload_n d_Re_chooseCandidate_116 rfl ?_ | refine j_aload_nq d_Re_chooseCandidate_116 rfl ?_ | refine j_aload_nN d_Re_chooseCandidate_116 rfl ?_
              refine j_iload_n d_Re_chooseCandidate_117 rfl ?_
              refine j_callV1 (As := [_]) G0_good G0_E d_Re_chooseCandidate_118 c_Re_100 rfl rfl (t_Re_sendSeal (σ := k5 σ p) hp hbk hnx h918 hr6 (prp σ p (σ 11 p 0) - 1)) (hC_p hp (by decide)) rfl rfl (by decide) (Nat.le_of_ble_eq_true rfl) ?_
              rintro _ _ ⟨rfl, rfl⟩
              refine j_iconst (v := nI 1) d_Re_chooseCandidate_121 (by decide +kernel) ?_
              exact j_zret d_Re_chooseCandidate_122 rfl (by decide +kernel) ⟨rfl, rfl⟩
          · exfalso
            exact c79 (by have z := h.2.2.2.2; rw [e4q] at z; exact z)
        · exfalso
          exact c56 (by have z := h.2.2.2.1; rw [e4q] at z; exact z)
    · exfalso; first | exact c18 | omega
