/-! The reference: flood and lie (g_mo8.py) -/
/-- was anything given? -/
def mr (n : Nat) : Nat := if n = 0 then 0 else 1
theorem mr_0 : mr 0 = 0 := rfl
theorem mr_s {n : Nat} (h : ¬ n = 0) : mr n = 1 := by unfold mr; rw [if_neg h]

set_option maxHeartbeats 4000000 in
set_option maxRecDepth 100000 in
theorem lp_mfl_i {l : Launch} {D : va_G} {M nx : Nat} {L : Int32} {g : Nat → Option va_E} {σ : Sg} {c : Nat → Nat → Nat} (fc : FC L c) {s : Nat} (hs : s < 2) {Q : Option Value → jH → Prop} (ic : Pu.Ic c σ) {k a b : Nat} (hk : k < σ 20 s 0) (hn : ∀ ρ', J (G0 l D) jT m_Mo_flood 6 Q 0 0 75 [some (.ref (M + 0)), some (.int (nI s)), some (.int (nI (a + n4 σ s k 4))), some (.int (nI (mr (b + n4 σ s k 4)))), some (.int (nI k)), some (.int (nI 4))] [] (hM D M L (f4 σ s k 4) ρ' g, nx)) : ∀ (m : Nat) (i x2 x3 : Nat) (τ ρ : Sg), i ≤ 4 → 4 - i < m → τ = f4 σ s k i → x2 = a + n4 σ s k i → x3 = mr (b + n4 σ s k i) → J (G0 l D) jT m_Mo_flood 6 Q 0 0 37 [some (.ref (M + 0)), some (.int (nI s)), some (.int (nI (x2))), some (.int (nI (x3))), some (.int (nI k)), some (.int (nI i))] [] (hM D M L τ ρ g, nx) := by
  intro m
  induction m with
  | zero =>
    intros
    exfalso
    omega
  | succ m ih =>
    intro i x2 x3 τ ρ h1 h2 hτ hx2 hx3
    have ict : Pu.Ic c τ := by rw [hτ]; exact f4_I (Pu.okI c) (Pu.okM c) hs ic hk i (by omega)
    have hkt : k < τ 20 s 0 := by have := f4_20 (σ := σ) (s := s) (k := k) (s' := s) i; rw [hτ]; omega
    refine j_iload d_Mo_flood_37 rfl ?_
    refine j_iconst (v := nI 4) d_Mo_flood_39 (by decide +kernel) ?_
    first | refine nn_icmp_ge (t := 75) d_Mo_flood_40 (by decide) (by omega) (by omega) (fun c40 => ?_) (fun c40 => ?_) | refine mm_icmp_ge (t := 75) d_Mo_flood_40 (by decide) (by omega) (by omega) (fun c40 => ?_) (fun c40 => ?_) | refine mn_icmp_ge (t := 75) d_Mo_flood_40 (by decide) (by omega) (by omega) (fun c40 => ?_) (fun c40 => ?_) | refine nm_icmp_ge (t := 75) d_Mo_flood_40 (by decide) (by omega) (by omega) (fun c40 => ?_) (fun c40 => ?_) | refine j_icmp_ge (t := 75) d_Mo_flood_40 (by decide) (fun c40 => ?_) (fun c40 => ?_)
    · have e4 : i = 4 := by omega
      subst e4
      rw [hτ, hx2, hx3]
      exact hn _
    · first | refine j_aload_n d_Mo_flood_43 rfl ?_ | refine j_aload_nq d_Mo_flood_43 rfl ?_ | refine j_aload_nN d_Mo_flood_43 rfl ?_
      refine j_iload_n d_Mo_flood_44 rfl ?_
      refine j_iload d_Mo_flood_45 rfl ?_
      refine j_iload d_Mo_flood_47 rfl ?_
      refine j_callV0 (As := [_, _, _]) G0_good G0_E d_Mo_flood_49 c_Mo_201 rfl rfl (m_can ict fc s i k hs (by omega) hkt) (hM_o (by decide)) rfl rfl (by decide) (Nat.le_of_ble_eq_true rfl) ?_
      rintro _ _ ⟨rfl, rfl⟩
      first | refine c_if_eq (t := 69) d_Mo_flood_52 (by decide) (fun c52 => ?_) (fun c52 => ?_) | refine n_if_eq (t := 69) d_Mo_flood_52 (by decide) (by omega) (fun c52 => ?_) (fun c52 => ?_) | refine j_if_eq (t := 69) d_Mo_flood_52 (by decide) (fun c52 => ?_) (fun c52 => ?_)
      · refine n_iinc (k := 1) (lc' := [_, _, _, _, _, _]) d_Mo_flood_69 (by decide +kernel) rfl (by decide) rfl rfl ?_
        refine j_goto (t := 37) d_Mo_flood_72 (by decide) ?_
        exact ih (i + 1) _ _ _ _ (by omega) (by omega) (by show _ = f1 (f4 σ s k i) (4 * s + i) k; unfold f1; rw [← hτ, ifP_f c52]) (by show _ = a + (n4 σ s k i + n1 (f4 σ s k i) (4 * s + i) k); unfold n1; rw [← hτ, ifP_f c52, hx2]; omega) (by show _ = mr (b + (n4 σ s k i + n1 (f4 σ s k i) (4 * s + i) k)); unfold n1; rw [← hτ, ifP_f c52, hx3]; rfl)
      · first | refine j_aload_n d_Mo_flood_55 rfl ?_ | refine j_aload_nq d_Mo_flood_55 rfl ?_ | refine j_aload_nN d_Mo_flood_55 rfl ?_
        refine j_iload_n d_Mo_flood_56 rfl ?_
        refine j_iload d_Mo_flood_57 rfl ?_
        refine j_iload d_Mo_flood_59 rfl ?_
        refine j_callV0 (As := [_, _, _]) G0_good G0_E d_Mo_flood_61 c_Mo_204 rfl rfl (m_take ict fc s i k hs (by omega) hkt c52) (hM_o (by decide)) rfl rfl (by decide) (Nat.le_of_ble_eq_true rfl) ?_
        rintro _ _ ⟨rfl, ρ', rfl⟩
        refine n_iinc (k := 1) (lc' := [_, _, _, _, _, _]) d_Mo_flood_64 (by decide +kernel) rfl (by decide) rfl rfl ?_
        refine j_iconst (v := nI 1) d_Mo_flood_67 (by decide +kernel) ?_
        refine j_istore_n (lc' := [_, _, _, _, _, _]) d_Mo_flood_68 (by decide) rfl rfl ?_
        refine n_iinc (k := 1) (lc' := [_, _, _, _, _, _]) d_Mo_flood_69 (by decide +kernel) rfl (by decide) rfl rfl ?_
        refine j_goto (t := 37) d_Mo_flood_72 (by decide) ?_
        exact ih (i + 1) _ _ _ _ (by omega) (by omega) (by show _ = f1 (f4 σ s k i) (4 * s + i) k; unfold f1; rw [← hτ, ifP_t c52]) (by show _ = a + (n4 σ s k i + n1 (f4 σ s k i) (4 * s + i) k); unfold n1; rw [← hτ, ifP_t c52, hx2]; omega) (by show _ = mr (b + (n4 σ s k i + n1 (f4 σ s k i) (4 * s + i) k)); unfold n1; rw [← hτ, ifP_t c52, mr_s (by omega)])

set_option maxHeartbeats 4000000 in
set_option maxRecDepth 100000 in
theorem lp_mfl_75 {l : Launch} {D : va_G} {M nx : Nat} {L : Int32} {g : Nat → Option va_E} {σ : Sg} {s : Nat} {Q : Option Value → jH → Prop} {k a b : Nat} (hn : ∀ ρ' x5, J (G0 l D) jT m_Mo_flood 6 Q 0 0 23 [some (.ref (M + 0)), some (.int (nI s)), some (.int (nI (a + n4 σ s k 4))), some (.int (nI (mr (b + n4 σ s k 4)))), some (.int (nI (k + 1))), x5] [] (hM D M L (f4 σ s k 4) ρ' g, nx)) (ρ : Sg) : J (G0 l D) jT m_Mo_flood 6 Q 0 0 75 [some (.ref (M + 0)), some (.int (nI s)), some (.int (nI (a + n4 σ s k 4))), some (.int (nI (mr (b + n4 σ s k 4)))), some (.int (nI k)), some (.int (nI 4))] [] (hM D M L (f4 σ s k 4) ρ g, nx) := by
  refine n_iinc (k := 1) (lc' := [_, _, _, _, _, _]) d_Mo_flood_75 (by decide +kernel) rfl (by decide) rfl rfl ?_
  refine j_goto (t := 23) d_Mo_flood_78 (by decide) ?_
  exact hn _ _

set_option maxHeartbeats 4000000 in
set_option maxRecDepth 100000 in
theorem lp_mfl_k1 {l : Launch} {D : va_G} {M nx : Nat} {L : Int32} {g : Nat → Option va_E} {σ ρ : Sg} {c : Nat → Nat → Nat} (fc : FC L c) {s : Nat} (hs : s < 2) {Q : Option Value → jH → Prop} (ic : Pu.Ic c σ) {k a b : Nat} (hk : k < σ 20 s 0) (x5 : Option Value) (hn : ∀ ρ' x5, J (G0 l D) jT m_Mo_flood 6 Q 0 0 23 [some (.ref (M + 0)), some (.int (nI s)), some (.int (nI (a + n4 σ s k 4))), some (.int (nI (mr (b + n4 σ s k 4)))), some (.int (nI (k + 1))), x5] [] (hM D M L (f4 σ s k 4) ρ' g, nx)) : J (G0 l D) jT m_Mo_flood 6 Q 0 0 23 [some (.ref (M + 0)), some (.int (nI s)), some (.int (nI (a))), some (.int (nI (mr b))), some (.int (nI k)), x5] [] (hM D M L σ ρ g, nx) := by
  have h918 := (Pu.MG_ok hs ic.1).1
  refine j_iload d_Mo_flood_23 rfl ?_
  first | refine j_aload_n d_Mo_flood_25 rfl ?_ | refine j_aload_nq d_Mo_flood_25 rfl ?_ | refine j_aload_nN d_Mo_flood_25 rfl ?_
  refine j_get d_Mo_flood_26 f_Mo_68 (hM_o (by decide)) rfl ?_
  refine j_iload_n d_Mo_flood_29 rfl ?_
  refine j_iald (t := 0) d_Mo_flood_30 rfl (hM_o (by decide)) rfl (by omega) (by decide) ?_
  first | refine nn_icmp_ge (t := 81) d_Mo_flood_31 (by decide) (by omega) (by omega) (fun c31 => ?_) (fun c31 => ?_) | refine mm_icmp_ge (t := 81) d_Mo_flood_31 (by decide) (by omega) (by omega) (fun c31 => ?_) (fun c31 => ?_) | refine mn_icmp_ge (t := 81) d_Mo_flood_31 (by decide) (by omega) (by omega) (fun c31 => ?_) (fun c31 => ?_) | refine nm_icmp_ge (t := 81) d_Mo_flood_31 (by decide) (by omega) (by omega) (fun c31 => ?_) (fun c31 => ?_) | refine j_icmp_ge (t := 81) d_Mo_flood_31 (by decide) (fun c31 => ?_) (fun c31 => ?_)
  · exfalso; first | exact c31 | omega
  · refine j_iconst (v := nI 0) d_Mo_flood_34 (by decide +kernel) ?_
    refine j_istore (lc' := [_, _, _, _, _, _]) d_Mo_flood_35 (by decide) rfl rfl ?_
    exact lp_mfl_i fc hs ic hk (a := a) (b := b) (fun ρ' => lp_mfl_75 hn ρ') 5 0 _ _ _ _ (by omega) (by omega) rfl rfl rfl

set_option maxHeartbeats 4000000 in
set_option maxRecDepth 100000 in
theorem lp_mfl_ke {l : Launch} {D : va_G} {M nx : Nat} {L : Int32} {g : Nat → Option va_E} {σ ρ : Sg} {c : Nat → Nat → Nat} (fc : FC L c) {s : Nat} (hs : s < 2) {Q : Option Value → jH → Prop} (ic : Pu.Ic c σ) {k a b : Nat} (hk : ¬ k < σ 20 s 0) (hk9 : k < 2000) (x5 : Option Value) (hn : ∀ (ρ' : Sg) (x4 x5 : Option Value), J (G0 l D) jT m_Mo_flood 6 Q 0 0 14 [some (.ref (M + 0)), some (.int (nI s)), some (.int (nI (a))), some (.int (nI (mr b))), x4, x5] [] (hM D M L σ ρ' g, nx)) : J (G0 l D) jT m_Mo_flood 6 Q 0 0 23 [some (.ref (M + 0)), some (.int (nI s)), some (.int (nI (a))), some (.int (nI (mr b))), some (.int (nI k)), x5] [] (hM D M L σ ρ g, nx) := by
  have h918 := (Pu.MG_ok hs ic.1).1
  refine j_iload d_Mo_flood_23 rfl ?_
  first | refine j_aload_n d_Mo_flood_25 rfl ?_ | refine j_aload_nq d_Mo_flood_25 rfl ?_ | refine j_aload_nN d_Mo_flood_25 rfl ?_
  refine j_get d_Mo_flood_26 f_Mo_68 (hM_o (by decide)) rfl ?_
  refine j_iload_n d_Mo_flood_29 rfl ?_
  refine j_iald (t := 0) d_Mo_flood_30 rfl (hM_o (by decide)) rfl (by omega) (by decide) ?_
  first | refine nn_icmp_ge (t := 81) d_Mo_flood_31 (by decide) (by omega) (by omega) (fun c31 => ?_) (fun c31 => ?_) | refine mm_icmp_ge (t := 81) d_Mo_flood_31 (by decide) (by omega) (by omega) (fun c31 => ?_) (fun c31 => ?_) | refine mn_icmp_ge (t := 81) d_Mo_flood_31 (by decide) (by omega) (by omega) (fun c31 => ?_) (fun c31 => ?_) | refine nm_icmp_ge (t := 81) d_Mo_flood_31 (by decide) (by omega) (by omega) (fun c31 => ?_) (fun c31 => ?_) | refine j_icmp_ge (t := 81) d_Mo_flood_31 (by decide) (fun c31 => ?_) (fun c31 => ?_)
  · refine j_goto (t := 14) d_Mo_flood_81 (by decide) ?_
    exact hn _ _ _
  · exfalso; first | exact c31 | omega

theorem lp_mfl_k {l : Launch} {D : va_G} {M nx : Nat} {L : Int32} {g : Nat → Option va_E} {c : Nat → Nat → Nat} (fc : FC L c) {s : Nat} (hs : s < 2) {Q : Option Value → jH → Prop} : ∀ (m : Nat) (σ ρ : Sg) (k a b : Nat) (x5 : Option Value), Pu.Ic c σ → k + m = 918 → (∀ (ρ' : Sg) (x4 x5 : Option Value), J (G0 l D) jT m_Mo_flood 6 Q 0 0 14 [some (.ref (M + 0)), some (.int (nI s)), some (.int (nI (a + np s m σ k))), some (.int (nI (mr (b + np s m σ k)))), x4, x5] [] (hM D M L (fp s m σ k) ρ' g, nx)) → J (G0 l D) jT m_Mo_flood 6 Q 0 0 23 [some (.ref (M + 0)), some (.int (nI s)), some (.int (nI (a))), some (.int (nI (mr b))), some (.int (nI k)), x5] [] (hM D M L σ ρ g, nx)
  | 0, σ, ρ, k, a, b, x5, ic, hm, hn => by
    have h918 := (Pu.MG_ok hs ic.1).1
    exact lp_mfl_ke fc hs ic (by omega) (by omega) x5 (fun ρ' x4 x5 => hn ρ' x4 x5)
  | m + 1, σ, ρ, k, a, b, x5, ic, hm, hn => by
    by_cases hk : k < σ 20 s 0
    · refine lp_mfl_k1 fc hs ic hk x5 (fun ρ' x5 => ?_)
      refine lp_mfl_k fc hs m (f4 σ s k 4) ρ' (k + 1) (a + n4 σ s k 4) (b + n4 σ s k 4) x5 (f4_I (Pu.okI c) (Pu.okM c) hs ic hk 4 (by omega)) (by omega) (fun ρ' x4 x5 => ?_)
      have := hn ρ' x4 x5
      unfold np fp at this
      rw [ifP_t hk, ifP_t hk, ← Nat.add_assoc, ← Nat.add_assoc] at this
      exact this
    · refine lp_mfl_ke fc hs ic hk (by omega) x5 (fun ρ' x4 x5 => ?_)
      have := hn ρ' x4 x5
      unfold np fp at this
      rw [ifP_f hk, ifP_f hk] at this
      exact this

set_option maxHeartbeats 4000000 in
set_option maxRecDepth 100000 in
theorem lp_mfl_e {l : Launch} {D : va_G} {M nx : Nat} {L : Int32} {g : Nat → Option va_E} {σ ρ : Sg} {s x2 : Nat} {y : Nat} {τ : Sg} (x4 x5 : Option Value) (hy : x2 = y) (hτ : σ = τ) : J (G0 l D) jT m_Mo_flood 6 (fun v h => v = some (.int (nI y)) ∧ ∃ ρ', h = (hM D M L τ ρ' g, nx)) 0 0 14 [some (.ref (M + 0)), some (.int (nI s)), some (.int (nI (x2))), some (.int (nI (0))), x4, x5] [] (hM D M L σ ρ g, nx) := by
  refine j_iload_n d_Mo_flood_14 rfl ?_
  first | refine c_if_eq (t := 84) d_Mo_flood_15 (by decide) (fun c15 => ?_) (fun c15 => ?_) | refine n_if_eq (t := 84) d_Mo_flood_15 (by decide) (by omega) (fun c15 => ?_) (fun c15 => ?_) | refine j_if_eq (t := 84) d_Mo_flood_15 (by decide) (fun c15 => ?_) (fun c15 => ?_)
  · refine j_iload_n d_Mo_flood_84 rfl ?_
    exact j_iret d_Mo_flood_85 rfl ⟨by rw [hy], _, by rw [hτ]⟩
  · exfalso; first | exact c15 | omega

set_option maxHeartbeats 4000000 in
set_option maxRecDepth 100000 in
theorem lp_mfl_b {l : Launch} {D : va_G} {M nx : Nat} {L : Int32} {g : Nat → Option va_E} {σ ρ : Sg} {c : Nat → Nat → Nat} (fc : FC L c) {s : Nat} (hs : s < 2) {Q : Option Value → jH → Prop} (ic : Pu.Ic c σ) {x2 : Nat} (x4 x5 : Option Value) (hn : ∀ (ρ' : Sg) (x4 x5 : Option Value), J (G0 l D) jT m_Mo_flood 6 Q 0 0 14 [some (.ref (M + 0)), some (.int (nI s)), some (.int (nI (x2 + np s 918 σ 0))), some (.int (nI (mr (0 + np s 918 σ 0)))), x4, x5] [] (hM D M L (fp s 918 σ 0) ρ' g, nx)) : J (G0 l D) jT m_Mo_flood 6 Q 0 0 14 [some (.ref (M + 0)), some (.int (nI s)), some (.int (nI (x2))), some (.int (nI (1))), x4, x5] [] (hM D M L σ ρ g, nx) := by
  refine j_iload_n d_Mo_flood_14 rfl ?_
  first | refine c_if_eq (t := 84) d_Mo_flood_15 (by decide) (fun c15 => ?_) (fun c15 => ?_) | refine n_if_eq (t := 84) d_Mo_flood_15 (by decide) (by omega) (fun c15 => ?_) (fun c15 => ?_) | refine j_if_eq (t := 84) d_Mo_flood_15 (by decide) (fun c15 => ?_) (fun c15 => ?_)
  · exfalso; first | exact c15 | omega
  · refine j_iconst (v := nI 0) d_Mo_flood_18 (by decide +kernel) ?_
    refine j_istore_n (lc' := [_, _, _, _, _, _]) d_Mo_flood_19 (by decide) rfl rfl ?_
    refine j_iconst (v := nI 0) d_Mo_flood_20 (by decide +kernel) ?_
    refine j_istore (lc' := [_, _, _, _, _, _]) d_Mo_flood_21 (by decide) rfl rfl ?_
    exact lp_mfl_k fc hs 918 σ _ 0 x2 0 _ ic (by omega) hn

theorem lp_mfl_p {l : Launch} {D : va_G} {M nx : Nat} {L : Int32} {g : Nat → Option va_E} {c : Nat → Nat → Nat} (fc : FC L c) {s : Nat} (hs : s < 2) : ∀ (m : Nat) (σ ρ : Sg) (x2 : Nat) (x4 x5 : Option Value), Pu.Ic c σ → ends s m σ → J (G0 l D) jT m_Mo_flood 6 (fun v h => v = some (.int (nI (x2 + nf s m σ))) ∧ ∃ ρ', h = (hM D M L (ff s m σ) ρ' g, nx)) 0 0 14 [some (.ref (M + 0)), some (.int (nI s)), some (.int (nI (x2))), some (.int (nI (1))), x4, x5] [] (hM D M L σ ρ g, nx)
  | 0, σ, ρ, x2, x4, x5, ic, he => he.elim
  | m + 1, σ, ρ, x2, x4, x5, ic, he => by
    refine lp_mfl_b fc hs ic x4 x5 (fun ρ' x4 x5 => ?_)
    unfold nf ff
    by_cases z : np s 918 σ 0 = 0
    · rw [ifP_t z, ifP_t z, z]
      exact lp_mfl_e x4 x5 rfl rfl
    · rw [ifP_f z, ifP_f z, Nat.zero_add, mr_s z, ← Nat.add_assoc]
      exact lp_mfl_p fc hs m _ ρ' (x2 + np s 918 σ 0) x4 x5 (fp_I (Pu.okI c) (Pu.okM c) hs 918 σ 0 ic) (he.resolve_left z)

set_option maxHeartbeats 4000000 in
set_option maxRecDepth 100000 in
theorem m_flood_O {l : Launch} {D : va_G} {M nx : Nat} {L : Int32} {σ ρ : Sg} {g : Nat → Option va_E} (x : Int32) (hx : ¬ inr x 2) : jM (G0 l D) m_Mo_flood 1 0 0 [.ref (M + 0), .int x] (hM D M L σ ρ g, nx) (fun v h => v = some (.int (mI 0)) ∧ h = (hM D M L σ ρ g, nx)) := by
  refine jM.of (by decide +kernel) (Nat.le_of_ble_eq_true rfl) rfl ?_
  refine j_iload_n d_Mo_flood_0 rfl ?_
  refine j_iconst (v := nI 2) d_Mo_flood_1 (by decide +kernel) ?_
  refine j_callS0 (As := [_, _]) G0_good G0_E d_Mo_flood_2 c_Mo_103 rfl rfl rfl (m_out x 2) (by decide) (Nat.le_of_ble_eq_true rfl) ?_
  rintro _ _ ⟨rfl, rfl⟩
  first | refine c_if_eq (t := 10) d_Mo_flood_5 (by decide) (fun c5 => ?_) (fun c5 => ?_) | refine n_if_eq (t := 10) d_Mo_flood_5 (by decide) (by omega) (fun c5 => ?_) (fun c5 => ?_) | refine j_if_eq (t := 10) d_Mo_flood_5 (by decide) (fun c5 => ?_) (fun c5 => ?_)
  · exfalso; first | exact c5 | omega | exact c5 hx
  · refine j_iconst (v := mI 0) d_Mo_flood_8 (by decide +kernel) ?_
    exact j_iret d_Mo_flood_9 rfl ⟨rfl, rfl⟩

set_option maxHeartbeats 4000000 in
set_option maxRecDepth 100000 in
theorem m_flood_i {l : Launch} {D : va_G} {M nx : Nat} {L : Int32} {σ ρ : Sg} {g : Nat → Option va_E} {c : Nat → Nat → Nat} (ic : Pu.Ic c σ) (fc : FC L c) (s : Nat) (hs : s < 2) : jM (G0 l D) m_Mo_flood 6 0 0 [.ref (M + 0), .int (nI s)] (hM D M L σ ρ g, nx) (fun v h => v = some (.int (nI (0 + nf s 5000 σ))) ∧ ∃ ρ', h = (hM D M L (ff s 5000 σ) ρ' g, nx)) := by
  refine jM.of (by decide +kernel) (Nat.le_of_ble_eq_true rfl) rfl ?_
  refine j_iload_n d_Mo_flood_0 rfl ?_
  refine j_iconst (v := nI 2) d_Mo_flood_1 (by decide +kernel) ?_
  refine j_callS0 (As := [_, _]) G0_good G0_E d_Mo_flood_2 c_Mo_103 rfl rfl rfl (m_out (nI s) 2) (by decide) (Nat.le_of_ble_eq_true rfl) ?_
  rintro _ _ ⟨rfl, rfl⟩
  first | refine c_if_eq (t := 10) d_Mo_flood_5 (by decide) (fun c5 => ?_) (fun c5 => ?_) | refine n_if_eq (t := 10) d_Mo_flood_5 (by decide) (by omega) (fun c5 => ?_) (fun c5 => ?_) | refine j_if_eq (t := 10) d_Mo_flood_5 (by decide) (fun c5 => ?_) (fun c5 => ?_)
  · refine j_iconst (v := nI 0) d_Mo_flood_10 (by decide +kernel) ?_
    refine j_istore_n (lc' := [_, _, _, _, _, _]) d_Mo_flood_11 (by decide) rfl rfl ?_
    refine j_iconst (v := nI 1) d_Mo_flood_12 (by decide +kernel) ?_
    refine j_istore_n (lc' := [_, _, _, _, _, _]) d_Mo_flood_13 (by decide) rfl rfl ?_
    exact lp_mfl_p fc hs 5000 σ _ 0 _ _ ic (Pu.ends_ok hs ic)
  · exfalso; first | exact c5 | omega | exact c5 (inr_nI (by decide) hs) | exact c5 (inr_nI (by decide) hi)

theorem lie_slot {c : Nat → Nat → Nat} {σ : Sg} (ic : Pu.Ic c σ) {s i k r : Nat} (hs : s < 2) (hi : i < 3) (hk : k < 3) (hr : r < 6) (hf : ¬ σ 0 (4 * s + 3) 0 = 0) (hon : σ 0 (4 * s + i) 0 = 0) : σ 28 (3 * ((4 * s + i) / 4) + (4 * s + i) % 4) (102 * k + 6 * σ 10 (4 * s + i) 0 + r) = 0 ↔ σ 29 (4 * s + i) (slt k r 3) = 0 := by
  have b := (ic.1.bx.bx (4 * s + i) (by omega) hon).1
  have d4 : (4 * s + i) / 4 = s := by omega
  have m4 : (4 * s + i) % 4 = i := by omega
  constructor
  · intro h
    refine Classical.byContradiction (fun z => ?_)
    rcases (b k r 3 (σ 29 (4 * s + i) (slt k r 3) - 1) (σ 30 (4 * s + i) (slt k r 3)) hk hr (by omega)).2 ⟨by omega, rfl⟩ with q | q
    · obtain ⟨j, hj, -, -, -, h5, -⟩ := q
      rw [d4] at hj h5
      have := (ic.1.ms.own s j hs hj).2
      rw [h5] at this
      exact hf this
    · have := q.2.2.2
      unfold lieV at this
      omega
  · intro h
    refine Classical.byContradiction (fun z => ?_)
    have := (b k r 3 (lieV σ (4 * s + i) k r - 1) 0 hk hr (by omega)).1 (Or.inr ⟨by omega, rfl, rfl, by unfold lieV; omega⟩)
    omega
theorem hM_lie {D : va_G} {M : Nat} {L : Int32} {σ ρ : Sg} {g : Nat → Option va_E} {p k r x : Nat} : hM D M L (U σ 28 (3 * (p / 4) + p % 4) (102 * k + 6 * σ 10 p 0 + r) (x + 1)) ρ g = hM D M L (sLie σ p k r x) ρ g := by
  refine hM_cgr (fun f hf => ?_)
  have h29 : f ≠ 29 := fun e => by subst e; exact absurd hf (by decide)
  have h30 : f ≠ 30 := fun e => by subst e; exact absurd hf (by decide)
  unfold sLie
  rw [U_ne h30, U_ne h29]
theorem mI_add2 (x : Nat) : mI x + nI 2 = nI (x + 1) := by
  have e : nI 2 = nI 1 + 1 := by decide +kernel
  unfold mI
  rw [e, ← Int32.add_assoc, show nI x - 1 + nI 1 = nI x from by rw [show nI 1 = 1 by decide +kernel, Int32.sub_eq_add_neg, Int32.add_assoc, Int32.add_left_neg, Int32.add_zero]]
  exact (nI_succ x).symm
theorem mI_or {x : Int32} (n : Nat) (hn : n < 2 ^ 31) : (x = mI 0 ∨ inr x n) → ∃ j, j ≤ n ∧ x = mI j := by
  rintro (h | h)
  · exact ⟨0, Nat.zero_le _, h⟩
  · obtain ⟨j, hj, e⟩ := inr_of hn h
    exact ⟨j + 1, by omega, by rw [mI_succ]; exact e⟩

set_option maxHeartbeats 4000000 in
set_option maxRecDepth 100000 in
theorem m_lie_O1 {l : Launch} {D : va_G} {M nx : Nat} {L : Int32} {σ ρ : Sg} {g : Nat → Option va_E} (a b c e f : Int32) (ha : ¬ inr a 2) : jM (G0 l D) m_Mo_lie 1 0 0 [.ref (M + 0), .int a, .int b, .int c, .int e, .int f] (hM D M L σ ρ g, nx) (fun v h => v = some (.int (nI 0)) ∧ h = (hM D M L σ ρ g, nx)) := by
  refine jM.of (by decide +kernel) (Nat.le_of_ble_eq_true rfl) rfl ?_
  refine j_iload_n d_Mo_lie_0 rfl ?_
  refine j_iconst (v := nI 2) d_Mo_lie_1 (by decide +kernel) ?_
  refine j_callS0 (As := [_, _]) G0_good G0_E d_Mo_lie_2 c_Mo_103 rfl rfl rfl (m_out a 2) (by decide) (Nat.le_of_ble_eq_true rfl) ?_
  rintro _ _ ⟨rfl, rfl⟩
  first | refine c_if_ne (t := 34) d_Mo_lie_5 (by decide) (fun c5 => ?_) (fun c5 => ?_) | refine n_if_ne (t := 34) d_Mo_lie_5 (by decide) (by omega) (fun c5 => ?_) (fun c5 => ?_) | refine j_if_ne (t := 34) d_Mo_lie_5 (by decide) (fun c5 => ?_) (fun c5 => ?_)
  · refine j_iconst (v := nI 0) d_Mo_lie_34 (by decide +kernel) ?_
    exact j_zret d_Mo_lie_35 rfl (by decide +kernel) ⟨rfl, rfl⟩
  · exfalso; first | exact c5 | omega | exact c5 ha

set_option maxHeartbeats 4000000 in
set_option maxRecDepth 100000 in
theorem m_lie_O2 {l : Launch} {D : va_G} {M nx : Nat} {L : Int32} {σ ρ : Sg} {g : Nat → Option va_E} (s : Nat) (hs : s < 2) (b c e f : Int32) (hf : ¬ inr f 3) : jM (G0 l D) m_Mo_lie 1 0 0 [.ref (M + 0), .int (nI s), .int b, .int c, .int e, .int f] (hM D M L σ ρ g, nx) (fun v h => v = some (.int (nI 0)) ∧ h = (hM D M L σ ρ g, nx)) := by
  refine jM.of (by decide +kernel) (Nat.le_of_ble_eq_true rfl) rfl ?_
  refine j_iload_n d_Mo_lie_0 rfl ?_
  refine j_iconst (v := nI 2) d_Mo_lie_1 (by decide +kernel) ?_
  refine j_callS0 (As := [_, _]) G0_good G0_E d_Mo_lie_2 c_Mo_103 rfl rfl rfl (m_out (nI s) 2) (by decide) (Nat.le_of_ble_eq_true rfl) ?_
  rintro _ _ ⟨rfl, rfl⟩
  first | refine c_if_ne (t := 34) d_Mo_lie_5 (by decide) (fun c5 => ?_) (fun c5 => ?_) | refine n_if_ne (t := 34) d_Mo_lie_5 (by decide) (by omega) (fun c5 => ?_) (fun c5 => ?_) | refine j_if_ne (t := 34) d_Mo_lie_5 (by decide) (fun c5 => ?_) (fun c5 => ?_)
  · exfalso; first | exact c5 | omega | exact c5 (inr_nI (by decide) hs) | exact c5 hf
  · refine j_iload d_Mo_lie_8 rfl ?_
    refine j_iconst (v := nI 3) d_Mo_lie_10 (by decide +kernel) ?_
    refine j_callS0 (As := [_, _]) G0_good G0_E d_Mo_lie_11 c_Mo_103 rfl rfl rfl (m_out f 3) (by decide) (Nat.le_of_ble_eq_true rfl) ?_
    rintro _ _ ⟨rfl, rfl⟩
    first | refine c_if_ne (t := 34) d_Mo_lie_14 (by decide) (fun c14 => ?_) (fun c14 => ?_) | refine n_if_ne (t := 34) d_Mo_lie_14 (by decide) (by omega) (fun c14 => ?_) (fun c14 => ?_) | refine j_if_ne (t := 34) d_Mo_lie_14 (by decide) (fun c14 => ?_) (fun c14 => ?_)
    · refine j_iconst (v := nI 0) d_Mo_lie_34 (by decide +kernel) ?_
      exact j_zret d_Mo_lie_35 rfl (by decide +kernel) ⟨rfl, rfl⟩
    · exfalso; first | exact c14 | omega | exact c14 (inr_nI (by decide) hs) | exact c14 hf

set_option maxHeartbeats 4000000 in
set_option maxRecDepth 100000 in
theorem m_lie_O3 {l : Launch} {D : va_G} {M nx : Nat} {L : Int32} {σ ρ : Sg} {g : Nat → Option va_E} (s i : Nat) (hs : s < 2) (hi : i < 3) (b c e : Int32) (hf : ¬ inr b 3) : jM (G0 l D) m_Mo_lie 1 0 0 [.ref (M + 0), .int (nI s), .int b, .int c, .int e, .int (nI i)] (hM D M L σ ρ g, nx) (fun v h => v = some (.int (nI 0)) ∧ h = (hM D M L σ ρ g, nx)) := by
  refine jM.of (by decide +kernel) (Nat.le_of_ble_eq_true rfl) rfl ?_
  refine j_iload_n d_Mo_lie_0 rfl ?_
  refine j_iconst (v := nI 2) d_Mo_lie_1 (by decide +kernel) ?_
  refine j_callS0 (As := [_, _]) G0_good G0_E d_Mo_lie_2 c_Mo_103 rfl rfl rfl (m_out (nI s) 2) (by decide) (Nat.le_of_ble_eq_true rfl) ?_
  rintro _ _ ⟨rfl, rfl⟩
  first | refine c_if_ne (t := 34) d_Mo_lie_5 (by decide) (fun c5 => ?_) (fun c5 => ?_) | refine n_if_ne (t := 34) d_Mo_lie_5 (by decide) (by omega) (fun c5 => ?_) (fun c5 => ?_) | refine j_if_ne (t := 34) d_Mo_lie_5 (by decide) (fun c5 => ?_) (fun c5 => ?_)
  · exfalso; first | exact c5 | omega | exact c5 (inr_nI (by decide) hs) | exact c5 (inr_nI (by decide) hi) | exact c5 hf
  · refine j_iload d_Mo_lie_8 rfl ?_
    refine j_iconst (v := nI 3) d_Mo_lie_10 (by decide +kernel) ?_
    refine j_callS0 (As := [_, _]) G0_good G0_E d_Mo_lie_11 c_Mo_103 rfl rfl rfl (m_out (nI i) 3) (by decide) (Nat.le_of_ble_eq_true rfl) ?_
    rintro _ _ ⟨rfl, rfl⟩
    first | refine c_if_ne (t := 34) d_Mo_lie_14 (by decide) (fun c14 => ?_) (fun c14 => ?_) | refine n_if_ne (t := 34) d_Mo_lie_14 (by decide) (by omega) (fun c14 => ?_) (fun c14 => ?_) | refine j_if_ne (t := 34) d_Mo_lie_14 (by decide) (fun c14 => ?_) (fun c14 => ?_)
    · exfalso; first | exact c14 | omega | exact c14 (inr_nI (by decide) hs) | exact c14 (inr_nI (by decide) hi) | exact c14 hf
    · refine j_iload_n d_Mo_lie_17 rfl ?_
      refine j_iconst (v := nI 3) d_Mo_lie_18 (by decide +kernel) ?_
      refine j_callS0 (As := [_, _]) G0_good G0_E d_Mo_lie_19 c_Mo_103 rfl rfl rfl (m_out b 3) (by decide) (Nat.le_of_ble_eq_true rfl) ?_
      rintro _ _ ⟨rfl, rfl⟩
      first | refine c_if_ne (t := 34) d_Mo_lie_22 (by decide) (fun c22 => ?_) (fun c22 => ?_) | refine n_if_ne (t := 34) d_Mo_lie_22 (by decide) (by omega) (fun c22 => ?_) (fun c22 => ?_) | refine j_if_ne (t := 34) d_Mo_lie_22 (by decide) (fun c22 => ?_) (fun c22 => ?_)
      · refine j_iconst (v := nI 0) d_Mo_lie_34 (by decide +kernel) ?_
        exact j_zret d_Mo_lie_35 rfl (by decide +kernel) ⟨rfl, rfl⟩
      · exfalso; first | exact c22 | omega | exact c22 (inr_nI (by decide) hs) | exact c22 (inr_nI (by decide) hi) | exact c22 hf

set_option maxHeartbeats 4000000 in
set_option maxRecDepth 100000 in
theorem m_lie_O4 {l : Launch} {D : va_G} {M nx : Nat} {L : Int32} {σ ρ : Sg} {g : Nat → Option va_E} (s i k : Nat) (hs : s < 2) (hi : i < 3) (hk : k < 3) (c e : Int32) (hf : ¬ inr c 6) : jM (G0 l D) m_Mo_lie 1 0 0 [.ref (M + 0), .int (nI s), .int (nI k), .int c, .int e, .int (nI i)] (hM D M L σ ρ g, nx) (fun v h => v = some (.int (nI 0)) ∧ h = (hM D M L σ ρ g, nx)) := by
  refine jM.of (by decide +kernel) (Nat.le_of_ble_eq_true rfl) rfl ?_
  refine j_iload_n d_Mo_lie_0 rfl ?_
  refine j_iconst (v := nI 2) d_Mo_lie_1 (by decide +kernel) ?_
  refine j_callS0 (As := [_, _]) G0_good G0_E d_Mo_lie_2 c_Mo_103 rfl rfl rfl (m_out (nI s) 2) (by decide) (Nat.le_of_ble_eq_true rfl) ?_
  rintro _ _ ⟨rfl, rfl⟩
  first | refine c_if_ne (t := 34) d_Mo_lie_5 (by decide) (fun c5 => ?_) (fun c5 => ?_) | refine n_if_ne (t := 34) d_Mo_lie_5 (by decide) (by omega) (fun c5 => ?_) (fun c5 => ?_) | refine j_if_ne (t := 34) d_Mo_lie_5 (by decide) (fun c5 => ?_) (fun c5 => ?_)
  · exfalso; first | exact c5 | omega | exact c5 (inr_nI (by decide) hs) | exact c5 (inr_nI (by decide) hi) | exact c5 (inr_nI (by decide) hk) | exact c5 hf
  · refine j_iload d_Mo_lie_8 rfl ?_
    refine j_iconst (v := nI 3) d_Mo_lie_10 (by decide +kernel) ?_
    refine j_callS0 (As := [_, _]) G0_good G0_E d_Mo_lie_11 c_Mo_103 rfl rfl rfl (m_out (nI i) 3) (by decide) (Nat.le_of_ble_eq_true rfl) ?_
    rintro _ _ ⟨rfl, rfl⟩
    first | refine c_if_ne (t := 34) d_Mo_lie_14 (by decide) (fun c14 => ?_) (fun c14 => ?_) | refine n_if_ne (t := 34) d_Mo_lie_14 (by decide) (by omega) (fun c14 => ?_) (fun c14 => ?_) | refine j_if_ne (t := 34) d_Mo_lie_14 (by decide) (fun c14 => ?_) (fun c14 => ?_)
    · exfalso; first | exact c14 | omega | exact c14 (inr_nI (by decide) hs) | exact c14 (inr_nI (by decide) hi) | exact c14 (inr_nI (by decide) hk) | exact c14 hf
    · refine j_iload_n d_Mo_lie_17 rfl ?_
      refine j_iconst (v := nI 3) d_Mo_lie_18 (by decide +kernel) ?_
      refine j_callS0 (As := [_, _]) G0_good G0_E d_Mo_lie_19 c_Mo_103 rfl rfl rfl (m_out (nI k) 3) (by decide) (Nat.le_of_ble_eq_true rfl) ?_
      rintro _ _ ⟨rfl, rfl⟩
      first | refine c_if_ne (t := 34) d_Mo_lie_22 (by decide) (fun c22 => ?_) (fun c22 => ?_) | refine n_if_ne (t := 34) d_Mo_lie_22 (by decide) (by omega) (fun c22 => ?_) (fun c22 => ?_) | refine j_if_ne (t := 34) d_Mo_lie_22 (by decide) (fun c22 => ?_) (fun c22 => ?_)
      · exfalso; first | exact c22 | omega | exact c22 (inr_nI (by decide) hs) | exact c22 (inr_nI (by decide) hi) | exact c22 (inr_nI (by decide) hk) | exact c22 hf
      · refine j_iload_n d_Mo_lie_25 rfl ?_
        refine j_bipush (v := nI 6) d_Mo_lie_26 (by decide +kernel) ?_
        refine j_callS0 (As := [_, _]) G0_good G0_E d_Mo_lie_28 c_Mo_103 rfl rfl rfl (m_out c 6) (by decide) (Nat.le_of_ble_eq_true rfl) ?_
        rintro _ _ ⟨rfl, rfl⟩
        first | refine c_if_eq (t := 36) d_Mo_lie_31 (by decide) (fun c31 => ?_) (fun c31 => ?_) | refine n_if_eq (t := 36) d_Mo_lie_31 (by decide) (by omega) (fun c31 => ?_) (fun c31 => ?_) | refine j_if_eq (t := 36) d_Mo_lie_31 (by decide) (fun c31 => ?_) (fun c31 => ?_)
        · exfalso; first | exact c31 | omega | exact c31 (inr_nI (by decide) hs) | exact c31 (inr_nI (by decide) hi) | exact c31 (inr_nI (by decide) hk) | exact c31 hf
        · refine j_iconst (v := nI 0) d_Mo_lie_34 (by decide +kernel) ?_
          exact j_zret d_Mo_lie_35 rfl (by decide +kernel) ⟨rfl, rfl⟩

set_option maxHeartbeats 4000000 in
set_option maxRecDepth 100000 in
theorem m_lie_g {l : Launch} {D : va_G} {M nx : Nat} {L : Int32} {σ ρ : Sg} {g : Nat → Option va_E} {c : Nat → Nat → Nat} (ic : Pu.Ic c σ) (fc : FC L c) (s i k r : Nat) (hs : s < 2) (hi : i < 3) (hk : k < 3) (hr : r < 6) (e : Int32) (h : ¬ lieP σ (nI s) (nI k) (nI r) e (nI i)) : jM (G0 l D) m_Mo_lie 1 0 0 [.ref (M + 0), .int (nI s), .int (nI k), .int (nI r), .int e, .int (nI i)] (hM D M L σ ρ g, nx) (fun v h => v = some (.int (nI 0)) ∧ h = (hM D M L σ ρ g, nx)) := by
  refine jM.of (by decide +kernel) (Nat.le_of_ble_eq_true rfl) rfl ?_
  have hb := ic.2.1
  have r32 := Pu.rq32 ic.1.bk
  have hp : 4 * s + i < 8 := by omega
  have hp3 : 4 * s + 3 < 8 := by omega
  have b17 := hb 17 (4 * s + i) 0
  have H := ic.1.po.ht (4 * s + i) hp
  have lb := ic.1.bx.lb (3 * ((4 * s + i) / 4) + (4 * s + i) % 4) (102 * k + 6 * σ 10 (4 * s + i) 0 + r)
  have hon : σ 0 (4 * s + i) 0 = 0 := Pu.hon3 ic.1.po hs hi

  refine j_iload_n d_Mo_lie_0 rfl ?_
  refine j_iconst (v := nI 2) d_Mo_lie_1 (by decide +kernel) ?_
  refine j_callS0 (As := [_, _]) G0_good G0_E d_Mo_lie_2 c_Mo_103 rfl rfl rfl (m_out (nI s) 2) (by decide) (Nat.le_of_ble_eq_true rfl) ?_
  rintro _ _ ⟨rfl, rfl⟩
  first | refine c_if_ne (t := 34) d_Mo_lie_5 (by decide) (fun c5 => ?_) (fun c5 => ?_) | refine n_if_ne (t := 34) d_Mo_lie_5 (by decide) (by omega) (fun c5 => ?_) (fun c5 => ?_) | refine j_if_ne (t := 34) d_Mo_lie_5 (by decide) (fun c5 => ?_) (fun c5 => ?_)
  · exfalso; first | exact c5 | omega | exact c5 (inr_nI (by decide) hs) | exact c5 (inr_nI (by decide) hi) | exact c5 (inr_nI (by decide) hk) | exact c5 (inr_nI (by decide) hr)
  · refine j_iload d_Mo_lie_8 rfl ?_
    refine j_iconst (v := nI 3) d_Mo_lie_10 (by decide +kernel) ?_
    refine j_callS0 (As := [_, _]) G0_good G0_E d_Mo_lie_11 c_Mo_103 rfl rfl rfl (m_out (nI i) 3) (by decide) (Nat.le_of_ble_eq_true rfl) ?_
    rintro _ _ ⟨rfl, rfl⟩
    first | refine c_if_ne (t := 34) d_Mo_lie_14 (by decide) (fun c14 => ?_) (fun c14 => ?_) | refine n_if_ne (t := 34) d_Mo_lie_14 (by decide) (by omega) (fun c14 => ?_) (fun c14 => ?_) | refine j_if_ne (t := 34) d_Mo_lie_14 (by decide) (fun c14 => ?_) (fun c14 => ?_)
    · exfalso; first | exact c14 | omega | exact c14 (inr_nI (by decide) hs) | exact c14 (inr_nI (by decide) hi) | exact c14 (inr_nI (by decide) hk) | exact c14 (inr_nI (by decide) hr)
    · refine j_iload_n d_Mo_lie_17 rfl ?_
      refine j_iconst (v := nI 3) d_Mo_lie_18 (by decide +kernel) ?_
      refine j_callS0 (As := [_, _]) G0_good G0_E d_Mo_lie_19 c_Mo_103 rfl rfl rfl (m_out (nI k) 3) (by decide) (Nat.le_of_ble_eq_true rfl) ?_
      rintro _ _ ⟨rfl, rfl⟩
      first | refine c_if_ne (t := 34) d_Mo_lie_22 (by decide) (fun c22 => ?_) (fun c22 => ?_) | refine n_if_ne (t := 34) d_Mo_lie_22 (by decide) (by omega) (fun c22 => ?_) (fun c22 => ?_) | refine j_if_ne (t := 34) d_Mo_lie_22 (by decide) (fun c22 => ?_) (fun c22 => ?_)
      · exfalso; first | exact c22 | omega | exact c22 (inr_nI (by decide) hs) | exact c22 (inr_nI (by decide) hi) | exact c22 (inr_nI (by decide) hk) | exact c22 (inr_nI (by decide) hr)
      · refine j_iload_n d_Mo_lie_25 rfl ?_
        refine j_bipush (v := nI 6) d_Mo_lie_26 (by decide +kernel) ?_
        refine j_callS0 (As := [_, _]) G0_good G0_E d_Mo_lie_28 c_Mo_103 rfl rfl rfl (m_out (nI r) 6) (by decide) (Nat.le_of_ble_eq_true rfl) ?_
        rintro _ _ ⟨rfl, rfl⟩
        first | refine c_if_eq (t := 36) d_Mo_lie_31 (by decide) (fun c31 => ?_) (fun c31 => ?_) | refine n_if_eq (t := 36) d_Mo_lie_31 (by decide) (by omega) (fun c31 => ?_) (fun c31 => ?_) | refine j_if_eq (t := 36) d_Mo_lie_31 (by decide) (fun c31 => ?_) (fun c31 => ?_)
        · refine j_iconst (v := nI 4) d_Mo_lie_36 (by decide +kernel) ?_
          refine j_iload_n d_Mo_lie_37 rfl ?_
          refine jn_imul d_Mo_lie_38 ?_
          refine j_iload d_Mo_lie_39 rfl ?_
          refine jn_iadd d_Mo_lie_41 ?_
          refine j_istore (lc' := [_, _, _, _, _, _, _, _, _]) d_Mo_lie_42 (by decide) rfl rfl ?_
          refine j_iload d_Mo_lie_44 rfl ?_
          refine j_iconst (v := mI 0) d_Mo_lie_46 (by decide +kernel) ?_
          refine j_icmp_ne (t := 62) d_Mo_lie_47 (by decide) (fun c47 => ?_) (fun c47 => ?_)
          · refine j_iload d_Mo_lie_62 rfl ?_
            first | refine j_aload_n d_Mo_lie_64 rfl ?_ | refine j_aload_nq d_Mo_lie_64 rfl ?_ | refine j_aload_nN d_Mo_lie_64 rfl ?_
            refine j_get d_Mo_lie_65 f_Mo_97 (hM_o (by decide)) rfl ?_
            refine j_callS0 (As := [_, _]) G0_good G0_E d_Mo_lie_68 c_Mo_103 rfl rfl rfl (m_out e (σ 34 0 0)) (by decide) (Nat.le_of_ble_eq_true rfl) ?_
            rintro _ _ ⟨rfl, rfl⟩
            first | refine c_if_ne (t := 78) d_Mo_lie_71 (by decide) (fun c71 => ?_) (fun c71 => ?_) | refine n_if_ne (t := 78) d_Mo_lie_71 (by decide) (by omega) (fun c71 => ?_) (fun c71 => ?_) | refine j_if_ne (t := 78) d_Mo_lie_71 (by decide) (fun c71 => ?_) (fun c71 => ?_)
            · refine j_iconst (v := nI 0) d_Mo_lie_78 (by decide +kernel) ?_
              refine j_istore (lc' := [_, _, _, _, _, _, _, _, _]) d_Mo_lie_79 (by decide) rfl rfl ?_
              first | refine j_aload_n d_Mo_lie_81 rfl ?_ | refine j_aload_nq d_Mo_lie_81 rfl ?_ | refine j_aload_nN d_Mo_lie_81 rfl ?_
              refine j_iconst (v := nI 4) d_Mo_lie_82 (by decide +kernel) ?_
              refine j_iload_n d_Mo_lie_83 rfl ?_
              refine jn_imul d_Mo_lie_84 ?_
              refine j_iconst (v := nI 3) d_Mo_lie_85 (by decide +kernel) ?_
              refine jn_iadd d_Mo_lie_86 ?_
              refine j_callV0 (As := [_]) G0_good G0_E d_Mo_lie_87 c_Mo_192 rfl rfl (m_faulty (fc σ ic.2.2) (4 * s + 3) hp3) (hM_o (by decide)) rfl rfl (by decide) (Nat.le_of_ble_eq_true rfl) ?_
              rintro _ _ ⟨rfl, rfl⟩
              first | refine c_if_eq (t := 108) d_Mo_lie_90 (by decide) (fun c90 => ?_) (fun c90 => ?_) | refine n_if_eq (t := 108) d_Mo_lie_90 (by decide) (by omega) (fun c90 => ?_) (fun c90 => ?_) | refine j_if_eq (t := 108) d_Mo_lie_90 (by decide) (fun c90 => ?_) (fun c90 => ?_)
              · refine j_iconst (v := nI 0) d_Mo_lie_108 (by decide +kernel) ?_
                exact j_zret d_Mo_lie_109 rfl (by decide +kernel) ⟨rfl, rfl⟩
              · first | refine j_aload_n d_Mo_lie_93 rfl ?_ | refine j_aload_nq d_Mo_lie_93 rfl ?_ | refine j_aload_nN d_Mo_lie_93 rfl ?_
                refine j_get d_Mo_lie_94 f_Mo_58 (hM_o (by decide)) rfl ?_
                refine j_iload d_Mo_lie_97 rfl ?_
                refine j_zald (t := 1) d_Mo_lie_99 rfl (hM_o (by decide)) rfl (by omega) (by decide) ?_
                first | refine c_if_ne (t := 108) d_Mo_lie_100 (by decide) (fun c100 => ?_) (fun c100 => ?_) | refine n_if_ne (t := 108) d_Mo_lie_100 (by decide) (by omega) (fun c100 => ?_) (fun c100 => ?_) | refine j_if_ne (t := 108) d_Mo_lie_100 (by decide) (fun c100 => ?_) (fun c100 => ?_)
                · refine j_iconst (v := nI 0) d_Mo_lie_108 (by decide +kernel) ?_
                  exact j_zret d_Mo_lie_109 rfl (by decide +kernel) ⟨rfl, rfl⟩
                · refine j_iload d_Mo_lie_103 rfl ?_
                  refine j_if_ne (t := 110) d_Mo_lie_105 (by decide) (fun q => absurd q (by decide +kernel)) (fun _ => ?_)
                  refine j_iconst (v := nI 0) d_Mo_lie_108 (by decide +kernel) ?_
                  exact j_zret d_Mo_lie_109 rfl (by decide +kernel) ⟨rfl, rfl⟩
            · refine j_iconst (v := nI 1) d_Mo_lie_74 (by decide +kernel) ?_
              refine j_goto (t := 79) d_Mo_lie_75 (by decide) ?_
              refine j_istore (lc' := [_, _, _, _, _, _, _, _, _]) d_Mo_lie_79 (by decide) rfl rfl ?_
              first | refine j_aload_n d_Mo_lie_81 rfl ?_ | refine j_aload_nq d_Mo_lie_81 rfl ?_ | refine j_aload_nN d_Mo_lie_81 rfl ?_
              refine j_iconst (v := nI 4) d_Mo_lie_82 (by decide +kernel) ?_
              refine j_iload_n d_Mo_lie_83 rfl ?_
              refine jn_imul d_Mo_lie_84 ?_
              refine j_iconst (v := nI 3) d_Mo_lie_85 (by decide +kernel) ?_
              refine jn_iadd d_Mo_lie_86 ?_
              refine j_callV0 (As := [_]) G0_good G0_E d_Mo_lie_87 c_Mo_192 rfl rfl (m_faulty (fc σ ic.2.2) (4 * s + 3) hp3) (hM_o (by decide)) rfl rfl (by decide) (Nat.le_of_ble_eq_true rfl) ?_
              rintro _ _ ⟨rfl, rfl⟩
              first | refine c_if_eq (t := 108) d_Mo_lie_90 (by decide) (fun c90 => ?_) (fun c90 => ?_) | refine n_if_eq (t := 108) d_Mo_lie_90 (by decide) (by omega) (fun c90 => ?_) (fun c90 => ?_) | refine j_if_eq (t := 108) d_Mo_lie_90 (by decide) (fun c90 => ?_) (fun c90 => ?_)
              · refine j_iconst (v := nI 0) d_Mo_lie_108 (by decide +kernel) ?_
                exact j_zret d_Mo_lie_109 rfl (by decide +kernel) ⟨rfl, rfl⟩
              · first | refine j_aload_n d_Mo_lie_93 rfl ?_ | refine j_aload_nq d_Mo_lie_93 rfl ?_ | refine j_aload_nN d_Mo_lie_93 rfl ?_
                refine j_get d_Mo_lie_94 f_Mo_58 (hM_o (by decide)) rfl ?_
                refine j_iload d_Mo_lie_97 rfl ?_
                refine j_zald (t := 1) d_Mo_lie_99 rfl (hM_o (by decide)) rfl (by omega) (by decide) ?_
                first | refine c_if_ne (t := 108) d_Mo_lie_100 (by decide) (fun c100 => ?_) (fun c100 => ?_) | refine n_if_ne (t := 108) d_Mo_lie_100 (by decide) (by omega) (fun c100 => ?_) (fun c100 => ?_) | refine j_if_ne (t := 108) d_Mo_lie_100 (by decide) (fun c100 => ?_) (fun c100 => ?_)
                · refine j_iconst (v := nI 0) d_Mo_lie_108 (by decide +kernel) ?_
                  exact j_zret d_Mo_lie_109 rfl (by decide +kernel) ⟨rfl, rfl⟩
                · refine j_iload d_Mo_lie_103 rfl ?_
                  refine j_if_ne (t := 110) d_Mo_lie_105 (by decide) (fun _ => ?_) (fun q => absurd q (by decide +kernel))
                  first | refine j_aload_n d_Mo_lie_110 rfl ?_ | refine j_aload_nq d_Mo_lie_110 rfl ?_ | refine j_aload_nN d_Mo_lie_110 rfl ?_
                  refine j_iload d_Mo_lie_111 rfl ?_
                  refine j_iload_n d_Mo_lie_113 rfl ?_
                  first | refine j_aload_n d_Mo_lie_114 rfl ?_ | refine j_aload_nq d_Mo_lie_114 rfl ?_ | refine j_aload_nN d_Mo_lie_114 rfl ?_
                  refine j_get d_Mo_lie_115 f_Mo_37 (hM_o (by decide)) rfl ?_
                  refine j_iload d_Mo_lie_118 rfl ?_
                  refine j_iald (t := 0) d_Mo_lie_120 rfl (hM_o (by decide)) rfl (by omega) (by decide) ?_
                  refine j_iload_n d_Mo_lie_121 rfl ?_
                  refine j_callV0 (As := [_, _, _, _]) G0_good G0_E d_Mo_lie_122 c_Mo_145 rfl rfl (m_lieAt (4 * s + i) k (σ 10 (4 * s + i) 0) r hp) (hM_o (by decide)) rfl rfl (by decide) (Nat.le_of_ble_eq_true rfl) ?_
                  rintro _ _ ⟨rfl, rfl⟩
                  refine j_istore (lc' := [_, _, _, _, _, _, _, _, _]) d_Mo_lie_125 (by decide) rfl rfl ?_
                  first | refine j_aload_n d_Mo_lie_127 rfl ?_ | refine j_aload_nq d_Mo_lie_127 rfl ?_ | refine j_aload_nN d_Mo_lie_127 rfl ?_
                  refine j_get d_Mo_lie_128 f_Mo_78 (hM_o (by decide)) rfl ?_
                  refine j_iload d_Mo_lie_131 rfl ?_
                  refine o_fld (t := 0) (w := 306) d_Mo_lie_133 rfl (hM_o (by decide)) rfl (by omega) (by omega) (by decide) ?_
                  first | refine c_if_eq (t := 139) d_Mo_lie_134 (by decide) (fun c134 => ?_) (fun c134 => ?_) | refine n_if_eq (t := 139) d_Mo_lie_134 (by decide) (by omega) (fun c134 => ?_) (fun c134 => ?_) | refine j_if_eq (t := 139) d_Mo_lie_134 (by decide) (fun c134 => ?_) (fun c134 => ?_)
                  · exfalso
                    obtain ⟨x, hx, rfl⟩ := inr_of (by omega) (Classical.not_not.mp c71)
                    exact h ⟨s, k, r, x + 1, i, rfl, rfl, rfl, (mI_succ x).symm, rfl, hs, hk, hr, by omega, c90, Or.inr ⟨by omega, by omega⟩, ⟨hon, by omega⟩, (lie_slot ic hs hi hk hr c90 hon).mp c134⟩
                  · refine j_iconst (v := nI 0) d_Mo_lie_137 (by decide +kernel) ?_
                    exact j_zret d_Mo_lie_138 rfl (by decide +kernel) ⟨rfl, rfl⟩
          · refine j_iload_n d_Mo_lie_50 rfl ?_
            first | refine c_if_eq (t := 58) d_Mo_lie_51 (by decide) (fun c51 => ?_) (fun c51 => ?_) | refine n_if_eq (t := 58) d_Mo_lie_51 (by decide) (by omega) (fun c51 => ?_) (fun c51 => ?_) | refine j_if_eq (t := 58) d_Mo_lie_51 (by decide) (fun c51 => ?_) (fun c51 => ?_)
            · refine j_iconst (v := nI 0) d_Mo_lie_58 (by decide +kernel) ?_
              refine j_goto (t := 79) d_Mo_lie_59 (by decide) ?_
              refine j_istore (lc' := [_, _, _, _, _, _, _, _, _]) d_Mo_lie_79 (by decide) rfl rfl ?_
              first | refine j_aload_n d_Mo_lie_81 rfl ?_ | refine j_aload_nq d_Mo_lie_81 rfl ?_ | refine j_aload_nN d_Mo_lie_81 rfl ?_
              refine j_iconst (v := nI 4) d_Mo_lie_82 (by decide +kernel) ?_
              refine j_iload_n d_Mo_lie_83 rfl ?_
              refine jn_imul d_Mo_lie_84 ?_
              refine j_iconst (v := nI 3) d_Mo_lie_85 (by decide +kernel) ?_
              refine jn_iadd d_Mo_lie_86 ?_
              refine j_callV0 (As := [_]) G0_good G0_E d_Mo_lie_87 c_Mo_192 rfl rfl (m_faulty (fc σ ic.2.2) (4 * s + 3) hp3) (hM_o (by decide)) rfl rfl (by decide) (Nat.le_of_ble_eq_true rfl) ?_
              rintro _ _ ⟨rfl, rfl⟩
              first | refine c_if_eq (t := 108) d_Mo_lie_90 (by decide) (fun c90 => ?_) (fun c90 => ?_) | refine n_if_eq (t := 108) d_Mo_lie_90 (by decide) (by omega) (fun c90 => ?_) (fun c90 => ?_) | refine j_if_eq (t := 108) d_Mo_lie_90 (by decide) (fun c90 => ?_) (fun c90 => ?_)
              · refine j_iconst (v := nI 0) d_Mo_lie_108 (by decide +kernel) ?_
                exact j_zret d_Mo_lie_109 rfl (by decide +kernel) ⟨rfl, rfl⟩
              · first | refine j_aload_n d_Mo_lie_93 rfl ?_ | refine j_aload_nq d_Mo_lie_93 rfl ?_ | refine j_aload_nN d_Mo_lie_93 rfl ?_
                refine j_get d_Mo_lie_94 f_Mo_58 (hM_o (by decide)) rfl ?_
                refine j_iload d_Mo_lie_97 rfl ?_
                refine j_zald (t := 1) d_Mo_lie_99 rfl (hM_o (by decide)) rfl (by omega) (by decide) ?_
                first | refine c_if_ne (t := 108) d_Mo_lie_100 (by decide) (fun c100 => ?_) (fun c100 => ?_) | refine n_if_ne (t := 108) d_Mo_lie_100 (by decide) (by omega) (fun c100 => ?_) (fun c100 => ?_) | refine j_if_ne (t := 108) d_Mo_lie_100 (by decide) (fun c100 => ?_) (fun c100 => ?_)
                · refine j_iconst (v := nI 0) d_Mo_lie_108 (by decide +kernel) ?_
                  exact j_zret d_Mo_lie_109 rfl (by decide +kernel) ⟨rfl, rfl⟩
                · refine j_iload d_Mo_lie_103 rfl ?_
                  refine j_if_ne (t := 110) d_Mo_lie_105 (by decide) (fun q => absurd q (by decide +kernel)) (fun _ => ?_)
                  refine j_iconst (v := nI 0) d_Mo_lie_108 (by decide +kernel) ?_
                  exact j_zret d_Mo_lie_109 rfl (by decide +kernel) ⟨rfl, rfl⟩
            · refine j_iconst (v := nI 1) d_Mo_lie_54 (by decide +kernel) ?_
              refine j_goto (t := 79) d_Mo_lie_55 (by decide) ?_
              refine j_istore (lc' := [_, _, _, _, _, _, _, _, _]) d_Mo_lie_79 (by decide) rfl rfl ?_
              first | refine j_aload_n d_Mo_lie_81 rfl ?_ | refine j_aload_nq d_Mo_lie_81 rfl ?_ | refine j_aload_nN d_Mo_lie_81 rfl ?_
              refine j_iconst (v := nI 4) d_Mo_lie_82 (by decide +kernel) ?_
              refine j_iload_n d_Mo_lie_83 rfl ?_
              refine jn_imul d_Mo_lie_84 ?_
              refine j_iconst (v := nI 3) d_Mo_lie_85 (by decide +kernel) ?_
              refine jn_iadd d_Mo_lie_86 ?_
              refine j_callV0 (As := [_]) G0_good G0_E d_Mo_lie_87 c_Mo_192 rfl rfl (m_faulty (fc σ ic.2.2) (4 * s + 3) hp3) (hM_o (by decide)) rfl rfl (by decide) (Nat.le_of_ble_eq_true rfl) ?_
              rintro _ _ ⟨rfl, rfl⟩
              first | refine c_if_eq (t := 108) d_Mo_lie_90 (by decide) (fun c90 => ?_) (fun c90 => ?_) | refine n_if_eq (t := 108) d_Mo_lie_90 (by decide) (by omega) (fun c90 => ?_) (fun c90 => ?_) | refine j_if_eq (t := 108) d_Mo_lie_90 (by decide) (fun c90 => ?_) (fun c90 => ?_)
              · refine j_iconst (v := nI 0) d_Mo_lie_108 (by decide +kernel) ?_
                exact j_zret d_Mo_lie_109 rfl (by decide +kernel) ⟨rfl, rfl⟩
              · first | refine j_aload_n d_Mo_lie_93 rfl ?_ | refine j_aload_nq d_Mo_lie_93 rfl ?_ | refine j_aload_nN d_Mo_lie_93 rfl ?_
                refine j_get d_Mo_lie_94 f_Mo_58 (hM_o (by decide)) rfl ?_
                refine j_iload d_Mo_lie_97 rfl ?_
                refine j_zald (t := 1) d_Mo_lie_99 rfl (hM_o (by decide)) rfl (by omega) (by decide) ?_
                first | refine c_if_ne (t := 108) d_Mo_lie_100 (by decide) (fun c100 => ?_) (fun c100 => ?_) | refine n_if_ne (t := 108) d_Mo_lie_100 (by decide) (by omega) (fun c100 => ?_) (fun c100 => ?_) | refine j_if_ne (t := 108) d_Mo_lie_100 (by decide) (fun c100 => ?_) (fun c100 => ?_)
                · refine j_iconst (v := nI 0) d_Mo_lie_108 (by decide +kernel) ?_
                  exact j_zret d_Mo_lie_109 rfl (by decide +kernel) ⟨rfl, rfl⟩
                · refine j_iload d_Mo_lie_103 rfl ?_
                  refine j_if_ne (t := 110) d_Mo_lie_105 (by decide) (fun _ => ?_) (fun q => absurd q (by decide +kernel))
                  first | refine j_aload_n d_Mo_lie_110 rfl ?_ | refine j_aload_nq d_Mo_lie_110 rfl ?_ | refine j_aload_nN d_Mo_lie_110 rfl ?_
                  refine j_iload d_Mo_lie_111 rfl ?_
                  refine j_iload_n d_Mo_lie_113 rfl ?_
                  first | refine j_aload_n d_Mo_lie_114 rfl ?_ | refine j_aload_nq d_Mo_lie_114 rfl ?_ | refine j_aload_nN d_Mo_lie_114 rfl ?_
                  refine j_get d_Mo_lie_115 f_Mo_37 (hM_o (by decide)) rfl ?_
                  refine j_iload d_Mo_lie_118 rfl ?_
                  refine j_iald (t := 0) d_Mo_lie_120 rfl (hM_o (by decide)) rfl (by omega) (by decide) ?_
                  refine j_iload_n d_Mo_lie_121 rfl ?_
                  refine j_callV0 (As := [_, _, _, _]) G0_good G0_E d_Mo_lie_122 c_Mo_145 rfl rfl (m_lieAt (4 * s + i) k (σ 10 (4 * s + i) 0) r hp) (hM_o (by decide)) rfl rfl (by decide) (Nat.le_of_ble_eq_true rfl) ?_
                  rintro _ _ ⟨rfl, rfl⟩
                  refine j_istore (lc' := [_, _, _, _, _, _, _, _, _]) d_Mo_lie_125 (by decide) rfl rfl ?_
                  first | refine j_aload_n d_Mo_lie_127 rfl ?_ | refine j_aload_nq d_Mo_lie_127 rfl ?_ | refine j_aload_nN d_Mo_lie_127 rfl ?_
                  refine j_get d_Mo_lie_128 f_Mo_78 (hM_o (by decide)) rfl ?_
                  refine j_iload d_Mo_lie_131 rfl ?_
                  refine o_fld (t := 0) (w := 306) d_Mo_lie_133 rfl (hM_o (by decide)) rfl (by omega) (by omega) (by decide) ?_
                  first | refine c_if_eq (t := 139) d_Mo_lie_134 (by decide) (fun c134 => ?_) (fun c134 => ?_) | refine n_if_eq (t := 139) d_Mo_lie_134 (by decide) (by omega) (fun c134 => ?_) (fun c134 => ?_) | refine j_if_eq (t := 139) d_Mo_lie_134 (by decide) (fun c134 => ?_) (fun c134 => ?_)
                  · exfalso
                    exact h ⟨s, k, r, 0, i, rfl, rfl, rfl, c47, rfl, hs, hk, hr, by omega, c90, Or.inl ⟨rfl, c51⟩, ⟨hon, by omega⟩, (lie_slot ic hs hi hk hr c90 hon).mp c134⟩
                  · refine j_iconst (v := nI 0) d_Mo_lie_137 (by decide +kernel) ?_
                    exact j_zret d_Mo_lie_138 rfl (by decide +kernel) ⟨rfl, rfl⟩
        · exfalso; first | exact c31 | omega | exact c31 (inr_nI (by decide) hs) | exact c31 (inr_nI (by decide) hi) | exact c31 (inr_nI (by decide) hk) | exact c31 (inr_nI (by decide) hr)

theorem m_lie_f {l : Launch} {D : va_G} {M nx : Nat} {L : Int32} {σ ρ : Sg} {g : Nat → Option va_E} {c : Nat → Nat → Nat} (ic : Pu.Ic c σ) (fc : FC L c) (s i : Nat) (hs : s < 2) (hi : i < 4) (b cc e : Int32) (h : ¬ lieP σ (nI s) b cc e (nI i)) : jM (G0 l D) m_Mo_lie 1 0 0 [.ref (M + 0), .int (nI s), .int b, .int cc, .int e, .int (nI i)] (hM D M L σ ρ g, nx) (fun v h => v = some (.int (nI 0)) ∧ h = (hM D M L σ ρ g, nx)) := by
  by_cases h3 : i < 3
  · by_cases hb : inr b 3
    · obtain ⟨k, hk, rfl⟩ := inr_of (by decide) hb
      by_cases hc : inr cc 6
      · obtain ⟨r, hr, rfl⟩ := inr_of (by decide) hc
        exact m_lie_g ic fc s i k r hs h3 hk hr e h
      · exact m_lie_O4 s i k hs h3 hk cc e hc
    · exact m_lie_O3 s i hs h3 b cc e hb
  · exact m_lie_O2 s hs b cc e (nI i) (fun z => by have := (inr_iff (by decide) (by omega)).mp z; omega)

set_option maxHeartbeats 4000000 in
set_option maxRecDepth 100000 in
theorem m_lie_t0 {l : Launch} {D : va_G} {M nx : Nat} {L : Int32} {σ ρ : Sg} {g : Nat → Option va_E} {c : Nat → Nat → Nat} (ic : Pu.Ic c σ) (fc : FC L c) (s i k r : Nat) (hs : s < 2) (hi : i < 3) (hk : k < 3) (hr : r < 6) (x : Nat) (hx : x < 99999) (hfl : ¬ σ 0 (4 * s + 3) 0 = 0) (hsay : (x = 0 ∧ ¬ k = 0) ∨ (¬ x = 0 ∧ x - 1 < σ 34 0 0)) (haw : awake σ (4 * s + i)) (hz : σ 29 (4 * s + i) (slt k r 3) = 0) : jM (G0 l D) m_Mo_lie 5 0 0 [.ref (M + 0), .int (nI s), .int (nI k), .int (nI r), .int (mI x), .int (nI i)] (hM D M L σ ρ g, nx) (fun v h => v = some (.int (nI 1)) ∧ ∃ ρ', h = (hM D M L (sAct (sLie σ (4 * s + i) k r x) (4 * s + i)) ρ' g, nx)) := by
  refine jM.of (by decide +kernel) (Nat.le_of_ble_eq_true rfl) rfl ?_
  have hb := ic.2.1
  have r32 := Pu.rq32 ic.1.bk
  have hp : 4 * s + i < 8 := by omega
  have hp3 : 4 * s + 3 < 8 := by omega
  have b17 := hb 17 (4 * s + i) 0
  have H := ic.1.po.ht (4 * s + i) hp
  have lb := ic.1.bx.lb (3 * ((4 * s + i) / 4) + (4 * s + i) % 4) (102 * k + 6 * σ 10 (4 * s + i) 0 + r)
  have hon : σ 0 (4 * s + i) 0 = 0 := Pu.hon3 ic.1.po hs hi
  have aw2 := haw.2

  refine j_iload_n d_Mo_lie_0 rfl ?_
  refine j_iconst (v := nI 2) d_Mo_lie_1 (by decide +kernel) ?_
  refine j_callS0 (As := [_, _]) G0_good G0_E d_Mo_lie_2 c_Mo_103 rfl rfl rfl (m_out (nI s) 2) (by decide) (Nat.le_of_ble_eq_true rfl) ?_
  rintro _ _ ⟨rfl, rfl⟩
  first | refine c_if_ne (t := 34) d_Mo_lie_5 (by decide) (fun c5 => ?_) (fun c5 => ?_) | refine n_if_ne (t := 34) d_Mo_lie_5 (by decide) (by omega) (fun c5 => ?_) (fun c5 => ?_) | refine j_if_ne (t := 34) d_Mo_lie_5 (by decide) (fun c5 => ?_) (fun c5 => ?_)
  · exfalso; first | exact c5 | omega | exact c5 (inr_nI (by decide) hs) | exact c5 (inr_nI (by decide) hi) | exact c5 (inr_nI (by decide) hk) | exact c5 (inr_nI (by decide) hr) | (obtain ⟨y, rfl⟩ : ∃ y, x = y + 1 := ⟨x - 1, by omega⟩; rw [mI_succ] at c5; exact c5 (inr_nI (by omega) (by omega))) | exact c5 hfl | exact c5 haw.2 | exact c5 ((lie_slot ic hs hi hk hr hfl hon).mpr hz)
  · refine j_iload d_Mo_lie_8 rfl ?_
    refine j_iconst (v := nI 3) d_Mo_lie_10 (by decide +kernel) ?_
    refine j_callS0 (As := [_, _]) G0_good G0_E d_Mo_lie_11 c_Mo_103 rfl rfl rfl (m_out (nI i) 3) (by decide) (Nat.le_of_ble_eq_true rfl) ?_
    rintro _ _ ⟨rfl, rfl⟩
    first | refine c_if_ne (t := 34) d_Mo_lie_14 (by decide) (fun c14 => ?_) (fun c14 => ?_) | refine n_if_ne (t := 34) d_Mo_lie_14 (by decide) (by omega) (fun c14 => ?_) (fun c14 => ?_) | refine j_if_ne (t := 34) d_Mo_lie_14 (by decide) (fun c14 => ?_) (fun c14 => ?_)
    · exfalso; first | exact c14 | omega | exact c14 (inr_nI (by decide) hs) | exact c14 (inr_nI (by decide) hi) | exact c14 (inr_nI (by decide) hk) | exact c14 (inr_nI (by decide) hr) | (obtain ⟨y, rfl⟩ : ∃ y, x = y + 1 := ⟨x - 1, by omega⟩; rw [mI_succ] at c14; exact c14 (inr_nI (by omega) (by omega))) | exact c14 hfl | exact c14 haw.2 | exact c14 ((lie_slot ic hs hi hk hr hfl hon).mpr hz)
    · refine j_iload_n d_Mo_lie_17 rfl ?_
      refine j_iconst (v := nI 3) d_Mo_lie_18 (by decide +kernel) ?_
      refine j_callS0 (As := [_, _]) G0_good G0_E d_Mo_lie_19 c_Mo_103 rfl rfl rfl (m_out (nI k) 3) (by decide) (Nat.le_of_ble_eq_true rfl) ?_
      rintro _ _ ⟨rfl, rfl⟩
      first | refine c_if_ne (t := 34) d_Mo_lie_22 (by decide) (fun c22 => ?_) (fun c22 => ?_) | refine n_if_ne (t := 34) d_Mo_lie_22 (by decide) (by omega) (fun c22 => ?_) (fun c22 => ?_) | refine j_if_ne (t := 34) d_Mo_lie_22 (by decide) (fun c22 => ?_) (fun c22 => ?_)
      · exfalso; first | exact c22 | omega | exact c22 (inr_nI (by decide) hs) | exact c22 (inr_nI (by decide) hi) | exact c22 (inr_nI (by decide) hk) | exact c22 (inr_nI (by decide) hr) | (obtain ⟨y, rfl⟩ : ∃ y, x = y + 1 := ⟨x - 1, by omega⟩; rw [mI_succ] at c22; exact c22 (inr_nI (by omega) (by omega))) | exact c22 hfl | exact c22 haw.2 | exact c22 ((lie_slot ic hs hi hk hr hfl hon).mpr hz)
      · refine j_iload_n d_Mo_lie_25 rfl ?_
        refine j_bipush (v := nI 6) d_Mo_lie_26 (by decide +kernel) ?_
        refine j_callS0 (As := [_, _]) G0_good G0_E d_Mo_lie_28 c_Mo_103 rfl rfl rfl (m_out (nI r) 6) (by decide) (Nat.le_of_ble_eq_true rfl) ?_
        rintro _ _ ⟨rfl, rfl⟩
        first | refine c_if_eq (t := 36) d_Mo_lie_31 (by decide) (fun c31 => ?_) (fun c31 => ?_) | refine n_if_eq (t := 36) d_Mo_lie_31 (by decide) (by omega) (fun c31 => ?_) (fun c31 => ?_) | refine j_if_eq (t := 36) d_Mo_lie_31 (by decide) (fun c31 => ?_) (fun c31 => ?_)
        · refine j_iconst (v := nI 4) d_Mo_lie_36 (by decide +kernel) ?_
          refine j_iload_n d_Mo_lie_37 rfl ?_
          refine jn_imul d_Mo_lie_38 ?_
          refine j_iload d_Mo_lie_39 rfl ?_
          refine jn_iadd d_Mo_lie_41 ?_
          refine j_istore (lc' := [_, _, _, _, _, _, _, _, _]) d_Mo_lie_42 (by decide) rfl rfl ?_
          refine j_iload d_Mo_lie_44 rfl ?_
          refine j_iconst (v := mI 0) d_Mo_lie_46 (by decide +kernel) ?_
          first | refine nn_icmp_ne (t := 62) d_Mo_lie_47 (by decide) (by omega) (by omega) (fun c47 => ?_) (fun c47 => ?_) | refine mm_icmp_ne (t := 62) d_Mo_lie_47 (by decide) (by omega) (by omega) (fun c47 => ?_) (fun c47 => ?_) | refine mn_icmp_ne (t := 62) d_Mo_lie_47 (by decide) (by omega) (by omega) (fun c47 => ?_) (fun c47 => ?_) | refine nm_icmp_ne (t := 62) d_Mo_lie_47 (by decide) (by omega) (by omega) (fun c47 => ?_) (fun c47 => ?_) | refine j_icmp_ne (t := 62) d_Mo_lie_47 (by decide) (fun c47 => ?_) (fun c47 => ?_)
          · refine j_iload d_Mo_lie_62 rfl ?_
            first | refine j_aload_n d_Mo_lie_64 rfl ?_ | refine j_aload_nq d_Mo_lie_64 rfl ?_ | refine j_aload_nN d_Mo_lie_64 rfl ?_
            refine j_get d_Mo_lie_65 f_Mo_97 (hM_o (by decide)) rfl ?_
            refine j_callS0 (As := [_, _]) G0_good G0_E d_Mo_lie_68 c_Mo_103 rfl rfl rfl (m_out (mI x) (σ 34 0 0)) (by decide) (Nat.le_of_ble_eq_true rfl) ?_
            rintro _ _ ⟨rfl, rfl⟩
            first | refine c_if_ne (t := 78) d_Mo_lie_71 (by decide) (fun c71 => ?_) (fun c71 => ?_) | refine n_if_ne (t := 78) d_Mo_lie_71 (by decide) (by omega) (fun c71 => ?_) (fun c71 => ?_) | refine j_if_ne (t := 78) d_Mo_lie_71 (by decide) (fun c71 => ?_) (fun c71 => ?_)
            · exfalso; first | exact c71 | omega | exact c71 (inr_nI (by decide) hs) | exact c71 (inr_nI (by decide) hi) | exact c71 (inr_nI (by decide) hk) | exact c71 (inr_nI (by decide) hr) | (obtain ⟨y, rfl⟩ : ∃ y, x = y + 1 := ⟨x - 1, by omega⟩; rw [mI_succ] at c71; exact c71 (inr_nI (by omega) (by omega))) | exact c71 hfl | exact c71 haw.2 | exact c71 ((lie_slot ic hs hi hk hr hfl hon).mpr hz)
            · refine j_iconst (v := nI 1) d_Mo_lie_74 (by decide +kernel) ?_
              refine j_goto (t := 79) d_Mo_lie_75 (by decide) ?_
              refine j_istore (lc' := [_, _, _, _, _, _, _, _, _]) d_Mo_lie_79 (by decide) rfl rfl ?_
              first | refine j_aload_n d_Mo_lie_81 rfl ?_ | refine j_aload_nq d_Mo_lie_81 rfl ?_ | refine j_aload_nN d_Mo_lie_81 rfl ?_
              refine j_iconst (v := nI 4) d_Mo_lie_82 (by decide +kernel) ?_
              refine j_iload_n d_Mo_lie_83 rfl ?_
              refine jn_imul d_Mo_lie_84 ?_
              refine j_iconst (v := nI 3) d_Mo_lie_85 (by decide +kernel) ?_
              refine jn_iadd d_Mo_lie_86 ?_
              refine j_callV0 (As := [_]) G0_good G0_E d_Mo_lie_87 c_Mo_192 rfl rfl (m_faulty (fc σ ic.2.2) (4 * s + 3) hp3) (hM_o (by decide)) rfl rfl (by decide) (Nat.le_of_ble_eq_true rfl) ?_
              rintro _ _ ⟨rfl, rfl⟩
              first | refine c_if_eq (t := 108) d_Mo_lie_90 (by decide) (fun c90 => ?_) (fun c90 => ?_) | refine n_if_eq (t := 108) d_Mo_lie_90 (by decide) (by omega) (fun c90 => ?_) (fun c90 => ?_) | refine j_if_eq (t := 108) d_Mo_lie_90 (by decide) (fun c90 => ?_) (fun c90 => ?_)
              · exfalso; first | exact c90 | omega | exact c90 (inr_nI (by decide) hs) | exact c90 (inr_nI (by decide) hi) | exact c90 (inr_nI (by decide) hk) | exact c90 (inr_nI (by decide) hr) | (obtain ⟨y, rfl⟩ : ∃ y, x = y + 1 := ⟨x - 1, by omega⟩; rw [mI_succ] at c90; exact c90 (inr_nI (by omega) (by omega))) | exact c90 hfl | exact c90 haw.2 | exact c90 ((lie_slot ic hs hi hk hr hfl hon).mpr hz)
              · first | refine j_aload_n d_Mo_lie_93 rfl ?_ | refine j_aload_nq d_Mo_lie_93 rfl ?_ | refine j_aload_nN d_Mo_lie_93 rfl ?_
                refine j_get d_Mo_lie_94 f_Mo_58 (hM_o (by decide)) rfl ?_
                refine j_iload d_Mo_lie_97 rfl ?_
                refine j_zald (t := 1) d_Mo_lie_99 rfl (hM_o (by decide)) rfl (by omega) (by decide) ?_
                first | refine c_if_ne (t := 108) d_Mo_lie_100 (by decide) (fun c100 => ?_) (fun c100 => ?_) | refine n_if_ne (t := 108) d_Mo_lie_100 (by decide) (by omega) (fun c100 => ?_) (fun c100 => ?_) | refine j_if_ne (t := 108) d_Mo_lie_100 (by decide) (fun c100 => ?_) (fun c100 => ?_)
                · exfalso; first | exact c100 | omega | exact c100 (inr_nI (by decide) hs) | exact c100 (inr_nI (by decide) hi) | exact c100 (inr_nI (by decide) hk) | exact c100 (inr_nI (by decide) hr) | (obtain ⟨y, rfl⟩ : ∃ y, x = y + 1 := ⟨x - 1, by omega⟩; rw [mI_succ] at c100; exact c100 (inr_nI (by omega) (by omega))) | exact c100 hfl | exact c100 haw.2 | exact c100 ((lie_slot ic hs hi hk hr hfl hon).mpr hz)
                · refine j_iload d_Mo_lie_103 rfl ?_
                  refine j_if_ne (t := 110) d_Mo_lie_105 (by decide) (fun _ => ?_) (fun q => absurd q (by decide +kernel))
                  first | refine j_aload_n d_Mo_lie_110 rfl ?_ | refine j_aload_nq d_Mo_lie_110 rfl ?_ | refine j_aload_nN d_Mo_lie_110 rfl ?_
                  refine j_iload d_Mo_lie_111 rfl ?_
                  refine j_iload_n d_Mo_lie_113 rfl ?_
                  first | refine j_aload_n d_Mo_lie_114 rfl ?_ | refine j_aload_nq d_Mo_lie_114 rfl ?_ | refine j_aload_nN d_Mo_lie_114 rfl ?_
                  refine j_get d_Mo_lie_115 f_Mo_37 (hM_o (by decide)) rfl ?_
                  refine j_iload d_Mo_lie_118 rfl ?_
                  refine j_iald (t := 0) d_Mo_lie_120 rfl (hM_o (by decide)) rfl (by omega) (by decide) ?_
                  refine j_iload_n d_Mo_lie_121 rfl ?_
                  refine j_callV0 (As := [_, _, _, _]) G0_good G0_E d_Mo_lie_122 c_Mo_145 rfl rfl (m_lieAt (4 * s + i) k (σ 10 (4 * s + i) 0) r hp) (hM_o (by decide)) rfl rfl (by decide) (Nat.le_of_ble_eq_true rfl) ?_
                  rintro _ _ ⟨rfl, rfl⟩
                  refine j_istore (lc' := [_, _, _, _, _, _, _, _, _]) d_Mo_lie_125 (by decide) rfl rfl ?_
                  first | refine j_aload_n d_Mo_lie_127 rfl ?_ | refine j_aload_nq d_Mo_lie_127 rfl ?_ | refine j_aload_nN d_Mo_lie_127 rfl ?_
                  refine j_get d_Mo_lie_128 f_Mo_78 (hM_o (by decide)) rfl ?_
                  refine j_iload d_Mo_lie_131 rfl ?_
                  refine o_fld (t := 0) (w := 306) d_Mo_lie_133 rfl (hM_o (by decide)) rfl (by omega) (by omega) (by decide) ?_
                  first | refine c_if_eq (t := 139) d_Mo_lie_134 (by decide) (fun c134 => ?_) (fun c134 => ?_) | refine n_if_eq (t := 139) d_Mo_lie_134 (by decide) (by omega) (fun c134 => ?_) (fun c134 => ?_) | refine j_if_eq (t := 139) d_Mo_lie_134 (by decide) (fun c134 => ?_) (fun c134 => ?_)
                  · first | refine j_aload_n d_Mo_lie_139 rfl ?_ | refine j_aload_nq d_Mo_lie_139 rfl ?_ | refine j_aload_nN d_Mo_lie_139 rfl ?_
                    refine j_get d_Mo_lie_140 f_Mo_78 (hM_o (by decide)) rfl ?_
                    refine j_iload d_Mo_lie_143 rfl ?_
                    refine j_iload d_Mo_lie_145 rfl ?_
                    refine j_iconst (v := nI 2) d_Mo_lie_147 (by decide +kernel) ?_
                    refine j_iadd d_Mo_lie_148 ?_
                    rw [mI_add2]
                    refine j_iast (t := 0) d_Mo_lie_149 rfl (hM_o (by decide)) rfl (by omega) (by decide) (J.hq (o28 (by omega)) ?_)
                    rw [hM_lie]
                    first | refine j_aload_n d_Mo_lie_150 rfl ?_ | refine j_aload_nq d_Mo_lie_150 rfl ?_ | refine j_aload_nN d_Mo_lie_150 rfl ?_
                    refine j_iload d_Mo_lie_151 rfl ?_
                    refine j_callV0 (As := [_]) G0_good G0_E d_Mo_lie_153 c_Mo_198 rfl rfl (m_act (Pu.sLie_Ic ic hs (by omega) hk hr hsay hfl haw hz) (4 * s + i) hp fc) (hM_o (by decide)) rfl rfl (by decide) (Nat.le_of_ble_eq_true rfl) ?_
                    rintro _ _ ⟨rfl, ρ', rfl⟩
                    refine j_iconst (v := nI 1) d_Mo_lie_156 (by decide +kernel) ?_
                    exact j_zret d_Mo_lie_157 rfl (by decide +kernel) ⟨rfl, _, rfl⟩
                  · exfalso; first | exact c134 | omega | exact c134 (inr_nI (by decide) hs) | exact c134 (inr_nI (by decide) hi) | exact c134 (inr_nI (by decide) hk) | exact c134 (inr_nI (by decide) hr) | (obtain ⟨y, rfl⟩ : ∃ y, x = y + 1 := ⟨x - 1, by omega⟩; rw [mI_succ] at c134; exact c134 (inr_nI (by omega) (by omega))) | exact c134 hfl | exact c134 haw.2 | exact c134 ((lie_slot ic hs hi hk hr hfl hon).mpr hz)
          · refine j_iload_n d_Mo_lie_50 rfl ?_
            first | refine c_if_eq (t := 58) d_Mo_lie_51 (by decide) (fun c51 => ?_) (fun c51 => ?_) | refine n_if_eq (t := 58) d_Mo_lie_51 (by decide) (by omega) (fun c51 => ?_) (fun c51 => ?_) | refine j_if_eq (t := 58) d_Mo_lie_51 (by decide) (fun c51 => ?_) (fun c51 => ?_)
            · exfalso; first | exact c51 | omega | exact c51 (inr_nI (by decide) hs) | exact c51 (inr_nI (by decide) hi) | exact c51 (inr_nI (by decide) hk) | exact c51 (inr_nI (by decide) hr) | (obtain ⟨y, rfl⟩ : ∃ y, x = y + 1 := ⟨x - 1, by omega⟩; rw [mI_succ] at c51; exact c51 (inr_nI (by omega) (by omega))) | exact c51 hfl | exact c51 haw.2 | exact c51 ((lie_slot ic hs hi hk hr hfl hon).mpr hz)
            · refine j_iconst (v := nI 1) d_Mo_lie_54 (by decide +kernel) ?_
              refine j_goto (t := 79) d_Mo_lie_55 (by decide) ?_
              refine j_istore (lc' := [_, _, _, _, _, _, _, _, _]) d_Mo_lie_79 (by decide) rfl rfl ?_
              first | refine j_aload_n d_Mo_lie_81 rfl ?_ | refine j_aload_nq d_Mo_lie_81 rfl ?_ | refine j_aload_nN d_Mo_lie_81 rfl ?_
              refine j_iconst (v := nI 4) d_Mo_lie_82 (by decide +kernel) ?_
              refine j_iload_n d_Mo_lie_83 rfl ?_
              refine jn_imul d_Mo_lie_84 ?_
              refine j_iconst (v := nI 3) d_Mo_lie_85 (by decide +kernel) ?_
              refine jn_iadd d_Mo_lie_86 ?_
              refine j_callV0 (As := [_]) G0_good G0_E d_Mo_lie_87 c_Mo_192 rfl rfl (m_faulty (fc σ ic.2.2) (4 * s + 3) hp3) (hM_o (by decide)) rfl rfl (by decide) (Nat.le_of_ble_eq_true rfl) ?_
              rintro _ _ ⟨rfl, rfl⟩
              first | refine c_if_eq (t := 108) d_Mo_lie_90 (by decide) (fun c90 => ?_) (fun c90 => ?_) | refine n_if_eq (t := 108) d_Mo_lie_90 (by decide) (by omega) (fun c90 => ?_) (fun c90 => ?_) | refine j_if_eq (t := 108) d_Mo_lie_90 (by decide) (fun c90 => ?_) (fun c90 => ?_)
              · exfalso; first | exact c90 | omega | exact c90 (inr_nI (by decide) hs) | exact c90 (inr_nI (by decide) hi) | exact c90 (inr_nI (by decide) hk) | exact c90 (inr_nI (by decide) hr) | (obtain ⟨y, rfl⟩ : ∃ y, x = y + 1 := ⟨x - 1, by omega⟩; rw [mI_succ] at c90; exact c90 (inr_nI (by omega) (by omega))) | exact c90 hfl | exact c90 haw.2 | exact c90 ((lie_slot ic hs hi hk hr hfl hon).mpr hz)
              · first | refine j_aload_n d_Mo_lie_93 rfl ?_ | refine j_aload_nq d_Mo_lie_93 rfl ?_ | refine j_aload_nN d_Mo_lie_93 rfl ?_
                refine j_get d_Mo_lie_94 f_Mo_58 (hM_o (by decide)) rfl ?_
                refine j_iload d_Mo_lie_97 rfl ?_
                refine j_zald (t := 1) d_Mo_lie_99 rfl (hM_o (by decide)) rfl (by omega) (by decide) ?_
                first | refine c_if_ne (t := 108) d_Mo_lie_100 (by decide) (fun c100 => ?_) (fun c100 => ?_) | refine n_if_ne (t := 108) d_Mo_lie_100 (by decide) (by omega) (fun c100 => ?_) (fun c100 => ?_) | refine j_if_ne (t := 108) d_Mo_lie_100 (by decide) (fun c100 => ?_) (fun c100 => ?_)
                · exfalso; first | exact c100 | omega | exact c100 (inr_nI (by decide) hs) | exact c100 (inr_nI (by decide) hi) | exact c100 (inr_nI (by decide) hk) | exact c100 (inr_nI (by decide) hr) | (obtain ⟨y, rfl⟩ : ∃ y, x = y + 1 := ⟨x - 1, by omega⟩; rw [mI_succ] at c100; exact c100 (inr_nI (by omega) (by omega))) | exact c100 hfl | exact c100 haw.2 | exact c100 ((lie_slot ic hs hi hk hr hfl hon).mpr hz)
                · refine j_iload d_Mo_lie_103 rfl ?_
                  refine j_if_ne (t := 110) d_Mo_lie_105 (by decide) (fun _ => ?_) (fun q => absurd q (by decide +kernel))
                  first | refine j_aload_n d_Mo_lie_110 rfl ?_ | refine j_aload_nq d_Mo_lie_110 rfl ?_ | refine j_aload_nN d_Mo_lie_110 rfl ?_
                  refine j_iload d_Mo_lie_111 rfl ?_
                  refine j_iload_n d_Mo_lie_113 rfl ?_
                  first | refine j_aload_n d_Mo_lie_114 rfl ?_ | refine j_aload_nq d_Mo_lie_114 rfl ?_ | refine j_aload_nN d_Mo_lie_114 rfl ?_
                  refine j_get d_Mo_lie_115 f_Mo_37 (hM_o (by decide)) rfl ?_
                  refine j_iload d_Mo_lie_118 rfl ?_
                  refine j_iald (t := 0) d_Mo_lie_120 rfl (hM_o (by decide)) rfl (by omega) (by decide) ?_
                  refine j_iload_n d_Mo_lie_121 rfl ?_
                  refine j_callV0 (As := [_, _, _, _]) G0_good G0_E d_Mo_lie_122 c_Mo_145 rfl rfl (m_lieAt (4 * s + i) k (σ 10 (4 * s + i) 0) r hp) (hM_o (by decide)) rfl rfl (by decide) (Nat.le_of_ble_eq_true rfl) ?_
                  rintro _ _ ⟨rfl, rfl⟩
                  refine j_istore (lc' := [_, _, _, _, _, _, _, _, _]) d_Mo_lie_125 (by decide) rfl rfl ?_
                  first | refine j_aload_n d_Mo_lie_127 rfl ?_ | refine j_aload_nq d_Mo_lie_127 rfl ?_ | refine j_aload_nN d_Mo_lie_127 rfl ?_
                  refine j_get d_Mo_lie_128 f_Mo_78 (hM_o (by decide)) rfl ?_
                  refine j_iload d_Mo_lie_131 rfl ?_
                  refine o_fld (t := 0) (w := 306) d_Mo_lie_133 rfl (hM_o (by decide)) rfl (by omega) (by omega) (by decide) ?_
                  first | refine c_if_eq (t := 139) d_Mo_lie_134 (by decide) (fun c134 => ?_) (fun c134 => ?_) | refine n_if_eq (t := 139) d_Mo_lie_134 (by decide) (by omega) (fun c134 => ?_) (fun c134 => ?_) | refine j_if_eq (t := 139) d_Mo_lie_134 (by decide) (fun c134 => ?_) (fun c134 => ?_)
                  · first | refine j_aload_n d_Mo_lie_139 rfl ?_ | refine j_aload_nq d_Mo_lie_139 rfl ?_ | refine j_aload_nN d_Mo_lie_139 rfl ?_
                    refine j_get d_Mo_lie_140 f_Mo_78 (hM_o (by decide)) rfl ?_
                    refine j_iload d_Mo_lie_143 rfl ?_
                    refine j_iload d_Mo_lie_145 rfl ?_
                    refine j_iconst (v := nI 2) d_Mo_lie_147 (by decide +kernel) ?_
                    refine j_iadd d_Mo_lie_148 ?_
                    rw [mI_add2]
                    refine j_iast (t := 0) d_Mo_lie_149 rfl (hM_o (by decide)) rfl (by omega) (by decide) (J.hq (o28 (by omega)) ?_)
                    rw [hM_lie]
                    first | refine j_aload_n d_Mo_lie_150 rfl ?_ | refine j_aload_nq d_Mo_lie_150 rfl ?_ | refine j_aload_nN d_Mo_lie_150 rfl ?_
                    refine j_iload d_Mo_lie_151 rfl ?_
                    refine j_callV0 (As := [_]) G0_good G0_E d_Mo_lie_153 c_Mo_198 rfl rfl (m_act (Pu.sLie_Ic ic hs (by omega) hk hr hsay hfl haw hz) (4 * s + i) hp fc) (hM_o (by decide)) rfl rfl (by decide) (Nat.le_of_ble_eq_true rfl) ?_
                    rintro _ _ ⟨rfl, ρ', rfl⟩
                    refine j_iconst (v := nI 1) d_Mo_lie_156 (by decide +kernel) ?_
                    exact j_zret d_Mo_lie_157 rfl (by decide +kernel) ⟨rfl, _, rfl⟩
                  · exfalso; first | exact c134 | omega | exact c134 (inr_nI (by decide) hs) | exact c134 (inr_nI (by decide) hi) | exact c134 (inr_nI (by decide) hk) | exact c134 (inr_nI (by decide) hr) | (obtain ⟨y, rfl⟩ : ∃ y, x = y + 1 := ⟨x - 1, by omega⟩; rw [mI_succ] at c134; exact c134 (inr_nI (by omega) (by omega))) | exact c134 hfl | exact c134 haw.2 | exact c134 ((lie_slot ic hs hi hk hr hfl hon).mpr hz)
        · exfalso; first | exact c31 | omega | exact c31 (inr_nI (by decide) hs) | exact c31 (inr_nI (by decide) hi) | exact c31 (inr_nI (by decide) hk) | exact c31 (inr_nI (by decide) hr) | (obtain ⟨y, rfl⟩ : ∃ y, x = y + 1 := ⟨x - 1, by omega⟩; rw [mI_succ] at c31; exact c31 (inr_nI (by omega) (by omega))) | exact c31 hfl | exact c31 haw.2 | exact c31 ((lie_slot ic hs hi hk hr hfl hon).mpr hz)

theorem m_lie_t {l : Launch} {D : va_G} {M nx : Nat} {L : Int32} {σ ρ : Sg} {g : Nat → Option va_E} {c : Nat → Nat → Nat} (ic : Pu.Ic c σ) (fc : FC L c) (s i : Nat) (hs : s < 2) (hi : i < 4) (k r x : Nat) (hk : k < 3) (hr : r < 6) (hx : x < 99999) (hfl : ¬ σ 0 (4 * s + 3) 0 = 0) (hsay : (x = 0 ∧ ¬ k = 0) ∨ (¬ x = 0 ∧ x - 1 < σ 34 0 0)) (haw : awake σ (4 * s + i)) (hz : σ 29 (4 * s + i) (slt k r 3) = 0) : jM (G0 l D) m_Mo_lie 5 0 0 [.ref (M + 0), .int (nI s), .int (nI k), .int (nI r), .int (mI x), .int (nI i)] (hM D M L σ ρ g, nx) (fun v h => v = some (.int (nI 1)) ∧ ∃ ρ', h = (hM D M L (sAct (sLie σ (4 * s + i) k r x) (4 * s + i)) ρ' g, nx)) := by
  have h3 : i < 3 := by
    refine Classical.byContradiction (fun z => ?_)
    have e : i = 3 := by omega
    subst e
    exact hfl haw.1
  exact m_lie_t0 ic fc s i k r hs h3 hk hr x hx hfl hsay haw hz
