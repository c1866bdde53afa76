/-! The reference: small methods (g_mo1.py) -/
def lbit (L : Int32) (s : Nat) : Prop := (L >>> (nI s &&& 31)) &&& nI 1 = nI 1
/-- who is faulty, by the liars' number -/
def FL (L : Int32) (σ : Sg) : Prop := ∀ p, p < 8 → σ 0 p 0 < 2 ∧ (¬ σ 0 p 0 = 0 ↔ (p % 4 = 3 ∧ lbit L (p / 4)))
theorem inr_nat {j n : Nat} (hj : j < n) (hn : n < 2 ^ 31) : inr (nI j) n := ⟨n0_lt (by omega), fun q => by rw [nn_le hn (by omega)] at q; omega⟩
theorem inr_natI {j n : Nat} (hj : j < 2 ^ 31) (hn : n < 2 ^ 31) : inr (nI j) n ↔ j < n := ⟨fun h => by
  have := h.2
  rw [nn_le hn hj] at this
  omega, fun h => inr_nat h hn⟩
theorem cI_ii {P R : Prop} (h : P ↔ R) : cI P = cI R := cI_iff h

set_option maxHeartbeats 4000000 in
set_option maxRecDepth 100000 in
theorem m_out {l : Launch} {D : va_G} {M nx : Nat} {L : Int32} {σ ρ : Sg} {g : Nat → Option va_E} (x : Int32) (n : Nat) : jM (G0 l D) m_Mo_out 0 0 0 [.int x, .int (nI n)] (hM D M L σ ρ g, nx) (fun v h => v = some (.int (cI (¬ inr x n))) ∧ h = (hM D M L σ ρ g, nx)) := by
  refine jM.of (by decide +kernel) (Nat.le_of_ble_eq_true rfl) rfl ?_
  refine j_iload_n d_Mo_out_0 rfl ?_
  first | refine m_if_lt (t := 9) d_Mo_out_1 (by decide) (by omega) (fun c1 => ?_) (fun c1 => ?_) | refine n_if_lt (t := 9) d_Mo_out_1 (by decide) (by omega) (fun c1 => ?_) (fun c1 => ?_) | refine j_if_lt (t := 9) d_Mo_out_1 (by decide) (fun c1 => ?_) (fun c1 => ?_)
  · refine j_iconst (v := nI 1) d_Mo_out_9 (by decide +kernel) ?_
    refine j_goto (t := 14) d_Mo_out_10 (by decide) ?_
    exact jc_t d_Mo_out_14 rfl (fun q => q.1 c1) rfl
  · refine j_iload_n d_Mo_out_4 rfl ?_
    refine j_iload_n d_Mo_out_5 rfl ?_
    first | refine nn_icmp_lt (t := 13) d_Mo_out_6 (by decide) (by omega) (by omega) (fun c6 => ?_) (fun c6 => ?_) | refine mm_icmp_lt (t := 13) d_Mo_out_6 (by decide) (by omega) (by omega) (fun c6 => ?_) (fun c6 => ?_) | refine mn_icmp_lt (t := 13) d_Mo_out_6 (by decide) (by omega) (by omega) (fun c6 => ?_) (fun c6 => ?_) | refine nm_icmp_lt (t := 13) d_Mo_out_6 (by decide) (by omega) (by omega) (fun c6 => ?_) (fun c6 => ?_) | refine j_icmp_lt (t := 13) d_Mo_out_6 (by decide) (fun c6 => ?_) (fun c6 => ?_)
    · refine j_iconst (v := nI 0) d_Mo_out_13 (by decide +kernel) ?_
      exact jc_f d_Mo_out_14 rfl (fun q => q ⟨c1, Int32.not_le.mpr c6⟩) rfl
    · refine j_iconst (v := nI 1) d_Mo_out_9 (by decide +kernel) ?_
      refine j_goto (t := 14) d_Mo_out_10 (by decide) ?_
      exact jc_t d_Mo_out_14 rfl (fun q => q.2 (Int32.not_lt.mp c6)) rfl

set_option maxHeartbeats 4000000 in
set_option maxRecDepth 100000 in
theorem m_faulty {l : Launch} {D : va_G} {M nx : Nat} {L : Int32} {σ ρ : Sg} {g : Nat → Option va_E} (fl : FL L σ) (p : Nat) (hp : p < 8) : jM (G0 l D) m_Mo_faulty 0 0 0 [.ref (M + 0), .int (nI p)] (hM D M L σ ρ g, nx) (fun v h => v = some (.int (cI (¬ σ 0 p 0 = 0))) ∧ h = (hM D M L σ ρ g, nx)) := by
  refine jM.of (by decide +kernel) (Nat.le_of_ble_eq_true rfl) rfl ?_
  refine j_iload_n d_Mo_faulty_0 rfl ?_
  refine j_iconst (v := nI 4) d_Mo_faulty_1 (by decide +kernel) ?_
  refine jn_irem d_Mo_faulty_2 (by omega) (by decide) (by decide) ?_
  refine j_iconst (v := nI 3) d_Mo_faulty_3 (by decide +kernel) ?_
  first | refine nn_icmp_ne (t := 25) d_Mo_faulty_4 (by decide) (by omega) (by omega) (fun c4 => ?_) (fun c4 => ?_) | refine mm_icmp_ne (t := 25) d_Mo_faulty_4 (by decide) (by omega) (by omega) (fun c4 => ?_) (fun c4 => ?_) | refine mn_icmp_ne (t := 25) d_Mo_faulty_4 (by decide) (by omega) (by omega) (fun c4 => ?_) (fun c4 => ?_) | refine nm_icmp_ne (t := 25) d_Mo_faulty_4 (by decide) (by omega) (by omega) (fun c4 => ?_) (fun c4 => ?_) | refine j_icmp_ne (t := 25) d_Mo_faulty_4 (by decide) (fun c4 => ?_) (fun c4 => ?_)
  · refine j_iconst (v := nI 0) d_Mo_faulty_25 (by decide +kernel) ?_
    exact jc_f d_Mo_faulty_26 rfl (fun q => c4 ((fl p hp).2.mp q).1) rfl
  · first | refine j_aload_n d_Mo_faulty_7 rfl ?_ | refine j_aload_nq d_Mo_faulty_7 rfl ?_ | refine j_aload_nN d_Mo_faulty_7 rfl ?_
    refine j_get d_Mo_faulty_8 f_Mo_93 (hM_o (by decide)) rfl ?_
    refine j_iload_n d_Mo_faulty_11 rfl ?_
    refine j_iconst (v := nI 4) d_Mo_faulty_12 (by decide +kernel) ?_
    refine jn_idiv d_Mo_faulty_13 (by omega) (by decide) (by decide) ?_
    refine j_ishr d_Mo_faulty_14 ?_
    refine j_iconst (v := nI 1) d_Mo_faulty_15 (by decide +kernel) ?_
    refine j_iand d_Mo_faulty_16 ?_
    refine j_iconst (v := nI 1) d_Mo_faulty_17 (by decide +kernel) ?_
    refine j_icmp_ne (t := 25) d_Mo_faulty_18 (by decide) (fun c18 => ?_) (fun c18 => ?_)
    · refine j_iconst (v := nI 0) d_Mo_faulty_25 (by decide +kernel) ?_
      exact jc_f d_Mo_faulty_26 rfl (fun q => c18 ((fl p hp).2.mp q).2) rfl
    · refine j_iconst (v := nI 1) d_Mo_faulty_21 (by decide +kernel) ?_
      refine j_goto (t := 26) d_Mo_faulty_22 (by decide) ?_
      exact jc_t d_Mo_faulty_26 rfl ((fl p hp).2.mpr ⟨c4, c18⟩) rfl

set_option maxHeartbeats 4000000 in
set_option maxRecDepth 100000 in
theorem m_takes {l : Launch} {D : va_G} {M nx : Nat} {L : Int32} {σ ρ : Sg} {g : Nat → Option va_E} (hb : bd σ) (t s : Nat) (ht : t < 8) (hs : s < 2) : jM (G0 l D) m_Mo_takes 0 0 0 [.ref (M + 0), .int (nI t), .int (nI s)] (hM D M L σ ρ g, nx) (fun v h => v = some (.int (cI (inS σ t s))) ∧ h = (hM D M L σ ρ g, nx)) := by
  refine jM.of (by decide +kernel) (Nat.le_of_ble_eq_true rfl) rfl ?_
  have b1 := hb 1 0 t
  have b2 := hb 2 0 t
  first | refine j_aload_n d_Mo_takes_0 rfl ?_ | refine j_aload_nq d_Mo_takes_0 rfl ?_ | refine j_aload_nN d_Mo_takes_0 rfl ?_
  refine j_get d_Mo_takes_1 f_Mo_7 (hM_o (by decide)) rfl ?_
  refine j_iload_n d_Mo_takes_4 rfl ?_
  refine j_iald (t := 0) d_Mo_takes_5 rfl (hM_o (by decide)) rfl (by omega) (by decide) ?_
  refine j_iconst (v := nI 2) d_Mo_takes_6 (by decide +kernel) ?_
  refine jn_irem d_Mo_takes_7 (by omega) (by decide) (by decide) ?_
  refine j_iload_n d_Mo_takes_8 rfl ?_
  first | refine nn_icmp_eq (t := 33) d_Mo_takes_9 (by decide) (by omega) (by omega) (fun c9 => ?_) (fun c9 => ?_) | refine mm_icmp_eq (t := 33) d_Mo_takes_9 (by decide) (by omega) (by omega) (fun c9 => ?_) (fun c9 => ?_) | refine mn_icmp_eq (t := 33) d_Mo_takes_9 (by decide) (by omega) (by omega) (fun c9 => ?_) (fun c9 => ?_) | refine nm_icmp_eq (t := 33) d_Mo_takes_9 (by decide) (by omega) (by omega) (fun c9 => ?_) (fun c9 => ?_) | refine j_icmp_eq (t := 33) d_Mo_takes_9 (by decide) (fun c9 => ?_) (fun c9 => ?_)
  · refine j_iconst (v := nI 1) d_Mo_takes_33 (by decide +kernel) ?_
    refine j_goto (t := 38) d_Mo_takes_34 (by decide) ?_
    exact jc_t d_Mo_takes_38 rfl (Or.inl c9) rfl
  · first | refine j_aload_n d_Mo_takes_12 rfl ?_ | refine j_aload_nq d_Mo_takes_12 rfl ?_ | refine j_aload_nN d_Mo_takes_12 rfl ?_
    refine j_get d_Mo_takes_13 f_Mo_13 (hM_o (by decide)) rfl ?_
    refine j_iload_n d_Mo_takes_16 rfl ?_
    refine j_iald (t := 0) d_Mo_takes_17 rfl (hM_o (by decide)) rfl (by omega) (by decide) ?_
    first | refine m_if_lt (t := 37) d_Mo_takes_18 (by decide) (by omega) (fun c18 => ?_) (fun c18 => ?_) | refine n_if_lt (t := 37) d_Mo_takes_18 (by decide) (by omega) (fun c18 => ?_) (fun c18 => ?_) | refine j_if_lt (t := 37) d_Mo_takes_18 (by decide) (fun c18 => ?_) (fun c18 => ?_)
    · refine j_iconst (v := nI 0) d_Mo_takes_37 (by decide +kernel) ?_
      exact jc_f d_Mo_takes_38 rfl (by unfold inS; omega) rfl
    · first | refine j_aload_n d_Mo_takes_21 rfl ?_ | refine j_aload_nq d_Mo_takes_21 rfl ?_ | refine j_aload_nN d_Mo_takes_21 rfl ?_
      refine j_get d_Mo_takes_22 f_Mo_13 (hM_o (by decide)) rfl ?_
      refine j_iload_n d_Mo_takes_25 rfl ?_
      refine j_iald (t := 0) d_Mo_takes_26 rfl (hM_o (by decide)) rfl (by omega) (by decide) ?_
      rw [mI_pos c18]
      refine j_iconst (v := nI 2) d_Mo_takes_27 (by decide +kernel) ?_
      refine jn_irem d_Mo_takes_28 (by omega) (by decide) (by decide) ?_
      refine j_iload_n d_Mo_takes_29 rfl ?_
      first | refine nn_icmp_ne (t := 37) d_Mo_takes_30 (by decide) (by omega) (by omega) (fun c30 => ?_) (fun c30 => ?_) | refine mm_icmp_ne (t := 37) d_Mo_takes_30 (by decide) (by omega) (by omega) (fun c30 => ?_) (fun c30 => ?_) | refine mn_icmp_ne (t := 37) d_Mo_takes_30 (by decide) (by omega) (by omega) (fun c30 => ?_) (fun c30 => ?_) | refine nm_icmp_ne (t := 37) d_Mo_takes_30 (by decide) (by omega) (by omega) (fun c30 => ?_) (fun c30 => ?_) | refine j_icmp_ne (t := 37) d_Mo_takes_30 (by decide) (fun c30 => ?_) (fun c30 => ?_)
      · refine j_iconst (v := nI 0) d_Mo_takes_37 (by decide +kernel) ?_
        exact jc_f d_Mo_takes_38 rfl (by unfold inS; omega) rfl
      · refine j_iconst (v := nI 1) d_Mo_takes_33 (by decide +kernel) ?_
        refine j_goto (t := 38) d_Mo_takes_34 (by decide) ?_
        exact jc_t d_Mo_takes_38 rfl (by unfold inS; omega) rfl

set_option maxHeartbeats 4000000 in
set_option maxRecDepth 100000 in
theorem m_makes {l : Launch} {D : va_G} {M nx : Nat} {L : Int32} {σ ρ : Sg} {g : Nat → Option va_E} (hb : bd σ) (t s : Nat) (ht : t < 8) (hs : s < 2) : jM (G0 l D) m_Mo_makes 0 0 0 [.ref (M + 0), .int (nI t), .int (nI s)] (hM D M L σ ρ g, nx) (fun v h => v = some (.int (cI (0 < σ 4 0 (4 + 2 * t + s)))) ∧ h = (hM D M L σ ρ g, nx)) := by
  refine jM.of (by decide +kernel) (Nat.le_of_ble_eq_true rfl) rfl ?_
  have b1 := hb 4 0 (4 + 2 * t + s)
  first | refine j_aload_n d_Mo_makes_0 rfl ?_ | refine j_aload_nq d_Mo_makes_0 rfl ?_ | refine j_aload_nN d_Mo_makes_0 rfl ?_
  refine j_get d_Mo_makes_1 f_Mo_19 (hM_o (by decide)) rfl ?_
  refine j_iconst (v := nI 4) d_Mo_makes_4 (by decide +kernel) ?_
  refine j_iconst (v := nI 2) d_Mo_makes_5 (by decide +kernel) ?_
  refine j_iload_n d_Mo_makes_6 rfl ?_
  refine jn_imul d_Mo_makes_7 ?_
  refine jn_iadd d_Mo_makes_8 ?_
  refine j_iload_n d_Mo_makes_9 rfl ?_
  refine jn_iadd d_Mo_makes_10 ?_
  refine j_iald (t := 0) d_Mo_makes_11 rfl (hM_o (by decide)) rfl (by omega) (by decide) ?_
  first | refine n_if_le (t := 19) d_Mo_makes_12 (by decide) (by omega) (fun c12 => ?_) (fun c12 => ?_) | refine j_if_le (t := 19) d_Mo_makes_12 (by decide) (fun c12 => ?_) (fun c12 => ?_)
  · refine j_iconst (v := nI 0) d_Mo_makes_19 (by decide +kernel) ?_
    first | exact jc_t d_Mo_makes_20 rfl (by omega) rfl | exact jc_f d_Mo_makes_20 rfl (by omega) rfl | exact jc_c d_Mo_makes_20 rfl Iff.rfl rfl | exact j_zret d_Mo_makes_20 rfl (by decide +kernel) ⟨rfl, rfl⟩
  · refine j_iconst (v := nI 1) d_Mo_makes_15 (by decide +kernel) ?_
    refine j_goto (t := 20) d_Mo_makes_16 (by decide) ?_
    first | exact jc_t d_Mo_makes_20 rfl (by omega) rfl | exact jc_f d_Mo_makes_20 rfl (by omega) rfl | exact jc_c d_Mo_makes_20 rfl Iff.rfl rfl | exact j_zret d_Mo_makes_20 rfl (by decide +kernel) ⟨rfl, rfl⟩

set_option maxHeartbeats 4000000 in
set_option maxRecDepth 100000 in
theorem m_ask {l : Launch} {D : va_G} {M nx : Nat} {L : Int32} {σ ρ : Sg} {g : Nat → Option va_E} (hb : bd σ) (h32 : σ 34 0 0 < 32) (s k t : Nat) : jM (G0 l D) m_Mo_ask 0 0 0 [.ref (M + 0), .int (nI s), .int (nI k), .int (nI t)] (hM D M L σ ρ g, nx) (fun v h => v = some (.int (nI 1)) ∧ h = (hM D M L (sMake σ s k t) ρ g, nx)) := by
  refine jM.of (by decide +kernel) (Nat.le_of_ble_eq_true rfl) rfl ?_
  first | refine j_aload_n d_Mo_ask_0 rfl ?_ | refine j_aload_nq d_Mo_ask_0 rfl ?_ | refine j_aload_nN d_Mo_ask_0 rfl ?_
  refine j_get d_Mo_ask_1 f_Mo_22 (hM_o (by decide)) rfl ?_
  first | refine j_aload_n d_Mo_ask_4 rfl ?_ | refine j_aload_nq d_Mo_ask_4 rfl ?_ | refine j_aload_nN d_Mo_ask_4 rfl ?_
  refine j_get d_Mo_ask_5 f_Mo_97 (hM_o (by decide)) rfl ?_
  refine j_iload_n d_Mo_ask_8 rfl ?_
  refine j_iast (t := 0) d_Mo_ask_9 rfl (hM_o (by decide)) rfl h32 (by decide) (J.hq o5 ?_)
  first | refine j_aload_n d_Mo_ask_10 rfl ?_ | refine j_aload_nq d_Mo_ask_10 rfl ?_ | refine j_aload_nN d_Mo_ask_10 rfl ?_
  refine j_get d_Mo_ask_11 f_Mo_25 (hM_o (by decide)) rfl ?_
  first | refine j_aload_n d_Mo_ask_14 rfl ?_ | refine j_aload_nq d_Mo_ask_14 rfl ?_ | refine j_aload_nN d_Mo_ask_14 rfl ?_
  refine j_get d_Mo_ask_15 f_Mo_97 (hM_o (by decide)) rfl ?_
  refine j_iload_n d_Mo_ask_18 rfl ?_
  refine j_iast (t := 0) d_Mo_ask_19 rfl (hM_o (by decide)) rfl h32 (by decide) (J.hq o6 ?_)
  first | refine j_aload_n d_Mo_ask_20 rfl ?_ | refine j_aload_nq d_Mo_ask_20 rfl ?_ | refine j_aload_nN d_Mo_ask_20 rfl ?_
  refine j_get d_Mo_ask_21 f_Mo_28 (hM_o (by decide)) rfl ?_
  first | refine j_aload_n d_Mo_ask_24 rfl ?_ | refine j_aload_nq d_Mo_ask_24 rfl ?_ | refine j_aload_nN d_Mo_ask_24 rfl ?_
  refine j_get d_Mo_ask_25 f_Mo_97 (hM_o (by decide)) rfl ?_
  refine j_iload_n d_Mo_ask_28 rfl ?_
  refine j_iast (t := 0) d_Mo_ask_29 rfl (hM_o (by decide)) rfl h32 (by decide) (J.hq o7 ?_)
  first | refine j_aload_n d_Mo_ask_30 rfl ?_ | refine j_aload_nq d_Mo_ask_30 rfl ?_ | refine j_aload_nN d_Mo_ask_30 rfl ?_
  refine j_dup d_Mo_ask_31 rfl ?_
  refine j_get d_Mo_ask_32 f_Mo_97 (hM_o (by decide)) rfl ?_
  refine j_iconst (v := nI 1) d_Mo_ask_35 (by decide +kernel) ?_
  refine jn_iadd d_Mo_ask_36 ?_
  refine j_put d_Mo_ask_37 p_Mo_97 (hM_o (by decide)) rfl (by first | rfl | decide +kernel) (Nat.le_of_ble_eq_true rfl) (J.hq o34 ?_)
  refine j_iconst (v := nI 1) d_Mo_ask_40 (by decide +kernel) ?_
  exact j_iret d_Mo_ask_41 rfl ⟨rfl, rfl⟩

set_option maxHeartbeats 4000000 in
set_option maxRecDepth 100000 in
theorem m_isOutput {l : Launch} {D : va_G} {M nx : Nat} {L : Int32} {σ ρ : Sg} {g : Nat → Option va_E} (hb : bd σ) (x : Int32) : jM (G0 l D) m_Mo_isOutput 1 0 0 [.ref (M + 0), .int x] (hM D M L σ ρ g, nx) (fun v h => v = some (.int (cI (inr x (4 + 2 * σ 33 0 0)))) ∧ h = (hM D M L σ ρ g, nx)) := by
  refine jM.of (by decide +kernel) (Nat.le_of_ble_eq_true rfl) rfl ?_
  refine j_iload_n d_Mo_isOutput_0 rfl ?_
  refine j_iconst (v := nI 4) d_Mo_isOutput_1 (by decide +kernel) ?_
  refine j_iconst (v := nI 2) d_Mo_isOutput_2 (by decide +kernel) ?_
  first | refine j_aload_n d_Mo_isOutput_3 rfl ?_ | refine j_aload_nq d_Mo_isOutput_3 rfl ?_ | refine j_aload_nN d_Mo_isOutput_3 rfl ?_
  refine j_get d_Mo_isOutput_4 f_Mo_100 (hM_o (by decide)) rfl ?_
  refine jn_imul d_Mo_isOutput_7 ?_
  refine jn_iadd d_Mo_isOutput_8 ?_
  refine j_callS0 (As := [_, _]) G0_good G0_E d_Mo_isOutput_9 c_Mo_103 rfl rfl rfl (m_out x (4 + 2 * σ 33 0 0)) (by decide) (Nat.le_of_ble_eq_true rfl) ?_
  rintro _ _ ⟨rfl, rfl⟩
  first | refine c_if_ne (t := 19) d_Mo_isOutput_12 (by decide) (fun c12 => ?_) (fun c12 => ?_) | refine n_if_ne (t := 19) d_Mo_isOutput_12 (by decide) (by omega) (fun c12 => ?_) (fun c12 => ?_) | refine j_if_ne (t := 19) d_Mo_isOutput_12 (by decide) (fun c12 => ?_) (fun c12 => ?_)
  · refine j_iconst (v := nI 0) d_Mo_isOutput_19 (by decide +kernel) ?_
    exact jc_f d_Mo_isOutput_20 rfl c12 rfl
  · refine j_iconst (v := nI 1) d_Mo_isOutput_15 (by decide +kernel) ?_
    refine j_goto (t := 20) d_Mo_isOutput_16 (by decide) ?_
    exact jc_t d_Mo_isOutput_20 rfl (Classical.byContradiction c12) rfl

set_option maxHeartbeats 4000000 in
set_option maxRecDepth 100000 in
theorem m_lieAt {l : Launch} {D : va_G} {M nx : Nat} {L : Int32} {σ ρ : Sg} {g : Nat → Option va_E} (p k y r : Nat) (hp : p < 8) : jM (G0 l D) m_Mo_lieAt 0 0 0 [.ref (M + 0), .int (nI p), .int (nI k), .int (nI y), .int (nI r)] (hM D M L σ ρ g, nx) (fun v h => v = some (.int (nI (306 * (3 * (p / 4) + p % 4) + (102 * k + 6 * y + r)))) ∧ h = (hM D M L σ ρ g, nx)) := by
  refine jM.of (by decide +kernel) (Nat.le_of_ble_eq_true rfl) rfl ?_
  refine j_sipush (v := nI 306) d_Mo_lieAt_0 (by decide +kernel) ?_
  refine j_iconst (v := nI 3) d_Mo_lieAt_3 (by decide +kernel) ?_
  refine j_iload_n d_Mo_lieAt_4 rfl ?_
  refine j_iconst (v := nI 4) d_Mo_lieAt_5 (by decide +kernel) ?_
  refine jn_idiv d_Mo_lieAt_6 (by omega) (by decide) (by decide) ?_
  refine jn_imul d_Mo_lieAt_7 ?_
  refine j_iload_n d_Mo_lieAt_8 rfl ?_
  refine j_iconst (v := nI 4) d_Mo_lieAt_9 (by decide +kernel) ?_
  refine jn_irem d_Mo_lieAt_10 (by omega) (by decide) (by decide) ?_
  refine jn_iadd d_Mo_lieAt_11 ?_
  refine jn_imul d_Mo_lieAt_12 ?_
  refine j_bipush (v := nI 102) d_Mo_lieAt_13 (by decide +kernel) ?_
  refine j_iload_n d_Mo_lieAt_15 rfl ?_
  refine jn_imul d_Mo_lieAt_16 ?_
  refine jn_iadd d_Mo_lieAt_17 ?_
  refine j_bipush (v := nI 6) d_Mo_lieAt_18 (by decide +kernel) ?_
  refine j_iload_n d_Mo_lieAt_20 rfl ?_
  refine jn_imul d_Mo_lieAt_21 ?_
  refine jn_iadd d_Mo_lieAt_22 ?_
  refine j_iload d_Mo_lieAt_23 rfl ?_
  refine jn_iadd d_Mo_lieAt_25 ?_
  exact j_iret d_Mo_lieAt_26 rfl ⟨by congr 2; exact congrArg nI (by omega), rfl⟩

theorem bits_n : ∀ m, m < 16 → ((nI m &&& nI 1) + ((nI m >>> (nI 1 &&& 31)) &&& nI 1) + ((nI m >>> (nI 2 &&& 31)) &&& nI 1) + ((nI m >>> (nI 3 &&& 31)) &&& nI 1)) = nI (m % 2 + m / 2 % 2 + m / 4 % 2 + m / 8 % 2) := by decide +kernel
/-- how many bits -/
def bc (m : Nat) : Nat := m % 2 + m / 2 % 2 + m / 4 % 2 + m / 8 % 2

set_option maxHeartbeats 4000000 in
set_option maxRecDepth 100000 in
theorem m_bits {l : Launch} {D : va_G} {M nx : Nat} {L : Int32} {σ ρ : Sg} {g : Nat → Option va_E} (m : Nat) (hm : m < 16) : jM (G0 l D) m_Mo_bits 0 0 0 [.int (nI m)] (hM D M L σ ρ g, nx) (fun v h => v = some (.int (nI (bc m))) ∧ h = (hM D M L σ ρ g, nx)) := by
  refine jM.of (by decide +kernel) (Nat.le_of_ble_eq_true rfl) rfl ?_
  refine j_iload_n d_Mo_bits_0 rfl ?_
  refine j_iconst (v := nI 1) d_Mo_bits_1 (by decide +kernel) ?_
  refine j_iand d_Mo_bits_2 ?_
  refine j_iload_n d_Mo_bits_3 rfl ?_
  refine j_iconst (v := nI 1) d_Mo_bits_4 (by decide +kernel) ?_
  refine j_ishr d_Mo_bits_5 ?_
  refine j_iconst (v := nI 1) d_Mo_bits_6 (by decide +kernel) ?_
  refine j_iand d_Mo_bits_7 ?_
  refine j_iadd d_Mo_bits_8 ?_
  refine j_iload_n d_Mo_bits_9 rfl ?_
  refine j_iconst (v := nI 2) d_Mo_bits_10 (by decide +kernel) ?_
  refine j_ishr d_Mo_bits_11 ?_
  refine j_iconst (v := nI 1) d_Mo_bits_12 (by decide +kernel) ?_
  refine j_iand d_Mo_bits_13 ?_
  refine j_iadd d_Mo_bits_14 ?_
  refine j_iload_n d_Mo_bits_15 rfl ?_
  refine j_iconst (v := nI 3) d_Mo_bits_16 (by decide +kernel) ?_
  refine j_ishr d_Mo_bits_17 ?_
  refine j_iconst (v := nI 1) d_Mo_bits_18 (by decide +kernel) ?_
  refine j_iand d_Mo_bits_19 ?_
  refine j_iadd d_Mo_bits_20 ?_
  exact j_iret d_Mo_bits_21 rfl ⟨by rw [bits_n m hm]; rfl, rfl⟩
