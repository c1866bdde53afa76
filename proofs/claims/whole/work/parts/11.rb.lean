/-! RequestBook, Choice (g_rb.py) -/
/-- a new request -/
def sMake (σ : Sg) (s k t : Nat) : Sg := U (U (U (U σ 5 0 (σ 34 0 0) s) 6 0 (σ 34 0 0) k) 7 0 (σ 34 0 0) t) 34 0 0 (σ 34 0 0 + 1)
/-- a request's answer -/
def ans (σ : Sg) (q : Nat) : Nat := if 2 ≤ σ 31 0 q then σ 32 0 q else 0

theorem w14s {D : va_G} {B : Nat} {σ : Sg} {κ : Kp} {g : Nat → Option va_E} {p q v : Nat} (hp : p < 8) : va_up (hC D B (U σ 13 p 0 q) κ g) (aP B p + 6) (some (.inr (0, [.int (mI ((U σ 13 p 0 q) 13 p 0)), .int (mI v)]))) = hC D B (U (U σ 13 p 0 q) 14 p 0 v) κ g := w14 hp
theorem w16s {D : va_G} {B : Nat} {σ : Sg} {κ : Kp} {g : Nat → Option va_E} {p q v : Nat} (hp : p < 8) : va_up (hC D B (U σ 15 p 0 q) κ g) (aP B p + 7) (some (.inr (0, [.int (mI ((U σ 15 p 0 q) 15 p 0)), .int (mI v)]))) = hC D B (U (U σ 15 p 0 q) 16 p 0 v) κ g := w16 hp

set_option maxHeartbeats 4000000 in
set_option maxRecDepth 100000 in
theorem t_Rb_count {l : Launch} {D : va_G} {B nx : Nat} {σ : Sg} {κ : Kp} {g : Nat → Option va_E} : jM (G0 l D) m_Rb_count 0 0 0 [.ref (B + 6)] (hC D B σ κ g, nx) (fun v h => v = some (.int (nI (σ 34 0 0))) ∧ h = (hC D B σ κ g, nx)) := by
  refine jM.of (by decide +kernel) (Nat.le_of_ble_eq_true rfl) rfl ?_
  first | refine j_aload_n d_Rb_count_0 rfl ?_ | refine j_aload_nq d_Rb_count_0 rfl ?_ | refine j_aload_nN d_Rb_count_0 rfl ?_
  refine j_get d_Rb_count_1 f_Rb_27 (hC_t (by decide)) rfl ?_
  exact j_iret d_Rb_count_4 rfl ⟨rfl, rfl⟩

set_option maxHeartbeats 4000000 in
set_option maxRecDepth 100000 in
theorem t_Rb_has {l : Launch} {D : va_G} {B nx : Nat} {σ : Sg} {κ : Kp} {g : Nat → Option va_E} (hb : bd σ) (q : Nat) (hq : q < 2 ^ 31) : jM (G0 l D) m_Rb_has 0 0 0 [.ref (B + 6), .int (nI q)] (hC D B σ κ g, nx) (fun v h => v = some (.int (cI (q < σ 34 0 0))) ∧ h = (hC D B σ κ g, nx)) := by
  refine jM.of (by decide +kernel) (Nat.le_of_ble_eq_true rfl) rfl ?_
  have b34 := hb 34 0 0
  refine j_iload_n d_Rb_has_0 rfl ?_
  first | refine m_if_lt (t := 16) d_Rb_has_1 (by decide) (by omega) (fun c1 => ?_) (fun c1 => ?_) | refine n_if_lt (t := 16) d_Rb_has_1 (by decide) (by omega) (fun c1 => ?_) (fun c1 => ?_) | refine j_if_lt (t := 16) d_Rb_has_1 (by decide) (fun c1 => ?_) (fun c1 => ?_)
  · exfalso; first | exact c1 | omega
  · refine j_iload_n d_Rb_has_4 rfl ?_
    first | refine j_aload_n d_Rb_has_5 rfl ?_ | refine j_aload_nq d_Rb_has_5 rfl ?_ | refine j_aload_nN d_Rb_has_5 rfl ?_
    refine j_get d_Rb_has_6 f_Rb_27 (hC_t (by decide)) rfl ?_
    first | refine nn_icmp_ge (t := 16) d_Rb_has_9 (by decide) (by omega) (by omega) (fun c9 => ?_) (fun c9 => ?_) | refine mm_icmp_ge (t := 16) d_Rb_has_9 (by decide) (by omega) (by omega) (fun c9 => ?_) (fun c9 => ?_) | refine mn_icmp_ge (t := 16) d_Rb_has_9 (by decide) (by omega) (by omega) (fun c9 => ?_) (fun c9 => ?_) | refine nm_icmp_ge (t := 16) d_Rb_has_9 (by decide) (by omega) (by omega) (fun c9 => ?_) (fun c9 => ?_) | refine j_icmp_ge (t := 16) d_Rb_has_9 (by decide) (fun c9 => ?_) (fun c9 => ?_)
    · refine j_iconst (v := nI 0) d_Rb_has_16 (by decide +kernel) ?_
      first | exact jc_t d_Rb_has_17 rfl (by omega) rfl | exact jc_f d_Rb_has_17 rfl (by omega) rfl | exact jc_c d_Rb_has_17 rfl Iff.rfl rfl | exact j_zret d_Rb_has_17 rfl (by decide +kernel) ⟨rfl, rfl⟩
    · refine j_iconst (v := nI 1) d_Rb_has_12 (by decide +kernel) ?_
      refine j_goto (t := 17) d_Rb_has_13 (by decide) ?_
      first | exact jc_t d_Rb_has_17 rfl (by omega) rfl | exact jc_f d_Rb_has_17 rfl (by omega) rfl | exact jc_c d_Rb_has_17 rfl Iff.rfl rfl | exact j_zret d_Rb_has_17 rfl (by decide +kernel) ⟨rfl, rfl⟩

set_option maxHeartbeats 4000000 in
set_option maxRecDepth 100000 in
theorem t_Rb_hasN {l : Launch} {D : va_G} {B nx : Nat} {σ : Sg} {κ : Kp} {g : Nat → Option va_E} (q : Int32) (hq : q < 0) : jM (G0 l D) m_Rb_has 0 0 0 [.ref (B + 6), .int q] (hC D B σ κ g, nx) (fun v h => v = some (.int (nI 0)) ∧ h = (hC D B σ κ g, nx)) := by
  refine jM.of (by decide +kernel) (Nat.le_of_ble_eq_true rfl) rfl ?_
  refine j_iload_n d_Rb_has_0 rfl ?_
  first | refine m_if_lt (t := 16) d_Rb_has_1 (by decide) (by omega) (fun c1 => ?_) (fun c1 => ?_) | refine n_if_lt (t := 16) d_Rb_has_1 (by decide) (by omega) (fun c1 => ?_) (fun c1 => ?_) | refine j_if_lt (t := 16) d_Rb_has_1 (by decide) (fun c1 => ?_) (fun c1 => ?_)
  · refine j_iconst (v := nI 0) d_Rb_has_16 (by decide +kernel) ?_
    exact j_zret d_Rb_has_17 rfl (by decide +kernel) ⟨rfl, rfl⟩
  · exact absurd hq c1

set_option maxHeartbeats 4000000 in
set_option maxRecDepth 100000 in
theorem t_Rb_make {l : Launch} {D : va_G} {B nx : Nat} {σ : Sg} {κ : Kp} {g : Nat → Option va_E} (hb : bd σ) (h32 : σ 34 0 0 < 32) (s k t : Nat) : jM (G0 l D) m_Rb_make 0 0 0 [.ref (B + 6), .int (nI s), .int (nI k), .int (nI t)] (hC D B σ κ g, nx) (fun v h => v = none ∧ h = (hC D B (sMake σ s k t) κ g, nx)) := by
  refine jM.of (by decide +kernel) (Nat.le_of_ble_eq_true rfl) rfl ?_
  have b34 := hb 34 0 0
  first | refine j_aload_n d_Rb_make_0 rfl ?_ | refine j_aload_nq d_Rb_make_0 rfl ?_ | refine j_aload_nN d_Rb_make_0 rfl ?_
  refine j_get d_Rb_make_1 f_Rb_27 (hC_t (by decide)) rfl ?_
  refine j_bipush (v := nI 32) d_Rb_make_4 (by decide +kernel) ?_
  first | refine nn_icmp_ge (t := 49) d_Rb_make_6 (by decide) (by omega) (by omega) (fun c6 => ?_) (fun c6 => ?_) | refine mm_icmp_ge (t := 49) d_Rb_make_6 (by decide) (by omega) (by omega) (fun c6 => ?_) (fun c6 => ?_) | refine mn_icmp_ge (t := 49) d_Rb_make_6 (by decide) (by omega) (by omega) (fun c6 => ?_) (fun c6 => ?_) | refine nm_icmp_ge (t := 49) d_Rb_make_6 (by decide) (by omega) (by omega) (fun c6 => ?_) (fun c6 => ?_) | refine j_icmp_ge (t := 49) d_Rb_make_6 (by decide) (fun c6 => ?_) (fun c6 => ?_)
  · exfalso; first | exact c6 | omega
  · first | refine j_aload_n d_Rb_make_9 rfl ?_ | refine j_aload_nq d_Rb_make_9 rfl ?_ | refine j_aload_nN d_Rb_make_9 rfl ?_
    refine j_get d_Rb_make_10 f_Rb_9 (hC_t (by decide)) rfl ?_
    first | refine j_aload_n d_Rb_make_13 rfl ?_ | refine j_aload_nq d_Rb_make_13 rfl ?_ | refine j_aload_nN d_Rb_make_13 rfl ?_
    refine j_get d_Rb_make_14 f_Rb_27 (hC_t (by decide)) rfl ?_
    refine j_iload_n d_Rb_make_17 rfl ?_
    refine j_iast (t := 0) d_Rb_make_18 rfl (hC_t (by decide)) rfl h32 (by decide) (J.hq w5 ?_)
    first | refine j_aload_n d_Rb_make_19 rfl ?_ | refine j_aload_nq d_Rb_make_19 rfl ?_ | refine j_aload_nN d_Rb_make_19 rfl ?_
    refine j_get d_Rb_make_20 f_Rb_15 (hC_t (by decide)) rfl ?_
    first | refine j_aload_n d_Rb_make_23 rfl ?_ | refine j_aload_nq d_Rb_make_23 rfl ?_ | refine j_aload_nN d_Rb_make_23 rfl ?_
    refine j_get d_Rb_make_24 f_Rb_27 (hC_t (by decide)) rfl ?_
    refine j_iload_n d_Rb_make_27 rfl ?_
    refine j_iast (t := 0) d_Rb_make_28 rfl (hC_t (by decide)) rfl h32 (by decide) (J.hq w6 ?_)
    first | refine j_aload_n d_Rb_make_29 rfl ?_ | refine j_aload_nq d_Rb_make_29 rfl ?_ | refine j_aload_nN d_Rb_make_29 rfl ?_
    refine j_get d_Rb_make_30 f_Rb_18 (hC_t (by decide)) rfl ?_
    first | refine j_aload_n d_Rb_make_33 rfl ?_ | refine j_aload_nq d_Rb_make_33 rfl ?_ | refine j_aload_nN d_Rb_make_33 rfl ?_
    refine j_get d_Rb_make_34 f_Rb_27 (hC_t (by decide)) rfl ?_
    refine j_iload_n d_Rb_make_37 rfl ?_
    refine j_iast (t := 0) d_Rb_make_38 rfl (hC_t (by decide)) rfl h32 (by decide) (J.hq w7 ?_)
    first | refine j_aload_n d_Rb_make_39 rfl ?_ | refine j_aload_nq d_Rb_make_39 rfl ?_ | refine j_aload_nN d_Rb_make_39 rfl ?_
    refine j_dup d_Rb_make_40 rfl ?_
    refine j_get d_Rb_make_41 f_Rb_27 (hC_t (by decide)) rfl ?_
    refine j_iconst (v := nI 1) d_Rb_make_44 (by decide +kernel) ?_
    refine jn_iadd d_Rb_make_45 ?_
    refine j_put d_Rb_make_46 p_Rb_27 (hC_t (by decide)) rfl (by first | rfl | decide +kernel) (Nat.le_of_ble_eq_true rfl) (J.hq w34 ?_)
    exact j_vret d_Rb_make_49 rfl ⟨rfl, rfl⟩

set_option maxHeartbeats 4000000 in
set_option maxRecDepth 100000 in
theorem t_Rb_isFor {l : Launch} {D : va_G} {B nx : Nat} {σ : Sg} {κ : Kp} {g : Nat → Option va_E} (hb : bd σ) (h32 : σ 34 0 0 ≤ 32) (q s : Nat) (hq : q < 2 ^ 31) (hs : s < 2) : jM (G0 l D) m_Rb_isFor 0 0 0 [.ref (B + 6), .int (nI q), .int (nI s)] (hC D B σ κ g, nx) (fun v h => v = some (.int (cI (q < σ 34 0 0 ∧ σ 5 0 q = s))) ∧ h = (hC D B σ κ g, nx)) := by
  refine jM.of (by decide +kernel) (Nat.le_of_ble_eq_true rfl) rfl ?_
  have b34 := hb 34 0 0
  have b5 := hb 5 0 q
  refine j_iload_n d_Rb_isFor_0 rfl ?_
  first | refine m_if_lt (t := 26) d_Rb_isFor_1 (by decide) (by omega) (fun c1 => ?_) (fun c1 => ?_) | refine n_if_lt (t := 26) d_Rb_isFor_1 (by decide) (by omega) (fun c1 => ?_) (fun c1 => ?_) | refine j_if_lt (t := 26) d_Rb_isFor_1 (by decide) (fun c1 => ?_) (fun c1 => ?_)
  · exfalso; first | exact c1 | omega
  · refine j_iload_n d_Rb_isFor_4 rfl ?_
    first | refine j_aload_n d_Rb_isFor_5 rfl ?_ | refine j_aload_nq d_Rb_isFor_5 rfl ?_ | refine j_aload_nN d_Rb_isFor_5 rfl ?_
    refine j_get d_Rb_isFor_6 f_Rb_27 (hC_t (by decide)) rfl ?_
    first | refine nn_icmp_ge (t := 26) d_Rb_isFor_9 (by decide) (by omega) (by omega) (fun c9 => ?_) (fun c9 => ?_) | refine mm_icmp_ge (t := 26) d_Rb_isFor_9 (by decide) (by omega) (by omega) (fun c9 => ?_) (fun c9 => ?_) | refine mn_icmp_ge (t := 26) d_Rb_isFor_9 (by decide) (by omega) (by omega) (fun c9 => ?_) (fun c9 => ?_) | refine nm_icmp_ge (t := 26) d_Rb_isFor_9 (by decide) (by omega) (by omega) (fun c9 => ?_) (fun c9 => ?_) | refine j_icmp_ge (t := 26) d_Rb_isFor_9 (by decide) (fun c9 => ?_) (fun c9 => ?_)
    · refine j_iconst (v := nI 0) d_Rb_isFor_26 (by decide +kernel) ?_
      first | exact jc_t d_Rb_isFor_27 rfl (by omega) rfl | exact jc_f d_Rb_isFor_27 rfl (by omega) rfl | exact jc_c d_Rb_isFor_27 rfl Iff.rfl rfl | exact j_zret d_Rb_isFor_27 rfl (by decide +kernel) ⟨rfl, rfl⟩
    · first | refine j_aload_n d_Rb_isFor_12 rfl ?_ | refine j_aload_nq d_Rb_isFor_12 rfl ?_ | refine j_aload_nN d_Rb_isFor_12 rfl ?_
      refine j_get d_Rb_isFor_13 f_Rb_9 (hC_t (by decide)) rfl ?_
      refine j_iload_n d_Rb_isFor_16 rfl ?_
      refine j_iald (t := 0) d_Rb_isFor_17 rfl (hC_t (by decide)) rfl (by omega) (by decide) ?_
      refine j_iload_n d_Rb_isFor_18 rfl ?_
      first | refine nn_icmp_ne (t := 26) d_Rb_isFor_19 (by decide) (by omega) (by omega) (fun c19 => ?_) (fun c19 => ?_) | refine mm_icmp_ne (t := 26) d_Rb_isFor_19 (by decide) (by omega) (by omega) (fun c19 => ?_) (fun c19 => ?_) | refine mn_icmp_ne (t := 26) d_Rb_isFor_19 (by decide) (by omega) (by omega) (fun c19 => ?_) (fun c19 => ?_) | refine nm_icmp_ne (t := 26) d_Rb_isFor_19 (by decide) (by omega) (by omega) (fun c19 => ?_) (fun c19 => ?_) | refine j_icmp_ne (t := 26) d_Rb_isFor_19 (by decide) (fun c19 => ?_) (fun c19 => ?_)
      · refine j_iconst (v := nI 0) d_Rb_isFor_26 (by decide +kernel) ?_
        first | exact jc_t d_Rb_isFor_27 rfl (by omega) rfl | exact jc_f d_Rb_isFor_27 rfl (by omega) rfl | exact jc_c d_Rb_isFor_27 rfl Iff.rfl rfl | exact j_zret d_Rb_isFor_27 rfl (by decide +kernel) ⟨rfl, rfl⟩
      · refine j_iconst (v := nI 1) d_Rb_isFor_22 (by decide +kernel) ?_
        refine j_goto (t := 27) d_Rb_isFor_23 (by decide) ?_
        first | exact jc_t d_Rb_isFor_27 rfl (by omega) rfl | exact jc_f d_Rb_isFor_27 rfl (by omega) rfl | exact jc_c d_Rb_isFor_27 rfl Iff.rfl rfl | exact j_zret d_Rb_isFor_27 rfl (by decide +kernel) ⟨rfl, rfl⟩

set_option maxHeartbeats 4000000 in
set_option maxRecDepth 100000 in
theorem t_Rb_isForN {l : Launch} {D : va_G} {B nx : Nat} {σ : Sg} {κ : Kp} {g : Nat → Option va_E} (s : Nat) : jM (G0 l D) m_Rb_isFor 0 0 0 [.ref (B + 6), .int (mI 0), .int (nI s)] (hC D B σ κ g, nx) (fun v h => v = some (.int (nI 0)) ∧ h = (hC D B σ κ g, nx)) := by
  refine jM.of (by decide +kernel) (Nat.le_of_ble_eq_true rfl) rfl ?_
  refine j_iload_n d_Rb_isFor_0 rfl ?_
  first | refine m_if_lt (t := 26) d_Rb_isFor_1 (by decide) (by omega) (fun c1 => ?_) (fun c1 => ?_) | refine n_if_lt (t := 26) d_Rb_isFor_1 (by decide) (by omega) (fun c1 => ?_) (fun c1 => ?_) | refine j_if_lt (t := 26) d_Rb_isFor_1 (by decide) (fun c1 => ?_) (fun c1 => ?_)
  · refine j_iconst (v := nI 0) d_Rb_isFor_26 (by decide +kernel) ?_
    first | exact jc_t d_Rb_isFor_27 rfl (by omega) rfl | exact jc_f d_Rb_isFor_27 rfl (by omega) rfl | exact jc_c d_Rb_isFor_27 rfl Iff.rfl rfl | exact j_zret d_Rb_isFor_27 rfl (by decide +kernel) ⟨rfl, rfl⟩
  · exfalso; first | exact c1 | omega

set_option maxHeartbeats 4000000 in
set_option maxRecDepth 100000 in
theorem t_Rb_kindOf {l : Launch} {D : va_G} {B nx : Nat} {σ : Sg} {κ : Kp} {g : Nat → Option va_E} (hb : bd σ) (h32 : σ 34 0 0 ≤ 32) (q : Nat) (hq : q < σ 34 0 0) : jM (G0 l D) m_Rb_kindOf 1 0 0 [.ref (B + 6), .int (nI q)] (hC D B σ κ g, nx) (fun v h => v = some (.int (nI (σ 6 0 q))) ∧ h = (hC D B σ κ g, nx)) := by
  refine jM.of (by decide +kernel) (Nat.le_of_ble_eq_true rfl) rfl ?_
  have b34 := hb 34 0 0
  first | refine j_aload_n d_Rb_kindOf_0 rfl ?_ | refine j_aload_nq d_Rb_kindOf_0 rfl ?_ | refine j_aload_nN d_Rb_kindOf_0 rfl ?_
  refine j_iload_n d_Rb_kindOf_1 rfl ?_
  refine j_callV0 (As := [_]) G0_good G0_E d_Rb_kindOf_2 c_Rb_31 rfl rfl (t_Rb_has hb q (by omega)) (hC_t (by decide)) rfl rfl (by decide) (Nat.le_of_ble_eq_true rfl) ?_
  rintro _ _ ⟨rfl, rfl⟩
  first | refine c_if_eq (t := 17) d_Rb_kindOf_5 (by decide) (fun c5 => ?_) (fun c5 => ?_) | refine n_if_eq (t := 17) d_Rb_kindOf_5 (by decide) (by omega) (fun c5 => ?_) (fun c5 => ?_) | refine j_if_eq (t := 17) d_Rb_kindOf_5 (by decide) (fun c5 => ?_) (fun c5 => ?_)
  · exfalso; first | exact c5 | omega
  · first | refine j_aload_n d_Rb_kindOf_8 rfl ?_ | refine j_aload_nq d_Rb_kindOf_8 rfl ?_ | refine j_aload_nN d_Rb_kindOf_8 rfl ?_
    refine j_get d_Rb_kindOf_9 f_Rb_15 (hC_t (by decide)) rfl ?_
    refine j_iload_n d_Rb_kindOf_12 rfl ?_
    refine j_iald (t := 0) d_Rb_kindOf_13 rfl (hC_t (by decide)) rfl (by omega) (by decide) ?_
    refine j_goto (t := 18) d_Rb_kindOf_14 (by decide) ?_
    exact j_iret d_Rb_kindOf_18 rfl ⟨rfl, rfl⟩

set_option maxHeartbeats 4000000 in
set_option maxRecDepth 100000 in
theorem t_Rb_transactionOf {l : Launch} {D : va_G} {B nx : Nat} {σ : Sg} {κ : Kp} {g : Nat → Option va_E} (hb : bd σ) (h32 : σ 34 0 0 ≤ 32) (q : Nat) (hq : q < σ 34 0 0) : jM (G0 l D) m_Rb_transactionOf 1 0 0 [.ref (B + 6), .int (nI q)] (hC D B σ κ g, nx) (fun v h => v = some (.int (nI (σ 7 0 q))) ∧ h = (hC D B σ κ g, nx)) := by
  refine jM.of (by decide +kernel) (Nat.le_of_ble_eq_true rfl) rfl ?_
  have b34 := hb 34 0 0
  first | refine j_aload_n d_Rb_transactionOf_0 rfl ?_ | refine j_aload_nq d_Rb_transactionOf_0 rfl ?_ | refine j_aload_nN d_Rb_transactionOf_0 rfl ?_
  refine j_iload_n d_Rb_transactionOf_1 rfl ?_
  refine j_callV0 (As := [_]) G0_good G0_E d_Rb_transactionOf_2 c_Rb_31 rfl rfl (t_Rb_has hb q (by omega)) (hC_t (by decide)) rfl rfl (by decide) (Nat.le_of_ble_eq_true rfl) ?_
  rintro _ _ ⟨rfl, rfl⟩
  first | refine c_if_eq (t := 17) d_Rb_transactionOf_5 (by decide) (fun c5 => ?_) (fun c5 => ?_) | refine n_if_eq (t := 17) d_Rb_transactionOf_5 (by decide) (by omega) (fun c5 => ?_) (fun c5 => ?_) | refine j_if_eq (t := 17) d_Rb_transactionOf_5 (by decide) (fun c5 => ?_) (fun c5 => ?_)
  · exfalso; first | exact c5 | omega
  · first | refine j_aload_n d_Rb_transactionOf_8 rfl ?_ | refine j_aload_nq d_Rb_transactionOf_8 rfl ?_ | refine j_aload_nN d_Rb_transactionOf_8 rfl ?_
    refine j_get d_Rb_transactionOf_9 f_Rb_18 (hC_t (by decide)) rfl ?_
    refine j_iload_n d_Rb_transactionOf_12 rfl ?_
    refine j_iald (t := 0) d_Rb_transactionOf_13 rfl (hC_t (by decide)) rfl (by omega) (by decide) ?_
    refine j_goto (t := 18) d_Rb_transactionOf_14 (by decide) ?_
    exact j_iret d_Rb_transactionOf_18 rfl ⟨rfl, rfl⟩

set_option maxHeartbeats 4000000 in
set_option maxRecDepth 100000 in
theorem t_Rb_noteExecution {l : Launch} {D : va_G} {B nx : Nat} {σ : Sg} {κ : Kp} {g : Nat → Option va_E} (hb : bd σ) (h32 : σ 34 0 0 ≤ 32) (q r : Nat) (hq : q < σ 34 0 0) : jM (G0 l D) m_Rb_noteExecution 1 0 0 [.ref (B + 6), .int (nI q), .int (nI r)] (hC D B σ κ g, nx) (fun v h => v = none ∧ h = (hC D B (U (U σ 31 0 q (σ 31 0 q + 1)) 32 0 q r) κ g, nx)) := by
  refine jM.of (by decide +kernel) (Nat.le_of_ble_eq_true rfl) rfl ?_
  have b34 := hb 34 0 0
  first | refine j_aload_n d_Rb_noteExecution_0 rfl ?_ | refine j_aload_nq d_Rb_noteExecution_0 rfl ?_ | refine j_aload_nN d_Rb_noteExecution_0 rfl ?_
  refine j_iload_n d_Rb_noteExecution_1 rfl ?_
  refine j_callV0 (As := [_]) G0_good G0_E d_Rb_noteExecution_2 c_Rb_31 rfl rfl (t_Rb_has hb q (by omega)) (hC_t (by decide)) rfl rfl (by decide) (Nat.le_of_ble_eq_true rfl) ?_
  rintro _ _ ⟨rfl, rfl⟩
  first | refine c_if_eq (t := 25) d_Rb_noteExecution_5 (by decide) (fun c5 => ?_) (fun c5 => ?_) | refine n_if_eq (t := 25) d_Rb_noteExecution_5 (by decide) (by omega) (fun c5 => ?_) (fun c5 => ?_) | refine j_if_eq (t := 25) d_Rb_noteExecution_5 (by decide) (fun c5 => ?_) (fun c5 => ?_)
  · exfalso; first | exact c5 | omega
  · first | refine j_aload_n d_Rb_noteExecution_8 rfl ?_ | refine j_aload_nq d_Rb_noteExecution_8 rfl ?_ | refine j_aload_nN d_Rb_noteExecution_8 rfl ?_
    refine j_get d_Rb_noteExecution_9 f_Rb_21 (hC_t (by decide)) rfl ?_
    refine j_iload_n d_Rb_noteExecution_12 rfl ?_
    refine j_dup2 d_Rb_noteExecution_13 rfl rfl ?_
    refine j_iald (t := 0) d_Rb_noteExecution_14 rfl (hC_t (by decide)) rfl (by omega) (by decide) ?_
    refine j_iconst (v := nI 1) d_Rb_noteExecution_15 (by decide +kernel) ?_
    refine jn_iadd d_Rb_noteExecution_16 ?_
    refine j_iast (t := 0) d_Rb_noteExecution_17 rfl (hC_t (by decide)) rfl (by omega) (by decide) (J.hq w31 ?_)
    first | refine j_aload_n d_Rb_noteExecution_18 rfl ?_ | refine j_aload_nq d_Rb_noteExecution_18 rfl ?_ | refine j_aload_nN d_Rb_noteExecution_18 rfl ?_
    refine j_get d_Rb_noteExecution_19 f_Rb_24 (hC_t (by decide)) rfl ?_
    refine j_iload_n d_Rb_noteExecution_22 rfl ?_
    refine j_iload_n d_Rb_noteExecution_23 rfl ?_
    refine j_iast (t := 0) d_Rb_noteExecution_24 rfl (hC_t (by decide)) rfl (by omega) (by decide) (J.hq w32 ?_)
    exact j_vret d_Rb_noteExecution_25 rfl ⟨rfl, rfl⟩

set_option maxHeartbeats 4000000 in
set_option maxRecDepth 100000 in
theorem t_Rb_answer {l : Launch} {D : va_G} {B nx : Nat} {σ : Sg} {κ : Kp} {g : Nat → Option va_E} (hb : bd σ) (q : Nat) (hq : q < 32) : jM (G0 l D) m_Rb_answer 0 0 0 [.ref (B + 6), .int (nI q)] (hC D B σ κ g, nx) (fun v h => v = some (.int (nI (ans σ q))) ∧ h = (hC D B σ κ g, nx)) := by
  refine jM.of (by decide +kernel) (Nat.le_of_ble_eq_true rfl) rfl ?_
  have b31 := hb 31 0 q
  first | refine j_aload_n d_Rb_answer_0 rfl ?_ | refine j_aload_nq d_Rb_answer_0 rfl ?_ | refine j_aload_nN d_Rb_answer_0 rfl ?_
  refine j_get d_Rb_answer_1 f_Rb_21 (hC_t (by decide)) rfl ?_
  refine j_iload_n d_Rb_answer_4 rfl ?_
  refine j_iald (t := 0) d_Rb_answer_5 rfl (hC_t (by decide)) rfl (by omega) (by decide) ?_
  refine j_iconst (v := nI 2) d_Rb_answer_6 (by decide +kernel) ?_
  first | refine nn_icmp_lt (t := 19) d_Rb_answer_7 (by decide) (by omega) (by omega) (fun c7 => ?_) (fun c7 => ?_) | refine mm_icmp_lt (t := 19) d_Rb_answer_7 (by decide) (by omega) (by omega) (fun c7 => ?_) (fun c7 => ?_) | refine mn_icmp_lt (t := 19) d_Rb_answer_7 (by decide) (by omega) (by omega) (fun c7 => ?_) (fun c7 => ?_) | refine nm_icmp_lt (t := 19) d_Rb_answer_7 (by decide) (by omega) (by omega) (fun c7 => ?_) (fun c7 => ?_) | refine j_icmp_lt (t := 19) d_Rb_answer_7 (by decide) (fun c7 => ?_) (fun c7 => ?_)
  · refine j_iconst (v := nI 0) d_Rb_answer_19 (by decide +kernel) ?_
    first | exact j_iret d_Rb_answer_20 rfl ⟨by rw [ans, if_pos c7], rfl⟩ | exact j_iret d_Rb_answer_20 rfl ⟨by rw [ans, if_neg (by omega)], rfl⟩
  · first | refine j_aload_n d_Rb_answer_10 rfl ?_ | refine j_aload_nq d_Rb_answer_10 rfl ?_ | refine j_aload_nN d_Rb_answer_10 rfl ?_
    refine j_get d_Rb_answer_11 f_Rb_24 (hC_t (by decide)) rfl ?_
    refine j_iload_n d_Rb_answer_14 rfl ?_
    refine j_iald (t := 0) d_Rb_answer_15 rfl (hC_t (by decide)) rfl (by omega) (by decide) ?_
    refine j_goto (t := 20) d_Rb_answer_16 (by decide) ?_
    first | exact j_iret d_Rb_answer_20 rfl ⟨by rw [ans, if_pos c7], rfl⟩ | exact j_iret d_Rb_answer_20 rfl ⟨by rw [ans, if_neg (by omega)], rfl⟩

set_option maxHeartbeats 4000000 in
set_option maxRecDepth 100000 in
theorem t_Ch_set_lock {l : Launch} {D : va_G} {B nx : Nat} {σ : Sg} {κ : Kp} {g : Nat → Option va_E} {p : Nat} (hp : p < 8) (q r : Nat) : jM (G0 l D) m_Ch_set 0 0 0 [.ref (aP B p + 6), .int (mI q), .int (mI r)] (hC D B σ κ g, nx) (fun v h => v = none ∧ h = (hC D B (U (U σ 13 p 0 q) 14 p 0 r) κ g, nx)) := by
  refine jM.of (by decide +kernel) (Nat.le_of_ble_eq_true rfl) rfl ?_
  first | refine j_aload_n d_Ch_set_0 rfl ?_ | refine j_aload_nq d_Ch_set_0 rfl ?_ | refine j_aload_nN d_Ch_set_0 rfl ?_
  refine j_iload_n d_Ch_set_1 rfl ?_
  refine j_put d_Ch_set_2 p_Ch_9 (hC_p hp (by decide)) rfl (by first | rfl | decide +kernel) (Nat.le_of_ble_eq_true rfl) (J.hq (w13 hp) ?_)
  first | refine j_aload_n d_Ch_set_5 rfl ?_ | refine j_aload_nq d_Ch_set_5 rfl ?_ | refine j_aload_nN d_Ch_set_5 rfl ?_
  refine j_iload_n d_Ch_set_6 rfl ?_
  refine j_put d_Ch_set_7 p_Ch_15 (hC_p hp (by decide)) rfl (by first | rfl | decide +kernel) (Nat.le_of_ble_eq_true rfl) (J.hq (w14s hp) ?_)
  exact j_vret d_Ch_set_10 rfl ⟨rfl, rfl⟩

set_option maxHeartbeats 4000000 in
set_option maxRecDepth 100000 in
theorem t_Ch_clear_lock {l : Launch} {D : va_G} {B nx : Nat} {σ : Sg} {κ : Kp} {g : Nat → Option va_E} {p : Nat} (hp : p < 8) : jM (G0 l D) m_Ch_clear 1 0 0 [.ref (aP B p + 6)] (hC D B σ κ g, nx) (fun v h => v = none ∧ h = (hC D B (U (U σ 13 p 0 0) 14 p 0 0) κ g, nx)) := by
  refine jM.of (by decide +kernel) (Nat.le_of_ble_eq_true rfl) rfl ?_
  first | refine j_aload_n d_Ch_clear_0 rfl ?_ | refine j_aload_nq d_Ch_clear_0 rfl ?_ | refine j_aload_nN d_Ch_clear_0 rfl ?_
  refine j_iconst (v := mI 0) d_Ch_clear_1 (by decide +kernel) ?_
  refine j_iconst (v := mI 0) d_Ch_clear_2 (by decide +kernel) ?_
  refine j_callV0 (As := [_, _]) G0_good G0_E d_Ch_clear_3 c_Ch_18 rfl rfl (t_Ch_set_lock hp 0 0) (hC_p hp (by decide)) rfl rfl (by decide) (Nat.le_of_ble_eq_true rfl) ?_
  rintro _ _ ⟨rfl, rfl⟩
  exact j_vret d_Ch_clear_6 rfl ⟨rfl, rfl⟩

set_option maxHeartbeats 4000000 in
set_option maxRecDepth 100000 in
theorem t_Ch_set_cand {l : Launch} {D : va_G} {B nx : Nat} {σ : Sg} {κ : Kp} {g : Nat → Option va_E} {p : Nat} (hp : p < 8) (q r : Nat) : jM (G0 l D) m_Ch_set 0 0 0 [.ref (aP B p + 7), .int (mI q), .int (mI r)] (hC D B σ κ g, nx) (fun v h => v = none ∧ h = (hC D B (U (U σ 15 p 0 q) 16 p 0 r) κ g, nx)) := by
  refine jM.of (by decide +kernel) (Nat.le_of_ble_eq_true rfl) rfl ?_
  first | refine j_aload_n d_Ch_set_0 rfl ?_ | refine j_aload_nq d_Ch_set_0 rfl ?_ | refine j_aload_nN d_Ch_set_0 rfl ?_
  refine j_iload_n d_Ch_set_1 rfl ?_
  refine j_put d_Ch_set_2 p_Ch_9 (hC_p hp (by decide)) rfl (by first | rfl | decide +kernel) (Nat.le_of_ble_eq_true rfl) (J.hq (w15 hp) ?_)
  first | refine j_aload_n d_Ch_set_5 rfl ?_ | refine j_aload_nq d_Ch_set_5 rfl ?_ | refine j_aload_nN d_Ch_set_5 rfl ?_
  refine j_iload_n d_Ch_set_6 rfl ?_
  refine j_put d_Ch_set_7 p_Ch_15 (hC_p hp (by decide)) rfl (by first | rfl | decide +kernel) (Nat.le_of_ble_eq_true rfl) (J.hq (w16s hp) ?_)
  exact j_vret d_Ch_set_10 rfl ⟨rfl, rfl⟩

set_option maxHeartbeats 4000000 in
set_option maxRecDepth 100000 in
theorem t_Ch_clear_cand {l : Launch} {D : va_G} {B nx : Nat} {σ : Sg} {κ : Kp} {g : Nat → Option va_E} {p : Nat} (hp : p < 8) : jM (G0 l D) m_Ch_clear 1 0 0 [.ref (aP B p + 7)] (hC D B σ κ g, nx) (fun v h => v = none ∧ h = (hC D B (U (U σ 15 p 0 0) 16 p 0 0) κ g, nx)) := by
  refine jM.of (by decide +kernel) (Nat.le_of_ble_eq_true rfl) rfl ?_
  first | refine j_aload_n d_Ch_clear_0 rfl ?_ | refine j_aload_nq d_Ch_clear_0 rfl ?_ | refine j_aload_nN d_Ch_clear_0 rfl ?_
  refine j_iconst (v := mI 0) d_Ch_clear_1 (by decide +kernel) ?_
  refine j_iconst (v := mI 0) d_Ch_clear_2 (by decide +kernel) ?_
  refine j_callV0 (As := [_, _]) G0_good G0_E d_Ch_clear_3 c_Ch_18 rfl rfl (t_Ch_set_cand hp 0 0) (hC_p hp (by decide)) rfl rfl (by decide) (Nat.le_of_ble_eq_true rfl) ?_
  rintro _ _ ⟨rfl, rfl⟩
  exact j_vret d_Ch_clear_6 rfl ⟨rfl, rfl⟩
