/-! TransactionBook: laid by program (g_tb.py) -/
/-- all numbers are small -/
def bd (σ : Sg) : Prop := ∀ f a b, σ f a b < 100000
/-- a script's number is one of 0 .. n - 1 -/
def inr (x : Int32) (n : Nat) : Prop := ¬ x < 0 ∧ ¬ nI n ≤ x
theorem inr_of {x : Int32} {n : Nat} (hn : n < 2 ^ 31) (h : inr x n) : ∃ j, j < n ∧ x = nI j := by
  rcases pk_ix x hn with q | q | q
  · exact absurd q h.1
  · exact absurd q h.2
  · exact q
theorem inr_nI {j n : Nat} (hn : n < 2 ^ 31) (h : j < n) : inr (nI j) n := ⟨n0_lt (by omega), fun q => by have := (nn_le hn (by omega)).mp q; omega⟩
theorem inr_iff {j n : Nat} (hn : n < 2 ^ 31) (hj : j < 2 ^ 31) : inr (nI j) n ↔ j < n := ⟨fun q => by
    obtain ⟨i, hi, e⟩ := inr_of hn q
    rw [(nn_eq hj (by omega)).mp e]; exact hi, inr_nI hn⟩
/-- what submit asks of a script's numbers -/
def Pp (σ : Sg) (x y a : Int32) : Prop := ∃ f s b : Nat, x = nI f ∧ y = mI s ∧ a = nI b ∧ f < 4 + 2 * σ 33 0 0 ∧ s ≤ 4 + 2 * σ 33 0 0 ∧ f + 1 ≠ s ∧ b ≤ σ 4 0 f + (if s = 0 then 0 else σ 4 0 (s - 1))

set_option maxHeartbeats 4000000 in
set_option maxRecDepth 100000 in
theorem t_Tb_count {l : Launch} {D : va_G} {B nx : Nat} {σ : Sg} {κ : Kp} {g : Nat → Option va_E} : jM (G0 l D) m_Tb_count 0 0 0 [.ref (B + 1)] (hC D B σ κ g, nx) (fun v h => v = some (.int (nI (σ 33 0 0))) ∧ h = (hC D B σ κ g, nx)) := by
  refine jM.of (by decide +kernel) (Nat.le_of_ble_eq_true rfl) rfl ?_
  first | refine j_aload_n d_Tb_count_0 rfl ?_ | refine j_aload_nq d_Tb_count_0 rfl ?_ | refine j_aload_nN d_Tb_count_0 rfl ?_
  refine j_get d_Tb_count_1 f_Tb_24 (hC_t (by decide)) rfl ?_
  exact j_iret d_Tb_count_4 rfl ⟨rfl, rfl⟩

set_option maxHeartbeats 4000000 in
set_option maxRecDepth 100000 in
theorem t_Tb_isFull {l : Launch} {D : va_G} {B nx : Nat} {σ : Sg} {κ : Kp} {g : Nat → Option va_E} (hb : bd σ) : jM (G0 l D) m_Tb_isFull 0 0 0 [.ref (B + 1)] (hC D B σ κ g, nx) (fun v h => v = some (.int (cI (8 ≤ σ 33 0 0))) ∧ h = (hC D B σ κ g, nx)) := by
  refine jM.of (by decide +kernel) (Nat.le_of_ble_eq_true rfl) rfl ?_
  have b33 := hb 33 0 0
  first | refine j_aload_n d_Tb_isFull_0 rfl ?_ | refine j_aload_nq d_Tb_isFull_0 rfl ?_ | refine j_aload_nN d_Tb_isFull_0 rfl ?_
  refine j_get d_Tb_isFull_1 f_Tb_24 (hC_t (by decide)) rfl ?_
  refine j_bipush (v := nI 8) d_Tb_isFull_4 (by decide +kernel) ?_
  first | refine nn_icmp_lt (t := 13) d_Tb_isFull_6 (by decide) (by omega) (by omega) (fun c6 => ?_) (fun c6 => ?_) | refine mm_icmp_lt (t := 13) d_Tb_isFull_6 (by decide) (by omega) (by omega) (fun c6 => ?_) (fun c6 => ?_) | refine mn_icmp_lt (t := 13) d_Tb_isFull_6 (by decide) (by omega) (by omega) (fun c6 => ?_) (fun c6 => ?_) | refine nm_icmp_lt (t := 13) d_Tb_isFull_6 (by decide) (by omega) (by omega) (fun c6 => ?_) (fun c6 => ?_) | refine j_icmp_lt (t := 13) d_Tb_isFull_6 (by decide) (fun c6 => ?_) (fun c6 => ?_)
  · refine j_iconst (v := nI 0) d_Tb_isFull_13 (by decide +kernel) ?_
    first | exact jc_t d_Tb_isFull_14 rfl (by omega) rfl | exact jc_f d_Tb_isFull_14 rfl (by omega) rfl | exact jc_c d_Tb_isFull_14 rfl Iff.rfl rfl | exact j_zret d_Tb_isFull_14 rfl (by decide +kernel) ⟨rfl, rfl⟩
  · refine j_iconst (v := nI 1) d_Tb_isFull_9 (by decide +kernel) ?_
    refine j_goto (t := 14) d_Tb_isFull_10 (by decide) ?_
    first | exact jc_t d_Tb_isFull_14 rfl (by omega) rfl | exact jc_f d_Tb_isFull_14 rfl (by omega) rfl | exact jc_c d_Tb_isFull_14 rfl Iff.rfl rfl | exact j_zret d_Tb_isFull_14 rfl (by decide +kernel) ⟨rfl, rfl⟩

set_option maxHeartbeats 4000000 in
set_option maxRecDepth 100000 in
theorem t_Tb_has {l : Launch} {D : va_G} {B nx : Nat} {σ : Sg} {κ : Kp} {g : Nat → Option va_E} (hb : bd σ) (t : Nat) (ht : t < 2 ^ 31) : jM (G0 l D) m_Tb_has 0 0 0 [.ref (B + 1), .int (nI t)] (hC D B σ κ g, nx) (fun v h => v = some (.int (cI (t < σ 33 0 0))) ∧ h = (hC D B σ κ g, nx)) := by
  refine jM.of (by decide +kernel) (Nat.le_of_ble_eq_true rfl) rfl ?_
  have b33 := hb 33 0 0
  refine j_iload_n d_Tb_has_0 rfl ?_
  first | refine m_if_lt (t := 16) d_Tb_has_1 (by decide) (by omega) (fun c1 => ?_) (fun c1 => ?_) | refine n_if_lt (t := 16) d_Tb_has_1 (by decide) (by omega) (fun c1 => ?_) (fun c1 => ?_) | refine j_if_lt (t := 16) d_Tb_has_1 (by decide) (fun c1 => ?_) (fun c1 => ?_)
  · exfalso; first | exact c1 | omega
  · refine j_iload_n d_Tb_has_4 rfl ?_
    first | refine j_aload_n d_Tb_has_5 rfl ?_ | refine j_aload_nq d_Tb_has_5 rfl ?_ | refine j_aload_nN d_Tb_has_5 rfl ?_
    refine j_get d_Tb_has_6 f_Tb_24 (hC_t (by decide)) rfl ?_
    first | refine nn_icmp_ge (t := 16) d_Tb_has_9 (by decide) (by omega) (by omega) (fun c9 => ?_) (fun c9 => ?_) | refine mm_icmp_ge (t := 16) d_Tb_has_9 (by decide) (by omega) (by omega) (fun c9 => ?_) (fun c9 => ?_) | refine mn_icmp_ge (t := 16) d_Tb_has_9 (by decide) (by omega) (by omega) (fun c9 => ?_) (fun c9 => ?_) | refine nm_icmp_ge (t := 16) d_Tb_has_9 (by decide) (by omega) (by omega) (fun c9 => ?_) (fun c9 => ?_) | refine j_icmp_ge (t := 16) d_Tb_has_9 (by decide) (fun c9 => ?_) (fun c9 => ?_)
    · refine j_iconst (v := nI 0) d_Tb_has_16 (by decide +kernel) ?_
      first | exact jc_t d_Tb_has_17 rfl (by omega) rfl | exact jc_f d_Tb_has_17 rfl (by omega) rfl | exact jc_c d_Tb_has_17 rfl Iff.rfl rfl | exact j_zret d_Tb_has_17 rfl (by decide +kernel) ⟨rfl, rfl⟩
    · refine j_iconst (v := nI 1) d_Tb_has_12 (by decide +kernel) ?_
      refine j_goto (t := 17) d_Tb_has_13 (by decide) ?_
      first | exact jc_t d_Tb_has_17 rfl (by omega) rfl | exact jc_f d_Tb_has_17 rfl (by omega) rfl | exact jc_c d_Tb_has_17 rfl Iff.rfl rfl | exact j_zret d_Tb_has_17 rfl (by decide +kernel) ⟨rfl, rfl⟩

set_option maxHeartbeats 4000000 in
set_option maxRecDepth 100000 in
theorem t_Tb_hasN {l : Launch} {D : va_G} {B nx : Nat} {σ : Sg} {κ : Kp} {g : Nat → Option va_E} (t : Int32) (ht : t < 0) : jM (G0 l D) m_Tb_has 0 0 0 [.ref (B + 1), .int t] (hC D B σ κ g, nx) (fun v h => v = some (.int (nI 0)) ∧ h = (hC D B σ κ g, nx)) := by
  refine jM.of (by decide +kernel) (Nat.le_of_ble_eq_true rfl) rfl ?_
  refine j_iload_n d_Tb_has_0 rfl ?_
  first | refine m_if_lt (t := 16) d_Tb_has_1 (by decide) (by omega) (fun c1 => ?_) (fun c1 => ?_) | refine n_if_lt (t := 16) d_Tb_has_1 (by decide) (by omega) (fun c1 => ?_) (fun c1 => ?_) | refine j_if_lt (t := 16) d_Tb_has_1 (by decide) (fun c1 => ?_) (fun c1 => ?_)
  · refine j_iconst (v := nI 0) d_Tb_has_16 (by decide +kernel) ?_
    exact j_zret d_Tb_has_17 rfl (by decide +kernel) ⟨rfl, rfl⟩
  · exact absurd ht c1

set_option maxHeartbeats 4000000 in
set_option maxRecDepth 100000 in
theorem t_Tb_evenOutput {l : Launch} {D : va_G} {B nx : Nat} {σ : Sg} {κ : Kp} {g : Nat → Option va_E} (t : Nat) : jM (G0 l D) m_Tb_evenOutput 0 0 0 [.int (nI t)] (hC D B σ κ g, nx) (fun v h => v = some (.int (nI (4 + 2 * t))) ∧ h = (hC D B σ κ g, nx)) := by
  refine jM.of (by decide +kernel) (Nat.le_of_ble_eq_true rfl) rfl ?_
  refine j_iconst (v := nI 4) d_Tb_evenOutput_0 (by decide +kernel) ?_
  refine j_iconst (v := nI 2) d_Tb_evenOutput_1 (by decide +kernel) ?_
  refine j_iload_n d_Tb_evenOutput_2 rfl ?_
  refine jn_imul d_Tb_evenOutput_3 ?_
  refine jn_iadd d_Tb_evenOutput_4 ?_
  exact j_iret d_Tb_evenOutput_5 rfl ⟨rfl, rfl⟩

set_option maxHeartbeats 4000000 in
set_option maxRecDepth 100000 in
theorem t_Tb_amountOf {l : Launch} {D : va_G} {B nx : Nat} {σ : Sg} {κ : Kp} {g : Nat → Option va_E} (t : Nat) (ht : t < 20) : jM (G0 l D) m_Tb_amountOf 0 0 0 [.ref (B + 1), .int (nI t)] (hC D B σ κ g, nx) (fun v h => v = some (.int (nI (σ 4 0 t))) ∧ h = (hC D B σ κ g, nx)) := by
  refine jM.of (by decide +kernel) (Nat.le_of_ble_eq_true rfl) rfl ?_
  refine j_iload_n d_Tb_amountOf_0 rfl ?_
  first | refine m_if_lt (t := 19) d_Tb_amountOf_1 (by decide) (by omega) (fun c1 => ?_) (fun c1 => ?_) | refine n_if_lt (t := 19) d_Tb_amountOf_1 (by decide) (by omega) (fun c1 => ?_) (fun c1 => ?_) | refine j_if_lt (t := 19) d_Tb_amountOf_1 (by decide) (fun c1 => ?_) (fun c1 => ?_)
  · exfalso; first | exact c1 | omega
  · refine j_iload_n d_Tb_amountOf_4 rfl ?_
    refine j_bipush (v := nI 20) d_Tb_amountOf_5 (by decide +kernel) ?_
    first | refine nn_icmp_ge (t := 19) d_Tb_amountOf_7 (by decide) (by omega) (by omega) (fun c7 => ?_) (fun c7 => ?_) | refine mm_icmp_ge (t := 19) d_Tb_amountOf_7 (by decide) (by omega) (by omega) (fun c7 => ?_) (fun c7 => ?_) | refine mn_icmp_ge (t := 19) d_Tb_amountOf_7 (by decide) (by omega) (by omega) (fun c7 => ?_) (fun c7 => ?_) | refine nm_icmp_ge (t := 19) d_Tb_amountOf_7 (by decide) (by omega) (by omega) (fun c7 => ?_) (fun c7 => ?_) | refine j_icmp_ge (t := 19) d_Tb_amountOf_7 (by decide) (fun c7 => ?_) (fun c7 => ?_)
    · exfalso; first | exact c7 | omega
    · first | refine j_aload_n d_Tb_amountOf_10 rfl ?_ | refine j_aload_nq d_Tb_amountOf_10 rfl ?_ | refine j_aload_nN d_Tb_amountOf_10 rfl ?_
      refine j_get d_Tb_amountOf_11 f_Tb_21 (hC_t (by decide)) rfl ?_
      refine j_iload_n d_Tb_amountOf_14 rfl ?_
      refine j_iald (t := 0) d_Tb_amountOf_15 rfl (hC_t (by decide)) rfl (by omega) (by decide) ?_
      refine j_goto (t := 20) d_Tb_amountOf_16 (by decide) ?_
      exact j_iret d_Tb_amountOf_20 rfl ⟨rfl, rfl⟩

set_option maxHeartbeats 4000000 in
set_option maxRecDepth 100000 in
theorem t_Tb_amountOfN {l : Launch} {D : va_G} {B nx : Nat} {σ : Sg} {κ : Kp} {g : Nat → Option va_E} : jM (G0 l D) m_Tb_amountOf 0 0 0 [.ref (B + 1), .int (mI 0)] (hC D B σ κ g, nx) (fun v h => v = some (.int (nI 0)) ∧ h = (hC D B σ κ g, nx)) := by
  refine jM.of (by decide +kernel) (Nat.le_of_ble_eq_true rfl) rfl ?_
  refine j_iload_n d_Tb_amountOf_0 rfl ?_
  first | refine m_if_lt (t := 19) d_Tb_amountOf_1 (by decide) (by omega) (fun c1 => ?_) (fun c1 => ?_) | refine n_if_lt (t := 19) d_Tb_amountOf_1 (by decide) (by omega) (fun c1 => ?_) (fun c1 => ?_) | refine j_if_lt (t := 19) d_Tb_amountOf_1 (by decide) (fun c1 => ?_) (fun c1 => ?_)
  · refine j_iconst (v := nI 0) d_Tb_amountOf_19 (by decide +kernel) ?_
    exact j_iret d_Tb_amountOf_20 rfl ⟨rfl, rfl⟩
  · exfalso; first | exact c1 | omega

set_option maxHeartbeats 4000000 in
set_option maxRecDepth 100000 in
theorem t_Tb_sum {l : Launch} {D : va_G} {B nx : Nat} {σ : Sg} {κ : Kp} {g : Nat → Option va_E} (f s : Nat) (hf : f < 20) (hs : s < 20) : jM (G0 l D) m_Tb_sum 1 0 0 [.ref (B + 1), .int (nI f), .int (nI s)] (hC D B σ κ g, nx) (fun v h => v = some (.int (nI (σ 4 0 f + σ 4 0 s))) ∧ h = (hC D B σ κ g, nx)) := by
  refine jM.of (by decide +kernel) (Nat.le_of_ble_eq_true rfl) rfl ?_
  first | refine j_aload_n d_Tb_sum_0 rfl ?_ | refine j_aload_nq d_Tb_sum_0 rfl ?_ | refine j_aload_nN d_Tb_sum_0 rfl ?_
  refine j_iload_n d_Tb_sum_1 rfl ?_
  refine j_callV0 (As := [_]) G0_good G0_E d_Tb_sum_2 c_Tb_47 rfl rfl (t_Tb_amountOf f hf) (hC_t (by decide)) rfl rfl (by decide) (Nat.le_of_ble_eq_true rfl) ?_
  rintro _ _ ⟨rfl, rfl⟩
  first | refine j_aload_n d_Tb_sum_5 rfl ?_ | refine j_aload_nq d_Tb_sum_5 rfl ?_ | refine j_aload_nN d_Tb_sum_5 rfl ?_
  refine j_iload_n d_Tb_sum_6 rfl ?_
  refine j_callV0 (As := [_]) G0_good G0_E d_Tb_sum_7 c_Tb_47 rfl rfl (t_Tb_amountOf s hs) (hC_t (by decide)) rfl rfl (by decide) (Nat.le_of_ble_eq_true rfl) ?_
  rintro _ _ ⟨rfl, rfl⟩
  refine jn_iadd d_Tb_sum_10 ?_
  exact j_iret d_Tb_sum_11 rfl ⟨rfl, rfl⟩

set_option maxHeartbeats 4000000 in
set_option maxRecDepth 100000 in
theorem t_Tb_sumN {l : Launch} {D : va_G} {B nx : Nat} {σ : Sg} {κ : Kp} {g : Nat → Option va_E} (f : Nat) (hf : f < 20) : jM (G0 l D) m_Tb_sum 1 0 0 [.ref (B + 1), .int (nI f), .int (mI 0)] (hC D B σ κ g, nx) (fun v h => v = some (.int (nI (σ 4 0 f + 0))) ∧ h = (hC D B σ κ g, nx)) := by
  refine jM.of (by decide +kernel) (Nat.le_of_ble_eq_true rfl) rfl ?_
  first | refine j_aload_n d_Tb_sum_0 rfl ?_ | refine j_aload_nq d_Tb_sum_0 rfl ?_ | refine j_aload_nN d_Tb_sum_0 rfl ?_
  refine j_iload_n d_Tb_sum_1 rfl ?_
  refine j_callV0 (As := [_]) G0_good G0_E d_Tb_sum_2 c_Tb_47 rfl rfl (t_Tb_amountOf f hf) (hC_t (by decide)) rfl rfl (by decide) (Nat.le_of_ble_eq_true rfl) ?_
  rintro _ _ ⟨rfl, rfl⟩
  first | refine j_aload_n d_Tb_sum_5 rfl ?_ | refine j_aload_nq d_Tb_sum_5 rfl ?_ | refine j_aload_nN d_Tb_sum_5 rfl ?_
  refine j_iload_n d_Tb_sum_6 rfl ?_
  refine j_callV0 (As := [_]) G0_good G0_E d_Tb_sum_7 c_Tb_47 rfl rfl (t_Tb_amountOfN) (hC_t (by decide)) rfl rfl (by decide) (Nat.le_of_ble_eq_true rfl) ?_
  rintro _ _ ⟨rfl, rfl⟩
  refine jn_iadd d_Tb_sum_10 ?_
  exact j_iret d_Tb_sum_11 rfl ⟨rfl, rfl⟩

set_option maxHeartbeats 4000000 in
set_option maxRecDepth 100000 in
theorem t_Tb_isOutput {l : Launch} {D : va_G} {B nx : Nat} {σ : Sg} {κ : Kp} {g : Nat → Option va_E} (hb : bd σ) (x : Int32) : jM (G0 l D) m_Tb_isOutput 1 0 0 [.ref (B + 1), .int x] (hC D B σ κ g, nx) (fun v h => v = some (.int (cI (inr x (4 + 2 * σ 33 0 0)))) ∧ h = (hC D B σ κ g, nx)) := by
  refine jM.of (by decide +kernel) (Nat.le_of_ble_eq_true rfl) rfl ?_
  have b33 := hb 33 0 0
  refine j_iload_n d_Tb_isOutput_0 rfl ?_
  first | refine m_if_lt (t := 19) d_Tb_isOutput_1 (by decide) (by omega) (fun c1 => ?_) (fun c1 => ?_) | refine n_if_lt (t := 19) d_Tb_isOutput_1 (by decide) (by omega) (fun c1 => ?_) (fun c1 => ?_) | refine j_if_lt (t := 19) d_Tb_isOutput_1 (by decide) (fun c1 => ?_) (fun c1 => ?_)
  · refine j_iconst (v := nI 0) d_Tb_isOutput_19 (by decide +kernel) ?_
    first | exact jc_t d_Tb_isOutput_20 rfl ⟨c1, c12⟩ rfl | exact jc_f d_Tb_isOutput_20 rfl (fun q => q.2 c12) rfl | exact jc_f d_Tb_isOutput_20 rfl (fun q => q.1 c1) rfl
  · refine j_iload_n d_Tb_isOutput_4 rfl ?_
    first | refine j_aload_n d_Tb_isOutput_5 rfl ?_ | refine j_aload_nq d_Tb_isOutput_5 rfl ?_ | refine j_aload_nN d_Tb_isOutput_5 rfl ?_
    refine j_get d_Tb_isOutput_6 f_Tb_24 (hC_t (by decide)) rfl ?_
    refine j_callS0 (As := [_]) G0_good G0_E d_Tb_isOutput_9 c_Tb_40 rfl rfl rfl (t_Tb_evenOutput (σ 33 0 0)) (by decide) (Nat.le_of_ble_eq_true rfl) ?_
    rintro _ _ ⟨rfl, rfl⟩
    first | refine nn_icmp_ge (t := 19) d_Tb_isOutput_12 (by decide) (by omega) (by omega) (fun c12 => ?_) (fun c12 => ?_) | refine mm_icmp_ge (t := 19) d_Tb_isOutput_12 (by decide) (by omega) (by omega) (fun c12 => ?_) (fun c12 => ?_) | refine mn_icmp_ge (t := 19) d_Tb_isOutput_12 (by decide) (by omega) (by omega) (fun c12 => ?_) (fun c12 => ?_) | refine nm_icmp_ge (t := 19) d_Tb_isOutput_12 (by decide) (by omega) (by omega) (fun c12 => ?_) (fun c12 => ?_) | refine j_icmp_ge (t := 19) d_Tb_isOutput_12 (by decide) (fun c12 => ?_) (fun c12 => ?_)
    · refine j_iconst (v := nI 0) d_Tb_isOutput_19 (by decide +kernel) ?_
      first | exact jc_t d_Tb_isOutput_20 rfl ⟨c1, c12⟩ rfl | exact jc_f d_Tb_isOutput_20 rfl (fun q => q.2 c12) rfl | exact jc_f d_Tb_isOutput_20 rfl (fun q => q.1 c1) rfl
    · refine j_iconst (v := nI 1) d_Tb_isOutput_15 (by decide +kernel) ?_
      refine j_goto (t := 20) d_Tb_isOutput_16 (by decide) ?_
      first | exact jc_t d_Tb_isOutput_20 rfl ⟨c1, c12⟩ rfl | exact jc_f d_Tb_isOutput_20 rfl (fun q => q.2 c12) rfl | exact jc_f d_Tb_isOutput_20 rfl (fun q => q.1 c1) rfl

set_option maxHeartbeats 4000000 in
set_option maxRecDepth 100000 in
theorem t_Tb_isProper {l : Launch} {D : va_G} {B nx : Nat} {σ : Sg} {κ : Kp} {g : Nat → Option va_E} (hb : bd σ) (h8 : σ 33 0 0 ≤ 8) (x y a : Int32) : jM (G0 l D) m_Tb_isProper 3 0 0 [.ref (B + 1), .int x, .int y, .int a] (hC D B σ κ g, nx) (fun v h => v = some (.int (cI (Pp σ x y a))) ∧ h = (hC D B σ κ g, nx)) := by
  refine jM.of (by decide +kernel) (Nat.le_of_ble_eq_true rfl) rfl ?_
  have b33 := hb 33 0 0
  have h27 : (¬ inr x (4 + 2 * σ 33 0 0) ∨ x = y ∨ (¬ y = mI 0 ∧ ¬ inr y (4 + 2 * σ 33 0 0))) → ¬ Pp σ x y a := by
    rintro q ⟨f, s, b, e1, e2, e3, h1, h2, h3, h4⟩
    subst e1; subst e2; subst e3
    rcases q with q | q | ⟨q, r⟩
    · exact q (inr_nI (by omega) h1)
    · exact h3 ((nm_eq (by omega) (by omega)).mp q)
    · cases s with
      | zero => exact q rfl
      | succ s => rw [mI_succ] at r; exact r (inr_nI (by omega) (by omega))
  have h29 : ∀ {x y : Int32}, a < 0 → ¬ Pp σ x y a := by
    rintro x y q ⟨f, s, b, e1, e2, e3, h1, h2, h3, h4⟩
    subst e3
    have b4 := hb 4 0 f
    have b5 := hb 4 0 (s - 1)
    exact n0_lt (by split at h4 <;> omega) q
  have h39 : ∀ f s b : Nat, f < 4 + 2 * σ 33 0 0 → s < 4 + 2 * σ 33 0 0 → b < 2 ^ 31 → σ 4 0 f + σ 4 0 s < 2 ^ 31 → σ 4 0 f + σ 4 0 s < b → ¬ Pp σ (nI f) (nI s) (nI b) := by
    rintro f s b k1 k2 k3 k5 k4 ⟨f1, s1, b1, e1, e2, e3, h1, h2, h3, h4⟩
    have b4 := hb 4 0 f1
    have b5 := hb 4 0 (s1 - 1)
    have q1 := (nn_eq (by omega) (by omega)).mp e1
    have q2 := (nm_eq (by omega) (by omega)).mp e2
    subst q1
    subst q2
    simp only [Nat.add_eq_zero_iff, Nat.succ_ne_zero, and_false, if_false, Nat.add_sub_cancel] at h4
    have q3 := (nn_eq k3 (by have := hb 4 0 s; omega)).mp e3
    omega
  have h39N : ∀ f b : Nat, f < 4 + 2 * σ 33 0 0 → b < 2 ^ 31 → σ 4 0 f + 0 < b → ¬ Pp σ (nI f) (mI 0) (nI b) := by
    rintro f b k1 k3 k4 ⟨f1, s1, b1, e1, e2, e3, h1, h2, h3, h4⟩
    have b4 := hb 4 0 f1
    have q1 := (nn_eq (by omega) (by omega)).mp e1
    have q2 := (mm_eq (by omega) (by omega)).mp e2
    subst q1
    subst q2
    simp only [if_true] at h4
    have q3 := (nn_eq k3 (by omega)).mp e3
    omega
  first | refine j_aload_n d_Tb_isProper_0 rfl ?_ | refine j_aload_nq d_Tb_isProper_0 rfl ?_ | refine j_aload_nN d_Tb_isProper_0 rfl ?_
  refine j_iload_n d_Tb_isProper_1 rfl ?_
  refine j_callV0 (As := [_]) G0_good G0_E d_Tb_isProper_2 c_Tb_28 rfl rfl (t_Tb_isOutput hb x) (hC_t (by decide)) rfl rfl (by decide) (Nat.le_of_ble_eq_true rfl) ?_
  rintro _ _ ⟨rfl, rfl⟩
  first | refine c_if_eq (t := 26) d_Tb_isProper_5 (by decide) (fun c5 => ?_) (fun c5 => ?_) | refine n_if_eq (t := 26) d_Tb_isProper_5 (by decide) (by omega) (fun c5 => ?_) (fun c5 => ?_) | refine j_if_eq (t := 26) d_Tb_isProper_5 (by decide) (fun c5 => ?_) (fun c5 => ?_)
  · refine j_iconst (v := nI 0) d_Tb_isProper_26 (by decide +kernel) ?_
    first | exact jc_f d_Tb_isProper_27 rfl (h27 (Or.inl c5)) rfl | exact jc_f d_Tb_isProper_27 rfl (h27 (Or.inr (Or.inl c10))) rfl | exact jc_f d_Tb_isProper_27 rfl (h27 (Or.inr (Or.inr ⟨c15, c23⟩))) rfl
  · refine j_iload_n d_Tb_isProper_8 rfl ?_
    refine j_iload_n d_Tb_isProper_9 rfl ?_
    first | refine nn_icmp_eq (t := 26) d_Tb_isProper_10 (by decide) (by omega) (by omega) (fun c10 => ?_) (fun c10 => ?_) | refine mm_icmp_eq (t := 26) d_Tb_isProper_10 (by decide) (by omega) (by omega) (fun c10 => ?_) (fun c10 => ?_) | refine mn_icmp_eq (t := 26) d_Tb_isProper_10 (by decide) (by omega) (by omega) (fun c10 => ?_) (fun c10 => ?_) | refine nm_icmp_eq (t := 26) d_Tb_isProper_10 (by decide) (by omega) (by omega) (fun c10 => ?_) (fun c10 => ?_) | refine j_icmp_eq (t := 26) d_Tb_isProper_10 (by decide) (fun c10 => ?_) (fun c10 => ?_)
    · refine j_iconst (v := nI 0) d_Tb_isProper_26 (by decide +kernel) ?_
      first | exact jc_f d_Tb_isProper_27 rfl (h27 (Or.inl c5)) rfl | exact jc_f d_Tb_isProper_27 rfl (h27 (Or.inr (Or.inl c10))) rfl | exact jc_f d_Tb_isProper_27 rfl (h27 (Or.inr (Or.inr ⟨c15, c23⟩))) rfl
    · refine j_iload_n d_Tb_isProper_13 rfl ?_
      refine j_iconst (v := mI 0) d_Tb_isProper_14 (by decide +kernel) ?_
      first | refine nn_icmp_eq (t := 28) d_Tb_isProper_15 (by decide) (by omega) (by omega) (fun c15 => ?_) (fun c15 => ?_) | refine mm_icmp_eq (t := 28) d_Tb_isProper_15 (by decide) (by omega) (by omega) (fun c15 => ?_) (fun c15 => ?_) | refine mn_icmp_eq (t := 28) d_Tb_isProper_15 (by decide) (by omega) (by omega) (fun c15 => ?_) (fun c15 => ?_) | refine nm_icmp_eq (t := 28) d_Tb_isProper_15 (by decide) (by omega) (by omega) (fun c15 => ?_) (fun c15 => ?_) | refine j_icmp_eq (t := 28) d_Tb_isProper_15 (by decide) (fun c15 => ?_) (fun c15 => ?_)
      · obtain ⟨f', hf', rfl⟩ := inr_of (by omega) c5
        first | (have c15' : y = mI 0 := c15; subst c15') | obtain ⟨s', hs', rfl⟩ := inr_of (by omega) c23
        have b4f := hb 4 0 f'
        first | have b4s := hb 4 0 s' | skip
        refine j_iload_n d_Tb_isProper_28 rfl ?_
        first | refine m_if_lt (t := 46) d_Tb_isProper_29 (by decide) (by omega) (fun c29 => ?_) (fun c29 => ?_) | refine n_if_lt (t := 46) d_Tb_isProper_29 (by decide) (by omega) (fun c29 => ?_) (fun c29 => ?_) | refine j_if_lt (t := 46) d_Tb_isProper_29 (by decide) (fun c29 => ?_) (fun c29 => ?_)
        · refine j_iconst (v := nI 0) d_Tb_isProper_46 (by decide +kernel) ?_
          first | exact jc_t d_Tb_isProper_47 rfl ⟨f', s' + 1, b', rfl, (mI_succ s').symm, rfl, hf', hs', fun q => c10 (congrArg nI (Nat.succ.inj q)), c39⟩ rfl | exact jc_t d_Tb_isProper_47 rfl ⟨f', 0, b', rfl, rfl, rfl, hf', Nat.zero_le _, Nat.succ_ne_zero _, c39⟩ rfl | exact jc_f d_Tb_isProper_47 rfl (h29 c29) rfl | exact jc_f d_Tb_isProper_47 rfl (h39 f' s' b' hf' hs' hb' (by omega) c39) rfl | exact jc_f d_Tb_isProper_47 rfl (h39N f' b' hf' hb' c39) rfl
        · obtain ⟨b', hb', rfl⟩ := nI_of c29
          refine j_iload_n d_Tb_isProper_32 rfl ?_
          first | refine j_aload_n d_Tb_isProper_33 rfl ?_ | refine j_aload_nq d_Tb_isProper_33 rfl ?_ | refine j_aload_nN d_Tb_isProper_33 rfl ?_
          refine j_iload_n d_Tb_isProper_34 rfl ?_
          refine j_iload_n d_Tb_isProper_35 rfl ?_
          first | refine j_callV0 (As := [_, _]) G0_good G0_E d_Tb_isProper_36 c_Tb_32 rfl rfl (t_Tb_sum f' s' (by omega) (by omega)) (hC_t (by decide)) rfl rfl (by decide) (Nat.le_of_ble_eq_true rfl) ?_ | refine j_callV0 (As := [_, _]) G0_good G0_E d_Tb_isProper_36 c_Tb_32 rfl rfl (t_Tb_sumN f' (by omega)) (hC_t (by decide)) rfl rfl (by decide) (Nat.le_of_ble_eq_true rfl) ?_
          rintro _ _ ⟨rfl, rfl⟩
          first | refine nn_icmp_gt (t := 46) d_Tb_isProper_39 (by decide) (by omega) (by omega) (fun c39 => ?_) (fun c39 => ?_) | refine mm_icmp_gt (t := 46) d_Tb_isProper_39 (by decide) (by omega) (by omega) (fun c39 => ?_) (fun c39 => ?_) | refine mn_icmp_gt (t := 46) d_Tb_isProper_39 (by decide) (by omega) (by omega) (fun c39 => ?_) (fun c39 => ?_) | refine nm_icmp_gt (t := 46) d_Tb_isProper_39 (by decide) (by omega) (by omega) (fun c39 => ?_) (fun c39 => ?_) | refine j_icmp_gt (t := 46) d_Tb_isProper_39 (by decide) (fun c39 => ?_) (fun c39 => ?_)
          · refine j_iconst (v := nI 0) d_Tb_isProper_46 (by decide +kernel) ?_
            first | exact jc_t d_Tb_isProper_47 rfl ⟨f', s' + 1, b', rfl, (mI_succ s').symm, rfl, hf', hs', fun q => c10 (congrArg nI (Nat.succ.inj q)), c39⟩ rfl | exact jc_t d_Tb_isProper_47 rfl ⟨f', 0, b', rfl, rfl, rfl, hf', Nat.zero_le _, Nat.succ_ne_zero _, c39⟩ rfl | exact jc_f d_Tb_isProper_47 rfl (h29 c29) rfl | exact jc_f d_Tb_isProper_47 rfl (h39 f' s' b' hf' hs' hb' (by omega) c39) rfl | exact jc_f d_Tb_isProper_47 rfl (h39N f' b' hf' hb' c39) rfl
          · refine j_iconst (v := nI 1) d_Tb_isProper_42 (by decide +kernel) ?_
            refine j_goto (t := 47) d_Tb_isProper_43 (by decide) ?_
            first | exact jc_t d_Tb_isProper_47 rfl ⟨f', s' + 1, b', rfl, (mI_succ s').symm, rfl, hf', hs', fun q => c10 (congrArg nI (Nat.succ.inj q)), c39⟩ rfl | exact jc_t d_Tb_isProper_47 rfl ⟨f', 0, b', rfl, rfl, rfl, hf', Nat.zero_le _, Nat.succ_ne_zero _, c39⟩ rfl | exact jc_f d_Tb_isProper_47 rfl (h29 c29) rfl | exact jc_f d_Tb_isProper_47 rfl (h39 f' s' b' hf' hs' hb' (by omega) c39) rfl | exact jc_f d_Tb_isProper_47 rfl (h39N f' b' hf' hb' c39) rfl
      · first | refine j_aload_n d_Tb_isProper_18 rfl ?_ | refine j_aload_nq d_Tb_isProper_18 rfl ?_ | refine j_aload_nN d_Tb_isProper_18 rfl ?_
        refine j_iload_n d_Tb_isProper_19 rfl ?_
        refine j_callV0 (As := [_]) G0_good G0_E d_Tb_isProper_20 c_Tb_28 rfl rfl (t_Tb_isOutput hb y) (hC_t (by decide)) rfl rfl (by decide) (Nat.le_of_ble_eq_true rfl) ?_
        rintro _ _ ⟨rfl, rfl⟩
        first | refine c_if_ne (t := 28) d_Tb_isProper_23 (by decide) (fun c23 => ?_) (fun c23 => ?_) | refine n_if_ne (t := 28) d_Tb_isProper_23 (by decide) (by omega) (fun c23 => ?_) (fun c23 => ?_) | refine j_if_ne (t := 28) d_Tb_isProper_23 (by decide) (fun c23 => ?_) (fun c23 => ?_)
        · obtain ⟨f', hf', rfl⟩ := inr_of (by omega) c5
          first | (have c15' : y = mI 0 := c15; subst c15') | obtain ⟨s', hs', rfl⟩ := inr_of (by omega) c23
          have b4f := hb 4 0 f'
          first | have b4s := hb 4 0 s' | skip
          refine j_iload_n d_Tb_isProper_28 rfl ?_
          first | refine m_if_lt (t := 46) d_Tb_isProper_29 (by decide) (by omega) (fun c29 => ?_) (fun c29 => ?_) | refine n_if_lt (t := 46) d_Tb_isProper_29 (by decide) (by omega) (fun c29 => ?_) (fun c29 => ?_) | refine j_if_lt (t := 46) d_Tb_isProper_29 (by decide) (fun c29 => ?_) (fun c29 => ?_)
          · refine j_iconst (v := nI 0) d_Tb_isProper_46 (by decide +kernel) ?_
            first | exact jc_t d_Tb_isProper_47 rfl ⟨f', s' + 1, b', rfl, (mI_succ s').symm, rfl, hf', hs', fun q => c10 (congrArg nI (Nat.succ.inj q)), c39⟩ rfl | exact jc_t d_Tb_isProper_47 rfl ⟨f', 0, b', rfl, rfl, rfl, hf', Nat.zero_le _, Nat.succ_ne_zero _, c39⟩ rfl | exact jc_f d_Tb_isProper_47 rfl (h29 c29) rfl | exact jc_f d_Tb_isProper_47 rfl (h39 f' s' b' hf' hs' hb' (by omega) c39) rfl | exact jc_f d_Tb_isProper_47 rfl (h39N f' b' hf' hb' c39) rfl
          · obtain ⟨b', hb', rfl⟩ := nI_of c29
            refine j_iload_n d_Tb_isProper_32 rfl ?_
            first | refine j_aload_n d_Tb_isProper_33 rfl ?_ | refine j_aload_nq d_Tb_isProper_33 rfl ?_ | refine j_aload_nN d_Tb_isProper_33 rfl ?_
            refine j_iload_n d_Tb_isProper_34 rfl ?_
            refine j_iload_n d_Tb_isProper_35 rfl ?_
            first | refine j_callV0 (As := [_, _]) G0_good G0_E d_Tb_isProper_36 c_Tb_32 rfl rfl (t_Tb_sum f' s' (by omega) (by omega)) (hC_t (by decide)) rfl rfl (by decide) (Nat.le_of_ble_eq_true rfl) ?_ | refine j_callV0 (As := [_, _]) G0_good G0_E d_Tb_isProper_36 c_Tb_32 rfl rfl (t_Tb_sumN f' (by omega)) (hC_t (by decide)) rfl rfl (by decide) (Nat.le_of_ble_eq_true rfl) ?_
            rintro _ _ ⟨rfl, rfl⟩
            first | refine nn_icmp_gt (t := 46) d_Tb_isProper_39 (by decide) (by omega) (by omega) (fun c39 => ?_) (fun c39 => ?_) | refine mm_icmp_gt (t := 46) d_Tb_isProper_39 (by decide) (by omega) (by omega) (fun c39 => ?_) (fun c39 => ?_) | refine mn_icmp_gt (t := 46) d_Tb_isProper_39 (by decide) (by omega) (by omega) (fun c39 => ?_) (fun c39 => ?_) | refine nm_icmp_gt (t := 46) d_Tb_isProper_39 (by decide) (by omega) (by omega) (fun c39 => ?_) (fun c39 => ?_) | refine j_icmp_gt (t := 46) d_Tb_isProper_39 (by decide) (fun c39 => ?_) (fun c39 => ?_)
            · refine j_iconst (v := nI 0) d_Tb_isProper_46 (by decide +kernel) ?_
              first | exact jc_t d_Tb_isProper_47 rfl ⟨f', s' + 1, b', rfl, (mI_succ s').symm, rfl, hf', hs', fun q => c10 (congrArg nI (Nat.succ.inj q)), c39⟩ rfl | exact jc_t d_Tb_isProper_47 rfl ⟨f', 0, b', rfl, rfl, rfl, hf', Nat.zero_le _, Nat.succ_ne_zero _, c39⟩ rfl | exact jc_f d_Tb_isProper_47 rfl (h29 c29) rfl | exact jc_f d_Tb_isProper_47 rfl (h39 f' s' b' hf' hs' hb' (by omega) c39) rfl | exact jc_f d_Tb_isProper_47 rfl (h39N f' b' hf' hb' c39) rfl
            · refine j_iconst (v := nI 1) d_Tb_isProper_42 (by decide +kernel) ?_
              refine j_goto (t := 47) d_Tb_isProper_43 (by decide) ?_
              first | exact jc_t d_Tb_isProper_47 rfl ⟨f', s' + 1, b', rfl, (mI_succ s').symm, rfl, hf', hs', fun q => c10 (congrArg nI (Nat.succ.inj q)), c39⟩ rfl | exact jc_t d_Tb_isProper_47 rfl ⟨f', 0, b', rfl, rfl, rfl, hf', Nat.zero_le _, Nat.succ_ne_zero _, c39⟩ rfl | exact jc_f d_Tb_isProper_47 rfl (h29 c29) rfl | exact jc_f d_Tb_isProper_47 rfl (h39 f' s' b' hf' hs' hb' (by omega) c39) rfl | exact jc_f d_Tb_isProper_47 rfl (h39N f' b' hf' hb' c39) rfl
        · refine j_iconst (v := nI 0) d_Tb_isProper_26 (by decide +kernel) ?_
          first | exact jc_f d_Tb_isProper_27 rfl (h27 (Or.inl c5)) rfl | exact jc_f d_Tb_isProper_27 rfl (h27 (Or.inr (Or.inl c10))) rfl | exact jc_f d_Tb_isProper_27 rfl (h27 (Or.inr (Or.inr ⟨c15, c23⟩))) rfl
