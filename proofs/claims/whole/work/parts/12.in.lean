/-! Message, MessageLog, Inbox (g_in.py) -/
theorem tk_bit : ∀ m, m < 16 → ∀ i, i < 4 → (nI m >>> (nI i &&& 31)) &&& nI 1 = nI (m / 2 ^ i % 2) := by decide +kernel
theorem tk_one : ∀ i, i < 4 → nI 1 <<< (nI i &&& 31) = nI (2 ^ i) := by decide +kernel
def tks (m i : Nat) : Nat := m ||| 2 ^ i
theorem tk_or : ∀ m, m < 16 → ∀ i, i < 4 → nI m ||| (nI 1 <<< (nI i &&& 31)) = nI (tks m i) := by decide +kernel
theorem vu_vu {f : Nat → Option va_E} {a : Nat} {x y : va_E} : va_up (va_up f a (some x)) a (some y) = va_up f a (some y) := by
  funext q
  by_cases h : q = a <;> simp [va_up, h]
theorem vu_self {f : Nat → Option va_E} {a : Nat} {x : va_E} {nx : Nat} : ((va_up f a (some x), nx) : jH).1 a = some x := by simp [va_up]
/-- a slot of an inbox -/
def slt (k r i : Nat) : Nat := (k * 6 + r) * 4 + i
theorem slt_lt {k r i : Nat} (hk : k < 3) (hr : r < 6) (hi : i < 4) : slt k r i < 72 := by unfold slt; omega
/-- pointers and numbers go together -/
def KR (B : Nat) (σ : Sg) (κ : Kp) (nx : Nat) : Prop :=
  (∀ p j, p < 8 → j < 72 → (κ.1 p j = none ↔ σ 29 p j = 0)) ∧
  (∀ p j a, p < 8 → j < 72 → κ.1 p j = some a → κ.2.2.1 a = true ∧ B + 93 ≤ a ∧ κ.2.2.2 a 4 + 1 = σ 29 p j ∧ κ.2.2.2 a 5 = σ 30 p j) ∧
  (∀ s k, s < 2 → k < σ 20 s 0 → ∃ a, κ.2.1 s k = some a ∧ κ.2.2.1 a = true ∧ B + 93 ≤ a ∧ ∀ i, i < 7 → κ.2.2.2 a i = σ (21 + i) s k) ∧
  (∀ s k s' k' a, s < 2 → s' < 2 → k < σ 20 s 0 → k' < σ 20 s' 0 → κ.2.1 s k = some a → κ.2.1 s' k' = some a → s = s' ∧ k = k') ∧
  (B + 121 ≤ nx ∧ ∀ a, κ.2.2.1 a = true → B + 121 ≤ a ∧ a < nx) ∧
  (∀ a i, κ.2.2.1 a = true → κ.2.2.2 a i < 100000)

set_option maxHeartbeats 4000000 in
set_option maxRecDepth 100000 in
theorem t_Me_isTakenBy {l : Launch} {D : va_G} {B nx : Nat} {σ : Sg} {κ : Kp} {g : Nat → Option va_E} {a : Nat} (hm : B + 93 ≤ a) (hpr : κ.2.2.1 a = true) (i : Nat) (hi : i < 4) (h16 : κ.2.2.2 a 6 < 16) : jM (G0 l D) m_Me_isTakenBy 0 0 0 [.ref a, .int (nI i)] (hC D B σ κ g, nx) (fun v h => v = some (.int (cI (κ.2.2.2 a 6 / 2 ^ i % 2 = 1))) ∧ h = (hC D B σ κ g, nx)) := by
  refine jM.of (by decide +kernel) (Nat.le_of_ble_eq_true rfl) rfl ?_
  first | refine j_aload_n d_Me_isTakenBy_0 rfl ?_ | refine j_aload_nq d_Me_isTakenBy_0 rfl ?_ | refine j_aload_nN d_Me_isTakenBy_0 rfl ?_
  refine j_get d_Me_isTakenBy_1 f_Me_30 (hC_m hm hpr) rfl ?_
  refine j_iload_n d_Me_isTakenBy_4 rfl ?_
  refine j_ishr d_Me_isTakenBy_5 ?_
  refine j_iconst (v := nI 1) d_Me_isTakenBy_6 (by decide +kernel) ?_
  refine j_iand d_Me_isTakenBy_7 ?_
  rw [tk_bit _ h16 _ hi]
  refine j_iconst (v := nI 1) d_Me_isTakenBy_8 (by decide +kernel) ?_
  first | refine nn_icmp_ne (t := 16) d_Me_isTakenBy_9 (by decide) (by omega) (by omega) (fun c9 => ?_) (fun c9 => ?_) | refine mm_icmp_ne (t := 16) d_Me_isTakenBy_9 (by decide) (by omega) (by omega) (fun c9 => ?_) (fun c9 => ?_) | refine mn_icmp_ne (t := 16) d_Me_isTakenBy_9 (by decide) (by omega) (by omega) (fun c9 => ?_) (fun c9 => ?_) | refine nm_icmp_ne (t := 16) d_Me_isTakenBy_9 (by decide) (by omega) (by omega) (fun c9 => ?_) (fun c9 => ?_) | refine j_icmp_ne (t := 16) d_Me_isTakenBy_9 (by decide) (fun c9 => ?_) (fun c9 => ?_)
  · refine j_iconst (v := nI 0) d_Me_isTakenBy_16 (by decide +kernel) ?_
    first | exact jc_t d_Me_isTakenBy_17 rfl (by omega) rfl | exact jc_f d_Me_isTakenBy_17 rfl (by omega) rfl | exact jc_c d_Me_isTakenBy_17 rfl Iff.rfl rfl | exact j_zret d_Me_isTakenBy_17 rfl (by decide +kernel) ⟨rfl, rfl⟩
  · refine j_iconst (v := nI 1) d_Me_isTakenBy_12 (by decide +kernel) ?_
    refine j_goto (t := 17) d_Me_isTakenBy_13 (by decide) ?_
    first | exact jc_t d_Me_isTakenBy_17 rfl (by omega) rfl | exact jc_f d_Me_isTakenBy_17 rfl (by omega) rfl | exact jc_c d_Me_isTakenBy_17 rfl Iff.rfl rfl | exact j_zret d_Me_isTakenBy_17 rfl (by decide +kernel) ⟨rfl, rfl⟩

set_option maxHeartbeats 4000000 in
set_option maxRecDepth 100000 in
theorem t_Me_setTakenBy {l : Launch} {D : va_G} {B nx : Nat} {σ : Sg} {κ : Kp} {g : Nat → Option va_E} {a : Nat} (hm : B + 93 ≤ a) (hpr : κ.2.2.1 a = true) (i : Nat) (hi : i < 4) (h16 : κ.2.2.2 a 6 < 16) : jM (G0 l D) m_Me_setTakenBy 0 0 0 [.ref a, .int (nI i)] (hC D B σ κ g, nx) (fun v h => v = none ∧ h = (hC D B (σ) (Kmf κ a 6 (tks (κ.2.2.2 a 6) i)) g, nx)) := by
  refine jM.of (by decide +kernel) (Nat.le_of_ble_eq_true rfl) rfl ?_
  first | refine j_aload_n d_Me_setTakenBy_0 rfl ?_ | refine j_aload_nq d_Me_setTakenBy_0 rfl ?_ | refine j_aload_nN d_Me_setTakenBy_0 rfl ?_
  refine j_dup d_Me_setTakenBy_1 rfl ?_
  refine j_get d_Me_setTakenBy_2 f_Me_30 (hC_m hm hpr) rfl ?_
  refine j_iconst (v := nI 1) d_Me_setTakenBy_5 (by decide +kernel) ?_
  refine j_iload_n d_Me_setTakenBy_6 rfl ?_
  refine j_ishl d_Me_setTakenBy_7 ?_
  refine j_ior d_Me_setTakenBy_8 ?_
  rw [tk_or _ h16 _ hi]
  refine j_put d_Me_setTakenBy_9 p_Me_30 (hC_m hm hpr) rfl (by first | rfl | decide +kernel) (Nat.le_of_ble_eq_true rfl) (J.hq (hC_wmf hm hpr) ?_)
  exact j_vret d_Me_setTakenBy_12 rfl ⟨rfl, rfl⟩

set_option maxHeartbeats 4000000 in
set_option maxRecDepth 100000 in
theorem t_Me_tell0 {l : Launch} {D : va_G} {B nx : Nat} {σ : Sg} {κ : Kp} {g : Nat → Option va_E} {a : Nat} (hm : B + 93 ≤ a) (hpr : κ.2.2.1 a = true) : jM (G0 l D) m_Me_tell 0 0 0 [.ref a, .int (nI 0)] (hC D B σ κ g, nx) (fun v h => v = some (.int (nI (κ.2.2.2 a 0))) ∧ h = (hC D B σ κ g, nx)) := by
  refine jM.of (by decide +kernel) (Nat.le_of_ble_eq_true rfl) rfl ?_
  refine j_iload_n d_Me_tell_0 rfl ?_
  refine j_tableIn (t := 40) (o := 39) d_Me_tell_1 (by decide +kernel) (by decide +kernel) (by decide +kernel) (by decide) ?_
  first | refine j_aload_n d_Me_tell_40 rfl ?_ | refine j_aload_nq d_Me_tell_40 rfl ?_ | refine j_aload_nN d_Me_tell_40 rfl ?_
  refine j_get d_Me_tell_41 f_Me_9 (hC_m hm hpr) rfl ?_
  exact j_iret d_Me_tell_44 rfl ⟨rfl, rfl⟩

set_option maxHeartbeats 4000000 in
set_option maxRecDepth 100000 in
theorem t_Me_tell1 {l : Launch} {D : va_G} {B nx : Nat} {σ : Sg} {κ : Kp} {g : Nat → Option va_E} {a : Nat} (hm : B + 93 ≤ a) (hpr : κ.2.2.1 a = true) : jM (G0 l D) m_Me_tell 0 0 0 [.ref a, .int (nI 1)] (hC D B σ κ g, nx) (fun v h => v = some (.int (nI (κ.2.2.2 a 1))) ∧ h = (hC D B σ κ g, nx)) := by
  refine jM.of (by decide +kernel) (Nat.le_of_ble_eq_true rfl) rfl ?_
  refine j_iload_n d_Me_tell_0 rfl ?_
  refine j_tableIn (t := 45) (o := 44) d_Me_tell_1 (by decide +kernel) (by decide +kernel) (by decide +kernel) (by decide) ?_
  first | refine j_aload_n d_Me_tell_45 rfl ?_ | refine j_aload_nq d_Me_tell_45 rfl ?_ | refine j_aload_nN d_Me_tell_45 rfl ?_
  refine j_get d_Me_tell_46 f_Me_15 (hC_m hm hpr) rfl ?_
  exact j_iret d_Me_tell_49 rfl ⟨rfl, rfl⟩

set_option maxHeartbeats 4000000 in
set_option maxRecDepth 100000 in
theorem t_Me_tell2 {l : Launch} {D : va_G} {B nx : Nat} {σ : Sg} {κ : Kp} {g : Nat → Option va_E} {a : Nat} (hm : B + 93 ≤ a) (hpr : κ.2.2.1 a = true) : jM (G0 l D) m_Me_tell 0 0 0 [.ref a, .int (nI 2)] (hC D B σ κ g, nx) (fun v h => v = some (.int (nI (κ.2.2.2 a 2))) ∧ h = (hC D B σ κ g, nx)) := by
  refine jM.of (by decide +kernel) (Nat.le_of_ble_eq_true rfl) rfl ?_
  refine j_iload_n d_Me_tell_0 rfl ?_
  refine j_tableIn (t := 50) (o := 49) d_Me_tell_1 (by decide +kernel) (by decide +kernel) (by decide +kernel) (by decide) ?_
  first | refine j_aload_n d_Me_tell_50 rfl ?_ | refine j_aload_nq d_Me_tell_50 rfl ?_ | refine j_aload_nN d_Me_tell_50 rfl ?_
  refine j_get d_Me_tell_51 f_Me_18 (hC_m hm hpr) rfl ?_
  exact j_iret d_Me_tell_54 rfl ⟨rfl, rfl⟩

set_option maxHeartbeats 4000000 in
set_option maxRecDepth 100000 in
theorem t_Me_tell3 {l : Launch} {D : va_G} {B nx : Nat} {σ : Sg} {κ : Kp} {g : Nat → Option va_E} {a : Nat} (hm : B + 93 ≤ a) (hpr : κ.2.2.1 a = true) : jM (G0 l D) m_Me_tell 0 0 0 [.ref a, .int (nI 3)] (hC D B σ κ g, nx) (fun v h => v = some (.int (nI (κ.2.2.2 a 3))) ∧ h = (hC D B σ κ g, nx)) := by
  refine jM.of (by decide +kernel) (Nat.le_of_ble_eq_true rfl) rfl ?_
  refine j_iload_n d_Me_tell_0 rfl ?_
  refine j_tableIn (t := 55) (o := 54) d_Me_tell_1 (by decide +kernel) (by decide +kernel) (by decide +kernel) (by decide) ?_
  first | refine j_aload_n d_Me_tell_55 rfl ?_ | refine j_aload_nq d_Me_tell_55 rfl ?_ | refine j_aload_nN d_Me_tell_55 rfl ?_
  refine j_get d_Me_tell_56 f_Me_21 (hC_m hm hpr) rfl ?_
  exact j_iret d_Me_tell_59 rfl ⟨rfl, rfl⟩

set_option maxHeartbeats 4000000 in
set_option maxRecDepth 100000 in
theorem t_Me_tell4 {l : Launch} {D : va_G} {B nx : Nat} {σ : Sg} {κ : Kp} {g : Nat → Option va_E} {a : Nat} (hm : B + 93 ≤ a) (hpr : κ.2.2.1 a = true) : jM (G0 l D) m_Me_tell 0 0 0 [.ref a, .int (nI 4)] (hC D B σ κ g, nx) (fun v h => v = some (.int (mI (κ.2.2.2 a 4))) ∧ h = (hC D B σ κ g, nx)) := by
  refine jM.of (by decide +kernel) (Nat.le_of_ble_eq_true rfl) rfl ?_
  refine j_iload_n d_Me_tell_0 rfl ?_
  refine j_tableIn (t := 60) (o := 59) d_Me_tell_1 (by decide +kernel) (by decide +kernel) (by decide +kernel) (by decide) ?_
  first | refine j_aload_n d_Me_tell_60 rfl ?_ | refine j_aload_nq d_Me_tell_60 rfl ?_ | refine j_aload_nN d_Me_tell_60 rfl ?_
  refine j_get d_Me_tell_61 f_Me_24 (hC_m hm hpr) rfl ?_
  exact j_iret d_Me_tell_64 rfl ⟨rfl, rfl⟩

set_option maxHeartbeats 4000000 in
set_option maxRecDepth 100000 in
theorem t_Me_tell5 {l : Launch} {D : va_G} {B nx : Nat} {σ : Sg} {κ : Kp} {g : Nat → Option va_E} {a : Nat} (hm : B + 93 ≤ a) (hpr : κ.2.2.1 a = true) : jM (G0 l D) m_Me_tell 0 0 0 [.ref a, .int (nI 5)] (hC D B σ κ g, nx) (fun v h => v = some (.int (mI (κ.2.2.2 a 5))) ∧ h = (hC D B σ κ g, nx)) := by
  refine jM.of (by decide +kernel) (Nat.le_of_ble_eq_true rfl) rfl ?_
  refine j_iload_n d_Me_tell_0 rfl ?_
  refine j_tableIn (t := 65) (o := 64) d_Me_tell_1 (by decide +kernel) (by decide +kernel) (by decide +kernel) (by decide) ?_
  first | refine j_aload_n d_Me_tell_65 rfl ?_ | refine j_aload_nq d_Me_tell_65 rfl ?_ | refine j_aload_nN d_Me_tell_65 rfl ?_
  refine j_get d_Me_tell_66 f_Me_27 (hC_m hm hpr) rfl ?_
  exact j_iret d_Me_tell_69 rfl ⟨rfl, rfl⟩

set_option maxHeartbeats 4000000 in
set_option maxRecDepth 100000 in
theorem t_Me_tellO {l : Launch} {D : va_G} {B nx : Nat} {σ : Sg} {κ : Kp} {g : Nat → Option va_E} {a : Nat} (x : Int32) (hout : x.toInt < 0 ∨ 5 < x.toInt) : jM (G0 l D) m_Me_tell 0 0 0 [.ref a, .int x] (hC D B σ κ g, nx) (fun v h => v = some (.int (-2)) ∧ h = (hC D B σ κ g, nx)) := by
  refine jM.of (by decide +kernel) (Nat.le_of_ble_eq_true rfl) rfl ?_
  refine j_iload_n d_Me_tell_0 rfl ?_
  refine j_tableOut (t := 70) d_Me_tell_1 hout (by decide) ?_
  refine j_bipush (v := (-2)) d_Me_tell_70 (by decide +kernel) ?_
  exact j_iret d_Me_tell_72 rfl ⟨rfl, rfl⟩

set_option maxHeartbeats 4000000 in
set_option maxRecDepth 100000 in
theorem t_Me_init {l : Launch} {D : va_G} {H : Nat → Option va_E} {nx a : Nat} {v0 v1 v2 v3 v4 v5 v6 : Value} (hr : H a = some (.inr (3, [v0, v1, v2, v3, v4, v5, v6]))) (k i h r q c : Nat) (hi : i < 4) : jM (G0 l D) m_Me_init 1 0 0 [.ref a, .int (nI k), .int (nI i), .int (nI h), .int (nI r), .int (mI q), .int (mI c)] (H, nx) (fun v h' => v = none ∧ h' = (va_up H a (some (.inr (3, [.int (nI k), .int (nI i), .int (nI h), .int (nI r), .int (mI q), .int (mI c), .int (nI (2 ^ i))]))), nx)) := by
  refine jM.of (by decide +kernel) (Nat.le_of_ble_eq_true rfl) rfl ?_
  first | refine j_aload_n d_Me_init_0 rfl ?_ | refine j_aload_nq d_Me_init_0 rfl ?_ | refine j_aload_nN d_Me_init_0 rfl ?_
  refine j_objInit d_Me_init_1 o_Me_3 o_i o_c (by decide) ?_
  first | refine j_aload_n d_Me_init_4 rfl ?_ | refine j_aload_nq d_Me_init_4 rfl ?_ | refine j_aload_nN d_Me_init_4 rfl ?_
  refine j_iload_n d_Me_init_5 rfl ?_
  refine j_putF d_Me_init_6 p_Me_9 rfl hr rfl (by first | rfl | decide +kernel) (Nat.le_of_ble_eq_true rfl) (J.hq rfl ?_)
  first | refine j_aload_n d_Me_init_9 rfl ?_ | refine j_aload_nq d_Me_init_9 rfl ?_ | refine j_aload_nN d_Me_init_9 rfl ?_
  refine j_iload_n d_Me_init_10 rfl ?_
  refine j_putF d_Me_init_11 p_Me_15 rfl vu_self rfl (by first | rfl | decide +kernel) (Nat.le_of_ble_eq_true rfl) (J.hq vu_vu ?_)
  first | refine j_aload_n d_Me_init_14 rfl ?_ | refine j_aload_nq d_Me_init_14 rfl ?_ | refine j_aload_nN d_Me_init_14 rfl ?_
  refine j_iload_n d_Me_init_15 rfl ?_
  refine j_putF d_Me_init_16 p_Me_18 rfl vu_self rfl (by first | rfl | decide +kernel) (Nat.le_of_ble_eq_true rfl) (J.hq vu_vu ?_)
  first | refine j_aload_n d_Me_init_19 rfl ?_ | refine j_aload_nq d_Me_init_19 rfl ?_ | refine j_aload_nN d_Me_init_19 rfl ?_
  refine j_iload d_Me_init_20 rfl ?_
  refine j_putF d_Me_init_22 p_Me_21 rfl vu_self rfl (by first | rfl | decide +kernel) (Nat.le_of_ble_eq_true rfl) (J.hq vu_vu ?_)
  first | refine j_aload_n d_Me_init_25 rfl ?_ | refine j_aload_nq d_Me_init_25 rfl ?_ | refine j_aload_nN d_Me_init_25 rfl ?_
  refine j_iload d_Me_init_26 rfl ?_
  refine j_putF d_Me_init_28 p_Me_24 rfl vu_self rfl (by first | rfl | decide +kernel) (Nat.le_of_ble_eq_true rfl) (J.hq vu_vu ?_)
  first | refine j_aload_n d_Me_init_31 rfl ?_ | refine j_aload_nq d_Me_init_31 rfl ?_ | refine j_aload_nN d_Me_init_31 rfl ?_
  refine j_iload d_Me_init_32 rfl ?_
  refine j_putF d_Me_init_34 p_Me_27 rfl vu_self rfl (by first | rfl | decide +kernel) (Nat.le_of_ble_eq_true rfl) (J.hq vu_vu ?_)
  first | refine j_aload_n d_Me_init_37 rfl ?_ | refine j_aload_nq d_Me_init_37 rfl ?_ | refine j_aload_nN d_Me_init_37 rfl ?_
  refine j_iconst (v := nI 1) d_Me_init_38 (by decide +kernel) ?_
  refine j_iload_n d_Me_init_39 rfl ?_
  refine j_ishl d_Me_init_40 ?_
  rw [tk_one _ hi]
  refine j_put d_Me_init_41 p_Me_30 vu_self rfl (by first | rfl | decide +kernel) (Nat.le_of_ble_eq_true rfl) (J.hq vu_vu ?_)
  exact j_vret d_Me_init_44 rfl ⟨rfl, rfl⟩

set_option maxHeartbeats 4000000 in
set_option maxRecDepth 100000 in
theorem t_Lo_count {l : Launch} {D : va_G} {B nx : Nat} {σ : Sg} {κ : Kp} {g : Nat → Option va_E} {s : Nat} (hs : s < 2) : jM (G0 l D) m_Lo_count 0 0 0 [.ref (aS B s + 1)] (hC D B σ κ g, nx) (fun v h => v = some (.int (nI (σ 20 s 0))) ∧ h = (hC D B σ κ g, nx)) := by
  refine jM.of (by decide +kernel) (Nat.le_of_ble_eq_true rfl) rfl ?_
  first | refine j_aload_n d_Lo_count_0 rfl ?_ | refine j_aload_nq d_Lo_count_0 rfl ?_ | refine j_aload_nN d_Lo_count_0 rfl ?_
  refine j_get d_Lo_count_1 f_Lo_17 (hC_s hs (by decide)) rfl ?_
  exact j_iret d_Lo_count_4 rfl ⟨rfl, rfl⟩

set_option maxHeartbeats 4000000 in
set_option maxRecDepth 100000 in
theorem t_Lo_add {l : Launch} {D : va_G} {B nx : Nat} {σ : Sg} {κ : Kp} {g : Nat → Option va_E} {s : Nat} (hs : s < 2) (hb : bd σ) (h918 : σ 20 s 0 < 918) {a : Nat} (hm : B + 93 ≤ a) (hpr : κ.2.2.1 a = true) : jM (G0 l D) m_Lo_add 0 0 0 [.ref (aS B s + 1), .ref a] (hC D B σ κ g, nx) (fun v h => v = none ∧ h = (hC D B (U σ 20 s 0 (σ 20 s 0 + 1)) (Klg κ s (σ 20 s 0) (some a)) g, nx)) := by
  refine jM.of (by decide +kernel) (Nat.le_of_ble_eq_true rfl) rfl ?_
  have b20 := hb 20 s 0
  first | refine j_aload_n d_Lo_add_0 rfl ?_ | refine j_aload_nq d_Lo_add_0 rfl ?_ | refine j_aload_nN d_Lo_add_0 rfl ?_
  refine j_get d_Lo_add_1 f_Lo_17 (hC_s hs (by decide)) rfl ?_
  refine j_sipush (v := nI 918) d_Lo_add_4 (by decide +kernel) ?_
  first | refine nn_icmp_ge (t := 30) d_Lo_add_7 (by decide) (by omega) (by omega) (fun c7 => ?_) (fun c7 => ?_) | refine mm_icmp_ge (t := 30) d_Lo_add_7 (by decide) (by omega) (by omega) (fun c7 => ?_) (fun c7 => ?_) | refine mn_icmp_ge (t := 30) d_Lo_add_7 (by decide) (by omega) (by omega) (fun c7 => ?_) (fun c7 => ?_) | refine nm_icmp_ge (t := 30) d_Lo_add_7 (by decide) (by omega) (by omega) (fun c7 => ?_) (fun c7 => ?_) | refine j_icmp_ge (t := 30) d_Lo_add_7 (by decide) (fun c7 => ?_) (fun c7 => ?_)
  · exfalso; first | exact c7 | omega
  · first | refine j_aload_n d_Lo_add_10 rfl ?_ | refine j_aload_nq d_Lo_add_10 rfl ?_ | refine j_aload_nN d_Lo_add_10 rfl ?_
    refine j_get d_Lo_add_11 f_Lo_11 (hC_s hs (by decide)) rfl ?_
    first | refine j_aload_n d_Lo_add_14 rfl ?_ | refine j_aload_nq d_Lo_add_14 rfl ?_ | refine j_aload_nN d_Lo_add_14 rfl ?_
    refine j_get d_Lo_add_15 f_Lo_17 (hC_s hs (by decide)) rfl ?_
    first | refine j_aload_n d_Lo_add_18 rfl ?_ | refine j_aload_nq d_Lo_add_18 rfl ?_ | refine j_aload_nN d_Lo_add_18 rfl ?_
    refine j_aast (t := 3) (ci := 3) d_Lo_add_19 rfl (hC_s hs (by decide)) (hC_m hm hpr) rfl rfl h918 (by decide) (J.hq (hC_wlg hs) ?_)
    first | refine j_aload_n d_Lo_add_20 rfl ?_ | refine j_aload_nq d_Lo_add_20 rfl ?_ | refine j_aload_nN d_Lo_add_20 rfl ?_
    refine j_dup d_Lo_add_21 rfl ?_
    refine j_get d_Lo_add_22 f_Lo_17 (hC_s hs (by decide)) rfl ?_
    refine j_iconst (v := nI 1) d_Lo_add_25 (by decide +kernel) ?_
    refine jn_iadd d_Lo_add_26 ?_
    refine j_put d_Lo_add_27 p_Lo_17 (hC_s hs (by decide)) rfl (by first | rfl | decide +kernel) (Nat.le_of_ble_eq_true rfl) (J.hq (w20 hs) ?_)
    exact j_vret d_Lo_add_30 rfl ⟨rfl, rfl⟩

set_option maxHeartbeats 4000000 in
set_option maxRecDepth 100000 in
theorem t_Lo_messageAt {l : Launch} {D : va_G} {B nx : Nat} {σ : Sg} {κ : Kp} {g : Nat → Option va_E} {s : Nat} (hs : s < 2) (hb : bd σ) (h918 : σ 20 s 0 ≤ 918) (k : Nat) (hk : k < 2 ^ 31) : jM (G0 l D) m_Lo_messageAt 0 0 0 [.ref (aS B s + 1), .int (nI k)] (hC D B σ κ g, nx) (fun v h => v = some (va_rf (if k < σ 20 s 0 then κ.2.1 s k else none)) ∧ h = (hC D B σ κ g, nx)) := by
  refine jM.of (by decide +kernel) (Nat.le_of_ble_eq_true rfl) rfl ?_
  have b20 := hb 20 s 0
  refine j_iload_n d_Lo_messageAt_0 rfl ?_
  first | refine m_if_lt (t := 21) d_Lo_messageAt_1 (by decide) (by omega) (fun c1 => ?_) (fun c1 => ?_) | refine n_if_lt (t := 21) d_Lo_messageAt_1 (by decide) (by omega) (fun c1 => ?_) (fun c1 => ?_) | refine j_if_lt (t := 21) d_Lo_messageAt_1 (by decide) (fun c1 => ?_) (fun c1 => ?_)
  · exfalso; first | exact c1 | omega
  · refine j_iload_n d_Lo_messageAt_4 rfl ?_
    first | refine j_aload_n d_Lo_messageAt_5 rfl ?_ | refine j_aload_nq d_Lo_messageAt_5 rfl ?_ | refine j_aload_nN d_Lo_messageAt_5 rfl ?_
    refine j_get d_Lo_messageAt_6 f_Lo_17 (hC_s hs (by decide)) rfl ?_
    first | refine nn_icmp_ge (t := 21) d_Lo_messageAt_9 (by decide) (by omega) (by omega) (fun c9 => ?_) (fun c9 => ?_) | refine mm_icmp_ge (t := 21) d_Lo_messageAt_9 (by decide) (by omega) (by omega) (fun c9 => ?_) (fun c9 => ?_) | refine mn_icmp_ge (t := 21) d_Lo_messageAt_9 (by decide) (by omega) (by omega) (fun c9 => ?_) (fun c9 => ?_) | refine nm_icmp_ge (t := 21) d_Lo_messageAt_9 (by decide) (by omega) (by omega) (fun c9 => ?_) (fun c9 => ?_) | refine j_icmp_ge (t := 21) d_Lo_messageAt_9 (by decide) (fun c9 => ?_) (fun c9 => ?_)
    · refine j_null d_Lo_messageAt_21 ?_
      first | exact j_aret d_Lo_messageAt_22 rfl ⟨by rw [if_pos (by omega)], rfl⟩ | exact j_aret (r := none) d_Lo_messageAt_22 rfl ⟨by rw [if_neg (by omega)], rfl⟩
    · first | refine j_aload_n d_Lo_messageAt_12 rfl ?_ | refine j_aload_nq d_Lo_messageAt_12 rfl ?_ | refine j_aload_nN d_Lo_messageAt_12 rfl ?_
      refine j_get d_Lo_messageAt_13 f_Lo_11 (hC_s hs (by decide)) rfl ?_
      refine j_iload_n d_Lo_messageAt_16 rfl ?_
      refine j_aald (t := 3) d_Lo_messageAt_17 rfl (hC_s hs (by decide)) rfl (by omega) (by decide) ?_
      refine j_goto (t := 22) d_Lo_messageAt_18 (by decide) ?_
      first | exact j_aret d_Lo_messageAt_22 rfl ⟨by rw [if_pos (by omega)], rfl⟩ | exact j_aret (r := none) d_Lo_messageAt_22 rfl ⟨by rw [if_neg (by omega)], rfl⟩

set_option maxHeartbeats 4000000 in
set_option maxRecDepth 100000 in
theorem t_Lo_messageAtN {l : Launch} {D : va_G} {B nx : Nat} {σ : Sg} {κ : Kp} {g : Nat → Option va_E} {s : Nat} (hs : s < 2) (k : Int32) (hk : k < 0) : jM (G0 l D) m_Lo_messageAt 0 0 0 [.ref (aS B s + 1), .int k] (hC D B σ κ g, nx) (fun v h => v = some (va_rf none) ∧ h = (hC D B σ κ g, nx)) := by
  refine jM.of (by decide +kernel) (Nat.le_of_ble_eq_true rfl) rfl ?_
  refine j_iload_n d_Lo_messageAt_0 rfl ?_
  first | refine m_if_lt (t := 21) d_Lo_messageAt_1 (by decide) (by omega) (fun c1 => ?_) (fun c1 => ?_) | refine n_if_lt (t := 21) d_Lo_messageAt_1 (by decide) (by omega) (fun c1 => ?_) (fun c1 => ?_) | refine j_if_lt (t := 21) d_Lo_messageAt_1 (by decide) (fun c1 => ?_) (fun c1 => ?_)
  · refine j_null d_Lo_messageAt_21 ?_
    first | exact j_aret d_Lo_messageAt_22 rfl ⟨rfl, rfl⟩ | exact j_aret (r := none) d_Lo_messageAt_22 rfl ⟨rfl, rfl⟩
  · exact absurd hk c1

set_option maxHeartbeats 4000000 in
set_option maxRecDepth 100000 in
theorem t_In_slot {l : Launch} {D : va_G} {B nx : Nat} {σ : Sg} {κ : Kp} {g : Nat → Option va_E} (k r i : Nat) : jM (G0 l D) m_In_slot 0 0 0 [.int (nI k), .int (nI r), .int (nI i)] (hC D B σ κ g, nx) (fun v h => v = some (.int (nI (slt k r i))) ∧ h = (hC D B σ κ g, nx)) := by
  refine jM.of (by decide +kernel) (Nat.le_of_ble_eq_true rfl) rfl ?_
  refine j_iload_n d_In_slot_0 rfl ?_
  refine j_bipush (v := nI 6) d_In_slot_1 (by decide +kernel) ?_
  refine jn_imul d_In_slot_3 ?_
  refine j_iload_n d_In_slot_4 rfl ?_
  refine jn_iadd d_In_slot_5 ?_
  refine j_iconst (v := nI 4) d_In_slot_6 (by decide +kernel) ?_
  refine jn_imul d_In_slot_7 ?_
  refine j_iload_n d_In_slot_8 rfl ?_
  refine jn_iadd d_In_slot_9 ?_
  exact j_iret d_In_slot_10 rfl ⟨rfl, rfl⟩

set_option maxHeartbeats 4000000 in
set_option maxRecDepth 100000 in
theorem t_In_find {l : Launch} {D : va_G} {B nx : Nat} {σ : Sg} {κ : Kp} {g : Nat → Option va_E} {p : Nat} (hp : p < 8) (k r i : Nat) (hk : k < 3) (hr : r < 6) (hi : i < 4) : jM (G0 l D) m_In_find 1 0 0 [.ref (aP B p + 4), .int (nI k), .int (nI r), .int (nI i)] (hC D B σ κ g, nx) (fun v h => v = some (va_rf (κ.1 p (slt k r i))) ∧ h = (hC D B σ κ g, nx)) := by
  refine jM.of (by decide +kernel) (Nat.le_of_ble_eq_true rfl) rfl ?_
  have hj := slt_lt hk hr hi
  refine j_iload_n d_In_find_0 rfl ?_
  refine j_iload_n d_In_find_1 rfl ?_
  refine j_iload_n d_In_find_2 rfl ?_
  refine j_callS0 (As := [_, _, _]) G0_good G0_E d_In_find_3 c_In_27 rfl rfl rfl (t_In_slot k r i) (by decide) (Nat.le_of_ble_eq_true rfl) ?_
  rintro _ _ ⟨rfl, rfl⟩
  refine j_istore d_In_find_6 (by decide) rfl rfl ?_
  refine j_iload d_In_find_8 rfl ?_
  first | refine m_if_lt (t := 33) d_In_find_10 (by decide) (by omega) (fun c10 => ?_) (fun c10 => ?_) | refine n_if_lt (t := 33) d_In_find_10 (by decide) (by omega) (fun c10 => ?_) (fun c10 => ?_) | refine j_if_lt (t := 33) d_In_find_10 (by decide) (fun c10 => ?_) (fun c10 => ?_)
  · exfalso; first | exact c10 | omega
  · refine j_iload d_In_find_13 rfl ?_
    first | refine j_aload_n d_In_find_15 rfl ?_ | refine j_aload_nq d_In_find_15 rfl ?_ | refine j_aload_nN d_In_find_15 rfl ?_
    refine j_get d_In_find_16 f_In_11 (hC_p hp (by decide)) rfl ?_
    refine j_alen (t := 3) (v := nI 72) d_In_find_19 rfl (hC_p hp (by decide)) rfl ?_
    first | refine nn_icmp_ge (t := 33) d_In_find_20 (by decide) (by omega) (by omega) (fun c20 => ?_) (fun c20 => ?_) | refine mm_icmp_ge (t := 33) d_In_find_20 (by decide) (by omega) (by omega) (fun c20 => ?_) (fun c20 => ?_) | refine mn_icmp_ge (t := 33) d_In_find_20 (by decide) (by omega) (by omega) (fun c20 => ?_) (fun c20 => ?_) | refine nm_icmp_ge (t := 33) d_In_find_20 (by decide) (by omega) (by omega) (fun c20 => ?_) (fun c20 => ?_) | refine j_icmp_ge (t := 33) d_In_find_20 (by decide) (fun c20 => ?_) (fun c20 => ?_)
    · exfalso; first | exact c20 | omega
    · first | refine j_aload_n d_In_find_23 rfl ?_ | refine j_aload_nq d_In_find_23 rfl ?_ | refine j_aload_nN d_In_find_23 rfl ?_
      refine j_get d_In_find_24 f_In_11 (hC_p hp (by decide)) rfl ?_
      refine j_iload d_In_find_27 rfl ?_
      refine j_aald (t := 3) d_In_find_29 rfl (hC_p hp (by decide)) rfl (by omega) (by decide) ?_
      refine j_goto (t := 34) d_In_find_30 (by decide) ?_
      first | exact j_aret d_In_find_34 rfl ⟨rfl, rfl⟩ | exact j_aret (r := none) d_In_find_34 rfl ⟨rfl, rfl⟩

set_option maxHeartbeats 4000000 in
set_option maxRecDepth 100000 in
theorem t_In_put {l : Launch} {D : va_G} {B nx : Nat} {σ : Sg} {κ : Kp} {g : Nat → Option va_E} {p : Nat} (hp : p < 8) {a : Nat} (hm : B + 93 ≤ a) (hpr : κ.2.2.1 a = true) (hk : κ.2.2.2 a 0 < 3) (hr : κ.2.2.2 a 3 < 6) (hi : κ.2.2.2 a 1 < 4) : jM (G0 l D) m_In_put 1 0 0 [.ref (aP B p + 4), .ref a] (hC D B σ κ g, nx) (fun v h => v = none ∧ h = (hC D B (σ) (Kib κ p (slt (κ.2.2.2 a 0) (κ.2.2.2 a 3) (κ.2.2.2 a 1)) (some a)) g, nx)) := by
  refine jM.of (by decide +kernel) (Nat.le_of_ble_eq_true rfl) rfl ?_
  have hj := slt_lt hk hr hi
  first | refine j_aload_n d_In_put_0 rfl ?_ | refine j_aload_nq d_In_put_0 rfl ?_ | refine j_aload_nN d_In_put_0 rfl ?_
  refine j_get d_In_put_1 f_In_17 (hC_m hm hpr) rfl ?_
  first | refine j_aload_n d_In_put_4 rfl ?_ | refine j_aload_nq d_In_put_4 rfl ?_ | refine j_aload_nN d_In_put_4 rfl ?_
  refine j_get d_In_put_5 f_In_21 (hC_m hm hpr) rfl ?_
  first | refine j_aload_n d_In_put_8 rfl ?_ | refine j_aload_nq d_In_put_8 rfl ?_ | refine j_aload_nN d_In_put_8 rfl ?_
  refine j_get d_In_put_9 f_In_24 (hC_m hm hpr) rfl ?_
  refine j_callS0 (As := [_, _, _]) G0_good G0_E d_In_put_12 c_In_27 rfl rfl rfl (t_In_slot _ _ _) (by decide) (Nat.le_of_ble_eq_true rfl) ?_
  rintro _ _ ⟨rfl, rfl⟩
  refine j_istore_n d_In_put_15 (by decide) rfl rfl ?_
  refine j_iload_n d_In_put_16 rfl ?_
  first | refine m_if_lt (t := 36) d_In_put_17 (by decide) (by omega) (fun c17 => ?_) (fun c17 => ?_) | refine n_if_lt (t := 36) d_In_put_17 (by decide) (by omega) (fun c17 => ?_) (fun c17 => ?_) | refine j_if_lt (t := 36) d_In_put_17 (by decide) (fun c17 => ?_) (fun c17 => ?_)
  · exfalso; first | exact c17 | omega
  · refine j_iload_n d_In_put_20 rfl ?_
    first | refine j_aload_n d_In_put_21 rfl ?_ | refine j_aload_nq d_In_put_21 rfl ?_ | refine j_aload_nN d_In_put_21 rfl ?_
    refine j_get d_In_put_22 f_In_11 (hC_p hp (by decide)) rfl ?_
    refine j_alen (t := 3) (v := nI 72) d_In_put_25 rfl (hC_p hp (by decide)) rfl ?_
    first | refine nn_icmp_ge (t := 36) d_In_put_26 (by decide) (by omega) (by omega) (fun c26 => ?_) (fun c26 => ?_) | refine mm_icmp_ge (t := 36) d_In_put_26 (by decide) (by omega) (by omega) (fun c26 => ?_) (fun c26 => ?_) | refine mn_icmp_ge (t := 36) d_In_put_26 (by decide) (by omega) (by omega) (fun c26 => ?_) (fun c26 => ?_) | refine nm_icmp_ge (t := 36) d_In_put_26 (by decide) (by omega) (by omega) (fun c26 => ?_) (fun c26 => ?_) | refine j_icmp_ge (t := 36) d_In_put_26 (by decide) (fun c26 => ?_) (fun c26 => ?_)
    · exfalso; first | exact c26 | omega
    · first | refine j_aload_n d_In_put_29 rfl ?_ | refine j_aload_nq d_In_put_29 rfl ?_ | refine j_aload_nN d_In_put_29 rfl ?_
      refine j_get d_In_put_30 f_In_11 (hC_p hp (by decide)) rfl ?_
      refine j_iload_n d_In_put_33 rfl ?_
      first | refine j_aload_n d_In_put_34 rfl ?_ | refine j_aload_nq d_In_put_34 rfl ?_ | refine j_aload_nN d_In_put_34 rfl ?_
      refine j_aast (t := 3) (ci := 3) d_In_put_35 rfl (hC_p hp (by decide)) (hC_m hm hpr) rfl rfl (by omega) (by decide) (J.hq (hC_wib hp) ?_)
      exact j_vret d_In_put_36 rfl ⟨rfl, rfl⟩
