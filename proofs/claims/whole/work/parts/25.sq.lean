/-! ShardLedger: its questions, case by case (g_sq.py) -/

set_option maxHeartbeats 4000000 in
set_option maxRecDepth 100000 in
theorem t_Sl_replica_O1 {l : Launch} {D : va_G} {B nx : Nat} {σ : Sg} {κ : Kp} {g : Nat → Option va_E} (x y : Int32) (hx : ¬ inr x 2) (w : Int32) : jM (G0 l D) m_Sl_replica 2 0 0 [.ref (B + 0), .int x, .int y, .int w] (hC D B σ κ g, nx) (fun v h => v = some (.int (-2)) ∧ h = (hC D B σ κ g, nx)) := by
  refine jM.of (by decide +kernel) (Nat.le_of_ble_eq_true rfl) rfl ?_
  first | refine j_aload_n d_Sl_replica_0 rfl ?_ | refine j_aload_nq d_Sl_replica_0 rfl ?_ | refine j_aload_nN d_Sl_replica_0 rfl ?_
  refine j_iload_n d_Sl_replica_1 rfl ?_
  refine j_iload_n d_Sl_replica_2 rfl ?_
  refine j_callV0 (As := [_, _]) G0_good G0_E d_Sl_replica_3 c_Sl_93 rfl rfl (t_Sl_replicaAtO1 x y hx) (hC_t (by decide)) rfl rfl (by decide) (Nat.le_of_ble_eq_true rfl) ?_
  rintro _ _ ⟨rfl, rfl⟩
  first | refine j_astore d_Sl_replica_6 (by decide) rfl rfl ?_ | refine j_astoreq d_Sl_replica_6 (by decide) rfl rfl ?_ | refine j_astoreN d_Sl_replica_6 (by decide) rfl rfl ?_
  first | refine j_aload d_Sl_replica_8 rfl ?_ | refine j_aloadq d_Sl_replica_8 rfl ?_ | refine j_aloadN d_Sl_replica_8 rfl ?_
  refine j_ifnonnull (r := none) (t := 18) d_Sl_replica_10 (by decide) (fun x c => by cases c) (fun c => ?_)
  refine j_bipush (v := (-2)) d_Sl_replica_13 (by decide +kernel) ?_
  refine j_goto (t := 24) d_Sl_replica_15 (by decide) ?_
  exact j_iret d_Sl_replica_24 rfl ⟨rfl, rfl⟩

set_option maxHeartbeats 4000000 in
set_option maxRecDepth 100000 in
theorem t_Sl_replica_O2 {l : Launch} {D : va_G} {B nx : Nat} {σ : Sg} {κ : Kp} {g : Nat → Option va_E} (s : Nat) (hs : s < 2) (y : Int32) (hy : ¬ inr y 4) (w : Int32) : jM (G0 l D) m_Sl_replica 2 0 0 [.ref (B + 0), .int (nI s), .int y, .int w] (hC D B σ κ g, nx) (fun v h => v = some (.int (-2)) ∧ h = (hC D B σ κ g, nx)) := by
  refine jM.of (by decide +kernel) (Nat.le_of_ble_eq_true rfl) rfl ?_
  first | refine j_aload_n d_Sl_replica_0 rfl ?_ | refine j_aload_nq d_Sl_replica_0 rfl ?_ | refine j_aload_nN d_Sl_replica_0 rfl ?_
  refine j_iload_n d_Sl_replica_1 rfl ?_
  refine j_iload_n d_Sl_replica_2 rfl ?_
  refine j_callV0 (As := [_, _]) G0_good G0_E d_Sl_replica_3 c_Sl_93 rfl rfl (t_Sl_replicaAtO2 s hs y hy) (hC_t (by decide)) rfl rfl (by decide) (Nat.le_of_ble_eq_true rfl) ?_
  rintro _ _ ⟨rfl, rfl⟩
  first | refine j_astore d_Sl_replica_6 (by decide) rfl rfl ?_ | refine j_astoreq d_Sl_replica_6 (by decide) rfl rfl ?_ | refine j_astoreN d_Sl_replica_6 (by decide) rfl rfl ?_
  first | refine j_aload d_Sl_replica_8 rfl ?_ | refine j_aloadq d_Sl_replica_8 rfl ?_ | refine j_aloadN d_Sl_replica_8 rfl ?_
  refine j_ifnonnull (r := none) (t := 18) d_Sl_replica_10 (by decide) (fun x c => by cases c) (fun c => ?_)
  refine j_bipush (v := (-2)) d_Sl_replica_13 (by decide +kernel) ?_
  refine j_goto (t := 24) d_Sl_replica_15 (by decide) ?_
  exact j_iret d_Sl_replica_24 rfl ⟨rfl, rfl⟩

set_option maxHeartbeats 4000000 in
set_option maxRecDepth 100000 in
theorem t_Sl_replica_0 {l : Launch} {D : va_G} {B nx : Nat} {σ : Sg} {κ : Kp} {g : Nat → Option va_E} (s i : Nat) (hs : s < 2) (hi : i < 4) : jM (G0 l D) m_Sl_replica 2 0 0 [.ref (B + 0), .int (nI s), .int (nI i), .int (nI 0)] (hC D B σ κ g, nx) (fun v h => v = some (.int (nI (σ 10 (4 * s + i) 0))) ∧ h = (hC D B σ κ g, nx)) := by
  refine jM.of (by decide +kernel) (Nat.le_of_ble_eq_true rfl) rfl ?_
  have hp : 4 * s + i < 8 := by omega
  first | refine j_aload_n d_Sl_replica_0 rfl ?_ | refine j_aload_nq d_Sl_replica_0 rfl ?_ | refine j_aload_nN d_Sl_replica_0 rfl ?_
  refine j_iload_n d_Sl_replica_1 rfl ?_
  refine j_iload_n d_Sl_replica_2 rfl ?_
  refine j_callV0 (As := [_, _]) G0_good G0_E d_Sl_replica_3 c_Sl_93 rfl rfl (t_Sl_replicaAt s i hs hi) (hC_t (by decide)) rfl rfl (by decide) (Nat.le_of_ble_eq_true rfl) ?_
  rintro _ _ ⟨rfl, rfl⟩
  first | refine j_astore d_Sl_replica_6 (by decide) rfl rfl ?_ | refine j_astoreq d_Sl_replica_6 (by decide) rfl rfl ?_ | refine j_astoreN d_Sl_replica_6 (by decide) rfl rfl ?_
  first | refine j_aload d_Sl_replica_8 rfl ?_ | refine j_aloadq d_Sl_replica_8 rfl ?_ | refine j_aloadN d_Sl_replica_8 rfl ?_
  refine j_ifnonnull (r := some (aP B (4 * s + i) + 3)) (t := 18) d_Sl_replica_10 (by decide) (fun x c => ?_) (fun c => by cases c)
  first | refine j_aload d_Sl_replica_18 rfl ?_ | refine j_aloadq d_Sl_replica_18 rfl ?_ | refine j_aloadN d_Sl_replica_18 rfl ?_
  refine j_iload_n d_Sl_replica_20 rfl ?_
  refine j_callV0 (As := [_]) G0_good G0_E d_Sl_replica_21 c_Sl_121 rfl rfl (t_Re_tell0 hp) (hC_p hp (by decide)) rfl rfl (by decide) (Nat.le_of_ble_eq_true rfl) ?_
  rintro _ _ ⟨rfl, rfl⟩
  exact j_iret d_Sl_replica_24 rfl ⟨rfl, rfl⟩

set_option maxHeartbeats 4000000 in
set_option maxRecDepth 100000 in
theorem t_Sl_replica_1 {l : Launch} {D : va_G} {B nx : Nat} {σ : Sg} {κ : Kp} {g : Nat → Option va_E} (s i : Nat) (hs : s < 2) (hi : i < 4) : jM (G0 l D) m_Sl_replica 2 0 0 [.ref (B + 0), .int (nI s), .int (nI i), .int (nI 1)] (hC D B σ κ g, nx) (fun v h => v = some (.int (nI (σ 11 (4 * s + i) 0))) ∧ h = (hC D B σ κ g, nx)) := by
  refine jM.of (by decide +kernel) (Nat.le_of_ble_eq_true rfl) rfl ?_
  have hp : 4 * s + i < 8 := by omega
  first | refine j_aload_n d_Sl_replica_0 rfl ?_ | refine j_aload_nq d_Sl_replica_0 rfl ?_ | refine j_aload_nN d_Sl_replica_0 rfl ?_
  refine j_iload_n d_Sl_replica_1 rfl ?_
  refine j_iload_n d_Sl_replica_2 rfl ?_
  refine j_callV0 (As := [_, _]) G0_good G0_E d_Sl_replica_3 c_Sl_93 rfl rfl (t_Sl_replicaAt s i hs hi) (hC_t (by decide)) rfl rfl (by decide) (Nat.le_of_ble_eq_true rfl) ?_
  rintro _ _ ⟨rfl, rfl⟩
  first | refine j_astore d_Sl_replica_6 (by decide) rfl rfl ?_ | refine j_astoreq d_Sl_replica_6 (by decide) rfl rfl ?_ | refine j_astoreN d_Sl_replica_6 (by decide) rfl rfl ?_
  first | refine j_aload d_Sl_replica_8 rfl ?_ | refine j_aloadq d_Sl_replica_8 rfl ?_ | refine j_aloadN d_Sl_replica_8 rfl ?_
  refine j_ifnonnull (r := some (aP B (4 * s + i) + 3)) (t := 18) d_Sl_replica_10 (by decide) (fun x c => ?_) (fun c => by cases c)
  first | refine j_aload d_Sl_replica_18 rfl ?_ | refine j_aloadq d_Sl_replica_18 rfl ?_ | refine j_aloadN d_Sl_replica_18 rfl ?_
  refine j_iload_n d_Sl_replica_20 rfl ?_
  refine j_callV0 (As := [_]) G0_good G0_E d_Sl_replica_21 c_Sl_121 rfl rfl (t_Re_tell1 hp) (hC_p hp (by decide)) rfl rfl (by decide) (Nat.le_of_ble_eq_true rfl) ?_
  rintro _ _ ⟨rfl, rfl⟩
  exact j_iret d_Sl_replica_24 rfl ⟨rfl, rfl⟩

set_option maxHeartbeats 4000000 in
set_option maxRecDepth 100000 in
theorem t_Sl_replica_2 {l : Launch} {D : va_G} {B nx : Nat} {σ : Sg} {κ : Kp} {g : Nat → Option va_E} (s i : Nat) (hs : s < 2) (hi : i < 4) : jM (G0 l D) m_Sl_replica 2 0 0 [.ref (B + 0), .int (nI s), .int (nI i), .int (nI 2)] (hC D B σ κ g, nx) (fun v h => v = some (.int (nI (σ 12 (4 * s + i) 0))) ∧ h = (hC D B σ κ g, nx)) := by
  refine jM.of (by decide +kernel) (Nat.le_of_ble_eq_true rfl) rfl ?_
  have hp : 4 * s + i < 8 := by omega
  first | refine j_aload_n d_Sl_replica_0 rfl ?_ | refine j_aload_nq d_Sl_replica_0 rfl ?_ | refine j_aload_nN d_Sl_replica_0 rfl ?_
  refine j_iload_n d_Sl_replica_1 rfl ?_
  refine j_iload_n d_Sl_replica_2 rfl ?_
  refine j_callV0 (As := [_, _]) G0_good G0_E d_Sl_replica_3 c_Sl_93 rfl rfl (t_Sl_replicaAt s i hs hi) (hC_t (by decide)) rfl rfl (by decide) (Nat.le_of_ble_eq_true rfl) ?_
  rintro _ _ ⟨rfl, rfl⟩
  first | refine j_astore d_Sl_replica_6 (by decide) rfl rfl ?_ | refine j_astoreq d_Sl_replica_6 (by decide) rfl rfl ?_ | refine j_astoreN d_Sl_replica_6 (by decide) rfl rfl ?_
  first | refine j_aload d_Sl_replica_8 rfl ?_ | refine j_aloadq d_Sl_replica_8 rfl ?_ | refine j_aloadN d_Sl_replica_8 rfl ?_
  refine j_ifnonnull (r := some (aP B (4 * s + i) + 3)) (t := 18) d_Sl_replica_10 (by decide) (fun x c => ?_) (fun c => by cases c)
  first | refine j_aload d_Sl_replica_18 rfl ?_ | refine j_aloadq d_Sl_replica_18 rfl ?_ | refine j_aloadN d_Sl_replica_18 rfl ?_
  refine j_iload_n d_Sl_replica_20 rfl ?_
  refine j_callV0 (As := [_]) G0_good G0_E d_Sl_replica_21 c_Sl_121 rfl rfl (t_Re_tell2 hp) (hC_p hp (by decide)) rfl rfl (by decide) (Nat.le_of_ble_eq_true rfl) ?_
  rintro _ _ ⟨rfl, rfl⟩
  exact j_iret d_Sl_replica_24 rfl ⟨rfl, rfl⟩

set_option maxHeartbeats 4000000 in
set_option maxRecDepth 100000 in
theorem t_Sl_replica_3 {l : Launch} {D : va_G} {B nx : Nat} {σ : Sg} {κ : Kp} {g : Nat → Option va_E} (s i : Nat) (hs : s < 2) (hi : i < 4) : jM (G0 l D) m_Sl_replica 2 0 0 [.ref (B + 0), .int (nI s), .int (nI i), .int (nI 3)] (hC D B σ κ g, nx) (fun v h => v = some (.int (mI (σ 13 (4 * s + i) 0))) ∧ h = (hC D B σ κ g, nx)) := by
  refine jM.of (by decide +kernel) (Nat.le_of_ble_eq_true rfl) rfl ?_
  have hp : 4 * s + i < 8 := by omega
  first | refine j_aload_n d_Sl_replica_0 rfl ?_ | refine j_aload_nq d_Sl_replica_0 rfl ?_ | refine j_aload_nN d_Sl_replica_0 rfl ?_
  refine j_iload_n d_Sl_replica_1 rfl ?_
  refine j_iload_n d_Sl_replica_2 rfl ?_
  refine j_callV0 (As := [_, _]) G0_good G0_E d_Sl_replica_3 c_Sl_93 rfl rfl (t_Sl_replicaAt s i hs hi) (hC_t (by decide)) rfl rfl (by decide) (Nat.le_of_ble_eq_true rfl) ?_
  rintro _ _ ⟨rfl, rfl⟩
  first | refine j_astore d_Sl_replica_6 (by decide) rfl rfl ?_ | refine j_astoreq d_Sl_replica_6 (by decide) rfl rfl ?_ | refine j_astoreN d_Sl_replica_6 (by decide) rfl rfl ?_
  first | refine j_aload d_Sl_replica_8 rfl ?_ | refine j_aloadq d_Sl_replica_8 rfl ?_ | refine j_aloadN d_Sl_replica_8 rfl ?_
  refine j_ifnonnull (r := some (aP B (4 * s + i) + 3)) (t := 18) d_Sl_replica_10 (by decide) (fun x c => ?_) (fun c => by cases c)
  first | refine j_aload d_Sl_replica_18 rfl ?_ | refine j_aloadq d_Sl_replica_18 rfl ?_ | refine j_aloadN d_Sl_replica_18 rfl ?_
  refine j_iload_n d_Sl_replica_20 rfl ?_
  refine j_callV0 (As := [_]) G0_good G0_E d_Sl_replica_21 c_Sl_121 rfl rfl (t_Re_tell3 hp) (hC_p hp (by decide)) rfl rfl (by decide) (Nat.le_of_ble_eq_true rfl) ?_
  rintro _ _ ⟨rfl, rfl⟩
  exact j_iret d_Sl_replica_24 rfl ⟨rfl, rfl⟩

set_option maxHeartbeats 4000000 in
set_option maxRecDepth 100000 in
theorem t_Sl_replica_4 {l : Launch} {D : va_G} {B nx : Nat} {σ : Sg} {κ : Kp} {g : Nat → Option va_E} (s i : Nat) (hs : s < 2) (hi : i < 4) : jM (G0 l D) m_Sl_replica 2 0 0 [.ref (B + 0), .int (nI s), .int (nI i), .int (nI 4)] (hC D B σ κ g, nx) (fun v h => v = some (.int (mI (σ 14 (4 * s + i) 0))) ∧ h = (hC D B σ κ g, nx)) := by
  refine jM.of (by decide +kernel) (Nat.le_of_ble_eq_true rfl) rfl ?_
  have hp : 4 * s + i < 8 := by omega
  first | refine j_aload_n d_Sl_replica_0 rfl ?_ | refine j_aload_nq d_Sl_replica_0 rfl ?_ | refine j_aload_nN d_Sl_replica_0 rfl ?_
  refine j_iload_n d_Sl_replica_1 rfl ?_
  refine j_iload_n d_Sl_replica_2 rfl ?_
  refine j_callV0 (As := [_, _]) G0_good G0_E d_Sl_replica_3 c_Sl_93 rfl rfl (t_Sl_replicaAt s i hs hi) (hC_t (by decide)) rfl rfl (by decide) (Nat.le_of_ble_eq_true rfl) ?_
  rintro _ _ ⟨rfl, rfl⟩
  first | refine j_astore d_Sl_replica_6 (by decide) rfl rfl ?_ | refine j_astoreq d_Sl_replica_6 (by decide) rfl rfl ?_ | refine j_astoreN d_Sl_replica_6 (by decide) rfl rfl ?_
  first | refine j_aload d_Sl_replica_8 rfl ?_ | refine j_aloadq d_Sl_replica_8 rfl ?_ | refine j_aloadN d_Sl_replica_8 rfl ?_
  refine j_ifnonnull (r := some (aP B (4 * s + i) + 3)) (t := 18) d_Sl_replica_10 (by decide) (fun x c => ?_) (fun c => by cases c)
  first | refine j_aload d_Sl_replica_18 rfl ?_ | refine j_aloadq d_Sl_replica_18 rfl ?_ | refine j_aloadN d_Sl_replica_18 rfl ?_
  refine j_iload_n d_Sl_replica_20 rfl ?_
  refine j_callV0 (As := [_]) G0_good G0_E d_Sl_replica_21 c_Sl_121 rfl rfl (t_Re_tell4 hp) (hC_p hp (by decide)) rfl rfl (by decide) (Nat.le_of_ble_eq_true rfl) ?_
  rintro _ _ ⟨rfl, rfl⟩
  exact j_iret d_Sl_replica_24 rfl ⟨rfl, rfl⟩

set_option maxHeartbeats 4000000 in
set_option maxRecDepth 100000 in
theorem t_Sl_replica_5 {l : Launch} {D : va_G} {B nx : Nat} {σ : Sg} {κ : Kp} {g : Nat → Option va_E} (s i : Nat) (hs : s < 2) (hi : i < 4) : jM (G0 l D) m_Sl_replica 2 0 0 [.ref (B + 0), .int (nI s), .int (nI i), .int (nI 5)] (hC D B σ κ g, nx) (fun v h => v = some (.int (mI (σ 15 (4 * s + i) 0))) ∧ h = (hC D B σ κ g, nx)) := by
  refine jM.of (by decide +kernel) (Nat.le_of_ble_eq_true rfl) rfl ?_
  have hp : 4 * s + i < 8 := by omega
  first | refine j_aload_n d_Sl_replica_0 rfl ?_ | refine j_aload_nq d_Sl_replica_0 rfl ?_ | refine j_aload_nN d_Sl_replica_0 rfl ?_
  refine j_iload_n d_Sl_replica_1 rfl ?_
  refine j_iload_n d_Sl_replica_2 rfl ?_
  refine j_callV0 (As := [_, _]) G0_good G0_E d_Sl_replica_3 c_Sl_93 rfl rfl (t_Sl_replicaAt s i hs hi) (hC_t (by decide)) rfl rfl (by decide) (Nat.le_of_ble_eq_true rfl) ?_
  rintro _ _ ⟨rfl, rfl⟩
  first | refine j_astore d_Sl_replica_6 (by decide) rfl rfl ?_ | refine j_astoreq d_Sl_replica_6 (by decide) rfl rfl ?_ | refine j_astoreN d_Sl_replica_6 (by decide) rfl rfl ?_
  first | refine j_aload d_Sl_replica_8 rfl ?_ | refine j_aloadq d_Sl_replica_8 rfl ?_ | refine j_aloadN d_Sl_replica_8 rfl ?_
  refine j_ifnonnull (r := some (aP B (4 * s + i) + 3)) (t := 18) d_Sl_replica_10 (by decide) (fun x c => ?_) (fun c => by cases c)
  first | refine j_aload d_Sl_replica_18 rfl ?_ | refine j_aloadq d_Sl_replica_18 rfl ?_ | refine j_aloadN d_Sl_replica_18 rfl ?_
  refine j_iload_n d_Sl_replica_20 rfl ?_
  refine j_callV0 (As := [_]) G0_good G0_E d_Sl_replica_21 c_Sl_121 rfl rfl (t_Re_tell5 hp) (hC_p hp (by decide)) rfl rfl (by decide) (Nat.le_of_ble_eq_true rfl) ?_
  rintro _ _ ⟨rfl, rfl⟩
  exact j_iret d_Sl_replica_24 rfl ⟨rfl, rfl⟩

set_option maxHeartbeats 4000000 in
set_option maxRecDepth 100000 in
theorem t_Sl_replica_6 {l : Launch} {D : va_G} {B nx : Nat} {σ : Sg} {κ : Kp} {g : Nat → Option va_E} (s i : Nat) (hs : s < 2) (hi : i < 4) : jM (G0 l D) m_Sl_replica 2 0 0 [.ref (B + 0), .int (nI s), .int (nI i), .int (nI 6)] (hC D B σ κ g, nx) (fun v h => v = some (.int (mI (σ 16 (4 * s + i) 0))) ∧ h = (hC D B σ κ g, nx)) := by
  refine jM.of (by decide +kernel) (Nat.le_of_ble_eq_true rfl) rfl ?_
  have hp : 4 * s + i < 8 := by omega
  first | refine j_aload_n d_Sl_replica_0 rfl ?_ | refine j_aload_nq d_Sl_replica_0 rfl ?_ | refine j_aload_nN d_Sl_replica_0 rfl ?_
  refine j_iload_n d_Sl_replica_1 rfl ?_
  refine j_iload_n d_Sl_replica_2 rfl ?_
  refine j_callV0 (As := [_, _]) G0_good G0_E d_Sl_replica_3 c_Sl_93 rfl rfl (t_Sl_replicaAt s i hs hi) (hC_t (by decide)) rfl rfl (by decide) (Nat.le_of_ble_eq_true rfl) ?_
  rintro _ _ ⟨rfl, rfl⟩
  first | refine j_astore d_Sl_replica_6 (by decide) rfl rfl ?_ | refine j_astoreq d_Sl_replica_6 (by decide) rfl rfl ?_ | refine j_astoreN d_Sl_replica_6 (by decide) rfl rfl ?_
  first | refine j_aload d_Sl_replica_8 rfl ?_ | refine j_aloadq d_Sl_replica_8 rfl ?_ | refine j_aloadN d_Sl_replica_8 rfl ?_
  refine j_ifnonnull (r := some (aP B (4 * s + i) + 3)) (t := 18) d_Sl_replica_10 (by decide) (fun x c => ?_) (fun c => by cases c)
  first | refine j_aload d_Sl_replica_18 rfl ?_ | refine j_aloadq d_Sl_replica_18 rfl ?_ | refine j_aloadN d_Sl_replica_18 rfl ?_
  refine j_iload_n d_Sl_replica_20 rfl ?_
  refine j_callV0 (As := [_]) G0_good G0_E d_Sl_replica_21 c_Sl_121 rfl rfl (t_Re_tell6 hp) (hC_p hp (by decide)) rfl rfl (by decide) (Nat.le_of_ble_eq_true rfl) ?_
  rintro _ _ ⟨rfl, rfl⟩
  exact j_iret d_Sl_replica_24 rfl ⟨rfl, rfl⟩

set_option maxHeartbeats 4000000 in
set_option maxRecDepth 100000 in
theorem t_Sl_replica_O {l : Launch} {D : va_G} {B nx : Nat} {σ : Sg} {κ : Kp} {g : Nat → Option va_E} (s i : Nat) (hs : s < 2) (hi : i < 4) (w : Int32) (hout : w.toInt < 0 ∨ 6 < w.toInt) : jM (G0 l D) m_Sl_replica 2 0 0 [.ref (B + 0), .int (nI s), .int (nI i), .int w] (hC D B σ κ g, nx) (fun v h => v = some (.int (-2)) ∧ h = (hC D B σ κ g, nx)) := by
  refine jM.of (by decide +kernel) (Nat.le_of_ble_eq_true rfl) rfl ?_
  have hp : 4 * s + i < 8 := by omega
  first | refine j_aload_n d_Sl_replica_0 rfl ?_ | refine j_aload_nq d_Sl_replica_0 rfl ?_ | refine j_aload_nN d_Sl_replica_0 rfl ?_
  refine j_iload_n d_Sl_replica_1 rfl ?_
  refine j_iload_n d_Sl_replica_2 rfl ?_
  refine j_callV0 (As := [_, _]) G0_good G0_E d_Sl_replica_3 c_Sl_93 rfl rfl (t_Sl_replicaAt s i hs hi) (hC_t (by decide)) rfl rfl (by decide) (Nat.le_of_ble_eq_true rfl) ?_
  rintro _ _ ⟨rfl, rfl⟩
  first | refine j_astore d_Sl_replica_6 (by decide) rfl rfl ?_ | refine j_astoreq d_Sl_replica_6 (by decide) rfl rfl ?_ | refine j_astoreN d_Sl_replica_6 (by decide) rfl rfl ?_
  first | refine j_aload d_Sl_replica_8 rfl ?_ | refine j_aloadq d_Sl_replica_8 rfl ?_ | refine j_aloadN d_Sl_replica_8 rfl ?_
  refine j_ifnonnull (r := some (aP B (4 * s + i) + 3)) (t := 18) d_Sl_replica_10 (by decide) (fun x c => ?_) (fun c => by cases c)
  first | refine j_aload d_Sl_replica_18 rfl ?_ | refine j_aloadq d_Sl_replica_18 rfl ?_ | refine j_aloadN d_Sl_replica_18 rfl ?_
  refine j_iload_n d_Sl_replica_20 rfl ?_
  refine j_callV0 (As := [_]) G0_good G0_E d_Sl_replica_21 c_Sl_121 rfl rfl (t_Re_tellO hp w hout) (hC_p hp (by decide)) rfl rfl (by decide) (Nat.le_of_ble_eq_true rfl) ?_
  rintro _ _ ⟨rfl, rfl⟩
  exact j_iret d_Sl_replica_24 rfl ⟨rfl, rfl⟩

set_option maxHeartbeats 4000000 in
set_option maxRecDepth 100000 in
theorem t_Sl_executed_O1 {l : Launch} {D : va_G} {B nx : Nat} {σ : Sg} {κ : Kp} {g : Nat → Option va_E} (x y : Int32) (hx : ¬ inr x 2) (w : Int32) : jM (G0 l D) m_Sl_executed 2 0 0 [.ref (B + 0), .int x, .int y, .int w] (hC D B σ κ g, nx) (fun v h => v = some (.int (mI 0)) ∧ h = (hC D B σ κ g, nx)) := by
  refine jM.of (by decide +kernel) (Nat.le_of_ble_eq_true rfl) rfl ?_
  first | refine j_aload_n d_Sl_executed_0 rfl ?_ | refine j_aload_nq d_Sl_executed_0 rfl ?_ | refine j_aload_nN d_Sl_executed_0 rfl ?_
  refine j_iload_n d_Sl_executed_1 rfl ?_
  refine j_iload_n d_Sl_executed_2 rfl ?_
  refine j_callV0 (As := [_, _]) G0_good G0_E d_Sl_executed_3 c_Sl_93 rfl rfl (t_Sl_replicaAtO1 x y hx) (hC_t (by decide)) rfl rfl (by decide) (Nat.le_of_ble_eq_true rfl) ?_
  rintro _ _ ⟨rfl, rfl⟩
  first | refine j_astore d_Sl_executed_6 (by decide) rfl rfl ?_ | refine j_astoreq d_Sl_executed_6 (by decide) rfl rfl ?_ | refine j_astoreN d_Sl_executed_6 (by decide) rfl rfl ?_
  first | refine j_aload d_Sl_executed_8 rfl ?_ | refine j_aloadq d_Sl_executed_8 rfl ?_ | refine j_aloadN d_Sl_executed_8 rfl ?_
  refine j_ifnonnull (r := none) (t := 17) d_Sl_executed_10 (by decide) (fun x c => by cases c) (fun c => ?_)
  refine j_iconst (v := mI 0) d_Sl_executed_13 (by decide +kernel) ?_
  refine j_goto (t := 23) d_Sl_executed_14 (by decide) ?_
  exact j_iret d_Sl_executed_23 rfl ⟨rfl, rfl⟩

set_option maxHeartbeats 4000000 in
set_option maxRecDepth 100000 in
theorem t_Sl_executed_O2 {l : Launch} {D : va_G} {B nx : Nat} {σ : Sg} {κ : Kp} {g : Nat → Option va_E} (s : Nat) (hs : s < 2) (y : Int32) (hy : ¬ inr y 4) (w : Int32) : jM (G0 l D) m_Sl_executed 2 0 0 [.ref (B + 0), .int (nI s), .int y, .int w] (hC D B σ κ g, nx) (fun v h => v = some (.int (mI 0)) ∧ h = (hC D B σ κ g, nx)) := by
  refine jM.of (by decide +kernel) (Nat.le_of_ble_eq_true rfl) rfl ?_
  first | refine j_aload_n d_Sl_executed_0 rfl ?_ | refine j_aload_nq d_Sl_executed_0 rfl ?_ | refine j_aload_nN d_Sl_executed_0 rfl ?_
  refine j_iload_n d_Sl_executed_1 rfl ?_
  refine j_iload_n d_Sl_executed_2 rfl ?_
  refine j_callV0 (As := [_, _]) G0_good G0_E d_Sl_executed_3 c_Sl_93 rfl rfl (t_Sl_replicaAtO2 s hs y hy) (hC_t (by decide)) rfl rfl (by decide) (Nat.le_of_ble_eq_true rfl) ?_
  rintro _ _ ⟨rfl, rfl⟩
  first | refine j_astore d_Sl_executed_6 (by decide) rfl rfl ?_ | refine j_astoreq d_Sl_executed_6 (by decide) rfl rfl ?_ | refine j_astoreN d_Sl_executed_6 (by decide) rfl rfl ?_
  first | refine j_aload d_Sl_executed_8 rfl ?_ | refine j_aloadq d_Sl_executed_8 rfl ?_ | refine j_aloadN d_Sl_executed_8 rfl ?_
  refine j_ifnonnull (r := none) (t := 17) d_Sl_executed_10 (by decide) (fun x c => by cases c) (fun c => ?_)
  refine j_iconst (v := mI 0) d_Sl_executed_13 (by decide +kernel) ?_
  refine j_goto (t := 23) d_Sl_executed_14 (by decide) ?_
  exact j_iret d_Sl_executed_23 rfl ⟨rfl, rfl⟩

set_option maxHeartbeats 4000000 in
set_option maxRecDepth 100000 in
theorem t_Sl_executed_i {l : Launch} {D : va_G} {B nx : Nat} {σ : Sg} {κ : Kp} {g : Nat → Option va_E} (s i : Nat) (hs : s < 2) (hi : i < 4) (hb : bd σ) (h16 : σ 10 (4 * s + i) 0 ≤ 16) (k : Nat) (hk : k < σ 10 (4 * s + i) 0) : jM (G0 l D) m_Sl_executed 2 0 0 [.ref (B + 0), .int (nI s), .int (nI i), .int (nI k)] (hC D B σ κ g, nx) (fun v h => v = some (.int (nI (σ 18 (4 * s + i) k))) ∧ h = (hC D B σ κ g, nx)) := by
  refine jM.of (by decide +kernel) (Nat.le_of_ble_eq_true rfl) rfl ?_
  have hp : 4 * s + i < 8 := by omega
  first | refine j_aload_n d_Sl_executed_0 rfl ?_ | refine j_aload_nq d_Sl_executed_0 rfl ?_ | refine j_aload_nN d_Sl_executed_0 rfl ?_
  refine j_iload_n d_Sl_executed_1 rfl ?_
  refine j_iload_n d_Sl_executed_2 rfl ?_
  refine j_callV0 (As := [_, _]) G0_good G0_E d_Sl_executed_3 c_Sl_93 rfl rfl (t_Sl_replicaAt s i hs hi) (hC_t (by decide)) rfl rfl (by decide) (Nat.le_of_ble_eq_true rfl) ?_
  rintro _ _ ⟨rfl, rfl⟩
  first | refine j_astore d_Sl_executed_6 (by decide) rfl rfl ?_ | refine j_astoreq d_Sl_executed_6 (by decide) rfl rfl ?_ | refine j_astoreN d_Sl_executed_6 (by decide) rfl rfl ?_
  first | refine j_aload d_Sl_executed_8 rfl ?_ | refine j_aloadq d_Sl_executed_8 rfl ?_ | refine j_aloadN d_Sl_executed_8 rfl ?_
  refine j_ifnonnull (r := some (aP B (4 * s + i) + 3)) (t := 17) d_Sl_executed_10 (by decide) (fun x c => ?_) (fun c => by cases c)
  first | refine j_aload d_Sl_executed_17 rfl ?_ | refine j_aloadq d_Sl_executed_17 rfl ?_ | refine j_aloadN d_Sl_executed_17 rfl ?_
  refine j_iload_n d_Sl_executed_19 rfl ?_
  refine j_callV0 (As := [_]) G0_good G0_E d_Sl_executed_20 c_Sl_122 rfl rfl (t_Re_executedAt hp hb h16 k hk) (hC_p hp (by decide)) rfl rfl (by decide) (Nat.le_of_ble_eq_true rfl) ?_
  rintro _ _ ⟨rfl, rfl⟩
  exact j_iret d_Sl_executed_23 rfl ⟨rfl, rfl⟩

set_option maxHeartbeats 4000000 in
set_option maxRecDepth 100000 in
theorem t_Sl_executed_o {l : Launch} {D : va_G} {B nx : Nat} {σ : Sg} {κ : Kp} {g : Nat → Option va_E} (s i : Nat) (hs : s < 2) (hi : i < 4) (hb : bd σ) (w : Int32) (hw : ¬ inr w (σ 10 (4 * s + i) 0)) : jM (G0 l D) m_Sl_executed 2 0 0 [.ref (B + 0), .int (nI s), .int (nI i), .int w] (hC D B σ κ g, nx) (fun v h => v = some (.int (mI 0)) ∧ h = (hC D B σ κ g, nx)) := by
  refine jM.of (by decide +kernel) (Nat.le_of_ble_eq_true rfl) rfl ?_
  have hp : 4 * s + i < 8 := by omega
  first | refine j_aload_n d_Sl_executed_0 rfl ?_ | refine j_aload_nq d_Sl_executed_0 rfl ?_ | refine j_aload_nN d_Sl_executed_0 rfl ?_
  refine j_iload_n d_Sl_executed_1 rfl ?_
  refine j_iload_n d_Sl_executed_2 rfl ?_
  refine j_callV0 (As := [_, _]) G0_good G0_E d_Sl_executed_3 c_Sl_93 rfl rfl (t_Sl_replicaAt s i hs hi) (hC_t (by decide)) rfl rfl (by decide) (Nat.le_of_ble_eq_true rfl) ?_
  rintro _ _ ⟨rfl, rfl⟩
  first | refine j_astore d_Sl_executed_6 (by decide) rfl rfl ?_ | refine j_astoreq d_Sl_executed_6 (by decide) rfl rfl ?_ | refine j_astoreN d_Sl_executed_6 (by decide) rfl rfl ?_
  first | refine j_aload d_Sl_executed_8 rfl ?_ | refine j_aloadq d_Sl_executed_8 rfl ?_ | refine j_aloadN d_Sl_executed_8 rfl ?_
  refine j_ifnonnull (r := some (aP B (4 * s + i) + 3)) (t := 17) d_Sl_executed_10 (by decide) (fun x c => ?_) (fun c => by cases c)
  first | refine j_aload d_Sl_executed_17 rfl ?_ | refine j_aloadq d_Sl_executed_17 rfl ?_ | refine j_aloadN d_Sl_executed_17 rfl ?_
  refine j_iload_n d_Sl_executed_19 rfl ?_
  refine j_callV0 (As := [_]) G0_good G0_E d_Sl_executed_20 c_Sl_122 rfl rfl (t_Re_executedAtO hp hb w hw) (hC_p hp (by decide)) rfl rfl (by decide) (Nat.le_of_ble_eq_true rfl) ?_
  rintro _ _ ⟨rfl, rfl⟩
  exact j_iret d_Sl_executed_23 rfl ⟨rfl, rfl⟩

set_option maxHeartbeats 4000000 in
set_option maxRecDepth 100000 in
theorem t_Sl_output_O1 {l : Launch} {D : va_G} {B nx : Nat} {σ : Sg} {κ : Kp} {g : Nat → Option va_E} (x y : Int32) (hx : ¬ inr x 2) (w : Int32) : jM (G0 l D) m_Sl_output 2 0 0 [.ref (B + 0), .int x, .int y, .int w] (hC D B σ κ g, nx) (fun v h => v = some (.int (mI 0)) ∧ h = (hC D B σ κ g, nx)) := by
  refine jM.of (by decide +kernel) (Nat.le_of_ble_eq_true rfl) rfl ?_
  first | refine j_aload_n d_Sl_output_0 rfl ?_ | refine j_aload_nq d_Sl_output_0 rfl ?_ | refine j_aload_nN d_Sl_output_0 rfl ?_
  refine j_iload_n d_Sl_output_1 rfl ?_
  refine j_iload_n d_Sl_output_2 rfl ?_
  refine j_callV0 (As := [_, _]) G0_good G0_E d_Sl_output_3 c_Sl_93 rfl rfl (t_Sl_replicaAtO1 x y hx) (hC_t (by decide)) rfl rfl (by decide) (Nat.le_of_ble_eq_true rfl) ?_
  rintro _ _ ⟨rfl, rfl⟩
  first | refine j_astore d_Sl_output_6 (by decide) rfl rfl ?_ | refine j_astoreq d_Sl_output_6 (by decide) rfl rfl ?_ | refine j_astoreN d_Sl_output_6 (by decide) rfl rfl ?_
  first | refine j_aload d_Sl_output_8 rfl ?_ | refine j_aloadq d_Sl_output_8 rfl ?_ | refine j_aloadN d_Sl_output_8 rfl ?_
  refine j_ifnonnull (r := none) (t := 17) d_Sl_output_10 (by decide) (fun x c => by cases c) (fun c => ?_)
  refine j_iconst (v := mI 0) d_Sl_output_13 (by decide +kernel) ?_
  refine j_goto (t := 26) d_Sl_output_14 (by decide) ?_
  exact j_iret d_Sl_output_26 rfl ⟨rfl, rfl⟩

set_option maxHeartbeats 4000000 in
set_option maxRecDepth 100000 in
theorem t_Sl_output_O2 {l : Launch} {D : va_G} {B nx : Nat} {σ : Sg} {κ : Kp} {g : Nat → Option va_E} (s : Nat) (hs : s < 2) (y : Int32) (hy : ¬ inr y 4) (w : Int32) : jM (G0 l D) m_Sl_output 2 0 0 [.ref (B + 0), .int (nI s), .int y, .int w] (hC D B σ κ g, nx) (fun v h => v = some (.int (mI 0)) ∧ h = (hC D B σ κ g, nx)) := by
  refine jM.of (by decide +kernel) (Nat.le_of_ble_eq_true rfl) rfl ?_
  first | refine j_aload_n d_Sl_output_0 rfl ?_ | refine j_aload_nq d_Sl_output_0 rfl ?_ | refine j_aload_nN d_Sl_output_0 rfl ?_
  refine j_iload_n d_Sl_output_1 rfl ?_
  refine j_iload_n d_Sl_output_2 rfl ?_
  refine j_callV0 (As := [_, _]) G0_good G0_E d_Sl_output_3 c_Sl_93 rfl rfl (t_Sl_replicaAtO2 s hs y hy) (hC_t (by decide)) rfl rfl (by decide) (Nat.le_of_ble_eq_true rfl) ?_
  rintro _ _ ⟨rfl, rfl⟩
  first | refine j_astore d_Sl_output_6 (by decide) rfl rfl ?_ | refine j_astoreq d_Sl_output_6 (by decide) rfl rfl ?_ | refine j_astoreN d_Sl_output_6 (by decide) rfl rfl ?_
  first | refine j_aload d_Sl_output_8 rfl ?_ | refine j_aloadq d_Sl_output_8 rfl ?_ | refine j_aloadN d_Sl_output_8 rfl ?_
  refine j_ifnonnull (r := none) (t := 17) d_Sl_output_10 (by decide) (fun x c => by cases c) (fun c => ?_)
  refine j_iconst (v := mI 0) d_Sl_output_13 (by decide +kernel) ?_
  refine j_goto (t := 26) d_Sl_output_14 (by decide) ?_
  exact j_iret d_Sl_output_26 rfl ⟨rfl, rfl⟩

set_option maxHeartbeats 4000000 in
set_option maxRecDepth 100000 in
theorem t_Sl_output_i {l : Launch} {D : va_G} {B nx : Nat} {σ : Sg} {κ : Kp} {g : Nat → Option va_E} (s i : Nat) (hs : s < 2) (hi : i < 4) (hb : bd σ) (n : Nat) (hn : n < 20) : jM (G0 l D) m_Sl_output 2 0 0 [.ref (B + 0), .int (nI s), .int (nI i), .int (nI n)] (hC D B σ κ g, nx) (fun v h => v = some (.int (if n % 2 = (4 * s + i) / 4 then nI (σ 8 (4 * s + i) n) else mI 0)) ∧ h = (hC D B σ κ g, nx)) := by
  refine jM.of (by decide +kernel) (Nat.le_of_ble_eq_true rfl) rfl ?_
  have hp : 4 * s + i < 8 := by omega
  first | refine j_aload_n d_Sl_output_0 rfl ?_ | refine j_aload_nq d_Sl_output_0 rfl ?_ | refine j_aload_nN d_Sl_output_0 rfl ?_
  refine j_iload_n d_Sl_output_1 rfl ?_
  refine j_iload_n d_Sl_output_2 rfl ?_
  refine j_callV0 (As := [_, _]) G0_good G0_E d_Sl_output_3 c_Sl_93 rfl rfl (t_Sl_replicaAt s i hs hi) (hC_t (by decide)) rfl rfl (by decide) (Nat.le_of_ble_eq_true rfl) ?_
  rintro _ _ ⟨rfl, rfl⟩
  first | refine j_astore d_Sl_output_6 (by decide) rfl rfl ?_ | refine j_astoreq d_Sl_output_6 (by decide) rfl rfl ?_ | refine j_astoreN d_Sl_output_6 (by decide) rfl rfl ?_
  first | refine j_aload d_Sl_output_8 rfl ?_ | refine j_aloadq d_Sl_output_8 rfl ?_ | refine j_aloadN d_Sl_output_8 rfl ?_
  refine j_ifnonnull (r := some (aP B (4 * s + i) + 3)) (t := 17) d_Sl_output_10 (by decide) (fun x c => ?_) (fun c => by cases c)
  first | refine j_aload d_Sl_output_17 rfl ?_ | refine j_aloadq d_Sl_output_17 rfl ?_ | refine j_aloadN d_Sl_output_17 rfl ?_
  refine j_get d_Sl_output_19 f_Sl_125 (hC_p hp (by decide)) rfl ?_
  refine j_iload_n d_Sl_output_22 rfl ?_
  refine j_callV0 (As := [_]) G0_good G0_E d_Sl_output_23 c_Sl_129 rfl rfl (t_Ho_stateOf hp hb n hn) (hC_p hp (by decide)) rfl rfl (by decide) (Nat.le_of_ble_eq_true rfl) ?_
  rintro _ _ ⟨rfl, rfl⟩
  exact j_iret d_Sl_output_26 rfl ⟨rfl, rfl⟩

set_option maxHeartbeats 4000000 in
set_option maxRecDepth 100000 in
theorem t_Sl_output_o {l : Launch} {D : va_G} {B nx : Nat} {σ : Sg} {κ : Kp} {g : Nat → Option va_E} (s i : Nat) (hs : s < 2) (hi : i < 4) (hb : bd σ) (w : Int32) (hw : ¬ inr w 20) : jM (G0 l D) m_Sl_output 2 0 0 [.ref (B + 0), .int (nI s), .int (nI i), .int w] (hC D B σ κ g, nx) (fun v h => v = some (.int (mI 0)) ∧ h = (hC D B σ κ g, nx)) := by
  refine jM.of (by decide +kernel) (Nat.le_of_ble_eq_true rfl) rfl ?_
  have hp : 4 * s + i < 8 := by omega
  first | refine j_aload_n d_Sl_output_0 rfl ?_ | refine j_aload_nq d_Sl_output_0 rfl ?_ | refine j_aload_nN d_Sl_output_0 rfl ?_
  refine j_iload_n d_Sl_output_1 rfl ?_
  refine j_iload_n d_Sl_output_2 rfl ?_
  refine j_callV0 (As := [_, _]) G0_good G0_E d_Sl_output_3 c_Sl_93 rfl rfl (t_Sl_replicaAt s i hs hi) (hC_t (by decide)) rfl rfl (by decide) (Nat.le_of_ble_eq_true rfl) ?_
  rintro _ _ ⟨rfl, rfl⟩
  first | refine j_astore d_Sl_output_6 (by decide) rfl rfl ?_ | refine j_astoreq d_Sl_output_6 (by decide) rfl rfl ?_ | refine j_astoreN d_Sl_output_6 (by decide) rfl rfl ?_
  first | refine j_aload d_Sl_output_8 rfl ?_ | refine j_aloadq d_Sl_output_8 rfl ?_ | refine j_aloadN d_Sl_output_8 rfl ?_
  refine j_ifnonnull (r := some (aP B (4 * s + i) + 3)) (t := 17) d_Sl_output_10 (by decide) (fun x c => ?_) (fun c => by cases c)
  first | refine j_aload d_Sl_output_17 rfl ?_ | refine j_aloadq d_Sl_output_17 rfl ?_ | refine j_aloadN d_Sl_output_17 rfl ?_
  refine j_get d_Sl_output_19 f_Sl_125 (hC_p hp (by decide)) rfl ?_
  refine j_iload_n d_Sl_output_22 rfl ?_
  refine j_callV0 (As := [_]) G0_good G0_E d_Sl_output_23 c_Sl_129 rfl rfl (t_Ho_stateOfO hp hb w hw) (hC_p hp (by decide)) rfl rfl (by decide) (Nat.le_of_ble_eq_true rfl) ?_
  rintro _ _ ⟨rfl, rfl⟩
  exact j_iret d_Sl_output_26 rfl ⟨rfl, rfl⟩

set_option maxHeartbeats 4000000 in
set_option maxRecDepth 100000 in
theorem t_Sl_value_O1 {l : Launch} {D : va_G} {B nx : Nat} {σ : Sg} {κ : Kp} {g : Nat → Option va_E} (x y : Int32) (hx : ¬ inr x 2) : jM (G0 l D) m_Sl_value 2 0 0 [.ref (B + 0), .int x, .int y] (hC D B σ κ g, nx) (fun v h => v = some (.int (mI 0)) ∧ h = (hC D B σ κ g, nx)) := by
  refine jM.of (by decide +kernel) (Nat.le_of_ble_eq_true rfl) rfl ?_
  first | refine j_aload_n d_Sl_value_0 rfl ?_ | refine j_aload_nq d_Sl_value_0 rfl ?_ | refine j_aload_nN d_Sl_value_0 rfl ?_
  refine j_iload_n d_Sl_value_1 rfl ?_
  refine j_iload_n d_Sl_value_2 rfl ?_
  refine j_callV0 (As := [_, _]) G0_good G0_E d_Sl_value_3 c_Sl_93 rfl rfl (t_Sl_replicaAtO1 x y hx) (hC_t (by decide)) rfl rfl (by decide) (Nat.le_of_ble_eq_true rfl) ?_
  rintro _ _ ⟨rfl, rfl⟩
  first | refine j_astore_n d_Sl_value_6 (by decide) rfl rfl ?_ | refine j_astore_nq d_Sl_value_6 (by decide) rfl rfl ?_ | refine j_astore_nN d_Sl_value_6 (by decide) rfl rfl ?_
  first | refine j_aload_n d_Sl_value_7 rfl ?_ | refine j_aload_nq d_Sl_value_7 rfl ?_ | refine j_aload_nN d_Sl_value_7 rfl ?_
  refine j_ifnonnull (r := none) (t := 15) d_Sl_value_8 (by decide) (fun x c => by cases c) (fun c => ?_)
  refine j_iconst (v := mI 0) d_Sl_value_11 (by decide +kernel) ?_
  refine j_goto (t := 22) d_Sl_value_12 (by decide) ?_
  exact j_iret d_Sl_value_22 rfl ⟨rfl, rfl⟩

set_option maxHeartbeats 4000000 in
set_option maxRecDepth 100000 in
theorem t_Sl_value_O2 {l : Launch} {D : va_G} {B nx : Nat} {σ : Sg} {κ : Kp} {g : Nat → Option va_E} (s : Nat) (hs : s < 2) (y : Int32) (hy : ¬ inr y 4) : jM (G0 l D) m_Sl_value 2 0 0 [.ref (B + 0), .int (nI s), .int y] (hC D B σ κ g, nx) (fun v h => v = some (.int (mI 0)) ∧ h = (hC D B σ κ g, nx)) := by
  refine jM.of (by decide +kernel) (Nat.le_of_ble_eq_true rfl) rfl ?_
  first | refine j_aload_n d_Sl_value_0 rfl ?_ | refine j_aload_nq d_Sl_value_0 rfl ?_ | refine j_aload_nN d_Sl_value_0 rfl ?_
  refine j_iload_n d_Sl_value_1 rfl ?_
  refine j_iload_n d_Sl_value_2 rfl ?_
  refine j_callV0 (As := [_, _]) G0_good G0_E d_Sl_value_3 c_Sl_93 rfl rfl (t_Sl_replicaAtO2 s hs y hy) (hC_t (by decide)) rfl rfl (by decide) (Nat.le_of_ble_eq_true rfl) ?_
  rintro _ _ ⟨rfl, rfl⟩
  first | refine j_astore_n d_Sl_value_6 (by decide) rfl rfl ?_ | refine j_astore_nq d_Sl_value_6 (by decide) rfl rfl ?_ | refine j_astore_nN d_Sl_value_6 (by decide) rfl rfl ?_
  first | refine j_aload_n d_Sl_value_7 rfl ?_ | refine j_aload_nq d_Sl_value_7 rfl ?_ | refine j_aload_nN d_Sl_value_7 rfl ?_
  refine j_ifnonnull (r := none) (t := 15) d_Sl_value_8 (by decide) (fun x c => by cases c) (fun c => ?_)
  refine j_iconst (v := mI 0) d_Sl_value_11 (by decide +kernel) ?_
  refine j_goto (t := 22) d_Sl_value_12 (by decide) ?_
  exact j_iret d_Sl_value_22 rfl ⟨rfl, rfl⟩

set_option maxHeartbeats 4000000 in
set_option maxRecDepth 100000 in
theorem t_Sl_value_i {l : Launch} {D : va_G} {B nx : Nat} {σ : Sg} {κ : Kp} {g : Nat → Option va_E} (s i : Nat) (hs : s < 2) (hi : i < 4) (hb : bd σ) : jM (G0 l D) m_Sl_value 2 0 0 [.ref (B + 0), .int (nI s), .int (nI i)] (hC D B σ κ g, nx) (fun v h => v = some (.int (nI (wsum σ (4 * s + i) 10))) ∧ h = (hC D B σ κ g, nx)) := by
  refine jM.of (by decide +kernel) (Nat.le_of_ble_eq_true rfl) rfl ?_
  have hp : 4 * s + i < 8 := by omega
  first | refine j_aload_n d_Sl_value_0 rfl ?_ | refine j_aload_nq d_Sl_value_0 rfl ?_ | refine j_aload_nN d_Sl_value_0 rfl ?_
  refine j_iload_n d_Sl_value_1 rfl ?_
  refine j_iload_n d_Sl_value_2 rfl ?_
  refine j_callV0 (As := [_, _]) G0_good G0_E d_Sl_value_3 c_Sl_93 rfl rfl (t_Sl_replicaAt s i hs hi) (hC_t (by decide)) rfl rfl (by decide) (Nat.le_of_ble_eq_true rfl) ?_
  rintro _ _ ⟨rfl, rfl⟩
  first | refine j_astore_n d_Sl_value_6 (by decide) rfl rfl ?_ | refine j_astore_nq d_Sl_value_6 (by decide) rfl rfl ?_ | refine j_astore_nN d_Sl_value_6 (by decide) rfl rfl ?_
  first | refine j_aload_n d_Sl_value_7 rfl ?_ | refine j_aload_nq d_Sl_value_7 rfl ?_ | refine j_aload_nN d_Sl_value_7 rfl ?_
  refine j_ifnonnull (r := some (aP B (4 * s + i) + 3)) (t := 15) d_Sl_value_8 (by decide) (fun x c => ?_) (fun c => by cases c)
  first | refine j_aload_n d_Sl_value_15 rfl ?_ | refine j_aload_nq d_Sl_value_15 rfl ?_ | refine j_aload_nN d_Sl_value_15 rfl ?_
  refine j_get d_Sl_value_16 f_Sl_125 (hC_p hp (by decide)) rfl ?_
  refine j_callV0 (As := []) G0_good G0_E d_Sl_value_19 c_Sl_134 rfl rfl (t_Ho_worth hp hb) (hC_p hp (by decide)) rfl rfl (by decide) (Nat.le_of_ble_eq_true rfl) ?_
  rintro _ _ ⟨rfl, rfl⟩
  exact j_iret d_Sl_value_22 rfl ⟨rfl, rfl⟩

set_option maxHeartbeats 4000000 in
set_option maxRecDepth 100000 in
theorem t_Sl_messages_O {l : Launch} {D : va_G} {B nx : Nat} {σ : Sg} {κ : Kp} {g : Nat → Option va_E} (x : Int32) (hx : ¬ inr x 2) : jM (G0 l D) m_Sl_messages 1 0 0 [.ref (B + 0), .int x] (hC D B σ κ g, nx) (fun v h => v = some (.int (mI 0)) ∧ h = (hC D B σ κ g, nx)) := by
  refine jM.of (by decide +kernel) (Nat.le_of_ble_eq_true rfl) rfl ?_
  first | refine j_aload_n d_Sl_messages_0 rfl ?_ | refine j_aload_nq d_Sl_messages_0 rfl ?_ | refine j_aload_nN d_Sl_messages_0 rfl ?_
  refine j_iload_n d_Sl_messages_1 rfl ?_
  refine j_callV0 (As := [_]) G0_good G0_E d_Sl_messages_2 c_Sl_64 rfl rfl (t_Sl_shardAtO x hx) (hC_t (by decide)) rfl rfl (by decide) (Nat.le_of_ble_eq_true rfl) ?_
  rintro _ _ ⟨rfl, rfl⟩
  first | refine j_astore_n d_Sl_messages_5 (by decide) rfl rfl ?_ | refine j_astore_nq d_Sl_messages_5 (by decide) rfl rfl ?_ | refine j_astore_nN d_Sl_messages_5 (by decide) rfl rfl ?_
  first | refine j_aload_n d_Sl_messages_6 rfl ?_ | refine j_aload_nq d_Sl_messages_6 rfl ?_ | refine j_aload_nN d_Sl_messages_6 rfl ?_
  refine j_ifnonnull (r := none) (t := 14) d_Sl_messages_7 (by decide) (fun x c => by cases c) (fun c => ?_)
  refine j_iconst (v := mI 0) d_Sl_messages_10 (by decide +kernel) ?_
  refine j_goto (t := 21) d_Sl_messages_11 (by decide) ?_
  exact j_iret d_Sl_messages_21 rfl ⟨rfl, rfl⟩

set_option maxHeartbeats 4000000 in
set_option maxRecDepth 100000 in
theorem t_Sl_messages_i {l : Launch} {D : va_G} {B nx : Nat} {σ : Sg} {κ : Kp} {g : Nat → Option va_E} (s : Nat) (hs : s < 2) : jM (G0 l D) m_Sl_messages 1 0 0 [.ref (B + 0), .int (nI s)] (hC D B σ κ g, nx) (fun v h => v = some (.int (nI (σ 20 s 0))) ∧ h = (hC D B σ κ g, nx)) := by
  refine jM.of (by decide +kernel) (Nat.le_of_ble_eq_true rfl) rfl ?_
  first | refine j_aload_n d_Sl_messages_0 rfl ?_ | refine j_aload_nq d_Sl_messages_0 rfl ?_ | refine j_aload_nN d_Sl_messages_0 rfl ?_
  refine j_iload_n d_Sl_messages_1 rfl ?_
  refine j_callV0 (As := [_]) G0_good G0_E d_Sl_messages_2 c_Sl_64 rfl rfl (t_Sl_shardAt s hs) (hC_t (by decide)) rfl rfl (by decide) (Nat.le_of_ble_eq_true rfl) ?_
  rintro _ _ ⟨rfl, rfl⟩
  first | refine j_astore_n d_Sl_messages_5 (by decide) rfl rfl ?_ | refine j_astore_nq d_Sl_messages_5 (by decide) rfl rfl ?_ | refine j_astore_nN d_Sl_messages_5 (by decide) rfl rfl ?_
  first | refine j_aload_n d_Sl_messages_6 rfl ?_ | refine j_aload_nq d_Sl_messages_6 rfl ?_ | refine j_aload_nN d_Sl_messages_6 rfl ?_
  refine j_ifnonnull (r := some (aS B s + 0)) (t := 14) d_Sl_messages_7 (by decide) (fun x c => ?_) (fun c => by cases c)
  first | refine j_aload_n d_Sl_messages_14 rfl ?_ | refine j_aload_nq d_Sl_messages_14 rfl ?_ | refine j_aload_nN d_Sl_messages_14 rfl ?_
  refine j_get d_Sl_messages_15 f_Sl_72 (hC_s hs (by decide)) rfl ?_
  refine j_callV0 (As := []) G0_good G0_E d_Sl_messages_18 c_Sl_114 rfl rfl (t_Lo_count hs) (hC_s hs (by decide)) rfl rfl (by decide) (Nat.le_of_ble_eq_true rfl) ?_
  rintro _ _ ⟨rfl, rfl⟩
  exact j_iret d_Sl_messages_21 rfl ⟨rfl, rfl⟩

set_option maxHeartbeats 4000000 in
set_option maxRecDepth 100000 in
theorem t_Sl_message_O {l : Launch} {D : va_G} {B nx : Nat} {σ : Sg} {κ : Kp} {g : Nat → Option va_E} (x k w : Int32) (hx : ¬ inr x 2) : jM (G0 l D) m_Sl_message 1 0 0 [.ref (B + 0), .int x, .int k, .int w] (hC D B σ κ g, nx) (fun v h => v = some (.int (-2)) ∧ h = (hC D B σ κ g, nx)) := by
  refine jM.of (by decide +kernel) (Nat.le_of_ble_eq_true rfl) rfl ?_
  first | refine j_aload_n d_Sl_message_0 rfl ?_ | refine j_aload_nq d_Sl_message_0 rfl ?_ | refine j_aload_nN d_Sl_message_0 rfl ?_
  refine j_iload_n d_Sl_message_1 rfl ?_
  refine j_callV0 (As := [_]) G0_good G0_E d_Sl_message_2 c_Sl_64 rfl rfl (t_Sl_shardAtO x hx) (hC_t (by decide)) rfl rfl (by decide) (Nat.le_of_ble_eq_true rfl) ?_
  rintro _ _ ⟨rfl, rfl⟩
  first | refine j_astore d_Sl_message_5 (by decide) rfl rfl ?_ | refine j_astoreq d_Sl_message_5 (by decide) rfl rfl ?_ | refine j_astoreN d_Sl_message_5 (by decide) rfl rfl ?_
  first | refine j_aload d_Sl_message_7 rfl ?_ | refine j_aloadq d_Sl_message_7 rfl ?_ | refine j_aloadN d_Sl_message_7 rfl ?_
  refine j_ifnonnull (r := none) (t := 15) d_Sl_message_9 (by decide) (fun x c => by cases c) (fun c => ?_)
  refine j_bipush (v := (-2)) d_Sl_message_12 (by decide +kernel) ?_
  exact j_iret d_Sl_message_14 rfl ⟨rfl, rfl⟩

set_option maxHeartbeats 4000000 in
set_option maxRecDepth 100000 in
theorem t_Sl_message_N {l : Launch} {D : va_G} {B nx : Nat} {σ : Sg} {κ : Kp} {g : Nat → Option va_E} (s : Nat) (hs : s < 2) (k w : Int32) (hk : k < 0) : jM (G0 l D) m_Sl_message 1 0 0 [.ref (B + 0), .int (nI s), .int k, .int w] (hC D B σ κ g, nx) (fun v h => v = some (.int (-2)) ∧ h = (hC D B σ κ g, nx)) := by
  refine jM.of (by decide +kernel) (Nat.le_of_ble_eq_true rfl) rfl ?_
  first | refine j_aload_n d_Sl_message_0 rfl ?_ | refine j_aload_nq d_Sl_message_0 rfl ?_ | refine j_aload_nN d_Sl_message_0 rfl ?_
  refine j_iload_n d_Sl_message_1 rfl ?_
  refine j_callV0 (As := [_]) G0_good G0_E d_Sl_message_2 c_Sl_64 rfl rfl (t_Sl_shardAt s hs) (hC_t (by decide)) rfl rfl (by decide) (Nat.le_of_ble_eq_true rfl) ?_
  rintro _ _ ⟨rfl, rfl⟩
  first | refine j_astore d_Sl_message_5 (by decide) rfl rfl ?_ | refine j_astoreq d_Sl_message_5 (by decide) rfl rfl ?_ | refine j_astoreN d_Sl_message_5 (by decide) rfl rfl ?_
  first | refine j_aload d_Sl_message_7 rfl ?_ | refine j_aloadq d_Sl_message_7 rfl ?_ | refine j_aloadN d_Sl_message_7 rfl ?_
  refine j_ifnonnull (r := some (aS B s + 0)) (t := 15) d_Sl_message_9 (by decide) (fun x c => ?_) (fun c => by cases c)
  first | refine j_aload d_Sl_message_15 rfl ?_ | refine j_aloadq d_Sl_message_15 rfl ?_ | refine j_aloadN d_Sl_message_15 rfl ?_
  refine j_get d_Sl_message_17 f_Sl_72 (hC_s hs (by decide)) rfl ?_
  refine j_iload_n d_Sl_message_20 rfl ?_
  refine j_callV0 (As := [_]) G0_good G0_E d_Sl_message_21 c_Sl_76 rfl rfl (t_Lo_messageAtN hs k hk) (hC_s hs (by decide)) rfl rfl (by decide) (Nat.le_of_ble_eq_true rfl) ?_
  rintro _ _ ⟨rfl, rfl⟩
  first | refine j_astore d_Sl_message_24 (by decide) rfl rfl ?_ | refine j_astoreq d_Sl_message_24 (by decide) rfl rfl ?_ | refine j_astoreN d_Sl_message_24 (by decide) rfl rfl ?_
  first | refine j_aload d_Sl_message_26 rfl ?_ | refine j_aloadq d_Sl_message_26 rfl ?_ | refine j_aloadN d_Sl_message_26 rfl ?_
  refine j_ifnonnull (r := none) (t := 36) d_Sl_message_28 (by decide) (fun x c => by cases c) (fun c => ?_)
  refine j_bipush (v := (-2)) d_Sl_message_31 (by decide +kernel) ?_
  refine j_goto (t := 42) d_Sl_message_33 (by decide) ?_
  exact j_iret d_Sl_message_42 rfl ⟨rfl, rfl⟩

set_option maxHeartbeats 4000000 in
set_option maxRecDepth 100000 in
theorem t_Sl_message_G {l : Launch} {D : va_G} {B nx : Nat} {σ : Sg} {κ : Kp} {g : Nat → Option va_E} (hb : bd σ) (s : Nat) (hs : s < 2) (h918 : σ 20 s 0 ≤ 918) (k : Nat) (w : Int32) (hk : k < 2 ^ 31) (hg : σ 20 s 0 ≤ k) : jM (G0 l D) m_Sl_message 1 0 0 [.ref (B + 0), .int (nI s), .int (nI k), .int w] (hC D B σ κ g, nx) (fun v h => v = some (.int (-2)) ∧ h = (hC D B σ κ g, nx)) := by
  refine jM.of (by decide +kernel) (Nat.le_of_ble_eq_true rfl) rfl ?_
  first | refine j_aload_n d_Sl_message_0 rfl ?_ | refine j_aload_nq d_Sl_message_0 rfl ?_ | refine j_aload_nN d_Sl_message_0 rfl ?_
  refine j_iload_n d_Sl_message_1 rfl ?_
  refine j_callV0 (As := [_]) G0_good G0_E d_Sl_message_2 c_Sl_64 rfl rfl (t_Sl_shardAt s hs) (hC_t (by decide)) rfl rfl (by decide) (Nat.le_of_ble_eq_true rfl) ?_
  rintro _ _ ⟨rfl, rfl⟩
  first | refine j_astore d_Sl_message_5 (by decide) rfl rfl ?_ | refine j_astoreq d_Sl_message_5 (by decide) rfl rfl ?_ | refine j_astoreN d_Sl_message_5 (by decide) rfl rfl ?_
  first | refine j_aload d_Sl_message_7 rfl ?_ | refine j_aloadq d_Sl_message_7 rfl ?_ | refine j_aloadN d_Sl_message_7 rfl ?_
  refine j_ifnonnull (r := some (aS B s + 0)) (t := 15) d_Sl_message_9 (by decide) (fun x c => ?_) (fun c => by cases c)
  first | refine j_aload d_Sl_message_15 rfl ?_ | refine j_aloadq d_Sl_message_15 rfl ?_ | refine j_aloadN d_Sl_message_15 rfl ?_
  refine j_get d_Sl_message_17 f_Sl_72 (hC_s hs (by decide)) rfl ?_
  refine j_iload_n d_Sl_message_20 rfl ?_
  refine j_callV0 (As := [_]) G0_good G0_E d_Sl_message_21 c_Sl_76 rfl rfl (t_Lo_messageAt hs hb h918 k hk) (hC_s hs (by decide)) rfl rfl (by decide) (Nat.le_of_ble_eq_true rfl) ?_
  rintro _ _ ⟨rfl, rfl⟩
  rw [if_neg (show ¬ k < σ 20 s 0 by omega)]
  first | refine j_astore d_Sl_message_24 (by decide) rfl rfl ?_ | refine j_astoreq d_Sl_message_24 (by decide) rfl rfl ?_ | refine j_astoreN d_Sl_message_24 (by decide) rfl rfl ?_
  first | refine j_aload d_Sl_message_26 rfl ?_ | refine j_aloadq d_Sl_message_26 rfl ?_ | refine j_aloadN d_Sl_message_26 rfl ?_
  refine j_ifnonnull (r := none) (t := 36) d_Sl_message_28 (by decide) (fun x c => by cases c) (fun c => ?_)
  refine j_bipush (v := (-2)) d_Sl_message_31 (by decide +kernel) ?_
  refine j_goto (t := 42) d_Sl_message_33 (by decide) ?_
  exact j_iret d_Sl_message_42 rfl ⟨rfl, rfl⟩

set_option maxHeartbeats 4000000 in
set_option maxRecDepth 100000 in
theorem t_Sl_message_0 {l : Launch} {D : va_G} {B nx : Nat} {σ : Sg} {κ : Kp} {g : Nat → Option va_E} (hb : bd σ) (s : Nat) (hs : s < 2) (h918 : σ 20 s 0 ≤ 918) (kr : KR B σ κ nx) (k : Nat) (hk : k < σ 20 s 0) : jM (G0 l D) m_Sl_message 1 0 0 [.ref (B + 0), .int (nI s), .int (nI k), .int (nI 0)] (hC D B σ κ g, nx) (fun v h => v = some (.int (nI (σ 21 s k))) ∧ h = (hC D B σ κ g, nx)) := by
  refine jM.of (by decide +kernel) (Nat.le_of_ble_eq_true rfl) rfl ?_
  have b20 := hb 20 s 0
  obtain ⟨a, ha, hpr, hm, em⟩ := kr.2.2.1 s k hs hk
  have em0 := em 0 (by decide)
  have em1 := em 1 (by decide)
  have em2 := em 2 (by decide)
  have em3 := em 3 (by decide)
  have em4 := em 4 (by decide)
  have em5 := em 5 (by decide)
  first | refine j_aload_n d_Sl_message_0 rfl ?_ | refine j_aload_nq d_Sl_message_0 rfl ?_ | refine j_aload_nN d_Sl_message_0 rfl ?_
  refine j_iload_n d_Sl_message_1 rfl ?_
  refine j_callV0 (As := [_]) G0_good G0_E d_Sl_message_2 c_Sl_64 rfl rfl (t_Sl_shardAt s hs) (hC_t (by decide)) rfl rfl (by decide) (Nat.le_of_ble_eq_true rfl) ?_
  rintro _ _ ⟨rfl, rfl⟩
  first | refine j_astore d_Sl_message_5 (by decide) rfl rfl ?_ | refine j_astoreq d_Sl_message_5 (by decide) rfl rfl ?_ | refine j_astoreN d_Sl_message_5 (by decide) rfl rfl ?_
  first | refine j_aload d_Sl_message_7 rfl ?_ | refine j_aloadq d_Sl_message_7 rfl ?_ | refine j_aloadN d_Sl_message_7 rfl ?_
  refine j_ifnonnull (r := some (aS B s + 0)) (t := 15) d_Sl_message_9 (by decide) (fun x c => ?_) (fun c => by cases c)
  first | refine j_aload d_Sl_message_15 rfl ?_ | refine j_aloadq d_Sl_message_15 rfl ?_ | refine j_aloadN d_Sl_message_15 rfl ?_
  refine j_get d_Sl_message_17 f_Sl_72 (hC_s hs (by decide)) rfl ?_
  refine j_iload_n d_Sl_message_20 rfl ?_
  refine j_callV0 (As := [_]) G0_good G0_E d_Sl_message_21 c_Sl_76 rfl rfl (t_Lo_messageAt hs hb h918 k (by omega)) (hC_s hs (by decide)) rfl rfl (by decide) (Nat.le_of_ble_eq_true rfl) ?_
  rintro _ _ ⟨rfl, rfl⟩
  rw [if_pos hk, ha]
  first | refine j_astore d_Sl_message_24 (by decide) rfl rfl ?_ | refine j_astoreq d_Sl_message_24 (by decide) rfl rfl ?_ | refine j_astoreN d_Sl_message_24 (by decide) rfl rfl ?_
  first | refine j_aload d_Sl_message_26 rfl ?_ | refine j_aloadq d_Sl_message_26 rfl ?_ | refine j_aloadN d_Sl_message_26 rfl ?_
  refine j_ifnonnull (r := some (a)) (t := 36) d_Sl_message_28 (by decide) (fun x c => ?_) (fun c => by cases c)
  first | refine j_aload d_Sl_message_36 rfl ?_ | refine j_aloadq d_Sl_message_36 rfl ?_ | refine j_aloadN d_Sl_message_36 rfl ?_
  refine j_iload_n d_Sl_message_38 rfl ?_
  refine j_callV0 (As := [_]) G0_good G0_E d_Sl_message_39 c_Sl_115 rfl rfl (t_Me_tell0 hm hpr) (hC_m hm hpr) rfl rfl (by decide) (Nat.le_of_ble_eq_true rfl) ?_
  rintro _ _ ⟨rfl, rfl⟩
  exact j_iret d_Sl_message_42 rfl ⟨by rw [em0], rfl⟩

set_option maxHeartbeats 4000000 in
set_option maxRecDepth 100000 in
theorem t_Sl_message_1 {l : Launch} {D : va_G} {B nx : Nat} {σ : Sg} {κ : Kp} {g : Nat → Option va_E} (hb : bd σ) (s : Nat) (hs : s < 2) (h918 : σ 20 s 0 ≤ 918) (kr : KR B σ κ nx) (k : Nat) (hk : k < σ 20 s 0) : jM (G0 l D) m_Sl_message 1 0 0 [.ref (B + 0), .int (nI s), .int (nI k), .int (nI 1)] (hC D B σ κ g, nx) (fun v h => v = some (.int (nI (σ 22 s k))) ∧ h = (hC D B σ κ g, nx)) := by
  refine jM.of (by decide +kernel) (Nat.le_of_ble_eq_true rfl) rfl ?_
  have b20 := hb 20 s 0
  obtain ⟨a, ha, hpr, hm, em⟩ := kr.2.2.1 s k hs hk
  have em0 := em 0 (by decide)
  have em1 := em 1 (by decide)
  have em2 := em 2 (by decide)
  have em3 := em 3 (by decide)
  have em4 := em 4 (by decide)
  have em5 := em 5 (by decide)
  first | refine j_aload_n d_Sl_message_0 rfl ?_ | refine j_aload_nq d_Sl_message_0 rfl ?_ | refine j_aload_nN d_Sl_message_0 rfl ?_
  refine j_iload_n d_Sl_message_1 rfl ?_
  refine j_callV0 (As := [_]) G0_good G0_E d_Sl_message_2 c_Sl_64 rfl rfl (t_Sl_shardAt s hs) (hC_t (by decide)) rfl rfl (by decide) (Nat.le_of_ble_eq_true rfl) ?_
  rintro _ _ ⟨rfl, rfl⟩
  first | refine j_astore d_Sl_message_5 (by decide) rfl rfl ?_ | refine j_astoreq d_Sl_message_5 (by decide) rfl rfl ?_ | refine j_astoreN d_Sl_message_5 (by decide) rfl rfl ?_
  first | refine j_aload d_Sl_message_7 rfl ?_ | refine j_aloadq d_Sl_message_7 rfl ?_ | refine j_aloadN d_Sl_message_7 rfl ?_
  refine j_ifnonnull (r := some (aS B s + 0)) (t := 15) d_Sl_message_9 (by decide) (fun x c => ?_) (fun c => by cases c)
  first | refine j_aload d_Sl_message_15 rfl ?_ | refine j_aloadq d_Sl_message_15 rfl ?_ | refine j_aloadN d_Sl_message_15 rfl ?_
  refine j_get d_Sl_message_17 f_Sl_72 (hC_s hs (by decide)) rfl ?_
  refine j_iload_n d_Sl_message_20 rfl ?_
  refine j_callV0 (As := [_]) G0_good G0_E d_Sl_message_21 c_Sl_76 rfl rfl (t_Lo_messageAt hs hb h918 k (by omega)) (hC_s hs (by decide)) rfl rfl (by decide) (Nat.le_of_ble_eq_true rfl) ?_
  rintro _ _ ⟨rfl, rfl⟩
  rw [if_pos hk, ha]
  first | refine j_astore d_Sl_message_24 (by decide) rfl rfl ?_ | refine j_astoreq d_Sl_message_24 (by decide) rfl rfl ?_ | refine j_astoreN d_Sl_message_24 (by decide) rfl rfl ?_
  first | refine j_aload d_Sl_message_26 rfl ?_ | refine j_aloadq d_Sl_message_26 rfl ?_ | refine j_aloadN d_Sl_message_26 rfl ?_
  refine j_ifnonnull (r := some (a)) (t := 36) d_Sl_message_28 (by decide) (fun x c => ?_) (fun c => by cases c)
  first | refine j_aload d_Sl_message_36 rfl ?_ | refine j_aloadq d_Sl_message_36 rfl ?_ | refine j_aloadN d_Sl_message_36 rfl ?_
  refine j_iload_n d_Sl_message_38 rfl ?_
  refine j_callV0 (As := [_]) G0_good G0_E d_Sl_message_39 c_Sl_115 rfl rfl (t_Me_tell1 hm hpr) (hC_m hm hpr) rfl rfl (by decide) (Nat.le_of_ble_eq_true rfl) ?_
  rintro _ _ ⟨rfl, rfl⟩
  exact j_iret d_Sl_message_42 rfl ⟨by rw [em1], rfl⟩

set_option maxHeartbeats 4000000 in
set_option maxRecDepth 100000 in
theorem t_Sl_message_2 {l : Launch} {D : va_G} {B nx : Nat} {σ : Sg} {κ : Kp} {g : Nat → Option va_E} (hb : bd σ) (s : Nat) (hs : s < 2) (h918 : σ 20 s 0 ≤ 918) (kr : KR B σ κ nx) (k : Nat) (hk : k < σ 20 s 0) : jM (G0 l D) m_Sl_message 1 0 0 [.ref (B + 0), .int (nI s), .int (nI k), .int (nI 2)] (hC D B σ κ g, nx) (fun v h => v = some (.int (nI (σ 23 s k))) ∧ h = (hC D B σ κ g, nx)) := by
  refine jM.of (by decide +kernel) (Nat.le_of_ble_eq_true rfl) rfl ?_
  have b20 := hb 20 s 0
  obtain ⟨a, ha, hpr, hm, em⟩ := kr.2.2.1 s k hs hk
  have em0 := em 0 (by decide)
  have em1 := em 1 (by decide)
  have em2 := em 2 (by decide)
  have em3 := em 3 (by decide)
  have em4 := em 4 (by decide)
  have em5 := em 5 (by decide)
  first | refine j_aload_n d_Sl_message_0 rfl ?_ | refine j_aload_nq d_Sl_message_0 rfl ?_ | refine j_aload_nN d_Sl_message_0 rfl ?_
  refine j_iload_n d_Sl_message_1 rfl ?_
  refine j_callV0 (As := [_]) G0_good G0_E d_Sl_message_2 c_Sl_64 rfl rfl (t_Sl_shardAt s hs) (hC_t (by decide)) rfl rfl (by decide) (Nat.le_of_ble_eq_true rfl) ?_
  rintro _ _ ⟨rfl, rfl⟩
  first | refine j_astore d_Sl_message_5 (by decide) rfl rfl ?_ | refine j_astoreq d_Sl_message_5 (by decide) rfl rfl ?_ | refine j_astoreN d_Sl_message_5 (by decide) rfl rfl ?_
  first | refine j_aload d_Sl_message_7 rfl ?_ | refine j_aloadq d_Sl_message_7 rfl ?_ | refine j_aloadN d_Sl_message_7 rfl ?_
  refine j_ifnonnull (r := some (aS B s + 0)) (t := 15) d_Sl_message_9 (by decide) (fun x c => ?_) (fun c => by cases c)
  first | refine j_aload d_Sl_message_15 rfl ?_ | refine j_aloadq d_Sl_message_15 rfl ?_ | refine j_aloadN d_Sl_message_15 rfl ?_
  refine j_get d_Sl_message_17 f_Sl_72 (hC_s hs (by decide)) rfl ?_
  refine j_iload_n d_Sl_message_20 rfl ?_
  refine j_callV0 (As := [_]) G0_good G0_E d_Sl_message_21 c_Sl_76 rfl rfl (t_Lo_messageAt hs hb h918 k (by omega)) (hC_s hs (by decide)) rfl rfl (by decide) (Nat.le_of_ble_eq_true rfl) ?_
  rintro _ _ ⟨rfl, rfl⟩
  rw [if_pos hk, ha]
  first | refine j_astore d_Sl_message_24 (by decide) rfl rfl ?_ | refine j_astoreq d_Sl_message_24 (by decide) rfl rfl ?_ | refine j_astoreN d_Sl_message_24 (by decide) rfl rfl ?_
  first | refine j_aload d_Sl_message_26 rfl ?_ | refine j_aloadq d_Sl_message_26 rfl ?_ | refine j_aloadN d_Sl_message_26 rfl ?_
  refine j_ifnonnull (r := some (a)) (t := 36) d_Sl_message_28 (by decide) (fun x c => ?_) (fun c => by cases c)
  first | refine j_aload d_Sl_message_36 rfl ?_ | refine j_aloadq d_Sl_message_36 rfl ?_ | refine j_aloadN d_Sl_message_36 rfl ?_
  refine j_iload_n d_Sl_message_38 rfl ?_
  refine j_callV0 (As := [_]) G0_good G0_E d_Sl_message_39 c_Sl_115 rfl rfl (t_Me_tell2 hm hpr) (hC_m hm hpr) rfl rfl (by decide) (Nat.le_of_ble_eq_true rfl) ?_
  rintro _ _ ⟨rfl, rfl⟩
  exact j_iret d_Sl_message_42 rfl ⟨by rw [em2], rfl⟩

set_option maxHeartbeats 4000000 in
set_option maxRecDepth 100000 in
theorem t_Sl_message_3 {l : Launch} {D : va_G} {B nx : Nat} {σ : Sg} {κ : Kp} {g : Nat → Option va_E} (hb : bd σ) (s : Nat) (hs : s < 2) (h918 : σ 20 s 0 ≤ 918) (kr : KR B σ κ nx) (k : Nat) (hk : k < σ 20 s 0) : jM (G0 l D) m_Sl_message 1 0 0 [.ref (B + 0), .int (nI s), .int (nI k), .int (nI 3)] (hC D B σ κ g, nx) (fun v h => v = some (.int (nI (σ 24 s k))) ∧ h = (hC D B σ κ g, nx)) := by
  refine jM.of (by decide +kernel) (Nat.le_of_ble_eq_true rfl) rfl ?_
  have b20 := hb 20 s 0
  obtain ⟨a, ha, hpr, hm, em⟩ := kr.2.2.1 s k hs hk
  have em0 := em 0 (by decide)
  have em1 := em 1 (by decide)
  have em2 := em 2 (by decide)
  have em3 := em 3 (by decide)
  have em4 := em 4 (by decide)
  have em5 := em 5 (by decide)
  first | refine j_aload_n d_Sl_message_0 rfl ?_ | refine j_aload_nq d_Sl_message_0 rfl ?_ | refine j_aload_nN d_Sl_message_0 rfl ?_
  refine j_iload_n d_Sl_message_1 rfl ?_
  refine j_callV0 (As := [_]) G0_good G0_E d_Sl_message_2 c_Sl_64 rfl rfl (t_Sl_shardAt s hs) (hC_t (by decide)) rfl rfl (by decide) (Nat.le_of_ble_eq_true rfl) ?_
  rintro _ _ ⟨rfl, rfl⟩
  first | refine j_astore d_Sl_message_5 (by decide) rfl rfl ?_ | refine j_astoreq d_Sl_message_5 (by decide) rfl rfl ?_ | refine j_astoreN d_Sl_message_5 (by decide) rfl rfl ?_
  first | refine j_aload d_Sl_message_7 rfl ?_ | refine j_aloadq d_Sl_message_7 rfl ?_ | refine j_aloadN d_Sl_message_7 rfl ?_
  refine j_ifnonnull (r := some (aS B s + 0)) (t := 15) d_Sl_message_9 (by decide) (fun x c => ?_) (fun c => by cases c)
  first | refine j_aload d_Sl_message_15 rfl ?_ | refine j_aloadq d_Sl_message_15 rfl ?_ | refine j_aloadN d_Sl_message_15 rfl ?_
  refine j_get d_Sl_message_17 f_Sl_72 (hC_s hs (by decide)) rfl ?_
  refine j_iload_n d_Sl_message_20 rfl ?_
  refine j_callV0 (As := [_]) G0_good G0_E d_Sl_message_21 c_Sl_76 rfl rfl (t_Lo_messageAt hs hb h918 k (by omega)) (hC_s hs (by decide)) rfl rfl (by decide) (Nat.le_of_ble_eq_true rfl) ?_
  rintro _ _ ⟨rfl, rfl⟩
  rw [if_pos hk, ha]
  first | refine j_astore d_Sl_message_24 (by decide) rfl rfl ?_ | refine j_astoreq d_Sl_message_24 (by decide) rfl rfl ?_ | refine j_astoreN d_Sl_message_24 (by decide) rfl rfl ?_
  first | refine j_aload d_Sl_message_26 rfl ?_ | refine j_aloadq d_Sl_message_26 rfl ?_ | refine j_aloadN d_Sl_message_26 rfl ?_
  refine j_ifnonnull (r := some (a)) (t := 36) d_Sl_message_28 (by decide) (fun x c => ?_) (fun c => by cases c)
  first | refine j_aload d_Sl_message_36 rfl ?_ | refine j_aloadq d_Sl_message_36 rfl ?_ | refine j_aloadN d_Sl_message_36 rfl ?_
  refine j_iload_n d_Sl_message_38 rfl ?_
  refine j_callV0 (As := [_]) G0_good G0_E d_Sl_message_39 c_Sl_115 rfl rfl (t_Me_tell3 hm hpr) (hC_m hm hpr) rfl rfl (by decide) (Nat.le_of_ble_eq_true rfl) ?_
  rintro _ _ ⟨rfl, rfl⟩
  exact j_iret d_Sl_message_42 rfl ⟨by rw [em3], rfl⟩

set_option maxHeartbeats 4000000 in
set_option maxRecDepth 100000 in
theorem t_Sl_message_4 {l : Launch} {D : va_G} {B nx : Nat} {σ : Sg} {κ : Kp} {g : Nat → Option va_E} (hb : bd σ) (s : Nat) (hs : s < 2) (h918 : σ 20 s 0 ≤ 918) (kr : KR B σ κ nx) (k : Nat) (hk : k < σ 20 s 0) : jM (G0 l D) m_Sl_message 1 0 0 [.ref (B + 0), .int (nI s), .int (nI k), .int (nI 4)] (hC D B σ κ g, nx) (fun v h => v = some (.int (mI (σ 25 s k))) ∧ h = (hC D B σ κ g, nx)) := by
  refine jM.of (by decide +kernel) (Nat.le_of_ble_eq_true rfl) rfl ?_
  have b20 := hb 20 s 0
  obtain ⟨a, ha, hpr, hm, em⟩ := kr.2.2.1 s k hs hk
  have em0 := em 0 (by decide)
  have em1 := em 1 (by decide)
  have em2 := em 2 (by decide)
  have em3 := em 3 (by decide)
  have em4 := em 4 (by decide)
  have em5 := em 5 (by decide)
  first | refine j_aload_n d_Sl_message_0 rfl ?_ | refine j_aload_nq d_Sl_message_0 rfl ?_ | refine j_aload_nN d_Sl_message_0 rfl ?_
  refine j_iload_n d_Sl_message_1 rfl ?_
  refine j_callV0 (As := [_]) G0_good G0_E d_Sl_message_2 c_Sl_64 rfl rfl (t_Sl_shardAt s hs) (hC_t (by decide)) rfl rfl (by decide) (Nat.le_of_ble_eq_true rfl) ?_
  rintro _ _ ⟨rfl, rfl⟩
  first | refine j_astore d_Sl_message_5 (by decide) rfl rfl ?_ | refine j_astoreq d_Sl_message_5 (by decide) rfl rfl ?_ | refine j_astoreN d_Sl_message_5 (by decide) rfl rfl ?_
  first | refine j_aload d_Sl_message_7 rfl ?_ | refine j_aloadq d_Sl_message_7 rfl ?_ | refine j_aloadN d_Sl_message_7 rfl ?_
  refine j_ifnonnull (r := some (aS B s + 0)) (t := 15) d_Sl_message_9 (by decide) (fun x c => ?_) (fun c => by cases c)
  first | refine j_aload d_Sl_message_15 rfl ?_ | refine j_aloadq d_Sl_message_15 rfl ?_ | refine j_aloadN d_Sl_message_15 rfl ?_
  refine j_get d_Sl_message_17 f_Sl_72 (hC_s hs (by decide)) rfl ?_
  refine j_iload_n d_Sl_message_20 rfl ?_
  refine j_callV0 (As := [_]) G0_good G0_E d_Sl_message_21 c_Sl_76 rfl rfl (t_Lo_messageAt hs hb h918 k (by omega)) (hC_s hs (by decide)) rfl rfl (by decide) (Nat.le_of_ble_eq_true rfl) ?_
  rintro _ _ ⟨rfl, rfl⟩
  rw [if_pos hk, ha]
  first | refine j_astore d_Sl_message_24 (by decide) rfl rfl ?_ | refine j_astoreq d_Sl_message_24 (by decide) rfl rfl ?_ | refine j_astoreN d_Sl_message_24 (by decide) rfl rfl ?_
  first | refine j_aload d_Sl_message_26 rfl ?_ | refine j_aloadq d_Sl_message_26 rfl ?_ | refine j_aloadN d_Sl_message_26 rfl ?_
  refine j_ifnonnull (r := some (a)) (t := 36) d_Sl_message_28 (by decide) (fun x c => ?_) (fun c => by cases c)
  first | refine j_aload d_Sl_message_36 rfl ?_ | refine j_aloadq d_Sl_message_36 rfl ?_ | refine j_aloadN d_Sl_message_36 rfl ?_
  refine j_iload_n d_Sl_message_38 rfl ?_
  refine j_callV0 (As := [_]) G0_good G0_E d_Sl_message_39 c_Sl_115 rfl rfl (t_Me_tell4 hm hpr) (hC_m hm hpr) rfl rfl (by decide) (Nat.le_of_ble_eq_true rfl) ?_
  rintro _ _ ⟨rfl, rfl⟩
  exact j_iret d_Sl_message_42 rfl ⟨by rw [em4], rfl⟩

set_option maxHeartbeats 4000000 in
set_option maxRecDepth 100000 in
theorem t_Sl_message_5 {l : Launch} {D : va_G} {B nx : Nat} {σ : Sg} {κ : Kp} {g : Nat → Option va_E} (hb : bd σ) (s : Nat) (hs : s < 2) (h918 : σ 20 s 0 ≤ 918) (kr : KR B σ κ nx) (k : Nat) (hk : k < σ 20 s 0) : jM (G0 l D) m_Sl_message 1 0 0 [.ref (B + 0), .int (nI s), .int (nI k), .int (nI 5)] (hC D B σ κ g, nx) (fun v h => v = some (.int (mI (σ 26 s k))) ∧ h = (hC D B σ κ g, nx)) := by
  refine jM.of (by decide +kernel) (Nat.le_of_ble_eq_true rfl) rfl ?_
  have b20 := hb 20 s 0
  obtain ⟨a, ha, hpr, hm, em⟩ := kr.2.2.1 s k hs hk
  have em0 := em 0 (by decide)
  have em1 := em 1 (by decide)
  have em2 := em 2 (by decide)
  have em3 := em 3 (by decide)
  have em4 := em 4 (by decide)
  have em5 := em 5 (by decide)
  first | refine j_aload_n d_Sl_message_0 rfl ?_ | refine j_aload_nq d_Sl_message_0 rfl ?_ | refine j_aload_nN d_Sl_message_0 rfl ?_
  refine j_iload_n d_Sl_message_1 rfl ?_
  refine j_callV0 (As := [_]) G0_good G0_E d_Sl_message_2 c_Sl_64 rfl rfl (t_Sl_shardAt s hs) (hC_t (by decide)) rfl rfl (by decide) (Nat.le_of_ble_eq_true rfl) ?_
  rintro _ _ ⟨rfl, rfl⟩
  first | refine j_astore d_Sl_message_5 (by decide) rfl rfl ?_ | refine j_astoreq d_Sl_message_5 (by decide) rfl rfl ?_ | refine j_astoreN d_Sl_message_5 (by decide) rfl rfl ?_
  first | refine j_aload d_Sl_message_7 rfl ?_ | refine j_aloadq d_Sl_message_7 rfl ?_ | refine j_aloadN d_Sl_message_7 rfl ?_
  refine j_ifnonnull (r := some (aS B s + 0)) (t := 15) d_Sl_message_9 (by decide) (fun x c => ?_) (fun c => by cases c)
  first | refine j_aload d_Sl_message_15 rfl ?_ | refine j_aloadq d_Sl_message_15 rfl ?_ | refine j_aloadN d_Sl_message_15 rfl ?_
  refine j_get d_Sl_message_17 f_Sl_72 (hC_s hs (by decide)) rfl ?_
  refine j_iload_n d_Sl_message_20 rfl ?_
  refine j_callV0 (As := [_]) G0_good G0_E d_Sl_message_21 c_Sl_76 rfl rfl (t_Lo_messageAt hs hb h918 k (by omega)) (hC_s hs (by decide)) rfl rfl (by decide) (Nat.le_of_ble_eq_true rfl) ?_
  rintro _ _ ⟨rfl, rfl⟩
  rw [if_pos hk, ha]
  first | refine j_astore d_Sl_message_24 (by decide) rfl rfl ?_ | refine j_astoreq d_Sl_message_24 (by decide) rfl rfl ?_ | refine j_astoreN d_Sl_message_24 (by decide) rfl rfl ?_
  first | refine j_aload d_Sl_message_26 rfl ?_ | refine j_aloadq d_Sl_message_26 rfl ?_ | refine j_aloadN d_Sl_message_26 rfl ?_
  refine j_ifnonnull (r := some (a)) (t := 36) d_Sl_message_28 (by decide) (fun x c => ?_) (fun c => by cases c)
  first | refine j_aload d_Sl_message_36 rfl ?_ | refine j_aloadq d_Sl_message_36 rfl ?_ | refine j_aloadN d_Sl_message_36 rfl ?_
  refine j_iload_n d_Sl_message_38 rfl ?_
  refine j_callV0 (As := [_]) G0_good G0_E d_Sl_message_39 c_Sl_115 rfl rfl (t_Me_tell5 hm hpr) (hC_m hm hpr) rfl rfl (by decide) (Nat.le_of_ble_eq_true rfl) ?_
  rintro _ _ ⟨rfl, rfl⟩
  exact j_iret d_Sl_message_42 rfl ⟨by rw [em5], rfl⟩

set_option maxHeartbeats 4000000 in
set_option maxRecDepth 100000 in
theorem t_Sl_message_W {l : Launch} {D : va_G} {B nx : Nat} {σ : Sg} {κ : Kp} {g : Nat → Option va_E} (hb : bd σ) (s : Nat) (hs : s < 2) (h918 : σ 20 s 0 ≤ 918) (kr : KR B σ κ nx) (k : Nat) (hk : k < σ 20 s 0) (w : Int32) (hout : w.toInt < 0 ∨ 5 < w.toInt) : jM (G0 l D) m_Sl_message 1 0 0 [.ref (B + 0), .int (nI s), .int (nI k), .int w] (hC D B σ κ g, nx) (fun v h => v = some (.int (-2)) ∧ h = (hC D B σ κ g, nx)) := by
  refine jM.of (by decide +kernel) (Nat.le_of_ble_eq_true rfl) rfl ?_
  have b20 := hb 20 s 0
  obtain ⟨a, ha, hpr, hm, em⟩ := kr.2.2.1 s k hs hk
  have em0 := em 0 (by decide)
  have em1 := em 1 (by decide)
  have em2 := em 2 (by decide)
  have em3 := em 3 (by decide)
  have em4 := em 4 (by decide)
  have em5 := em 5 (by decide)
  first | refine j_aload_n d_Sl_message_0 rfl ?_ | refine j_aload_nq d_Sl_message_0 rfl ?_ | refine j_aload_nN d_Sl_message_0 rfl ?_
  refine j_iload_n d_Sl_message_1 rfl ?_
  refine j_callV0 (As := [_]) G0_good G0_E d_Sl_message_2 c_Sl_64 rfl rfl (t_Sl_shardAt s hs) (hC_t (by decide)) rfl rfl (by decide) (Nat.le_of_ble_eq_true rfl) ?_
  rintro _ _ ⟨rfl, rfl⟩
  first | refine j_astore d_Sl_message_5 (by decide) rfl rfl ?_ | refine j_astoreq d_Sl_message_5 (by decide) rfl rfl ?_ | refine j_astoreN d_Sl_message_5 (by decide) rfl rfl ?_
  first | refine j_aload d_Sl_message_7 rfl ?_ | refine j_aloadq d_Sl_message_7 rfl ?_ | refine j_aloadN d_Sl_message_7 rfl ?_
  refine j_ifnonnull (r := some (aS B s + 0)) (t := 15) d_Sl_message_9 (by decide) (fun x c => ?_) (fun c => by cases c)
  first | refine j_aload d_Sl_message_15 rfl ?_ | refine j_aloadq d_Sl_message_15 rfl ?_ | refine j_aloadN d_Sl_message_15 rfl ?_
  refine j_get d_Sl_message_17 f_Sl_72 (hC_s hs (by decide)) rfl ?_
  refine j_iload_n d_Sl_message_20 rfl ?_
  refine j_callV0 (As := [_]) G0_good G0_E d_Sl_message_21 c_Sl_76 rfl rfl (t_Lo_messageAt hs hb h918 k (by omega)) (hC_s hs (by decide)) rfl rfl (by decide) (Nat.le_of_ble_eq_true rfl) ?_
  rintro _ _ ⟨rfl, rfl⟩
  rw [if_pos hk, ha]
  first | refine j_astore d_Sl_message_24 (by decide) rfl rfl ?_ | refine j_astoreq d_Sl_message_24 (by decide) rfl rfl ?_ | refine j_astoreN d_Sl_message_24 (by decide) rfl rfl ?_
  first | refine j_aload d_Sl_message_26 rfl ?_ | refine j_aloadq d_Sl_message_26 rfl ?_ | refine j_aloadN d_Sl_message_26 rfl ?_
  refine j_ifnonnull (r := some (a)) (t := 36) d_Sl_message_28 (by decide) (fun x c => ?_) (fun c => by cases c)
  first | refine j_aload d_Sl_message_36 rfl ?_ | refine j_aloadq d_Sl_message_36 rfl ?_ | refine j_aloadN d_Sl_message_36 rfl ?_
  refine j_iload_n d_Sl_message_38 rfl ?_
  refine j_callV0 (As := [_]) G0_good G0_E d_Sl_message_39 c_Sl_115 rfl rfl (t_Me_tellO w hout) (hC_m hm hpr) rfl rfl (by decide) (Nat.le_of_ble_eq_true rfl) ?_
  rintro _ _ ⟨rfl, rfl⟩
  exact j_iret d_Sl_message_42 rfl ⟨rfl, rfl⟩

set_option maxHeartbeats 4000000 in
set_option maxRecDepth 100000 in
theorem t_Sl_requests {l : Launch} {D : va_G} {B nx : Nat} {σ : Sg} {κ : Kp} {g : Nat → Option va_E} : jM (G0 l D) m_Sl_requests 1 0 0 [.ref (B + 0)] (hC D B σ κ g, nx) (fun v h => v = some (.int (nI (σ 34 0 0))) ∧ h = (hC D B σ κ g, nx)) := by
  refine jM.of (by decide +kernel) (Nat.le_of_ble_eq_true rfl) rfl ?_
  first | refine j_aload_n d_Sl_requests_0 rfl ?_ | refine j_aload_nq d_Sl_requests_0 rfl ?_ | refine j_aload_nN d_Sl_requests_0 rfl ?_
  refine j_get d_Sl_requests_1 f_Sl_28 (hC_t (by decide)) rfl ?_
  refine j_callV0 (As := []) G0_good G0_E d_Sl_requests_4 c_Sl_55 rfl rfl (t_Rb_count) (hC_t (by decide)) rfl rfl (by decide) (Nat.le_of_ble_eq_true rfl) ?_
  rintro _ _ ⟨rfl, rfl⟩
  exact j_iret d_Sl_requests_7 rfl ⟨rfl, rfl⟩

set_option maxHeartbeats 4000000 in
set_option maxRecDepth 100000 in
theorem t_Rb_tell_N {l : Launch} {D : va_G} {B nx : Nat} {σ : Sg} {κ : Kp} {g : Nat → Option va_E} (q w : Int32) (hq : q < 0) : jM (G0 l D) m_Rb_tell 1 0 0 [.ref (B + 6), .int q, .int w] (hC D B σ κ g, nx) (fun v h => v = some (.int (-2)) ∧ h = (hC D B σ κ g, nx)) := by
  refine jM.of (by decide +kernel) (Nat.le_of_ble_eq_true rfl) rfl ?_
  first | refine j_aload_n d_Rb_tell_0 rfl ?_ | refine j_aload_nq d_Rb_tell_0 rfl ?_ | refine j_aload_nN d_Rb_tell_0 rfl ?_
  refine j_iload_n d_Rb_tell_1 rfl ?_
  refine j_callV0 (As := [_]) G0_good G0_E d_Rb_tell_2 c_Rb_31 rfl rfl (t_Rb_hasN q hq) (hC_t (by decide)) rfl rfl (by decide) (Nat.le_of_ble_eq_true rfl) ?_
  rintro _ _ ⟨rfl, rfl⟩
  refine n_if_ne (t := 11) d_Rb_tell_5 (by decide) (by decide) (fun c5 => ?_) (fun c5 => ?_)
  · exact absurd rfl c5
  · refine j_bipush (v := (-2)) d_Rb_tell_8 (by decide +kernel) ?_
    exact j_iret d_Rb_tell_10 rfl ⟨rfl, rfl⟩

set_option maxHeartbeats 4000000 in
set_option maxRecDepth 100000 in
theorem t_Rb_tell_G {l : Launch} {D : va_G} {B nx : Nat} {σ : Sg} {κ : Kp} {g : Nat → Option va_E} (hb : bd σ) (h32 : σ 34 0 0 ≤ 32) (q : Nat) (w : Int32) (hq : q < 2 ^ 31) (hg : σ 34 0 0 ≤ q) : jM (G0 l D) m_Rb_tell 1 0 0 [.ref (B + 6), .int (nI q), .int w] (hC D B σ κ g, nx) (fun v h => v = some (.int (-2)) ∧ h = (hC D B σ κ g, nx)) := by
  refine jM.of (by decide +kernel) (Nat.le_of_ble_eq_true rfl) rfl ?_
  first | refine j_aload_n d_Rb_tell_0 rfl ?_ | refine j_aload_nq d_Rb_tell_0 rfl ?_ | refine j_aload_nN d_Rb_tell_0 rfl ?_
  refine j_iload_n d_Rb_tell_1 rfl ?_
  refine j_callV0 (As := [_]) G0_good G0_E d_Rb_tell_2 c_Rb_31 rfl rfl (t_Rb_has hb q hq) (hC_t (by decide)) rfl rfl (by decide) (Nat.le_of_ble_eq_true rfl) ?_
  rintro _ _ ⟨rfl, rfl⟩
  first | refine c_if_ne (t := 11) d_Rb_tell_5 (by decide) (fun c5 => ?_) (fun c5 => ?_) | refine n_if_ne (t := 11) d_Rb_tell_5 (by decide) (by omega) (fun c5 => ?_) (fun c5 => ?_) | refine j_if_ne (t := 11) d_Rb_tell_5 (by decide) (fun c5 => ?_) (fun c5 => ?_)
  · exact absurd c5 (by omega)
  · refine j_bipush (v := (-2)) d_Rb_tell_8 (by decide +kernel) ?_
    exact j_iret d_Rb_tell_10 rfl ⟨rfl, rfl⟩

set_option maxHeartbeats 4000000 in
set_option maxRecDepth 100000 in
theorem t_Rb_tell_0 {l : Launch} {D : va_G} {B nx : Nat} {σ : Sg} {κ : Kp} {g : Nat → Option va_E} (hb : bd σ) (h32 : σ 34 0 0 ≤ 32) (q : Nat) (hq : q < σ 34 0 0) : jM (G0 l D) m_Rb_tell 1 0 0 [.ref (B + 6), .int (nI q), .int (nI 0)] (hC D B σ κ g, nx) (fun v h => v = some (.int (nI (σ 5 0 q))) ∧ h = (hC D B σ κ g, nx)) := by
  refine jM.of (by decide +kernel) (Nat.le_of_ble_eq_true rfl) rfl ?_
  have b34 := hb 34 0 0
  first | refine j_aload_n d_Rb_tell_0 rfl ?_ | refine j_aload_nq d_Rb_tell_0 rfl ?_ | refine j_aload_nN d_Rb_tell_0 rfl ?_
  refine j_iload_n d_Rb_tell_1 rfl ?_
  refine j_callV0 (As := [_]) G0_good G0_E d_Rb_tell_2 c_Rb_31 rfl rfl (t_Rb_has hb q (by omega)) (hC_t (by decide)) rfl rfl (by decide) (Nat.le_of_ble_eq_true rfl) ?_
  rintro _ _ ⟨rfl, rfl⟩
  first | refine c_if_ne (t := 11) d_Rb_tell_5 (by decide) (fun c5 => ?_) (fun c5 => ?_) | refine n_if_ne (t := 11) d_Rb_tell_5 (by decide) (by omega) (fun c5 => ?_) (fun c5 => ?_) | refine j_if_ne (t := 11) d_Rb_tell_5 (by decide) (fun c5 => ?_) (fun c5 => ?_)
  · refine j_iload_n d_Rb_tell_11 rfl ?_
    refine j_tableIn (t := 44) (o := 32) d_Rb_tell_12 (by decide +kernel) (by decide +kernel) (by decide +kernel) (by decide) ?_
    first | refine j_aload_n d_Rb_tell_44 rfl ?_ | refine j_aload_nq d_Rb_tell_44 rfl ?_ | refine j_aload_nN d_Rb_tell_44 rfl ?_
    refine j_get d_Rb_tell_45 f_Rb_9 (hC_t (by decide)) rfl ?_
    refine j_iload_n d_Rb_tell_48 rfl ?_
    refine j_iald (t := 0) d_Rb_tell_49 rfl (hC_t (by decide)) rfl (by omega) (by decide) ?_
    exact j_iret d_Rb_tell_50 rfl ⟨rfl, rfl⟩
  · exfalso; first | exact c5 | omega

set_option maxHeartbeats 4000000 in
set_option maxRecDepth 100000 in
theorem t_Rb_tell_1 {l : Launch} {D : va_G} {B nx : Nat} {σ : Sg} {κ : Kp} {g : Nat → Option va_E} (hb : bd σ) (h32 : σ 34 0 0 ≤ 32) (q : Nat) (hq : q < σ 34 0 0) : jM (G0 l D) m_Rb_tell 1 0 0 [.ref (B + 6), .int (nI q), .int (nI 1)] (hC D B σ κ g, nx) (fun v h => v = some (.int (nI (σ 6 0 q))) ∧ h = (hC D B σ κ g, nx)) := by
  refine jM.of (by decide +kernel) (Nat.le_of_ble_eq_true rfl) rfl ?_
  have b34 := hb 34 0 0
  first | refine j_aload_n d_Rb_tell_0 rfl ?_ | refine j_aload_nq d_Rb_tell_0 rfl ?_ | refine j_aload_nN d_Rb_tell_0 rfl ?_
  refine j_iload_n d_Rb_tell_1 rfl ?_
  refine j_callV0 (As := [_]) G0_good G0_E d_Rb_tell_2 c_Rb_31 rfl rfl (t_Rb_has hb q (by omega)) (hC_t (by decide)) rfl rfl (by decide) (Nat.le_of_ble_eq_true rfl) ?_
  rintro _ _ ⟨rfl, rfl⟩
  first | refine c_if_ne (t := 11) d_Rb_tell_5 (by decide) (fun c5 => ?_) (fun c5 => ?_) | refine n_if_ne (t := 11) d_Rb_tell_5 (by decide) (by omega) (fun c5 => ?_) (fun c5 => ?_) | refine j_if_ne (t := 11) d_Rb_tell_5 (by decide) (fun c5 => ?_) (fun c5 => ?_)
  · refine j_iload_n d_Rb_tell_11 rfl ?_
    refine j_tableIn (t := 51) (o := 39) d_Rb_tell_12 (by decide +kernel) (by decide +kernel) (by decide +kernel) (by decide) ?_
    first | refine j_aload_n d_Rb_tell_51 rfl ?_ | refine j_aload_nq d_Rb_tell_51 rfl ?_ | refine j_aload_nN d_Rb_tell_51 rfl ?_
    refine j_get d_Rb_tell_52 f_Rb_15 (hC_t (by decide)) rfl ?_
    refine j_iload_n d_Rb_tell_55 rfl ?_
    refine j_iald (t := 0) d_Rb_tell_56 rfl (hC_t (by decide)) rfl (by omega) (by decide) ?_
    exact j_iret d_Rb_tell_57 rfl ⟨rfl, rfl⟩
  · exfalso; first | exact c5 | omega

set_option maxHeartbeats 4000000 in
set_option maxRecDepth 100000 in
theorem t_Rb_tell_2 {l : Launch} {D : va_G} {B nx : Nat} {σ : Sg} {κ : Kp} {g : Nat → Option va_E} (hb : bd σ) (h32 : σ 34 0 0 ≤ 32) (q : Nat) (hq : q < σ 34 0 0) : jM (G0 l D) m_Rb_tell 1 0 0 [.ref (B + 6), .int (nI q), .int (nI 2)] (hC D B σ κ g, nx) (fun v h => v = some (.int (nI (σ 7 0 q))) ∧ h = (hC D B σ κ g, nx)) := by
  refine jM.of (by decide +kernel) (Nat.le_of_ble_eq_true rfl) rfl ?_
  have b34 := hb 34 0 0
  first | refine j_aload_n d_Rb_tell_0 rfl ?_ | refine j_aload_nq d_Rb_tell_0 rfl ?_ | refine j_aload_nN d_Rb_tell_0 rfl ?_
  refine j_iload_n d_Rb_tell_1 rfl ?_
  refine j_callV0 (As := [_]) G0_good G0_E d_Rb_tell_2 c_Rb_31 rfl rfl (t_Rb_has hb q (by omega)) (hC_t (by decide)) rfl rfl (by decide) (Nat.le_of_ble_eq_true rfl) ?_
  rintro _ _ ⟨rfl, rfl⟩
  first | refine c_if_ne (t := 11) d_Rb_tell_5 (by decide) (fun c5 => ?_) (fun c5 => ?_) | refine n_if_ne (t := 11) d_Rb_tell_5 (by decide) (by omega) (fun c5 => ?_) (fun c5 => ?_) | refine j_if_ne (t := 11) d_Rb_tell_5 (by decide) (fun c5 => ?_) (fun c5 => ?_)
  · refine j_iload_n d_Rb_tell_11 rfl ?_
    refine j_tableIn (t := 58) (o := 46) d_Rb_tell_12 (by decide +kernel) (by decide +kernel) (by decide +kernel) (by decide) ?_
    first | refine j_aload_n d_Rb_tell_58 rfl ?_ | refine j_aload_nq d_Rb_tell_58 rfl ?_ | refine j_aload_nN d_Rb_tell_58 rfl ?_
    refine j_get d_Rb_tell_59 f_Rb_18 (hC_t (by decide)) rfl ?_
    refine j_iload_n d_Rb_tell_62 rfl ?_
    refine j_iald (t := 0) d_Rb_tell_63 rfl (hC_t (by decide)) rfl (by omega) (by decide) ?_
    exact j_iret d_Rb_tell_64 rfl ⟨rfl, rfl⟩
  · exfalso; first | exact c5 | omega

set_option maxHeartbeats 4000000 in
set_option maxRecDepth 100000 in
theorem t_Rb_tell_3 {l : Launch} {D : va_G} {B nx : Nat} {σ : Sg} {κ : Kp} {g : Nat → Option va_E} (hb : bd σ) (h32 : σ 34 0 0 ≤ 32) (q : Nat) (hq : q < σ 34 0 0) : jM (G0 l D) m_Rb_tell 1 0 0 [.ref (B + 6), .int (nI q), .int (nI 3)] (hC D B σ κ g, nx) (fun v h => v = some (.int (nI (ans σ q))) ∧ h = (hC D B σ κ g, nx)) := by
  refine jM.of (by decide +kernel) (Nat.le_of_ble_eq_true rfl) rfl ?_
  have b34 := hb 34 0 0
  first | refine j_aload_n d_Rb_tell_0 rfl ?_ | refine j_aload_nq d_Rb_tell_0 rfl ?_ | refine j_aload_nN d_Rb_tell_0 rfl ?_
  refine j_iload_n d_Rb_tell_1 rfl ?_
  refine j_callV0 (As := [_]) G0_good G0_E d_Rb_tell_2 c_Rb_31 rfl rfl (t_Rb_has hb q (by omega)) (hC_t (by decide)) rfl rfl (by decide) (Nat.le_of_ble_eq_true rfl) ?_
  rintro _ _ ⟨rfl, rfl⟩
  first | refine c_if_ne (t := 11) d_Rb_tell_5 (by decide) (fun c5 => ?_) (fun c5 => ?_) | refine n_if_ne (t := 11) d_Rb_tell_5 (by decide) (by omega) (fun c5 => ?_) (fun c5 => ?_) | refine j_if_ne (t := 11) d_Rb_tell_5 (by decide) (fun c5 => ?_) (fun c5 => ?_)
  · refine j_iload_n d_Rb_tell_11 rfl ?_
    refine j_tableIn (t := 65) (o := 53) d_Rb_tell_12 (by decide +kernel) (by decide +kernel) (by decide +kernel) (by decide) ?_
    first | refine j_aload_n d_Rb_tell_65 rfl ?_ | refine j_aload_nq d_Rb_tell_65 rfl ?_ | refine j_aload_nN d_Rb_tell_65 rfl ?_
    refine j_iload_n d_Rb_tell_66 rfl ?_
    refine j_callV0 (As := [_]) G0_good G0_E d_Rb_tell_67 c_Rb_35 rfl rfl (t_Rb_answer hb q (by omega)) (hC_t (by decide)) rfl rfl (by decide) (Nat.le_of_ble_eq_true rfl) ?_
    rintro _ _ ⟨rfl, rfl⟩
    exact j_iret d_Rb_tell_70 rfl ⟨rfl, rfl⟩
  · exfalso; first | exact c5 | omega

set_option maxHeartbeats 4000000 in
set_option maxRecDepth 100000 in
theorem t_Rb_tell_O {l : Launch} {D : va_G} {B nx : Nat} {σ : Sg} {κ : Kp} {g : Nat → Option va_E} (hb : bd σ) (h32 : σ 34 0 0 ≤ 32) (q : Nat) (hq : q < σ 34 0 0) (w : Int32) (hout : w.toInt < 0 ∨ 3 < w.toInt) : jM (G0 l D) m_Rb_tell 1 0 0 [.ref (B + 6), .int (nI q), .int w] (hC D B σ κ g, nx) (fun v h => v = some (.int (-2)) ∧ h = (hC D B σ κ g, nx)) := by
  refine jM.of (by decide +kernel) (Nat.le_of_ble_eq_true rfl) rfl ?_
  have b34 := hb 34 0 0
  first | refine j_aload_n d_Rb_tell_0 rfl ?_ | refine j_aload_nq d_Rb_tell_0 rfl ?_ | refine j_aload_nN d_Rb_tell_0 rfl ?_
  refine j_iload_n d_Rb_tell_1 rfl ?_
  refine j_callV0 (As := [_]) G0_good G0_E d_Rb_tell_2 c_Rb_31 rfl rfl (t_Rb_has hb q (by omega)) (hC_t (by decide)) rfl rfl (by decide) (Nat.le_of_ble_eq_true rfl) ?_
  rintro _ _ ⟨rfl, rfl⟩
  first | refine c_if_ne (t := 11) d_Rb_tell_5 (by decide) (fun c5 => ?_) (fun c5 => ?_) | refine n_if_ne (t := 11) d_Rb_tell_5 (by decide) (by omega) (fun c5 => ?_) (fun c5 => ?_) | refine j_if_ne (t := 11) d_Rb_tell_5 (by decide) (fun c5 => ?_) (fun c5 => ?_)
  · refine j_iload_n d_Rb_tell_11 rfl ?_
    refine j_tableOut (t := 71) d_Rb_tell_12 hout (by decide) ?_
    refine j_bipush (v := (-2)) d_Rb_tell_71 (by decide +kernel) ?_
    exact j_iret d_Rb_tell_73 rfl ⟨rfl, rfl⟩
  · exfalso; first | exact c5 | omega

set_option maxHeartbeats 4000000 in
set_option maxRecDepth 100000 in
theorem t_Sl_request_N {l : Launch} {D : va_G} {B nx : Nat} {σ : Sg} {κ : Kp} {g : Nat → Option va_E} (q w : Int32) (hq : q < 0) : jM (G0 l D) m_Sl_request 2 0 0 [.ref (B + 0), .int q, .int w] (hC D B σ κ g, nx) (fun v h => v = some (.int (-2)) ∧ h = (hC D B σ κ g, nx)) := by
  refine jM.of (by decide +kernel) (Nat.le_of_ble_eq_true rfl) rfl ?_
  first | refine j_aload_n d_Sl_request_0 rfl ?_ | refine j_aload_nq d_Sl_request_0 rfl ?_ | refine j_aload_nN d_Sl_request_0 rfl ?_
  refine j_get d_Sl_request_1 f_Sl_28 (hC_t (by decide)) rfl ?_
  refine j_iload_n d_Sl_request_4 rfl ?_
  refine j_iload_n d_Sl_request_5 rfl ?_
  refine j_callV0 (As := [_, _]) G0_good G0_E d_Sl_request_6 c_Sl_137 rfl rfl (t_Rb_tell_N q w hq) (hC_t (by decide)) rfl rfl (by decide) (Nat.le_of_ble_eq_true rfl) ?_
  rintro _ _ ⟨rfl, rfl⟩
  exact j_iret d_Sl_request_9 rfl ⟨rfl, rfl⟩

set_option maxHeartbeats 4000000 in
set_option maxRecDepth 100000 in
theorem t_Sl_request_G {l : Launch} {D : va_G} {B nx : Nat} {σ : Sg} {κ : Kp} {g : Nat → Option va_E} (hb : bd σ) (h32 : σ 34 0 0 ≤ 32) (q : Nat) (w : Int32) (hq : q < 2 ^ 31) (hg : σ 34 0 0 ≤ q) : jM (G0 l D) m_Sl_request 2 0 0 [.ref (B + 0), .int (nI q), .int w] (hC D B σ κ g, nx) (fun v h => v = some (.int (-2)) ∧ h = (hC D B σ κ g, nx)) := by
  refine jM.of (by decide +kernel) (Nat.le_of_ble_eq_true rfl) rfl ?_
  first | refine j_aload_n d_Sl_request_0 rfl ?_ | refine j_aload_nq d_Sl_request_0 rfl ?_ | refine j_aload_nN d_Sl_request_0 rfl ?_
  refine j_get d_Sl_request_1 f_Sl_28 (hC_t (by decide)) rfl ?_
  refine j_iload_n d_Sl_request_4 rfl ?_
  refine j_iload_n d_Sl_request_5 rfl ?_
  refine j_callV0 (As := [_, _]) G0_good G0_E d_Sl_request_6 c_Sl_137 rfl rfl (t_Rb_tell_G hb h32 q w hq hg) (hC_t (by decide)) rfl rfl (by decide) (Nat.le_of_ble_eq_true rfl) ?_
  rintro _ _ ⟨rfl, rfl⟩
  exact j_iret d_Sl_request_9 rfl ⟨rfl, rfl⟩

set_option maxHeartbeats 4000000 in
set_option maxRecDepth 100000 in
theorem t_Sl_request_0 {l : Launch} {D : va_G} {B nx : Nat} {σ : Sg} {κ : Kp} {g : Nat → Option va_E} (hb : bd σ) (h32 : σ 34 0 0 ≤ 32) (q : Nat) (hq : q < σ 34 0 0) : jM (G0 l D) m_Sl_request 2 0 0 [.ref (B + 0), .int (nI q), .int (nI 0)] (hC D B σ κ g, nx) (fun v h => v = some (.int (nI (σ 5 0 q))) ∧ h = (hC D B σ κ g, nx)) := by
  refine jM.of (by decide +kernel) (Nat.le_of_ble_eq_true rfl) rfl ?_
  first | refine j_aload_n d_Sl_request_0 rfl ?_ | refine j_aload_nq d_Sl_request_0 rfl ?_ | refine j_aload_nN d_Sl_request_0 rfl ?_
  refine j_get d_Sl_request_1 f_Sl_28 (hC_t (by decide)) rfl ?_
  refine j_iload_n d_Sl_request_4 rfl ?_
  refine j_iload_n d_Sl_request_5 rfl ?_
  refine j_callV0 (As := [_, _]) G0_good G0_E d_Sl_request_6 c_Sl_137 rfl rfl (t_Rb_tell_0 hb h32 q hq) (hC_t (by decide)) rfl rfl (by decide) (Nat.le_of_ble_eq_true rfl) ?_
  rintro _ _ ⟨rfl, rfl⟩
  exact j_iret d_Sl_request_9 rfl ⟨rfl, rfl⟩

set_option maxHeartbeats 4000000 in
set_option maxRecDepth 100000 in
theorem t_Sl_request_1 {l : Launch} {D : va_G} {B nx : Nat} {σ : Sg} {κ : Kp} {g : Nat → Option va_E} (hb : bd σ) (h32 : σ 34 0 0 ≤ 32) (q : Nat) (hq : q < σ 34 0 0) : jM (G0 l D) m_Sl_request 2 0 0 [.ref (B + 0), .int (nI q), .int (nI 1)] (hC D B σ κ g, nx) (fun v h => v = some (.int (nI (σ 6 0 q))) ∧ h = (hC D B σ κ g, nx)) := by
  refine jM.of (by decide +kernel) (Nat.le_of_ble_eq_true rfl) rfl ?_
  first | refine j_aload_n d_Sl_request_0 rfl ?_ | refine j_aload_nq d_Sl_request_0 rfl ?_ | refine j_aload_nN d_Sl_request_0 rfl ?_
  refine j_get d_Sl_request_1 f_Sl_28 (hC_t (by decide)) rfl ?_
  refine j_iload_n d_Sl_request_4 rfl ?_
  refine j_iload_n d_Sl_request_5 rfl ?_
  refine j_callV0 (As := [_, _]) G0_good G0_E d_Sl_request_6 c_Sl_137 rfl rfl (t_Rb_tell_1 hb h32 q hq) (hC_t (by decide)) rfl rfl (by decide) (Nat.le_of_ble_eq_true rfl) ?_
  rintro _ _ ⟨rfl, rfl⟩
  exact j_iret d_Sl_request_9 rfl ⟨rfl, rfl⟩

set_option maxHeartbeats 4000000 in
set_option maxRecDepth 100000 in
theorem t_Sl_request_2 {l : Launch} {D : va_G} {B nx : Nat} {σ : Sg} {κ : Kp} {g : Nat → Option va_E} (hb : bd σ) (h32 : σ 34 0 0 ≤ 32) (q : Nat) (hq : q < σ 34 0 0) : jM (G0 l D) m_Sl_request 2 0 0 [.ref (B + 0), .int (nI q), .int (nI 2)] (hC D B σ κ g, nx) (fun v h => v = some (.int (nI (σ 7 0 q))) ∧ h = (hC D B σ κ g, nx)) := by
  refine jM.of (by decide +kernel) (Nat.le_of_ble_eq_true rfl) rfl ?_
  first | refine j_aload_n d_Sl_request_0 rfl ?_ | refine j_aload_nq d_Sl_request_0 rfl ?_ | refine j_aload_nN d_Sl_request_0 rfl ?_
  refine j_get d_Sl_request_1 f_Sl_28 (hC_t (by decide)) rfl ?_
  refine j_iload_n d_Sl_request_4 rfl ?_
  refine j_iload_n d_Sl_request_5 rfl ?_
  refine j_callV0 (As := [_, _]) G0_good G0_E d_Sl_request_6 c_Sl_137 rfl rfl (t_Rb_tell_2 hb h32 q hq) (hC_t (by decide)) rfl rfl (by decide) (Nat.le_of_ble_eq_true rfl) ?_
  rintro _ _ ⟨rfl, rfl⟩
  exact j_iret d_Sl_request_9 rfl ⟨rfl, rfl⟩

set_option maxHeartbeats 4000000 in
set_option maxRecDepth 100000 in
theorem t_Sl_request_3 {l : Launch} {D : va_G} {B nx : Nat} {σ : Sg} {κ : Kp} {g : Nat → Option va_E} (hb : bd σ) (h32 : σ 34 0 0 ≤ 32) (q : Nat) (hq : q < σ 34 0 0) : jM (G0 l D) m_Sl_request 2 0 0 [.ref (B + 0), .int (nI q), .int (nI 3)] (hC D B σ κ g, nx) (fun v h => v = some (.int (nI (ans σ q))) ∧ h = (hC D B σ κ g, nx)) := by
  refine jM.of (by decide +kernel) (Nat.le_of_ble_eq_true rfl) rfl ?_
  first | refine j_aload_n d_Sl_request_0 rfl ?_ | refine j_aload_nq d_Sl_request_0 rfl ?_ | refine j_aload_nN d_Sl_request_0 rfl ?_
  refine j_get d_Sl_request_1 f_Sl_28 (hC_t (by decide)) rfl ?_
  refine j_iload_n d_Sl_request_4 rfl ?_
  refine j_iload_n d_Sl_request_5 rfl ?_
  refine j_callV0 (As := [_, _]) G0_good G0_E d_Sl_request_6 c_Sl_137 rfl rfl (t_Rb_tell_3 hb h32 q hq) (hC_t (by decide)) rfl rfl (by decide) (Nat.le_of_ble_eq_true rfl) ?_
  rintro _ _ ⟨rfl, rfl⟩
  exact j_iret d_Sl_request_9 rfl ⟨rfl, rfl⟩

set_option maxHeartbeats 4000000 in
set_option maxRecDepth 100000 in
theorem t_Sl_request_O {l : Launch} {D : va_G} {B nx : Nat} {σ : Sg} {κ : Kp} {g : Nat → Option va_E} (hb : bd σ) (h32 : σ 34 0 0 ≤ 32) (q : Nat) (hq : q < σ 34 0 0) (w : Int32) (hout : w.toInt < 0 ∨ 3 < w.toInt) : jM (G0 l D) m_Sl_request 2 0 0 [.ref (B + 0), .int (nI q), .int w] (hC D B σ κ g, nx) (fun v h => v = some (.int (-2)) ∧ h = (hC D B σ κ g, nx)) := by
  refine jM.of (by decide +kernel) (Nat.le_of_ble_eq_true rfl) rfl ?_
  first | refine j_aload_n d_Sl_request_0 rfl ?_ | refine j_aload_nq d_Sl_request_0 rfl ?_ | refine j_aload_nN d_Sl_request_0 rfl ?_
  refine j_get d_Sl_request_1 f_Sl_28 (hC_t (by decide)) rfl ?_
  refine j_iload_n d_Sl_request_4 rfl ?_
  refine j_iload_n d_Sl_request_5 rfl ?_
  refine j_callV0 (As := [_, _]) G0_good G0_E d_Sl_request_6 c_Sl_137 rfl rfl (t_Rb_tell_O hb h32 q hq w hout) (hC_t (by decide)) rfl rfl (by decide) (Nat.le_of_ble_eq_true rfl) ?_
  rintro _ _ ⟨rfl, rfl⟩
  exact j_iret d_Sl_request_9 rfl ⟨rfl, rfl⟩

set_option maxHeartbeats 4000000 in
set_option maxRecDepth 100000 in
theorem t_Sl_transaction_N {l : Launch} {D : va_G} {B nx : Nat} {σ : Sg} {κ : Kp} {g : Nat → Option va_E} (t : Int32) (ht : t < 0) : jM (G0 l D) m_Sl_transaction 2 0 0 [.ref (B + 0), .int t] (hC D B σ κ g, nx) (fun v h => v = some (.int (mI 0)) ∧ h = (hC D B σ κ g, nx)) := by
  refine jM.of (by decide +kernel) (Nat.le_of_ble_eq_true rfl) rfl ?_
  first | refine j_aload_n d_Sl_transaction_0 rfl ?_ | refine j_aload_nq d_Sl_transaction_0 rfl ?_ | refine j_aload_nN d_Sl_transaction_0 rfl ?_
  refine j_get d_Sl_transaction_1 f_Sl_24 (hC_t (by decide)) rfl ?_
  refine j_iload_n d_Sl_transaction_4 rfl ?_
  refine j_callV0 (As := [_]) G0_good G0_E d_Sl_transaction_5 c_Sl_140 rfl rfl (t_Tb_hasN t ht) (hC_t (by decide)) rfl rfl (by decide) (Nat.le_of_ble_eq_true rfl) ?_
  rintro _ _ ⟨rfl, rfl⟩
  refine n_if_eq (t := 22) d_Sl_transaction_8 (by decide) (by decide) (fun c8 => ?_) (fun c8 => ?_)
  · refine j_iconst (v := mI 0) d_Sl_transaction_22 (by decide +kernel) ?_
    exact j_iret d_Sl_transaction_23 rfl ⟨rfl, rfl⟩
  · exact absurd rfl c8

set_option maxHeartbeats 4000000 in
set_option maxRecDepth 100000 in
theorem t_Sl_transaction_G {l : Launch} {D : va_G} {B nx : Nat} {σ : Sg} {κ : Kp} {g : Nat → Option va_E} (hb : bd σ) (h8 : σ 33 0 0 ≤ 8) (t : Nat) (ht : t < 2 ^ 31) (hg : σ 33 0 0 ≤ t) : jM (G0 l D) m_Sl_transaction 2 0 0 [.ref (B + 0), .int (nI t)] (hC D B σ κ g, nx) (fun v h => v = some (.int (mI 0)) ∧ h = (hC D B σ κ g, nx)) := by
  refine jM.of (by decide +kernel) (Nat.le_of_ble_eq_true rfl) rfl ?_
  first | refine j_aload_n d_Sl_transaction_0 rfl ?_ | refine j_aload_nq d_Sl_transaction_0 rfl ?_ | refine j_aload_nN d_Sl_transaction_0 rfl ?_
  refine j_get d_Sl_transaction_1 f_Sl_24 (hC_t (by decide)) rfl ?_
  refine j_iload_n d_Sl_transaction_4 rfl ?_
  refine j_callV0 (As := [_]) G0_good G0_E d_Sl_transaction_5 c_Sl_140 rfl rfl (t_Tb_has hb t ht) (hC_t (by decide)) rfl rfl (by decide) (Nat.le_of_ble_eq_true rfl) ?_
  rintro _ _ ⟨rfl, rfl⟩
  first | refine c_if_eq (t := 22) d_Sl_transaction_8 (by decide) (fun c8 => ?_) (fun c8 => ?_) | refine n_if_eq (t := 22) d_Sl_transaction_8 (by decide) (by omega) (fun c8 => ?_) (fun c8 => ?_) | refine j_if_eq (t := 22) d_Sl_transaction_8 (by decide) (fun c8 => ?_) (fun c8 => ?_)
  · refine j_iconst (v := mI 0) d_Sl_transaction_22 (by decide +kernel) ?_
    exact j_iret d_Sl_transaction_23 rfl ⟨rfl, rfl⟩
  · exact absurd c8 (by omega)

set_option maxHeartbeats 4000000 in
set_option maxRecDepth 100000 in
theorem t_Sl_transaction_i {l : Launch} {D : va_G} {B nx : Nat} {σ : Sg} {κ : Kp} {g : Nat → Option va_E} (hb : bd σ) (h8 : σ 33 0 0 ≤ 8) (t : Nat) (ht : t < σ 33 0 0) : jM (G0 l D) m_Sl_transaction 2 0 0 [.ref (B + 0), .int (nI t)] (hC D B σ κ g, nx) (fun v h => v = some (.int (nI (σ 3 0 t))) ∧ h = (hC D B σ κ g, nx)) := by
  refine jM.of (by decide +kernel) (Nat.le_of_ble_eq_true rfl) rfl ?_
  first | refine j_aload_n d_Sl_transaction_0 rfl ?_ | refine j_aload_nq d_Sl_transaction_0 rfl ?_ | refine j_aload_nN d_Sl_transaction_0 rfl ?_
  refine j_get d_Sl_transaction_1 f_Sl_24 (hC_t (by decide)) rfl ?_
  refine j_iload_n d_Sl_transaction_4 rfl ?_
  refine j_callV0 (As := [_]) G0_good G0_E d_Sl_transaction_5 c_Sl_140 rfl rfl (t_Tb_has hb t (by omega)) (hC_t (by decide)) rfl rfl (by decide) (Nat.le_of_ble_eq_true rfl) ?_
  rintro _ _ ⟨rfl, rfl⟩
  first | refine c_if_eq (t := 22) d_Sl_transaction_8 (by decide) (fun c8 => ?_) (fun c8 => ?_) | refine n_if_eq (t := 22) d_Sl_transaction_8 (by decide) (by omega) (fun c8 => ?_) (fun c8 => ?_) | refine j_if_eq (t := 22) d_Sl_transaction_8 (by decide) (fun c8 => ?_) (fun c8 => ?_)
  · exfalso; first | exact c8 | omega
  · first | refine j_aload_n d_Sl_transaction_11 rfl ?_ | refine j_aload_nq d_Sl_transaction_11 rfl ?_ | refine j_aload_nN d_Sl_transaction_11 rfl ?_
    refine j_get d_Sl_transaction_12 f_Sl_24 (hC_t (by decide)) rfl ?_
    refine j_iload_n d_Sl_transaction_15 rfl ?_
    refine j_callV0 (As := [_]) G0_good G0_E d_Sl_transaction_16 c_Sl_141 rfl rfl (t_Tb_stateOf hb h8 t ht) (hC_t (by decide)) rfl rfl (by decide) (Nat.le_of_ble_eq_true rfl) ?_
    rintro _ _ ⟨rfl, rfl⟩
    refine j_goto (t := 23) d_Sl_transaction_19 (by decide) ?_
    exact j_iret d_Sl_transaction_23 rfl ⟨rfl, rfl⟩
