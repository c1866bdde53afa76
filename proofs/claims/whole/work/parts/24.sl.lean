/-! Shard, ShardLedger: the roads to the replicas, questions (g_sl.py) -/
theorem p_div {s i : Nat} (hi : i < 4) : (4 * s + i) / 4 = s := by omega
theorem p_mod {s i : Nat} (hi : i < 4) : (4 * s + i) % 4 = i := by omega

set_option maxHeartbeats 4000000 in
set_option maxRecDepth 100000 in
theorem t_Sl_shardAt {l : Launch} {D : va_G} {B nx : Nat} {σ : Sg} {κ : Kp} {g : Nat → Option va_E} (s : Nat) (hs : s < 2) : jM (G0 l D) m_Sl_shardAt 0 0 0 [.ref (B + 0), .int (nI s)] (hC D B σ κ g, nx) (fun v h => v = some (va_rf (some (aS B s + 0))) ∧ h = (hC D B σ κ g, nx)) := by
  refine jM.of (by decide +kernel) (Nat.le_of_ble_eq_true rfl) rfl ?_
  refine j_iload_n d_Sl_shardAt_0 rfl ?_
  first | refine m_if_lt (t := 18) d_Sl_shardAt_1 (by decide) (by omega) (fun c1 => ?_) (fun c1 => ?_) | refine n_if_lt (t := 18) d_Sl_shardAt_1 (by decide) (by omega) (fun c1 => ?_) (fun c1 => ?_) | refine j_if_lt (t := 18) d_Sl_shardAt_1 (by decide) (fun c1 => ?_) (fun c1 => ?_)
  · exfalso; first | exact c1 | omega
  · refine j_iload_n d_Sl_shardAt_4 rfl ?_
    refine j_iconst (v := nI 2) d_Sl_shardAt_5 (by decide +kernel) ?_
    first | refine nn_icmp_ge (t := 18) d_Sl_shardAt_6 (by decide) (by omega) (by omega) (fun c6 => ?_) (fun c6 => ?_) | refine mm_icmp_ge (t := 18) d_Sl_shardAt_6 (by decide) (by omega) (by omega) (fun c6 => ?_) (fun c6 => ?_) | refine mn_icmp_ge (t := 18) d_Sl_shardAt_6 (by decide) (by omega) (by omega) (fun c6 => ?_) (fun c6 => ?_) | refine nm_icmp_ge (t := 18) d_Sl_shardAt_6 (by decide) (by omega) (by omega) (fun c6 => ?_) (fun c6 => ?_) | refine j_icmp_ge (t := 18) d_Sl_shardAt_6 (by decide) (fun c6 => ?_) (fun c6 => ?_)
    · exfalso; first | exact c6 | omega
    · first | refine j_aload_n d_Sl_shardAt_9 rfl ?_ | refine j_aload_nq d_Sl_shardAt_9 rfl ?_ | refine j_aload_nN d_Sl_shardAt_9 rfl ?_
      refine j_get d_Sl_shardAt_10 f_Sl_17 (hC_t (by decide)) rfl ?_
      refine j_iload_n d_Sl_shardAt_13 rfl ?_
      refine j_aald (t := 5) d_Sl_shardAt_14 rfl (hC_t (by decide)) rfl (by omega) (by decide) ?_
      refine j_goto (t := 19) d_Sl_shardAt_15 (by decide) ?_
      exact j_aret d_Sl_shardAt_19 rfl ⟨by rw [if_pos hs], rfl⟩

set_option maxHeartbeats 4000000 in
set_option maxRecDepth 100000 in
theorem t_Sl_shardAtO {l : Launch} {D : va_G} {B nx : Nat} {σ : Sg} {κ : Kp} {g : Nat → Option va_E} (x : Int32) (hx : ¬ inr x 2) : jM (G0 l D) m_Sl_shardAt 0 0 0 [.ref (B + 0), .int x] (hC D B σ κ g, nx) (fun v h => v = some (va_rf none) ∧ h = (hC D B σ κ g, nx)) := by
  refine jM.of (by decide +kernel) (Nat.le_of_ble_eq_true rfl) rfl ?_
  refine j_iload_n d_Sl_shardAt_0 rfl ?_
  first | refine m_if_lt (t := 18) d_Sl_shardAt_1 (by decide) (by omega) (fun c1 => ?_) (fun c1 => ?_) | refine n_if_lt (t := 18) d_Sl_shardAt_1 (by decide) (by omega) (fun c1 => ?_) (fun c1 => ?_) | refine j_if_lt (t := 18) d_Sl_shardAt_1 (by decide) (fun c1 => ?_) (fun c1 => ?_)
  · refine j_null d_Sl_shardAt_18 ?_
    exact j_aret (r := none) d_Sl_shardAt_19 rfl ⟨rfl, rfl⟩
  · refine j_iload_n d_Sl_shardAt_4 rfl ?_
    refine j_iconst (v := nI 2) d_Sl_shardAt_5 (by decide +kernel) ?_
    first | refine nn_icmp_ge (t := 18) d_Sl_shardAt_6 (by decide) (by omega) (by omega) (fun c6 => ?_) (fun c6 => ?_) | refine mm_icmp_ge (t := 18) d_Sl_shardAt_6 (by decide) (by omega) (by omega) (fun c6 => ?_) (fun c6 => ?_) | refine mn_icmp_ge (t := 18) d_Sl_shardAt_6 (by decide) (by omega) (by omega) (fun c6 => ?_) (fun c6 => ?_) | refine nm_icmp_ge (t := 18) d_Sl_shardAt_6 (by decide) (by omega) (by omega) (fun c6 => ?_) (fun c6 => ?_) | refine j_icmp_ge (t := 18) d_Sl_shardAt_6 (by decide) (fun c6 => ?_) (fun c6 => ?_)
    · refine j_null d_Sl_shardAt_18 ?_
      exact j_aret (r := none) d_Sl_shardAt_19 rfl ⟨rfl, rfl⟩
    · exact absurd ⟨c1, c6⟩ hx

set_option maxHeartbeats 4000000 in
set_option maxRecDepth 100000 in
theorem t_Sh_replicaAt {l : Launch} {D : va_G} {B nx : Nat} {σ : Sg} {κ : Kp} {g : Nat → Option va_E} {s : Nat} (hs : s < 2) (i : Nat) (hi : i < 4) : jM (G0 l D) m_Sh_replicaAt 0 0 0 [.ref (aS B s + 0), .int (nI i)] (hC D B σ κ g, nx) (fun v h => v = some (va_rf (some (aP B (4 * s + i) + 3))) ∧ h = (hC D B σ κ g, nx)) := by
  refine jM.of (by decide +kernel) (Nat.le_of_ble_eq_true rfl) rfl ?_
  refine j_iload_n d_Sh_replicaAt_0 rfl ?_
  first | refine m_if_lt (t := 18) d_Sh_replicaAt_1 (by decide) (by omega) (fun c1 => ?_) (fun c1 => ?_) | refine n_if_lt (t := 18) d_Sh_replicaAt_1 (by decide) (by omega) (fun c1 => ?_) (fun c1 => ?_) | refine j_if_lt (t := 18) d_Sh_replicaAt_1 (by decide) (fun c1 => ?_) (fun c1 => ?_)
  · exfalso; first | exact c1 | omega
  · refine j_iload_n d_Sh_replicaAt_4 rfl ?_
    refine j_iconst (v := nI 4) d_Sh_replicaAt_5 (by decide +kernel) ?_
    first | refine nn_icmp_ge (t := 18) d_Sh_replicaAt_6 (by decide) (by omega) (by omega) (fun c6 => ?_) (fun c6 => ?_) | refine mm_icmp_ge (t := 18) d_Sh_replicaAt_6 (by decide) (by omega) (by omega) (fun c6 => ?_) (fun c6 => ?_) | refine mn_icmp_ge (t := 18) d_Sh_replicaAt_6 (by decide) (by omega) (by omega) (fun c6 => ?_) (fun c6 => ?_) | refine nm_icmp_ge (t := 18) d_Sh_replicaAt_6 (by decide) (by omega) (by omega) (fun c6 => ?_) (fun c6 => ?_) | refine j_icmp_ge (t := 18) d_Sh_replicaAt_6 (by decide) (fun c6 => ?_) (fun c6 => ?_)
    · exfalso; first | exact c6 | omega
    · first | refine j_aload_n d_Sh_replicaAt_9 rfl ?_ | refine j_aload_nq d_Sh_replicaAt_9 rfl ?_ | refine j_aload_nN d_Sh_replicaAt_9 rfl ?_
      refine j_get d_Sh_replicaAt_10 f_Sh_14 (hC_s hs (by decide)) rfl ?_
      refine j_iload_n d_Sh_replicaAt_13 rfl ?_
      refine j_aald (t := 4) d_Sh_replicaAt_14 rfl (hC_s hs (by decide)) rfl (by omega) (by decide) ?_
      refine j_goto (t := 19) d_Sh_replicaAt_15 (by decide) ?_
      exact j_aret d_Sh_replicaAt_19 rfl ⟨by rw [if_pos hi], rfl⟩

set_option maxHeartbeats 4000000 in
set_option maxRecDepth 100000 in
theorem t_Sh_replicaAtO {l : Launch} {D : va_G} {B nx : Nat} {σ : Sg} {κ : Kp} {g : Nat → Option va_E} {s : Nat} (hs : s < 2) (x : Int32) (hx : ¬ inr x 4) : jM (G0 l D) m_Sh_replicaAt 0 0 0 [.ref (aS B s + 0), .int x] (hC D B σ κ g, nx) (fun v h => v = some (va_rf none) ∧ h = (hC D B σ κ g, nx)) := by
  refine jM.of (by decide +kernel) (Nat.le_of_ble_eq_true rfl) rfl ?_
  refine j_iload_n d_Sh_replicaAt_0 rfl ?_
  first | refine m_if_lt (t := 18) d_Sh_replicaAt_1 (by decide) (by omega) (fun c1 => ?_) (fun c1 => ?_) | refine n_if_lt (t := 18) d_Sh_replicaAt_1 (by decide) (by omega) (fun c1 => ?_) (fun c1 => ?_) | refine j_if_lt (t := 18) d_Sh_replicaAt_1 (by decide) (fun c1 => ?_) (fun c1 => ?_)
  · refine j_null d_Sh_replicaAt_18 ?_
    exact j_aret (r := none) d_Sh_replicaAt_19 rfl ⟨rfl, rfl⟩
  · refine j_iload_n d_Sh_replicaAt_4 rfl ?_
    refine j_iconst (v := nI 4) d_Sh_replicaAt_5 (by decide +kernel) ?_
    first | refine nn_icmp_ge (t := 18) d_Sh_replicaAt_6 (by decide) (by omega) (by omega) (fun c6 => ?_) (fun c6 => ?_) | refine mm_icmp_ge (t := 18) d_Sh_replicaAt_6 (by decide) (by omega) (by omega) (fun c6 => ?_) (fun c6 => ?_) | refine mn_icmp_ge (t := 18) d_Sh_replicaAt_6 (by decide) (by omega) (by omega) (fun c6 => ?_) (fun c6 => ?_) | refine nm_icmp_ge (t := 18) d_Sh_replicaAt_6 (by decide) (by omega) (by omega) (fun c6 => ?_) (fun c6 => ?_) | refine j_icmp_ge (t := 18) d_Sh_replicaAt_6 (by decide) (fun c6 => ?_) (fun c6 => ?_)
    · refine j_null d_Sh_replicaAt_18 ?_
      exact j_aret (r := none) d_Sh_replicaAt_19 rfl ⟨rfl, rfl⟩
    · exact absurd ⟨c1, c6⟩ hx

set_option maxHeartbeats 4000000 in
set_option maxRecDepth 100000 in
theorem t_Sl_replicaAt {l : Launch} {D : va_G} {B nx : Nat} {σ : Sg} {κ : Kp} {g : Nat → Option va_E} (s i : Nat) (hs : s < 2) (hi : i < 4) : jM (G0 l D) m_Sl_replicaAt 1 0 0 [.ref (B + 0), .int (nI s), .int (nI i)] (hC D B σ κ g, nx) (fun v h => v = some (va_rf (some (aP B (4 * s + i) + 3))) ∧ h = (hC D B σ κ g, nx)) := by
  refine jM.of (by decide +kernel) (Nat.le_of_ble_eq_true rfl) rfl ?_
  first | refine j_aload_n d_Sl_replicaAt_0 rfl ?_ | refine j_aload_nq d_Sl_replicaAt_0 rfl ?_ | refine j_aload_nN d_Sl_replicaAt_0 rfl ?_
  refine j_iload_n d_Sl_replicaAt_1 rfl ?_
  refine j_callV0 (As := [_]) G0_good G0_E d_Sl_replicaAt_2 c_Sl_64 rfl rfl (t_Sl_shardAt s hs) (hC_t (by decide)) rfl rfl (by decide) (Nat.le_of_ble_eq_true rfl) ?_
  rintro _ _ ⟨rfl, rfl⟩
  first | refine j_astore_n d_Sl_replicaAt_5 (by decide) rfl rfl ?_ | refine j_astore_nq d_Sl_replicaAt_5 (by decide) rfl rfl ?_ | refine j_astore_nN d_Sl_replicaAt_5 (by decide) rfl rfl ?_
  first | refine j_aload_n d_Sl_replicaAt_6 rfl ?_ | refine j_aload_nq d_Sl_replicaAt_6 rfl ?_ | refine j_aload_nN d_Sl_replicaAt_6 rfl ?_
  refine j_ifnonnull (r := some (aS B s + 0)) (t := 14) d_Sl_replicaAt_7 (by decide) (fun x c => ?_) (fun c => by cases c)
  first | refine j_aload_n d_Sl_replicaAt_14 rfl ?_ | refine j_aload_nq d_Sl_replicaAt_14 rfl ?_ | refine j_aload_nN d_Sl_replicaAt_14 rfl ?_
  refine j_iload_n d_Sl_replicaAt_15 rfl ?_
  refine j_callV0 (As := [_]) G0_good G0_E d_Sl_replicaAt_16 c_Sl_68 rfl rfl (t_Sh_replicaAt hs i hi) (hC_s hs (by decide)) rfl rfl (by decide) (Nat.le_of_ble_eq_true rfl) ?_
  rintro _ _ ⟨rfl, rfl⟩
  first | exact j_aret d_Sl_replicaAt_19 rfl ⟨rfl, rfl⟩ | exact j_aret (r := none) d_Sl_replicaAt_19 rfl ⟨rfl, rfl⟩

set_option maxHeartbeats 4000000 in
set_option maxRecDepth 100000 in
theorem t_Sl_replicaAtO1 {l : Launch} {D : va_G} {B nx : Nat} {σ : Sg} {κ : Kp} {g : Nat → Option va_E} (x y : Int32) (hx : ¬ inr x 2) : jM (G0 l D) m_Sl_replicaAt 1 0 0 [.ref (B + 0), .int x, .int y] (hC D B σ κ g, nx) (fun v h => v = some (va_rf none) ∧ h = (hC D B σ κ g, nx)) := by
  refine jM.of (by decide +kernel) (Nat.le_of_ble_eq_true rfl) rfl ?_
  first | refine j_aload_n d_Sl_replicaAt_0 rfl ?_ | refine j_aload_nq d_Sl_replicaAt_0 rfl ?_ | refine j_aload_nN d_Sl_replicaAt_0 rfl ?_
  refine j_iload_n d_Sl_replicaAt_1 rfl ?_
  refine j_callV0 (As := [_]) G0_good G0_E d_Sl_replicaAt_2 c_Sl_64 rfl rfl (t_Sl_shardAtO x hx) (hC_t (by decide)) rfl rfl (by decide) (Nat.le_of_ble_eq_true rfl) ?_
  rintro _ _ ⟨rfl, rfl⟩
  first | refine j_astore_n d_Sl_replicaAt_5 (by decide) rfl rfl ?_ | refine j_astore_nq d_Sl_replicaAt_5 (by decide) rfl rfl ?_ | refine j_astore_nN d_Sl_replicaAt_5 (by decide) rfl rfl ?_
  first | refine j_aload_n d_Sl_replicaAt_6 rfl ?_ | refine j_aload_nq d_Sl_replicaAt_6 rfl ?_ | refine j_aload_nN d_Sl_replicaAt_6 rfl ?_
  refine j_ifnonnull (r := none) (t := 14) d_Sl_replicaAt_7 (by decide) (fun x c => by cases c) (fun c => ?_)
  refine j_null d_Sl_replicaAt_10 ?_
  refine j_goto (t := 19) d_Sl_replicaAt_11 (by decide) ?_
  exact j_aret (r := none) d_Sl_replicaAt_19 rfl ⟨rfl, rfl⟩

set_option maxHeartbeats 4000000 in
set_option maxRecDepth 100000 in
theorem t_Sl_replicaAtO2 {l : Launch} {D : va_G} {B nx : Nat} {σ : Sg} {κ : Kp} {g : Nat → Option va_E} (s : Nat) (hs : s < 2) (y : Int32) (hy : ¬ inr y 4) : jM (G0 l D) m_Sl_replicaAt 1 0 0 [.ref (B + 0), .int (nI s), .int y] (hC D B σ κ g, nx) (fun v h => v = some (va_rf none) ∧ h = (hC D B σ κ g, nx)) := by
  refine jM.of (by decide +kernel) (Nat.le_of_ble_eq_true rfl) rfl ?_
  first | refine j_aload_n d_Sl_replicaAt_0 rfl ?_ | refine j_aload_nq d_Sl_replicaAt_0 rfl ?_ | refine j_aload_nN d_Sl_replicaAt_0 rfl ?_
  refine j_iload_n d_Sl_replicaAt_1 rfl ?_
  refine j_callV0 (As := [_]) G0_good G0_E d_Sl_replicaAt_2 c_Sl_64 rfl rfl (t_Sl_shardAt s hs) (hC_t (by decide)) rfl rfl (by decide) (Nat.le_of_ble_eq_true rfl) ?_
  rintro _ _ ⟨rfl, rfl⟩
  first | refine j_astore_n d_Sl_replicaAt_5 (by decide) rfl rfl ?_ | refine j_astore_nq d_Sl_replicaAt_5 (by decide) rfl rfl ?_ | refine j_astore_nN d_Sl_replicaAt_5 (by decide) rfl rfl ?_
  first | refine j_aload_n d_Sl_replicaAt_6 rfl ?_ | refine j_aload_nq d_Sl_replicaAt_6 rfl ?_ | refine j_aload_nN d_Sl_replicaAt_6 rfl ?_
  refine j_ifnonnull (r := some (aS B s + 0)) (t := 14) d_Sl_replicaAt_7 (by decide) (fun x c => ?_) (fun c => by cases c)
  first | refine j_aload_n d_Sl_replicaAt_14 rfl ?_ | refine j_aload_nq d_Sl_replicaAt_14 rfl ?_ | refine j_aload_nN d_Sl_replicaAt_14 rfl ?_
  refine j_iload_n d_Sl_replicaAt_15 rfl ?_
  refine j_callV0 (As := [_]) G0_good G0_E d_Sl_replicaAt_16 c_Sl_68 rfl rfl (t_Sh_replicaAtO hs y hy) (hC_s hs (by decide)) rfl rfl (by decide) (Nat.le_of_ble_eq_true rfl) ?_
  rintro _ _ ⟨rfl, rfl⟩
  exact j_aret (r := none) d_Sl_replicaAt_19 rfl ⟨rfl, rfl⟩
