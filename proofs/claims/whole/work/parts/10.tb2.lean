/-! TransactionBook, second part (g_tb2.py) -/
def am (σ : Sg) (s : Nat) : Nat := if s = 0 then 0 else σ 4 0 (s - 1)
/-- a new transaction -/
def sAdd (σ : Sg) (f s b : Nat) : Sg := U (U (U (U (U (U σ 1 0 (σ 33 0 0) f) 2 0 (σ 33 0 0) s) 3 0 (σ 33 0 0) 0) 4 0 (4 + 2 * σ 33 0 0) b) 4 0 (4 + 2 * σ 33 0 0 + 1) (σ 4 0 f + am σ s - b)) 33 0 0 (σ 33 0 0 + 1)
theorem t_Tb_sumM {l : Launch} {D : va_G} {B nx : Nat} {σ : Sg} {κ : Kp} {g : Nat → Option va_E} (f s : Nat) (hf : f < 20) (hs : s < 20) : jM (G0 l D) m_Tb_sum 1 0 0 [.ref (B + 1), .int (nI f), .int (mI (s + 1))] (hC D B σ κ g, nx) (fun v h => v = some (.int (nI (σ 4 0 f + σ 4 0 s))) ∧ h = (hC D B σ κ g, nx)) := by
  rw [mI_succ]; exact t_Tb_sum f s hf hs

set_option maxHeartbeats 4000000 in
set_option maxRecDepth 100000 in
theorem t_Tb_addM {l : Launch} {D : va_G} {B nx : Nat} {σ : Sg} {κ : Kp} {g : Nat → Option va_E} (hb : bd σ) (h8 : σ 33 0 0 < 8) (f s b : Nat) (hf : f < 4 + 2 * σ 33 0 0) (hs : s < 4 + 2 * σ 33 0 0) (hbs : b ≤ σ 4 0 f + am σ (s + 1)) : jM (G0 l D) m_Tb_add 3 0 0 [.ref (B + 1), .int (nI f), .int (mI (s + 1)), .int (nI b)] (hC D B σ κ g, nx) (fun v h => v = some (.int (nI (σ 33 0 0))) ∧ h = (hC D B (sAdd σ f (s + 1) b) κ g, nx)) := by
  refine jM.of (by decide +kernel) (Nat.le_of_ble_eq_true rfl) rfl ?_
  have b33 := hb 33 0 0
  have b4 := hb 4 0 f
  have b5 := hb 4 0 s
  first | refine j_aload_n d_Tb_add_0 rfl ?_ | refine j_aload_nq d_Tb_add_0 rfl ?_ | refine j_aload_nN d_Tb_add_0 rfl ?_
  refine j_callV0 (As := []) G0_good G0_E d_Tb_add_1 c_Tb_36 rfl rfl (t_Tb_isFull hb) (hC_t (by decide)) rfl rfl (by decide) (Nat.le_of_ble_eq_true rfl) ?_
  rintro _ _ ⟨rfl, rfl⟩
  first | refine c_if_eq (t := 10) d_Tb_add_4 (by decide) (fun c4 => ?_) (fun c4 => ?_) | refine n_if_eq (t := 10) d_Tb_add_4 (by decide) (by omega) (fun c4 => ?_) (fun c4 => ?_) | refine j_if_eq (t := 10) d_Tb_add_4 (by decide) (fun c4 => ?_) (fun c4 => ?_)
  · first | refine j_aload_n d_Tb_add_10 rfl ?_ | refine j_aload_nq d_Tb_add_10 rfl ?_ | refine j_aload_nN d_Tb_add_10 rfl ?_
    refine j_get d_Tb_add_11 f_Tb_24 (hC_t (by decide)) rfl ?_
    refine j_istore d_Tb_add_14 (by decide) rfl rfl ?_
    first | refine j_aload_n d_Tb_add_16 rfl ?_ | refine j_aload_nq d_Tb_add_16 rfl ?_ | refine j_aload_nN d_Tb_add_16 rfl ?_
    refine j_get d_Tb_add_17 f_Tb_9 (hC_t (by decide)) rfl ?_
    refine j_iload d_Tb_add_20 rfl ?_
    refine j_iload_n d_Tb_add_22 rfl ?_
    refine j_iast (t := 0) d_Tb_add_23 rfl (hC_t (by decide)) rfl (by omega) (by decide) (J.hq w1 ?_)
    first | refine j_aload_n d_Tb_add_24 rfl ?_ | refine j_aload_nq d_Tb_add_24 rfl ?_ | refine j_aload_nN d_Tb_add_24 rfl ?_
    refine j_get d_Tb_add_25 f_Tb_15 (hC_t (by decide)) rfl ?_
    refine j_iload d_Tb_add_28 rfl ?_
    refine j_iload_n d_Tb_add_30 rfl ?_
    refine j_iast (t := 0) d_Tb_add_31 rfl (hC_t (by decide)) rfl (by omega) (by decide) (J.hq w2 ?_)
    first | refine j_aload_n d_Tb_add_32 rfl ?_ | refine j_aload_nq d_Tb_add_32 rfl ?_ | refine j_aload_nN d_Tb_add_32 rfl ?_
    refine j_get d_Tb_add_33 f_Tb_18 (hC_t (by decide)) rfl ?_
    refine j_iload d_Tb_add_36 rfl ?_
    refine j_iconst (v := nI 0) d_Tb_add_38 (by decide +kernel) ?_
    refine j_iast (t := 0) d_Tb_add_39 rfl (hC_t (by decide)) rfl (by omega) (by decide) (J.hq w3 ?_)
    first | refine j_aload_n d_Tb_add_40 rfl ?_ | refine j_aload_nq d_Tb_add_40 rfl ?_ | refine j_aload_nN d_Tb_add_40 rfl ?_
    refine j_get d_Tb_add_41 f_Tb_21 (hC_t (by decide)) rfl ?_
    refine j_iload d_Tb_add_44 rfl ?_
    refine j_callS0 (As := [_]) G0_good G0_E d_Tb_add_46 c_Tb_40 rfl rfl rfl (t_Tb_evenOutput (σ 33 0 0)) (by decide) (Nat.le_of_ble_eq_true rfl) ?_
    rintro _ _ ⟨rfl, rfl⟩
    refine j_iload_n d_Tb_add_49 rfl ?_
    refine j_iast (t := 0) d_Tb_add_50 rfl (hC_t (by decide)) rfl (by omega) (by decide) (J.hq w4 ?_)
    first | refine j_aload_n d_Tb_add_51 rfl ?_ | refine j_aload_nq d_Tb_add_51 rfl ?_ | refine j_aload_nN d_Tb_add_51 rfl ?_
    refine j_get d_Tb_add_52 f_Tb_21 (hC_t (by decide)) rfl ?_
    refine j_iload d_Tb_add_55 rfl ?_
    refine j_callS0 (As := [_]) G0_good G0_E d_Tb_add_57 c_Tb_40 rfl rfl rfl (t_Tb_evenOutput (σ 33 0 0)) (by decide) (Nat.le_of_ble_eq_true rfl) ?_
    rintro _ _ ⟨rfl, rfl⟩
    refine j_iconst (v := nI 1) d_Tb_add_60 (by decide +kernel) ?_
    refine jn_iadd d_Tb_add_61 ?_
    first | refine j_aload_n d_Tb_add_62 rfl ?_ | refine j_aload_nq d_Tb_add_62 rfl ?_ | refine j_aload_nN d_Tb_add_62 rfl ?_
    refine j_iload_n d_Tb_add_63 rfl ?_
    refine j_iload_n d_Tb_add_64 rfl ?_
    refine j_callV0 (As := [_, _]) G0_good G0_E d_Tb_add_65 c_Tb_32 rfl rfl (t_Tb_sumM f s (by omega) (by omega)) (hC_t (by decide)) rfl rfl (by decide) (Nat.le_of_ble_eq_true rfl) ?_
    rintro _ _ ⟨rfl, rfl⟩
    rw [show (U (U (U (U σ 1 0 (σ 33 0 0) f) 2 0 (σ 33 0 0) (s + 1)) 3 0 (σ 33 0 0) 0) 4 0 (4 + 2 * σ 33 0 0) b) 4 0 f + (U (U (U (U σ 1 0 (σ 33 0 0) f) 2 0 (σ 33 0 0) (s + 1)) 3 0 (σ 33 0 0) 0) 4 0 (4 + 2 * σ 33 0 0) b) 4 0 s = σ 4 0 f + am σ (s + 1) by
      rw [U_at, U_at, if_neg (by omega), if_neg (by omega), U_ne (by decide), U_ne (by decide), U_ne (by decide)]; rfl]
    refine j_iload_n d_Tb_add_68 rfl ?_
    refine jn_isub d_Tb_add_69 (by omega) ?_
    refine j_iast (t := 0) d_Tb_add_70 rfl (hC_t (by decide)) rfl (by omega) (by decide) (J.hq w4 ?_)
    first | refine j_aload_n d_Tb_add_71 rfl ?_ | refine j_aload_nq d_Tb_add_71 rfl ?_ | refine j_aload_nN d_Tb_add_71 rfl ?_
    refine j_dup d_Tb_add_72 rfl ?_
    refine j_get d_Tb_add_73 f_Tb_24 (hC_t (by decide)) rfl ?_
    refine j_iconst (v := nI 1) d_Tb_add_76 (by decide +kernel) ?_
    refine jn_iadd d_Tb_add_77 ?_
    refine j_put d_Tb_add_78 p_Tb_24 (hC_t (by decide)) rfl (by first | rfl | decide +kernel) (Nat.le_of_ble_eq_true rfl) (J.hq w33 ?_)
    refine j_iload d_Tb_add_81 rfl ?_
    exact j_iret d_Tb_add_83 rfl ⟨rfl, rfl⟩
  · exfalso; first | exact c4 | omega

set_option maxHeartbeats 4000000 in
set_option maxRecDepth 100000 in
theorem t_Tb_addN {l : Launch} {D : va_G} {B nx : Nat} {σ : Sg} {κ : Kp} {g : Nat → Option va_E} (hb : bd σ) (h8 : σ 33 0 0 < 8) (f s b : Nat) (hf : f < 4 + 2 * σ 33 0 0) (hs : s < 4 + 2 * σ 33 0 0) (hbs : b ≤ σ 4 0 f + am σ (0)) : jM (G0 l D) m_Tb_add 3 0 0 [.ref (B + 1), .int (nI f), .int (mI (0)), .int (nI b)] (hC D B σ κ g, nx) (fun v h => v = some (.int (nI (σ 33 0 0))) ∧ h = (hC D B (sAdd σ f (0) b) κ g, nx)) := by
  refine jM.of (by decide +kernel) (Nat.le_of_ble_eq_true rfl) rfl ?_
  have b33 := hb 33 0 0
  have b4 := hb 4 0 f
  have b5 := hb 4 0 s
  first | refine j_aload_n d_Tb_add_0 rfl ?_ | refine j_aload_nq d_Tb_add_0 rfl ?_ | refine j_aload_nN d_Tb_add_0 rfl ?_
  refine j_callV0 (As := []) G0_good G0_E d_Tb_add_1 c_Tb_36 rfl rfl (t_Tb_isFull hb) (hC_t (by decide)) rfl rfl (by decide) (Nat.le_of_ble_eq_true rfl) ?_
  rintro _ _ ⟨rfl, rfl⟩
  first | refine c_if_eq (t := 10) d_Tb_add_4 (by decide) (fun c4 => ?_) (fun c4 => ?_) | refine n_if_eq (t := 10) d_Tb_add_4 (by decide) (by omega) (fun c4 => ?_) (fun c4 => ?_) | refine j_if_eq (t := 10) d_Tb_add_4 (by decide) (fun c4 => ?_) (fun c4 => ?_)
  · first | refine j_aload_n d_Tb_add_10 rfl ?_ | refine j_aload_nq d_Tb_add_10 rfl ?_ | refine j_aload_nN d_Tb_add_10 rfl ?_
    refine j_get d_Tb_add_11 f_Tb_24 (hC_t (by decide)) rfl ?_
    refine j_istore d_Tb_add_14 (by decide) rfl rfl ?_
    first | refine j_aload_n d_Tb_add_16 rfl ?_ | refine j_aload_nq d_Tb_add_16 rfl ?_ | refine j_aload_nN d_Tb_add_16 rfl ?_
    refine j_get d_Tb_add_17 f_Tb_9 (hC_t (by decide)) rfl ?_
    refine j_iload d_Tb_add_20 rfl ?_
    refine j_iload_n d_Tb_add_22 rfl ?_
    refine j_iast (t := 0) d_Tb_add_23 rfl (hC_t (by decide)) rfl (by omega) (by decide) (J.hq w1 ?_)
    first | refine j_aload_n d_Tb_add_24 rfl ?_ | refine j_aload_nq d_Tb_add_24 rfl ?_ | refine j_aload_nN d_Tb_add_24 rfl ?_
    refine j_get d_Tb_add_25 f_Tb_15 (hC_t (by decide)) rfl ?_
    refine j_iload d_Tb_add_28 rfl ?_
    refine j_iload_n d_Tb_add_30 rfl ?_
    refine j_iast (t := 0) d_Tb_add_31 rfl (hC_t (by decide)) rfl (by omega) (by decide) (J.hq w2 ?_)
    first | refine j_aload_n d_Tb_add_32 rfl ?_ | refine j_aload_nq d_Tb_add_32 rfl ?_ | refine j_aload_nN d_Tb_add_32 rfl ?_
    refine j_get d_Tb_add_33 f_Tb_18 (hC_t (by decide)) rfl ?_
    refine j_iload d_Tb_add_36 rfl ?_
    refine j_iconst (v := nI 0) d_Tb_add_38 (by decide +kernel) ?_
    refine j_iast (t := 0) d_Tb_add_39 rfl (hC_t (by decide)) rfl (by omega) (by decide) (J.hq w3 ?_)
    first | refine j_aload_n d_Tb_add_40 rfl ?_ | refine j_aload_nq d_Tb_add_40 rfl ?_ | refine j_aload_nN d_Tb_add_40 rfl ?_
    refine j_get d_Tb_add_41 f_Tb_21 (hC_t (by decide)) rfl ?_
    refine j_iload d_Tb_add_44 rfl ?_
    refine j_callS0 (As := [_]) G0_good G0_E d_Tb_add_46 c_Tb_40 rfl rfl rfl (t_Tb_evenOutput (σ 33 0 0)) (by decide) (Nat.le_of_ble_eq_true rfl) ?_
    rintro _ _ ⟨rfl, rfl⟩
    refine j_iload_n d_Tb_add_49 rfl ?_
    refine j_iast (t := 0) d_Tb_add_50 rfl (hC_t (by decide)) rfl (by omega) (by decide) (J.hq w4 ?_)
    first | refine j_aload_n d_Tb_add_51 rfl ?_ | refine j_aload_nq d_Tb_add_51 rfl ?_ | refine j_aload_nN d_Tb_add_51 rfl ?_
    refine j_get d_Tb_add_52 f_Tb_21 (hC_t (by decide)) rfl ?_
    refine j_iload d_Tb_add_55 rfl ?_
    refine j_callS0 (As := [_]) G0_good G0_E d_Tb_add_57 c_Tb_40 rfl rfl rfl (t_Tb_evenOutput (σ 33 0 0)) (by decide) (Nat.le_of_ble_eq_true rfl) ?_
    rintro _ _ ⟨rfl, rfl⟩
    refine j_iconst (v := nI 1) d_Tb_add_60 (by decide +kernel) ?_
    refine jn_iadd d_Tb_add_61 ?_
    first | refine j_aload_n d_Tb_add_62 rfl ?_ | refine j_aload_nq d_Tb_add_62 rfl ?_ | refine j_aload_nN d_Tb_add_62 rfl ?_
    refine j_iload_n d_Tb_add_63 rfl ?_
    refine j_iload_n d_Tb_add_64 rfl ?_
    refine j_callV0 (As := [_, _]) G0_good G0_E d_Tb_add_65 c_Tb_32 rfl rfl (t_Tb_sumN f (by omega)) (hC_t (by decide)) rfl rfl (by decide) (Nat.le_of_ble_eq_true rfl) ?_
    rintro _ _ ⟨rfl, rfl⟩
    rw [show (U (U (U (U σ 1 0 (σ 33 0 0) f) 2 0 (σ 33 0 0) 0) 3 0 (σ 33 0 0) 0) 4 0 (4 + 2 * σ 33 0 0) b) 4 0 f + 0 = σ 4 0 f + am σ 0 by
      rw [U_at, if_neg (by omega), U_ne (by decide), U_ne (by decide), U_ne (by decide)]; rfl]
    refine j_iload_n d_Tb_add_68 rfl ?_
    refine jn_isub d_Tb_add_69 (by omega) ?_
    refine j_iast (t := 0) d_Tb_add_70 rfl (hC_t (by decide)) rfl (by omega) (by decide) (J.hq w4 ?_)
    first | refine j_aload_n d_Tb_add_71 rfl ?_ | refine j_aload_nq d_Tb_add_71 rfl ?_ | refine j_aload_nN d_Tb_add_71 rfl ?_
    refine j_dup d_Tb_add_72 rfl ?_
    refine j_get d_Tb_add_73 f_Tb_24 (hC_t (by decide)) rfl ?_
    refine j_iconst (v := nI 1) d_Tb_add_76 (by decide +kernel) ?_
    refine jn_iadd d_Tb_add_77 ?_
    refine j_put d_Tb_add_78 p_Tb_24 (hC_t (by decide)) rfl (by first | rfl | decide +kernel) (Nat.le_of_ble_eq_true rfl) (J.hq w33 ?_)
    refine j_iload d_Tb_add_81 rfl ?_
    exact j_iret d_Tb_add_83 rfl ⟨rfl, rfl⟩
  · exfalso; first | exact c4 | omega

set_option maxHeartbeats 4000000 in
set_option maxRecDepth 100000 in
theorem t_Tb_stateOf {l : Launch} {D : va_G} {B nx : Nat} {σ : Sg} {κ : Kp} {g : Nat → Option va_E} (hb : bd σ) (h8 : σ 33 0 0 ≤ 8) (t : Nat) (ht : t < σ 33 0 0) : jM (G0 l D) m_Tb_stateOf 1 0 0 [.ref (B + 1), .int (nI t)] (hC D B σ κ g, nx) (fun v h => v = some (.int (nI (σ 3 0 t))) ∧ h = (hC D B σ κ g, nx)) := by
  refine jM.of (by decide +kernel) (Nat.le_of_ble_eq_true rfl) rfl ?_
  have b33 := hb 33 0 0
  first | refine j_aload_n d_Tb_stateOf_0 rfl ?_ | refine j_aload_nq d_Tb_stateOf_0 rfl ?_ | refine j_aload_nN d_Tb_stateOf_0 rfl ?_
  refine j_iload_n d_Tb_stateOf_1 rfl ?_
  refine j_callV0 (As := [_]) G0_good G0_E d_Tb_stateOf_2 c_Tb_44 rfl rfl (t_Tb_has hb t (by omega)) (hC_t (by decide)) rfl rfl (by decide) (Nat.le_of_ble_eq_true rfl) ?_
  rintro _ _ ⟨rfl, rfl⟩
  first | refine c_if_eq (t := 17) d_Tb_stateOf_5 (by decide) (fun c5 => ?_) (fun c5 => ?_) | refine n_if_eq (t := 17) d_Tb_stateOf_5 (by decide) (by omega) (fun c5 => ?_) (fun c5 => ?_) | refine j_if_eq (t := 17) d_Tb_stateOf_5 (by decide) (fun c5 => ?_) (fun c5 => ?_)
  · exfalso; first | exact c5 | omega
  · first | refine j_aload_n d_Tb_stateOf_8 rfl ?_ | refine j_aload_nq d_Tb_stateOf_8 rfl ?_ | refine j_aload_nN d_Tb_stateOf_8 rfl ?_
    refine j_get d_Tb_stateOf_9 f_Tb_18 (hC_t (by decide)) rfl ?_
    refine j_iload_n d_Tb_stateOf_12 rfl ?_
    refine j_iald (t := 0) d_Tb_stateOf_13 rfl (hC_t (by decide)) rfl (by omega) (by decide) ?_
    refine j_goto (t := 18) d_Tb_stateOf_14 (by decide) ?_
    exact j_iret d_Tb_stateOf_18 rfl ⟨rfl, rfl⟩

set_option maxHeartbeats 4000000 in
set_option maxRecDepth 100000 in
theorem t_Tb_setState {l : Launch} {D : va_G} {B nx : Nat} {σ : Sg} {κ : Kp} {g : Nat → Option va_E} (hb : bd σ) (h8 : σ 33 0 0 ≤ 8) (t x : Nat) (ht : t < σ 33 0 0) : jM (G0 l D) m_Tb_setState 1 0 0 [.ref (B + 1), .int (nI t), .int (nI x)] (hC D B σ κ g, nx) (fun v h => v = none ∧ h = (hC D B (U σ 3 0 t x) κ g, nx)) := by
  refine jM.of (by decide +kernel) (Nat.le_of_ble_eq_true rfl) rfl ?_
  have b33 := hb 33 0 0
  first | refine j_aload_n d_Tb_setState_0 rfl ?_ | refine j_aload_nq d_Tb_setState_0 rfl ?_ | refine j_aload_nN d_Tb_setState_0 rfl ?_
  refine j_iload_n d_Tb_setState_1 rfl ?_
  refine j_callV0 (As := [_]) G0_good G0_E d_Tb_setState_2 c_Tb_44 rfl rfl (t_Tb_has hb t (by omega)) (hC_t (by decide)) rfl rfl (by decide) (Nat.le_of_ble_eq_true rfl) ?_
  rintro _ _ ⟨rfl, rfl⟩
  first | refine c_if_eq (t := 15) d_Tb_setState_5 (by decide) (fun c5 => ?_) (fun c5 => ?_) | refine n_if_eq (t := 15) d_Tb_setState_5 (by decide) (by omega) (fun c5 => ?_) (fun c5 => ?_) | refine j_if_eq (t := 15) d_Tb_setState_5 (by decide) (fun c5 => ?_) (fun c5 => ?_)
  · exfalso; first | exact c5 | omega
  · first | refine j_aload_n d_Tb_setState_8 rfl ?_ | refine j_aload_nq d_Tb_setState_8 rfl ?_ | refine j_aload_nN d_Tb_setState_8 rfl ?_
    refine j_get d_Tb_setState_9 f_Tb_18 (hC_t (by decide)) rfl ?_
    refine j_iload_n d_Tb_setState_12 rfl ?_
    refine j_iload_n d_Tb_setState_13 rfl ?_
    refine j_iast (t := 0) d_Tb_setState_14 rfl (hC_t (by decide)) rfl (by omega) (by decide) (J.hq w3 ?_)
    exact j_vret d_Tb_setState_15 rfl ⟨rfl, rfl⟩

theorem mI_pos {a : Nat} (h : ¬ a = 0) : mI a = nI (a - 1) := by
  obtain ⟨b, rfl⟩ := Nat.exists_eq_succ_of_ne_zero h
  exact mI_succ b
/-- a transaction has an input in a shard -/
def inS (σ : Sg) (t s : Nat) : Prop := σ 1 0 t % 2 = s ∨ (σ 2 0 t ≠ 0 ∧ (σ 2 0 t - 1) % 2 = s)

set_option maxHeartbeats 4000000 in
set_option maxRecDepth 100000 in
theorem t_Tb_isInput {l : Launch} {D : va_G} {B nx : Nat} {σ : Sg} {κ : Kp} {g : Nat → Option va_E} (hb : bd σ) (h8 : σ 33 0 0 ≤ 8) (t n : Nat) (ht : t < σ 33 0 0) (hn : n < 20) : jM (G0 l D) m_Tb_isInput 0 0 0 [.ref (B + 1), .int (nI t), .int (nI n)] (hC D B σ κ g, nx) (fun v h => v = some (.int (cI (σ 1 0 t = n ∨ σ 2 0 t = n + 1))) ∧ h = (hC D B σ κ g, nx)) := by
  refine jM.of (by decide +kernel) (Nat.le_of_ble_eq_true rfl) rfl ?_
  have b33 := hb 33 0 0
  have b1 := hb 1 0 t
  have b2 := hb 2 0 t
  refine j_iload_n d_Tb_isInput_0 rfl ?_
  first | refine m_if_lt (t := 41) d_Tb_isInput_1 (by decide) (by omega) (fun c1 => ?_) (fun c1 => ?_) | refine n_if_lt (t := 41) d_Tb_isInput_1 (by decide) (by omega) (fun c1 => ?_) (fun c1 => ?_) | refine j_if_lt (t := 41) d_Tb_isInput_1 (by decide) (fun c1 => ?_) (fun c1 => ?_)
  · exfalso; first | exact c1 | omega
  · refine j_iload_n d_Tb_isInput_4 rfl ?_
    first | refine j_aload_n d_Tb_isInput_5 rfl ?_ | refine j_aload_nq d_Tb_isInput_5 rfl ?_ | refine j_aload_nN d_Tb_isInput_5 rfl ?_
    refine j_get d_Tb_isInput_6 f_Tb_24 (hC_t (by decide)) rfl ?_
    first | refine nn_icmp_ge (t := 41) d_Tb_isInput_9 (by decide) (by omega) (by omega) (fun c9 => ?_) (fun c9 => ?_) | refine mm_icmp_ge (t := 41) d_Tb_isInput_9 (by decide) (by omega) (by omega) (fun c9 => ?_) (fun c9 => ?_) | refine mn_icmp_ge (t := 41) d_Tb_isInput_9 (by decide) (by omega) (by omega) (fun c9 => ?_) (fun c9 => ?_) | refine nm_icmp_ge (t := 41) d_Tb_isInput_9 (by decide) (by omega) (by omega) (fun c9 => ?_) (fun c9 => ?_) | refine j_icmp_ge (t := 41) d_Tb_isInput_9 (by decide) (fun c9 => ?_) (fun c9 => ?_)
    · exfalso; first | exact c9 | omega
    · refine j_iload_n d_Tb_isInput_12 rfl ?_
      refine j_iconst (v := mI 0) d_Tb_isInput_13 (by decide +kernel) ?_
      first | refine nn_icmp_eq (t := 41) d_Tb_isInput_14 (by decide) (by omega) (by omega) (fun c14 => ?_) (fun c14 => ?_) | refine mm_icmp_eq (t := 41) d_Tb_isInput_14 (by decide) (by omega) (by omega) (fun c14 => ?_) (fun c14 => ?_) | refine mn_icmp_eq (t := 41) d_Tb_isInput_14 (by decide) (by omega) (by omega) (fun c14 => ?_) (fun c14 => ?_) | refine nm_icmp_eq (t := 41) d_Tb_isInput_14 (by decide) (by omega) (by omega) (fun c14 => ?_) (fun c14 => ?_) | refine j_icmp_eq (t := 41) d_Tb_isInput_14 (by decide) (fun c14 => ?_) (fun c14 => ?_)
      · exfalso; first | exact c14 | omega
      · first | refine j_aload_n d_Tb_isInput_17 rfl ?_ | refine j_aload_nq d_Tb_isInput_17 rfl ?_ | refine j_aload_nN d_Tb_isInput_17 rfl ?_
        refine j_get d_Tb_isInput_18 f_Tb_9 (hC_t (by decide)) rfl ?_
        refine j_iload_n d_Tb_isInput_21 rfl ?_
        refine j_iald (t := 0) d_Tb_isInput_22 rfl (hC_t (by decide)) rfl (by omega) (by decide) ?_
        refine j_iload_n d_Tb_isInput_23 rfl ?_
        first | refine nn_icmp_eq (t := 37) d_Tb_isInput_24 (by decide) (by omega) (by omega) (fun c24 => ?_) (fun c24 => ?_) | refine mm_icmp_eq (t := 37) d_Tb_isInput_24 (by decide) (by omega) (by omega) (fun c24 => ?_) (fun c24 => ?_) | refine mn_icmp_eq (t := 37) d_Tb_isInput_24 (by decide) (by omega) (by omega) (fun c24 => ?_) (fun c24 => ?_) | refine nm_icmp_eq (t := 37) d_Tb_isInput_24 (by decide) (by omega) (by omega) (fun c24 => ?_) (fun c24 => ?_) | refine j_icmp_eq (t := 37) d_Tb_isInput_24 (by decide) (fun c24 => ?_) (fun c24 => ?_)
        · refine j_iconst (v := nI 1) d_Tb_isInput_37 (by decide +kernel) ?_
          refine j_goto (t := 42) d_Tb_isInput_38 (by decide) ?_
          first | exact jc_t d_Tb_isInput_42 rfl (by omega) rfl | exact jc_f d_Tb_isInput_42 rfl (by omega) rfl | exact jc_c d_Tb_isInput_42 rfl Iff.rfl rfl | exact j_zret d_Tb_isInput_42 rfl (by decide +kernel) ⟨rfl, rfl⟩
        · first | refine j_aload_n d_Tb_isInput_27 rfl ?_ | refine j_aload_nq d_Tb_isInput_27 rfl ?_ | refine j_aload_nN d_Tb_isInput_27 rfl ?_
          refine j_get d_Tb_isInput_28 f_Tb_15 (hC_t (by decide)) rfl ?_
          refine j_iload_n d_Tb_isInput_31 rfl ?_
          refine j_iald (t := 0) d_Tb_isInput_32 rfl (hC_t (by decide)) rfl (by omega) (by decide) ?_
          refine j_iload_n d_Tb_isInput_33 rfl ?_
          first | refine nn_icmp_ne (t := 41) d_Tb_isInput_34 (by decide) (by omega) (by omega) (fun c34 => ?_) (fun c34 => ?_) | refine mm_icmp_ne (t := 41) d_Tb_isInput_34 (by decide) (by omega) (by omega) (fun c34 => ?_) (fun c34 => ?_) | refine mn_icmp_ne (t := 41) d_Tb_isInput_34 (by decide) (by omega) (by omega) (fun c34 => ?_) (fun c34 => ?_) | refine nm_icmp_ne (t := 41) d_Tb_isInput_34 (by decide) (by omega) (by omega) (fun c34 => ?_) (fun c34 => ?_) | refine j_icmp_ne (t := 41) d_Tb_isInput_34 (by decide) (fun c34 => ?_) (fun c34 => ?_)
          · refine j_iconst (v := nI 0) d_Tb_isInput_41 (by decide +kernel) ?_
            first | exact jc_t d_Tb_isInput_42 rfl (by omega) rfl | exact jc_f d_Tb_isInput_42 rfl (by omega) rfl | exact jc_c d_Tb_isInput_42 rfl Iff.rfl rfl | exact j_zret d_Tb_isInput_42 rfl (by decide +kernel) ⟨rfl, rfl⟩
          · refine j_iconst (v := nI 1) d_Tb_isInput_37 (by decide +kernel) ?_
            refine j_goto (t := 42) d_Tb_isInput_38 (by decide) ?_
            first | exact jc_t d_Tb_isInput_42 rfl (by omega) rfl | exact jc_f d_Tb_isInput_42 rfl (by omega) rfl | exact jc_c d_Tb_isInput_42 rfl Iff.rfl rfl | exact j_zret d_Tb_isInput_42 rfl (by decide +kernel) ⟨rfl, rfl⟩

set_option maxHeartbeats 4000000 in
set_option maxRecDepth 100000 in
theorem t_Tb_isMade {l : Launch} {D : va_G} {B nx : Nat} {σ : Sg} {κ : Kp} {g : Nat → Option va_E} (hb : bd σ) (t n : Nat) (ht : t < 100) (hn : n < 20) : jM (G0 l D) m_Tb_isMade 0 0 0 [.ref (B + 1), .int (nI t), .int (nI n)] (hC D B σ κ g, nx) (fun v h => v = some (.int (cI (4 ≤ n ∧ (n - 4) / 2 = t ∧ 0 < σ 4 0 n))) ∧ h = (hC D B σ κ g, nx)) := by
  refine jM.of (by decide +kernel) (Nat.le_of_ble_eq_true rfl) rfl ?_
  have b4 := hb 4 0 n
  refine j_iload_n d_Tb_isMade_0 rfl ?_
  refine j_iconst (v := nI 4) d_Tb_isMade_1 (by decide +kernel) ?_
  first | refine nn_icmp_lt (t := 33) d_Tb_isMade_2 (by decide) (by omega) (by omega) (fun c2 => ?_) (fun c2 => ?_) | refine mm_icmp_lt (t := 33) d_Tb_isMade_2 (by decide) (by omega) (by omega) (fun c2 => ?_) (fun c2 => ?_) | refine mn_icmp_lt (t := 33) d_Tb_isMade_2 (by decide) (by omega) (by omega) (fun c2 => ?_) (fun c2 => ?_) | refine nm_icmp_lt (t := 33) d_Tb_isMade_2 (by decide) (by omega) (by omega) (fun c2 => ?_) (fun c2 => ?_) | refine j_icmp_lt (t := 33) d_Tb_isMade_2 (by decide) (fun c2 => ?_) (fun c2 => ?_)
  · refine j_iconst (v := nI 0) d_Tb_isMade_33 (by decide +kernel) ?_
    first | exact jc_t d_Tb_isMade_34 rfl (by omega) rfl | exact jc_f d_Tb_isMade_34 rfl (by omega) rfl | exact jc_c d_Tb_isMade_34 rfl Iff.rfl rfl | exact j_zret d_Tb_isMade_34 rfl (by decide +kernel) ⟨rfl, rfl⟩
  · refine j_iload_n d_Tb_isMade_5 rfl ?_
    refine j_bipush (v := nI 20) d_Tb_isMade_6 (by decide +kernel) ?_
    first | refine nn_icmp_ge (t := 33) d_Tb_isMade_8 (by decide) (by omega) (by omega) (fun c8 => ?_) (fun c8 => ?_) | refine mm_icmp_ge (t := 33) d_Tb_isMade_8 (by decide) (by omega) (by omega) (fun c8 => ?_) (fun c8 => ?_) | refine mn_icmp_ge (t := 33) d_Tb_isMade_8 (by decide) (by omega) (by omega) (fun c8 => ?_) (fun c8 => ?_) | refine nm_icmp_ge (t := 33) d_Tb_isMade_8 (by decide) (by omega) (by omega) (fun c8 => ?_) (fun c8 => ?_) | refine j_icmp_ge (t := 33) d_Tb_isMade_8 (by decide) (fun c8 => ?_) (fun c8 => ?_)
    · exfalso; first | exact c8 | omega
    · refine j_iload_n d_Tb_isMade_11 rfl ?_
      refine j_iconst (v := nI 4) d_Tb_isMade_12 (by decide +kernel) ?_
      refine jn_isub d_Tb_isMade_13 (by omega) ?_
      refine j_iconst (v := nI 2) d_Tb_isMade_14 (by decide +kernel) ?_
      refine jn_idiv d_Tb_isMade_15 (by omega) (by decide) (by decide) ?_
      refine j_iload_n d_Tb_isMade_16 rfl ?_
      first | refine nn_icmp_ne (t := 33) d_Tb_isMade_17 (by decide) (by omega) (by omega) (fun c17 => ?_) (fun c17 => ?_) | refine mm_icmp_ne (t := 33) d_Tb_isMade_17 (by decide) (by omega) (by omega) (fun c17 => ?_) (fun c17 => ?_) | refine mn_icmp_ne (t := 33) d_Tb_isMade_17 (by decide) (by omega) (by omega) (fun c17 => ?_) (fun c17 => ?_) | refine nm_icmp_ne (t := 33) d_Tb_isMade_17 (by decide) (by omega) (by omega) (fun c17 => ?_) (fun c17 => ?_) | refine j_icmp_ne (t := 33) d_Tb_isMade_17 (by decide) (fun c17 => ?_) (fun c17 => ?_)
      · refine j_iconst (v := nI 0) d_Tb_isMade_33 (by decide +kernel) ?_
        first | exact jc_t d_Tb_isMade_34 rfl (by omega) rfl | exact jc_f d_Tb_isMade_34 rfl (by omega) rfl | exact jc_c d_Tb_isMade_34 rfl Iff.rfl rfl | exact j_zret d_Tb_isMade_34 rfl (by decide +kernel) ⟨rfl, rfl⟩
      · first | refine j_aload_n d_Tb_isMade_20 rfl ?_ | refine j_aload_nq d_Tb_isMade_20 rfl ?_ | refine j_aload_nN d_Tb_isMade_20 rfl ?_
        refine j_get d_Tb_isMade_21 f_Tb_21 (hC_t (by decide)) rfl ?_
        refine j_iload_n d_Tb_isMade_24 rfl ?_
        refine j_iald (t := 0) d_Tb_isMade_25 rfl (hC_t (by decide)) rfl (by omega) (by decide) ?_
        first | refine n_if_le (t := 33) d_Tb_isMade_26 (by decide) (by omega) (fun c26 => ?_) (fun c26 => ?_) | refine j_if_le (t := 33) d_Tb_isMade_26 (by decide) (fun c26 => ?_) (fun c26 => ?_)
        · refine j_iconst (v := nI 0) d_Tb_isMade_33 (by decide +kernel) ?_
          first | exact jc_t d_Tb_isMade_34 rfl (by omega) rfl | exact jc_f d_Tb_isMade_34 rfl (by omega) rfl | exact jc_c d_Tb_isMade_34 rfl Iff.rfl rfl | exact j_zret d_Tb_isMade_34 rfl (by decide +kernel) ⟨rfl, rfl⟩
        · refine j_iconst (v := nI 1) d_Tb_isMade_29 (by decide +kernel) ?_
          refine j_goto (t := 34) d_Tb_isMade_30 (by decide) ?_
          first | exact jc_t d_Tb_isMade_34 rfl (by omega) rfl | exact jc_f d_Tb_isMade_34 rfl (by omega) rfl | exact jc_c d_Tb_isMade_34 rfl Iff.rfl rfl | exact j_zret d_Tb_isMade_34 rfl (by decide +kernel) ⟨rfl, rfl⟩

set_option maxHeartbeats 4000000 in
set_option maxRecDepth 100000 in
theorem t_Tb_hasInputIn {l : Launch} {D : va_G} {B nx : Nat} {σ : Sg} {κ : Kp} {g : Nat → Option va_E} (hb : bd σ) (h8 : σ 33 0 0 ≤ 8) (t s : Nat) (ht : t < σ 33 0 0) (hs : s < 2) : jM (G0 l D) m_Tb_hasInputIn 1 0 0 [.ref (B + 1), .int (nI t), .int (nI s)] (hC D B σ κ g, nx) (fun v h => v = some (.int (cI (inS σ t s))) ∧ h = (hC D B σ κ g, nx)) := by
  refine jM.of (by decide +kernel) (Nat.le_of_ble_eq_true rfl) rfl ?_
  have b33 := hb 33 0 0
  have b1 := hb 1 0 t
  have b2 := hb 2 0 t
  first | refine j_aload_n d_Tb_hasInputIn_0 rfl ?_ | refine j_aload_nq d_Tb_hasInputIn_0 rfl ?_ | refine j_aload_nN d_Tb_hasInputIn_0 rfl ?_
  refine j_iload_n d_Tb_hasInputIn_1 rfl ?_
  refine j_callV0 (As := [_]) G0_good G0_E d_Tb_hasInputIn_2 c_Tb_44 rfl rfl (t_Tb_has hb t (by omega)) (hC_t (by decide)) rfl rfl (by decide) (Nat.le_of_ble_eq_true rfl) ?_
  rintro _ _ ⟨rfl, rfl⟩
  first | refine c_if_eq (t := 46) d_Tb_hasInputIn_5 (by decide) (fun c5 => ?_) (fun c5 => ?_) | refine n_if_eq (t := 46) d_Tb_hasInputIn_5 (by decide) (by omega) (fun c5 => ?_) (fun c5 => ?_) | refine j_if_eq (t := 46) d_Tb_hasInputIn_5 (by decide) (fun c5 => ?_) (fun c5 => ?_)
  · exfalso; first | exact c5 | omega
  · first | refine j_aload_n d_Tb_hasInputIn_8 rfl ?_ | refine j_aload_nq d_Tb_hasInputIn_8 rfl ?_ | refine j_aload_nN d_Tb_hasInputIn_8 rfl ?_
    refine j_get d_Tb_hasInputIn_9 f_Tb_9 (hC_t (by decide)) rfl ?_
    refine j_iload_n d_Tb_hasInputIn_12 rfl ?_
    refine j_iald (t := 0) d_Tb_hasInputIn_13 rfl (hC_t (by decide)) rfl (by omega) (by decide) ?_
    refine j_iconst (v := nI 2) d_Tb_hasInputIn_14 (by decide +kernel) ?_
    refine jn_irem d_Tb_hasInputIn_15 (by omega) (by decide) (by decide) ?_
    refine j_iload_n d_Tb_hasInputIn_16 rfl ?_
    first | refine nn_icmp_eq (t := 42) d_Tb_hasInputIn_17 (by decide) (by omega) (by omega) (fun c17 => ?_) (fun c17 => ?_) | refine mm_icmp_eq (t := 42) d_Tb_hasInputIn_17 (by decide) (by omega) (by omega) (fun c17 => ?_) (fun c17 => ?_) | refine mn_icmp_eq (t := 42) d_Tb_hasInputIn_17 (by decide) (by omega) (by omega) (fun c17 => ?_) (fun c17 => ?_) | refine nm_icmp_eq (t := 42) d_Tb_hasInputIn_17 (by decide) (by omega) (by omega) (fun c17 => ?_) (fun c17 => ?_) | refine j_icmp_eq (t := 42) d_Tb_hasInputIn_17 (by decide) (fun c17 => ?_) (fun c17 => ?_)
    · refine j_iconst (v := nI 1) d_Tb_hasInputIn_42 (by decide +kernel) ?_
      refine j_goto (t := 47) d_Tb_hasInputIn_43 (by decide) ?_
      first | exact jc_t d_Tb_hasInputIn_47 rfl (Or.inl c17) rfl | exact jc_t d_Tb_hasInputIn_47 rfl (Or.inr ⟨c27, c39⟩) rfl | exact jc_f d_Tb_hasInputIn_47 rfl (by unfold inS; omega) rfl
    · first | refine j_aload_n d_Tb_hasInputIn_20 rfl ?_ | refine j_aload_nq d_Tb_hasInputIn_20 rfl ?_ | refine j_aload_nN d_Tb_hasInputIn_20 rfl ?_
      refine j_get d_Tb_hasInputIn_21 f_Tb_15 (hC_t (by decide)) rfl ?_
      refine j_iload_n d_Tb_hasInputIn_24 rfl ?_
      refine j_iald (t := 0) d_Tb_hasInputIn_25 rfl (hC_t (by decide)) rfl (by omega) (by decide) ?_
      refine j_iconst (v := mI 0) d_Tb_hasInputIn_26 (by decide +kernel) ?_
      first | refine nn_icmp_eq (t := 46) d_Tb_hasInputIn_27 (by decide) (by omega) (by omega) (fun c27 => ?_) (fun c27 => ?_) | refine mm_icmp_eq (t := 46) d_Tb_hasInputIn_27 (by decide) (by omega) (by omega) (fun c27 => ?_) (fun c27 => ?_) | refine mn_icmp_eq (t := 46) d_Tb_hasInputIn_27 (by decide) (by omega) (by omega) (fun c27 => ?_) (fun c27 => ?_) | refine nm_icmp_eq (t := 46) d_Tb_hasInputIn_27 (by decide) (by omega) (by omega) (fun c27 => ?_) (fun c27 => ?_) | refine j_icmp_eq (t := 46) d_Tb_hasInputIn_27 (by decide) (fun c27 => ?_) (fun c27 => ?_)
      · refine j_iconst (v := nI 0) d_Tb_hasInputIn_46 (by decide +kernel) ?_
        first | exact jc_t d_Tb_hasInputIn_47 rfl (Or.inl c17) rfl | exact jc_t d_Tb_hasInputIn_47 rfl (Or.inr ⟨c27, c39⟩) rfl | exact jc_f d_Tb_hasInputIn_47 rfl (by unfold inS; omega) rfl
      · first | refine j_aload_n d_Tb_hasInputIn_30 rfl ?_ | refine j_aload_nq d_Tb_hasInputIn_30 rfl ?_ | refine j_aload_nN d_Tb_hasInputIn_30 rfl ?_
        refine j_get d_Tb_hasInputIn_31 f_Tb_15 (hC_t (by decide)) rfl ?_
        refine j_iload_n d_Tb_hasInputIn_34 rfl ?_
        refine j_iald (t := 0) d_Tb_hasInputIn_35 rfl (hC_t (by decide)) rfl (by omega) (by decide) ?_
        rw [mI_pos c27]
        refine j_iconst (v := nI 2) d_Tb_hasInputIn_36 (by decide +kernel) ?_
        refine jn_irem d_Tb_hasInputIn_37 (by omega) (by decide) (by decide) ?_
        refine j_iload_n d_Tb_hasInputIn_38 rfl ?_
        first | refine nn_icmp_ne (t := 46) d_Tb_hasInputIn_39 (by decide) (by omega) (by omega) (fun c39 => ?_) (fun c39 => ?_) | refine mm_icmp_ne (t := 46) d_Tb_hasInputIn_39 (by decide) (by omega) (by omega) (fun c39 => ?_) (fun c39 => ?_) | refine mn_icmp_ne (t := 46) d_Tb_hasInputIn_39 (by decide) (by omega) (by omega) (fun c39 => ?_) (fun c39 => ?_) | refine nm_icmp_ne (t := 46) d_Tb_hasInputIn_39 (by decide) (by omega) (by omega) (fun c39 => ?_) (fun c39 => ?_) | refine j_icmp_ne (t := 46) d_Tb_hasInputIn_39 (by decide) (fun c39 => ?_) (fun c39 => ?_)
        · refine j_iconst (v := nI 0) d_Tb_hasInputIn_46 (by decide +kernel) ?_
          first | exact jc_t d_Tb_hasInputIn_47 rfl (Or.inl c17) rfl | exact jc_t d_Tb_hasInputIn_47 rfl (Or.inr ⟨c27, c39⟩) rfl | exact jc_f d_Tb_hasInputIn_47 rfl (by unfold inS; omega) rfl
        · refine j_iconst (v := nI 1) d_Tb_hasInputIn_42 (by decide +kernel) ?_
          refine j_goto (t := 47) d_Tb_hasInputIn_43 (by decide) ?_
          first | exact jc_t d_Tb_hasInputIn_47 rfl (Or.inl c17) rfl | exact jc_t d_Tb_hasInputIn_47 rfl (Or.inr ⟨c27, c39⟩) rfl | exact jc_f d_Tb_hasInputIn_47 rfl (by unfold inS; omega) rfl

set_option maxHeartbeats 4000000 in
set_option maxRecDepth 100000 in
theorem t_Tb_hasOutputIn {l : Launch} {D : va_G} {B nx : Nat} {σ : Sg} {κ : Kp} {g : Nat → Option va_E} (hb : bd σ) (t s : Nat) (ht : t < 8) (hs : s < 2) : jM (G0 l D) m_Tb_hasOutputIn 1 0 0 [.ref (B + 1), .int (nI t), .int (nI s)] (hC D B σ κ g, nx) (fun v h => v = some (.int (cI (0 < σ 4 0 (4 + 2 * t + s)))) ∧ h = (hC D B σ κ g, nx)) := by
  refine jM.of (by decide +kernel) (Nat.le_of_ble_eq_true rfl) rfl ?_
  have b4 := hb 4 0 (4 + 2 * t + s)
  first | refine j_aload_n d_Tb_hasOutputIn_0 rfl ?_ | refine j_aload_nq d_Tb_hasOutputIn_0 rfl ?_ | refine j_aload_nN d_Tb_hasOutputIn_0 rfl ?_
  refine j_iload_n d_Tb_hasOutputIn_1 rfl ?_
  refine j_callS0 (As := [_]) G0_good G0_E d_Tb_hasOutputIn_2 c_Tb_40 rfl rfl rfl (t_Tb_evenOutput t) (by decide) (Nat.le_of_ble_eq_true rfl) ?_
  rintro _ _ ⟨rfl, rfl⟩
  refine j_iload_n d_Tb_hasOutputIn_5 rfl ?_
  refine jn_iadd d_Tb_hasOutputIn_6 ?_
  refine j_callV0 (As := [_]) G0_good G0_E d_Tb_hasOutputIn_7 c_Tb_47 rfl rfl (t_Tb_amountOf (4 + 2 * t + s) (by omega)) (hC_t (by decide)) rfl rfl (by decide) (Nat.le_of_ble_eq_true rfl) ?_
  rintro _ _ ⟨rfl, rfl⟩
  first | refine n_if_le (t := 17) d_Tb_hasOutputIn_10 (by decide) (by omega) (fun c10 => ?_) (fun c10 => ?_) | refine j_if_le (t := 17) d_Tb_hasOutputIn_10 (by decide) (fun c10 => ?_) (fun c10 => ?_)
  · refine j_iconst (v := nI 0) d_Tb_hasOutputIn_17 (by decide +kernel) ?_
    first | exact jc_t d_Tb_hasOutputIn_18 rfl (by omega) rfl | exact jc_f d_Tb_hasOutputIn_18 rfl (by omega) rfl | exact jc_c d_Tb_hasOutputIn_18 rfl Iff.rfl rfl | exact j_zret d_Tb_hasOutputIn_18 rfl (by decide +kernel) ⟨rfl, rfl⟩
  · refine j_iconst (v := nI 1) d_Tb_hasOutputIn_13 (by decide +kernel) ?_
    refine j_goto (t := 18) d_Tb_hasOutputIn_14 (by decide) ?_
    first | exact jc_t d_Tb_hasOutputIn_18 rfl (by omega) rfl | exact jc_f d_Tb_hasOutputIn_18 rfl (by omega) rfl | exact jc_c d_Tb_hasOutputIn_18 rfl Iff.rfl rfl | exact j_zret d_Tb_hasOutputIn_18 rfl (by decide +kernel) ⟨rfl, rfl⟩
