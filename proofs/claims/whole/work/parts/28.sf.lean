/-! ShardLedger: lie, flood (g_sf.py) -/

set_option maxHeartbeats 4000000 in
set_option maxRecDepth 100000 in
theorem t_Rb_hasR {l : Launch} {D : va_G} {B nx : Nat} {σ : Sg} {κ : Kp} {g : Nat → Option va_E} (hb : bd σ) (x : Int32) : jM (G0 l D) m_Rb_has 0 0 0 [.ref (B + 6), .int x] (hC D B σ κ g, nx) (fun v h => v = some (.int (cI (inr x (σ 34 0 0)))) ∧ h = (hC D B σ κ g, nx)) := by
  refine jM.of (by decide +kernel) (Nat.le_of_ble_eq_true rfl) rfl ?_
  refine j_iload_n d_Rb_has_0 rfl ?_
  first | refine m_if_lt (t := 16) d_Rb_has_1 (by decide) (by omega) (fun c1 => ?_) (fun c1 => ?_) | refine n_if_lt (t := 16) d_Rb_has_1 (by decide) (by omega) (fun c1 => ?_) (fun c1 => ?_) | refine j_if_lt (t := 16) d_Rb_has_1 (by decide) (fun c1 => ?_) (fun c1 => ?_)
  · refine j_iconst (v := nI 0) d_Rb_has_16 (by decide +kernel) ?_
    exact jc_f d_Rb_has_17 rfl (fun q => q.1 c1) rfl
  · refine j_iload_n d_Rb_has_4 rfl ?_
    first | refine j_aload_n d_Rb_has_5 rfl ?_ | refine j_aload_nq d_Rb_has_5 rfl ?_ | refine j_aload_nN d_Rb_has_5 rfl ?_
    refine j_get d_Rb_has_6 f_Rb_27 (hC_t (by decide)) rfl ?_
    first | refine nn_icmp_ge (t := 16) d_Rb_has_9 (by decide) (by omega) (by omega) (fun c9 => ?_) (fun c9 => ?_) | refine mm_icmp_ge (t := 16) d_Rb_has_9 (by decide) (by omega) (by omega) (fun c9 => ?_) (fun c9 => ?_) | refine mn_icmp_ge (t := 16) d_Rb_has_9 (by decide) (by omega) (by omega) (fun c9 => ?_) (fun c9 => ?_) | refine nm_icmp_ge (t := 16) d_Rb_has_9 (by decide) (by omega) (by omega) (fun c9 => ?_) (fun c9 => ?_) | refine j_icmp_ge (t := 16) d_Rb_has_9 (by decide) (fun c9 => ?_) (fun c9 => ?_)
    · refine j_iconst (v := nI 0) d_Rb_has_16 (by decide +kernel) ?_
      exact jc_f d_Rb_has_17 rfl (fun q => q.2 c9) rfl
    · refine j_iconst (v := nI 1) d_Rb_has_12 (by decide +kernel) ?_
      refine j_goto (t := 17) d_Rb_has_13 (by decide) ?_
      exact jc_t d_Rb_has_17 rfl ⟨c1, c9⟩ rfl

theorem t_Rb_hasM {l : Launch} {D : va_G} {B nx : Nat} {σ : Sg} {κ : Kp} {g : Nat → Option va_E} (hb : bd σ) (x : Nat) (hx : ¬ x = 0) (hx2 : x < 2 ^ 31) : jM (G0 l D) m_Rb_has 0 0 0 [.ref (B + 6), .int (mI x)] (hC D B σ κ g, nx) (fun v h => v = some (.int (cI (x - 1 < σ 34 0 0))) ∧ h = (hC D B σ κ g, nx)) := by
  rw [mI_pos hx]
  exact t_Rb_has hb (x - 1) (by omega)
/-- what lie asks of a script's numbers -/
def lieP (σ : Sg) (a b c e f : Int32) : Prop := ∃ s k r x i : Nat, a = nI s ∧ b = nI k ∧ c = nI r ∧ e = mI x ∧ f = nI i ∧ s < 2 ∧ k < 3 ∧ r < 6 ∧ i < 4 ∧ ¬ σ 0 (4 * s + 3) 0 = 0 ∧ ((x = 0 ∧ ¬ k = 0) ∨ (¬ x = 0 ∧ x - 1 < σ 34 0 0)) ∧ awake σ (4 * s + i) ∧ σ 29 (4 * s + i) (slt k r 3) = 0

set_option maxHeartbeats 4000000 in
set_option maxRecDepth 100000 in
theorem t_Sl_lie_O1 {l : Launch} {D : va_G} {B nx : Nat} {σ : Sg} {κ : Kp} {g : Nat → Option va_E} (a b c e f : Int32) (ha : ¬ inr a 2) : jM (G0 l D) m_Sl_lie 3 0 0 [.ref (B + 0), .int a, .int b, .int c, .int e, .int f] (hC D B σ κ g, nx) (fun v h => v = some (.int (nI 0)) ∧ h = (hC D B σ κ g, nx)) := by
  refine jM.of (by decide +kernel) (Nat.le_of_ble_eq_true rfl) rfl ?_
  first | refine j_aload_n d_Sl_lie_0 rfl ?_ | refine j_aload_nq d_Sl_lie_0 rfl ?_ | refine j_aload_nN d_Sl_lie_0 rfl ?_
  refine j_iload_n d_Sl_lie_1 rfl ?_
  refine j_iconst (v := nI 3) d_Sl_lie_2 (by decide +kernel) ?_
  refine j_callV0 (As := [_, _]) G0_good G0_E d_Sl_lie_3 c_Sl_93 rfl rfl (t_Sl_replicaAtO1 a (nI 3) ha) (hC_t (by decide)) rfl rfl (by decide) (Nat.le_of_ble_eq_true rfl) ?_
  rintro _ _ ⟨rfl, rfl⟩
  first | refine j_astore d_Sl_lie_6 (by decide) rfl rfl ?_ | refine j_astoreq d_Sl_lie_6 (by decide) rfl rfl ?_ | refine j_astoreN d_Sl_lie_6 (by decide) rfl rfl ?_
  first | refine j_aload_n d_Sl_lie_8 rfl ?_ | refine j_aload_nq d_Sl_lie_8 rfl ?_ | refine j_aload_nN d_Sl_lie_8 rfl ?_
  refine j_iload_n d_Sl_lie_9 rfl ?_
  refine j_iload d_Sl_lie_10 rfl ?_
  refine j_callV0 (As := [_, _]) G0_good G0_E d_Sl_lie_12 c_Sl_93 rfl rfl (t_Sl_replicaAtO1 a f ha) (hC_t (by decide)) rfl rfl (by decide) (Nat.le_of_ble_eq_true rfl) ?_
  rintro _ _ ⟨rfl, rfl⟩
  first | refine j_astore d_Sl_lie_15 (by decide) rfl rfl ?_ | refine j_astoreq d_Sl_lie_15 (by decide) rfl rfl ?_ | refine j_astoreN d_Sl_lie_15 (by decide) rfl rfl ?_
  first | refine j_aload d_Sl_lie_17 rfl ?_ | refine j_aloadq d_Sl_lie_17 rfl ?_ | refine j_aloadN d_Sl_lie_17 rfl ?_
  refine j_ifnull (r := none) (t := 35) d_Sl_lie_19 (by decide) (fun _ => ?_) (fun _ c => by cases c)
  refine j_iconst (v := nI 0) d_Sl_lie_35 (by decide +kernel) ?_
  exact j_zret d_Sl_lie_36 rfl (by decide +kernel) ⟨rfl, rfl⟩

set_option maxHeartbeats 4000000 in
set_option maxRecDepth 100000 in
theorem t_Sl_lie_O2 {l : Launch} {D : va_G} {B nx : Nat} {σ : Sg} {κ : Kp} {g : Nat → Option va_E} (hb : bd σ) (s : Nat) (hs : s < 2) (b c e f : Int32) (hf : ¬ inr f 4) : jM (G0 l D) m_Sl_lie 3 0 0 [.ref (B + 0), .int (nI s), .int b, .int c, .int e, .int f] (hC D B σ κ g, nx) (fun v h => v = some (.int (nI 0)) ∧ h = (hC D B σ κ g, nx)) := by
  refine jM.of (by decide +kernel) (Nat.le_of_ble_eq_true rfl) rfl ?_
  have b0 := hb 0 (4 * s + 3) 0
  first | refine j_aload_n d_Sl_lie_0 rfl ?_ | refine j_aload_nq d_Sl_lie_0 rfl ?_ | refine j_aload_nN d_Sl_lie_0 rfl ?_
  refine j_iload_n d_Sl_lie_1 rfl ?_
  refine j_iconst (v := nI 3) d_Sl_lie_2 (by decide +kernel) ?_
  refine j_callV0 (As := [_, _]) G0_good G0_E d_Sl_lie_3 c_Sl_93 rfl rfl (t_Sl_replicaAt s 3 hs (by decide)) (hC_t (by decide)) rfl rfl (by decide) (Nat.le_of_ble_eq_true rfl) ?_
  rintro _ _ ⟨rfl, rfl⟩
  first | refine j_astore d_Sl_lie_6 (by decide) rfl rfl ?_ | refine j_astoreq d_Sl_lie_6 (by decide) rfl rfl ?_ | refine j_astoreN d_Sl_lie_6 (by decide) rfl rfl ?_
  first | refine j_aload_n d_Sl_lie_8 rfl ?_ | refine j_aload_nq d_Sl_lie_8 rfl ?_ | refine j_aload_nN d_Sl_lie_8 rfl ?_
  refine j_iload_n d_Sl_lie_9 rfl ?_
  refine j_iload d_Sl_lie_10 rfl ?_
  refine j_callV0 (As := [_, _]) G0_good G0_E d_Sl_lie_12 c_Sl_93 rfl rfl (t_Sl_replicaAtO2 s hs f hf) (hC_t (by decide)) rfl rfl (by decide) (Nat.le_of_ble_eq_true rfl) ?_
  rintro _ _ ⟨rfl, rfl⟩
  first | refine j_astore d_Sl_lie_15 (by decide) rfl rfl ?_ | refine j_astoreq d_Sl_lie_15 (by decide) rfl rfl ?_ | refine j_astoreN d_Sl_lie_15 (by decide) rfl rfl ?_
  first | refine j_aload d_Sl_lie_17 rfl ?_ | refine j_aloadq d_Sl_lie_17 rfl ?_ | refine j_aloadN d_Sl_lie_17 rfl ?_
  refine j_ifnull (r := some (aP B (4 * s + 3) + 3)) (t := 35) d_Sl_lie_19 (by decide) (fun c => by cases c) (fun _ _ => ?_)
  first | refine j_aload d_Sl_lie_22 rfl ?_ | refine j_aloadq d_Sl_lie_22 rfl ?_ | refine j_aloadN d_Sl_lie_22 rfl ?_
  refine j_get d_Sl_lie_24 f_Sl_103 (hC_p (show 4 * s + 3 < 8 by omega) (by decide)) rfl ?_
  first | refine c_if_eq (t := 35) d_Sl_lie_27 (by decide) (fun c27 => ?_) (fun c27 => ?_) | refine n_if_eq (t := 35) d_Sl_lie_27 (by decide) (by omega) (fun c27 => ?_) (fun c27 => ?_) | refine j_if_eq (t := 35) d_Sl_lie_27 (by decide) (fun c27 => ?_) (fun c27 => ?_)
  · refine j_iconst (v := nI 0) d_Sl_lie_35 (by decide +kernel) ?_
    exact j_zret d_Sl_lie_36 rfl (by decide +kernel) ⟨rfl, rfl⟩
  · first | refine j_aload d_Sl_lie_30 rfl ?_ | refine j_aloadq d_Sl_lie_30 rfl ?_ | refine j_aloadN d_Sl_lie_30 rfl ?_
    refine j_ifnonnull (r := none) (t := 37) d_Sl_lie_32 (by decide) (fun _ c => by cases c) (fun _ => ?_)
    refine j_iconst (v := nI 0) d_Sl_lie_35 (by decide +kernel) ?_
    exact j_zret d_Sl_lie_36 rfl (by decide +kernel) ⟨rfl, rfl⟩

set_option maxHeartbeats 4000000 in
set_option maxRecDepth 100000 in
theorem t_Sl_lie_f {l : Launch} {D : va_G} {B nx : Nat} {σ : Sg} {κ : Kp} {g : Nat → Option va_E} {I : Sg → Prop} {mu : Nat → Sg → Nat} (ok : OkI I mu) (hi0 : I σ) (kr : KR B σ κ nx) (s i : Nat) (hs : s < 2) (hi : i < 4) (b c e : Int32) (h : ¬ lieP σ (nI s) b c e (nI i)) : jM (G0 l D) m_Sl_lie 3 0 0 [.ref (B + 0), .int (nI s), .int b, .int c, .int e, .int (nI i)] (hC D B σ κ g, nx) (fun v h => v = some (.int (nI 0)) ∧ h = (hC D B σ κ g, nx)) := by
  refine jM.of (by decide +kernel) (Nat.le_of_ble_eq_true rfl) rfl ?_
  have hp : 4 * s + i < 8 := by omega
  have hb := ((ok (4 * s + i) hp).1 σ hi0).1
  have b0 := hb 0 (4 * s + 3) 0
  have b34 := hb 34 0 0
  have h32 := ((ok (4 * s + i) hp).1 σ hi0).2.1
  first | refine j_aload_n d_Sl_lie_0 rfl ?_ | refine j_aload_nq d_Sl_lie_0 rfl ?_ | refine j_aload_nN d_Sl_lie_0 rfl ?_
  refine j_iload_n d_Sl_lie_1 rfl ?_
  refine j_iconst (v := nI 3) d_Sl_lie_2 (by decide +kernel) ?_
  refine j_callV0 (As := [_, _]) G0_good G0_E d_Sl_lie_3 c_Sl_93 rfl rfl (t_Sl_replicaAt s 3 hs (by decide)) (hC_t (by decide)) rfl rfl (by decide) (Nat.le_of_ble_eq_true rfl) ?_
  rintro _ _ ⟨rfl, rfl⟩
  first | refine j_astore d_Sl_lie_6 (by decide) rfl rfl ?_ | refine j_astoreq d_Sl_lie_6 (by decide) rfl rfl ?_ | refine j_astoreN d_Sl_lie_6 (by decide) rfl rfl ?_
  first | refine j_aload_n d_Sl_lie_8 rfl ?_ | refine j_aload_nq d_Sl_lie_8 rfl ?_ | refine j_aload_nN d_Sl_lie_8 rfl ?_
  refine j_iload_n d_Sl_lie_9 rfl ?_
  refine j_iload d_Sl_lie_10 rfl ?_
  refine j_callV0 (As := [_, _]) G0_good G0_E d_Sl_lie_12 c_Sl_93 rfl rfl (t_Sl_replicaAt s i hs hi) (hC_t (by decide)) rfl rfl (by decide) (Nat.le_of_ble_eq_true rfl) ?_
  rintro _ _ ⟨rfl, rfl⟩
  first | refine j_astore d_Sl_lie_15 (by decide) rfl rfl ?_ | refine j_astoreq d_Sl_lie_15 (by decide) rfl rfl ?_ | refine j_astoreN d_Sl_lie_15 (by decide) rfl rfl ?_
  first | refine j_aload d_Sl_lie_17 rfl ?_ | refine j_aloadq d_Sl_lie_17 rfl ?_ | refine j_aloadN d_Sl_lie_17 rfl ?_
  refine j_ifnull (r := some (aP B (4 * s + 3) + 3)) (t := 35) d_Sl_lie_19 (by decide) (fun c => by cases c) (fun _ _ => ?_)
  first | refine j_aload d_Sl_lie_22 rfl ?_ | refine j_aloadq d_Sl_lie_22 rfl ?_ | refine j_aloadN d_Sl_lie_22 rfl ?_
  refine j_get d_Sl_lie_24 f_Sl_103 (hC_p (show 4 * s + 3 < 8 by omega) (by decide)) rfl ?_
  first | refine c_if_eq (t := 35) d_Sl_lie_27 (by decide) (fun c27 => ?_) (fun c27 => ?_) | refine n_if_eq (t := 35) d_Sl_lie_27 (by decide) (by omega) (fun c27 => ?_) (fun c27 => ?_) | refine j_if_eq (t := 35) d_Sl_lie_27 (by decide) (fun c27 => ?_) (fun c27 => ?_)
  · refine j_iconst (v := nI 0) d_Sl_lie_35 (by decide +kernel) ?_
    exact j_zret d_Sl_lie_36 rfl (by decide +kernel) ⟨rfl, rfl⟩
  · first | refine j_aload d_Sl_lie_30 rfl ?_ | refine j_aloadq d_Sl_lie_30 rfl ?_ | refine j_aloadN d_Sl_lie_30 rfl ?_
    refine j_ifnonnull (r := some (aP B (4 * s + i) + 3)) (t := 37) d_Sl_lie_32 (by decide) (fun _ _ => ?_) (fun c => by cases c)
    refine j_iload_n d_Sl_lie_37 rfl ?_
    first | refine m_if_lt (t := 56) d_Sl_lie_38 (by decide) (by omega) (fun c38 => ?_) (fun c38 => ?_) | refine n_if_lt (t := 56) d_Sl_lie_38 (by decide) (by omega) (fun c38 => ?_) (fun c38 => ?_) | refine j_if_lt (t := 56) d_Sl_lie_38 (by decide) (fun c38 => ?_) (fun c38 => ?_)
    · refine j_iconst (v := nI 0) d_Sl_lie_56 (by decide +kernel) ?_
      exact j_zret d_Sl_lie_57 rfl (by decide +kernel) ⟨rfl, rfl⟩
    · refine j_iload_n d_Sl_lie_41 rfl ?_
      refine j_iconst (v := nI 3) d_Sl_lie_42 (by decide +kernel) ?_
      first | refine nn_icmp_ge (t := 56) d_Sl_lie_43 (by decide) (by omega) (by omega) (fun c43 => ?_) (fun c43 => ?_) | refine mm_icmp_ge (t := 56) d_Sl_lie_43 (by decide) (by omega) (by omega) (fun c43 => ?_) (fun c43 => ?_) | refine mn_icmp_ge (t := 56) d_Sl_lie_43 (by decide) (by omega) (by omega) (fun c43 => ?_) (fun c43 => ?_) | refine nm_icmp_ge (t := 56) d_Sl_lie_43 (by decide) (by omega) (by omega) (fun c43 => ?_) (fun c43 => ?_) | refine j_icmp_ge (t := 56) d_Sl_lie_43 (by decide) (fun c43 => ?_) (fun c43 => ?_)
      · refine j_iconst (v := nI 0) d_Sl_lie_56 (by decide +kernel) ?_
        exact j_zret d_Sl_lie_57 rfl (by decide +kernel) ⟨rfl, rfl⟩
      · refine j_iload_n d_Sl_lie_46 rfl ?_
        first | refine m_if_lt (t := 56) d_Sl_lie_47 (by decide) (by omega) (fun c47 => ?_) (fun c47 => ?_) | refine n_if_lt (t := 56) d_Sl_lie_47 (by decide) (by omega) (fun c47 => ?_) (fun c47 => ?_) | refine j_if_lt (t := 56) d_Sl_lie_47 (by decide) (fun c47 => ?_) (fun c47 => ?_)
        · refine j_iconst (v := nI 0) d_Sl_lie_56 (by decide +kernel) ?_
          exact j_zret d_Sl_lie_57 rfl (by decide +kernel) ⟨rfl, rfl⟩
        · refine j_iload_n d_Sl_lie_50 rfl ?_
          refine j_bipush (v := nI 6) d_Sl_lie_51 (by decide +kernel) ?_
          first | refine nn_icmp_lt (t := 58) d_Sl_lie_53 (by decide) (by omega) (by omega) (fun c53 => ?_) (fun c53 => ?_) | refine mm_icmp_lt (t := 58) d_Sl_lie_53 (by decide) (by omega) (by omega) (fun c53 => ?_) (fun c53 => ?_) | refine mn_icmp_lt (t := 58) d_Sl_lie_53 (by decide) (by omega) (by omega) (fun c53 => ?_) (fun c53 => ?_) | refine nm_icmp_lt (t := 58) d_Sl_lie_53 (by decide) (by omega) (by omega) (fun c53 => ?_) (fun c53 => ?_) | refine j_icmp_lt (t := 58) d_Sl_lie_53 (by decide) (fun c53 => ?_) (fun c53 => ?_)
          · refine j_iload d_Sl_lie_58 rfl ?_
            refine j_iconst (v := mI 0) d_Sl_lie_60 (by decide +kernel) ?_
            first | refine nn_icmp_ne (t := 76) d_Sl_lie_61 (by decide) (by omega) (by omega) (fun c61 => ?_) (fun c61 => ?_) | refine mm_icmp_ne (t := 76) d_Sl_lie_61 (by decide) (by omega) (by omega) (fun c61 => ?_) (fun c61 => ?_) | refine mn_icmp_ne (t := 76) d_Sl_lie_61 (by decide) (by omega) (by omega) (fun c61 => ?_) (fun c61 => ?_) | refine nm_icmp_ne (t := 76) d_Sl_lie_61 (by decide) (by omega) (by omega) (fun c61 => ?_) (fun c61 => ?_) | refine j_icmp_ne (t := 76) d_Sl_lie_61 (by decide) (fun c61 => ?_) (fun c61 => ?_)
            · first | refine j_aload_n d_Sl_lie_76 rfl ?_ | refine j_aload_nq d_Sl_lie_76 rfl ?_ | refine j_aload_nN d_Sl_lie_76 rfl ?_
              refine j_get d_Sl_lie_77 f_Sl_28 (hC_t (by decide)) rfl ?_
              refine j_iload d_Sl_lie_80 rfl ?_
              refine j_callV0 (As := [_]) G0_good G0_E d_Sl_lie_82 c_Sl_107 rfl rfl (t_Rb_hasR hb e) (hC_t (by decide)) rfl rfl (by decide) (Nat.le_of_ble_eq_true rfl) ?_
              rintro _ _ ⟨rfl, rfl⟩
              refine j_istore d_Sl_lie_85 (by decide) rfl rfl ?_
              refine j_iload d_Sl_lie_87 rfl ?_
              first | refine c_if_eq (t := 108) d_Sl_lie_89 (by decide) (fun c89 => ?_) (fun c89 => ?_) | refine n_if_eq (t := 108) d_Sl_lie_89 (by decide) (by omega) (fun c89 => ?_) (fun c89 => ?_) | refine j_if_eq (t := 108) d_Sl_lie_89 (by decide) (fun c89 => ?_) (fun c89 => ?_)
              · refine j_iconst (v := nI 0) d_Sl_lie_108 (by decide +kernel) ?_
                exact j_zret d_Sl_lie_109 rfl (by decide +kernel) ⟨rfl, rfl⟩
              · obtain ⟨kk, hk3, rfl⟩ := inr_of (n := 3) (by decide) ⟨c38, c43⟩
                obtain ⟨rr, hr6, rfl⟩ := inr_of (n := 6) (by decide) ⟨c47, fun z => absurd c53 (Int32.not_lt.mpr z)⟩
                obtain ⟨jj, hjj, rfl⟩ := inr_of (by omega) c89
                rw [← mI_succ jj]
                first | refine j_aload d_Sl_lie_92 rfl ?_ | refine j_aloadq d_Sl_lie_92 rfl ?_ | refine j_aloadN d_Sl_lie_92 rfl ?_
                refine j_iload_n d_Sl_lie_94 rfl ?_
                refine j_iload_n d_Sl_lie_95 rfl ?_
                refine j_iload d_Sl_lie_96 rfl ?_
                refine j_callV0 (As := [_, _, _]) G0_good G0_E d_Sl_lie_98 c_Sl_111 rfl rfl (t_Re_believe_f hp ok hi0 kr kk rr (jj + 1) hk3 hr6 (by omega) (fun z => h ⟨s, kk, rr, jj + 1, i, rfl, rfl, rfl, (mI_succ jj).symm, rfl, hs, hk3, hr6, hi, c27, Or.inr ⟨Nat.succ_ne_zero jj, hjj⟩, z⟩)) (hC_p hp (by decide)) rfl rfl (by decide) (Nat.le_of_ble_eq_true rfl) ?_
                rintro _ _ ⟨rfl, rfl⟩
                refine j_if_eq (t := 108) d_Sl_lie_101 (by decide) (fun _ => ?_) (fun q => absurd q (by decide +kernel))
                refine j_iconst (v := nI 0) d_Sl_lie_108 (by decide +kernel) ?_
                exact j_zret d_Sl_lie_109 rfl (by decide +kernel) ⟨rfl, rfl⟩
            · refine j_iload_n d_Sl_lie_64 rfl ?_
              first | refine c_if_eq (t := 72) d_Sl_lie_65 (by decide) (fun c65 => ?_) (fun c65 => ?_) | refine n_if_eq (t := 72) d_Sl_lie_65 (by decide) (by omega) (fun c65 => ?_) (fun c65 => ?_) | refine j_if_eq (t := 72) d_Sl_lie_65 (by decide) (fun c65 => ?_) (fun c65 => ?_)
              · refine j_iconst (v := nI 0) d_Sl_lie_72 (by decide +kernel) ?_
                refine j_goto (t := 85) d_Sl_lie_73 (by decide) ?_
                refine j_istore d_Sl_lie_85 (by decide) rfl rfl ?_
                refine j_iload d_Sl_lie_87 rfl ?_
                refine j_if_eq (t := 108) d_Sl_lie_89 (by decide) (fun _ => ?_) (fun q => absurd q (by decide +kernel))
                refine j_iconst (v := nI 0) d_Sl_lie_108 (by decide +kernel) ?_
                exact j_zret d_Sl_lie_109 rfl (by decide +kernel) ⟨rfl, rfl⟩
              · refine j_iconst (v := nI 1) d_Sl_lie_68 (by decide +kernel) ?_
                refine j_goto (t := 85) d_Sl_lie_69 (by decide) ?_
                refine j_istore d_Sl_lie_85 (by decide) rfl rfl ?_
                refine j_iload d_Sl_lie_87 rfl ?_
                refine j_if_eq (t := 108) d_Sl_lie_89 (by decide) (fun q => absurd q (by decide +kernel)) (fun _ => ?_)
                obtain ⟨kk, hk3, rfl⟩ := inr_of (n := 3) (by decide) ⟨c38, c43⟩
                obtain ⟨rr, hr6, rfl⟩ := inr_of (n := 6) (by decide) ⟨c47, fun z => absurd c53 (Int32.not_lt.mpr z)⟩
                have ck : ¬ kk = 0 := fun z => c65 (by rw [z]; decide +kernel)
                subst c61
                first | refine j_aload d_Sl_lie_92 rfl ?_ | refine j_aloadq d_Sl_lie_92 rfl ?_ | refine j_aloadN d_Sl_lie_92 rfl ?_
                refine j_iload_n d_Sl_lie_94 rfl ?_
                refine j_iload_n d_Sl_lie_95 rfl ?_
                refine j_iload d_Sl_lie_96 rfl ?_
                refine j_callV0 (As := [_, _, _]) G0_good G0_E d_Sl_lie_98 c_Sl_111 rfl rfl (t_Re_believe_f hp ok hi0 kr kk rr 0 hk3 hr6 (by decide) (fun z => h ⟨s, kk, rr, 0, i, rfl, rfl, rfl, rfl, rfl, hs, hk3, hr6, hi, c27, Or.inl ⟨rfl, ck⟩, z⟩)) (hC_p hp (by decide)) rfl rfl (by decide) (Nat.le_of_ble_eq_true rfl) ?_
                rintro _ _ ⟨rfl, rfl⟩
                refine j_if_eq (t := 108) d_Sl_lie_101 (by decide) (fun _ => ?_) (fun q => absurd q (by decide +kernel))
                refine j_iconst (v := nI 0) d_Sl_lie_108 (by decide +kernel) ?_
                exact j_zret d_Sl_lie_109 rfl (by decide +kernel) ⟨rfl, rfl⟩
          · refine j_iconst (v := nI 0) d_Sl_lie_56 (by decide +kernel) ?_
            exact j_zret d_Sl_lie_57 rfl (by decide +kernel) ⟨rfl, rfl⟩

set_option maxHeartbeats 4000000 in
set_option maxRecDepth 100000 in
theorem t_Sl_lie_t {l : Launch} {D : va_G} {B nx : Nat} {σ : Sg} {κ : Kp} {g : Nat → Option va_E} {I : Sg → Prop} {mu : Nat → Sg → Nat} (ok : OkI I mu) (hi0 : I σ) (kr : KR B σ κ nx) (s i : Nat) (hs : s < 2) (hi : i < 4) (k r x : Nat) (hk : k < 3) (hr : r < 6) (hx : x < 99999) (hfl : ¬ σ 0 (4 * s + 3) 0 = 0) (hsay : (x = 0 ∧ ¬ k = 0) ∨ (¬ x = 0 ∧ x - 1 < σ 34 0 0)) (haw : awake σ (4 * s + i)) (hz : σ 29 (4 * s + i) (slt k r 3) = 0) (hi' : I (sLie σ (4 * s + i) k r x)) : jM (G0 l D) m_Sl_lie 7 (1 + (sS (sAct (sLie σ (4 * s + i) k r x) (4 * s + i)) - sS σ)) (7 + 7 * (sS (sAct (sLie σ (4 * s + i) k r x) (4 * s + i)) - sS σ)) [.ref (B + 0), .int (nI s), .int (nI k), .int (nI r), .int (mI x), .int (nI i)] (hC D B σ κ g, nx) (fun v h => v = some (.int (nI 1)) ∧ ∃ κ' nx', h = (hC D B (sAct (sLie σ (4 * s + i) k r x) (4 * s + i)) κ' g, nx') ∧ KR B (sAct (sLie σ (4 * s + i) k r x) (4 * s + i)) κ' nx' ∧ nx ≤ nx') := by
  refine jM.of (by decide +kernel) (Nat.le_of_ble_eq_true rfl) rfl ?_
  have hp : 4 * s + i < 8 := by omega
  have hb := ((ok (4 * s + i) hp).1 σ hi0).1
  have b0 := hb 0 (4 * s + 3) 0
  have b34 := hb 34 0 0
  have h32 := ((ok (4 * s + i) hp).1 σ hi0).2.1
  first | refine j_aload_n d_Sl_lie_0 rfl ?_ | refine j_aload_nq d_Sl_lie_0 rfl ?_ | refine j_aload_nN d_Sl_lie_0 rfl ?_
  refine j_iload_n d_Sl_lie_1 rfl ?_
  refine j_iconst (v := nI 3) d_Sl_lie_2 (by decide +kernel) ?_
  refine j_callV0 (As := [_, _]) G0_good G0_E d_Sl_lie_3 c_Sl_93 rfl rfl (t_Sl_replicaAt s 3 hs (by decide)) (hC_t (by decide)) rfl rfl (by decide) (Nat.le_of_ble_eq_true rfl) ?_
  rintro _ _ ⟨rfl, rfl⟩
  first | refine j_astore d_Sl_lie_6 (by decide) rfl rfl ?_ | refine j_astoreq d_Sl_lie_6 (by decide) rfl rfl ?_ | refine j_astoreN d_Sl_lie_6 (by decide) rfl rfl ?_
  first | refine j_aload_n d_Sl_lie_8 rfl ?_ | refine j_aload_nq d_Sl_lie_8 rfl ?_ | refine j_aload_nN d_Sl_lie_8 rfl ?_
  refine j_iload_n d_Sl_lie_9 rfl ?_
  refine j_iload d_Sl_lie_10 rfl ?_
  refine j_callV0 (As := [_, _]) G0_good G0_E d_Sl_lie_12 c_Sl_93 rfl rfl (t_Sl_replicaAt s i hs hi) (hC_t (by decide)) rfl rfl (by decide) (Nat.le_of_ble_eq_true rfl) ?_
  rintro _ _ ⟨rfl, rfl⟩
  first | refine j_astore d_Sl_lie_15 (by decide) rfl rfl ?_ | refine j_astoreq d_Sl_lie_15 (by decide) rfl rfl ?_ | refine j_astoreN d_Sl_lie_15 (by decide) rfl rfl ?_
  first | refine j_aload d_Sl_lie_17 rfl ?_ | refine j_aloadq d_Sl_lie_17 rfl ?_ | refine j_aloadN d_Sl_lie_17 rfl ?_
  refine j_ifnull (r := some (aP B (4 * s + 3) + 3)) (t := 35) d_Sl_lie_19 (by decide) (fun c => by cases c) (fun _ _ => ?_)
  first | refine j_aload d_Sl_lie_22 rfl ?_ | refine j_aloadq d_Sl_lie_22 rfl ?_ | refine j_aloadN d_Sl_lie_22 rfl ?_
  refine j_get d_Sl_lie_24 f_Sl_103 (hC_p (show 4 * s + 3 < 8 by omega) (by decide)) rfl ?_
  first | refine c_if_eq (t := 35) d_Sl_lie_27 (by decide) (fun c27 => ?_) (fun c27 => ?_) | refine n_if_eq (t := 35) d_Sl_lie_27 (by decide) (by omega) (fun c27 => ?_) (fun c27 => ?_) | refine j_if_eq (t := 35) d_Sl_lie_27 (by decide) (fun c27 => ?_) (fun c27 => ?_)
  · exfalso; first | exact c27 | omega
  · first | refine j_aload d_Sl_lie_30 rfl ?_ | refine j_aloadq d_Sl_lie_30 rfl ?_ | refine j_aloadN d_Sl_lie_30 rfl ?_
    refine j_ifnonnull (r := some (aP B (4 * s + i) + 3)) (t := 37) d_Sl_lie_32 (by decide) (fun _ _ => ?_) (fun c => by cases c)
    refine j_iload_n d_Sl_lie_37 rfl ?_
    first | refine m_if_lt (t := 56) d_Sl_lie_38 (by decide) (by omega) (fun c38 => ?_) (fun c38 => ?_) | refine n_if_lt (t := 56) d_Sl_lie_38 (by decide) (by omega) (fun c38 => ?_) (fun c38 => ?_) | refine j_if_lt (t := 56) d_Sl_lie_38 (by decide) (fun c38 => ?_) (fun c38 => ?_)
    · exfalso; first | exact c38 | omega
    · refine j_iload_n d_Sl_lie_41 rfl ?_
      refine j_iconst (v := nI 3) d_Sl_lie_42 (by decide +kernel) ?_
      first | refine nn_icmp_ge (t := 56) d_Sl_lie_43 (by decide) (by omega) (by omega) (fun c43 => ?_) (fun c43 => ?_) | refine mm_icmp_ge (t := 56) d_Sl_lie_43 (by decide) (by omega) (by omega) (fun c43 => ?_) (fun c43 => ?_) | refine mn_icmp_ge (t := 56) d_Sl_lie_43 (by decide) (by omega) (by omega) (fun c43 => ?_) (fun c43 => ?_) | refine nm_icmp_ge (t := 56) d_Sl_lie_43 (by decide) (by omega) (by omega) (fun c43 => ?_) (fun c43 => ?_) | refine j_icmp_ge (t := 56) d_Sl_lie_43 (by decide) (fun c43 => ?_) (fun c43 => ?_)
      · exfalso; first | exact c43 | omega
      · refine j_iload_n d_Sl_lie_46 rfl ?_
        first | refine m_if_lt (t := 56) d_Sl_lie_47 (by decide) (by omega) (fun c47 => ?_) (fun c47 => ?_) | refine n_if_lt (t := 56) d_Sl_lie_47 (by decide) (by omega) (fun c47 => ?_) (fun c47 => ?_) | refine j_if_lt (t := 56) d_Sl_lie_47 (by decide) (fun c47 => ?_) (fun c47 => ?_)
        · exfalso; first | exact c47 | omega
        · refine j_iload_n d_Sl_lie_50 rfl ?_
          refine j_bipush (v := nI 6) d_Sl_lie_51 (by decide +kernel) ?_
          first | refine nn_icmp_lt (t := 58) d_Sl_lie_53 (by decide) (by omega) (by omega) (fun c53 => ?_) (fun c53 => ?_) | refine mm_icmp_lt (t := 58) d_Sl_lie_53 (by decide) (by omega) (by omega) (fun c53 => ?_) (fun c53 => ?_) | refine mn_icmp_lt (t := 58) d_Sl_lie_53 (by decide) (by omega) (by omega) (fun c53 => ?_) (fun c53 => ?_) | refine nm_icmp_lt (t := 58) d_Sl_lie_53 (by decide) (by omega) (by omega) (fun c53 => ?_) (fun c53 => ?_) | refine j_icmp_lt (t := 58) d_Sl_lie_53 (by decide) (fun c53 => ?_) (fun c53 => ?_)
          · refine j_iload d_Sl_lie_58 rfl ?_
            refine j_iconst (v := mI 0) d_Sl_lie_60 (by decide +kernel) ?_
            first | refine nn_icmp_ne (t := 76) d_Sl_lie_61 (by decide) (by omega) (by omega) (fun c61 => ?_) (fun c61 => ?_) | refine mm_icmp_ne (t := 76) d_Sl_lie_61 (by decide) (by omega) (by omega) (fun c61 => ?_) (fun c61 => ?_) | refine mn_icmp_ne (t := 76) d_Sl_lie_61 (by decide) (by omega) (by omega) (fun c61 => ?_) (fun c61 => ?_) | refine nm_icmp_ne (t := 76) d_Sl_lie_61 (by decide) (by omega) (by omega) (fun c61 => ?_) (fun c61 => ?_) | refine j_icmp_ne (t := 76) d_Sl_lie_61 (by decide) (fun c61 => ?_) (fun c61 => ?_)
            · first | refine j_aload_n d_Sl_lie_76 rfl ?_ | refine j_aload_nq d_Sl_lie_76 rfl ?_ | refine j_aload_nN d_Sl_lie_76 rfl ?_
              refine j_get d_Sl_lie_77 f_Sl_28 (hC_t (by decide)) rfl ?_
              refine j_iload d_Sl_lie_80 rfl ?_
              refine j_callV0 (As := [_]) G0_good G0_E d_Sl_lie_82 c_Sl_107 rfl rfl (t_Rb_hasM hb x c61 (by omega)) (hC_t (by decide)) rfl rfl (by decide) (Nat.le_of_ble_eq_true rfl) ?_
              rintro _ _ ⟨rfl, rfl⟩
              refine j_istore d_Sl_lie_85 (by decide) rfl rfl ?_
              refine j_iload d_Sl_lie_87 rfl ?_
              first | refine c_if_eq (t := 108) d_Sl_lie_89 (by decide) (fun c89 => ?_) (fun c89 => ?_) | refine n_if_eq (t := 108) d_Sl_lie_89 (by decide) (by omega) (fun c89 => ?_) (fun c89 => ?_) | refine j_if_eq (t := 108) d_Sl_lie_89 (by decide) (fun c89 => ?_) (fun c89 => ?_)
              · exfalso; first | exact c89 | omega
              · first | refine j_aload d_Sl_lie_92 rfl ?_ | refine j_aloadq d_Sl_lie_92 rfl ?_ | refine j_aloadN d_Sl_lie_92 rfl ?_
                refine j_iload_n d_Sl_lie_94 rfl ?_
                refine j_iload_n d_Sl_lie_95 rfl ?_
                refine j_iload d_Sl_lie_96 rfl ?_
                refine j_callV1 (As := [_, _, _]) G0_good G0_E d_Sl_lie_98 c_Sl_111 rfl rfl (t_Re_believe_t hp ok hi0 kr k r x hk hr hx haw hz hi') (hC_p hp (by decide)) rfl rfl (by decide) (Nat.le_of_ble_eq_true rfl) ?_
                rintro _ _ ⟨rfl, κ', nx', rfl, kr', hle⟩
                refine j_if_eq (t := 108) d_Sl_lie_101 (by decide) (fun q => absurd q (by decide +kernel)) (fun _ => ?_)
                refine j_iconst (v := nI 1) d_Sl_lie_104 (by decide +kernel) ?_
                refine j_goto (t := 109) d_Sl_lie_105 (by decide) ?_
                exact j_zret d_Sl_lie_109 rfl (by decide +kernel) ⟨rfl, κ', nx', rfl, kr', hle⟩
            · refine j_iload_n d_Sl_lie_64 rfl ?_
              first | refine c_if_eq (t := 72) d_Sl_lie_65 (by decide) (fun c65 => ?_) (fun c65 => ?_) | refine n_if_eq (t := 72) d_Sl_lie_65 (by decide) (by omega) (fun c65 => ?_) (fun c65 => ?_) | refine j_if_eq (t := 72) d_Sl_lie_65 (by decide) (fun c65 => ?_) (fun c65 => ?_)
              · exfalso; first | exact c65 | omega
              · refine j_iconst (v := nI 1) d_Sl_lie_68 (by decide +kernel) ?_
                refine j_goto (t := 85) d_Sl_lie_69 (by decide) ?_
                refine j_istore d_Sl_lie_85 (by decide) rfl rfl ?_
                refine j_iload d_Sl_lie_87 rfl ?_
                refine j_if_eq (t := 108) d_Sl_lie_89 (by decide) (fun q => absurd q (by decide +kernel)) (fun _ => ?_)
                first | refine j_aload d_Sl_lie_92 rfl ?_ | refine j_aloadq d_Sl_lie_92 rfl ?_ | refine j_aloadN d_Sl_lie_92 rfl ?_
                refine j_iload_n d_Sl_lie_94 rfl ?_
                refine j_iload_n d_Sl_lie_95 rfl ?_
                refine j_iload d_Sl_lie_96 rfl ?_
                refine j_callV1 (As := [_, _, _]) G0_good G0_E d_Sl_lie_98 c_Sl_111 rfl rfl (t_Re_believe_t hp ok hi0 kr k r x hk hr hx haw hz hi') (hC_p hp (by decide)) rfl rfl (by decide) (Nat.le_of_ble_eq_true rfl) ?_
                rintro _ _ ⟨rfl, κ', nx', rfl, kr', hle⟩
                refine j_if_eq (t := 108) d_Sl_lie_101 (by decide) (fun q => absurd q (by decide +kernel)) (fun _ => ?_)
                refine j_iconst (v := nI 1) d_Sl_lie_104 (by decide +kernel) ?_
                refine j_goto (t := 109) d_Sl_lie_105 (by decide) ?_
                exact j_zret d_Sl_lie_109 rfl (by decide +kernel) ⟨rfl, κ', nx', rfl, kr', hle⟩
          · exfalso; first | exact c53 | omega
