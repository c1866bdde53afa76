/-! ShardLedger: flood, the loops over messages and passes (g_fl2.py) -/

set_option maxHeartbeats 4000000 in
set_option maxRecDepth 100000 in
theorem lp_fl_k {l : Launch} {D : va_G} {B : Nat} {g : Nat → Option va_E} {I : Sg → Prop} {mu : Nat → Sg → Nat} (ok : OkI I mu) (om : OkM I) {s : Nat} (hs : s < 2) {Q : Option Value → jH → Prop} (x1 x4 : Option Value) (q5 : Nat) {N : Nat} : ∀ (m : Nat) (σ : Sg) (k c : Nat) (κ : Kp) (nx : Nat) (x6 x7 : Option Value), I σ → k + m = 918 → c < 1000000000 - 4 * m → KR B σ κ nx → sS (fp s m σ k) ≤ N → (∀ (κ : Kp) (nx : Nat) (x6 x7 : Option Value), KR B (fp s m σ k) κ nx → J (G0 l D) jT m_Sl_flood 7 Q (N - sS (fp s m σ k)) (7 * (N - sS (fp s m σ k))) 105 [some (.ref (B + 0)), x1, some (.ref (aS B s + 0)), some (.int (nI (c + np s m σ k))), x4, some (.int (nI q5)), x6, x7] [] (hC D B (fp s m σ k) κ g, nx)) → J (G0 l D) jT m_Sl_flood 7 Q (N - sS σ) (7 * (N - sS σ)) 39 [some (.ref (B + 0)), x1, some (.ref (aS B s + 0)), some (.int (nI (c))), x4, some (.int (nI q5)), some (.int (nI k)), x7] [] (hC D B σ κ g, nx) := by
  intro m
  induction m with
  | zero =>
    intro σ k c κ nx x6 x7 hi0 hkm hcb kr hN K
    have ek : k = 918 := by omega
    subst ek
    refine j_iload d_Sl_flood_39 rfl ?_
    refine j_sipush (v := nI 918) d_Sl_flood_41 (by decide +kernel) ?_
    first | refine nn_icmp_ge (t := 105) d_Sl_flood_44 (by decide) (by omega) (by omega) (fun c44 => ?_) (fun c44 => ?_) | refine mm_icmp_ge (t := 105) d_Sl_flood_44 (by decide) (by omega) (by omega) (fun c44 => ?_) (fun c44 => ?_) | refine mn_icmp_ge (t := 105) d_Sl_flood_44 (by decide) (by omega) (by omega) (fun c44 => ?_) (fun c44 => ?_) | refine nm_icmp_ge (t := 105) d_Sl_flood_44 (by decide) (by omega) (by omega) (fun c44 => ?_) (fun c44 => ?_) | refine j_icmp_ge (t := 105) d_Sl_flood_44 (by decide) (fun c44 => ?_) (fun c44 => ?_)
    · exact K κ nx _ _ kr
    · exfalso; first | exact c44 | omega
  | succ m ih =>
    intro σ k c κ nx x6 x7 hi0 hkm hcb kr hN K
    have hb := ((ok 0 (by decide)).1 _ hi0).1
    have h918 := om.1 _ s hi0 hs
    have b20 := hb 20 s 0
    by_cases hk : k < σ 20 s 0
    · obtain ⟨a, ha, hpr, hm, -⟩ := kr.2.2.1 s k hs hk
      refine j_iload d_Sl_flood_39 rfl ?_
      refine j_sipush (v := nI 918) d_Sl_flood_41 (by decide +kernel) ?_
      first | refine nn_icmp_ge (t := 105) d_Sl_flood_44 (by decide) (by omega) (by omega) (fun c44 => ?_) (fun c44 => ?_) | refine mm_icmp_ge (t := 105) d_Sl_flood_44 (by decide) (by omega) (by omega) (fun c44 => ?_) (fun c44 => ?_) | refine mn_icmp_ge (t := 105) d_Sl_flood_44 (by decide) (by omega) (by omega) (fun c44 => ?_) (fun c44 => ?_) | refine nm_icmp_ge (t := 105) d_Sl_flood_44 (by decide) (by omega) (by omega) (fun c44 => ?_) (fun c44 => ?_) | refine j_icmp_ge (t := 105) d_Sl_flood_44 (by decide) (fun c44 => ?_) (fun c44 => ?_)
      · exfalso; first | exact c44 | omega
      · first | refine j_aload_n d_Sl_flood_47 rfl ?_ | refine j_aload_nq d_Sl_flood_47 rfl ?_ | refine j_aload_nN d_Sl_flood_47 rfl ?_
        refine j_get d_Sl_flood_48 f_Sl_72 (hC_s hs (by decide)) rfl ?_
        refine j_iload d_Sl_flood_51 rfl ?_
        refine j_callV0 (As := [_]) G0_good G0_E d_Sl_flood_53 c_Sl_76 rfl rfl (t_Lo_messageAt hs hb h918 k (by omega)) (hC_s hs (by decide)) rfl rfl (by decide) (Nat.le_of_ble_eq_true rfl) ?_
        rintro _ _ ⟨rfl, rfl⟩
        rw [if_pos hk, ha]
        refine j_ifnull (r := some a) (t := 105) d_Sl_flood_56 (by decide) (fun c => by cases c) (fun _ _ => ?_)
        refine j_iconst (v := nI 0) d_Sl_flood_59 (by decide +kernel) ?_
        refine j_istore d_Sl_flood_60 (by decide) rfl rfl ?_
        have ef : fp s (m + 1) σ k = fp s m (f4 σ s k 4) (k + 1) := by rw [fp, ifP_t hk]
        have en : np s (m + 1) σ k = n4 σ s k 4 + np s m (f4 σ s k 4) (k + 1) := by rw [np, ifP_t hk]
        have mo := fp_sS hs m (f4 σ s k 4) (k + 1)
        have b4 := n4_le (σ := σ) (s := s) (k := k) 4
        rw [ef] at K hN
        rw [en] at K
        refine lp_fl_i ok om hs hi0 hk x1 x4 (some (.int (nI q5))) (c := c) (N := N) (by omega) ?_ 5 0 c κ nx (by omega) (by omega) kr rfl
        intro κ nx x7 kr
        refine n_iinc (k := 1) d_Sl_flood_99 (by decide +kernel) rfl (by decide) rfl rfl ?_
        refine j_goto (t := 39) d_Sl_flood_102 (by decide) ?_
        exact ih (f4 σ s k 4) (k + 1) (c + n4 σ s k 4) κ nx none _ (f4_I ok om hs hi0 hk 4 (by omega)) (by omega) (by omega) kr (by omega) (fun κ nx x6 x7 kr => by have := K κ nx x6 x7 kr; rw [← Nat.add_assoc] at this; exact this)
    · refine j_iload d_Sl_flood_39 rfl ?_
      refine j_sipush (v := nI 918) d_Sl_flood_41 (by decide +kernel) ?_
      first | refine nn_icmp_ge (t := 105) d_Sl_flood_44 (by decide) (by omega) (by omega) (fun c44 => ?_) (fun c44 => ?_) | refine mm_icmp_ge (t := 105) d_Sl_flood_44 (by decide) (by omega) (by omega) (fun c44 => ?_) (fun c44 => ?_) | refine mn_icmp_ge (t := 105) d_Sl_flood_44 (by decide) (by omega) (by omega) (fun c44 => ?_) (fun c44 => ?_) | refine nm_icmp_ge (t := 105) d_Sl_flood_44 (by decide) (by omega) (by omega) (fun c44 => ?_) (fun c44 => ?_) | refine j_icmp_ge (t := 105) d_Sl_flood_44 (by decide) (fun c44 => ?_) (fun c44 => ?_)
      · exfalso; first | exact c44 | omega
      · first | refine j_aload_n d_Sl_flood_47 rfl ?_ | refine j_aload_nq d_Sl_flood_47 rfl ?_ | refine j_aload_nN d_Sl_flood_47 rfl ?_
        refine j_get d_Sl_flood_48 f_Sl_72 (hC_s hs (by decide)) rfl ?_
        refine j_iload d_Sl_flood_51 rfl ?_
        refine j_callV0 (As := [_]) G0_good G0_E d_Sl_flood_53 c_Sl_76 rfl rfl (t_Lo_messageAt hs hb h918 k (by omega)) (hC_s hs (by decide)) rfl rfl (by decide) (Nat.le_of_ble_eq_true rfl) ?_
        rintro _ _ ⟨rfl, rfl⟩
        rw [if_neg hk]
        refine j_ifnull (r := none) (t := 105) d_Sl_flood_56 (by decide) (fun _ => ?_) (fun _ c => by cases c)
        have ef : fp s (m + 1) σ k = σ := by rw [fp, ifP_f hk]
        have en : np s (m + 1) σ k = 0 := by rw [np, ifP_f hk]
        rw [ef, en] at K
        exact K κ nx _ _ kr

set_option maxHeartbeats 4000000 in
set_option maxRecDepth 100000 in
theorem lp_fl_p {l : Launch} {D : va_G} {B : Nat} {g : Nat → Option va_E} {I : Sg → Prop} {mu : Nat → Sg → Nat} (ok : OkI I mu) (om : OkM I) {s : Nat} (hs : s < 2) (x1 : Option Value) : ∀ (m : Nat) (σ : Sg) (c q : Nat) (κ : Kp) (nx : Nat) (x4 x6 x7 : Option Value), I σ → ends s m σ → c + 4000 * m < 900000000 → q + m < 1000000 → KR B σ κ nx → J (G0 l D) jT m_Sl_flood 7 (fun v h => v = some (.int (nI (c + nf s m σ))) ∧ ∃ κ' nx', h = (hC D B (ff s m σ) κ' g, nx') ∧ KR B (ff s m σ) κ' nx') (sS (ff s m σ) - sS σ) (7 * (sS (ff s m σ) - sS σ)) 33 [some (.ref (B + 0)), x1, some (.ref (aS B s + 0)), some (.int (nI (c))), x4, some (.int (nI q)), x6, x7] [] (hC D B σ κ g, nx) := by
  intro m
  induction m with
  | zero =>
    intro σ c q κ nx x4 x6 x7 hi0 he
    exact he.elim
  | succ m ih =>
    intro σ c q κ nx x4 x6 x7 hi0 he hcb hqb kr
    have hnp := np_le (s := s) 918 σ 0
    have hfN : sS (fp s 918 σ 0) ≤ sS (ff s (m + 1) σ) := by
      unfold ff
      by_cases hz : np s 918 σ 0 = 0
      · rw [ifP_t hz]; exact Nat.le_refl _
      · rw [ifP_f hz]; exact ff_sS hs m _
    refine j_iload_n d_Sl_flood_33 rfl ?_
    refine j_istore d_Sl_flood_34 (by decide) rfl rfl ?_
    refine j_iconst (v := nI 0) d_Sl_flood_36 (by decide +kernel) ?_
    refine j_istore d_Sl_flood_37 (by decide) rfl rfl ?_
    refine lp_fl_k ok om hs x1 (some (.int (nI c))) q (N := sS (ff s (m + 1) σ)) 918 σ 0 c κ nx none _ hi0 rfl (by omega) kr hfN ?_
    intro κ nx x6 x7 kr
    refine n_iinc (k := 1) d_Sl_flood_105 (by decide +kernel) rfl (by decide) rfl rfl ?_
    refine j_goto (t := 20) d_Sl_flood_108 (by decide) ?_
    refine j_iload_n d_Sl_flood_20 rfl ?_
    refine j_iload d_Sl_flood_21 rfl ?_
    first | refine nn_icmp_eq (t := 111) d_Sl_flood_23 (by decide) (by omega) (by omega) (fun c23 => ?_) (fun c23 => ?_) | refine mm_icmp_eq (t := 111) d_Sl_flood_23 (by decide) (by omega) (by omega) (fun c23 => ?_) (fun c23 => ?_) | refine mn_icmp_eq (t := 111) d_Sl_flood_23 (by decide) (by omega) (by omega) (fun c23 => ?_) (fun c23 => ?_) | refine nm_icmp_eq (t := 111) d_Sl_flood_23 (by decide) (by omega) (by omega) (fun c23 => ?_) (fun c23 => ?_) | refine j_icmp_eq (t := 111) d_Sl_flood_23 (by decide) (fun c23 => ?_) (fun c23 => ?_)
    · have hz : np s 918 σ 0 = 0 := by omega
      have e1 : ff s (m + 1) σ = fp s 918 σ 0 := by rw [ff, ifP_t hz]
      have e2 : nf s (m + 1) σ = 0 := by rw [nf, ifP_t hz]
      rw [e1, e2]
      refine j_iload_n d_Sl_flood_111 rfl ?_
      exact j_iret d_Sl_flood_112 rfl ⟨by rw [hz], κ, nx, rfl, kr⟩
    · refine j_iload d_Sl_flood_26 rfl ?_
      refine j_ldc d_Sl_flood_28 w_Sl_88 ?_
      rw [show (1000000 : Int32) = nI 1000000 by decide +kernel]
      first | refine nn_icmp_ge (t := 111) d_Sl_flood_30 (by decide) (by omega) (by omega) (fun c30 => ?_) (fun c30 => ?_) | refine mm_icmp_ge (t := 111) d_Sl_flood_30 (by decide) (by omega) (by omega) (fun c30 => ?_) (fun c30 => ?_) | refine mn_icmp_ge (t := 111) d_Sl_flood_30 (by decide) (by omega) (by omega) (fun c30 => ?_) (fun c30 => ?_) | refine nm_icmp_ge (t := 111) d_Sl_flood_30 (by decide) (by omega) (by omega) (fun c30 => ?_) (fun c30 => ?_) | refine j_icmp_ge (t := 111) d_Sl_flood_30 (by decide) (fun c30 => ?_) (fun c30 => ?_)
      · exfalso; first | exact c30 | omega
      · have hz : ¬ np s 918 σ 0 = 0 := by omega
        have e1 : ff s (m + 1) σ = ff s m (fp s 918 σ 0) := by rw [ff, ifP_f hz]
        have e2 : nf s (m + 1) σ = np s 918 σ 0 + nf s m (fp s 918 σ 0) := by rw [nf, ifP_f hz]
        rw [e1, e2, ← Nat.add_assoc]
        exact ih (fp s 918 σ 0) (c + np s 918 σ 0) (q + 1) κ nx _ _ _ (fp_I ok om hs _ _ _ hi0) (he.resolve_left hz) (by omega) (by omega) kr

set_option maxHeartbeats 4000000 in
set_option maxRecDepth 100000 in
theorem t_Sl_flood_i {l : Launch} {D : va_G} {B nx : Nat} {σ : Sg} {κ : Kp} {g : Nat → Option va_E} {I : Sg → Prop} {mu : Nat → Sg → Nat} (ok : OkI I mu) (om : OkM I) (hi0 : I σ) (kr : KR B σ κ nx) (s : Nat) (hs : s < 2) (he : ends s 5000 σ) : jM (G0 l D) m_Sl_flood 7 (sS (ff s 5000 σ) - sS σ) (7 * (sS (ff s 5000 σ) - sS σ)) [.ref (B + 0), .int (nI s)] (hC D B σ κ g, nx) (fun v h => v = some (.int (nI (0 + nf s 5000 σ))) ∧ ∃ κ' nx', h = (hC D B (ff s 5000 σ) κ' g, nx') ∧ KR B (ff s 5000 σ) κ' nx') := by
  refine jM.of (by decide +kernel) (Nat.le_of_ble_eq_true rfl) rfl ?_
  first | refine j_aload_n d_Sl_flood_0 rfl ?_ | refine j_aload_nq d_Sl_flood_0 rfl ?_ | refine j_aload_nN d_Sl_flood_0 rfl ?_
  refine j_iload_n d_Sl_flood_1 rfl ?_
  refine j_callV0 (As := [_]) G0_good G0_E d_Sl_flood_2 c_Sl_64 rfl rfl (t_Sl_shardAt s hs) (hC_t (by decide)) rfl rfl (by decide) (Nat.le_of_ble_eq_true rfl) ?_
  rintro _ _ ⟨rfl, rfl⟩
  first | refine j_astore_n d_Sl_flood_5 (by decide) rfl rfl ?_ | refine j_astore_nq d_Sl_flood_5 (by decide) rfl rfl ?_ | refine j_astore_nN d_Sl_flood_5 (by decide) rfl rfl ?_
  first | refine j_aload_n d_Sl_flood_6 rfl ?_ | refine j_aload_nq d_Sl_flood_6 rfl ?_ | refine j_aload_nN d_Sl_flood_6 rfl ?_
  refine j_ifnonnull (r := some (aS B s + 0)) (t := 12) d_Sl_flood_7 (by decide) (fun _ _ => ?_) (fun c => by cases c)
  refine j_iconst (v := nI 0) d_Sl_flood_12 (by decide +kernel) ?_
  refine j_istore_n d_Sl_flood_13 (by decide) rfl rfl ?_
  refine j_iconst (v := mI 0) d_Sl_flood_14 (by decide +kernel) ?_
  refine j_istore d_Sl_flood_15 (by decide) rfl rfl ?_
  refine j_iconst (v := nI 0) d_Sl_flood_17 (by decide +kernel) ?_
  refine j_istore d_Sl_flood_18 (by decide) rfl rfl ?_
  refine j_iload_n d_Sl_flood_20 rfl ?_
  refine j_iload d_Sl_flood_21 rfl ?_
  first | refine nn_icmp_eq (t := 111) d_Sl_flood_23 (by decide) (by omega) (by omega) (fun c23 => ?_) (fun c23 => ?_) | refine mm_icmp_eq (t := 111) d_Sl_flood_23 (by decide) (by omega) (by omega) (fun c23 => ?_) (fun c23 => ?_) | refine mn_icmp_eq (t := 111) d_Sl_flood_23 (by decide) (by omega) (by omega) (fun c23 => ?_) (fun c23 => ?_) | refine nm_icmp_eq (t := 111) d_Sl_flood_23 (by decide) (by omega) (by omega) (fun c23 => ?_) (fun c23 => ?_) | refine j_icmp_eq (t := 111) d_Sl_flood_23 (by decide) (fun c23 => ?_) (fun c23 => ?_)
  · exfalso; first | exact c23 | omega
  · refine j_iload d_Sl_flood_26 rfl ?_
    refine j_ldc d_Sl_flood_28 w_Sl_88 ?_
    rw [show (1000000 : Int32) = nI 1000000 by decide +kernel]
    first | refine nn_icmp_ge (t := 111) d_Sl_flood_30 (by decide) (by omega) (by omega) (fun c30 => ?_) (fun c30 => ?_) | refine mm_icmp_ge (t := 111) d_Sl_flood_30 (by decide) (by omega) (by omega) (fun c30 => ?_) (fun c30 => ?_) | refine mn_icmp_ge (t := 111) d_Sl_flood_30 (by decide) (by omega) (by omega) (fun c30 => ?_) (fun c30 => ?_) | refine nm_icmp_ge (t := 111) d_Sl_flood_30 (by decide) (by omega) (by omega) (fun c30 => ?_) (fun c30 => ?_) | refine j_icmp_ge (t := 111) d_Sl_flood_30 (by decide) (fun c30 => ?_) (fun c30 => ?_)
    · exfalso; first | exact c30 | omega
    · exact lp_fl_p ok om hs _ 5000 σ 0 0 κ nx _ _ _ hi0 he (by omega) (by omega) kr

set_option maxHeartbeats 4000000 in
set_option maxRecDepth 100000 in
theorem t_Sl_flood_O {l : Launch} {D : va_G} {B nx : Nat} {σ : Sg} {κ : Kp} {g : Nat → Option va_E} (x : Int32) (hx : ¬ inr x 2) : jM (G0 l D) m_Sl_flood 1 0 0 [.ref (B + 0), .int x] (hC D B σ κ g, nx) (fun v h => v = some (.int (mI 0)) ∧ h = (hC D B σ κ g, nx)) := by
  refine jM.of (by decide +kernel) (Nat.le_of_ble_eq_true rfl) rfl ?_
  first | refine j_aload_n d_Sl_flood_0 rfl ?_ | refine j_aload_nq d_Sl_flood_0 rfl ?_ | refine j_aload_nN d_Sl_flood_0 rfl ?_
  refine j_iload_n d_Sl_flood_1 rfl ?_
  refine j_callV0 (As := [_]) G0_good G0_E d_Sl_flood_2 c_Sl_64 rfl rfl (t_Sl_shardAtO x hx) (hC_t (by decide)) rfl rfl (by decide) (Nat.le_of_ble_eq_true rfl) ?_
  rintro _ _ ⟨rfl, rfl⟩
  first | refine j_astore_n d_Sl_flood_5 (by decide) rfl rfl ?_ | refine j_astore_nq d_Sl_flood_5 (by decide) rfl rfl ?_ | refine j_astore_nN d_Sl_flood_5 (by decide) rfl rfl ?_
  first | refine j_aload_n d_Sl_flood_6 rfl ?_ | refine j_aload_nq d_Sl_flood_6 rfl ?_ | refine j_aload_nN d_Sl_flood_6 rfl ?_
  refine j_ifnonnull (r := none) (t := 12) d_Sl_flood_7 (by decide) (fun _ c => by cases c) (fun _ => ?_)
  refine j_iconst (v := mI 0) d_Sl_flood_10 (by decide +kernel) ?_
  exact j_iret d_Sl_flood_11 rfl ⟨rfl, rfl⟩
