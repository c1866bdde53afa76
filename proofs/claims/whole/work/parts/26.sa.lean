/-! ShardLedger: all act; deliver, tick, sleep (g_sa.py) -/
noncomputable def allF : Nat → Sg → Sg
  | 0, σ => σ
  | p + 1, σ => sAct (allF p σ) p
theorem allF_I {I : Sg → Prop} {mu : Nat → Sg → Nat} (ok : OkI I mu) {σ : Sg} (h : I σ) : ∀ p, p ≤ 8 → I (allF p σ)
  | 0, _ => h
  | p + 1, hp => sAct_I ok (by omega) (allF_I ok h p (by omega))
theorem allF_mono {σ : Sg} : ∀ {a b : Nat}, a ≤ b → b ≤ 8 → sS (allF a σ) ≤ sS (allF b σ)
  | a, 0, h, _ => by rw [Nat.le_zero.mp h]; exact Nat.le_refl _
  | a, b + 1, h, h8 => by
    by_cases e : a = b + 1
    · rw [e]; exact Nat.le_refl _
    · exact Nat.le_trans (allF_mono (show a ≤ b by omega) (by omega)) (sS_act (by omega))

set_option maxHeartbeats 4000000 in
set_option maxRecDepth 100000 in
theorem lp_all_in {l : Launch} {D : va_G} {B : Nat} {g : Nat → Option va_E} {I : Sg → Prop} {mu : Nat → Sg → Nat} (ok : OkI I mu) {σ : Sg} (hi0 : I σ) (s : Nat) (hs : s < 2) (hnext : ∀ (κ : Kp) (nx : Nat) (x2 : Option Value), KR B (allF (4 * s + 4) σ) κ nx → J (G0 l D) jT m_Sl_letAllAct 6 (fun v h => v = none ∧ ∃ κ' nx', h = (hC D B (allF 8 σ) κ' g, nx') ∧ KR B (allF 8 σ) κ' nx') (sS (allF 8 σ) - sS (allF (4 * s + 4) σ)) (7 * (sS (allF 8 σ) - sS (allF (4 * s + 4) σ))) 2 [some (.ref (B + 0)), some (.int (nI (s + 1))), x2] [] (hC D B (allF (4 * s + 4) σ) κ g, nx)) : ∀ (m i : Nat) (κ : Kp) (nx : Nat), i ≤ 4 → 4 - i < m → KR B (allF (4 * s + i) σ) κ nx → J (G0 l D) jT m_Sl_letAllAct 6 (fun v h => v = none ∧ ∃ κ' nx', h = (hC D B (allF 8 σ) κ' g, nx') ∧ KR B (allF 8 σ) κ' nx') (sS (allF 8 σ) - sS (allF (4 * s + i) σ)) (7 * (sS (allF 8 σ) - sS (allF (4 * s + i) σ))) 9 [some (.ref (B + 0)), some (.int (nI s)), some (.int (nI i))] [] (hC D B (allF (4 * s + i) σ) κ g, nx) := by
  intro m
  induction m with
  | zero =>
    intros
    exfalso
    omega
  | succ m ih =>
    intro i κ nx h1 h2 kr
    refine j_iload_n d_Sl_letAllAct_9 rfl ?_
    refine j_iconst (v := nI 4) d_Sl_letAllAct_10 (by decide +kernel) ?_
    first | refine nn_icmp_ge (t := 34) d_Sl_letAllAct_11 (by decide) (by omega) (by omega) (fun c11 => ?_) (fun c11 => ?_) | refine mm_icmp_ge (t := 34) d_Sl_letAllAct_11 (by decide) (by omega) (by omega) (fun c11 => ?_) (fun c11 => ?_) | refine mn_icmp_ge (t := 34) d_Sl_letAllAct_11 (by decide) (by omega) (by omega) (fun c11 => ?_) (fun c11 => ?_) | refine nm_icmp_ge (t := 34) d_Sl_letAllAct_11 (by decide) (by omega) (by omega) (fun c11 => ?_) (fun c11 => ?_) | refine j_icmp_ge (t := 34) d_Sl_letAllAct_11 (by decide) (fun c11 => ?_) (fun c11 => ?_)
    · refine n_iinc (k := 1) d_Sl_letAllAct_34 (by decide +kernel) rfl (by decide) rfl rfl ?_
      refine j_goto (t := 2) d_Sl_letAllAct_37 (by decide) ?_
      have e4 : i = 4 := by omega
      subst e4
      exact hnext κ nx _ kr
    · have hp : 4 * s + i < 8 := by omega
      have m1 := sS_act (σ := allF (4 * s + i) σ) hp
      have m2 := allF_mono (σ := σ) (show 4 * s + (i + 1) ≤ 8 by omega) (by omega)
      have e2 : allF (4 * s + (i + 1)) σ = sAct (allF (4 * s + i) σ) (4 * s + i) := rfl
      rw [e2] at m2
      rw [show sS (allF 8 σ) - sS (allF (4 * s + i) σ) = (sS (sAct (allF (4 * s + i) σ) (4 * s + i)) - sS (allF (4 * s + i) σ)) + (sS (allF 8 σ) - sS (sAct (allF (4 * s + i) σ) (4 * s + i))) by omega, Nat.mul_add]
      first | refine j_aload_n d_Sl_letAllAct_14 rfl ?_ | refine j_aload_nq d_Sl_letAllAct_14 rfl ?_ | refine j_aload_nN d_Sl_letAllAct_14 rfl ?_
      refine j_get d_Sl_letAllAct_15 f_Sl_17 (hC_t (by decide)) rfl ?_
      refine j_iload_n d_Sl_letAllAct_18 rfl ?_
      refine j_aald (t := 5) d_Sl_letAllAct_19 rfl (hC_t (by decide)) rfl hs (by decide) ?_
      rw [if_pos hs]
      refine j_get d_Sl_letAllAct_20 f_Sl_89 (hC_s hs (by decide)) rfl ?_
      refine j_iload_n d_Sl_letAllAct_23 rfl ?_
      refine j_aald (t := 4) d_Sl_letAllAct_24 rfl (hC_s hs (by decide)) rfl c11 (by decide) ?_
      rw [if_pos c11]
      refine j_callV (As := []) G0_good G0_E d_Sl_letAllAct_25 c_Sl_142 rfl rfl (t_Re_act (p := 4 * s + i) (σ := allF (4 * s + i) σ) hp ok (allF_I ok hi0 _ (by omega)) kr) (hC_p hp (by decide)) rfl rfl (by decide) (Nat.le_of_ble_eq_true rfl) ?_
      rintro _ _ ⟨rfl, κ', nx', rfl, kr', hle⟩
      refine n_iinc (k := 1) d_Sl_letAllAct_28 (by decide +kernel) rfl (by decide) rfl rfl ?_
      refine j_goto (t := 9) d_Sl_letAllAct_31 (by decide) ?_
      exact ih (i + 1) _ _ (by omega) (by omega) kr'

set_option maxHeartbeats 4000000 in
set_option maxRecDepth 100000 in
theorem lp_all {l : Launch} {D : va_G} {B : Nat} {g : Nat → Option va_E} {I : Sg → Prop} {mu : Nat → Sg → Nat} (ok : OkI I mu) {σ : Sg} (hi0 : I σ) : ∀ (m s : Nat) (κ : Kp) (nx : Nat) (x2 : Option Value), s ≤ 2 → 2 - s < m → KR B (allF (4 * s) σ) κ nx → J (G0 l D) jT m_Sl_letAllAct 6 (fun v h => v = none ∧ ∃ κ' nx', h = (hC D B (allF 8 σ) κ' g, nx') ∧ KR B (allF 8 σ) κ' nx') (sS (allF 8 σ) - sS (allF (4 * s) σ)) (7 * (sS (allF 8 σ) - sS (allF (4 * s) σ))) 2 [some (.ref (B + 0)), some (.int (nI s)), x2] [] (hC D B (allF (4 * s) σ) κ g, nx) := by
  intro m
  induction m with
  | zero =>
    intros
    exfalso
    omega
  | succ m ih =>
    intro s κ nx x2 h1 h2 kr
    refine j_iload_n d_Sl_letAllAct_2 rfl ?_
    refine j_iconst (v := nI 2) d_Sl_letAllAct_3 (by decide +kernel) ?_
    first | refine nn_icmp_ge (t := 40) d_Sl_letAllAct_4 (by decide) (by omega) (by omega) (fun c4 => ?_) (fun c4 => ?_) | refine mm_icmp_ge (t := 40) d_Sl_letAllAct_4 (by decide) (by omega) (by omega) (fun c4 => ?_) (fun c4 => ?_) | refine mn_icmp_ge (t := 40) d_Sl_letAllAct_4 (by decide) (by omega) (by omega) (fun c4 => ?_) (fun c4 => ?_) | refine nm_icmp_ge (t := 40) d_Sl_letAllAct_4 (by decide) (by omega) (by omega) (fun c4 => ?_) (fun c4 => ?_) | refine j_icmp_ge (t := 40) d_Sl_letAllAct_4 (by decide) (fun c4 => ?_) (fun c4 => ?_)
    · have e2 : s = 2 := by omega
      subst e2
      exact j_vret d_Sl_letAllAct_40 rfl ⟨rfl, κ, nx, rfl, kr⟩
    · refine j_iconst (v := nI 0) d_Sl_letAllAct_7 (by decide +kernel) ?_
      refine j_istore_n d_Sl_letAllAct_8 (by decide) rfl rfl ?_
      exact lp_all_in ok hi0 s (by omega) (fun κ nx x2 kr => ih (s + 1) κ nx x2 (by omega) (by omega) kr) 5 0 κ nx (by omega) (by omega) kr

set_option maxHeartbeats 4000000 in
set_option maxRecDepth 100000 in
theorem t_Sl_letAllAct {l : Launch} {D : va_G} {B : Nat} {g : Nat → Option va_E} {I : Sg → Prop} {mu : Nat → Sg → Nat} (ok : OkI I mu) {σ : Sg} (hi0 : I σ) {κ : Kp} {nx : Nat} (kr : KR B σ κ nx) : jM (G0 l D) m_Sl_letAllAct 6 (sS (allF 8 σ) - sS σ) (7 * (sS (allF 8 σ) - sS σ)) [.ref (B + 0)] (hC D B σ κ g, nx) (fun v h => v = none ∧ ∃ κ' nx', h = (hC D B (allF 8 σ) κ' g, nx') ∧ KR B (allF 8 σ) κ' nx') := by
  refine jM.of (by decide +kernel) (Nat.le_of_ble_eq_true rfl) rfl ?_
  refine j_iconst (v := nI 0) d_Sl_letAllAct_0 (by decide +kernel) ?_
  refine j_istore_n d_Sl_letAllAct_1 (by decide) rfl rfl ?_
  exact lp_all ok hi0 3 0 κ nx _ (by omega) (by omega) kr

set_option maxHeartbeats 4000000 in
set_option maxRecDepth 100000 in
theorem t_Sl_deliver_O1 {l : Launch} {D : va_G} {B nx : Nat} {σ : Sg} {κ : Kp} {g : Nat → Option va_E} (x k y : Int32) (hx : ¬ inr x 2) : jM (G0 l D) m_Sl_deliver 2 0 0 [.ref (B + 0), .int x, .int k, .int y] (hC D B σ κ g, nx) (fun v h => v = some (.int (nI 0)) ∧ h = (hC D B σ κ g, nx)) := by
  refine jM.of (by decide +kernel) (Nat.le_of_ble_eq_true rfl) rfl ?_
  first | refine j_aload_n d_Sl_deliver_0 rfl ?_ | refine j_aload_nq d_Sl_deliver_0 rfl ?_ | refine j_aload_nN d_Sl_deliver_0 rfl ?_
  refine j_iload_n d_Sl_deliver_1 rfl ?_
  refine j_callV0 (As := [_]) G0_good G0_E d_Sl_deliver_2 c_Sl_64 rfl rfl (t_Sl_shardAtO x hx) (hC_t (by decide)) rfl rfl (by decide) (Nat.le_of_ble_eq_true rfl) ?_
  rintro _ _ ⟨rfl, rfl⟩
  first | refine j_astore d_Sl_deliver_5 (by decide) rfl rfl ?_ | refine j_astoreq d_Sl_deliver_5 (by decide) rfl rfl ?_ | refine j_astoreN d_Sl_deliver_5 (by decide) rfl rfl ?_
  first | refine j_aload d_Sl_deliver_7 rfl ?_ | refine j_aloadq d_Sl_deliver_7 rfl ?_ | refine j_aloadN d_Sl_deliver_7 rfl ?_
  refine j_ifnonnull (r := none) (t := 14) d_Sl_deliver_9 (by decide) (fun x c => by cases c) (fun c => ?_)
  refine j_iconst (v := nI 0) d_Sl_deliver_12 (by decide +kernel) ?_
  exact j_zret d_Sl_deliver_13 rfl (by decide +kernel) ⟨rfl, rfl⟩

set_option maxHeartbeats 4000000 in
set_option maxRecDepth 100000 in
theorem t_Sl_deliver_O2 {l : Launch} {D : va_G} {B nx : Nat} {σ : Sg} {κ : Kp} {g : Nat → Option va_E} (s : Nat) (hs : s < 2) (k y : Int32) (hy : ¬ inr y 4) : jM (G0 l D) m_Sl_deliver 2 0 0 [.ref (B + 0), .int (nI s), .int k, .int y] (hC D B σ κ g, nx) (fun v h => v = some (.int (nI 0)) ∧ h = (hC D B σ κ g, nx)) := by
  refine jM.of (by decide +kernel) (Nat.le_of_ble_eq_true rfl) rfl ?_
  first | refine j_aload_n d_Sl_deliver_0 rfl ?_ | refine j_aload_nq d_Sl_deliver_0 rfl ?_ | refine j_aload_nN d_Sl_deliver_0 rfl ?_
  refine j_iload_n d_Sl_deliver_1 rfl ?_
  refine j_callV0 (As := [_]) G0_good G0_E d_Sl_deliver_2 c_Sl_64 rfl rfl (t_Sl_shardAt s hs) (hC_t (by decide)) rfl rfl (by decide) (Nat.le_of_ble_eq_true rfl) ?_
  rintro _ _ ⟨rfl, rfl⟩
  first | refine j_astore d_Sl_deliver_5 (by decide) rfl rfl ?_ | refine j_astoreq d_Sl_deliver_5 (by decide) rfl rfl ?_ | refine j_astoreN d_Sl_deliver_5 (by decide) rfl rfl ?_
  first | refine j_aload d_Sl_deliver_7 rfl ?_ | refine j_aloadq d_Sl_deliver_7 rfl ?_ | refine j_aloadN d_Sl_deliver_7 rfl ?_
  refine j_ifnonnull (r := some (aS B s + 0)) (t := 14) d_Sl_deliver_9 (by decide) (fun x c => ?_) (fun c => by cases c)
  first | refine j_aload d_Sl_deliver_14 rfl ?_ | refine j_aloadq d_Sl_deliver_14 rfl ?_ | refine j_aloadN d_Sl_deliver_14 rfl ?_
  refine j_iload_n d_Sl_deliver_16 rfl ?_
  refine j_callV0 (As := [_]) G0_good G0_E d_Sl_deliver_17 c_Sl_68 rfl rfl (t_Sh_replicaAtO hs y hy) (hC_s hs (by decide)) rfl rfl (by decide) (Nat.le_of_ble_eq_true rfl) ?_
  rintro _ _ ⟨rfl, rfl⟩
  first | refine j_astore d_Sl_deliver_20 (by decide) rfl rfl ?_ | refine j_astoreq d_Sl_deliver_20 (by decide) rfl rfl ?_ | refine j_astoreN d_Sl_deliver_20 (by decide) rfl rfl ?_
  first | refine j_aload d_Sl_deliver_22 rfl ?_ | refine j_aloadq d_Sl_deliver_22 rfl ?_ | refine j_aloadN d_Sl_deliver_22 rfl ?_
  refine j_ifnull (r := none) (t := 48) d_Sl_deliver_24 (by decide) (fun c => ?_) (fun x c => by cases c)
  refine j_iconst (v := nI 0) d_Sl_deliver_48 (by decide +kernel) ?_
  exact j_zret d_Sl_deliver_49 rfl (by decide +kernel) ⟨rfl, rfl⟩

set_option maxHeartbeats 4000000 in
set_option maxRecDepth 100000 in
theorem t_Sl_deliver_N {l : Launch} {D : va_G} {B nx : Nat} {σ : Sg} {κ : Kp} {g : Nat → Option va_E} {I : Sg → Prop} {mu : Nat → Sg → Nat} (ok : OkI I mu) (hi0 : I σ) (kr : KR B σ κ nx) (s i : Nat) (hs : s < 2) (hi : i < 4) (h918 : σ 20 s 0 ≤ 918) (k : Int32) (hk : k < 0) : jM (G0 l D) m_Sl_deliver 2 0 0 [.ref (B + 0), .int (nI s), .int k, .int (nI i)] (hC D B σ κ g, nx) (fun v h => v = some (.int (nI 0)) ∧ h = (hC D B σ κ g, nx)) := by
  refine jM.of (by decide +kernel) (Nat.le_of_ble_eq_true rfl) rfl ?_
  have hp : 4 * s + i < 8 := by omega
  have hb := ((ok (4 * s + i) hp).1 σ hi0).1
  have ed : (4 * s + i) / 4 = s := p_div hi
  have em : (4 * s + i) % 4 = i := p_mod hi
  first | refine j_aload_n d_Sl_deliver_0 rfl ?_ | refine j_aload_nq d_Sl_deliver_0 rfl ?_ | refine j_aload_nN d_Sl_deliver_0 rfl ?_
  refine j_iload_n d_Sl_deliver_1 rfl ?_
  refine j_callV0 (As := [_]) G0_good G0_E d_Sl_deliver_2 c_Sl_64 rfl rfl (t_Sl_shardAt s hs) (hC_t (by decide)) rfl rfl (by decide) (Nat.le_of_ble_eq_true rfl) ?_
  rintro _ _ ⟨rfl, rfl⟩
  first | refine j_astore d_Sl_deliver_5 (by decide) rfl rfl ?_ | refine j_astoreq d_Sl_deliver_5 (by decide) rfl rfl ?_ | refine j_astoreN d_Sl_deliver_5 (by decide) rfl rfl ?_
  first | refine j_aload d_Sl_deliver_7 rfl ?_ | refine j_aloadq d_Sl_deliver_7 rfl ?_ | refine j_aloadN d_Sl_deliver_7 rfl ?_
  refine j_ifnonnull (r := some (aS B s + 0)) (t := 14) d_Sl_deliver_9 (by decide) (fun x c => ?_) (fun c => by cases c)
  first | refine j_aload d_Sl_deliver_14 rfl ?_ | refine j_aloadq d_Sl_deliver_14 rfl ?_ | refine j_aloadN d_Sl_deliver_14 rfl ?_
  refine j_iload_n d_Sl_deliver_16 rfl ?_
  refine j_callV0 (As := [_]) G0_good G0_E d_Sl_deliver_17 c_Sl_68 rfl rfl (t_Sh_replicaAt hs i hi) (hC_s hs (by decide)) rfl rfl (by decide) (Nat.le_of_ble_eq_true rfl) ?_
  rintro _ _ ⟨rfl, rfl⟩
  first | refine j_astore d_Sl_deliver_20 (by decide) rfl rfl ?_ | refine j_astoreq d_Sl_deliver_20 (by decide) rfl rfl ?_ | refine j_astoreN d_Sl_deliver_20 (by decide) rfl rfl ?_
  first | refine j_aload d_Sl_deliver_22 rfl ?_ | refine j_aloadq d_Sl_deliver_22 rfl ?_ | refine j_aloadN d_Sl_deliver_22 rfl ?_
  refine j_ifnull (r := some (aP B (4 * s + i) + 3)) (t := 48) d_Sl_deliver_24 (by decide) (fun c => by cases c) (fun x c => ?_)
  first | refine j_aload d_Sl_deliver_27 rfl ?_ | refine j_aloadq d_Sl_deliver_27 rfl ?_ | refine j_aloadN d_Sl_deliver_27 rfl ?_
  first | refine j_aload d_Sl_deliver_29 rfl ?_ | refine j_aloadq d_Sl_deliver_29 rfl ?_ | refine j_aloadN d_Sl_deliver_29 rfl ?_
  refine j_get d_Sl_deliver_31 f_Sl_72 (hC_s hs (by decide)) rfl ?_
  refine j_iload_n d_Sl_deliver_34 rfl ?_
  refine j_callV0 (As := [_]) G0_good G0_E d_Sl_deliver_35 c_Sl_76 rfl rfl (t_Lo_messageAtN hs k hk) (hC_s hs (by decide)) rfl rfl (by decide) (Nat.le_of_ble_eq_true rfl) ?_
  rintro _ _ ⟨rfl, rfl⟩
  refine j_callV0 (As := [_]) G0_good G0_E d_Sl_deliver_38 c_Sl_82 rfl rfl (t_Re_acceptN) (hC_p hp (by decide)) rfl rfl (by decide) (Nat.le_of_ble_eq_true rfl) ?_
  rintro _ _ ⟨rfl, rfl⟩
  refine j_if_eq (t := 48) d_Sl_deliver_41 (by decide) (fun _ => ?_) (fun q => absurd q (by decide +kernel))
  refine j_iconst (v := nI 0) d_Sl_deliver_48 (by decide +kernel) ?_
  exact j_zret d_Sl_deliver_49 rfl (by decide +kernel) ⟨rfl, rfl⟩

set_option maxHeartbeats 4000000 in
set_option maxRecDepth 100000 in
theorem t_Sl_deliver_G {l : Launch} {D : va_G} {B nx : Nat} {σ : Sg} {κ : Kp} {g : Nat → Option va_E} {I : Sg → Prop} {mu : Nat → Sg → Nat} (ok : OkI I mu) (hi0 : I σ) (kr : KR B σ κ nx) (s i : Nat) (hs : s < 2) (hi : i < 4) (h918 : σ 20 s 0 ≤ 918) (k : Nat) (hk : k < 2 ^ 31) (hg : σ 20 s 0 ≤ k) : jM (G0 l D) m_Sl_deliver 2 0 0 [.ref (B + 0), .int (nI s), .int (nI k), .int (nI i)] (hC D B σ κ g, nx) (fun v h => v = some (.int (nI 0)) ∧ h = (hC D B σ κ g, nx)) := by
  refine jM.of (by decide +kernel) (Nat.le_of_ble_eq_true rfl) rfl ?_
  have hp : 4 * s + i < 8 := by omega
  have hb := ((ok (4 * s + i) hp).1 σ hi0).1
  have ed : (4 * s + i) / 4 = s := p_div hi
  have em : (4 * s + i) % 4 = i := p_mod hi
  first | refine j_aload_n d_Sl_deliver_0 rfl ?_ | refine j_aload_nq d_Sl_deliver_0 rfl ?_ | refine j_aload_nN d_Sl_deliver_0 rfl ?_
  refine j_iload_n d_Sl_deliver_1 rfl ?_
  refine j_callV0 (As := [_]) G0_good G0_E d_Sl_deliver_2 c_Sl_64 rfl rfl (t_Sl_shardAt s hs) (hC_t (by decide)) rfl rfl (by decide) (Nat.le_of_ble_eq_true rfl) ?_
  rintro _ _ ⟨rfl, rfl⟩
  first | refine j_astore d_Sl_deliver_5 (by decide) rfl rfl ?_ | refine j_astoreq d_Sl_deliver_5 (by decide) rfl rfl ?_ | refine j_astoreN d_Sl_deliver_5 (by decide) rfl rfl ?_
  first | refine j_aload d_Sl_deliver_7 rfl ?_ | refine j_aloadq d_Sl_deliver_7 rfl ?_ | refine j_aloadN d_Sl_deliver_7 rfl ?_
  refine j_ifnonnull (r := some (aS B s + 0)) (t := 14) d_Sl_deliver_9 (by decide) (fun x c => ?_) (fun c => by cases c)
  first | refine j_aload d_Sl_deliver_14 rfl ?_ | refine j_aloadq d_Sl_deliver_14 rfl ?_ | refine j_aloadN d_Sl_deliver_14 rfl ?_
  refine j_iload_n d_Sl_deliver_16 rfl ?_
  refine j_callV0 (As := [_]) G0_good G0_E d_Sl_deliver_17 c_Sl_68 rfl rfl (t_Sh_replicaAt hs i hi) (hC_s hs (by decide)) rfl rfl (by decide) (Nat.le_of_ble_eq_true rfl) ?_
  rintro _ _ ⟨rfl, rfl⟩
  first | refine j_astore d_Sl_deliver_20 (by decide) rfl rfl ?_ | refine j_astoreq d_Sl_deliver_20 (by decide) rfl rfl ?_ | refine j_astoreN d_Sl_deliver_20 (by decide) rfl rfl ?_
  first | refine j_aload d_Sl_deliver_22 rfl ?_ | refine j_aloadq d_Sl_deliver_22 rfl ?_ | refine j_aloadN d_Sl_deliver_22 rfl ?_
  refine j_ifnull (r := some (aP B (4 * s + i) + 3)) (t := 48) d_Sl_deliver_24 (by decide) (fun c => by cases c) (fun x c => ?_)
  first | refine j_aload d_Sl_deliver_27 rfl ?_ | refine j_aloadq d_Sl_deliver_27 rfl ?_ | refine j_aloadN d_Sl_deliver_27 rfl ?_
  first | refine j_aload d_Sl_deliver_29 rfl ?_ | refine j_aloadq d_Sl_deliver_29 rfl ?_ | refine j_aloadN d_Sl_deliver_29 rfl ?_
  refine j_get d_Sl_deliver_31 f_Sl_72 (hC_s hs (by decide)) rfl ?_
  refine j_iload_n d_Sl_deliver_34 rfl ?_
  refine j_callV0 (As := [_]) G0_good G0_E d_Sl_deliver_35 c_Sl_76 rfl rfl (t_Lo_messageAt hs hb h918 k hk) (hC_s hs (by decide)) rfl rfl (by decide) (Nat.le_of_ble_eq_true rfl) ?_
  rintro _ _ ⟨rfl, rfl⟩
  rw [if_neg (show ¬ k < σ 20 s 0 by omega)]
  refine j_callV0 (As := [_]) G0_good G0_E d_Sl_deliver_38 c_Sl_82 rfl rfl (t_Re_acceptN) (hC_p hp (by decide)) rfl rfl (by decide) (Nat.le_of_ble_eq_true rfl) ?_
  rintro _ _ ⟨rfl, rfl⟩
  refine j_if_eq (t := 48) d_Sl_deliver_41 (by decide) (fun _ => ?_) (fun q => absurd q (by decide +kernel))
  refine j_iconst (v := nI 0) d_Sl_deliver_48 (by decide +kernel) ?_
  exact j_zret d_Sl_deliver_49 rfl (by decide +kernel) ⟨rfl, rfl⟩

set_option maxHeartbeats 4000000 in
set_option maxRecDepth 100000 in
theorem t_Sl_deliver_f {l : Launch} {D : va_G} {B nx : Nat} {σ : Sg} {κ : Kp} {g : Nat → Option va_E} {I : Sg → Prop} {mu : Nat → Sg → Nat} (ok : OkI I mu) (hi0 : I σ) (kr : KR B σ κ nx) (s i : Nat) (hs : s < 2) (hi : i < 4) (h918 : σ 20 s 0 ≤ 918) (k : Nat) (hk : k < σ 20 s 0) (h16 : σ 27 s k < 16) (hkd : σ 21 s k < 3) (hrd : σ 24 s k < 6) (hsd : σ 22 s k < 4) (h : ¬ can σ (4 * s + i) k) : jM (G0 l D) m_Sl_deliver 3 0 0 [.ref (B + 0), .int (nI s), .int (nI k), .int (nI i)] (hC D B σ κ g, nx) (fun v h => v = some (.int (nI 0)) ∧ h = (hC D B σ κ g, nx)) := by
  refine jM.of (by decide +kernel) (Nat.le_of_ble_eq_true rfl) rfl ?_
  have hp : 4 * s + i < 8 := by omega
  have hb := ((ok (4 * s + i) hp).1 σ hi0).1
  have ed : (4 * s + i) / 4 = s := p_div hi
  have em : (4 * s + i) % 4 = i := p_mod hi
  have b20 := hb 20 s 0
  obtain ⟨a, ha, hpr, hm, -⟩ := kr.2.2.1 s k hs hk
  first | refine j_aload_n d_Sl_deliver_0 rfl ?_ | refine j_aload_nq d_Sl_deliver_0 rfl ?_ | refine j_aload_nN d_Sl_deliver_0 rfl ?_
  refine j_iload_n d_Sl_deliver_1 rfl ?_
  refine j_callV0 (As := [_]) G0_good G0_E d_Sl_deliver_2 c_Sl_64 rfl rfl (t_Sl_shardAt s hs) (hC_t (by decide)) rfl rfl (by decide) (Nat.le_of_ble_eq_true rfl) ?_
  rintro _ _ ⟨rfl, rfl⟩
  first | refine j_astore d_Sl_deliver_5 (by decide) rfl rfl ?_ | refine j_astoreq d_Sl_deliver_5 (by decide) rfl rfl ?_ | refine j_astoreN d_Sl_deliver_5 (by decide) rfl rfl ?_
  first | refine j_aload d_Sl_deliver_7 rfl ?_ | refine j_aloadq d_Sl_deliver_7 rfl ?_ | refine j_aloadN d_Sl_deliver_7 rfl ?_
  refine j_ifnonnull (r := some (aS B s + 0)) (t := 14) d_Sl_deliver_9 (by decide) (fun x c => ?_) (fun c => by cases c)
  first | refine j_aload d_Sl_deliver_14 rfl ?_ | refine j_aloadq d_Sl_deliver_14 rfl ?_ | refine j_aloadN d_Sl_deliver_14 rfl ?_
  refine j_iload_n d_Sl_deliver_16 rfl ?_
  refine j_callV0 (As := [_]) G0_good G0_E d_Sl_deliver_17 c_Sl_68 rfl rfl (t_Sh_replicaAt hs i hi) (hC_s hs (by decide)) rfl rfl (by decide) (Nat.le_of_ble_eq_true rfl) ?_
  rintro _ _ ⟨rfl, rfl⟩
  first | refine j_astore d_Sl_deliver_20 (by decide) rfl rfl ?_ | refine j_astoreq d_Sl_deliver_20 (by decide) rfl rfl ?_ | refine j_astoreN d_Sl_deliver_20 (by decide) rfl rfl ?_
  first | refine j_aload d_Sl_deliver_22 rfl ?_ | refine j_aloadq d_Sl_deliver_22 rfl ?_ | refine j_aloadN d_Sl_deliver_22 rfl ?_
  refine j_ifnull (r := some (aP B (4 * s + i) + 3)) (t := 48) d_Sl_deliver_24 (by decide) (fun c => by cases c) (fun x c => ?_)
  first | refine j_aload d_Sl_deliver_27 rfl ?_ | refine j_aloadq d_Sl_deliver_27 rfl ?_ | refine j_aloadN d_Sl_deliver_27 rfl ?_
  first | refine j_aload d_Sl_deliver_29 rfl ?_ | refine j_aloadq d_Sl_deliver_29 rfl ?_ | refine j_aloadN d_Sl_deliver_29 rfl ?_
  refine j_get d_Sl_deliver_31 f_Sl_72 (hC_s hs (by decide)) rfl ?_
  refine j_iload_n d_Sl_deliver_34 rfl ?_
  refine j_callV0 (As := [_]) G0_good G0_E d_Sl_deliver_35 c_Sl_76 rfl rfl (t_Lo_messageAt hs hb h918 k (by omega)) (hC_s hs (by decide)) rfl rfl (by decide) (Nat.le_of_ble_eq_true rfl) ?_
  rintro _ _ ⟨rfl, rfl⟩
  rw [if_pos hk, ha]
  refine j_callV0 (As := [_]) G0_good G0_E d_Sl_deliver_38 c_Sl_82 rfl rfl (t_Re_accept_f hp ok hi0 kr (k := k) (a := a) (by rw [ed]; exact hk) (by rw [ed]; exact ha) (by rw [ed]; exact h16) (by rw [ed]; exact hkd) (by rw [ed]; exact hrd) (by rw [ed]; exact hsd) h) (hC_p hp (by decide)) rfl rfl (by decide) (Nat.le_of_ble_eq_true rfl) ?_
  rintro _ _ ⟨rfl, rfl⟩
  refine j_if_eq (t := 48) d_Sl_deliver_41 (by decide) (fun _ => ?_) (fun q => absurd q (by decide +kernel))
  refine j_iconst (v := nI 0) d_Sl_deliver_48 (by decide +kernel) ?_
  exact j_zret d_Sl_deliver_49 rfl (by decide +kernel) ⟨rfl, rfl⟩

set_option maxHeartbeats 4000000 in
set_option maxRecDepth 100000 in
theorem t_Sl_deliver_t {l : Launch} {D : va_G} {B nx : Nat} {σ : Sg} {κ : Kp} {g : Nat → Option va_E} {I : Sg → Prop} {mu : Nat → Sg → Nat} (ok : OkI I mu) (hi0 : I σ) (kr : KR B σ κ nx) (s i : Nat) (hs : s < 2) (hi : i < 4) (h918 : σ 20 s 0 ≤ 918) (k : Nat) (hk : k < σ 20 s 0) (h16 : σ 27 s k < 16) (hkd : σ 21 s k < 3) (hrd : σ 24 s k < 6) (hsd : σ 22 s k < 4) (h : can σ (4 * s + i) k) (hi' : I (sTake σ (4 * s + i) k)) : jM (G0 l D) m_Sl_deliver 7 (sS (sAct (sTake σ (4 * s + i) k) (4 * s + i)) - sS σ) (7 * (sS (sAct (sTake σ (4 * s + i) k) (4 * s + i)) - sS σ)) [.ref (B + 0), .int (nI s), .int (nI k), .int (nI i)] (hC D B σ κ g, nx) (fun v h => v = some (.int (nI 1)) ∧ ∃ κ' nx', h = (hC D B (sAct (sTake σ (4 * s + i) k) (4 * s + i)) κ' g, nx') ∧ KR B (sAct (sTake σ (4 * s + i) k) (4 * s + i)) κ' nx' ∧ nx ≤ nx') := by
  refine jM.of (by decide +kernel) (Nat.le_of_ble_eq_true rfl) rfl ?_
  have hp : 4 * s + i < 8 := by omega
  have hb := ((ok (4 * s + i) hp).1 σ hi0).1
  have ed : (4 * s + i) / 4 = s := p_div hi
  have em : (4 * s + i) % 4 = i := p_mod hi
  have b20 := hb 20 s 0
  obtain ⟨a, ha, hpr, hm, -⟩ := kr.2.2.1 s k hs hk
  first | refine j_aload_n d_Sl_deliver_0 rfl ?_ | refine j_aload_nq d_Sl_deliver_0 rfl ?_ | refine j_aload_nN d_Sl_deliver_0 rfl ?_
  refine j_iload_n d_Sl_deliver_1 rfl ?_
  refine j_callV0 (As := [_]) G0_good G0_E d_Sl_deliver_2 c_Sl_64 rfl rfl (t_Sl_shardAt s hs) (hC_t (by decide)) rfl rfl (by decide) (Nat.le_of_ble_eq_true rfl) ?_
  rintro _ _ ⟨rfl, rfl⟩
  first | refine j_astore d_Sl_deliver_5 (by decide) rfl rfl ?_ | refine j_astoreq d_Sl_deliver_5 (by decide) rfl rfl ?_ | refine j_astoreN d_Sl_deliver_5 (by decide) rfl rfl ?_
  first | refine j_aload d_Sl_deliver_7 rfl ?_ | refine j_aloadq d_Sl_deliver_7 rfl ?_ | refine j_aloadN d_Sl_deliver_7 rfl ?_
  refine j_ifnonnull (r := some (aS B s + 0)) (t := 14) d_Sl_deliver_9 (by decide) (fun x c => ?_) (fun c => by cases c)
  first | refine j_aload d_Sl_deliver_14 rfl ?_ | refine j_aloadq d_Sl_deliver_14 rfl ?_ | refine j_aloadN d_Sl_deliver_14 rfl ?_
  refine j_iload_n d_Sl_deliver_16 rfl ?_
  refine j_callV0 (As := [_]) G0_good G0_E d_Sl_deliver_17 c_Sl_68 rfl rfl (t_Sh_replicaAt hs i hi) (hC_s hs (by decide)) rfl rfl (by decide) (Nat.le_of_ble_eq_true rfl) ?_
  rintro _ _ ⟨rfl, rfl⟩
  first | refine j_astore d_Sl_deliver_20 (by decide) rfl rfl ?_ | refine j_astoreq d_Sl_deliver_20 (by decide) rfl rfl ?_ | refine j_astoreN d_Sl_deliver_20 (by decide) rfl rfl ?_
  first | refine j_aload d_Sl_deliver_22 rfl ?_ | refine j_aloadq d_Sl_deliver_22 rfl ?_ | refine j_aloadN d_Sl_deliver_22 rfl ?_
  refine j_ifnull (r := some (aP B (4 * s + i) + 3)) (t := 48) d_Sl_deliver_24 (by decide) (fun c => by cases c) (fun x c => ?_)
  first | refine j_aload d_Sl_deliver_27 rfl ?_ | refine j_aloadq d_Sl_deliver_27 rfl ?_ | refine j_aloadN d_Sl_deliver_27 rfl ?_
  first | refine j_aload d_Sl_deliver_29 rfl ?_ | refine j_aloadq d_Sl_deliver_29 rfl ?_ | refine j_aloadN d_Sl_deliver_29 rfl ?_
  refine j_get d_Sl_deliver_31 f_Sl_72 (hC_s hs (by decide)) rfl ?_
  refine j_iload_n d_Sl_deliver_34 rfl ?_
  refine j_callV0 (As := [_]) G0_good G0_E d_Sl_deliver_35 c_Sl_76 rfl rfl (t_Lo_messageAt hs hb h918 k (by omega)) (hC_s hs (by decide)) rfl rfl (by decide) (Nat.le_of_ble_eq_true rfl) ?_
  rintro _ _ ⟨rfl, rfl⟩
  rw [if_pos hk, ha]
  refine j_callV1 (As := [_]) G0_good G0_E d_Sl_deliver_38 c_Sl_82 rfl rfl (t_Re_accept_t hp ok hi0 kr (k := k) (a := a) (by rw [ed]; exact hk) (by rw [ed]; exact ha) (by rw [ed]; exact h16) (by rw [ed]; exact hkd) (by rw [ed]; exact hrd) (by rw [ed]; exact hsd) h hi') (hC_p hp (by decide)) rfl rfl (by decide) (Nat.le_of_ble_eq_true rfl) ?_
  rintro _ _ ⟨rfl, κ', nx', rfl, kr', hle⟩
  refine j_if_eq (t := 48) d_Sl_deliver_41 (by decide) (fun q => absurd q (by decide +kernel)) (fun _ => ?_)
  refine j_iconst (v := nI 1) d_Sl_deliver_44 (by decide +kernel) ?_
  refine j_goto (t := 49) d_Sl_deliver_45 (by decide) ?_
  exact j_zret d_Sl_deliver_49 rfl (by decide +kernel) ⟨rfl, κ', nx', rfl, kr', hle⟩

set_option maxHeartbeats 4000000 in
set_option maxRecDepth 100000 in
theorem t_Sl_tick_O1 {l : Launch} {D : va_G} {B nx : Nat} {σ : Sg} {κ : Kp} {g : Nat → Option va_E} (x y : Int32) (hx : ¬ inr x 2) : jM (G0 l D) m_Sl_tick 2 0 0 [.ref (B + 0), .int x, .int y] (hC D B σ κ g, nx) (fun v h => v = some (.int (nI 0)) ∧ h = (hC D B σ κ g, nx)) := by
  refine jM.of (by decide +kernel) (Nat.le_of_ble_eq_true rfl) rfl ?_
  first | refine j_aload_n d_Sl_tick_0 rfl ?_ | refine j_aload_nq d_Sl_tick_0 rfl ?_ | refine j_aload_nN d_Sl_tick_0 rfl ?_
  refine j_iload_n d_Sl_tick_1 rfl ?_
  refine j_iload_n d_Sl_tick_2 rfl ?_
  refine j_callV0 (As := [_, _]) G0_good G0_E d_Sl_tick_3 c_Sl_93 rfl rfl (t_Sl_replicaAtO1 x y hx) (hC_t (by decide)) rfl rfl (by decide) (Nat.le_of_ble_eq_true rfl) ?_
  rintro _ _ ⟨rfl, rfl⟩
  first | refine j_astore_n d_Sl_tick_6 (by decide) rfl rfl ?_ | refine j_astore_nq d_Sl_tick_6 (by decide) rfl rfl ?_ | refine j_astore_nN d_Sl_tick_6 (by decide) rfl rfl ?_
  first | refine j_aload_n d_Sl_tick_7 rfl ?_ | refine j_aload_nq d_Sl_tick_7 rfl ?_ | refine j_aload_nN d_Sl_tick_7 rfl ?_
  refine j_ifnull (r := none) (t := 22) d_Sl_tick_8 (by decide) (fun c => ?_) (fun x c => by cases c)
  refine j_iconst (v := nI 0) d_Sl_tick_22 (by decide +kernel) ?_
  exact j_zret d_Sl_tick_23 rfl (by decide +kernel) ⟨rfl, rfl⟩

set_option maxHeartbeats 4000000 in
set_option maxRecDepth 100000 in
theorem t_Sl_tick_O2 {l : Launch} {D : va_G} {B nx : Nat} {σ : Sg} {κ : Kp} {g : Nat → Option va_E} (s : Nat) (hs : s < 2) (y : Int32) (hy : ¬ inr y 4) : jM (G0 l D) m_Sl_tick 2 0 0 [.ref (B + 0), .int (nI s), .int y] (hC D B σ κ g, nx) (fun v h => v = some (.int (nI 0)) ∧ h = (hC D B σ κ g, nx)) := by
  refine jM.of (by decide +kernel) (Nat.le_of_ble_eq_true rfl) rfl ?_
  first | refine j_aload_n d_Sl_tick_0 rfl ?_ | refine j_aload_nq d_Sl_tick_0 rfl ?_ | refine j_aload_nN d_Sl_tick_0 rfl ?_
  refine j_iload_n d_Sl_tick_1 rfl ?_
  refine j_iload_n d_Sl_tick_2 rfl ?_
  refine j_callV0 (As := [_, _]) G0_good G0_E d_Sl_tick_3 c_Sl_93 rfl rfl (t_Sl_replicaAtO2 s hs y hy) (hC_t (by decide)) rfl rfl (by decide) (Nat.le_of_ble_eq_true rfl) ?_
  rintro _ _ ⟨rfl, rfl⟩
  first | refine j_astore_n d_Sl_tick_6 (by decide) rfl rfl ?_ | refine j_astore_nq d_Sl_tick_6 (by decide) rfl rfl ?_ | refine j_astore_nN d_Sl_tick_6 (by decide) rfl rfl ?_
  first | refine j_aload_n d_Sl_tick_7 rfl ?_ | refine j_aload_nq d_Sl_tick_7 rfl ?_ | refine j_aload_nN d_Sl_tick_7 rfl ?_
  refine j_ifnull (r := none) (t := 22) d_Sl_tick_8 (by decide) (fun c => ?_) (fun x c => by cases c)
  refine j_iconst (v := nI 0) d_Sl_tick_22 (by decide +kernel) ?_
  exact j_zret d_Sl_tick_23 rfl (by decide +kernel) ⟨rfl, rfl⟩

set_option maxHeartbeats 4000000 in
set_option maxRecDepth 100000 in
theorem t_Sl_sleep_O1 {l : Launch} {D : va_G} {B nx : Nat} {σ : Sg} {κ : Kp} {g : Nat → Option va_E} (x y : Int32) (w : Int32) (hx : ¬ inr x 2) : jM (G0 l D) m_Sl_sleep 2 0 0 [.ref (B + 0), .int x, .int y, .int w] (hC D B σ κ g, nx) (fun v h => v = some (.int (nI 0)) ∧ h = (hC D B σ κ g, nx)) := by
  refine jM.of (by decide +kernel) (Nat.le_of_ble_eq_true rfl) rfl ?_
  first | refine j_aload_n d_Sl_sleep_0 rfl ?_ | refine j_aload_nq d_Sl_sleep_0 rfl ?_ | refine j_aload_nN d_Sl_sleep_0 rfl ?_
  refine j_iload_n d_Sl_sleep_1 rfl ?_
  refine j_iload_n d_Sl_sleep_2 rfl ?_
  refine j_callV0 (As := [_, _]) G0_good G0_E d_Sl_sleep_3 c_Sl_93 rfl rfl (t_Sl_replicaAtO1 x y hx) (hC_t (by decide)) rfl rfl (by decide) (Nat.le_of_ble_eq_true rfl) ?_
  rintro _ _ ⟨rfl, rfl⟩
  first | refine j_astore d_Sl_sleep_6 (by decide) rfl rfl ?_ | refine j_astoreq d_Sl_sleep_6 (by decide) rfl rfl ?_ | refine j_astoreN d_Sl_sleep_6 (by decide) rfl rfl ?_
  first | refine j_aload d_Sl_sleep_8 rfl ?_ | refine j_aloadq d_Sl_sleep_8 rfl ?_ | refine j_aloadN d_Sl_sleep_8 rfl ?_
  refine j_ifnull (r := none) (t := 26) d_Sl_sleep_10 (by decide) (fun c => ?_) (fun x c => by cases c)
  refine j_iconst (v := nI 0) d_Sl_sleep_26 (by decide +kernel) ?_
  exact j_zret d_Sl_sleep_27 rfl (by decide +kernel) ⟨rfl, rfl⟩

set_option maxHeartbeats 4000000 in
set_option maxRecDepth 100000 in
theorem t_Sl_sleep_O2 {l : Launch} {D : va_G} {B nx : Nat} {σ : Sg} {κ : Kp} {g : Nat → Option va_E} (s : Nat) (hs : s < 2) (y : Int32) (w : Int32) (hy : ¬ inr y 4) : jM (G0 l D) m_Sl_sleep 2 0 0 [.ref (B + 0), .int (nI s), .int y, .int w] (hC D B σ κ g, nx) (fun v h => v = some (.int (nI 0)) ∧ h = (hC D B σ κ g, nx)) := by
  refine jM.of (by decide +kernel) (Nat.le_of_ble_eq_true rfl) rfl ?_
  first | refine j_aload_n d_Sl_sleep_0 rfl ?_ | refine j_aload_nq d_Sl_sleep_0 rfl ?_ | refine j_aload_nN d_Sl_sleep_0 rfl ?_
  refine j_iload_n d_Sl_sleep_1 rfl ?_
  refine j_iload_n d_Sl_sleep_2 rfl ?_
  refine j_callV0 (As := [_, _]) G0_good G0_E d_Sl_sleep_3 c_Sl_93 rfl rfl (t_Sl_replicaAtO2 s hs y hy) (hC_t (by decide)) rfl rfl (by decide) (Nat.le_of_ble_eq_true rfl) ?_
  rintro _ _ ⟨rfl, rfl⟩
  first | refine j_astore d_Sl_sleep_6 (by decide) rfl rfl ?_ | refine j_astoreq d_Sl_sleep_6 (by decide) rfl rfl ?_ | refine j_astoreN d_Sl_sleep_6 (by decide) rfl rfl ?_
  first | refine j_aload d_Sl_sleep_8 rfl ?_ | refine j_aloadq d_Sl_sleep_8 rfl ?_ | refine j_aloadN d_Sl_sleep_8 rfl ?_
  refine j_ifnull (r := none) (t := 26) d_Sl_sleep_10 (by decide) (fun c => ?_) (fun x c => by cases c)
  refine j_iconst (v := nI 0) d_Sl_sleep_26 (by decide +kernel) ?_
  exact j_zret d_Sl_sleep_27 rfl (by decide +kernel) ⟨rfl, rfl⟩

set_option maxHeartbeats 4000000 in
set_option maxRecDepth 100000 in
theorem t_Sl_tick_f {l : Launch} {D : va_G} {B nx : Nat} {σ : Sg} {κ : Kp} {g : Nat → Option va_E} {I : Sg → Prop} {mu : Nat → Sg → Nat} (ok : OkI I mu) (hi0 : I σ) (kr : KR B σ κ nx) (s i : Nat) (hs : s < 2) (hi : i < 4) (h : ¬ cT σ (4 * s + i)) : jM (G0 l D) m_Sl_tick 4 0 0 [.ref (B + 0), .int (nI s), .int (nI i)] (hC D B σ κ g, nx) (fun v h => v = some (.int (nI 0)) ∧ h = (hC D B σ κ g, nx)) := by
  refine jM.of (by decide +kernel) (Nat.le_of_ble_eq_true rfl) rfl ?_
  have hp : 4 * s + i < 8 := by omega
  have hb := ((ok (4 * s + i) hp).1 σ hi0).1
  have ed : (4 * s + i) / 4 = s := p_div hi
  have em : (4 * s + i) % 4 = i := p_mod hi
  first | refine j_aload_n d_Sl_tick_0 rfl ?_ | refine j_aload_nq d_Sl_tick_0 rfl ?_ | refine j_aload_nN d_Sl_tick_0 rfl ?_
  refine j_iload_n d_Sl_tick_1 rfl ?_
  refine j_iload_n d_Sl_tick_2 rfl ?_
  refine j_callV0 (As := [_, _]) G0_good G0_E d_Sl_tick_3 c_Sl_93 rfl rfl (t_Sl_replicaAt s i hs hi) (hC_t (by decide)) rfl rfl (by decide) (Nat.le_of_ble_eq_true rfl) ?_
  rintro _ _ ⟨rfl, rfl⟩
  first | refine j_astore_n d_Sl_tick_6 (by decide) rfl rfl ?_ | refine j_astore_nq d_Sl_tick_6 (by decide) rfl rfl ?_ | refine j_astore_nN d_Sl_tick_6 (by decide) rfl rfl ?_
  first | refine j_aload_n d_Sl_tick_7 rfl ?_ | refine j_aload_nq d_Sl_tick_7 rfl ?_ | refine j_aload_nN d_Sl_tick_7 rfl ?_
  refine j_ifnull (r := some (aP B (4 * s + i) + 3)) (t := 22) d_Sl_tick_8 (by decide) (fun c => by cases c) (fun x c => ?_)
  first | refine j_aload_n d_Sl_tick_11 rfl ?_ | refine j_aload_nq d_Sl_tick_11 rfl ?_ | refine j_aload_nN d_Sl_tick_11 rfl ?_
  refine j_callV0 (As := []) G0_good G0_E d_Sl_tick_12 c_Sl_96 rfl rfl (t_Re_lose_f hp ok hi0 kr h) (hC_p hp (by decide)) rfl rfl (by decide) (Nat.le_of_ble_eq_true rfl) ?_
  rintro _ _ ⟨rfl, rfl⟩
  refine j_if_eq (t := 22) d_Sl_tick_15 (by decide) (fun _ => ?_) (fun q => absurd q (by decide +kernel))
  refine j_iconst (v := nI 0) d_Sl_tick_22 (by decide +kernel) ?_
  exact j_zret d_Sl_tick_23 rfl (by decide +kernel) ⟨rfl, rfl⟩

set_option maxHeartbeats 4000000 in
set_option maxRecDepth 100000 in
theorem t_Sl_tick_0 {l : Launch} {D : va_G} {B nx : Nat} {σ : Sg} {κ : Kp} {g : Nat → Option va_E} {I : Sg → Prop} {mu : Nat → Sg → Nat} (ok : OkI I mu) (hi0 : I σ) (kr : KR B σ κ nx) (s i : Nat) (hs : s < 2) (hi : i < 4) (haw : awake σ (4 * s + i)) (h : σ 12 (4 * s + i) 0 = 0) (hi' : I (k0 σ (4 * s + i))) (h918 : σ 20 ((4 * s + i) / 4) 0 < 918) : jM (G0 l D) m_Sl_tick 7 (sS (sAct (k0 σ (4 * s + i)) (4 * s + i)) - sS σ) (7 * (sS (sAct (k0 σ (4 * s + i)) (4 * s + i)) - sS σ)) [.ref (B + 0), .int (nI s), .int (nI i)] (hC D B σ κ g, nx) (fun v h => v = some (.int (nI 1)) ∧ ∃ κ' nx', h = (hC D B (sAct (k0 σ (4 * s + i)) (4 * s + i)) κ' g, nx') ∧ KR B (sAct (k0 σ (4 * s + i)) (4 * s + i)) κ' nx' ∧ nx ≤ nx') := by
  refine jM.of (by decide +kernel) (Nat.le_of_ble_eq_true rfl) rfl ?_
  have hp : 4 * s + i < 8 := by omega
  have hb := ((ok (4 * s + i) hp).1 σ hi0).1
  have ed : (4 * s + i) / 4 = s := p_div hi
  have em : (4 * s + i) % 4 = i := p_mod hi
  first | refine j_aload_n d_Sl_tick_0 rfl ?_ | refine j_aload_nq d_Sl_tick_0 rfl ?_ | refine j_aload_nN d_Sl_tick_0 rfl ?_
  refine j_iload_n d_Sl_tick_1 rfl ?_
  refine j_iload_n d_Sl_tick_2 rfl ?_
  refine j_callV0 (As := [_, _]) G0_good G0_E d_Sl_tick_3 c_Sl_93 rfl rfl (t_Sl_replicaAt s i hs hi) (hC_t (by decide)) rfl rfl (by decide) (Nat.le_of_ble_eq_true rfl) ?_
  rintro _ _ ⟨rfl, rfl⟩
  first | refine j_astore_n d_Sl_tick_6 (by decide) rfl rfl ?_ | refine j_astore_nq d_Sl_tick_6 (by decide) rfl rfl ?_ | refine j_astore_nN d_Sl_tick_6 (by decide) rfl rfl ?_
  first | refine j_aload_n d_Sl_tick_7 rfl ?_ | refine j_aload_nq d_Sl_tick_7 rfl ?_ | refine j_aload_nN d_Sl_tick_7 rfl ?_
  refine j_ifnull (r := some (aP B (4 * s + i) + 3)) (t := 22) d_Sl_tick_8 (by decide) (fun c => by cases c) (fun x c => ?_)
  first | refine j_aload_n d_Sl_tick_11 rfl ?_ | refine j_aload_nq d_Sl_tick_11 rfl ?_ | refine j_aload_nN d_Sl_tick_11 rfl ?_
  refine j_callV1 (As := []) G0_good G0_E d_Sl_tick_12 c_Sl_96 rfl rfl (t_Re_lose_0 hp ok hi0 kr haw h hi' h918) (hC_p hp (by decide)) rfl rfl (by decide) (Nat.le_of_ble_eq_true rfl) ?_
  rintro _ _ ⟨rfl, κ', nx', rfl, kr', hle⟩
  refine j_if_eq (t := 22) d_Sl_tick_15 (by decide) (fun q => absurd q (by decide +kernel)) (fun _ => ?_)
  refine j_iconst (v := nI 1) d_Sl_tick_18 (by decide +kernel) ?_
  refine j_goto (t := 23) d_Sl_tick_19 (by decide) ?_
  exact j_zret d_Sl_tick_23 rfl (by decide +kernel) ⟨rfl, κ', nx', rfl, kr', hle⟩

set_option maxHeartbeats 4000000 in
set_option maxRecDepth 100000 in
theorem t_Sl_tick_1 {l : Launch} {D : va_G} {B nx : Nat} {σ : Sg} {κ : Kp} {g : Nat → Option va_E} {I : Sg → Prop} {mu : Nat → Sg → Nat} (ok : OkI I mu) (hi0 : I σ) (kr : KR B σ κ nx) (s i : Nat) (hs : s < 2) (hi : i < 4) (haw : awake σ (4 * s + i)) (h : σ 12 (4 * s + i) 0 = 1) (h3 : 3 ≤ ca σ (4 * s + i) 1 (σ 11 (4 * s + i) 0) 4) (hi' : I (k1 σ (4 * s + i))) (h918 : σ 20 ((4 * s + i) / 4) 0 < 918) : jM (G0 l D) m_Sl_tick 7 (sS (sAct (k1 σ (4 * s + i)) (4 * s + i)) - sS σ) (7 * (sS (sAct (k1 σ (4 * s + i)) (4 * s + i)) - sS σ)) [.ref (B + 0), .int (nI s), .int (nI i)] (hC D B σ κ g, nx) (fun v h => v = some (.int (nI 1)) ∧ ∃ κ' nx', h = (hC D B (sAct (k1 σ (4 * s + i)) (4 * s + i)) κ' g, nx') ∧ KR B (sAct (k1 σ (4 * s + i)) (4 * s + i)) κ' nx' ∧ nx ≤ nx') := by
  refine jM.of (by decide +kernel) (Nat.le_of_ble_eq_true rfl) rfl ?_
  have hp : 4 * s + i < 8 := by omega
  have hb := ((ok (4 * s + i) hp).1 σ hi0).1
  have ed : (4 * s + i) / 4 = s := p_div hi
  have em : (4 * s + i) % 4 = i := p_mod hi
  first | refine j_aload_n d_Sl_tick_0 rfl ?_ | refine j_aload_nq d_Sl_tick_0 rfl ?_ | refine j_aload_nN d_Sl_tick_0 rfl ?_
  refine j_iload_n d_Sl_tick_1 rfl ?_
  refine j_iload_n d_Sl_tick_2 rfl ?_
  refine j_callV0 (As := [_, _]) G0_good G0_E d_Sl_tick_3 c_Sl_93 rfl rfl (t_Sl_replicaAt s i hs hi) (hC_t (by decide)) rfl rfl (by decide) (Nat.le_of_ble_eq_true rfl) ?_
  rintro _ _ ⟨rfl, rfl⟩
  first | refine j_astore_n d_Sl_tick_6 (by decide) rfl rfl ?_ | refine j_astore_nq d_Sl_tick_6 (by decide) rfl rfl ?_ | refine j_astore_nN d_Sl_tick_6 (by decide) rfl rfl ?_
  first | refine j_aload_n d_Sl_tick_7 rfl ?_ | refine j_aload_nq d_Sl_tick_7 rfl ?_ | refine j_aload_nN d_Sl_tick_7 rfl ?_
  refine j_ifnull (r := some (aP B (4 * s + i) + 3)) (t := 22) d_Sl_tick_8 (by decide) (fun c => by cases c) (fun x c => ?_)
  first | refine j_aload_n d_Sl_tick_11 rfl ?_ | refine j_aload_nq d_Sl_tick_11 rfl ?_ | refine j_aload_nN d_Sl_tick_11 rfl ?_
  refine j_callV1 (As := []) G0_good G0_E d_Sl_tick_12 c_Sl_96 rfl rfl (t_Re_lose_1 hp ok hi0 kr haw h h3 hi' h918) (hC_p hp (by decide)) rfl rfl (by decide) (Nat.le_of_ble_eq_true rfl) ?_
  rintro _ _ ⟨rfl, κ', nx', rfl, kr', hle⟩
  refine j_if_eq (t := 22) d_Sl_tick_15 (by decide) (fun q => absurd q (by decide +kernel)) (fun _ => ?_)
  refine j_iconst (v := nI 1) d_Sl_tick_18 (by decide +kernel) ?_
  refine j_goto (t := 23) d_Sl_tick_19 (by decide) ?_
  exact j_zret d_Sl_tick_23 rfl (by decide +kernel) ⟨rfl, κ', nx', rfl, kr', hle⟩

set_option maxHeartbeats 4000000 in
set_option maxRecDepth 100000 in
theorem t_Sl_tick_2 {l : Launch} {D : va_G} {B nx : Nat} {σ : Sg} {κ : Kp} {g : Nat → Option va_E} {I : Sg → Prop} {mu : Nat → Sg → Nat} (ok : OkI I mu) (hi0 : I σ) (kr : KR B σ κ nx) (s i : Nat) (hs : s < 2) (hi : i < 4) (haw : awake σ (4 * s + i)) (h : σ 12 (4 * s + i) 0 = 2) (h3 : 3 ≤ ca σ (4 * s + i) 2 (σ 11 (4 * s + i) 0) 4) (h5 : σ 11 (4 * s + i) 0 < 5) (hi' : I (k2 σ (4 * s + i))) : jM (G0 l D) m_Sl_tick 7 (sS (sAct (k2 σ (4 * s + i)) (4 * s + i)) - sS σ) (7 * (sS (sAct (k2 σ (4 * s + i)) (4 * s + i)) - sS σ)) [.ref (B + 0), .int (nI s), .int (nI i)] (hC D B σ κ g, nx) (fun v h => v = some (.int (nI 1)) ∧ ∃ κ' nx', h = (hC D B (sAct (k2 σ (4 * s + i)) (4 * s + i)) κ' g, nx') ∧ KR B (sAct (k2 σ (4 * s + i)) (4 * s + i)) κ' nx' ∧ nx ≤ nx') := by
  refine jM.of (by decide +kernel) (Nat.le_of_ble_eq_true rfl) rfl ?_
  have hp : 4 * s + i < 8 := by omega
  have hb := ((ok (4 * s + i) hp).1 σ hi0).1
  have ed : (4 * s + i) / 4 = s := p_div hi
  have em : (4 * s + i) % 4 = i := p_mod hi
  first | refine j_aload_n d_Sl_tick_0 rfl ?_ | refine j_aload_nq d_Sl_tick_0 rfl ?_ | refine j_aload_nN d_Sl_tick_0 rfl ?_
  refine j_iload_n d_Sl_tick_1 rfl ?_
  refine j_iload_n d_Sl_tick_2 rfl ?_
  refine j_callV0 (As := [_, _]) G0_good G0_E d_Sl_tick_3 c_Sl_93 rfl rfl (t_Sl_replicaAt s i hs hi) (hC_t (by decide)) rfl rfl (by decide) (Nat.le_of_ble_eq_true rfl) ?_
  rintro _ _ ⟨rfl, rfl⟩
  first | refine j_astore_n d_Sl_tick_6 (by decide) rfl rfl ?_ | refine j_astore_nq d_Sl_tick_6 (by decide) rfl rfl ?_ | refine j_astore_nN d_Sl_tick_6 (by decide) rfl rfl ?_
  first | refine j_aload_n d_Sl_tick_7 rfl ?_ | refine j_aload_nq d_Sl_tick_7 rfl ?_ | refine j_aload_nN d_Sl_tick_7 rfl ?_
  refine j_ifnull (r := some (aP B (4 * s + i) + 3)) (t := 22) d_Sl_tick_8 (by decide) (fun c => by cases c) (fun x c => ?_)
  first | refine j_aload_n d_Sl_tick_11 rfl ?_ | refine j_aload_nq d_Sl_tick_11 rfl ?_ | refine j_aload_nN d_Sl_tick_11 rfl ?_
  refine j_callV1 (As := []) G0_good G0_E d_Sl_tick_12 c_Sl_96 rfl rfl (t_Re_lose_2 hp ok hi0 kr haw h h3 h5 hi') (hC_p hp (by decide)) rfl rfl (by decide) (Nat.le_of_ble_eq_true rfl) ?_
  rintro _ _ ⟨rfl, κ', nx', rfl, kr', hle⟩
  refine j_if_eq (t := 22) d_Sl_tick_15 (by decide) (fun q => absurd q (by decide +kernel)) (fun _ => ?_)
  refine j_iconst (v := nI 1) d_Sl_tick_18 (by decide +kernel) ?_
  refine j_goto (t := 23) d_Sl_tick_19 (by decide) ?_
  exact j_zret d_Sl_tick_23 rfl (by decide +kernel) ⟨rfl, κ', nx', rfl, kr', hle⟩

set_option maxHeartbeats 4000000 in
set_option maxRecDepth 100000 in
theorem t_Sl_sleep_f {l : Launch} {D : va_G} {B nx : Nat} {σ : Sg} {κ : Kp} {g : Nat → Option va_E} {I : Sg → Prop} {mu : Nat → Sg → Nat} (ok : OkI I mu) (hi0 : I σ) (kr : KR B σ κ nx) (s i : Nat) (hs : s < 2) (hi : i < 4) (b : Nat) (hb2 : b < 2) (h : ¬ canS σ (4 * s + i) b) : jM (G0 l D) m_Sl_sleep 4 0 0 [.ref (B + 0), .int (nI s), .int (nI i), .int (nI b)] (hC D B σ κ g, nx) (fun v h => v = some (.int (nI 0)) ∧ h = (hC D B σ κ g, nx)) := by
  refine jM.of (by decide +kernel) (Nat.le_of_ble_eq_true rfl) rfl ?_
  have hp : 4 * s + i < 8 := by omega
  have hb := ((ok (4 * s + i) hp).1 σ hi0).1
  have ed : (4 * s + i) / 4 = s := p_div hi
  have em : (4 * s + i) % 4 = i := p_mod hi
  first | refine j_aload_n d_Sl_sleep_0 rfl ?_ | refine j_aload_nq d_Sl_sleep_0 rfl ?_ | refine j_aload_nN d_Sl_sleep_0 rfl ?_
  refine j_iload_n d_Sl_sleep_1 rfl ?_
  refine j_iload_n d_Sl_sleep_2 rfl ?_
  refine j_callV0 (As := [_, _]) G0_good G0_E d_Sl_sleep_3 c_Sl_93 rfl rfl (t_Sl_replicaAt s i hs hi) (hC_t (by decide)) rfl rfl (by decide) (Nat.le_of_ble_eq_true rfl) ?_
  rintro _ _ ⟨rfl, rfl⟩
  first | refine j_astore d_Sl_sleep_6 (by decide) rfl rfl ?_ | refine j_astoreq d_Sl_sleep_6 (by decide) rfl rfl ?_ | refine j_astoreN d_Sl_sleep_6 (by decide) rfl rfl ?_
  first | refine j_aload d_Sl_sleep_8 rfl ?_ | refine j_aloadq d_Sl_sleep_8 rfl ?_ | refine j_aloadN d_Sl_sleep_8 rfl ?_
  refine j_ifnull (r := some (aP B (4 * s + i) + 3)) (t := 26) d_Sl_sleep_10 (by decide) (fun c => by cases c) (fun x c => ?_)
  first | refine j_aload d_Sl_sleep_13 rfl ?_ | refine j_aloadq d_Sl_sleep_13 rfl ?_ | refine j_aloadN d_Sl_sleep_13 rfl ?_
  refine j_iload_n d_Sl_sleep_15 rfl ?_
  refine j_callV0 (As := [_]) G0_good G0_E d_Sl_sleep_16 c_Sl_99 rfl rfl (t_Re_turnSleep_f hp ok hi0 kr b hb2 h) (hC_p hp (by decide)) rfl rfl (by decide) (Nat.le_of_ble_eq_true rfl) ?_
  rintro _ _ ⟨rfl, rfl⟩
  refine j_if_eq (t := 26) d_Sl_sleep_19 (by decide) (fun _ => ?_) (fun q => absurd q (by decide +kernel))
  refine j_iconst (v := nI 0) d_Sl_sleep_26 (by decide +kernel) ?_
  exact j_zret d_Sl_sleep_27 rfl (by decide +kernel) ⟨rfl, rfl⟩

set_option maxHeartbeats 4000000 in
set_option maxRecDepth 100000 in
theorem t_Sl_sleep_t {l : Launch} {D : va_G} {B nx : Nat} {σ : Sg} {κ : Kp} {g : Nat → Option va_E} {I : Sg → Prop} {mu : Nat → Sg → Nat} (ok : OkI I mu) (hi0 : I σ) (kr : KR B σ κ nx) (s i : Nat) (hs : s < 2) (hi : i < 4) (b : Nat) (hb2 : b < 2) (h : canS σ (4 * s + i) b) (hi' : I (sSl σ (4 * s + i) b)) : jM (G0 l D) m_Sl_sleep 7 (sS (sAct (sSl σ (4 * s + i) b) (4 * s + i)) - sS σ) (7 * (sS (sAct (sSl σ (4 * s + i) b) (4 * s + i)) - sS σ)) [.ref (B + 0), .int (nI s), .int (nI i), .int (nI b)] (hC D B σ κ g, nx) (fun v h => v = some (.int (nI 1)) ∧ ∃ κ' nx', h = (hC D B (sAct (sSl σ (4 * s + i) b) (4 * s + i)) κ' g, nx') ∧ KR B (sAct (sSl σ (4 * s + i) b) (4 * s + i)) κ' nx' ∧ nx ≤ nx') := by
  refine jM.of (by decide +kernel) (Nat.le_of_ble_eq_true rfl) rfl ?_
  have hp : 4 * s + i < 8 := by omega
  have hb := ((ok (4 * s + i) hp).1 σ hi0).1
  have ed : (4 * s + i) / 4 = s := p_div hi
  have em : (4 * s + i) % 4 = i := p_mod hi
  first | refine j_aload_n d_Sl_sleep_0 rfl ?_ | refine j_aload_nq d_Sl_sleep_0 rfl ?_ | refine j_aload_nN d_Sl_sleep_0 rfl ?_
  refine j_iload_n d_Sl_sleep_1 rfl ?_
  refine j_iload_n d_Sl_sleep_2 rfl ?_
  refine j_callV0 (As := [_, _]) G0_good G0_E d_Sl_sleep_3 c_Sl_93 rfl rfl (t_Sl_replicaAt s i hs hi) (hC_t (by decide)) rfl rfl (by decide) (Nat.le_of_ble_eq_true rfl) ?_
  rintro _ _ ⟨rfl, rfl⟩
  first | refine j_astore d_Sl_sleep_6 (by decide) rfl rfl ?_ | refine j_astoreq d_Sl_sleep_6 (by decide) rfl rfl ?_ | refine j_astoreN d_Sl_sleep_6 (by decide) rfl rfl ?_
  first | refine j_aload d_Sl_sleep_8 rfl ?_ | refine j_aloadq d_Sl_sleep_8 rfl ?_ | refine j_aloadN d_Sl_sleep_8 rfl ?_
  refine j_ifnull (r := some (aP B (4 * s + i) + 3)) (t := 26) d_Sl_sleep_10 (by decide) (fun c => by cases c) (fun x c => ?_)
  first | refine j_aload d_Sl_sleep_13 rfl ?_ | refine j_aloadq d_Sl_sleep_13 rfl ?_ | refine j_aloadN d_Sl_sleep_13 rfl ?_
  refine j_iload_n d_Sl_sleep_15 rfl ?_
  refine j_callV1 (As := [_]) G0_good G0_E d_Sl_sleep_16 c_Sl_99 rfl rfl (t_Re_turnSleep_t hp ok hi0 kr b hb2 h hi') (hC_p hp (by decide)) rfl rfl (by decide) (Nat.le_of_ble_eq_true rfl) ?_
  rintro _ _ ⟨rfl, κ', nx', rfl, kr', hle⟩
  refine j_if_eq (t := 26) d_Sl_sleep_19 (by decide) (fun q => absurd q (by decide +kernel)) (fun _ => ?_)
  refine j_iconst (v := nI 1) d_Sl_sleep_22 (by decide +kernel) ?_
  refine j_goto (t := 27) d_Sl_sleep_23 (by decide) ?_
  exact j_zret d_Sl_sleep_27 rfl (by decide +kernel) ⟨rfl, κ', nx', rfl, kr', hle⟩
