/-! ShardLedger: submit, client (g_sc.py) -/
/-- requests of kind k about t for those of the first n shards that P names -/
noncomputable def mk (P : Nat → Prop) (k t : Nat) : Nat → Sg → Sg
  | 0, σ => σ
  | n + 1, σ => ifP (P n) (sMake (mk P k t n σ) n k t) (mk P k t n σ)
theorem sMake_ne {σ : Sg} {s k t f : Nat} (h : f ≠ 5 ∧ f ≠ 6 ∧ f ≠ 7 ∧ f ≠ 34) : sMake σ s k t f = σ f := by
  unfold sMake
  rw [U_ne h.2.2.2, U_ne h.2.2.1, U_ne h.2.1, U_ne h.1]
theorem mk_ne {P : Nat → Prop} {k t f : Nat} {σ : Sg} (h : f ≠ 5 ∧ f ≠ 6 ∧ f ≠ 7 ∧ f ≠ 34) : ∀ n, mk P k t n σ f = σ f
  | 0 => rfl
  | n + 1 => by
    unfold mk
    by_cases q : P n
    · rw [ifP_t q, sMake_ne h]; exact mk_ne h n
    · rw [ifP_f q]; exact mk_ne h n
theorem sMake_34 {σ : Sg} {s k t : Nat} : sMake σ s k t 34 0 0 = σ 34 0 0 + 1 := by
  unfold sMake
  rw [U_at, if_pos ⟨rfl, rfl⟩]
theorem mk_34 {P : Nat → Prop} {k t : Nat} {σ : Sg} : ∀ n, σ 34 0 0 ≤ mk P k t n σ 34 0 0 ∧ mk P k t n σ 34 0 0 ≤ σ 34 0 0 + n
  | 0 => ⟨Nat.le_refl _, Nat.le_refl _⟩
  | n + 1 => by
    have ih := mk_34 (P := P) (k := k) (t := t) (σ := σ) n
    unfold mk
    by_cases q : P n
    · rw [ifP_t q, sMake_34]; omega
    · rw [ifP_f q]; omega
theorem bd_make {σ : Sg} {s k t : Nat} (hb : bd σ) (hs : s < 100000) (hk : k < 100000) (ht : t < 100000) (hr : σ 34 0 0 < 99999) : bd (sMake σ s k t) := bd_U (bd_U (bd_U (bd_U hb hs) hk) ht) (by omega)
theorem bd_mk {P : Nat → Prop} {k t : Nat} {σ : Sg} (hb : bd σ) (hk : k < 100000) (ht : t < 100000) (hr : σ 34 0 0 < 1000) : ∀ n, n < 100 → bd (mk P k t n σ)
  | 0, _ => hb
  | n + 1, hn => by
    have ih := bd_mk (P := P) hb hk ht hr n (by omega)
    have h34 := mk_34 (P := P) (k := k) (t := t) (σ := σ) n
    unfold mk
    by_cases q : P n
    · rw [ifP_t q]; exact bd_make ih (by omega) hk ht (by omega)
    · rw [ifP_f q]; exact ih
theorem inS_cgr {σ σ' : Sg} {t s : Nat} (h1 : σ' 1 = σ 1) (h2 : σ' 2 = σ 2) : inS σ' t s ↔ inS σ t s := by
  unfold inS
  rw [h1, h2]
theorem t_Tb_add {l : Launch} {D : va_G} {B nx : Nat} {σ : Sg} {κ : Kp} {g : Nat → Option va_E} (hb : bd σ) (h8 : σ 33 0 0 < 8) (f s b : Nat) (hf : f < 4 + 2 * σ 33 0 0) (hs : s ≤ 4 + 2 * σ 33 0 0) (hbs : b ≤ σ 4 0 f + am σ s) : jM (G0 l D) m_Tb_add 3 0 0 [.ref (B + 1), .int (nI f), .int (mI s), .int (nI b)] (hC D B σ κ g, nx) (fun v h => v = some (.int (nI (σ 33 0 0))) ∧ h = (hC D B (sAdd σ f s b) κ g, nx)) := by
  cases s with
  | zero => exact t_Tb_addN hb h8 f 0 b hf (by omega) hbs
  | succ s => exact t_Tb_addM hb h8 f s b hf (by omega) hbs

set_option maxHeartbeats 4000000 in
set_option maxRecDepth 100000 in
theorem t_Sl_submit_bad {l : Launch} {D : va_G} {B nx : Nat} {σ : Sg} {κ : Kp} {g : Nat → Option va_E} (hb : bd σ) (h8 : σ 33 0 0 ≤ 8) (x y a : Int32) (h : ¬ Pp σ x y a) : jM (G0 l D) m_Sl_submit 4 0 0 [.ref (B + 0), .int x, .int y, .int a] (hC D B σ κ g, nx) (fun v h => v = some (.int (mI 0)) ∧ h = (hC D B σ κ g, nx)) := by
  refine jM.of (by decide +kernel) (Nat.le_of_ble_eq_true rfl) rfl ?_
  first | refine j_aload_n d_Sl_submit_0 rfl ?_ | refine j_aload_nq d_Sl_submit_0 rfl ?_ | refine j_aload_nN d_Sl_submit_0 rfl ?_
  refine j_get d_Sl_submit_1 f_Sl_24 (hC_t (by decide)) rfl ?_
  refine j_iload_n d_Sl_submit_4 rfl ?_
  refine j_iload_n d_Sl_submit_5 rfl ?_
  refine j_iload_n d_Sl_submit_6 rfl ?_
  refine j_callV0 (As := [_, _, _]) G0_good G0_E d_Sl_submit_7 c_Sl_32 rfl rfl (t_Tb_isProper hb h8 x y a) (hC_t (by decide)) rfl rfl (by decide) (Nat.le_of_ble_eq_true rfl) ?_
  rintro _ _ ⟨rfl, rfl⟩
  first | refine c_if_ne (t := 15) d_Sl_submit_10 (by decide) (fun c10 => ?_) (fun c10 => ?_) | refine n_if_ne (t := 15) d_Sl_submit_10 (by decide) (by omega) (fun c10 => ?_) (fun c10 => ?_) | refine j_if_ne (t := 15) d_Sl_submit_10 (by decide) (fun c10 => ?_) (fun c10 => ?_)
  · exact absurd c10 h
  · refine j_iconst (v := mI 0) d_Sl_submit_13 (by decide +kernel) ?_
    exact j_iret d_Sl_submit_14 rfl ⟨rfl, rfl⟩

set_option maxHeartbeats 4000000 in
set_option maxRecDepth 100000 in
theorem t_Sl_submit_full {l : Launch} {D : va_G} {B nx : Nat} {σ : Sg} {κ : Kp} {g : Nat → Option va_E} (hb : bd σ) (h8 : σ 33 0 0 ≤ 8) (x y a : Int32) (h : Pp σ x y a) (hf : σ 33 0 0 = 8) : jM (G0 l D) m_Sl_submit 4 0 0 [.ref (B + 0), .int x, .int y, .int a] (hC D B σ κ g, nx) (fun v h => v = some (.int (-2)) ∧ h = (hC D B σ κ g, nx)) := by
  refine jM.of (by decide +kernel) (Nat.le_of_ble_eq_true rfl) rfl ?_
  first | refine j_aload_n d_Sl_submit_0 rfl ?_ | refine j_aload_nq d_Sl_submit_0 rfl ?_ | refine j_aload_nN d_Sl_submit_0 rfl ?_
  refine j_get d_Sl_submit_1 f_Sl_24 (hC_t (by decide)) rfl ?_
  refine j_iload_n d_Sl_submit_4 rfl ?_
  refine j_iload_n d_Sl_submit_5 rfl ?_
  refine j_iload_n d_Sl_submit_6 rfl ?_
  refine j_callV0 (As := [_, _, _]) G0_good G0_E d_Sl_submit_7 c_Sl_32 rfl rfl (t_Tb_isProper hb h8 x y a) (hC_t (by decide)) rfl rfl (by decide) (Nat.le_of_ble_eq_true rfl) ?_
  rintro _ _ ⟨rfl, rfl⟩
  first | refine c_if_ne (t := 15) d_Sl_submit_10 (by decide) (fun c10 => ?_) (fun c10 => ?_) | refine n_if_ne (t := 15) d_Sl_submit_10 (by decide) (by omega) (fun c10 => ?_) (fun c10 => ?_) | refine j_if_ne (t := 15) d_Sl_submit_10 (by decide) (fun c10 => ?_) (fun c10 => ?_)
  · first | refine j_aload_n d_Sl_submit_15 rfl ?_ | refine j_aload_nq d_Sl_submit_15 rfl ?_ | refine j_aload_nN d_Sl_submit_15 rfl ?_
    refine j_get d_Sl_submit_16 f_Sl_24 (hC_t (by decide)) rfl ?_
    refine j_callV0 (As := []) G0_good G0_E d_Sl_submit_19 c_Sl_36 rfl rfl (t_Tb_isFull hb) (hC_t (by decide)) rfl rfl (by decide) (Nat.le_of_ble_eq_true rfl) ?_
    rintro _ _ ⟨rfl, rfl⟩
    first | refine c_if_eq (t := 28) d_Sl_submit_22 (by decide) (fun c22 => ?_) (fun c22 => ?_) | refine n_if_eq (t := 28) d_Sl_submit_22 (by decide) (by omega) (fun c22 => ?_) (fun c22 => ?_) | refine j_if_eq (t := 28) d_Sl_submit_22 (by decide) (fun c22 => ?_) (fun c22 => ?_)
    · exfalso; first | exact c22 | omega
    · refine j_bipush (v := (-2)) d_Sl_submit_25 (by decide +kernel) ?_
      exact j_iret d_Sl_submit_27 rfl ⟨rfl, rfl⟩
  · exact absurd h c10

set_option maxHeartbeats 4000000 in
set_option maxRecDepth 100000 in
theorem lp_Sl_submit {l : Launch} {D : va_G} {B nx : Nat} {σ : Sg} {κ : Kp} {g : Nat → Option va_E} {I : Sg → Prop} {mu : Nat → Sg → Nat} (ok : OkI I mu) (kr : KR B σ κ nx) (f s b : Nat) (h8 : σ 33 0 0 < 8) (h30 : σ 34 0 0 ≤ 30) (hb1 : bd (sAdd σ f s b)) (hi' : I (mk (inS (sAdd σ f s b) (σ 33 0 0)) 0 (σ 33 0 0) 2 (sAdd σ f s b))) (x1 x2 x3 : Option Value) : ∀ (m : Nat) (j : Nat), j ≤ 2 → 2 - j < m → J (G0 l D) jT m_Sl_submit 7 (fun v h => v = some (.int (nI (σ 33 0 0))) ∧ ∃ κ' nx', h = (hC D B (allF 8 (mk (inS (sAdd σ f s b) (σ 33 0 0)) 0 (σ 33 0 0) 2 (sAdd σ f s b))) κ' g, nx') ∧ KR B (allF 8 (mk (inS (sAdd σ f s b) (σ 33 0 0)) 0 (σ 33 0 0) 2 (sAdd σ f s b))) κ' nx') (sS (allF 8 (mk (inS (sAdd σ f s b) (σ 33 0 0)) 0 (σ 33 0 0) 2 (sAdd σ f s b))) - sS σ) (7 * (sS (allF 8 (mk (inS (sAdd σ f s b) (σ 33 0 0)) 0 (σ 33 0 0) 2 (sAdd σ f s b))) - sS σ)) 43 [some (.ref (B + 0)), x1, x2, x3, some (.int (nI (σ 33 0 0))), some (.int (nI j))] [] (hC D B (mk (inS (sAdd σ f s b) (σ 33 0 0)) 0 (σ 33 0 0) j (sAdd σ f s b)) κ g, nx) := by
  intro m
  induction m with
  | zero =>
    intros
    exfalso
    omega
  | succ m ih =>
    intro j h1 h2
    have e33 : sAdd σ f s b 33 0 0 = σ 33 0 0 + 1 := by unfold sAdd; rw [U_at, if_pos ⟨rfl, rfl⟩]
    have e34 : sAdd σ f s b 34 = σ 34 := by unfold sAdd; rw [U_ne (by decide), U_ne (by decide), U_ne (by decide), U_ne (by decide), U_ne (by decide), U_ne (by decide)]
    have e20 : ∀ f', 19 < f' → f' < 31 → sAdd σ f s b f' = σ f' := fun f' z1 z2 => by unfold sAdd; rw [U_ne (by omega), U_ne (by omega), U_ne (by omega), U_ne (by omega), U_ne (by omega), U_ne (by omega)]
    have hbj := bd_mk (P := inS (sAdd σ f s b) (σ 33 0 0)) (k := 0) (t := σ 33 0 0) hb1 (by decide) (by omega) (by rw [e34]; omega) j (by omega)
    have m33 : mk (inS (sAdd σ f s b) (σ 33 0 0)) 0 (σ 33 0 0) j (sAdd σ f s b) 33 0 0 = σ 33 0 0 + 1 := by rw [mk_ne (by decide)]; exact e33
    have m34 := mk_34 (P := inS (sAdd σ f s b) (σ 33 0 0)) (k := 0) (t := σ 33 0 0) (σ := sAdd σ f s b) j
    rw [e34] at m34
    refine j_iload d_Sl_submit_43 rfl ?_
    refine j_iconst (v := nI 2) d_Sl_submit_45 (by decide +kernel) ?_
    first | refine nn_icmp_ge (t := 81) d_Sl_submit_46 (by decide) (by omega) (by omega) (fun c46 => ?_) (fun c46 => ?_) | refine mm_icmp_ge (t := 81) d_Sl_submit_46 (by decide) (by omega) (by omega) (fun c46 => ?_) (fun c46 => ?_) | refine mn_icmp_ge (t := 81) d_Sl_submit_46 (by decide) (by omega) (by omega) (fun c46 => ?_) (fun c46 => ?_) | refine nm_icmp_ge (t := 81) d_Sl_submit_46 (by decide) (by omega) (by omega) (fun c46 => ?_) (fun c46 => ?_) | refine j_icmp_ge (t := 81) d_Sl_submit_46 (by decide) (fun c46 => ?_) (fun c46 => ?_)
    · have ej : j = 2 := by omega
      subst ej
      rw [show sS σ = sS (mk (inS (sAdd σ f s b) (σ 33 0 0)) 0 (σ 33 0 0) 2 (sAdd σ f s b)) from (sS_of (by rw [mk_ne (by decide), e20 20 (by decide) (by decide)])).symm]
      first | refine j_aload_n d_Sl_submit_81 rfl ?_ | refine j_aload_nq d_Sl_submit_81 rfl ?_ | refine j_aload_nN d_Sl_submit_81 rfl ?_
      refine j_callV1 (As := []) G0_good G0_E d_Sl_submit_82 c_Sl_52 rfl rfl (t_Sl_letAllAct (σ := (mk (inS (sAdd σ f s b) (σ 33 0 0)) 0 (σ 33 0 0) 2 (sAdd σ f s b))) ok hi' (KR_cgr kr (fun f hf => by rw [mk_ne (by omega), e20 f (by omega) (by omega)]))) (hC_t (by decide)) rfl rfl (by decide) (Nat.le_of_ble_eq_true rfl) ?_
      rintro _ _ ⟨rfl, κ', nx', rfl, kr'⟩
      refine j_iload d_Sl_submit_85 rfl ?_
      exact j_iret d_Sl_submit_87 rfl ⟨rfl, κ', nx', rfl, kr'⟩
    · first | refine j_aload_n d_Sl_submit_49 rfl ?_ | refine j_aload_nq d_Sl_submit_49 rfl ?_ | refine j_aload_nN d_Sl_submit_49 rfl ?_
      refine j_get d_Sl_submit_50 f_Sl_24 (hC_t (by decide)) rfl ?_
      refine j_iload d_Sl_submit_53 rfl ?_
      refine j_iload d_Sl_submit_55 rfl ?_
      refine j_callV0 (As := [_, _]) G0_good G0_E d_Sl_submit_57 c_Sl_44 rfl rfl (t_Tb_hasInputIn hbj (by omega) (σ 33 0 0) j (by omega) (by omega)) (hC_t (by decide)) rfl rfl (by decide) (Nat.le_of_ble_eq_true rfl) ?_
      rintro _ _ ⟨rfl, rfl⟩
      first | refine c_if_eq (t := 75) d_Sl_submit_60 (by decide) (fun c60 => ?_) (fun c60 => ?_) | refine n_if_eq (t := 75) d_Sl_submit_60 (by decide) (by omega) (fun c60 => ?_) (fun c60 => ?_) | refine j_if_eq (t := 75) d_Sl_submit_60 (by decide) (fun c60 => ?_) (fun c60 => ?_)
      · refine n_iinc (k := 1) d_Sl_submit_75 (by decide +kernel) rfl (by decide) rfl rfl ?_
        refine j_goto (t := 43) d_Sl_submit_78 (by decide) ?_
        rw [show mk (inS (sAdd σ f s b) (σ 33 0 0)) 0 (σ 33 0 0) j (sAdd σ f s b) = mk (inS (sAdd σ f s b) (σ 33 0 0)) 0 (σ 33 0 0) (j + 1) (sAdd σ f s b) by rw [mk, ifP_f (fun z => c60 ((inS_cgr (mk_ne (by decide) j) (mk_ne (by decide) j)).mpr z))]]
        exact ih (j + 1) (by omega) (by omega)
      · first | refine j_aload_n d_Sl_submit_63 rfl ?_ | refine j_aload_nq d_Sl_submit_63 rfl ?_ | refine j_aload_nN d_Sl_submit_63 rfl ?_
        refine j_get d_Sl_submit_64 f_Sl_28 (hC_t (by decide)) rfl ?_
        refine j_iload d_Sl_submit_67 rfl ?_
        refine j_iconst (v := nI 0) d_Sl_submit_69 (by decide +kernel) ?_
        refine j_iload d_Sl_submit_70 rfl ?_
        refine j_callV0 (As := [_, _, _]) G0_good G0_E d_Sl_submit_72 c_Sl_48 rfl rfl (t_Rb_make hbj (by omega) j 0 (σ 33 0 0)) (hC_t (by decide)) rfl rfl (by decide) (Nat.le_of_ble_eq_true rfl) ?_
        rintro _ _ ⟨rfl, rfl⟩
        refine n_iinc (k := 1) d_Sl_submit_75 (by decide +kernel) rfl (by decide) rfl rfl ?_
        refine j_goto (t := 43) d_Sl_submit_78 (by decide) ?_
        rw [show sMake (mk (inS (sAdd σ f s b) (σ 33 0 0)) 0 (σ 33 0 0) j (sAdd σ f s b)) j 0 (σ 33 0 0) = mk (inS (sAdd σ f s b) (σ 33 0 0)) 0 (σ 33 0 0) (j + 1) (sAdd σ f s b) by rw [mk, ifP_t ((inS_cgr (mk_ne (by decide) j) (mk_ne (by decide) j)).mp c60)]]
        exact ih (j + 1) (by omega) (by omega)

set_option maxHeartbeats 4000000 in
set_option maxRecDepth 100000 in
theorem t_Sl_submit_t {l : Launch} {D : va_G} {B nx : Nat} {σ : Sg} {κ : Kp} {g : Nat → Option va_E} {I : Sg → Prop} {mu : Nat → Sg → Nat} (ok : OkI I mu) (kr : KR B σ κ nx) (f s b : Nat) (h8 : σ 33 0 0 < 8) (h30 : σ 34 0 0 ≤ 30) (hb1 : bd (sAdd σ f s b)) (hi' : I (mk (inS (sAdd σ f s b) (σ 33 0 0)) 0 (σ 33 0 0) 2 (sAdd σ f s b))) (hb : bd σ) (hf : f < 4 + 2 * σ 33 0 0) (hs : s ≤ 4 + 2 * σ 33 0 0) (hne : f + 1 ≠ s) (hbs : b ≤ σ 4 0 f + am σ s) : jM (G0 l D) m_Sl_submit 7 (sS (allF 8 (mk (inS (sAdd σ f s b) (σ 33 0 0)) 0 (σ 33 0 0) 2 (sAdd σ f s b))) - sS σ) (7 * (sS (allF 8 (mk (inS (sAdd σ f s b) (σ 33 0 0)) 0 (σ 33 0 0) 2 (sAdd σ f s b))) - sS σ)) [.ref (B + 0), .int (nI f), .int (mI s), .int (nI b)] (hC D B σ κ g, nx) (fun v h => v = some (.int (nI (σ 33 0 0))) ∧ ∃ κ' nx', h = (hC D B (allF 8 (mk (inS (sAdd σ f s b) (σ 33 0 0)) 0 (σ 33 0 0) 2 (sAdd σ f s b))) κ' g, nx') ∧ KR B (allF 8 (mk (inS (sAdd σ f s b) (σ 33 0 0)) 0 (σ 33 0 0) 2 (sAdd σ f s b))) κ' nx') := by
  refine jM.of (by decide +kernel) (Nat.le_of_ble_eq_true rfl) rfl ?_
  first | refine j_aload_n d_Sl_submit_0 rfl ?_ | refine j_aload_nq d_Sl_submit_0 rfl ?_ | refine j_aload_nN d_Sl_submit_0 rfl ?_
  refine j_get d_Sl_submit_1 f_Sl_24 (hC_t (by decide)) rfl ?_
  refine j_iload_n d_Sl_submit_4 rfl ?_
  refine j_iload_n d_Sl_submit_5 rfl ?_
  refine j_iload_n d_Sl_submit_6 rfl ?_
  refine j_callV0 (As := [_, _, _]) G0_good G0_E d_Sl_submit_7 c_Sl_32 rfl rfl (t_Tb_isProper hb (by omega) (nI f) (mI s) (nI b)) (hC_t (by decide)) rfl rfl (by decide) (Nat.le_of_ble_eq_true rfl) ?_
  rintro _ _ ⟨rfl, rfl⟩
  first | refine c_if_ne (t := 15) d_Sl_submit_10 (by decide) (fun c10 => ?_) (fun c10 => ?_) | refine n_if_ne (t := 15) d_Sl_submit_10 (by decide) (by omega) (fun c10 => ?_) (fun c10 => ?_) | refine j_if_ne (t := 15) d_Sl_submit_10 (by decide) (fun c10 => ?_) (fun c10 => ?_)
  · first | refine j_aload_n d_Sl_submit_15 rfl ?_ | refine j_aload_nq d_Sl_submit_15 rfl ?_ | refine j_aload_nN d_Sl_submit_15 rfl ?_
    refine j_get d_Sl_submit_16 f_Sl_24 (hC_t (by decide)) rfl ?_
    refine j_callV0 (As := []) G0_good G0_E d_Sl_submit_19 c_Sl_36 rfl rfl (t_Tb_isFull hb) (hC_t (by decide)) rfl rfl (by decide) (Nat.le_of_ble_eq_true rfl) ?_
    rintro _ _ ⟨rfl, rfl⟩
    first | refine c_if_eq (t := 28) d_Sl_submit_22 (by decide) (fun c22 => ?_) (fun c22 => ?_) | refine n_if_eq (t := 28) d_Sl_submit_22 (by decide) (by omega) (fun c22 => ?_) (fun c22 => ?_) | refine j_if_eq (t := 28) d_Sl_submit_22 (by decide) (fun c22 => ?_) (fun c22 => ?_)
    · first | refine j_aload_n d_Sl_submit_28 rfl ?_ | refine j_aload_nq d_Sl_submit_28 rfl ?_ | refine j_aload_nN d_Sl_submit_28 rfl ?_
      refine j_get d_Sl_submit_29 f_Sl_24 (hC_t (by decide)) rfl ?_
      refine j_iload_n d_Sl_submit_32 rfl ?_
      refine j_iload_n d_Sl_submit_33 rfl ?_
      refine j_iload_n d_Sl_submit_34 rfl ?_
      refine j_callV0 (As := [_, _, _]) G0_good G0_E d_Sl_submit_35 c_Sl_40 rfl rfl (t_Tb_add hb h8 f s b hf hs hbs) (hC_t (by decide)) rfl rfl (by decide) (Nat.le_of_ble_eq_true rfl) ?_
      rintro _ _ ⟨rfl, rfl⟩
      refine j_istore d_Sl_submit_38 (by decide) rfl rfl ?_
      refine j_iconst (v := nI 0) d_Sl_submit_40 (by decide +kernel) ?_
      refine j_istore d_Sl_submit_41 (by decide) rfl rfl ?_
      exact lp_Sl_submit ok kr f s b h8 h30 hb1 hi' _ _ _ 3 0 (by omega) (by omega)
    · exfalso; first | exact c22 | omega
  · exact absurd ⟨f, s, b, rfl, rfl, rfl, hf, hs, hne, hbs⟩ c10

/-- the client decides -/
def cmS (σ : Sg) (t s : Nat) : Prop := inS σ t s ∨ 0 < σ 4 0 (4 + 2 * t + s)
noncomputable def sDec (σ : Sg) (t oc : Nat) : Sg := ifP (oc = 0) σ (ifP (oc = 1) (U (mk (cmS σ t) 1 t 2 σ) 3 0 t 1) (U (mk (inS σ t) 2 t 2 σ) 3 0 t 2))
noncomputable def sLook (σ : Sg) (t : Nat) : Sg := ifP (σ 3 0 t = 0) (sDec σ t (outc σ 0 t)) (ifP (σ 3 0 t = 1 ∧ ¬ outc σ 1 t = 0) (U σ 3 0 t 3) (ifP (σ 3 0 t = 2 ∧ ¬ outc σ 2 t = 0) (U σ 3 0 t 4) σ))
noncomputable def clF : Nat → Sg → Sg
  | 0, σ => σ
  | t + 1, σ => sLook (clF t σ) t
/-- what is asked of a state for the client to look at t -/
def LK (σ : Sg) (t : Nat) : Prop := bd σ ∧ σ 34 0 0 ≤ 32 ∧ σ 33 0 0 ≤ 8 ∧ t < σ 33 0 0 ∧ (σ 3 0 t = 0 → σ 34 0 0 ≤ 30)
theorem sDec_ne {σ : Sg} {t oc f : Nat} (h : f ≠ 3 ∧ f ≠ 5 ∧ f ≠ 6 ∧ f ≠ 7 ∧ f ≠ 34) : sDec σ t oc f = σ f := by
  unfold sDec
  by_cases h0 : oc = 0
  · rw [ifP_t h0]
  rw [ifP_f h0]
  by_cases h1 : oc = 1
  · rw [ifP_t h1, U_ne h.1, mk_ne h.2]
  · rw [ifP_f h1, U_ne h.1, mk_ne h.2]
theorem sLook_ne {σ : Sg} {t f : Nat} (h : f ≠ 3 ∧ f ≠ 5 ∧ f ≠ 6 ∧ f ≠ 7 ∧ f ≠ 34) : sLook σ t f = σ f := by
  unfold sLook
  by_cases h0 : σ 3 0 t = 0
  · rw [ifP_t h0, sDec_ne h]
  rw [ifP_f h0]
  by_cases h1 : σ 3 0 t = 1 ∧ ¬ outc σ 1 t = 0
  · rw [ifP_t h1, U_ne h.1]
  rw [ifP_f h1]
  by_cases h2 : σ 3 0 t = 2 ∧ ¬ outc σ 2 t = 0
  · rw [ifP_t h2, U_ne h.1]
  · rw [ifP_f h2]
theorem clF_ne {σ : Sg} {f : Nat} (h : f ≠ 3 ∧ f ≠ 5 ∧ f ≠ 6 ∧ f ≠ 7 ∧ f ≠ 34) : ∀ t, clF t σ f = σ f
  | 0 => rfl
  | t + 1 => by
    show sLook (clF t σ) t f = σ f
    rw [sLook_ne h]; exact clF_ne h t
theorem sDec_34 {σ : Sg} {t oc : Nat} : σ 34 0 0 ≤ sDec σ t oc 34 0 0 := by
  unfold sDec
  by_cases h0 : oc = 0
  · rw [ifP_t h0]; exact Nat.le_refl _
  rw [ifP_f h0]
  by_cases h1 : oc = 1
  · rw [ifP_t h1, U_ne (by decide)]; exact (mk_34 2).1
  · rw [ifP_f h1, U_ne (by decide)]; exact (mk_34 2).1
theorem sLook_34 {σ : Sg} {t : Nat} : σ 34 0 0 ≤ sLook σ t 34 0 0 := by
  unfold sLook
  by_cases h0 : σ 3 0 t = 0
  · rw [ifP_t h0]; exact sDec_34
  rw [ifP_f h0]
  by_cases h1 : σ 3 0 t = 1 ∧ ¬ outc σ 1 t = 0
  · rw [ifP_t h1, U_ne (by decide)]; exact Nat.le_refl _
  rw [ifP_f h1]
  by_cases h2 : σ 3 0 t = 2 ∧ ¬ outc σ 2 t = 0
  · rw [ifP_t h2, U_ne (by decide)]; exact Nat.le_refl _
  · rw [ifP_f h2]; exact Nat.le_refl _
theorem clF_34 {σ : Sg} : ∀ t, σ 34 0 0 ≤ clF t σ 34 0 0
  | 0 => Nat.le_refl _
  | t + 1 => Nat.le_trans (clF_34 t) sLook_34

set_option maxHeartbeats 4000000 in
set_option maxRecDepth 100000 in
theorem lp_Sl_decide1 {l : Launch} {D : va_G} {B nx : Nat} {σ : Sg} {κ : Kp} {g : Nat → Option va_E} (hb : bd σ) (h30 : σ 34 0 0 ≤ 30) (h8 : σ 33 0 0 ≤ 8) (t : Nat) (ht : t < σ 33 0 0) (x2 : Option Value) : ∀ (m j : Nat), j ≤ 2 → 2 - j < m → J (G0 l D) jT m_Sl_decide 2 (fun v h => v = none ∧ h = (hC D B (U (mk (cmS σ t) 1 t 2 σ) 3 0 t 1) κ g, nx)) 0 0 19 [some (.ref (B + 0)), some (.int (nI t)), x2, some (.int (nI 1)), some (.int (nI j))] [] (hC D B (mk (cmS σ t) 1 t j σ) κ g, nx) := by
  intro m
  induction m with
  | zero =>
    intros
    exfalso
    omega
  | succ m ih =>
    intro j h1 h2
    have hbj := bd_mk (P := cmS σ t) (k := 1) (t := t) hb (by decide) (by omega) (by omega) j (by omega)
    have m33 : mk (cmS σ t) 1 t j σ 33 0 0 = σ 33 0 0 := by rw [mk_ne (by decide)]
    have m34 := mk_34 (P := cmS σ t) (k := 1) (t := t) (σ := σ) j
    have mS := inS_cgr (t := t) (s := j) (mk_ne (P := cmS σ t) (k := 1) (t := t) (σ := σ) (f := 1) (by decide) j) (mk_ne (P := cmS σ t) (k := 1) (t := t) (σ := σ) (f := 2) (by decide) j)
    have m4 := mk_ne (P := cmS σ t) (k := 1) (t := t) (σ := σ) (f := 4) (by decide) j
    refine j_iload d_Sl_decide_19 rfl ?_
    refine j_iconst (v := nI 2) d_Sl_decide_21 (by decide +kernel) ?_
    first | refine nn_icmp_ge (t := 80) d_Sl_decide_22 (by decide) (by omega) (by omega) (fun c22 => ?_) (fun c22 => ?_) | refine mm_icmp_ge (t := 80) d_Sl_decide_22 (by decide) (by omega) (by omega) (fun c22 => ?_) (fun c22 => ?_) | refine mn_icmp_ge (t := 80) d_Sl_decide_22 (by decide) (by omega) (by omega) (fun c22 => ?_) (fun c22 => ?_) | refine nm_icmp_ge (t := 80) d_Sl_decide_22 (by decide) (by omega) (by omega) (fun c22 => ?_) (fun c22 => ?_) | refine j_icmp_ge (t := 80) d_Sl_decide_22 (by decide) (fun c22 => ?_) (fun c22 => ?_)
    · have ej : j = 2 := by omega
      subst ej
      first | refine j_aload_n d_Sl_decide_80 rfl ?_ | refine j_aload_nq d_Sl_decide_80 rfl ?_ | refine j_aload_nN d_Sl_decide_80 rfl ?_
      refine j_get d_Sl_decide_81 f_Sl_24 (hC_t (by decide)) rfl ?_
      refine j_iload_n d_Sl_decide_84 rfl ?_
      refine j_iload_n d_Sl_decide_85 rfl ?_
      refine j_if_eq (t := 93) d_Sl_decide_86 (by decide) (fun q => absurd q (by decide +kernel)) (fun _ => ?_)
      refine j_iconst (v := nI 1) d_Sl_decide_89 (by decide +kernel) ?_
      refine j_goto (t := 94) d_Sl_decide_90 (by decide) ?_
      refine j_callV0 (As := [_, _]) G0_good G0_E d_Sl_decide_94 c_Sl_152 rfl rfl (t_Tb_setState hbj (by omega) t 1 (by omega)) (hC_t (by decide)) rfl rfl (by decide) (Nat.le_of_ble_eq_true rfl) ?_
      rintro _ _ ⟨rfl, rfl⟩
      exact j_vret d_Sl_decide_97 rfl ⟨rfl, rfl⟩
    · first | refine j_aload_n d_Sl_decide_25 rfl ?_ | refine j_aload_nq d_Sl_decide_25 rfl ?_ | refine j_aload_nN d_Sl_decide_25 rfl ?_
      refine j_get d_Sl_decide_26 f_Sl_24 (hC_t (by decide)) rfl ?_
      refine j_iload_n d_Sl_decide_29 rfl ?_
      refine j_iload d_Sl_decide_30 rfl ?_
      refine j_callV0 (As := [_, _]) G0_good G0_E d_Sl_decide_32 c_Sl_44 rfl rfl (t_Tb_hasInputIn hbj (by omega) t j (by omega) (by omega)) (hC_t (by decide)) rfl rfl (by decide) (Nat.le_of_ble_eq_true rfl) ?_
      rintro _ _ ⟨rfl, rfl⟩
      first | refine c_if_ne (t := 55) d_Sl_decide_35 (by decide) (fun c35 => ?_) (fun c35 => ?_) | refine n_if_ne (t := 55) d_Sl_decide_35 (by decide) (by omega) (fun c35 => ?_) (fun c35 => ?_) | refine j_if_ne (t := 55) d_Sl_decide_35 (by decide) (fun c35 => ?_) (fun c35 => ?_)
      · first | refine j_aload_n d_Sl_decide_55 rfl ?_ | refine j_aload_nq d_Sl_decide_55 rfl ?_ | refine j_aload_nN d_Sl_decide_55 rfl ?_
        refine j_get d_Sl_decide_56 f_Sl_28 (hC_t (by decide)) rfl ?_
        refine j_iload d_Sl_decide_59 rfl ?_
        refine j_iload_n d_Sl_decide_61 rfl ?_
        refine j_if_eq (t := 69) d_Sl_decide_62 (by decide) (fun q => absurd q (by decide +kernel)) (fun _ => ?_)
        refine j_iconst (v := nI 1) d_Sl_decide_65 (by decide +kernel) ?_
        refine j_goto (t := 70) d_Sl_decide_66 (by decide) ?_
        refine j_iload_n d_Sl_decide_70 rfl ?_
        refine j_callV0 (As := [_, _, _]) G0_good G0_E d_Sl_decide_71 c_Sl_48 rfl rfl (t_Rb_make hbj (by omega) j 1 t) (hC_t (by decide)) rfl rfl (by decide) (Nat.le_of_ble_eq_true rfl) ?_
        rintro _ _ ⟨rfl, rfl⟩
        refine n_iinc (k := 1) d_Sl_decide_74 (by decide +kernel) rfl (by decide) rfl rfl ?_
        refine j_goto (t := 19) d_Sl_decide_77 (by decide) ?_
        rw [show sMake (mk (cmS σ t) 1 t j σ) j 1 t = mk (cmS σ t) 1 t (j + 1) σ by rw [mk, ifP_t (show cmS σ t j from Or.inl (mS.mp c35))]]
        exact ih (j + 1) (by omega) (by omega)
      · refine j_iload_n d_Sl_decide_38 rfl ?_
        refine j_if_eq (t := 74) d_Sl_decide_39 (by decide) (fun q => absurd q (by decide +kernel)) (fun _ => ?_)
        first | refine j_aload_n d_Sl_decide_42 rfl ?_ | refine j_aload_nq d_Sl_decide_42 rfl ?_ | refine j_aload_nN d_Sl_decide_42 rfl ?_
        refine j_get d_Sl_decide_43 f_Sl_24 (hC_t (by decide)) rfl ?_
        refine j_iload_n d_Sl_decide_46 rfl ?_
        refine j_iload d_Sl_decide_47 rfl ?_
        refine j_callV0 (As := [_, _]) G0_good G0_E d_Sl_decide_49 c_Sl_155 rfl rfl (t_Tb_hasOutputIn hbj t j (by omega) (by omega)) (hC_t (by decide)) rfl rfl (by decide) (Nat.le_of_ble_eq_true rfl) ?_
        rintro _ _ ⟨rfl, rfl⟩
        first | refine c_if_eq (t := 74) d_Sl_decide_52 (by decide) (fun c52 => ?_) (fun c52 => ?_) | refine n_if_eq (t := 74) d_Sl_decide_52 (by decide) (by omega) (fun c52 => ?_) (fun c52 => ?_) | refine j_if_eq (t := 74) d_Sl_decide_52 (by decide) (fun c52 => ?_) (fun c52 => ?_)
        · refine n_iinc (k := 1) d_Sl_decide_74 (by decide +kernel) rfl (by decide) rfl rfl ?_
          refine j_goto (t := 19) d_Sl_decide_77 (by decide) ?_
          rw [show (mk (cmS σ t) 1 t j σ) = mk (cmS σ t) 1 t (j + 1) σ by rw [mk, ifP_f (fun z => z.elim (fun z => c35 (mS.mpr z)) (fun z => c52 (by rw [m4]; exact z)))]]
          exact ih (j + 1) (by omega) (by omega)
        · first | refine j_aload_n d_Sl_decide_55 rfl ?_ | refine j_aload_nq d_Sl_decide_55 rfl ?_ | refine j_aload_nN d_Sl_decide_55 rfl ?_
          refine j_get d_Sl_decide_56 f_Sl_28 (hC_t (by decide)) rfl ?_
          refine j_iload d_Sl_decide_59 rfl ?_
          refine j_iload_n d_Sl_decide_61 rfl ?_
          refine j_if_eq (t := 69) d_Sl_decide_62 (by decide) (fun q => absurd q (by decide +kernel)) (fun _ => ?_)
          refine j_iconst (v := nI 1) d_Sl_decide_65 (by decide +kernel) ?_
          refine j_goto (t := 70) d_Sl_decide_66 (by decide) ?_
          refine j_iload_n d_Sl_decide_70 rfl ?_
          refine j_callV0 (As := [_, _, _]) G0_good G0_E d_Sl_decide_71 c_Sl_48 rfl rfl (t_Rb_make hbj (by omega) j 1 t) (hC_t (by decide)) rfl rfl (by decide) (Nat.le_of_ble_eq_true rfl) ?_
          rintro _ _ ⟨rfl, rfl⟩
          refine n_iinc (k := 1) d_Sl_decide_74 (by decide +kernel) rfl (by decide) rfl rfl ?_
          refine j_goto (t := 19) d_Sl_decide_77 (by decide) ?_
          rw [show sMake (mk (cmS σ t) 1 t j σ) j 1 t = mk (cmS σ t) 1 t (j + 1) σ by rw [mk, ifP_t (show cmS σ t j from Or.inr (by rw [m4] at c52; exact c52))]]
          exact ih (j + 1) (by omega) (by omega)

set_option maxHeartbeats 4000000 in
set_option maxRecDepth 100000 in
theorem lp_Sl_decide2 {l : Launch} {D : va_G} {B nx : Nat} {σ : Sg} {κ : Kp} {g : Nat → Option va_E} (hb : bd σ) (h30 : σ 34 0 0 ≤ 30) (h8 : σ 33 0 0 ≤ 8) (t : Nat) (ht : t < σ 33 0 0) (x2 : Option Value) : ∀ (m j : Nat), j ≤ 2 → 2 - j < m → J (G0 l D) jT m_Sl_decide 2 (fun v h => v = none ∧ h = (hC D B (U (mk (inS σ t) 2 t 2 σ) 3 0 t 2) κ g, nx)) 0 0 19 [some (.ref (B + 0)), some (.int (nI t)), x2, some (.int (nI 0)), some (.int (nI j))] [] (hC D B (mk (inS σ t) 2 t j σ) κ g, nx) := by
  intro m
  induction m with
  | zero =>
    intros
    exfalso
    omega
  | succ m ih =>
    intro j h1 h2
    have hbj := bd_mk (P := inS σ t) (k := 2) (t := t) hb (by decide) (by omega) (by omega) j (by omega)
    have m33 : mk (inS σ t) 2 t j σ 33 0 0 = σ 33 0 0 := by rw [mk_ne (by decide)]
    have m34 := mk_34 (P := inS σ t) (k := 2) (t := t) (σ := σ) j
    have mS := inS_cgr (t := t) (s := j) (mk_ne (P := inS σ t) (k := 2) (t := t) (σ := σ) (f := 1) (by decide) j) (mk_ne (P := inS σ t) (k := 2) (t := t) (σ := σ) (f := 2) (by decide) j)
    have m4 := mk_ne (P := inS σ t) (k := 2) (t := t) (σ := σ) (f := 4) (by decide) j
    refine j_iload d_Sl_decide_19 rfl ?_
    refine j_iconst (v := nI 2) d_Sl_decide_21 (by decide +kernel) ?_
    first | refine nn_icmp_ge (t := 80) d_Sl_decide_22 (by decide) (by omega) (by omega) (fun c22 => ?_) (fun c22 => ?_) | refine mm_icmp_ge (t := 80) d_Sl_decide_22 (by decide) (by omega) (by omega) (fun c22 => ?_) (fun c22 => ?_) | refine mn_icmp_ge (t := 80) d_Sl_decide_22 (by decide) (by omega) (by omega) (fun c22 => ?_) (fun c22 => ?_) | refine nm_icmp_ge (t := 80) d_Sl_decide_22 (by decide) (by omega) (by omega) (fun c22 => ?_) (fun c22 => ?_) | refine j_icmp_ge (t := 80) d_Sl_decide_22 (by decide) (fun c22 => ?_) (fun c22 => ?_)
    · have ej : j = 2 := by omega
      subst ej
      first | refine j_aload_n d_Sl_decide_80 rfl ?_ | refine j_aload_nq d_Sl_decide_80 rfl ?_ | refine j_aload_nN d_Sl_decide_80 rfl ?_
      refine j_get d_Sl_decide_81 f_Sl_24 (hC_t (by decide)) rfl ?_
      refine j_iload_n d_Sl_decide_84 rfl ?_
      refine j_iload_n d_Sl_decide_85 rfl ?_
      refine j_if_eq (t := 93) d_Sl_decide_86 (by decide) (fun _ => ?_) (fun q => absurd q (by decide +kernel))
      refine j_iconst (v := nI 2) d_Sl_decide_93 (by decide +kernel) ?_
      refine j_callV0 (As := [_, _]) G0_good G0_E d_Sl_decide_94 c_Sl_152 rfl rfl (t_Tb_setState hbj (by omega) t 2 (by omega)) (hC_t (by decide)) rfl rfl (by decide) (Nat.le_of_ble_eq_true rfl) ?_
      rintro _ _ ⟨rfl, rfl⟩
      exact j_vret d_Sl_decide_97 rfl ⟨rfl, rfl⟩
    · first | refine j_aload_n d_Sl_decide_25 rfl ?_ | refine j_aload_nq d_Sl_decide_25 rfl ?_ | refine j_aload_nN d_Sl_decide_25 rfl ?_
      refine j_get d_Sl_decide_26 f_Sl_24 (hC_t (by decide)) rfl ?_
      refine j_iload_n d_Sl_decide_29 rfl ?_
      refine j_iload d_Sl_decide_30 rfl ?_
      refine j_callV0 (As := [_, _]) G0_good G0_E d_Sl_decide_32 c_Sl_44 rfl rfl (t_Tb_hasInputIn hbj (by omega) t j (by omega) (by omega)) (hC_t (by decide)) rfl rfl (by decide) (Nat.le_of_ble_eq_true rfl) ?_
      rintro _ _ ⟨rfl, rfl⟩
      first | refine c_if_ne (t := 55) d_Sl_decide_35 (by decide) (fun c35 => ?_) (fun c35 => ?_) | refine n_if_ne (t := 55) d_Sl_decide_35 (by decide) (by omega) (fun c35 => ?_) (fun c35 => ?_) | refine j_if_ne (t := 55) d_Sl_decide_35 (by decide) (fun c35 => ?_) (fun c35 => ?_)
      · first | refine j_aload_n d_Sl_decide_55 rfl ?_ | refine j_aload_nq d_Sl_decide_55 rfl ?_ | refine j_aload_nN d_Sl_decide_55 rfl ?_
        refine j_get d_Sl_decide_56 f_Sl_28 (hC_t (by decide)) rfl ?_
        refine j_iload d_Sl_decide_59 rfl ?_
        refine j_iload_n d_Sl_decide_61 rfl ?_
        refine j_if_eq (t := 69) d_Sl_decide_62 (by decide) (fun _ => ?_) (fun q => absurd q (by decide +kernel))
        refine j_iconst (v := nI 2) d_Sl_decide_69 (by decide +kernel) ?_
        refine j_iload_n d_Sl_decide_70 rfl ?_
        refine j_callV0 (As := [_, _, _]) G0_good G0_E d_Sl_decide_71 c_Sl_48 rfl rfl (t_Rb_make hbj (by omega) j 2 t) (hC_t (by decide)) rfl rfl (by decide) (Nat.le_of_ble_eq_true rfl) ?_
        rintro _ _ ⟨rfl, rfl⟩
        refine n_iinc (k := 1) d_Sl_decide_74 (by decide +kernel) rfl (by decide) rfl rfl ?_
        refine j_goto (t := 19) d_Sl_decide_77 (by decide) ?_
        rw [show sMake (mk (inS σ t) 2 t j σ) j 2 t = mk (inS σ t) 2 t (j + 1) σ by rw [mk, ifP_t (mS.mp c35)]]
        exact ih (j + 1) (by omega) (by omega)
      · refine j_iload_n d_Sl_decide_38 rfl ?_
        refine j_if_eq (t := 74) d_Sl_decide_39 (by decide) (fun _ => ?_) (fun q => absurd q (by decide +kernel))
        refine n_iinc (k := 1) d_Sl_decide_74 (by decide +kernel) rfl (by decide) rfl rfl ?_
        refine j_goto (t := 19) d_Sl_decide_77 (by decide) ?_
        rw [show (mk (inS σ t) 2 t j σ) = mk (inS σ t) 2 t (j + 1) σ by rw [mk, ifP_f (fun z => c35 (mS.mpr z))]]
        exact ih (j + 1) (by omega) (by omega)

set_option maxHeartbeats 4000000 in
set_option maxRecDepth 100000 in
theorem t_Sl_decide {l : Launch} {D : va_G} {B nx : Nat} {σ : Sg} {κ : Kp} {g : Nat → Option va_E} (hb : bd σ) (h30 : σ 34 0 0 ≤ 30) (h8 : σ 33 0 0 ≤ 8) (t : Nat) (ht : t < σ 33 0 0) (oc : Nat) (hoc : oc < 100000) : jM (G0 l D) m_Sl_decide 2 0 0 [.ref (B + 0), .int (nI t), .int (nI oc)] (hC D B σ κ g, nx) (fun v h => v = none ∧ h = (hC D B (sDec σ t oc) κ g, nx)) := by
  refine jM.of (by decide +kernel) (Nat.le_of_ble_eq_true rfl) rfl ?_
  refine j_iload_n d_Sl_decide_0 rfl ?_
  first | refine c_if_ne (t := 5) d_Sl_decide_1 (by decide) (fun c1 => ?_) (fun c1 => ?_) | refine n_if_ne (t := 5) d_Sl_decide_1 (by decide) (by omega) (fun c1 => ?_) (fun c1 => ?_) | refine j_if_ne (t := 5) d_Sl_decide_1 (by decide) (fun c1 => ?_) (fun c1 => ?_)
  · refine j_iload_n d_Sl_decide_5 rfl ?_
    refine j_iconst (v := nI 1) d_Sl_decide_6 (by decide +kernel) ?_
    first | refine nn_icmp_ne (t := 14) d_Sl_decide_7 (by decide) (by omega) (by omega) (fun c7 => ?_) (fun c7 => ?_) | refine mm_icmp_ne (t := 14) d_Sl_decide_7 (by decide) (by omega) (by omega) (fun c7 => ?_) (fun c7 => ?_) | refine mn_icmp_ne (t := 14) d_Sl_decide_7 (by decide) (by omega) (by omega) (fun c7 => ?_) (fun c7 => ?_) | refine nm_icmp_ne (t := 14) d_Sl_decide_7 (by decide) (by omega) (by omega) (fun c7 => ?_) (fun c7 => ?_) | refine j_icmp_ne (t := 14) d_Sl_decide_7 (by decide) (fun c7 => ?_) (fun c7 => ?_)
    · refine j_iconst (v := nI 0) d_Sl_decide_14 (by decide +kernel) ?_
      refine j_istore_n d_Sl_decide_15 (by decide) rfl rfl ?_
      refine j_iconst (v := nI 0) d_Sl_decide_16 (by decide +kernel) ?_
      refine j_istore d_Sl_decide_17 (by decide) rfl rfl ?_
      rw [show sDec σ t oc = U (mk (inS σ t) 2 t 2 σ) 3 0 t 2 by rw [sDec, ifP_f c1, ifP_f c7]]
      exact lp_Sl_decide2 hb h30 h8 t ht _ 3 0 (by omega) (by omega)
    · refine j_iconst (v := nI 1) d_Sl_decide_10 (by decide +kernel) ?_
      refine j_goto (t := 15) d_Sl_decide_11 (by decide) ?_
      refine j_istore_n d_Sl_decide_15 (by decide) rfl rfl ?_
      refine j_iconst (v := nI 0) d_Sl_decide_16 (by decide +kernel) ?_
      refine j_istore d_Sl_decide_17 (by decide) rfl rfl ?_
      rw [show sDec σ t oc = U (mk (cmS σ t) 1 t 2 σ) 3 0 t 1 by rw [sDec, ifP_f c1, ifP_t c7]]
      exact lp_Sl_decide1 hb h30 h8 t ht _ 3 0 (by omega) (by omega)
  · exact j_vret d_Sl_decide_4 rfl ⟨rfl, by rw [sDec, ifP_t c1]⟩

set_option maxHeartbeats 4000000 in
set_option maxRecDepth 100000 in
theorem t_Sl_lookAt {l : Launch} {D : va_G} {B nx : Nat} {σ : Sg} {κ : Kp} {g : Nat → Option va_E} (t : Nat) (lk : LK σ t) : jM (G0 l D) m_Sl_lookAt 3 0 0 [.ref (B + 0), .int (nI t)] (hC D B σ κ g, nx) (fun v h => v = none ∧ h = (hC D B (sLook σ t) κ g, nx)) := by
  refine jM.of (by decide +kernel) (Nat.le_of_ble_eq_true rfl) rfl ?_
  obtain ⟨hb, h32, h8, ht, h30⟩ := lk
  have b3 := hb 3 0 t
  have bo : ∀ k, outc σ k t < 100000 := fun k => by
    unfold outc
    split
    · decide
    · exact hians_lt hb k t _
  first | refine j_aload_n d_Sl_lookAt_0 rfl ?_ | refine j_aload_nq d_Sl_lookAt_0 rfl ?_ | refine j_aload_nN d_Sl_lookAt_0 rfl ?_
  refine j_get d_Sl_lookAt_1 f_Sl_24 (hC_t (by decide)) rfl ?_
  refine j_iload_n d_Sl_lookAt_4 rfl ?_
  refine j_callV0 (As := [_]) G0_good G0_E d_Sl_lookAt_5 c_Sl_141 rfl rfl (t_Tb_stateOf hb h8 t ht) (hC_t (by decide)) rfl rfl (by decide) (Nat.le_of_ble_eq_true rfl) ?_
  rintro _ _ ⟨rfl, rfl⟩
  refine j_istore_n d_Sl_lookAt_8 (by decide) rfl rfl ?_
  refine j_iload_n d_Sl_lookAt_9 rfl ?_
  first | refine c_if_ne (t := 30) d_Sl_lookAt_10 (by decide) (fun c10 => ?_) (fun c10 => ?_) | refine n_if_ne (t := 30) d_Sl_lookAt_10 (by decide) (by omega) (fun c10 => ?_) (fun c10 => ?_) | refine j_if_ne (t := 30) d_Sl_lookAt_10 (by decide) (fun c10 => ?_) (fun c10 => ?_)
  · refine j_iload_n d_Sl_lookAt_30 rfl ?_
    refine j_iconst (v := nI 1) d_Sl_lookAt_31 (by decide +kernel) ?_
    first | refine nn_icmp_ne (t := 59) d_Sl_lookAt_32 (by decide) (by omega) (by omega) (fun c32 => ?_) (fun c32 => ?_) | refine mm_icmp_ne (t := 59) d_Sl_lookAt_32 (by decide) (by omega) (by omega) (fun c32 => ?_) (fun c32 => ?_) | refine mn_icmp_ne (t := 59) d_Sl_lookAt_32 (by decide) (by omega) (by omega) (fun c32 => ?_) (fun c32 => ?_) | refine nm_icmp_ne (t := 59) d_Sl_lookAt_32 (by decide) (by omega) (by omega) (fun c32 => ?_) (fun c32 => ?_) | refine j_icmp_ne (t := 59) d_Sl_lookAt_32 (by decide) (fun c32 => ?_) (fun c32 => ?_)
    · refine j_iload_n d_Sl_lookAt_59 rfl ?_
      refine j_iconst (v := nI 2) d_Sl_lookAt_60 (by decide +kernel) ?_
      first | refine nn_icmp_ne (t := 85) d_Sl_lookAt_61 (by decide) (by omega) (by omega) (fun c61 => ?_) (fun c61 => ?_) | refine mm_icmp_ne (t := 85) d_Sl_lookAt_61 (by decide) (by omega) (by omega) (fun c61 => ?_) (fun c61 => ?_) | refine mn_icmp_ne (t := 85) d_Sl_lookAt_61 (by decide) (by omega) (by omega) (fun c61 => ?_) (fun c61 => ?_) | refine nm_icmp_ne (t := 85) d_Sl_lookAt_61 (by decide) (by omega) (by omega) (fun c61 => ?_) (fun c61 => ?_) | refine j_icmp_ne (t := 85) d_Sl_lookAt_61 (by decide) (fun c61 => ?_) (fun c61 => ?_)
      · exact j_vret d_Sl_lookAt_85 rfl ⟨rfl, by rw [sLook, ifP_f c10, ifP_f (fun z => c32 z.1), ifP_f (fun z => c61 z.1)]⟩
      · first | refine j_aload_n d_Sl_lookAt_64 rfl ?_ | refine j_aload_nq d_Sl_lookAt_64 rfl ?_ | refine j_aload_nN d_Sl_lookAt_64 rfl ?_
        refine j_get d_Sl_lookAt_65 f_Sl_28 (hC_t (by decide)) rfl ?_
        refine j_iconst (v := nI 2) d_Sl_lookAt_68 (by decide +kernel) ?_
        refine j_iload_n d_Sl_lookAt_69 rfl ?_
        refine j_callV0 (As := [_, _]) G0_good G0_E d_Sl_lookAt_70 c_Sl_145 rfl rfl (t_Rb_outcome hb h32 2 t (by decide) (by omega)) (hC_t (by decide)) rfl rfl (by decide) (Nat.le_of_ble_eq_true rfl) ?_
        rintro _ _ ⟨rfl, rfl⟩
        have bo2 := bo 2
        first | refine c_if_eq (t := 85) d_Sl_lookAt_73 (by decide) (fun c73 => ?_) (fun c73 => ?_) | refine n_if_eq (t := 85) d_Sl_lookAt_73 (by decide) (by omega) (fun c73 => ?_) (fun c73 => ?_) | refine j_if_eq (t := 85) d_Sl_lookAt_73 (by decide) (fun c73 => ?_) (fun c73 => ?_)
        · exact j_vret d_Sl_lookAt_85 rfl ⟨rfl, by rw [sLook, ifP_f c10, ifP_f (fun z => c32 z.1), ifP_f (fun z => z.2 c73)]⟩
        · first | refine j_aload_n d_Sl_lookAt_76 rfl ?_ | refine j_aload_nq d_Sl_lookAt_76 rfl ?_ | refine j_aload_nN d_Sl_lookAt_76 rfl ?_
          refine j_get d_Sl_lookAt_77 f_Sl_24 (hC_t (by decide)) rfl ?_
          refine j_iload_n d_Sl_lookAt_80 rfl ?_
          refine j_iconst (v := nI 4) d_Sl_lookAt_81 (by decide +kernel) ?_
          refine j_callV0 (As := [_, _]) G0_good G0_E d_Sl_lookAt_82 c_Sl_152 rfl rfl (t_Tb_setState hb h8 t 4 ht) (hC_t (by decide)) rfl rfl (by decide) (Nat.le_of_ble_eq_true rfl) ?_
          rintro _ _ ⟨rfl, rfl⟩
          exact j_vret d_Sl_lookAt_85 rfl ⟨rfl, by rw [sLook, ifP_f c10, ifP_f (fun z => c32 z.1), ifP_t ⟨c61, c73⟩]⟩
    · first | refine j_aload_n d_Sl_lookAt_35 rfl ?_ | refine j_aload_nq d_Sl_lookAt_35 rfl ?_ | refine j_aload_nN d_Sl_lookAt_35 rfl ?_
      refine j_get d_Sl_lookAt_36 f_Sl_28 (hC_t (by decide)) rfl ?_
      refine j_iconst (v := nI 1) d_Sl_lookAt_39 (by decide +kernel) ?_
      refine j_iload_n d_Sl_lookAt_40 rfl ?_
      refine j_callV0 (As := [_, _]) G0_good G0_E d_Sl_lookAt_41 c_Sl_145 rfl rfl (t_Rb_outcome hb h32 1 t (by decide) (by omega)) (hC_t (by decide)) rfl rfl (by decide) (Nat.le_of_ble_eq_true rfl) ?_
      rintro _ _ ⟨rfl, rfl⟩
      have bo1 := bo 1
      first | refine c_if_eq (t := 59) d_Sl_lookAt_44 (by decide) (fun c44 => ?_) (fun c44 => ?_) | refine n_if_eq (t := 59) d_Sl_lookAt_44 (by decide) (by omega) (fun c44 => ?_) (fun c44 => ?_) | refine j_if_eq (t := 59) d_Sl_lookAt_44 (by decide) (fun c44 => ?_) (fun c44 => ?_)
      · refine j_iload_n d_Sl_lookAt_59 rfl ?_
        refine j_iconst (v := nI 2) d_Sl_lookAt_60 (by decide +kernel) ?_
        first | refine nn_icmp_ne (t := 85) d_Sl_lookAt_61 (by decide) (by omega) (by omega) (fun c61 => ?_) (fun c61 => ?_) | refine mm_icmp_ne (t := 85) d_Sl_lookAt_61 (by decide) (by omega) (by omega) (fun c61 => ?_) (fun c61 => ?_) | refine mn_icmp_ne (t := 85) d_Sl_lookAt_61 (by decide) (by omega) (by omega) (fun c61 => ?_) (fun c61 => ?_) | refine nm_icmp_ne (t := 85) d_Sl_lookAt_61 (by decide) (by omega) (by omega) (fun c61 => ?_) (fun c61 => ?_) | refine j_icmp_ne (t := 85) d_Sl_lookAt_61 (by decide) (fun c61 => ?_) (fun c61 => ?_)
        · exact j_vret d_Sl_lookAt_85 rfl ⟨rfl, by rw [sLook, ifP_f c10, ifP_f (fun z => z.2 c44), ifP_f (fun z => c61 z.1)]⟩
        · exfalso; first | exact c61 | omega
      · first | refine j_aload_n d_Sl_lookAt_47 rfl ?_ | refine j_aload_nq d_Sl_lookAt_47 rfl ?_ | refine j_aload_nN d_Sl_lookAt_47 rfl ?_
        refine j_get d_Sl_lookAt_48 f_Sl_24 (hC_t (by decide)) rfl ?_
        refine j_iload_n d_Sl_lookAt_51 rfl ?_
        refine j_iconst (v := nI 3) d_Sl_lookAt_52 (by decide +kernel) ?_
        refine j_callV0 (As := [_, _]) G0_good G0_E d_Sl_lookAt_53 c_Sl_152 rfl rfl (t_Tb_setState hb h8 t 3 ht) (hC_t (by decide)) rfl rfl (by decide) (Nat.le_of_ble_eq_true rfl) ?_
        rintro _ _ ⟨rfl, rfl⟩
        refine j_goto (t := 85) d_Sl_lookAt_56 (by decide) ?_
        exact j_vret d_Sl_lookAt_85 rfl ⟨rfl, by rw [sLook, ifP_f c10, ifP_t ⟨c32, c44⟩]⟩
  · first | refine j_aload_n d_Sl_lookAt_13 rfl ?_ | refine j_aload_nq d_Sl_lookAt_13 rfl ?_ | refine j_aload_nN d_Sl_lookAt_13 rfl ?_
    refine j_iload_n d_Sl_lookAt_14 rfl ?_
    first | refine j_aload_n d_Sl_lookAt_15 rfl ?_ | refine j_aload_nq d_Sl_lookAt_15 rfl ?_ | refine j_aload_nN d_Sl_lookAt_15 rfl ?_
    refine j_get d_Sl_lookAt_16 f_Sl_28 (hC_t (by decide)) rfl ?_
    refine j_iconst (v := nI 0) d_Sl_lookAt_19 (by decide +kernel) ?_
    refine j_iload_n d_Sl_lookAt_20 rfl ?_
    refine j_callV0 (As := [_, _]) G0_good G0_E d_Sl_lookAt_21 c_Sl_145 rfl rfl (t_Rb_outcome hb h32 0 t (by decide) (by omega)) (hC_t (by decide)) rfl rfl (by decide) (Nat.le_of_ble_eq_true rfl) ?_
    rintro _ _ ⟨rfl, rfl⟩
    refine j_callV0 (As := [_, _]) G0_good G0_E d_Sl_lookAt_24 c_Sl_148 rfl rfl (t_Sl_decide hb (h30 c10) h8 t ht (outc σ 0 t) (bo 0)) (hC_t (by decide)) rfl rfl (by decide) (Nat.le_of_ble_eq_true rfl) ?_
    rintro _ _ ⟨rfl, rfl⟩
    refine j_goto (t := 85) d_Sl_lookAt_27 (by decide) ?_
    exact j_vret d_Sl_lookAt_85 rfl ⟨rfl, by rw [sLook, ifP_t c10]⟩

theorem actF_keep {p f : Nat} (hf : f < 8 ∨ f = 17 ∨ f = 28 ∨ f = 33 ∨ f = 34) : ∀ (m : Nat) (σ : Sg), actF m σ p f = σ f
  | 0, σ => rfl
  | m + 1, σ => by
    cases e : one σ p with
    | none => rw [actF_n e]
    | some σ' => rw [actF_s e, actF_keep hf m σ', one_keep e hf]
theorem sAct_keep {p f : Nat} {σ : Sg} (hf : f < 8 ∨ f = 17 ∨ f = 28 ∨ f = 33 ∨ f = 34) : sAct σ p f = σ f := by
  unfold sAct
  by_cases h : ¬ σ 0 p 0 = 0 ∨ ¬ σ 17 p 0 = 0
  · rw [ifP_t h]
  · rw [ifP_f h]; exact actF_keep hf _ _
theorem allF_keep {f : Nat} {σ : Sg} (hf : f < 8 ∨ f = 17 ∨ f = 28 ∨ f = 33 ∨ f = 34) : ∀ p, allF p σ f = σ f
  | 0 => rfl
  | p + 1 => by
    show sAct (allF p σ) p f = σ f
    rw [sAct_keep hf]; exact allF_keep hf p

set_option maxHeartbeats 4000000 in
set_option maxRecDepth 100000 in
theorem lp_Sl_client {l : Launch} {D : va_G} {B nx : Nat} {σ : Sg} {κ : Kp} {g : Nat → Option va_E} {I : Sg → Prop} {mu : Nat → Sg → Nat} (ok : OkI I mu) (kr : KR B σ κ nx) (hb : bd σ) (hl : ∀ t, t < σ 33 0 0 → LK (clF t σ) t) (hi' : I (clF (σ 33 0 0) σ)) : ∀ (m : Nat) (t : Nat), t ≤ σ 33 0 0 → σ 33 0 0 - t < m → J (G0 l D) jT m_Sl_client 7 (fun v h => v = some (.int (nI (clF (σ 33 0 0) σ 34 0 0 - σ 34 0 0))) ∧ ∃ κ' nx', h = (hC D B ((allF 8 (clF (σ 33 0 0) σ))) κ' g, nx') ∧ KR B ((allF 8 (clF (σ 33 0 0) σ))) κ' nx') (sS (allF 8 (clF (σ 33 0 0) σ)) - sS σ) (7 * (sS (allF 8 (clF (σ 33 0 0) σ)) - sS σ)) 10 [some (.ref (B + 0)), some (.int (nI (σ 34 0 0))), some (.int (nI t))] [] (hC D B (clF t σ) κ g, nx) := by
  intro m
  induction m with
  | zero =>
    intros
    exfalso
    omega
  | succ m ih =>
    intro t h1 h2
    have b33 := hb 33 0 0
    refine j_iload_n d_Sl_client_10 rfl ?_
    first | refine j_aload_n d_Sl_client_11 rfl ?_ | refine j_aload_nq d_Sl_client_11 rfl ?_ | refine j_aload_nN d_Sl_client_11 rfl ?_
    refine j_get d_Sl_client_12 f_Sl_24 (hC_t (by decide)) rfl ?_
    refine j_callV0 (As := []) G0_good G0_E d_Sl_client_15 c_Sl_59 rfl rfl (t_Tb_count) (hC_t (by decide)) rfl rfl (by decide) (Nat.le_of_ble_eq_true rfl) ?_
    rintro _ _ ⟨rfl, rfl⟩
    rw [show clF t σ 33 0 0 = σ 33 0 0 from by rw [clF_ne (by decide)]]
    first | refine nn_icmp_ge (t := 32) d_Sl_client_18 (by decide) (by omega) (by omega) (fun c18 => ?_) (fun c18 => ?_) | refine mm_icmp_ge (t := 32) d_Sl_client_18 (by decide) (by omega) (by omega) (fun c18 => ?_) (fun c18 => ?_) | refine mn_icmp_ge (t := 32) d_Sl_client_18 (by decide) (by omega) (by omega) (fun c18 => ?_) (fun c18 => ?_) | refine nm_icmp_ge (t := 32) d_Sl_client_18 (by decide) (by omega) (by omega) (fun c18 => ?_) (fun c18 => ?_) | refine j_icmp_ge (t := 32) d_Sl_client_18 (by decide) (fun c18 => ?_) (fun c18 => ?_)
    · have et : t = σ 33 0 0 := by omega
      subst et
      rw [show sS σ = sS (clF (σ 33 0 0) σ) from (sS_of (by rw [clF_ne (by decide)])).symm]
      first | refine j_aload_n d_Sl_client_32 rfl ?_ | refine j_aload_nq d_Sl_client_32 rfl ?_ | refine j_aload_nN d_Sl_client_32 rfl ?_
      refine j_callV1 (As := []) G0_good G0_E d_Sl_client_33 c_Sl_52 rfl rfl (t_Sl_letAllAct (σ := clF (σ 33 0 0) σ) ok hi' (KR_cgr kr (fun f hf => by rw [clF_ne (by omega)]))) (hC_t (by decide)) rfl rfl (by decide) (Nat.le_of_ble_eq_true rfl) ?_
      rintro _ _ ⟨rfl, κ', nx', rfl, kr'⟩
      first | refine j_aload_n d_Sl_client_36 rfl ?_ | refine j_aload_nq d_Sl_client_36 rfl ?_ | refine j_aload_nN d_Sl_client_36 rfl ?_
      refine j_get d_Sl_client_37 f_Sl_28 (hC_t (by decide)) rfl ?_
      refine j_callV0 (As := []) G0_good G0_E d_Sl_client_40 c_Sl_55 rfl rfl (t_Rb_count) (hC_t (by decide)) rfl rfl (by decide) (Nat.le_of_ble_eq_true rfl) ?_
      rintro _ _ ⟨rfl, rfl⟩
      refine j_iload_n d_Sl_client_43 rfl ?_
      rw [show allF 8 (clF (σ 33 0 0) σ) 34 0 0 = clF (σ 33 0 0) σ 34 0 0 from by rw [allF_keep (by decide)]]
      have h34 := clF_34 (σ := σ) (σ 33 0 0)
      refine jn_isub d_Sl_client_44 (by omega) ?_
      exact j_iret d_Sl_client_45 rfl ⟨rfl, κ', nx', rfl, kr'⟩
    · first | refine j_aload_n d_Sl_client_21 rfl ?_ | refine j_aload_nq d_Sl_client_21 rfl ?_ | refine j_aload_nN d_Sl_client_21 rfl ?_
      refine j_iload_n d_Sl_client_22 rfl ?_
      refine j_callV0 (As := [_]) G0_good G0_E d_Sl_client_23 c_Sl_60 rfl rfl (t_Sl_lookAt t (hl t (by omega))) (hC_t (by decide)) rfl rfl (by decide) (Nat.le_of_ble_eq_true rfl) ?_
      rintro _ _ ⟨rfl, rfl⟩
      refine n_iinc (k := 1) d_Sl_client_26 (by decide +kernel) rfl (by decide) rfl rfl ?_
      refine j_goto (t := 10) d_Sl_client_29 (by decide) ?_
      exact ih (t + 1) (by omega) (by omega)

set_option maxHeartbeats 4000000 in
set_option maxRecDepth 100000 in
theorem t_Sl_client {l : Launch} {D : va_G} {B nx : Nat} {σ : Sg} {κ : Kp} {g : Nat → Option va_E} {I : Sg → Prop} {mu : Nat → Sg → Nat} (ok : OkI I mu) (kr : KR B σ κ nx) (hb : bd σ) (hl : ∀ t, t < σ 33 0 0 → LK (clF t σ) t) (hi' : I (clF (σ 33 0 0) σ)) : jM (G0 l D) m_Sl_client 7 (sS (allF 8 (clF (σ 33 0 0) σ)) - sS σ) (7 * (sS (allF 8 (clF (σ 33 0 0) σ)) - sS σ)) [.ref (B + 0)] (hC D B σ κ g, nx) (fun v h => v = some (.int (nI (clF (σ 33 0 0) σ 34 0 0 - σ 34 0 0))) ∧ ∃ κ' nx', h = (hC D B ((allF 8 (clF (σ 33 0 0) σ))) κ' g, nx') ∧ KR B ((allF 8 (clF (σ 33 0 0) σ))) κ' nx') := by
  refine jM.of (by decide +kernel) (Nat.le_of_ble_eq_true rfl) rfl ?_
  first | refine j_aload_n d_Sl_client_0 rfl ?_ | refine j_aload_nq d_Sl_client_0 rfl ?_ | refine j_aload_nN d_Sl_client_0 rfl ?_
  refine j_get d_Sl_client_1 f_Sl_28 (hC_t (by decide)) rfl ?_
  refine j_callV0 (As := []) G0_good G0_E d_Sl_client_4 c_Sl_55 rfl rfl (t_Rb_count) (hC_t (by decide)) rfl rfl (by decide) (Nat.le_of_ble_eq_true rfl) ?_
  rintro _ _ ⟨rfl, rfl⟩
  refine j_istore_n d_Sl_client_7 (by decide) rfl rfl ?_
  refine j_iconst (v := nI 0) d_Sl_client_8 (by decide +kernel) ?_
  refine j_istore_n d_Sl_client_9 (by decide) rfl rfl ?_
  exact lp_Sl_client ok kr hb hl hi' (σ 33 0 0 + 1) 0 (by omega) (by omega)
