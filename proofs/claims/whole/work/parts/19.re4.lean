/-! Replica: rule 1, a request is executed (g_re4.py) -/
/-- the result of a request of kind k about t at p, and what it does -/
noncomputable def exR (σ : Sg) (p k t : Nat) : Nat := ifP (k = 0 ∧ lkBad σ p t 10) 2 1
noncomputable def exS (σ : Sg) (p k t : Nat) : Sg := ifP (k = 0) (ifP (lkBad σ p t 10) σ (exLk σ p t 10)) (ifP (k = 1) (exSp σ p t 10) (exFr σ p t 10))
theorem exR_lt {σ : Sg} {p k t : Nat} : exR σ p k t < 3 := by
  unfold exR
  by_cases h : k = 0 ∧ lkBad σ p t 10
  · rw [ifP_t h]; decide
  · rw [ifP_f h]; decide
theorem exS_ne {σ : Sg} {p k t f : Nat} (h8 : f ≠ 8) (h9 : f ≠ 9) : exS σ p k t f = σ f := by
  unfold exS
  by_cases h : k = 0
  · rw [ifP_t h]
    by_cases q : lkBad σ p t 10
    · rw [ifP_t q]
    · rw [ifP_f q]; exact exLk_ne h8 h9 10
  · rw [ifP_f h]
    by_cases q : k = 1
    · rw [ifP_t q]; exact exSp_ne h8 10
    · rw [ifP_f q]; exact exFr_ne h8 10
theorem exS_bd {σ : Sg} {p k t : Nat} (hb : bd σ) (ht : t < 100000) : bd (exS σ p k t) := by
  unfold exS
  by_cases h : k = 0
  · rw [ifP_t h]
    by_cases q : lkBad σ p t 10
    · rw [ifP_t q]; exact hb
    · rw [ifP_f q]; exact exLk_bd hb ht 10
  · rw [ifP_f h]
    by_cases q : k = 1
    · rw [ifP_t q]; exact exSp_bd hb 10
    · rw [ifP_f q]; exact exFr_bd hb 10

set_option maxHeartbeats 4000000 in
set_option maxRecDepth 100000 in
theorem t_Ho_carryOutK0 {l : Launch} {D : va_G} {B nx : Nat} {σ : Sg} {κ : Kp} {g : Nat → Option va_E} {p : Nat} (hp : p < 8) (hb : bd σ) (h8 : σ 33 0 0 ≤ 8) (t : Nat) (ht : t < σ 33 0 0) : jM (G0 l D) m_Ho_carryOut 2 0 0 [.ref (aP B p + 0), .int (nI 0), .int (nI t)] (hC D B σ κ g, nx) (fun v h => v = some (.int (nI (exR σ p 0 t))) ∧ h = (hC D B (exS σ p 0 t) (κ) g, nx)) := by
  refine jM.of (by decide +kernel) (Nat.le_of_ble_eq_true rfl) rfl ?_
  refine j_iload_n d_Ho_carryOut_0 rfl ?_
  refine j_lookup (t := 28) (o := 27) d_Ho_carryOut_1 (by decide +kernel) (by decide +kernel) (by decide) ?_
  first | refine j_aload_n d_Ho_carryOut_28 rfl ?_ | refine j_aload_nq d_Ho_carryOut_28 rfl ?_ | refine j_aload_nN d_Ho_carryOut_28 rfl ?_
  refine j_iload_n d_Ho_carryOut_29 rfl ?_
  refine j_callV0 (As := [_]) G0_good G0_E d_Ho_carryOut_30 c_Ho_32 rfl rfl (t_Ho_lockInputs hp hb h8 t ht) (hC_p hp (by decide)) rfl rfl (by decide) (Nat.le_of_ble_eq_true rfl) ?_
  rintro _ _ (⟨q1, rfl, rfl⟩ | ⟨q1, rfl, rfl⟩)
  · exact j_iret d_Ho_carryOut_33 rfl ⟨by rw [exR, ifP_t ⟨rfl, q1⟩], by rw [exS, ifP_t rfl, ifP_t q1]⟩
  exact j_iret d_Ho_carryOut_33 rfl ⟨by rw [exR, ifP_f (fun z => q1 z.2)], by rw [exS, ifP_t rfl, ifP_f q1]⟩

set_option maxHeartbeats 4000000 in
set_option maxRecDepth 100000 in
theorem t_Ho_carryOutK1 {l : Launch} {D : va_G} {B nx : Nat} {σ : Sg} {κ : Kp} {g : Nat → Option va_E} {p : Nat} (hp : p < 8) (hb : bd σ) (h8 : σ 33 0 0 ≤ 8) (t : Nat) (ht : t < σ 33 0 0) : jM (G0 l D) m_Ho_carryOut 2 0 0 [.ref (aP B p + 0), .int (nI 1), .int (nI t)] (hC D B σ κ g, nx) (fun v h => v = some (.int (nI (exR σ p 1 t))) ∧ h = (hC D B (exS σ p 1 t) (κ) g, nx)) := by
  refine jM.of (by decide +kernel) (Nat.le_of_ble_eq_true rfl) rfl ?_
  refine j_iload_n d_Ho_carryOut_0 rfl ?_
  refine j_lookup (t := 34) (o := 33) d_Ho_carryOut_1 (by decide +kernel) (by decide +kernel) (by decide) ?_
  first | refine j_aload_n d_Ho_carryOut_34 rfl ?_ | refine j_aload_nq d_Ho_carryOut_34 rfl ?_ | refine j_aload_nN d_Ho_carryOut_34 rfl ?_
  refine j_iload_n d_Ho_carryOut_35 rfl ?_
  refine j_callV0 (As := [_]) G0_good G0_E d_Ho_carryOut_36 c_Ho_35 rfl rfl (t_Ho_spendInputs hp hb h8 t ht) (hC_p hp (by decide)) rfl rfl (by decide) (Nat.le_of_ble_eq_true rfl) ?_
  rintro _ _ ⟨rfl, rfl⟩
  exact j_iret d_Ho_carryOut_39 rfl ⟨by rw [exR, ifP_f (fun z => absurd z.1 (by decide))], by rw [exS, ifP_f (by decide), ifP_t rfl]⟩

set_option maxHeartbeats 4000000 in
set_option maxRecDepth 100000 in
theorem t_Ho_carryOutK2 {l : Launch} {D : va_G} {B nx : Nat} {σ : Sg} {κ : Kp} {g : Nat → Option va_E} {p : Nat} (hp : p < 8) (hb : bd σ) (h8 : σ 33 0 0 ≤ 8) (t : Nat) (ht : t < σ 33 0 0) : jM (G0 l D) m_Ho_carryOut 2 0 0 [.ref (aP B p + 0), .int (nI 2), .int (nI t)] (hC D B σ κ g, nx) (fun v h => v = some (.int (nI (exR σ p 2 t))) ∧ h = (hC D B (exS σ p 2 t) (κ) g, nx)) := by
  refine jM.of (by decide +kernel) (Nat.le_of_ble_eq_true rfl) rfl ?_
  refine j_iload_n d_Ho_carryOut_0 rfl ?_
  refine j_lookup (t := 40) (o := 39) d_Ho_carryOut_1 (by decide +kernel) (by decide +kernel) (by decide) ?_
  first | refine j_aload_n d_Ho_carryOut_40 rfl ?_ | refine j_aload_nq d_Ho_carryOut_40 rfl ?_ | refine j_aload_nN d_Ho_carryOut_40 rfl ?_
  refine j_iload_n d_Ho_carryOut_41 rfl ?_
  refine j_callV0 (As := [_]) G0_good G0_E d_Ho_carryOut_42 c_Ho_38 rfl rfl (t_Ho_freeInputs hp hb h8 t ht) (hC_p hp (by decide)) rfl rfl (by decide) (Nat.le_of_ble_eq_true rfl) ?_
  rintro _ _ ⟨rfl, rfl⟩
  exact j_iret d_Ho_carryOut_45 rfl ⟨by rw [exR, ifP_f (fun z => absurd z.1 (by decide))], by rw [exS, ifP_f (by decide), ifP_f (by decide)]⟩

theorem t_Ho_carryOut {l : Launch} {D : va_G} {B nx : Nat} {σ : Sg} {κ : Kp} {g : Nat → Option va_E} {p : Nat} (hp : p < 8) (hb : bd σ) (h8 : σ 33 0 0 ≤ 8) (t : Nat) (ht : t < σ 33 0 0) (k : Nat) (hk : k < 3) : jM (G0 l D) m_Ho_carryOut 2 0 0 [.ref (aP B p + 0), .int (nI k), .int (nI t)] (hC D B σ κ g, nx) (fun v h => v = some (.int (nI (exR σ p k t))) ∧ h = (hC D B (exS σ p k t) (κ) g, nx)) := by
  match k, hk with
  | 0, _ => exact t_Ho_carryOutK0 hp hb h8 t ht
  | 1, _ => exact t_Ho_carryOutK1 hp hb h8 t ht
  | 2, _ => exact t_Ho_carryOutK2 hp hb h8 t ht
/-- an inbox emptied -/
def clrB (σ : Sg) (p : Nat) : Sg := fun f a b => if (f = 29 ∨ f = 30) ∧ a = p then 0 else σ f a b
theorem clrB_ne {σ : Sg} {p f : Nat} (h1 : f ≠ 29) (h2 : f ≠ 30) : clrB σ p f = σ f := by
  funext a b
  simp [clrB, h1, h2]
/-- what is executed: the request, and what comes of it -/
noncomputable def q1 (σ : Sg) (p : Nat) : Nat := sealed σ p - 1
noncomputable def r1 (σ : Sg) (p : Nat) : Nat := exR σ p (σ 6 0 (q1 σ p)) (σ 7 0 (q1 σ p))
noncomputable def e1 (σ : Sg) (p : Nat) : Sg := exS σ p (σ 6 0 (q1 σ p)) (σ 7 0 (q1 σ p))
noncomputable def e2 (σ : Sg) (p : Nat) : Sg := U (U (e1 σ p) 31 0 (q1 σ p) (e1 σ p 31 0 (q1 σ p) + 1)) 32 0 (q1 σ p) (r1 σ p)
noncomputable def e4 (σ : Sg) (p : Nat) : Sg := U (U (e2 σ p) 18 p (σ 10 p 0) (q1 σ p)) 10 p 0 (σ 10 p 0 + 1)
noncomputable def e7 (σ : Sg) (p : Nat) : Sg := U (U (U (U (U (U (e4 σ p) 11 p 0 0) 12 p 0 0) 13 p 0 0) 14 p 0 0) 15 p 0 0) 16 p 0 0
noncomputable def a1 (σ : Sg) (p : Nat) : Sg := clrB (U (e7 σ p) 19 p (q1 σ p) (r1 σ p)) p
def g1 (σ : Sg) (p : Nat) : Prop := ¬ sealed σ p = 0 ∧ σ 10 p 0 < 16
theorem hC_a1 {D : va_G} {B : Nat} {σ : Sg} {κ : Kp} {g : Nat → Option va_E} {p : Nat} : hC D B (e7 σ p) κ g = hC D B (a1 σ p) κ g := by
  symm
  refine hC_cgr (fun f hf => ?_)
  have hn : f ≠ 19 ∧ f ≠ 29 ∧ f ≠ 30 := by
    refine ⟨?_, ?_, ?_⟩ <;> (rintro rfl; simp [tidx, pidx, sidx] at hf)
  unfold a1
  rw [clrB_ne hn.2.1 hn.2.2, U_ne hn.1]
theorem e1_ne {σ : Sg} {p f : Nat} (h8 : f ≠ 8) (h9 : f ≠ 9) : e1 σ p f = σ f := exS_ne h8 h9
theorem e2_ne {σ : Sg} {p f : Nat} (h8 : f ≠ 8) (h9 : f ≠ 9) (h31 : f ≠ 31) (h32 : f ≠ 32) : e2 σ p f = σ f := by
  unfold e2
  rw [U_ne h32, U_ne h31, e1_ne h8 h9]
/-- a sealed request is good -/
theorem sealed_good {σ : Sg} {p : Nat} (h : ¬ sealed σ p = 0) : gdn σ p (q1 σ p) := by
  unfold q1
  unfold sealed at h ⊢
  cases e : srch (sealAt σ p) 6 0 with
  | zero => rw [e, ifP_t rfl] at h; exact absurd rfl h
  | succ r =>
    rw [e, ifP_f (Nat.succ_ne_zero r)] at h
    rw [ifP_f (Nat.succ_ne_zero r), Nat.add_sub_cancel]
    exact (srch_spec e).2.2.2.1.2

set_option maxHeartbeats 4000000 in
set_option maxRecDepth 100000 in
theorem t_Re_exec_t {l : Launch} {D : va_G} {B nx : Nat} {σ : Sg} {κ : Kp} {g : Nat → Option va_E} {p : Nat} (hp : p < 8) (hb : bd σ) (h32 : σ 34 0 0 ≤ 32) (kr : KR B σ κ nx) (h8 : σ 33 0 0 ≤ 8) (hq3 : ∀ q, q < σ 34 0 0 → σ 6 0 q < 3 ∧ σ 7 0 q < σ 33 0 0) (h : g1 σ p) : jM (G0 l D) m_Re_executeSealed 4 0 0 [.ref (aP B p + 3)] (hC D B σ κ g, nx) (fun v h => v = some (.int (nI 1)) ∧ h = (hC D B (a1 σ p) (Kclr κ p 72) g, nx)) := by
  refine jM.of (by decide +kernel) (Nat.le_of_ble_eq_true rfl) rfl ?_
  have b10 := hb 10 p 0
  have h0 := h.1
  have h1 := h.2
  have hqn : q1 σ p < σ 34 0 0 := (sealed_good h.1).1
  have hk := hq3 _ hqn
  have hbe : bd (e1 σ p) := exS_bd hb (by omega)
  have bsl : sealed σ p < 100000 := by have : q1 σ p = sealed σ p - 1 := rfl; omega
  first | refine j_aload_n d_Re_executeSealed_0 rfl ?_ | refine j_aload_nq d_Re_executeSealed_0 rfl ?_ | refine j_aload_nN d_Re_executeSealed_0 rfl ?_
  refine j_callV0 (As := []) G0_good G0_E d_Re_executeSealed_1 c_Re_132 rfl rfl (t_Re_sealedRequest hp hb h32 kr) (hC_p hp (by decide)) rfl rfl (by decide) (Nat.le_of_ble_eq_true rfl) ?_
  rintro _ _ ⟨rfl, rfl⟩
  refine j_istore_n d_Re_executeSealed_4 (by decide) rfl rfl ?_
  refine j_iload_n d_Re_executeSealed_5 rfl ?_
  refine j_iconst (v := mI 0) d_Re_executeSealed_6 (by decide +kernel) ?_
  first | refine nn_icmp_eq (t := 22) d_Re_executeSealed_7 (by decide) (by omega) (by omega) (fun c7 => ?_) (fun c7 => ?_) | refine mm_icmp_eq (t := 22) d_Re_executeSealed_7 (by decide) (by omega) (by omega) (fun c7 => ?_) (fun c7 => ?_) | refine mn_icmp_eq (t := 22) d_Re_executeSealed_7 (by decide) (by omega) (by omega) (fun c7 => ?_) (fun c7 => ?_) | refine nm_icmp_eq (t := 22) d_Re_executeSealed_7 (by decide) (by omega) (by omega) (fun c7 => ?_) (fun c7 => ?_) | refine j_icmp_eq (t := 22) d_Re_executeSealed_7 (by decide) (fun c7 => ?_) (fun c7 => ?_)
  · exfalso; first | exact c7 | omega
  · first | refine j_aload_n d_Re_executeSealed_10 rfl ?_ | refine j_aload_nq d_Re_executeSealed_10 rfl ?_ | refine j_aload_nN d_Re_executeSealed_10 rfl ?_
    refine j_get d_Re_executeSealed_11 f_Re_65 (hC_p hp (by decide)) rfl ?_
    first | refine j_aload_n d_Re_executeSealed_14 rfl ?_ | refine j_aload_nq d_Re_executeSealed_14 rfl ?_ | refine j_aload_nN d_Re_executeSealed_14 rfl ?_
    refine j_get d_Re_executeSealed_15 f_Re_28 (hC_p hp (by decide)) rfl ?_
    refine j_alen (t := 0) (v := nI 16) d_Re_executeSealed_18 rfl (hC_p hp (by decide)) rfl ?_
    first | refine nn_icmp_lt (t := 24) d_Re_executeSealed_19 (by decide) (by omega) (by omega) (fun c19 => ?_) (fun c19 => ?_) | refine mm_icmp_lt (t := 24) d_Re_executeSealed_19 (by decide) (by omega) (by omega) (fun c19 => ?_) (fun c19 => ?_) | refine mn_icmp_lt (t := 24) d_Re_executeSealed_19 (by decide) (by omega) (by omega) (fun c19 => ?_) (fun c19 => ?_) | refine nm_icmp_lt (t := 24) d_Re_executeSealed_19 (by decide) (by omega) (by omega) (fun c19 => ?_) (fun c19 => ?_) | refine j_icmp_lt (t := 24) d_Re_executeSealed_19 (by decide) (fun c19 => ?_) (fun c19 => ?_)
    · rw [mI_pos c7]
      rw [show sealed σ p - 1 = q1 σ p from rfl]
      first | refine j_aload_n d_Re_executeSealed_24 rfl ?_ | refine j_aload_nq d_Re_executeSealed_24 rfl ?_ | refine j_aload_nN d_Re_executeSealed_24 rfl ?_
      refine j_get d_Re_executeSealed_25 f_Re_43 (hC_p hp (by decide)) rfl ?_
      refine j_iload_n d_Re_executeSealed_28 rfl ?_
      first | refine j_aload_n d_Re_executeSealed_29 rfl ?_ | refine j_aload_nq d_Re_executeSealed_29 rfl ?_ | refine j_aload_nN d_Re_executeSealed_29 rfl ?_
      refine j_get d_Re_executeSealed_30 f_Re_51 (hC_p hp (by decide)) rfl ?_
      first | refine j_aload_n d_Re_executeSealed_33 rfl ?_ | refine j_aload_nq d_Re_executeSealed_33 rfl ?_ | refine j_aload_nN d_Re_executeSealed_33 rfl ?_
      refine j_get d_Re_executeSealed_34 f_Re_43 (hC_p hp (by decide)) rfl ?_
      refine j_iload_n d_Re_executeSealed_37 rfl ?_
      refine j_callV0 (As := [_]) G0_good G0_E d_Re_executeSealed_38 c_Re_136 rfl rfl (t_Rb_kindOf hb h32 (q1 σ p) hqn) (hC_t (by decide)) rfl rfl (by decide) (Nat.le_of_ble_eq_true rfl) ?_
      rintro _ _ ⟨rfl, rfl⟩
      first | refine j_aload_n d_Re_executeSealed_41 rfl ?_ | refine j_aload_nq d_Re_executeSealed_41 rfl ?_ | refine j_aload_nN d_Re_executeSealed_41 rfl ?_
      refine j_get d_Re_executeSealed_42 f_Re_43 (hC_p hp (by decide)) rfl ?_
      refine j_iload_n d_Re_executeSealed_45 rfl ?_
      refine j_callV0 (As := [_]) G0_good G0_E d_Re_executeSealed_46 c_Re_142 rfl rfl (t_Rb_transactionOf hb h32 (q1 σ p) hqn) (hC_t (by decide)) rfl rfl (by decide) (Nat.le_of_ble_eq_true rfl) ?_
      rintro _ _ ⟨rfl, rfl⟩
      refine j_callV0 (As := [_, _]) G0_good G0_E d_Re_executeSealed_49 c_Re_145 rfl rfl (t_Ho_carryOut hp hb h8 (σ 7 0 (q1 σ p)) hk.2 (σ 6 0 (q1 σ p)) hk.1) (hC_p hp (by decide)) rfl rfl (by decide) (Nat.le_of_ble_eq_true rfl) ?_
      rintro _ _ ⟨rfl, rfl⟩
      refine j_callV0 (As := [_, _]) G0_good G0_E d_Re_executeSealed_52 c_Re_151 rfl rfl (t_Rb_noteExecution (σ := e1 σ p) hbe (by rw [e1_ne (by decide) (by decide)]; exact h32) (q1 σ p) (r1 σ p) (by rw [e1_ne (by decide) (by decide)]; exact hqn)) (hC_t (by decide)) rfl rfl (by decide) (Nat.le_of_ble_eq_true rfl) ?_
      rintro _ _ ⟨rfl, rfl⟩
      have hh : (U (U (e1 σ p) 31 0 (q1 σ p) (e1 σ p 31 0 (q1 σ p) + 1)) 32 0 (q1 σ p) (r1 σ p)) 10 p 0 = σ 10 p 0 := by rw [U_ne (by decide), U_ne (by decide), e1_ne (by decide) (by decide)]
      first | refine j_aload_n d_Re_executeSealed_55 rfl ?_ | refine j_aload_nq d_Re_executeSealed_55 rfl ?_ | refine j_aload_nN d_Re_executeSealed_55 rfl ?_
      refine j_get d_Re_executeSealed_56 f_Re_28 (hC_p hp (by decide)) rfl ?_
      first | refine j_aload_n d_Re_executeSealed_59 rfl ?_ | refine j_aload_nq d_Re_executeSealed_59 rfl ?_ | refine j_aload_nN d_Re_executeSealed_59 rfl ?_
      refine j_get d_Re_executeSealed_60 f_Re_65 (hC_p hp (by decide)) rfl ?_
      rw [hh]
      refine j_iload_n d_Re_executeSealed_63 rfl ?_
      refine j_iast (t := 0) d_Re_executeSealed_64 rfl (hC_p hp (by decide)) rfl h.2 (by decide) (J.hq (w18 hp) ?_)
      first | refine j_aload_n d_Re_executeSealed_65 rfl ?_ | refine j_aload_nq d_Re_executeSealed_65 rfl ?_ | refine j_aload_nN d_Re_executeSealed_65 rfl ?_
      refine j_dup d_Re_executeSealed_66 rfl ?_
      refine j_get d_Re_executeSealed_67 f_Re_65 (hC_p hp (by decide)) rfl ?_
      refine j_iconst (v := nI 1) d_Re_executeSealed_70 (by decide +kernel) ?_
      refine jn_iadd d_Re_executeSealed_71 ?_
      rw [show (U (U (U (e1 σ p) 31 0 (q1 σ p) (e1 σ p 31 0 (q1 σ p) + 1)) 32 0 (q1 σ p) (r1 σ p)) 18 p (σ 10 p 0) (q1 σ p)) 10 p 0 = σ 10 p 0 from hh]
      refine j_put d_Re_executeSealed_72 p_Re_65 (hC_p hp (by decide)) rfl (by first | rfl | decide +kernel) (Nat.le_of_ble_eq_true rfl) (J.hq (w10 hp) ?_)
      first | refine j_aload_n d_Re_executeSealed_75 rfl ?_ | refine j_aload_nq d_Re_executeSealed_75 rfl ?_ | refine j_aload_nN d_Re_executeSealed_75 rfl ?_
      refine j_iconst (v := nI 0) d_Re_executeSealed_76 (by decide +kernel) ?_
      refine j_callV0 (As := [_]) G0_good G0_E d_Re_executeSealed_77 c_Re_103 rfl rfl (t_Re_enterRound hp 0) (hC_p hp (by decide)) rfl rfl (by decide) (Nat.le_of_ble_eq_true rfl) ?_
      rintro _ _ ⟨rfl, rfl⟩
      first | refine j_aload_n d_Re_executeSealed_80 rfl ?_ | refine j_aload_nq d_Re_executeSealed_80 rfl ?_ | refine j_aload_nN d_Re_executeSealed_80 rfl ?_
      refine j_get d_Re_executeSealed_81 f_Re_21 (hC_p hp (by decide)) rfl ?_
      refine j_callV0 (As := []) G0_good G0_E d_Re_executeSealed_84 c_Re_155 rfl rfl (t_Ch_clear_lock hp) (hC_p hp (by decide)) rfl rfl (by decide) (Nat.le_of_ble_eq_true rfl) ?_
      rintro _ _ ⟨rfl, rfl⟩
      first | refine j_aload_n d_Re_executeSealed_87 rfl ?_ | refine j_aload_nq d_Re_executeSealed_87 rfl ?_ | refine j_aload_nN d_Re_executeSealed_87 rfl ?_
      refine j_get d_Re_executeSealed_88 f_Re_25 (hC_p hp (by decide)) rfl ?_
      refine j_callV0 (As := []) G0_good G0_E d_Re_executeSealed_91 c_Re_155 rfl rfl (t_Ch_clear_cand hp) (hC_p hp (by decide)) rfl rfl (by decide) (Nat.le_of_ble_eq_true rfl) ?_
      rintro _ _ ⟨rfl, rfl⟩
      first | refine j_aload_n d_Re_executeSealed_94 rfl ?_ | refine j_aload_nq d_Re_executeSealed_94 rfl ?_ | refine j_aload_nN d_Re_executeSealed_94 rfl ?_
      refine j_get d_Re_executeSealed_95 f_Re_12 (hC_p hp (by decide)) rfl ?_
      refine j_callV0 (As := []) G0_good G0_E d_Re_executeSealed_98 c_Re_158 rfl rfl (t_In_clear hp) (hC_p hp (by decide)) rfl rfl (by decide) (Nat.le_of_ble_eq_true rfl) ?_
      rintro _ _ ⟨rfl, rfl⟩
      refine j_iconst (v := nI 1) d_Re_executeSealed_101 (by decide +kernel) ?_
      exact j_zret d_Re_executeSealed_102 rfl (by decide +kernel) ⟨rfl, by rw [← hC_a1]; rfl⟩
    · exfalso; first | exact c19 | omega

set_option maxHeartbeats 4000000 in
set_option maxRecDepth 100000 in
theorem t_Re_exec_f {l : Launch} {D : va_G} {B nx : Nat} {σ : Sg} {κ : Kp} {g : Nat → Option va_E} {p : Nat} (hp : p < 8) (hb : bd σ) (h32 : σ 34 0 0 ≤ 32) (kr : KR B σ κ nx) (h : ¬ g1 σ p) : jM (G0 l D) m_Re_executeSealed 4 0 0 [.ref (aP B p + 3)] (hC D B σ κ g, nx) (fun v h => v = some (.int (nI 0)) ∧ h = (hC D B σ κ g, nx)) := by
  refine jM.of (by decide +kernel) (Nat.le_of_ble_eq_true rfl) rfl ?_
  have b10 := hb 10 p 0
  have bsl : sealed σ p < 100000 := by
    by_cases z : sealed σ p = 0
    · omega
    · have := (sealed_good z).1
      have e : q1 σ p = sealed σ p - 1 := rfl
      omega
  first | refine j_aload_n d_Re_executeSealed_0 rfl ?_ | refine j_aload_nq d_Re_executeSealed_0 rfl ?_ | refine j_aload_nN d_Re_executeSealed_0 rfl ?_
  refine j_callV0 (As := []) G0_good G0_E d_Re_executeSealed_1 c_Re_132 rfl rfl (t_Re_sealedRequest hp hb h32 kr) (hC_p hp (by decide)) rfl rfl (by decide) (Nat.le_of_ble_eq_true rfl) ?_
  rintro _ _ ⟨rfl, rfl⟩
  refine j_istore_n d_Re_executeSealed_4 (by decide) rfl rfl ?_
  refine j_iload_n d_Re_executeSealed_5 rfl ?_
  refine j_iconst (v := mI 0) d_Re_executeSealed_6 (by decide +kernel) ?_
  first | refine nn_icmp_eq (t := 22) d_Re_executeSealed_7 (by decide) (by omega) (by omega) (fun c7 => ?_) (fun c7 => ?_) | refine mm_icmp_eq (t := 22) d_Re_executeSealed_7 (by decide) (by omega) (by omega) (fun c7 => ?_) (fun c7 => ?_) | refine mn_icmp_eq (t := 22) d_Re_executeSealed_7 (by decide) (by omega) (by omega) (fun c7 => ?_) (fun c7 => ?_) | refine nm_icmp_eq (t := 22) d_Re_executeSealed_7 (by decide) (by omega) (by omega) (fun c7 => ?_) (fun c7 => ?_) | refine j_icmp_eq (t := 22) d_Re_executeSealed_7 (by decide) (fun c7 => ?_) (fun c7 => ?_)
  · refine j_iconst (v := nI 0) d_Re_executeSealed_22 (by decide +kernel) ?_
    exact j_zret d_Re_executeSealed_23 rfl (by decide +kernel) ⟨rfl, rfl⟩
  · first | refine j_aload_n d_Re_executeSealed_10 rfl ?_ | refine j_aload_nq d_Re_executeSealed_10 rfl ?_ | refine j_aload_nN d_Re_executeSealed_10 rfl ?_
    refine j_get d_Re_executeSealed_11 f_Re_65 (hC_p hp (by decide)) rfl ?_
    first | refine j_aload_n d_Re_executeSealed_14 rfl ?_ | refine j_aload_nq d_Re_executeSealed_14 rfl ?_ | refine j_aload_nN d_Re_executeSealed_14 rfl ?_
    refine j_get d_Re_executeSealed_15 f_Re_28 (hC_p hp (by decide)) rfl ?_
    refine j_alen (t := 0) (v := nI 16) d_Re_executeSealed_18 rfl (hC_p hp (by decide)) rfl ?_
    first | refine nn_icmp_lt (t := 24) d_Re_executeSealed_19 (by decide) (by omega) (by omega) (fun c19 => ?_) (fun c19 => ?_) | refine mm_icmp_lt (t := 24) d_Re_executeSealed_19 (by decide) (by omega) (by omega) (fun c19 => ?_) (fun c19 => ?_) | refine mn_icmp_lt (t := 24) d_Re_executeSealed_19 (by decide) (by omega) (by omega) (fun c19 => ?_) (fun c19 => ?_) | refine nm_icmp_lt (t := 24) d_Re_executeSealed_19 (by decide) (by omega) (by omega) (fun c19 => ?_) (fun c19 => ?_) | refine j_icmp_lt (t := 24) d_Re_executeSealed_19 (by decide) (fun c19 => ?_) (fun c19 => ?_)
    · exact absurd ⟨c7, c19⟩ h
    · refine j_iconst (v := nI 0) d_Re_executeSealed_22 (by decide +kernel) ?_
      exact j_zret d_Re_executeSealed_23 rfl (by decide +kernel) ⟨rfl, rfl⟩
