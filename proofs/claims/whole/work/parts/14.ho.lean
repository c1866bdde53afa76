/-! Holdings (g_ho.py) -/
theorem bd_U {σ : Sg} {f a b v : Nat} (hb : bd σ) (hv : v < 100000) : bd (U σ f a b v) := by
  intro f' a' b'
  by_cases e : f' = f
  · subst e
    rw [U_at]
    split
    · exact hv
    · exact hb _ _ _
  · rw [U_ne e]; exact hb _ _ _
/-- output n is an input of t -/
def inp (σ : Sg) (t n : Nat) : Prop := σ 1 0 t = n ∨ σ 2 0 t = n + 1
def inpD (σ : Sg) (t n : Nat) : Decidable (inp σ t n) := by unfold inp; exact inferInstance
/-- output n is made by t -/
def mad (σ : Sg) (t n : Nat) : Prop := 4 ≤ n ∧ (n - 4) / 2 = t ∧ 0 < σ 4 0 n
noncomputable def ifP {α : Type} (P : Prop) (a b : α) : α := @ite α P (Classical.propDecidable P) a b
theorem ifP_t {α : Type} {P : Prop} {a b : α} (h : P) : ifP P a b = a := @if_pos P (Classical.propDecidable P) h α a b
theorem ifP_f {α : Type} {P : Prop} {a b : α} (h : ¬ P) : ifP P a b = b := @if_neg P (Classical.propDecidable P) h α a b
/-- the first j outputs of p's shard: one is an input and not unspent -/
def lkBad (σ : Sg) (p t j : Nat) : Prop := ∃ i, i < j ∧ inp σ t (p / 4 + 2 * i) ∧ ¬ σ 8 p (p / 4 + 2 * i) = 1
noncomputable def exLk (σ : Sg) (p t : Nat) : Nat → Sg
  | 0 => σ
  | j + 1 => ifP (inp σ t (p / 4 + 2 * j)) (U (U (exLk σ p t j) 8 p (p / 4 + 2 * j) 2) 9 p (p / 4 + 2 * j) t) (exLk σ p t j)
noncomputable def exSp (σ : Sg) (p t : Nat) : Nat → Sg
  | 0 => σ
  | j + 1 => ifP (inp σ t (p / 4 + 2 * j)) (U (exSp σ p t j) 8 p (p / 4 + 2 * j) 3) (ifP (mad σ t (p / 4 + 2 * j)) (U (exSp σ p t j) 8 p (p / 4 + 2 * j) 1) (exSp σ p t j))
noncomputable def exFr (σ : Sg) (p t : Nat) : Nat → Sg
  | 0 => σ
  | j + 1 => ifP (inp σ t (p / 4 + 2 * j) ∧ exFr σ p t j 8 p (p / 4 + 2 * j) = 2 ∧ exFr σ p t j 9 p (p / 4 + 2 * j) = t) (U (exFr σ p t j) 8 p (p / 4 + 2 * j) 1) (exFr σ p t j)
theorem exLk_ne {σ : Sg} {p t f : Nat} (h8 : f ≠ 8) (h9 : f ≠ 9) : ∀ j, exLk σ p t j f = σ f
  | 0 => rfl
  | j + 1 => by
    unfold exLk
    by_cases h : inp σ t (p / 4 + 2 * j)
    · rw [ifP_t h, U_ne h9, U_ne h8]; exact exLk_ne h8 h9 j
    · rw [ifP_f h]; exact exLk_ne h8 h9 j
theorem exSp_ne {σ : Sg} {p t f : Nat} (h8 : f ≠ 8) : ∀ j, exSp σ p t j f = σ f
  | 0 => rfl
  | j + 1 => by
    unfold exSp
    by_cases h : inp σ t (p / 4 + 2 * j)
    · rw [ifP_t h, U_ne h8]; exact exSp_ne h8 j
    · rw [ifP_f h]
      by_cases h' : mad σ t (p / 4 + 2 * j)
      · rw [ifP_t h', U_ne h8]; exact exSp_ne h8 j
      · rw [ifP_f h']; exact exSp_ne h8 j
theorem exFr_ne {σ : Sg} {p t f : Nat} (h8 : f ≠ 8) : ∀ j, exFr σ p t j f = σ f
  | 0 => rfl
  | j + 1 => by
    unfold exFr
    by_cases h : inp σ t (p / 4 + 2 * j) ∧ exFr σ p t j 8 p (p / 4 + 2 * j) = 2 ∧ exFr σ p t j 9 p (p / 4 + 2 * j) = t
    · rw [ifP_t h, U_ne h8]; exact exFr_ne h8 j
    · rw [ifP_f h]; exact exFr_ne h8 j
theorem exLk_bd {σ : Sg} {p t : Nat} (hb : bd σ) (ht : t < 100000) : ∀ j, bd (exLk σ p t j)
  | 0 => hb
  | j + 1 => by
    unfold exLk
    by_cases h : inp σ t (p / 4 + 2 * j)
    · rw [ifP_t h]; exact bd_U (bd_U (exLk_bd hb ht j) (by decide)) ht
    · rw [ifP_f h]; exact exLk_bd hb ht j
theorem exSp_bd {σ : Sg} {p t : Nat} (hb : bd σ) : ∀ j, bd (exSp σ p t j)
  | 0 => hb
  | j + 1 => by
    unfold exSp
    by_cases h : inp σ t (p / 4 + 2 * j)
    · rw [ifP_t h]; exact bd_U (exSp_bd hb j) (by decide)
    · rw [ifP_f h]
      by_cases h' : mad σ t (p / 4 + 2 * j)
      · rw [ifP_t h']; exact bd_U (exSp_bd hb j) (by decide)
      · rw [ifP_f h']; exact exSp_bd hb j
theorem exFr_bd {σ : Sg} {p t : Nat} (hb : bd σ) : ∀ j, bd (exFr σ p t j)
  | 0 => hb
  | j + 1 => by
    unfold exFr
    by_cases h : inp σ t (p / 4 + 2 * j) ∧ exFr σ p t j 8 p (p / 4 + 2 * j) = 2 ∧ exFr σ p t j 9 p (p / 4 + 2 * j) = t
    · rw [ifP_t h]; exact bd_U (exFr_bd hb j) (by decide)
    · rw [ifP_f h]; exact exFr_bd hb j
/-- the sum of the amounts of what is unspent or locked, of the first j outputs of p's shard -/
def wsum (σ : Sg) (p : Nat) : Nat → Nat
  | 0 => 0
  | j + 1 => wsum σ p j + (if σ 8 p (p / 4 + 2 * j) = 1 ∨ σ 8 p (p / 4 + 2 * j) = 2 then σ 4 0 (p / 4 + 2 * j) else 0)
theorem wsum_le {σ : Sg} (hb : bd σ) (p : Nat) : ∀ j, wsum σ p j ≤ 100000 * j
  | 0 => Nat.le_refl _
  | j + 1 => by
    have h1 := wsum_le hb p j
    have h2 := hb 4 0 (p / 4 + 2 * j)
    unfold wsum
    split <;> omega

set_option maxHeartbeats 4000000 in
set_option maxRecDepth 100000 in
theorem t_Ho_stateOf {l : Launch} {D : va_G} {B nx : Nat} {σ : Sg} {κ : Kp} {g : Nat → Option va_E} {p : Nat} (hp : p < 8) (hb : bd σ) (n : Nat) (hn : n < 20) : jM (G0 l D) m_Ho_stateOf 0 0 0 [.ref (aP B p + 0), .int (nI n)] (hC D B σ κ g, nx) (fun v h => v = some (.int (if n % 2 = p / 4 then nI (σ 8 p n) else mI 0)) ∧ h = (hC D B σ κ g, nx)) := by
  refine jM.of (by decide +kernel) (Nat.le_of_ble_eq_true rfl) rfl ?_
  refine j_iload_n d_Ho_stateOf_0 rfl ?_
  first | refine m_if_lt (t := 29) d_Ho_stateOf_1 (by decide) (by omega) (fun c1 => ?_) (fun c1 => ?_) | refine n_if_lt (t := 29) d_Ho_stateOf_1 (by decide) (by omega) (fun c1 => ?_) (fun c1 => ?_) | refine j_if_lt (t := 29) d_Ho_stateOf_1 (by decide) (fun c1 => ?_) (fun c1 => ?_)
  · exfalso; first | exact c1 | omega
  · refine j_iload_n d_Ho_stateOf_4 rfl ?_
    refine j_bipush (v := nI 20) d_Ho_stateOf_5 (by decide +kernel) ?_
    first | refine nn_icmp_ge (t := 29) d_Ho_stateOf_7 (by decide) (by omega) (by omega) (fun c7 => ?_) (fun c7 => ?_) | refine mm_icmp_ge (t := 29) d_Ho_stateOf_7 (by decide) (by omega) (by omega) (fun c7 => ?_) (fun c7 => ?_) | refine mn_icmp_ge (t := 29) d_Ho_stateOf_7 (by decide) (by omega) (by omega) (fun c7 => ?_) (fun c7 => ?_) | refine nm_icmp_ge (t := 29) d_Ho_stateOf_7 (by decide) (by omega) (by omega) (fun c7 => ?_) (fun c7 => ?_) | refine j_icmp_ge (t := 29) d_Ho_stateOf_7 (by decide) (fun c7 => ?_) (fun c7 => ?_)
    · exfalso; first | exact c7 | omega
    · refine j_iload_n d_Ho_stateOf_10 rfl ?_
      refine j_iconst (v := nI 2) d_Ho_stateOf_11 (by decide +kernel) ?_
      refine jn_irem d_Ho_stateOf_12 (by omega) (by decide) (by decide) ?_
      first | refine j_aload_n d_Ho_stateOf_13 rfl ?_ | refine j_aload_nq d_Ho_stateOf_13 rfl ?_ | refine j_aload_nN d_Ho_stateOf_13 rfl ?_
      refine j_get d_Ho_stateOf_14 f_Ho_18 (hC_p hp (by decide)) rfl ?_
      first | refine nn_icmp_ne (t := 29) d_Ho_stateOf_17 (by decide) (by omega) (by omega) (fun c17 => ?_) (fun c17 => ?_) | refine mm_icmp_ne (t := 29) d_Ho_stateOf_17 (by decide) (by omega) (by omega) (fun c17 => ?_) (fun c17 => ?_) | refine mn_icmp_ne (t := 29) d_Ho_stateOf_17 (by decide) (by omega) (by omega) (fun c17 => ?_) (fun c17 => ?_) | refine nm_icmp_ne (t := 29) d_Ho_stateOf_17 (by decide) (by omega) (by omega) (fun c17 => ?_) (fun c17 => ?_) | refine j_icmp_ne (t := 29) d_Ho_stateOf_17 (by decide) (fun c17 => ?_) (fun c17 => ?_)
      · refine j_iconst (v := mI 0) d_Ho_stateOf_29 (by decide +kernel) ?_
        exact j_iret d_Ho_stateOf_30 rfl ⟨by rw [if_neg c17], rfl⟩
      · first | refine j_aload_n d_Ho_stateOf_20 rfl ?_ | refine j_aload_nq d_Ho_stateOf_20 rfl ?_ | refine j_aload_nN d_Ho_stateOf_20 rfl ?_
        refine j_get d_Ho_stateOf_21 f_Ho_9 (hC_p hp (by decide)) rfl ?_
        refine j_iload_n d_Ho_stateOf_24 rfl ?_
        refine j_iald (t := 0) d_Ho_stateOf_25 rfl (hC_p hp (by decide)) rfl (by omega) (by decide) ?_
        refine j_goto (t := 30) d_Ho_stateOf_26 (by decide) ?_
        exact j_iret d_Ho_stateOf_30 rfl ⟨by rw [if_pos c17], rfl⟩

set_option maxHeartbeats 4000000 in
set_option maxRecDepth 100000 in
theorem t_Ho_stateOfO {l : Launch} {D : va_G} {B nx : Nat} {σ : Sg} {κ : Kp} {g : Nat → Option va_E} {p : Nat} (hp : p < 8) (hb : bd σ) (x : Int32) (hx : ¬ inr x 20) : jM (G0 l D) m_Ho_stateOf 0 0 0 [.ref (aP B p + 0), .int x] (hC D B σ κ g, nx) (fun v h => v = some (.int (mI 0)) ∧ h = (hC D B σ κ g, nx)) := by
  refine jM.of (by decide +kernel) (Nat.le_of_ble_eq_true rfl) rfl ?_
  refine j_iload_n d_Ho_stateOf_0 rfl ?_
  first | refine m_if_lt (t := 29) d_Ho_stateOf_1 (by decide) (by omega) (fun c1 => ?_) (fun c1 => ?_) | refine n_if_lt (t := 29) d_Ho_stateOf_1 (by decide) (by omega) (fun c1 => ?_) (fun c1 => ?_) | refine j_if_lt (t := 29) d_Ho_stateOf_1 (by decide) (fun c1 => ?_) (fun c1 => ?_)
  · refine j_iconst (v := mI 0) d_Ho_stateOf_29 (by decide +kernel) ?_
    exact j_iret d_Ho_stateOf_30 rfl ⟨rfl, rfl⟩
  · refine j_iload_n d_Ho_stateOf_4 rfl ?_
    refine j_bipush (v := nI 20) d_Ho_stateOf_5 (by decide +kernel) ?_
    first | refine nn_icmp_ge (t := 29) d_Ho_stateOf_7 (by decide) (by omega) (by omega) (fun c7 => ?_) (fun c7 => ?_) | refine mm_icmp_ge (t := 29) d_Ho_stateOf_7 (by decide) (by omega) (by omega) (fun c7 => ?_) (fun c7 => ?_) | refine mn_icmp_ge (t := 29) d_Ho_stateOf_7 (by decide) (by omega) (by omega) (fun c7 => ?_) (fun c7 => ?_) | refine nm_icmp_ge (t := 29) d_Ho_stateOf_7 (by decide) (by omega) (by omega) (fun c7 => ?_) (fun c7 => ?_) | refine j_icmp_ge (t := 29) d_Ho_stateOf_7 (by decide) (fun c7 => ?_) (fun c7 => ?_)
    · refine j_iconst (v := mI 0) d_Ho_stateOf_29 (by decide +kernel) ?_
      exact j_iret d_Ho_stateOf_30 rfl ⟨rfl, rfl⟩
    · exact absurd ⟨c1, c7⟩ hx

set_option maxHeartbeats 4000000 in
set_option maxRecDepth 100000 in
theorem lp_Ho_worth {l : Launch} {D : va_G} {B nx : Nat} {σ : Sg} {κ : Kp} {g : Nat → Option va_E} {p : Nat} (hp : p < 8) (hb : bd σ) : ∀ (m : Nat) (c j n : Nat), j ≤ 10 → 10 - j < m → n = p / 4 + 2 * j → c = wsum σ p j → J (G0 l D) jT m_Ho_worth 1 (fun v h => v = some (.int (nI (wsum σ p 10))) ∧ h = (hC D B σ κ g, nx)) 0 0 7 [some (.ref (aP B p + 0)), some (.int (nI c)), some (.int (nI n))] [] (hC D B σ κ g, nx) := by
  intro m
  induction m with
  | zero =>
    intros
    exfalso
    omega
  | succ m ih =>
    intro c j n h1 h2 hn hc
    have b8 := hb 8 p n
    have bw := wsum_le hb p j
    refine j_iload_n d_Ho_worth_7 rfl ?_
    refine j_bipush (v := nI 20) d_Ho_worth_8 (by decide +kernel) ?_
    first | refine nn_icmp_ge (t := 50) d_Ho_worth_10 (by decide) (by omega) (by omega) (fun c10 => ?_) (fun c10 => ?_) | refine mm_icmp_ge (t := 50) d_Ho_worth_10 (by decide) (by omega) (by omega) (fun c10 => ?_) (fun c10 => ?_) | refine mn_icmp_ge (t := 50) d_Ho_worth_10 (by decide) (by omega) (by omega) (fun c10 => ?_) (fun c10 => ?_) | refine nm_icmp_ge (t := 50) d_Ho_worth_10 (by decide) (by omega) (by omega) (fun c10 => ?_) (fun c10 => ?_) | refine j_icmp_ge (t := 50) d_Ho_worth_10 (by decide) (fun c10 => ?_) (fun c10 => ?_)
    · refine j_iload_n d_Ho_worth_50 rfl ?_
      have hj : j = 10 := by omega
      subst hj
      exact j_iret d_Ho_worth_51 rfl ⟨by rw [hc], rfl⟩
    · first | refine j_aload_n d_Ho_worth_13 rfl ?_ | refine j_aload_nq d_Ho_worth_13 rfl ?_ | refine j_aload_nN d_Ho_worth_13 rfl ?_
      refine j_get d_Ho_worth_14 f_Ho_9 (hC_p hp (by decide)) rfl ?_
      refine j_iload_n d_Ho_worth_17 rfl ?_
      refine j_iald (t := 0) d_Ho_worth_18 rfl (hC_p hp (by decide)) rfl (by omega) (by decide) ?_
      refine j_iconst (v := nI 1) d_Ho_worth_19 (by decide +kernel) ?_
      first | refine nn_icmp_eq (t := 33) d_Ho_worth_20 (by decide) (by omega) (by omega) (fun c20 => ?_) (fun c20 => ?_) | refine mm_icmp_eq (t := 33) d_Ho_worth_20 (by decide) (by omega) (by omega) (fun c20 => ?_) (fun c20 => ?_) | refine mn_icmp_eq (t := 33) d_Ho_worth_20 (by decide) (by omega) (by omega) (fun c20 => ?_) (fun c20 => ?_) | refine nm_icmp_eq (t := 33) d_Ho_worth_20 (by decide) (by omega) (by omega) (fun c20 => ?_) (fun c20 => ?_) | refine j_icmp_eq (t := 33) d_Ho_worth_20 (by decide) (fun c20 => ?_) (fun c20 => ?_)
      · refine j_iload_n d_Ho_worth_33 rfl ?_
        first | refine j_aload_n d_Ho_worth_34 rfl ?_ | refine j_aload_nq d_Ho_worth_34 rfl ?_ | refine j_aload_nN d_Ho_worth_34 rfl ?_
        refine j_get d_Ho_worth_35 f_Ho_22 (hC_p hp (by decide)) rfl ?_
        refine j_iload_n d_Ho_worth_38 rfl ?_
        refine j_callV0 (As := [_]) G0_good G0_E d_Ho_worth_39 c_Ho_26 rfl rfl (t_Tb_amountOf n (by omega)) (hC_t (by decide)) rfl rfl (by decide) (Nat.le_of_ble_eq_true rfl) ?_
        rintro _ _ ⟨rfl, rfl⟩
        refine jn_iadd d_Ho_worth_42 ?_
        refine j_istore_n d_Ho_worth_43 (by decide) rfl rfl ?_
        refine n_iinc (k := 2) d_Ho_worth_44 (by decide +kernel) rfl (by decide) rfl rfl ?_
        refine j_goto (t := 7) d_Ho_worth_47 (by decide) ?_
        exact ih _ (j + 1) _ (by omega) (by omega) (by omega) (by rw [wsum, ← hn, if_pos (Or.inl c20), hc])
      · first | refine j_aload_n d_Ho_worth_23 rfl ?_ | refine j_aload_nq d_Ho_worth_23 rfl ?_ | refine j_aload_nN d_Ho_worth_23 rfl ?_
        refine j_get d_Ho_worth_24 f_Ho_9 (hC_p hp (by decide)) rfl ?_
        refine j_iload_n d_Ho_worth_27 rfl ?_
        refine j_iald (t := 0) d_Ho_worth_28 rfl (hC_p hp (by decide)) rfl (by omega) (by decide) ?_
        refine j_iconst (v := nI 2) d_Ho_worth_29 (by decide +kernel) ?_
        first | refine nn_icmp_ne (t := 44) d_Ho_worth_30 (by decide) (by omega) (by omega) (fun c30 => ?_) (fun c30 => ?_) | refine mm_icmp_ne (t := 44) d_Ho_worth_30 (by decide) (by omega) (by omega) (fun c30 => ?_) (fun c30 => ?_) | refine mn_icmp_ne (t := 44) d_Ho_worth_30 (by decide) (by omega) (by omega) (fun c30 => ?_) (fun c30 => ?_) | refine nm_icmp_ne (t := 44) d_Ho_worth_30 (by decide) (by omega) (by omega) (fun c30 => ?_) (fun c30 => ?_) | refine j_icmp_ne (t := 44) d_Ho_worth_30 (by decide) (fun c30 => ?_) (fun c30 => ?_)
        · refine n_iinc (k := 2) d_Ho_worth_44 (by decide +kernel) rfl (by decide) rfl rfl ?_
          refine j_goto (t := 7) d_Ho_worth_47 (by decide) ?_
          exact ih _ (j + 1) _ (by omega) (by omega) (by omega) (by rw [wsum, ← hn, if_neg (by omega), Nat.add_zero, hc])
        · refine j_iload_n d_Ho_worth_33 rfl ?_
          first | refine j_aload_n d_Ho_worth_34 rfl ?_ | refine j_aload_nq d_Ho_worth_34 rfl ?_ | refine j_aload_nN d_Ho_worth_34 rfl ?_
          refine j_get d_Ho_worth_35 f_Ho_22 (hC_p hp (by decide)) rfl ?_
          refine j_iload_n d_Ho_worth_38 rfl ?_
          refine j_callV0 (As := [_]) G0_good G0_E d_Ho_worth_39 c_Ho_26 rfl rfl (t_Tb_amountOf n (by omega)) (hC_t (by decide)) rfl rfl (by decide) (Nat.le_of_ble_eq_true rfl) ?_
          rintro _ _ ⟨rfl, rfl⟩
          refine jn_iadd d_Ho_worth_42 ?_
          refine j_istore_n d_Ho_worth_43 (by decide) rfl rfl ?_
          refine n_iinc (k := 2) d_Ho_worth_44 (by decide +kernel) rfl (by decide) rfl rfl ?_
          refine j_goto (t := 7) d_Ho_worth_47 (by decide) ?_
          exact ih _ (j + 1) _ (by omega) (by omega) (by omega) (by rw [wsum, ← hn, if_pos (Or.inr c30), hc])

set_option maxHeartbeats 4000000 in
set_option maxRecDepth 100000 in
theorem t_Ho_worth {l : Launch} {D : va_G} {B nx : Nat} {σ : Sg} {κ : Kp} {g : Nat → Option va_E} {p : Nat} (hp : p < 8) (hb : bd σ) : jM (G0 l D) m_Ho_worth 1 0 0 [.ref (aP B p + 0)] (hC D B σ κ g, nx) (fun v h => v = some (.int (nI (wsum σ p 10))) ∧ h = (hC D B σ κ g, nx)) := by
  refine jM.of (by decide +kernel) (Nat.le_of_ble_eq_true rfl) rfl ?_
  refine j_iconst (v := nI 0) d_Ho_worth_0 (by decide +kernel) ?_
  refine j_istore_n d_Ho_worth_1 (by decide) rfl rfl ?_
  first | refine j_aload_n d_Ho_worth_2 rfl ?_ | refine j_aload_nq d_Ho_worth_2 rfl ?_ | refine j_aload_nN d_Ho_worth_2 rfl ?_
  refine j_get d_Ho_worth_3 f_Ho_18 (hC_p hp (by decide)) rfl ?_
  refine j_istore_n d_Ho_worth_6 (by decide) rfl rfl ?_
  exact lp_Ho_worth hp hb 11 0 0 (p / 4) (by omega) (by omega) (by omega) rfl

set_option maxHeartbeats 4000000 in
set_option maxRecDepth 100000 in
theorem lp_Ho_lock2 {l : Launch} {D : va_G} {B nx : Nat} {σ : Sg} {κ : Kp} {g : Nat → Option va_E} {p : Nat} (hp : p < 8) (hb : bd σ) (h8 : σ 33 0 0 ≤ 8) (t : Nat) (ht : t < σ 33 0 0) (hnb : ¬ lkBad σ p t 10) : ∀ (m : Nat) (j n : Nat), j ≤ 10 → 10 - j < m → n = p / 4 + 2 * j → J (G0 l D) jT m_Ho_lockInputs 1 (fun v h => (lkBad σ p t 10 ∧ v = some (.int (nI 2)) ∧ h = (hC D B σ κ g, nx)) ∨ (¬ lkBad σ p t 10 ∧ v = some (.int (nI 1)) ∧ h = (hC D B (exLk σ p t 10) κ g, nx))) 0 0 46 [some (.ref (aP B p + 0)), some (.int (nI t)), some (.int (nI n))] [] (hC D B (exLk σ p t j) κ g, nx) := by
  intro m
  induction m with
  | zero =>
    intros
    exfalso
    omega
  | succ m ih =>
    intro j n h1 h2 hn
    have hbj := exLk_bd (p := p) hb (show t < 100000 by omega) j
    refine j_iload_n d_Ho_lockInputs_46 rfl ?_
    refine j_bipush (v := nI 20) d_Ho_lockInputs_47 (by decide +kernel) ?_
    first | refine nn_icmp_ge (t := 84) d_Ho_lockInputs_49 (by decide) (by omega) (by omega) (fun c49 => ?_) (fun c49 => ?_) | refine mm_icmp_ge (t := 84) d_Ho_lockInputs_49 (by decide) (by omega) (by omega) (fun c49 => ?_) (fun c49 => ?_) | refine mn_icmp_ge (t := 84) d_Ho_lockInputs_49 (by decide) (by omega) (by omega) (fun c49 => ?_) (fun c49 => ?_) | refine nm_icmp_ge (t := 84) d_Ho_lockInputs_49 (by decide) (by omega) (by omega) (fun c49 => ?_) (fun c49 => ?_) | refine j_icmp_ge (t := 84) d_Ho_lockInputs_49 (by decide) (fun c49 => ?_) (fun c49 => ?_)
    · refine j_iconst (v := nI 1) d_Ho_lockInputs_84 (by decide +kernel) ?_
      have hj : j = 10 := by omega
      subst hj
      exact j_iret d_Ho_lockInputs_85 rfl (Or.inr ⟨hnb, rfl, rfl⟩)
    · first | refine j_aload_n d_Ho_lockInputs_52 rfl ?_ | refine j_aload_nq d_Ho_lockInputs_52 rfl ?_ | refine j_aload_nN d_Ho_lockInputs_52 rfl ?_
      refine j_get d_Ho_lockInputs_53 f_Ho_22 (hC_p hp (by decide)) rfl ?_
      refine j_iload_n d_Ho_lockInputs_56 rfl ?_
      refine j_iload_n d_Ho_lockInputs_57 rfl ?_
      refine j_callV0 (As := [_, _]) G0_good G0_E d_Ho_lockInputs_58 c_Ho_41 rfl rfl (t_Tb_isInput hbj (by rw [exLk_ne (by decide) (by decide)]; exact h8) t n (by rw [exLk_ne (by decide) (by decide)]; exact ht) (by omega)) (hC_t (by decide)) rfl rfl (by decide) (Nat.le_of_ble_eq_true rfl) ?_
      rintro _ _ ⟨rfl, rfl⟩
      first | refine c_if_eq (t := 78) d_Ho_lockInputs_61 (by decide) (fun c61 => ?_) (fun c61 => ?_) | refine n_if_eq (t := 78) d_Ho_lockInputs_61 (by decide) (by omega) (fun c61 => ?_) (fun c61 => ?_) | refine j_if_eq (t := 78) d_Ho_lockInputs_61 (by decide) (fun c61 => ?_) (fun c61 => ?_)
      · refine n_iinc (k := 2) d_Ho_lockInputs_78 (by decide +kernel) rfl (by decide) rfl rfl ?_
        refine j_goto (t := 46) d_Ho_lockInputs_81 (by decide) ?_
        rw [show exLk σ p t j = exLk σ p t (j + 1) by rw [exLk, ← hn, ifP_f (fun q => c61 (by rw [exLk_ne (by decide) (by decide), exLk_ne (by decide) (by decide)]; exact q))]]
        exact ih (j + 1) _ (by omega) (by omega) (by omega)
      · first | refine j_aload_n d_Ho_lockInputs_64 rfl ?_ | refine j_aload_nq d_Ho_lockInputs_64 rfl ?_ | refine j_aload_nN d_Ho_lockInputs_64 rfl ?_
        refine j_get d_Ho_lockInputs_65 f_Ho_9 (hC_p hp (by decide)) rfl ?_
        refine j_iload_n d_Ho_lockInputs_68 rfl ?_
        refine j_iconst (v := nI 2) d_Ho_lockInputs_69 (by decide +kernel) ?_
        refine j_iast (t := 0) d_Ho_lockInputs_70 rfl (hC_p hp (by decide)) rfl (by omega) (by decide) (J.hq (w8 hp) ?_)
        first | refine j_aload_n d_Ho_lockInputs_71 rfl ?_ | refine j_aload_nq d_Ho_lockInputs_71 rfl ?_ | refine j_aload_nN d_Ho_lockInputs_71 rfl ?_
        refine j_get d_Ho_lockInputs_72 f_Ho_15 (hC_p hp (by decide)) rfl ?_
        refine j_iload_n d_Ho_lockInputs_75 rfl ?_
        refine j_iload_n d_Ho_lockInputs_76 rfl ?_
        refine j_iast (t := 0) d_Ho_lockInputs_77 rfl (hC_p hp (by decide)) rfl (by omega) (by decide) (J.hq (w9 hp) ?_)
        refine n_iinc (k := 2) d_Ho_lockInputs_78 (by decide +kernel) rfl (by decide) rfl rfl ?_
        refine j_goto (t := 46) d_Ho_lockInputs_81 (by decide) ?_
        rw [show U (U (exLk σ p t j) 8 p n 2) 9 p n t = exLk σ p t (j + 1) by rw [exLk, ← hn, ifP_t (by rw [exLk_ne (by decide) (by decide), exLk_ne (by decide) (by decide)] at c61; exact c61)]]
        exact ih (j + 1) _ (by omega) (by omega) (by omega)

theorem lkb_or {σ : Sg} {p t j : Nat} (q : lkBad σ p t (j + 1)) (h : ¬ (inp σ t (p / 4 + 2 * j) ∧ ¬ σ 8 p (p / 4 + 2 * j) = 1)) : lkBad σ p t j := by
  obtain ⟨i, hi, h1, h2⟩ := q
  by_cases e : i = j
  · subst e; exact absurd ⟨h1, h2⟩ h
  · exact ⟨i, by omega, h1, h2⟩

set_option maxHeartbeats 4000000 in
set_option maxRecDepth 100000 in
theorem lp_Ho_lock1 {l : Launch} {D : va_G} {B nx : Nat} {σ : Sg} {κ : Kp} {g : Nat → Option va_E} {p : Nat} (hp : p < 8) (hb : bd σ) (h8 : σ 33 0 0 ≤ 8) (t : Nat) (ht : t < σ 33 0 0) : ∀ (m : Nat) (j n : Nat), j ≤ 10 → 10 - j < m → n = p / 4 + 2 * j → ¬ lkBad σ p t j → J (G0 l D) jT m_Ho_lockInputs 1 (fun v h => (lkBad σ p t 10 ∧ v = some (.int (nI 2)) ∧ h = (hC D B σ κ g, nx)) ∨ (¬ lkBad σ p t 10 ∧ v = some (.int (nI 1)) ∧ h = (hC D B (exLk σ p t 10) κ g, nx))) 0 0 5 [some (.ref (aP B p + 0)), some (.int (nI t)), some (.int (nI n))] [] (hC D B σ κ g, nx) := by
  intro m
  induction m with
  | zero =>
    intros
    exfalso
    omega
  | succ m ih =>
    intro j n h1 h2 hn nb
    have b8 := hb 8 p n
    refine j_iload_n d_Ho_lockInputs_5 rfl ?_
    refine j_bipush (v := nI 20) d_Ho_lockInputs_6 (by decide +kernel) ?_
    first | refine nn_icmp_ge (t := 41) d_Ho_lockInputs_8 (by decide) (by omega) (by omega) (fun c8 => ?_) (fun c8 => ?_) | refine mm_icmp_ge (t := 41) d_Ho_lockInputs_8 (by decide) (by omega) (by omega) (fun c8 => ?_) (fun c8 => ?_) | refine mn_icmp_ge (t := 41) d_Ho_lockInputs_8 (by decide) (by omega) (by omega) (fun c8 => ?_) (fun c8 => ?_) | refine nm_icmp_ge (t := 41) d_Ho_lockInputs_8 (by decide) (by omega) (by omega) (fun c8 => ?_) (fun c8 => ?_) | refine j_icmp_ge (t := 41) d_Ho_lockInputs_8 (by decide) (fun c8 => ?_) (fun c8 => ?_)
    · first | refine j_aload_n d_Ho_lockInputs_41 rfl ?_ | refine j_aload_nq d_Ho_lockInputs_41 rfl ?_ | refine j_aload_nN d_Ho_lockInputs_41 rfl ?_
      refine j_get d_Ho_lockInputs_42 f_Ho_18 (hC_p hp (by decide)) rfl ?_
      refine j_istore_n d_Ho_lockInputs_45 (by decide) rfl rfl ?_
      have hj : j = 10 := by omega
      subst hj
      exact lp_Ho_lock2 hp hb h8 t ht nb 11 0 (p / 4) (by omega) (by omega) (by omega)
    · first | refine j_aload_n d_Ho_lockInputs_11 rfl ?_ | refine j_aload_nq d_Ho_lockInputs_11 rfl ?_ | refine j_aload_nN d_Ho_lockInputs_11 rfl ?_
      refine j_get d_Ho_lockInputs_12 f_Ho_22 (hC_p hp (by decide)) rfl ?_
      refine j_iload_n d_Ho_lockInputs_15 rfl ?_
      refine j_iload_n d_Ho_lockInputs_16 rfl ?_
      refine j_callV0 (As := [_, _]) G0_good G0_E d_Ho_lockInputs_17 c_Ho_41 rfl rfl (t_Tb_isInput hb h8 t n ht (by omega)) (hC_t (by decide)) rfl rfl (by decide) (Nat.le_of_ble_eq_true rfl) ?_
      rintro _ _ ⟨rfl, rfl⟩
      first | refine c_if_eq (t := 35) d_Ho_lockInputs_20 (by decide) (fun c20 => ?_) (fun c20 => ?_) | refine n_if_eq (t := 35) d_Ho_lockInputs_20 (by decide) (by omega) (fun c20 => ?_) (fun c20 => ?_) | refine j_if_eq (t := 35) d_Ho_lockInputs_20 (by decide) (fun c20 => ?_) (fun c20 => ?_)
      · refine n_iinc (k := 2) d_Ho_lockInputs_35 (by decide +kernel) rfl (by decide) rfl rfl ?_
        refine j_goto (t := 5) d_Ho_lockInputs_38 (by decide) ?_
        exact ih (j + 1) _ (by omega) (by omega) (by omega) (fun q => nb (lkb_or q (fun z => c20 (by rw [hn]; exact z.1))))
      · first | refine j_aload_n d_Ho_lockInputs_23 rfl ?_ | refine j_aload_nq d_Ho_lockInputs_23 rfl ?_ | refine j_aload_nN d_Ho_lockInputs_23 rfl ?_
        refine j_get d_Ho_lockInputs_24 f_Ho_9 (hC_p hp (by decide)) rfl ?_
        refine j_iload_n d_Ho_lockInputs_27 rfl ?_
        refine j_iald (t := 0) d_Ho_lockInputs_28 rfl (hC_p hp (by decide)) rfl (by omega) (by decide) ?_
        refine j_iconst (v := nI 1) d_Ho_lockInputs_29 (by decide +kernel) ?_
        first | refine nn_icmp_eq (t := 35) d_Ho_lockInputs_30 (by decide) (by omega) (by omega) (fun c30 => ?_) (fun c30 => ?_) | refine mm_icmp_eq (t := 35) d_Ho_lockInputs_30 (by decide) (by omega) (by omega) (fun c30 => ?_) (fun c30 => ?_) | refine mn_icmp_eq (t := 35) d_Ho_lockInputs_30 (by decide) (by omega) (by omega) (fun c30 => ?_) (fun c30 => ?_) | refine nm_icmp_eq (t := 35) d_Ho_lockInputs_30 (by decide) (by omega) (by omega) (fun c30 => ?_) (fun c30 => ?_) | refine j_icmp_eq (t := 35) d_Ho_lockInputs_30 (by decide) (fun c30 => ?_) (fun c30 => ?_)
        · refine n_iinc (k := 2) d_Ho_lockInputs_35 (by decide +kernel) rfl (by decide) rfl rfl ?_
          refine j_goto (t := 5) d_Ho_lockInputs_38 (by decide) ?_
          exact ih (j + 1) _ (by omega) (by omega) (by omega) (fun q => nb (lkb_or q (fun z => z.2 (by rw [← hn]; exact c30))))
        · refine j_iconst (v := nI 2) d_Ho_lockInputs_33 (by decide +kernel) ?_
          exact j_iret d_Ho_lockInputs_34 rfl (Or.inl ⟨⟨j, by omega, by rw [← hn]; exact c20, by rw [← hn]; exact c30⟩, rfl, rfl⟩)

set_option maxHeartbeats 4000000 in
set_option maxRecDepth 100000 in
theorem t_Ho_lockInputs {l : Launch} {D : va_G} {B nx : Nat} {σ : Sg} {κ : Kp} {g : Nat → Option va_E} {p : Nat} (hp : p < 8) (hb : bd σ) (h8 : σ 33 0 0 ≤ 8) (t : Nat) (ht : t < σ 33 0 0) : jM (G0 l D) m_Ho_lockInputs 1 0 0 [.ref (aP B p + 0), .int (nI t)] (hC D B σ κ g, nx) (fun v h => (lkBad σ p t 10 ∧ v = some (.int (nI 2)) ∧ h = (hC D B σ κ g, nx)) ∨ (¬ lkBad σ p t 10 ∧ v = some (.int (nI 1)) ∧ h = (hC D B (exLk σ p t 10) κ g, nx))) := by
  refine jM.of (by decide +kernel) (Nat.le_of_ble_eq_true rfl) rfl ?_
  first | refine j_aload_n d_Ho_lockInputs_0 rfl ?_ | refine j_aload_nq d_Ho_lockInputs_0 rfl ?_ | refine j_aload_nN d_Ho_lockInputs_0 rfl ?_
  refine j_get d_Ho_lockInputs_1 f_Ho_18 (hC_p hp (by decide)) rfl ?_
  refine j_istore_n d_Ho_lockInputs_4 (by decide) rfl rfl ?_
  exact lp_Ho_lock1 hp hb h8 t ht 11 0 (p / 4) (by omega) (by omega) (by omega) (fun ⟨i, hi, _⟩ => absurd hi (Nat.not_lt_zero _))

set_option maxHeartbeats 4000000 in
set_option maxRecDepth 100000 in
theorem lp_Ho_spend {l : Launch} {D : va_G} {B nx : Nat} {σ : Sg} {κ : Kp} {g : Nat → Option va_E} {p : Nat} (hp : p < 8) (hb : bd σ) (h8 : σ 33 0 0 ≤ 8) (t : Nat) (ht : t < σ 33 0 0) : ∀ (m : Nat) (j n : Nat), j ≤ 10 → 10 - j < m → n = p / 4 + 2 * j → J (G0 l D) jT m_Ho_spendInputs 1 (fun v h => v = some (.int (nI 1)) ∧ h = (hC D B (exSp σ p t 10) κ g, nx)) 0 0 5 [some (.ref (aP B p + 0)), some (.int (nI t)), some (.int (nI n))] [] (hC D B (exSp σ p t j) κ g, nx) := by
  intro m
  induction m with
  | zero =>
    intros
    exfalso
    omega
  | succ m ih =>
    intro j n h1 h2 hn
    have hbj := exSp_bd (p := p) (t := t) hb j
    refine j_iload_n d_Ho_spendInputs_5 rfl ?_
    refine j_bipush (v := nI 20) d_Ho_spendInputs_6 (by decide +kernel) ?_
    first | refine nn_icmp_ge (t := 58) d_Ho_spendInputs_8 (by decide) (by omega) (by omega) (fun c8 => ?_) (fun c8 => ?_) | refine mm_icmp_ge (t := 58) d_Ho_spendInputs_8 (by decide) (by omega) (by omega) (fun c8 => ?_) (fun c8 => ?_) | refine mn_icmp_ge (t := 58) d_Ho_spendInputs_8 (by decide) (by omega) (by omega) (fun c8 => ?_) (fun c8 => ?_) | refine nm_icmp_ge (t := 58) d_Ho_spendInputs_8 (by decide) (by omega) (by omega) (fun c8 => ?_) (fun c8 => ?_) | refine j_icmp_ge (t := 58) d_Ho_spendInputs_8 (by decide) (fun c8 => ?_) (fun c8 => ?_)
    · refine j_iconst (v := nI 1) d_Ho_spendInputs_58 (by decide +kernel) ?_
      have hj : j = 10 := by omega
      subst hj
      exact j_iret d_Ho_spendInputs_59 rfl ⟨rfl, rfl⟩
    · first | refine j_aload_n d_Ho_spendInputs_11 rfl ?_ | refine j_aload_nq d_Ho_spendInputs_11 rfl ?_ | refine j_aload_nN d_Ho_spendInputs_11 rfl ?_
      refine j_get d_Ho_spendInputs_12 f_Ho_22 (hC_p hp (by decide)) rfl ?_
      refine j_iload_n d_Ho_spendInputs_15 rfl ?_
      refine j_iload_n d_Ho_spendInputs_16 rfl ?_
      refine j_callV0 (As := [_, _]) G0_good G0_E d_Ho_spendInputs_17 c_Ho_41 rfl rfl (t_Tb_isInput hbj (by rw [exSp_ne (by decide)]; exact h8) t n (by rw [exSp_ne (by decide)]; exact ht) (by omega)) (hC_t (by decide)) rfl rfl (by decide) (Nat.le_of_ble_eq_true rfl) ?_
      rintro _ _ ⟨rfl, rfl⟩
      first | refine c_if_eq (t := 33) d_Ho_spendInputs_20 (by decide) (fun c20 => ?_) (fun c20 => ?_) | refine n_if_eq (t := 33) d_Ho_spendInputs_20 (by decide) (by omega) (fun c20 => ?_) (fun c20 => ?_) | refine j_if_eq (t := 33) d_Ho_spendInputs_20 (by decide) (fun c20 => ?_) (fun c20 => ?_)
      · first | refine j_aload_n d_Ho_spendInputs_33 rfl ?_ | refine j_aload_nq d_Ho_spendInputs_33 rfl ?_ | refine j_aload_nN d_Ho_spendInputs_33 rfl ?_
        refine j_get d_Ho_spendInputs_34 f_Ho_22 (hC_p hp (by decide)) rfl ?_
        refine j_iload_n d_Ho_spendInputs_37 rfl ?_
        refine j_iload_n d_Ho_spendInputs_38 rfl ?_
        refine j_callV0 (As := [_, _]) G0_good G0_E d_Ho_spendInputs_39 c_Ho_45 rfl rfl (t_Tb_isMade hbj t n (by omega) (by omega)) (hC_t (by decide)) rfl rfl (by decide) (Nat.le_of_ble_eq_true rfl) ?_
        rintro _ _ ⟨rfl, rfl⟩
        first | refine c_if_eq (t := 52) d_Ho_spendInputs_42 (by decide) (fun c42 => ?_) (fun c42 => ?_) | refine n_if_eq (t := 52) d_Ho_spendInputs_42 (by decide) (by omega) (fun c42 => ?_) (fun c42 => ?_) | refine j_if_eq (t := 52) d_Ho_spendInputs_42 (by decide) (fun c42 => ?_) (fun c42 => ?_)
        · refine n_iinc (k := 2) d_Ho_spendInputs_52 (by decide +kernel) rfl (by decide) rfl rfl ?_
          refine j_goto (t := 5) d_Ho_spendInputs_55 (by decide) ?_
          rw [show exSp σ p t j = exSp σ p t (j + 1) by rw [exSp, ← hn, ifP_f (fun q => c20 (by rw [exSp_ne (by decide), exSp_ne (by decide)]; exact q)), ifP_f (fun q => c42 (by rw [exSp_ne (by decide)]; exact q))]]
          exact ih (j + 1) _ (by omega) (by omega) (by omega)
        · first | refine j_aload_n d_Ho_spendInputs_45 rfl ?_ | refine j_aload_nq d_Ho_spendInputs_45 rfl ?_ | refine j_aload_nN d_Ho_spendInputs_45 rfl ?_
          refine j_get d_Ho_spendInputs_46 f_Ho_9 (hC_p hp (by decide)) rfl ?_
          refine j_iload_n d_Ho_spendInputs_49 rfl ?_
          refine j_iconst (v := nI 1) d_Ho_spendInputs_50 (by decide +kernel) ?_
          refine j_iast (t := 0) d_Ho_spendInputs_51 rfl (hC_p hp (by decide)) rfl (by omega) (by decide) (J.hq (w8 hp) ?_)
          refine n_iinc (k := 2) d_Ho_spendInputs_52 (by decide +kernel) rfl (by decide) rfl rfl ?_
          refine j_goto (t := 5) d_Ho_spendInputs_55 (by decide) ?_
          rw [show U (exSp σ p t j) 8 p n 1 = exSp σ p t (j + 1) by rw [exSp, ← hn, ifP_f (fun q => c20 (by rw [exSp_ne (by decide), exSp_ne (by decide)]; exact q)), ifP_t (by rw [exSp_ne (by decide)] at c42; exact c42)]]
          exact ih (j + 1) _ (by omega) (by omega) (by omega)
      · first | refine j_aload_n d_Ho_spendInputs_23 rfl ?_ | refine j_aload_nq d_Ho_spendInputs_23 rfl ?_ | refine j_aload_nN d_Ho_spendInputs_23 rfl ?_
        refine j_get d_Ho_spendInputs_24 f_Ho_9 (hC_p hp (by decide)) rfl ?_
        refine j_iload_n d_Ho_spendInputs_27 rfl ?_
        refine j_iconst (v := nI 3) d_Ho_spendInputs_28 (by decide +kernel) ?_
        refine j_iast (t := 0) d_Ho_spendInputs_29 rfl (hC_p hp (by decide)) rfl (by omega) (by decide) (J.hq (w8 hp) ?_)
        refine j_goto (t := 52) d_Ho_spendInputs_30 (by decide) ?_
        refine n_iinc (k := 2) d_Ho_spendInputs_52 (by decide +kernel) rfl (by decide) rfl rfl ?_
        refine j_goto (t := 5) d_Ho_spendInputs_55 (by decide) ?_
        rw [show U (exSp σ p t j) 8 p n 3 = exSp σ p t (j + 1) by rw [exSp, ← hn, ifP_t (by rw [exSp_ne (by decide), exSp_ne (by decide)] at c20; exact c20)]]
        exact ih (j + 1) _ (by omega) (by omega) (by omega)

set_option maxHeartbeats 4000000 in
set_option maxRecDepth 100000 in
theorem t_Ho_spendInputs {l : Launch} {D : va_G} {B nx : Nat} {σ : Sg} {κ : Kp} {g : Nat → Option va_E} {p : Nat} (hp : p < 8) (hb : bd σ) (h8 : σ 33 0 0 ≤ 8) (t : Nat) (ht : t < σ 33 0 0) : jM (G0 l D) m_Ho_spendInputs 1 0 0 [.ref (aP B p + 0), .int (nI t)] (hC D B σ κ g, nx) (fun v h => v = some (.int (nI 1)) ∧ h = (hC D B (exSp σ p t 10) κ g, nx)) := by
  refine jM.of (by decide +kernel) (Nat.le_of_ble_eq_true rfl) rfl ?_
  first | refine j_aload_n d_Ho_spendInputs_0 rfl ?_ | refine j_aload_nq d_Ho_spendInputs_0 rfl ?_ | refine j_aload_nN d_Ho_spendInputs_0 rfl ?_
  refine j_get d_Ho_spendInputs_1 f_Ho_18 (hC_p hp (by decide)) rfl ?_
  refine j_istore_n d_Ho_spendInputs_4 (by decide) rfl rfl ?_
  exact lp_Ho_spend hp hb h8 t ht 11 0 (p / 4) (by omega) (by omega) (by omega)

set_option maxHeartbeats 4000000 in
set_option maxRecDepth 100000 in
theorem lp_Ho_free {l : Launch} {D : va_G} {B nx : Nat} {σ : Sg} {κ : Kp} {g : Nat → Option va_E} {p : Nat} (hp : p < 8) (hb : bd σ) (h8 : σ 33 0 0 ≤ 8) (t : Nat) (ht : t < σ 33 0 0) : ∀ (m : Nat) (j n : Nat), j ≤ 10 → 10 - j < m → n = p / 4 + 2 * j → J (G0 l D) jT m_Ho_freeInputs 1 (fun v h => v = some (.int (nI 1)) ∧ h = (hC D B (exFr σ p t 10) κ g, nx)) 0 0 5 [some (.ref (aP B p + 0)), some (.int (nI t)), some (.int (nI n))] [] (hC D B (exFr σ p t j) κ g, nx) := by
  intro m
  induction m with
  | zero =>
    intros
    exfalso
    omega
  | succ m ih =>
    intro j n h1 h2 hn
    have hbj := exFr_bd (p := p) (t := t) hb j
    have b8 := hbj 8 p n
    have b9 := hbj 9 p n
    refine j_iload_n d_Ho_freeInputs_5 rfl ?_
    refine j_bipush (v := nI 20) d_Ho_freeInputs_6 (by decide +kernel) ?_
    first | refine nn_icmp_ge (t := 56) d_Ho_freeInputs_8 (by decide) (by omega) (by omega) (fun c8 => ?_) (fun c8 => ?_) | refine mm_icmp_ge (t := 56) d_Ho_freeInputs_8 (by decide) (by omega) (by omega) (fun c8 => ?_) (fun c8 => ?_) | refine mn_icmp_ge (t := 56) d_Ho_freeInputs_8 (by decide) (by omega) (by omega) (fun c8 => ?_) (fun c8 => ?_) | refine nm_icmp_ge (t := 56) d_Ho_freeInputs_8 (by decide) (by omega) (by omega) (fun c8 => ?_) (fun c8 => ?_) | refine j_icmp_ge (t := 56) d_Ho_freeInputs_8 (by decide) (fun c8 => ?_) (fun c8 => ?_)
    · refine j_iconst (v := nI 1) d_Ho_freeInputs_56 (by decide +kernel) ?_
      have hj : j = 10 := by omega
      subst hj
      exact j_iret d_Ho_freeInputs_57 rfl ⟨rfl, rfl⟩
    · first | refine j_aload_n d_Ho_freeInputs_11 rfl ?_ | refine j_aload_nq d_Ho_freeInputs_11 rfl ?_ | refine j_aload_nN d_Ho_freeInputs_11 rfl ?_
      refine j_get d_Ho_freeInputs_12 f_Ho_22 (hC_p hp (by decide)) rfl ?_
      refine j_iload_n d_Ho_freeInputs_15 rfl ?_
      refine j_iload_n d_Ho_freeInputs_16 rfl ?_
      refine j_callV0 (As := [_, _]) G0_good G0_E d_Ho_freeInputs_17 c_Ho_41 rfl rfl (t_Tb_isInput hbj (by rw [exFr_ne (by decide)]; exact h8) t n (by rw [exFr_ne (by decide)]; exact ht) (by omega)) (hC_t (by decide)) rfl rfl (by decide) (Nat.le_of_ble_eq_true rfl) ?_
      rintro _ _ ⟨rfl, rfl⟩
      first | refine c_if_eq (t := 50) d_Ho_freeInputs_20 (by decide) (fun c20 => ?_) (fun c20 => ?_) | refine n_if_eq (t := 50) d_Ho_freeInputs_20 (by decide) (by omega) (fun c20 => ?_) (fun c20 => ?_) | refine j_if_eq (t := 50) d_Ho_freeInputs_20 (by decide) (fun c20 => ?_) (fun c20 => ?_)
      · refine n_iinc (k := 2) d_Ho_freeInputs_50 (by decide +kernel) rfl (by decide) rfl rfl ?_
        refine j_goto (t := 5) d_Ho_freeInputs_53 (by decide) ?_
        rw [show exFr σ p t j = exFr σ p t (j + 1) by rw [exFr, ← hn, ifP_f (fun q => c20 (by rw [exFr_ne (by decide), exFr_ne (by decide)]; exact q.1))]]
        exact ih (j + 1) _ (by omega) (by omega) (by omega)
      · first | refine j_aload_n d_Ho_freeInputs_23 rfl ?_ | refine j_aload_nq d_Ho_freeInputs_23 rfl ?_ | refine j_aload_nN d_Ho_freeInputs_23 rfl ?_
        refine j_get d_Ho_freeInputs_24 f_Ho_9 (hC_p hp (by decide)) rfl ?_
        refine j_iload_n d_Ho_freeInputs_27 rfl ?_
        refine j_iald (t := 0) d_Ho_freeInputs_28 rfl (hC_p hp (by decide)) rfl (by omega) (by decide) ?_
        refine j_iconst (v := nI 2) d_Ho_freeInputs_29 (by decide +kernel) ?_
        first | refine nn_icmp_ne (t := 50) d_Ho_freeInputs_30 (by decide) (by omega) (by omega) (fun c30 => ?_) (fun c30 => ?_) | refine mm_icmp_ne (t := 50) d_Ho_freeInputs_30 (by decide) (by omega) (by omega) (fun c30 => ?_) (fun c30 => ?_) | refine mn_icmp_ne (t := 50) d_Ho_freeInputs_30 (by decide) (by omega) (by omega) (fun c30 => ?_) (fun c30 => ?_) | refine nm_icmp_ne (t := 50) d_Ho_freeInputs_30 (by decide) (by omega) (by omega) (fun c30 => ?_) (fun c30 => ?_) | refine j_icmp_ne (t := 50) d_Ho_freeInputs_30 (by decide) (fun c30 => ?_) (fun c30 => ?_)
        · refine n_iinc (k := 2) d_Ho_freeInputs_50 (by decide +kernel) rfl (by decide) rfl rfl ?_
          refine j_goto (t := 5) d_Ho_freeInputs_53 (by decide) ?_
          rw [show exFr σ p t j = exFr σ p t (j + 1) by rw [exFr, ← hn, ifP_f (fun q => c30 q.2.1)]]
          exact ih (j + 1) _ (by omega) (by omega) (by omega)
        · first | refine j_aload_n d_Ho_freeInputs_33 rfl ?_ | refine j_aload_nq d_Ho_freeInputs_33 rfl ?_ | refine j_aload_nN d_Ho_freeInputs_33 rfl ?_
          refine j_get d_Ho_freeInputs_34 f_Ho_15 (hC_p hp (by decide)) rfl ?_
          refine j_iload_n d_Ho_freeInputs_37 rfl ?_
          refine j_iald (t := 0) d_Ho_freeInputs_38 rfl (hC_p hp (by decide)) rfl (by omega) (by decide) ?_
          refine j_iload_n d_Ho_freeInputs_39 rfl ?_
          first | refine nn_icmp_ne (t := 50) d_Ho_freeInputs_40 (by decide) (by omega) (by omega) (fun c40 => ?_) (fun c40 => ?_) | refine mm_icmp_ne (t := 50) d_Ho_freeInputs_40 (by decide) (by omega) (by omega) (fun c40 => ?_) (fun c40 => ?_) | refine mn_icmp_ne (t := 50) d_Ho_freeInputs_40 (by decide) (by omega) (by omega) (fun c40 => ?_) (fun c40 => ?_) | refine nm_icmp_ne (t := 50) d_Ho_freeInputs_40 (by decide) (by omega) (by omega) (fun c40 => ?_) (fun c40 => ?_) | refine j_icmp_ne (t := 50) d_Ho_freeInputs_40 (by decide) (fun c40 => ?_) (fun c40 => ?_)
          · refine n_iinc (k := 2) d_Ho_freeInputs_50 (by decide +kernel) rfl (by decide) rfl rfl ?_
            refine j_goto (t := 5) d_Ho_freeInputs_53 (by decide) ?_
            rw [show exFr σ p t j = exFr σ p t (j + 1) by rw [exFr, ← hn, ifP_f (fun q => c40 q.2.2)]]
            exact ih (j + 1) _ (by omega) (by omega) (by omega)
          · first | refine j_aload_n d_Ho_freeInputs_43 rfl ?_ | refine j_aload_nq d_Ho_freeInputs_43 rfl ?_ | refine j_aload_nN d_Ho_freeInputs_43 rfl ?_
            refine j_get d_Ho_freeInputs_44 f_Ho_9 (hC_p hp (by decide)) rfl ?_
            refine j_iload_n d_Ho_freeInputs_47 rfl ?_
            refine j_iconst (v := nI 1) d_Ho_freeInputs_48 (by decide +kernel) ?_
            refine j_iast (t := 0) d_Ho_freeInputs_49 rfl (hC_p hp (by decide)) rfl (by omega) (by decide) (J.hq (w8 hp) ?_)
            refine n_iinc (k := 2) d_Ho_freeInputs_50 (by decide +kernel) rfl (by decide) rfl rfl ?_
            refine j_goto (t := 5) d_Ho_freeInputs_53 (by decide) ?_
            rw [show U (exFr σ p t j) 8 p n 1 = exFr σ p t (j + 1) by rw [exFr, ← hn, ifP_t ⟨by rw [exFr_ne (by decide), exFr_ne (by decide)] at c20; exact c20, c30, c40⟩]]
            exact ih (j + 1) _ (by omega) (by omega) (by omega)

set_option maxHeartbeats 4000000 in
set_option maxRecDepth 100000 in
theorem t_Ho_freeInputs {l : Launch} {D : va_G} {B nx : Nat} {σ : Sg} {κ : Kp} {g : Nat → Option va_E} {p : Nat} (hp : p < 8) (hb : bd σ) (h8 : σ 33 0 0 ≤ 8) (t : Nat) (ht : t < σ 33 0 0) : jM (G0 l D) m_Ho_freeInputs 1 0 0 [.ref (aP B p + 0), .int (nI t)] (hC D B σ κ g, nx) (fun v h => v = some (.int (nI 1)) ∧ h = (hC D B (exFr σ p t 10) κ g, nx)) := by
  refine jM.of (by decide +kernel) (Nat.le_of_ble_eq_true rfl) rfl ?_
  first | refine j_aload_n d_Ho_freeInputs_0 rfl ?_ | refine j_aload_nq d_Ho_freeInputs_0 rfl ?_ | refine j_aload_nN d_Ho_freeInputs_0 rfl ?_
  refine j_get d_Ho_freeInputs_1 f_Ho_18 (hC_p hp (by decide)) rfl ?_
  refine j_istore_n d_Ho_freeInputs_4 (by decide) rfl rfl ?_
  exact lp_Ho_free hp hb h8 t ht 11 0 (p / 4) (by omega) (by omega) (by omega)

set_option maxHeartbeats 4000000 in
set_option maxRecDepth 100000 in
theorem t_Ho_carryOut1 {l : Launch} {D : va_G} {B nx : Nat} {σ : Sg} {κ : Kp} {g : Nat → Option va_E} {p : Nat} (hp : p < 8) (hb : bd σ) (h8 : σ 33 0 0 ≤ 8) (t : Nat) (ht : t < σ 33 0 0) : jM (G0 l D) m_Ho_carryOut 2 0 0 [.ref (aP B p + 0), .int (nI 1), .int (nI t)] (hC D B σ κ g, nx) (fun v h => v = some (.int (nI 1)) ∧ h = (hC D B (exSp σ p t 10) κ g, nx)) := by
  refine jM.of (by decide +kernel) (Nat.le_of_ble_eq_true rfl) rfl ?_
  refine j_iload_n d_Ho_carryOut_0 rfl ?_
  refine j_lookup (t := 34) (o := 33) d_Ho_carryOut_1 (by decide +kernel) (by decide +kernel) (by decide) ?_
  first | refine j_aload_n d_Ho_carryOut_34 rfl ?_ | refine j_aload_nq d_Ho_carryOut_34 rfl ?_ | refine j_aload_nN d_Ho_carryOut_34 rfl ?_
  refine j_iload_n d_Ho_carryOut_35 rfl ?_
  refine j_callV0 (As := [_]) G0_good G0_E d_Ho_carryOut_36 c_Ho_35 rfl rfl (t_Ho_spendInputs hp hb h8 t ht) (hC_p hp (by decide)) rfl rfl (by decide) (Nat.le_of_ble_eq_true rfl) ?_
  rintro _ _ ⟨rfl, rfl⟩
  exact j_iret d_Ho_carryOut_39 rfl ⟨rfl, rfl⟩

set_option maxHeartbeats 4000000 in
set_option maxRecDepth 100000 in
theorem t_Ho_carryOut2 {l : Launch} {D : va_G} {B nx : Nat} {σ : Sg} {κ : Kp} {g : Nat → Option va_E} {p : Nat} (hp : p < 8) (hb : bd σ) (h8 : σ 33 0 0 ≤ 8) (t : Nat) (ht : t < σ 33 0 0) : jM (G0 l D) m_Ho_carryOut 2 0 0 [.ref (aP B p + 0), .int (nI 2), .int (nI t)] (hC D B σ κ g, nx) (fun v h => v = some (.int (nI 1)) ∧ h = (hC D B (exFr σ p t 10) κ g, nx)) := by
  refine jM.of (by decide +kernel) (Nat.le_of_ble_eq_true rfl) rfl ?_
  refine j_iload_n d_Ho_carryOut_0 rfl ?_
  refine j_lookup (t := 40) (o := 39) d_Ho_carryOut_1 (by decide +kernel) (by decide +kernel) (by decide) ?_
  first | refine j_aload_n d_Ho_carryOut_40 rfl ?_ | refine j_aload_nq d_Ho_carryOut_40 rfl ?_ | refine j_aload_nN d_Ho_carryOut_40 rfl ?_
  refine j_iload_n d_Ho_carryOut_41 rfl ?_
  refine j_callV0 (As := [_]) G0_good G0_E d_Ho_carryOut_42 c_Ho_38 rfl rfl (t_Ho_freeInputs hp hb h8 t ht) (hC_p hp (by decide)) rfl rfl (by decide) (Nat.le_of_ble_eq_true rfl) ?_
  rintro _ _ ⟨rfl, rfl⟩
  exact j_iret d_Ho_carryOut_45 rfl ⟨rfl, rfl⟩

set_option maxHeartbeats 4000000 in
set_option maxRecDepth 100000 in
theorem t_Ho_carryOut0 {l : Launch} {D : va_G} {B nx : Nat} {σ : Sg} {κ : Kp} {g : Nat → Option va_E} {p : Nat} (hp : p < 8) (hb : bd σ) (h8 : σ 33 0 0 ≤ 8) (t : Nat) (ht : t < σ 33 0 0) : jM (G0 l D) m_Ho_carryOut 2 0 0 [.ref (aP B p + 0), .int (nI 0), .int (nI t)] (hC D B σ κ g, nx) (fun v h => (lkBad σ p t 10 ∧ v = some (.int (nI 2)) ∧ h = (hC D B σ κ g, nx)) ∨ (¬ lkBad σ p t 10 ∧ v = some (.int (nI 1)) ∧ h = (hC D B (exLk σ p t 10) κ g, nx))) := by
  refine jM.of (by decide +kernel) (Nat.le_of_ble_eq_true rfl) rfl ?_
  refine j_iload_n d_Ho_carryOut_0 rfl ?_
  refine j_lookup (t := 28) (o := 27) d_Ho_carryOut_1 (by decide +kernel) (by decide +kernel) (by decide) ?_
  first | refine j_aload_n d_Ho_carryOut_28 rfl ?_ | refine j_aload_nq d_Ho_carryOut_28 rfl ?_ | refine j_aload_nN d_Ho_carryOut_28 rfl ?_
  refine j_iload_n d_Ho_carryOut_29 rfl ?_
  refine j_callV0 (As := [_]) G0_good G0_E d_Ho_carryOut_30 c_Ho_32 rfl rfl (t_Ho_lockInputs hp hb h8 t ht) (hC_p hp (by decide)) rfl rfl (by decide) (Nat.le_of_ble_eq_true rfl) ?_
  rintro _ _ (⟨q1, rfl, rfl⟩ | ⟨q1, rfl, rfl⟩)
  · exact j_iret d_Ho_carryOut_33 rfl (Or.inl ⟨q1, rfl, rfl⟩)
  exact j_iret d_Ho_carryOut_33 rfl (Or.inr ⟨q1, rfl, rfl⟩)
