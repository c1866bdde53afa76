/-! loops of the books and of the inbox (g_lp.py) -/
theorem nI_max {a b : Nat} (ha : a < 2 ^ 31) (hb : b < 2 ^ 31) : (if nI a < nI b then nI b else nI a) = nI (max a b) := by
  by_cases h : a < b
  · rw [if_pos ((nn_lt ha hb).mpr h), Nat.max_eq_right (by omega)]
  · rw [if_neg (fun q => h ((nn_lt ha hb).mp q)), Nat.max_eq_left (by omega)]
/-- one of the first n requests of kind k about t isn't answered -/
def unans (σ : Sg) (k t : Nat) : Nat → Bool
  | 0 => false
  | n + 1 => unans σ k t n || (decide (σ 6 0 n = k) && decide (σ 7 0 n = t) && decide (ans σ n = 0))
/-- the highest answer among them -/
def hians (σ : Sg) (k t : Nat) : Nat → Nat
  | 0 => 0
  | n + 1 => if σ 6 0 n = k ∧ σ 7 0 n = t then max (hians σ k t n) (ans σ n) else hians σ k t n
theorem unans_mono {σ : Sg} {k t : Nat} : ∀ {m n : Nat}, m ≤ n → unans σ k t m = true → unans σ k t n = true
  | m, 0, h, q => by rw [Nat.le_zero.mp h] at q; exact q
  | m, n + 1, h, q => by
    by_cases e : m = n + 1
    · rw [← e]; exact q
    · simp only [unans, unans_mono (show m ≤ n by omega) q, Bool.true_or]
def outc (σ : Sg) (k t : Nat) : Nat := if unans σ k t (σ 34 0 0) = true then 0 else hians σ k t (σ 34 0 0)
theorem ans_lt {σ : Sg} (hb : bd σ) (q : Nat) : ans σ q < 100000 := by
  unfold ans
  split
  · exact hb _ _ _
  · decide
theorem hians_lt {σ : Sg} (hb : bd σ) (k t : Nat) : ∀ n, hians σ k t n < 100000
  | 0 => by simp [hians]
  | n + 1 => by
    have h1 := hians_lt hb k t n
    have h2 := ans_lt hb n
    unfold hians
    split
    · omega
    · exact h1

set_option maxHeartbeats 4000000 in
set_option maxRecDepth 100000 in
theorem lp_Rb_outcome {l : Launch} {D : va_G} {B nx : Nat} {σ : Sg} {κ : Kp} {g : Nat → Option va_E} (hb : bd σ) (h32 : σ 34 0 0 ≤ 32) (k t : Nat) (hk : k < 100) (ht : t < 100) : ∀ (m : Nat) (c i : Nat), i ≤ σ 34 0 0 → σ 34 0 0 - i < m → unans σ k t i = false → c = hians σ k t i → J (G0 l D) jT m_Rb_outcome 1 (fun v h => v = some (.int (nI (outc σ k t))) ∧ h = (hC D B σ κ g, nx)) 0 0 5 [some (.ref (B + 6)), some (.int (nI k)), some (.int (nI t)), some (.int (nI c)), some (.int (nI i))] [] (hC D B σ κ g, nx) := by
  intro m
  induction m with
  | zero =>
    intros
    exfalso
    omega
  | succ m ih =>
    intro c i h1 h2 hu hc
    have b34 := hb 34 0 0
    have b6 := hb 6 0 i
    have b7 := hb 7 0 i
    have ba := ans_lt hb i
    have bh := hians_lt hb k t i
    refine j_iload d_Rb_outcome_5 rfl ?_
    first | refine j_aload_n d_Rb_outcome_7 rfl ?_ | refine j_aload_nq d_Rb_outcome_7 rfl ?_ | refine j_aload_nN d_Rb_outcome_7 rfl ?_
    refine j_get d_Rb_outcome_8 f_Rb_27 (hC_t (by decide)) rfl ?_
    first | refine nn_icmp_ge (t := 64) d_Rb_outcome_11 (by decide) (by omega) (by omega) (fun c11 => ?_) (fun c11 => ?_) | refine mm_icmp_ge (t := 64) d_Rb_outcome_11 (by decide) (by omega) (by omega) (fun c11 => ?_) (fun c11 => ?_) | refine mn_icmp_ge (t := 64) d_Rb_outcome_11 (by decide) (by omega) (by omega) (fun c11 => ?_) (fun c11 => ?_) | refine nm_icmp_ge (t := 64) d_Rb_outcome_11 (by decide) (by omega) (by omega) (fun c11 => ?_) (fun c11 => ?_) | refine j_icmp_ge (t := 64) d_Rb_outcome_11 (by decide) (fun c11 => ?_) (fun c11 => ?_)
    · refine j_iload_n d_Rb_outcome_64 rfl ?_
      have hin : i = σ 34 0 0 := by omega
      subst hin
      exact j_iret d_Rb_outcome_65 rfl ⟨by rw [outc, if_neg (by rw [hu]; decide), hc], rfl⟩
    · first | refine j_aload_n d_Rb_outcome_14 rfl ?_ | refine j_aload_nq d_Rb_outcome_14 rfl ?_ | refine j_aload_nN d_Rb_outcome_14 rfl ?_
      refine j_get d_Rb_outcome_15 f_Rb_15 (hC_t (by decide)) rfl ?_
      refine j_iload d_Rb_outcome_18 rfl ?_
      refine j_iald (t := 0) d_Rb_outcome_20 rfl (hC_t (by decide)) rfl (by omega) (by decide) ?_
      refine j_iload_n d_Rb_outcome_21 rfl ?_
      first | refine nn_icmp_ne (t := 58) d_Rb_outcome_22 (by decide) (by omega) (by omega) (fun c22 => ?_) (fun c22 => ?_) | refine mm_icmp_ne (t := 58) d_Rb_outcome_22 (by decide) (by omega) (by omega) (fun c22 => ?_) (fun c22 => ?_) | refine mn_icmp_ne (t := 58) d_Rb_outcome_22 (by decide) (by omega) (by omega) (fun c22 => ?_) (fun c22 => ?_) | refine nm_icmp_ne (t := 58) d_Rb_outcome_22 (by decide) (by omega) (by omega) (fun c22 => ?_) (fun c22 => ?_) | refine j_icmp_ne (t := 58) d_Rb_outcome_22 (by decide) (fun c22 => ?_) (fun c22 => ?_)
      · refine n_iinc (k := 1) d_Rb_outcome_58 (by decide +kernel) rfl (by decide) rfl rfl ?_
        refine j_goto (t := 5) d_Rb_outcome_61 (by decide) ?_
        exact ih _ _ (by omega) (by omega) (by simp [unans, hu, c22]) (by simp [hians, c22, hc])
      · first | refine j_aload_n d_Rb_outcome_25 rfl ?_ | refine j_aload_nq d_Rb_outcome_25 rfl ?_ | refine j_aload_nN d_Rb_outcome_25 rfl ?_
        refine j_get d_Rb_outcome_26 f_Rb_18 (hC_t (by decide)) rfl ?_
        refine j_iload d_Rb_outcome_29 rfl ?_
        refine j_iald (t := 0) d_Rb_outcome_31 rfl (hC_t (by decide)) rfl (by omega) (by decide) ?_
        refine j_iload_n d_Rb_outcome_32 rfl ?_
        first | refine nn_icmp_ne (t := 58) d_Rb_outcome_33 (by decide) (by omega) (by omega) (fun c33 => ?_) (fun c33 => ?_) | refine mm_icmp_ne (t := 58) d_Rb_outcome_33 (by decide) (by omega) (by omega) (fun c33 => ?_) (fun c33 => ?_) | refine mn_icmp_ne (t := 58) d_Rb_outcome_33 (by decide) (by omega) (by omega) (fun c33 => ?_) (fun c33 => ?_) | refine nm_icmp_ne (t := 58) d_Rb_outcome_33 (by decide) (by omega) (by omega) (fun c33 => ?_) (fun c33 => ?_) | refine j_icmp_ne (t := 58) d_Rb_outcome_33 (by decide) (fun c33 => ?_) (fun c33 => ?_)
        · refine n_iinc (k := 1) d_Rb_outcome_58 (by decide +kernel) rfl (by decide) rfl rfl ?_
          refine j_goto (t := 5) d_Rb_outcome_61 (by decide) ?_
          exact ih _ _ (by omega) (by omega) (by simp [unans, hu, c33]) (by simp [hians, c33, hc])
        · first | refine j_aload_n d_Rb_outcome_36 rfl ?_ | refine j_aload_nq d_Rb_outcome_36 rfl ?_ | refine j_aload_nN d_Rb_outcome_36 rfl ?_
          refine j_iload d_Rb_outcome_37 rfl ?_
          refine j_callV0 (As := [_]) G0_good G0_E d_Rb_outcome_39 c_Rb_35 rfl rfl (t_Rb_answer hb i (by omega)) (hC_t (by decide)) rfl rfl (by decide) (Nat.le_of_ble_eq_true rfl) ?_
          rintro _ _ ⟨rfl, rfl⟩
          first | refine c_if_ne (t := 47) d_Rb_outcome_42 (by decide) (fun c42 => ?_) (fun c42 => ?_) | refine n_if_ne (t := 47) d_Rb_outcome_42 (by decide) (by omega) (fun c42 => ?_) (fun c42 => ?_) | refine j_if_ne (t := 47) d_Rb_outcome_42 (by decide) (fun c42 => ?_) (fun c42 => ?_)
          · refine j_iload_n d_Rb_outcome_47 rfl ?_
            first | refine j_aload_n d_Rb_outcome_48 rfl ?_ | refine j_aload_nq d_Rb_outcome_48 rfl ?_ | refine j_aload_nN d_Rb_outcome_48 rfl ?_
            refine j_iload d_Rb_outcome_49 rfl ?_
            refine j_callV0 (As := [_]) G0_good G0_E d_Rb_outcome_51 c_Rb_35 rfl rfl (t_Rb_answer hb i (by omega)) (hC_t (by decide)) rfl rfl (by decide) (Nat.le_of_ble_eq_true rfl) ?_
            rintro _ _ ⟨rfl, rfl⟩
            refine j_max d_Rb_outcome_54 x_Rb_39 x_s x_i x_c (by decide) (by decide) ?_
            rw [nI_max (by omega) (by omega)]
            refine j_istore_n d_Rb_outcome_57 (by decide) rfl rfl ?_
            refine n_iinc (k := 1) d_Rb_outcome_58 (by decide +kernel) rfl (by decide) rfl rfl ?_
            refine j_goto (t := 5) d_Rb_outcome_61 (by decide) ?_
            exact ih _ _ (by omega) (by omega) (by simp [unans, hu, c42]) (by simp [hians, c22, c33, hc])
          · refine j_iconst (v := nI 0) d_Rb_outcome_45 (by decide +kernel) ?_
            exact j_iret d_Rb_outcome_46 rfl ⟨by rw [outc, if_pos (unans_mono (show i + 1 ≤ σ 34 0 0 by omega) (by simp [unans, c22, c33, c42]))], rfl⟩

set_option maxHeartbeats 4000000 in
set_option maxRecDepth 100000 in
theorem t_Rb_outcome {l : Launch} {D : va_G} {B nx : Nat} {σ : Sg} {κ : Kp} {g : Nat → Option va_E} (hb : bd σ) (h32 : σ 34 0 0 ≤ 32) (k t : Nat) (hk : k < 100) (ht : t < 100) : jM (G0 l D) m_Rb_outcome 1 0 0 [.ref (B + 6), .int (nI k), .int (nI t)] (hC D B σ κ g, nx) (fun v h => v = some (.int (nI (outc σ k t))) ∧ h = (hC D B σ κ g, nx)) := by
  refine jM.of (by decide +kernel) (Nat.le_of_ble_eq_true rfl) rfl ?_
  refine j_iconst (v := nI 0) d_Rb_outcome_0 (by decide +kernel) ?_
  refine j_istore_n d_Rb_outcome_1 (by decide) rfl rfl ?_
  refine j_iconst (v := nI 0) d_Rb_outcome_2 (by decide +kernel) ?_
  refine j_istore d_Rb_outcome_3 (by decide) rfl rfl ?_
  exact lp_Rb_outcome hb h32 k t hk ht (σ 34 0 0 + 1) 0 0 (by omega) (by omega) rfl rfl

/-- how many of the first n senders have a message of kind k, round r with this request -/
def cq (σ : Sg) (p k r q : Nat) : Nat → Nat
  | 0 => 0
  | n + 1 => cq σ p k r q n + (if σ 29 p (slt k r n) = q + 1 then 1 else 0)
/-- how many have any -/
def ca (σ : Sg) (p k r : Nat) : Nat → Nat
  | 0 => 0
  | n + 1 => ca σ p k r n + (if σ 29 p (slt k r n) = 0 then 0 else 1)
/-- how many have something that counts -/
def cs (σ : Sg) (p r ld : Nat) : Nat → Nat
  | 0 => 0
  | n + 1 => cs σ p r ld n + (if ¬ σ 29 p (slt 1 r n) = 0 ∨ ¬ σ 29 p (slt 2 r n) = 0 ∨ (n = ld ∧ ¬ σ 29 p (slt 0 r n) = 0) then 1 else 0)
theorem cq_le {σ : Sg} {p k r q : Nat} : ∀ n, cq σ p k r q n ≤ n
  | 0 => Nat.le_refl _
  | n + 1 => by have := cq_le (σ := σ) (p := p) (k := k) (r := r) (q := q) n; unfold cq; split <;> omega
theorem ca_le {σ : Sg} {p k r : Nat} : ∀ n, ca σ p k r n ≤ n
  | 0 => Nat.le_refl _
  | n + 1 => by have := ca_le (σ := σ) (p := p) (k := k) (r := r) n; unfold ca; split <;> omega
theorem cs_le {σ : Sg} {p r ld : Nat} : ∀ n, cs σ p r ld n ≤ n
  | 0 => Nat.le_refl _
  | n + 1 => by have := cs_le (σ := σ) (p := p) (r := r) (ld := ld) n; unfold cs; split <;> omega

set_option maxHeartbeats 4000000 in
set_option maxRecDepth 100000 in
theorem lp_In_hasQuorumFor {l : Launch} {D : va_G} {B nx : Nat} {σ : Sg} {κ : Kp} {g : Nat → Option va_E} {p : Nat} (hp : p < 8) (hb : bd σ) (kr : KR B σ κ nx) (k r q : Nat) (hk : k < 3) (hr : r < 6) (hq : q < 100000) : ∀ (m : Nat) (c i : Nat) (x6 : Option Value), i ≤ 4 → 4 - i < m → c = cq σ p k r q i → J (G0 l D) jT m_In_hasQuorumFor 2 (fun v h => v = some (.int (cI (3 ≤ cq σ p k r q 4))) ∧ h = (hC D B σ κ g, nx)) 0 0 6 [some (.ref (aP B p + 4)), some (.int (nI k)), some (.int (nI r)), some (.int (mI q)), some (.int (nI c)), some (.int (nI i)), x6] [] (hC D B σ κ g, nx) := by
  intro m
  induction m with
  | zero =>
    intros
    exfalso
    omega
  | succ m ih =>
    intro c i x6 h1 h2 hc
    have b1 := cq_le (σ := σ) (p := p) (k := k) (r := r) (q := q) i
    have b29 := hb 29 p (slt k r i)
    refine j_iload d_In_hasQuorumFor_6 rfl ?_
    refine j_iconst (v := nI 4) d_In_hasQuorumFor_8 (by decide +kernel) ?_
    first | refine nn_icmp_ge (t := 45) d_In_hasQuorumFor_9 (by decide) (by omega) (by omega) (fun c9 => ?_) (fun c9 => ?_) | refine mm_icmp_ge (t := 45) d_In_hasQuorumFor_9 (by decide) (by omega) (by omega) (fun c9 => ?_) (fun c9 => ?_) | refine mn_icmp_ge (t := 45) d_In_hasQuorumFor_9 (by decide) (by omega) (by omega) (fun c9 => ?_) (fun c9 => ?_) | refine nm_icmp_ge (t := 45) d_In_hasQuorumFor_9 (by decide) (by omega) (by omega) (fun c9 => ?_) (fun c9 => ?_) | refine j_icmp_ge (t := 45) d_In_hasQuorumFor_9 (by decide) (fun c9 => ?_) (fun c9 => ?_)
    · refine j_iload d_In_hasQuorumFor_45 rfl ?_
      refine j_iconst (v := nI 3) d_In_hasQuorumFor_47 (by decide +kernel) ?_
      first | refine nn_icmp_lt (t := 55) d_In_hasQuorumFor_48 (by decide) (by omega) (by omega) (fun c48 => ?_) (fun c48 => ?_) | refine mm_icmp_lt (t := 55) d_In_hasQuorumFor_48 (by decide) (by omega) (by omega) (fun c48 => ?_) (fun c48 => ?_) | refine mn_icmp_lt (t := 55) d_In_hasQuorumFor_48 (by decide) (by omega) (by omega) (fun c48 => ?_) (fun c48 => ?_) | refine nm_icmp_lt (t := 55) d_In_hasQuorumFor_48 (by decide) (by omega) (by omega) (fun c48 => ?_) (fun c48 => ?_) | refine j_icmp_lt (t := 55) d_In_hasQuorumFor_48 (by decide) (fun c48 => ?_) (fun c48 => ?_)
      · refine j_iconst (v := nI 0) d_In_hasQuorumFor_55 (by decide +kernel) ?_
        have hi4 : i = 4 := by omega
        subst hi4
        first | exact jc_t d_In_hasQuorumFor_56 rfl (by omega) rfl | exact jc_f d_In_hasQuorumFor_56 rfl (by omega) rfl
      · refine j_iconst (v := nI 1) d_In_hasQuorumFor_51 (by decide +kernel) ?_
        refine j_goto (t := 56) d_In_hasQuorumFor_52 (by decide) ?_
        have hi4 : i = 4 := by omega
        subst hi4
        first | exact jc_t d_In_hasQuorumFor_56 rfl (by omega) rfl | exact jc_f d_In_hasQuorumFor_56 rfl (by omega) rfl
    · first | refine j_aload_n d_In_hasQuorumFor_12 rfl ?_ | refine j_aload_nq d_In_hasQuorumFor_12 rfl ?_ | refine j_aload_nN d_In_hasQuorumFor_12 rfl ?_
      refine j_iload_n d_In_hasQuorumFor_13 rfl ?_
      refine j_iload_n d_In_hasQuorumFor_14 rfl ?_
      refine j_iload d_In_hasQuorumFor_15 rfl ?_
      refine j_callV0 (As := [_, _, _]) G0_good G0_E d_In_hasQuorumFor_17 c_In_31 rfl rfl (t_In_find hp k r i hk hr (by omega)) (hC_p hp (by decide)) rfl rfl (by decide) (Nat.le_of_ble_eq_true rfl) ?_
      rintro _ _ ⟨rfl, rfl⟩
      first | refine j_astore d_In_hasQuorumFor_20 (by decide) rfl rfl ?_ | refine j_astoreq d_In_hasQuorumFor_20 (by decide) rfl rfl ?_ | refine j_astoreN d_In_hasQuorumFor_20 (by decide) rfl rfl ?_
      first | refine j_aload d_In_hasQuorumFor_22 rfl ?_ | refine j_aloadq d_In_hasQuorumFor_22 rfl ?_ | refine j_aloadN d_In_hasQuorumFor_22 rfl ?_
      refine j_ifnull (t := 39) d_In_hasQuorumFor_24 (by decide) (fun c24 => ?_) (fun x24 c24 => ?_)
      · refine n_iinc (k := 1) d_In_hasQuorumFor_39 (by decide +kernel) rfl (by decide) rfl rfl ?_
        refine j_goto (t := 6) d_In_hasQuorumFor_42 (by decide) ?_
        have z0 := (kr.1 p _ hp (slt_lt hk hr (by omega))).mp c24
        exact ih _ _ _ (by omega) (by omega) (by rw [cq, if_neg (by omega), Nat.add_zero, hc])
      · rw [c24]
        obtain ⟨hpr, hm, e4, e5⟩ := kr.2.1 p _ _ hp (slt_lt hk hr (by omega)) c24
        first | refine j_aload d_In_hasQuorumFor_27 rfl ?_ | refine j_aloadq d_In_hasQuorumFor_27 rfl ?_ | refine j_aloadN d_In_hasQuorumFor_27 rfl ?_
        refine j_get d_In_hasQuorumFor_29 f_In_35 (hC_m hm hpr) rfl ?_
        refine j_iload_n d_In_hasQuorumFor_32 rfl ?_
        first | refine nn_icmp_ne (t := 39) d_In_hasQuorumFor_33 (by decide) (by omega) (by omega) (fun c33 => ?_) (fun c33 => ?_) | refine mm_icmp_ne (t := 39) d_In_hasQuorumFor_33 (by decide) (by omega) (by omega) (fun c33 => ?_) (fun c33 => ?_) | refine mn_icmp_ne (t := 39) d_In_hasQuorumFor_33 (by decide) (by omega) (by omega) (fun c33 => ?_) (fun c33 => ?_) | refine nm_icmp_ne (t := 39) d_In_hasQuorumFor_33 (by decide) (by omega) (by omega) (fun c33 => ?_) (fun c33 => ?_) | refine j_icmp_ne (t := 39) d_In_hasQuorumFor_33 (by decide) (fun c33 => ?_) (fun c33 => ?_)
        · refine n_iinc (k := 1) d_In_hasQuorumFor_39 (by decide +kernel) rfl (by decide) rfl rfl ?_
          refine j_goto (t := 6) d_In_hasQuorumFor_42 (by decide) ?_
          exact ih _ _ _ (by omega) (by omega) (by rw [cq, if_neg (by omega), Nat.add_zero, hc])
        · refine n_iinc (k := 1) d_In_hasQuorumFor_36 (by decide +kernel) rfl (by decide) rfl rfl ?_
          refine n_iinc (k := 1) d_In_hasQuorumFor_39 (by decide +kernel) rfl (by decide) rfl rfl ?_
          refine j_goto (t := 6) d_In_hasQuorumFor_42 (by decide) ?_
          exact ih _ _ _ (by omega) (by omega) (by rw [cq, if_pos (by omega), hc])

set_option maxHeartbeats 4000000 in
set_option maxRecDepth 100000 in
theorem t_In_hasQuorumFor {l : Launch} {D : va_G} {B nx : Nat} {σ : Sg} {κ : Kp} {g : Nat → Option va_E} {p : Nat} (hp : p < 8) (hb : bd σ) (kr : KR B σ κ nx) (k r q : Nat) (hk : k < 3) (hr : r < 6) (hq : q < 100000) : jM (G0 l D) m_In_hasQuorumFor 2 0 0 [.ref (aP B p + 4), .int (nI k), .int (nI r), .int (mI q)] (hC D B σ κ g, nx) (fun v h => v = some (.int (cI (3 ≤ cq σ p k r q 4))) ∧ h = (hC D B σ κ g, nx)) := by
  refine jM.of (by decide +kernel) (Nat.le_of_ble_eq_true rfl) rfl ?_
  refine j_iconst (v := nI 0) d_In_hasQuorumFor_0 (by decide +kernel) ?_
  refine j_istore d_In_hasQuorumFor_1 (by decide) rfl rfl ?_
  refine j_iconst (v := nI 0) d_In_hasQuorumFor_3 (by decide +kernel) ?_
  refine j_istore d_In_hasQuorumFor_4 (by decide) rfl rfl ?_
  exact lp_In_hasQuorumFor hp hb kr k r q hk hr hq 5 0 0 _ (by omega) (by omega) rfl

set_option maxHeartbeats 4000000 in
set_option maxRecDepth 100000 in
theorem lp_In_hasQuorumOfAny {l : Launch} {D : va_G} {B nx : Nat} {σ : Sg} {κ : Kp} {g : Nat → Option va_E} {p : Nat} (hp : p < 8) (hb : bd σ) (kr : KR B σ κ nx) (k r : Nat) (hk : k < 3) (hr : r < 6) : ∀ (m : Nat) (c i : Nat), i ≤ 4 → 4 - i < m → c = ca σ p k r i → J (G0 l D) jT m_In_hasQuorumOfAny 2 (fun v h => v = some (.int (cI (3 ≤ ca σ p k r 4))) ∧ h = (hC D B σ κ g, nx)) 0 0 5 [some (.ref (aP B p + 4)), some (.int (nI k)), some (.int (nI r)), some (.int (nI c)), some (.int (nI i))] [] (hC D B σ κ g, nx) := by
  intro m
  induction m with
  | zero =>
    intros
    exfalso
    omega
  | succ m ih =>
    intro c i h1 h2 hc
    have b1 := ca_le (σ := σ) (p := p) (k := k) (r := r) i
    refine j_iload d_In_hasQuorumOfAny_5 rfl ?_
    refine j_iconst (v := nI 4) d_In_hasQuorumOfAny_7 (by decide +kernel) ?_
    first | refine nn_icmp_ge (t := 31) d_In_hasQuorumOfAny_8 (by decide) (by omega) (by omega) (fun c8 => ?_) (fun c8 => ?_) | refine mm_icmp_ge (t := 31) d_In_hasQuorumOfAny_8 (by decide) (by omega) (by omega) (fun c8 => ?_) (fun c8 => ?_) | refine mn_icmp_ge (t := 31) d_In_hasQuorumOfAny_8 (by decide) (by omega) (by omega) (fun c8 => ?_) (fun c8 => ?_) | refine nm_icmp_ge (t := 31) d_In_hasQuorumOfAny_8 (by decide) (by omega) (by omega) (fun c8 => ?_) (fun c8 => ?_) | refine j_icmp_ge (t := 31) d_In_hasQuorumOfAny_8 (by decide) (fun c8 => ?_) (fun c8 => ?_)
    · refine j_iload_n d_In_hasQuorumOfAny_31 rfl ?_
      refine j_iconst (v := nI 3) d_In_hasQuorumOfAny_32 (by decide +kernel) ?_
      first | refine nn_icmp_lt (t := 40) d_In_hasQuorumOfAny_33 (by decide) (by omega) (by omega) (fun c33 => ?_) (fun c33 => ?_) | refine mm_icmp_lt (t := 40) d_In_hasQuorumOfAny_33 (by decide) (by omega) (by omega) (fun c33 => ?_) (fun c33 => ?_) | refine mn_icmp_lt (t := 40) d_In_hasQuorumOfAny_33 (by decide) (by omega) (by omega) (fun c33 => ?_) (fun c33 => ?_) | refine nm_icmp_lt (t := 40) d_In_hasQuorumOfAny_33 (by decide) (by omega) (by omega) (fun c33 => ?_) (fun c33 => ?_) | refine j_icmp_lt (t := 40) d_In_hasQuorumOfAny_33 (by decide) (fun c33 => ?_) (fun c33 => ?_)
      · refine j_iconst (v := nI 0) d_In_hasQuorumOfAny_40 (by decide +kernel) ?_
        have hi4 : i = 4 := by omega
        subst hi4
        first | exact jc_t d_In_hasQuorumOfAny_41 rfl (by omega) rfl | exact jc_f d_In_hasQuorumOfAny_41 rfl (by omega) rfl
      · refine j_iconst (v := nI 1) d_In_hasQuorumOfAny_36 (by decide +kernel) ?_
        refine j_goto (t := 41) d_In_hasQuorumOfAny_37 (by decide) ?_
        have hi4 : i = 4 := by omega
        subst hi4
        first | exact jc_t d_In_hasQuorumOfAny_41 rfl (by omega) rfl | exact jc_f d_In_hasQuorumOfAny_41 rfl (by omega) rfl
    · first | refine j_aload_n d_In_hasQuorumOfAny_11 rfl ?_ | refine j_aload_nq d_In_hasQuorumOfAny_11 rfl ?_ | refine j_aload_nN d_In_hasQuorumOfAny_11 rfl ?_
      refine j_iload_n d_In_hasQuorumOfAny_12 rfl ?_
      refine j_iload_n d_In_hasQuorumOfAny_13 rfl ?_
      refine j_iload d_In_hasQuorumOfAny_14 rfl ?_
      refine j_callV0 (As := [_, _, _]) G0_good G0_E d_In_hasQuorumOfAny_16 c_In_31 rfl rfl (t_In_find hp k r i hk hr (by omega)) (hC_p hp (by decide)) rfl rfl (by decide) (Nat.le_of_ble_eq_true rfl) ?_
      rintro _ _ ⟨rfl, rfl⟩
      refine j_ifnull (t := 25) d_In_hasQuorumOfAny_19 (by decide) (fun c19 => ?_) (fun x19 c19 => ?_)
      · refine n_iinc (k := 1) d_In_hasQuorumOfAny_25 (by decide +kernel) rfl (by decide) rfl rfl ?_
        refine j_goto (t := 5) d_In_hasQuorumOfAny_28 (by decide) ?_
        exact ih _ _ (by omega) (by omega) (by rw [ca, if_pos ((kr.1 p _ hp (slt_lt hk hr (by omega))).mp c19), Nat.add_zero, hc])
      · refine n_iinc (k := 1) d_In_hasQuorumOfAny_22 (by decide +kernel) rfl (by decide) rfl rfl ?_
        refine n_iinc (k := 1) d_In_hasQuorumOfAny_25 (by decide +kernel) rfl (by decide) rfl rfl ?_
        refine j_goto (t := 5) d_In_hasQuorumOfAny_28 (by decide) ?_
        exact ih _ _ (by omega) (by omega) (by rw [ca, if_neg (fun z => by rw [(kr.1 p _ hp (slt_lt hk hr (by omega))).mpr z] at c19; cases c19), hc])

set_option maxHeartbeats 4000000 in
set_option maxRecDepth 100000 in
theorem t_In_hasQuorumOfAny {l : Launch} {D : va_G} {B nx : Nat} {σ : Sg} {κ : Kp} {g : Nat → Option va_E} {p : Nat} (hp : p < 8) (hb : bd σ) (kr : KR B σ κ nx) (k r : Nat) (hk : k < 3) (hr : r < 6) : jM (G0 l D) m_In_hasQuorumOfAny 2 0 0 [.ref (aP B p + 4), .int (nI k), .int (nI r)] (hC D B σ κ g, nx) (fun v h => v = some (.int (cI (3 ≤ ca σ p k r 4))) ∧ h = (hC D B σ κ g, nx)) := by
  refine jM.of (by decide +kernel) (Nat.le_of_ble_eq_true rfl) rfl ?_
  refine j_iconst (v := nI 0) d_In_hasQuorumOfAny_0 (by decide +kernel) ?_
  refine j_istore_n d_In_hasQuorumOfAny_1 (by decide) rfl rfl ?_
  refine j_iconst (v := nI 0) d_In_hasQuorumOfAny_2 (by decide +kernel) ?_
  refine j_istore d_In_hasQuorumOfAny_3 (by decide) rfl rfl ?_
  exact lp_In_hasQuorumOfAny hp hb kr k r hk hr 5 0 0 (by omega) (by omega) rfl

set_option maxHeartbeats 4000000 in
set_option maxRecDepth 100000 in
theorem lp_In_countSenders {l : Launch} {D : va_G} {B nx : Nat} {σ : Sg} {κ : Kp} {g : Nat → Option va_E} {p : Nat} (hp : p < 8) (hb : bd σ) (kr : KR B σ κ nx) (r ld : Nat) (hr : r < 6) (hl : ld < 4) : ∀ (m : Nat) (c i : Nat) (x5 : Option Value), i ≤ 4 → 4 - i < m → c = cs σ p r ld i → J (G0 l D) jT m_In_countSenders 2 (fun v h => v = some (.int (nI (cs σ p r ld 4))) ∧ h = (hC D B σ κ g, nx)) 0 0 5 [some (.ref (aP B p + 4)), some (.int (nI r)), some (.int (nI ld)), some (.int (nI c)), some (.int (nI i)), x5] [] (hC D B σ κ g, nx) := by
  intro m
  induction m with
  | zero =>
    intros
    exfalso
    omega
  | succ m ih =>
    intro c i x5 h1 h2 hc
    have b1 := cs_le (σ := σ) (p := p) (r := r) (ld := ld) i
    have kz : ∀ k, k < 3 → i < 4 → κ.1 p (slt k r i) = none → σ 29 p (slt k r i) = 0 := fun k hk h4 q => (kr.1 p _ hp (slt_lt hk hr h4)).mp q
    have kn : ∀ k x, k < 3 → i < 4 → κ.1 p (slt k r i) = some x → ¬ σ 29 p (slt k r i) = 0 := fun k x hk h4 q z => by
      rw [(kr.1 p _ hp (slt_lt hk hr h4)).mpr z] at q; cases q
    refine j_iload d_In_countSenders_5 rfl ?_
    refine j_iconst (v := nI 4) d_In_countSenders_7 (by decide +kernel) ?_
    first | refine nn_icmp_ge (t := 71) d_In_countSenders_8 (by decide) (by omega) (by omega) (fun c8 => ?_) (fun c8 => ?_) | refine mm_icmp_ge (t := 71) d_In_countSenders_8 (by decide) (by omega) (by omega) (fun c8 => ?_) (fun c8 => ?_) | refine mn_icmp_ge (t := 71) d_In_countSenders_8 (by decide) (by omega) (by omega) (fun c8 => ?_) (fun c8 => ?_) | refine nm_icmp_ge (t := 71) d_In_countSenders_8 (by decide) (by omega) (by omega) (fun c8 => ?_) (fun c8 => ?_) | refine j_icmp_ge (t := 71) d_In_countSenders_8 (by decide) (fun c8 => ?_) (fun c8 => ?_)
    · refine j_iload_n d_In_countSenders_71 rfl ?_
      have hi4 : i = 4 := by omega
      subst hi4
      exact j_iret d_In_countSenders_72 rfl ⟨by rw [hc], rfl⟩
    · first | refine j_aload_n d_In_countSenders_11 rfl ?_ | refine j_aload_nq d_In_countSenders_11 rfl ?_ | refine j_aload_nN d_In_countSenders_11 rfl ?_
      refine j_iconst (v := nI 1) d_In_countSenders_12 (by decide +kernel) ?_
      refine j_iload_n d_In_countSenders_13 rfl ?_
      refine j_iload d_In_countSenders_14 rfl ?_
      refine j_callV0 (As := [_, _, _]) G0_good G0_E d_In_countSenders_16 c_In_31 rfl rfl (t_In_find hp 1 r i (by decide) hr (by omega)) (hC_p hp (by decide)) rfl rfl (by decide) (Nat.le_of_ble_eq_true rfl) ?_
      rintro _ _ ⟨rfl, rfl⟩
      refine j_ifnonnull (t := 33) d_In_countSenders_19 (by decide) (fun x19 c19 => ?_) (fun c19 => ?_)
      · refine j_iconst (v := nI 1) d_In_countSenders_33 (by decide +kernel) ?_
        refine j_goto (t := 38) d_In_countSenders_34 (by decide) ?_
        refine j_istore d_In_countSenders_38 (by decide) rfl rfl ?_
        refine j_iload d_In_countSenders_40 rfl ?_
        refine j_if_ne (t := 62) d_In_countSenders_42 (by decide) (fun _ => ?_) (fun q => absurd q (by decide +kernel))
        refine n_iinc (k := 1) d_In_countSenders_62 (by decide +kernel) rfl (by decide) rfl rfl ?_
        refine n_iinc (k := 1) d_In_countSenders_65 (by decide +kernel) rfl (by decide) rfl rfl ?_
        refine j_goto (t := 5) d_In_countSenders_68 (by decide) ?_
        exact ih _ _ _ (by omega) (by omega) (by rw [cs, if_pos (Or.inl (kn 1 _ (by omega) (by omega) c19)), hc])
      · first | refine j_aload_n d_In_countSenders_22 rfl ?_ | refine j_aload_nq d_In_countSenders_22 rfl ?_ | refine j_aload_nN d_In_countSenders_22 rfl ?_
        refine j_iconst (v := nI 2) d_In_countSenders_23 (by decide +kernel) ?_
        refine j_iload_n d_In_countSenders_24 rfl ?_
        refine j_iload d_In_countSenders_25 rfl ?_
        refine j_callV0 (As := [_, _, _]) G0_good G0_E d_In_countSenders_27 c_In_31 rfl rfl (t_In_find hp 2 r i (by decide) hr (by omega)) (hC_p hp (by decide)) rfl rfl (by decide) (Nat.le_of_ble_eq_true rfl) ?_
        rintro _ _ ⟨rfl, rfl⟩
        refine j_ifnull (t := 37) d_In_countSenders_30 (by decide) (fun c30 => ?_) (fun x30 c30 => ?_)
        · refine j_iconst (v := nI 0) d_In_countSenders_37 (by decide +kernel) ?_
          refine j_istore d_In_countSenders_38 (by decide) rfl rfl ?_
          refine j_iload d_In_countSenders_40 rfl ?_
          refine j_if_ne (t := 62) d_In_countSenders_42 (by decide) (fun q => absurd q (by decide +kernel)) (fun _ => ?_)
          refine j_iload d_In_countSenders_45 rfl ?_
          refine j_iload_n d_In_countSenders_47 rfl ?_
          first | refine nn_icmp_ne (t := 65) d_In_countSenders_48 (by decide) (by omega) (by omega) (fun c48 => ?_) (fun c48 => ?_) | refine mm_icmp_ne (t := 65) d_In_countSenders_48 (by decide) (by omega) (by omega) (fun c48 => ?_) (fun c48 => ?_) | refine mn_icmp_ne (t := 65) d_In_countSenders_48 (by decide) (by omega) (by omega) (fun c48 => ?_) (fun c48 => ?_) | refine nm_icmp_ne (t := 65) d_In_countSenders_48 (by decide) (by omega) (by omega) (fun c48 => ?_) (fun c48 => ?_) | refine j_icmp_ne (t := 65) d_In_countSenders_48 (by decide) (fun c48 => ?_) (fun c48 => ?_)
          · refine n_iinc (k := 1) d_In_countSenders_65 (by decide +kernel) rfl (by decide) rfl rfl ?_
            refine j_goto (t := 5) d_In_countSenders_68 (by decide) ?_
            exact ih _ _ _ (by omega) (by omega) (by rw [cs, if_neg (by have z1 := kz 1 (by omega) (by omega) c19; have z2 := kz 2 (by omega) (by omega) c30; omega), Nat.add_zero, hc])
          · first | refine j_aload_n d_In_countSenders_51 rfl ?_ | refine j_aload_nq d_In_countSenders_51 rfl ?_ | refine j_aload_nN d_In_countSenders_51 rfl ?_
            refine j_iconst (v := nI 0) d_In_countSenders_52 (by decide +kernel) ?_
            refine j_iload_n d_In_countSenders_53 rfl ?_
            refine j_iload d_In_countSenders_54 rfl ?_
            refine j_callV0 (As := [_, _, _]) G0_good G0_E d_In_countSenders_56 c_In_31 rfl rfl (t_In_find hp 0 r i (by decide) hr (by omega)) (hC_p hp (by decide)) rfl rfl (by decide) (Nat.le_of_ble_eq_true rfl) ?_
            rintro _ _ ⟨rfl, rfl⟩
            refine j_ifnull (t := 65) d_In_countSenders_59 (by decide) (fun c59 => ?_) (fun x59 c59 => ?_)
            · refine n_iinc (k := 1) d_In_countSenders_65 (by decide +kernel) rfl (by decide) rfl rfl ?_
              refine j_goto (t := 5) d_In_countSenders_68 (by decide) ?_
              exact ih _ _ _ (by omega) (by omega) (by rw [cs, if_neg (by have z1 := kz 1 (by omega) (by omega) c19; have z2 := kz 2 (by omega) (by omega) c30; have z3 := kz 0 (by omega) (by omega) c59; omega), Nat.add_zero, hc])
            · refine n_iinc (k := 1) d_In_countSenders_62 (by decide +kernel) rfl (by decide) rfl rfl ?_
              refine n_iinc (k := 1) d_In_countSenders_65 (by decide +kernel) rfl (by decide) rfl rfl ?_
              refine j_goto (t := 5) d_In_countSenders_68 (by decide) ?_
              exact ih _ _ _ (by omega) (by omega) (by rw [cs, if_pos (Or.inr (Or.inr ⟨c48, kn 0 _ (by omega) (by omega) c59⟩)), hc])
        · refine j_iconst (v := nI 1) d_In_countSenders_33 (by decide +kernel) ?_
          refine j_goto (t := 38) d_In_countSenders_34 (by decide) ?_
          refine j_istore d_In_countSenders_38 (by decide) rfl rfl ?_
          refine j_iload d_In_countSenders_40 rfl ?_
          refine j_if_ne (t := 62) d_In_countSenders_42 (by decide) (fun _ => ?_) (fun q => absurd q (by decide +kernel))
          refine n_iinc (k := 1) d_In_countSenders_62 (by decide +kernel) rfl (by decide) rfl rfl ?_
          refine n_iinc (k := 1) d_In_countSenders_65 (by decide +kernel) rfl (by decide) rfl rfl ?_
          refine j_goto (t := 5) d_In_countSenders_68 (by decide) ?_
          exact ih _ _ _ (by omega) (by omega) (by rw [cs, if_pos (Or.inr (Or.inl (kn 2 _ (by omega) (by omega) c30))), hc])

set_option maxHeartbeats 4000000 in
set_option maxRecDepth 100000 in
theorem t_In_countSenders {l : Launch} {D : va_G} {B nx : Nat} {σ : Sg} {κ : Kp} {g : Nat → Option va_E} {p : Nat} (hp : p < 8) (hb : bd σ) (kr : KR B σ κ nx) (r ld : Nat) (hr : r < 6) (hl : ld < 4) : jM (G0 l D) m_In_countSenders 2 0 0 [.ref (aP B p + 4), .int (nI r), .int (nI ld)] (hC D B σ κ g, nx) (fun v h => v = some (.int (nI (cs σ p r ld 4))) ∧ h = (hC D B σ κ g, nx)) := by
  refine jM.of (by decide +kernel) (Nat.le_of_ble_eq_true rfl) rfl ?_
  refine j_iconst (v := nI 0) d_In_countSenders_0 (by decide +kernel) ?_
  refine j_istore_n d_In_countSenders_1 (by decide) rfl rfl ?_
  refine j_iconst (v := nI 0) d_In_countSenders_2 (by decide +kernel) ?_
  refine j_istore d_In_countSenders_3 (by decide) rfl rfl ?_
  exact lp_In_countSenders hp hb kr r ld hr hl 5 0 0 _ (by omega) (by omega) rfl
