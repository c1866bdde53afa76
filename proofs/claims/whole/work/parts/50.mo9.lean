/-! The reference: submit and client (g_mo9.py) -/
theorem m_if_ge {G : jG} {Z : State → (Nat → Prop) → Prop} {u : jMt} {d n sn pc : Nat} {Q : Option Value → jH → Prop} {lc : List (Option Value)} {st : List Value} {h : jH} {a : Nat} {o : Int} {t : Nat} (hd : jd u pc (.ifCond .ge o) 3) (ht : (pc : Int) + o = (t : Int)) (ha : a < 2 ^ 31) (kt : ¬ a = 0 → J G Z u d Q n sn t lc st h) (kf : a = 0 → J G Z u d Q n sn (pc + 3) lc st h) : J G Z u d Q n sn pc lc (.int (mI a) :: st) h := by
  have e : (0 : Int32) ≤ mI a ↔ ¬ a = 0 := by rw [Int32.le_iff_toInt_le, mI_toInt ha, Int32.toInt_zero]; omega
  exact j_if_ge hd ht (fun q => kt (e.mp q)) (fun q => kf (Classical.byContradiction (fun z => q (e.mpr z))))
theorem inr_mI {s n : Nat} (hn : n < 2 ^ 31) (hs : s < 2 ^ 31) : inr (mI s) n ↔ (¬ s = 0 ∧ s - 1 < n) := by
  cases s with
  | zero => exact ⟨fun z => absurd (show mI 0 < 0 by decide +kernel) z.1, fun z => absurd rfl z.1⟩
  | succ k => rw [mI_succ, inr_iff hn (by omega)]; omega
theorem le_inr {a : Int32} {S : Nat} (hS : S + 1 < 2 ^ 31) (h0 : ¬ a < 0) (h1 : a ≤ nI S) : inr a (S + 1) :=
  ⟨h0, fun q => by
    have := Int32.le_trans q h1
    rw [nn_le (by omega) (by omega)] at this
    omega⟩
theorem hM_add {D : va_G} {M : Nat} {L : Int32} {σ ρ : Sg} {g : Nat → Option va_E} {f s b : Nat} (h3 : σ 3 0 (σ 33 0 0) = 0) : hM D M L (U (U (U (U (U σ 1 0 (σ 33 0 0) f) 2 0 (σ 33 0 0) s) 4 0 (4 + 2 * σ 33 0 0) b) 4 0 (5 + 2 * σ 33 0 0) (σ 4 0 f + am σ s - b)) 33 0 0 (U (U (U (U σ 1 0 (σ 33 0 0) f) 2 0 (σ 33 0 0) s) 4 0 (4 + 2 * σ 33 0 0) b) 4 0 (5 + 2 * σ 33 0 0) (σ 4 0 f + am σ s - b) 33 0 0 + 1)) ρ g = hM D M L (sAdd σ f s b) ρ g := by
  have e : U (U (U (U σ 1 0 (σ 33 0 0) f) 2 0 (σ 33 0 0) s) 4 0 (4 + 2 * σ 33 0 0) b) 4 0 (5 + 2 * σ 33 0 0) (σ 4 0 f + am σ s - b) 33 0 0 = σ 33 0 0 := by
    rw [U_ne (by decide), U_ne (by decide), U_ne (by decide), U_ne (by decide)]
  rw [e]
  refine hM_cgr (fun k _ => ?_)
  unfold sAdd
  rw [show 5 + 2 * σ 33 0 0 = 4 + 2 * σ 33 0 0 + 1 by omega]
  refine Pu.U_f (Pu.U_f (Pu.U_f ?_))
  by_cases e : k = 3
  · subst e
    funext x y
    rw [U_at, U_ne (by decide), U_ne (by decide)]
    by_cases c : x = 0 ∧ y = σ 33 0 0
    · rw [if_pos c, c.1, c.2, h3]
    · rw [if_neg c]
  · rw [U_ne e]

set_option maxHeartbeats 4000000 in
set_option maxRecDepth 100000 in
theorem m_sub_1 {l : Launch} {D : va_G} {M nx : Nat} {L : Int32} {σ ρ : Sg} {g : Nat → Option va_E} (hb : bd σ) (h8 : σ 33 0 0 ≤ 8) (x y a : Int32) (hx : ¬ inr x (4 + 2 * σ 33 0 0)) : jM (G0 l D) m_Mo_submit 2 0 0 [.ref (M + 0), .int x, .int y, .int a] (hM D M L σ ρ g, nx) (fun v h => v = some (.int (mI 0)) ∧ h = (hM D M L σ ρ g, nx)) := by
  refine jM.of (by decide +kernel) (Nat.le_of_ble_eq_true rfl) rfl ?_
  first | refine j_aload_n d_Mo_submit_0 rfl ?_ | refine j_aload_nq d_Mo_submit_0 rfl ?_ | refine j_aload_nN d_Mo_submit_0 rfl ?_
  refine j_iload_n d_Mo_submit_1 rfl ?_
  refine j_callV0 (As := [_]) G0_good G0_E d_Mo_submit_2 c_Mo_107 rfl rfl (m_isOutput hb x) (hM_o (by decide)) rfl rfl (by decide) (Nat.le_of_ble_eq_true rfl) ?_
  rintro _ _ ⟨rfl, rfl⟩
  first | refine c_if_eq (t := 26) d_Mo_submit_5 (by decide) (fun c5 => ?_) (fun c5 => ?_) | refine n_if_eq (t := 26) d_Mo_submit_5 (by decide) (by omega) (fun c5 => ?_) (fun c5 => ?_) | refine j_if_eq (t := 26) d_Mo_submit_5 (by decide) (fun c5 => ?_) (fun c5 => ?_)
  · refine j_iconst (v := mI 0) d_Mo_submit_26 (by decide +kernel) ?_
    exact j_iret d_Mo_submit_27 rfl ⟨rfl, rfl⟩
  · exfalso; first | exact c5 | omega | exact hx c5

set_option maxHeartbeats 4000000 in
set_option maxRecDepth 100000 in
theorem m_sub_2 {l : Launch} {D : va_G} {M nx : Nat} {L : Int32} {σ ρ : Sg} {g : Nat → Option va_E} (hb : bd σ) (h8 : σ 33 0 0 ≤ 8) (f : Nat) (hf : f < 4 + 2 * σ 33 0 0) (y a : Int32) (hy : ¬ y = mI 0) (hy2 : ¬ inr y (4 + 2 * σ 33 0 0)) : jM (G0 l D) m_Mo_submit 2 0 0 [.ref (M + 0), .int (nI f), .int y, .int a] (hM D M L σ ρ g, nx) (fun v h => v = some (.int (mI 0)) ∧ h = (hM D M L σ ρ g, nx)) := by
  refine jM.of (by decide +kernel) (Nat.le_of_ble_eq_true rfl) rfl ?_
  first | refine j_aload_n d_Mo_submit_0 rfl ?_ | refine j_aload_nq d_Mo_submit_0 rfl ?_ | refine j_aload_nN d_Mo_submit_0 rfl ?_
  refine j_iload_n d_Mo_submit_1 rfl ?_
  refine j_callV0 (As := [_]) G0_good G0_E d_Mo_submit_2 c_Mo_107 rfl rfl (m_isOutput hb (nI f)) (hM_o (by decide)) rfl rfl (by decide) (Nat.le_of_ble_eq_true rfl) ?_
  rintro _ _ ⟨rfl, rfl⟩
  first | refine c_if_eq (t := 26) d_Mo_submit_5 (by decide) (fun c5 => ?_) (fun c5 => ?_) | refine n_if_eq (t := 26) d_Mo_submit_5 (by decide) (by omega) (fun c5 => ?_) (fun c5 => ?_) | refine j_if_eq (t := 26) d_Mo_submit_5 (by decide) (fun c5 => ?_) (fun c5 => ?_)
  · exfalso; first | exact c5 | omega | exact c5 (inr_nI (by omega) hf) | exact hy c5 | exact hy2 c5
  · refine j_iload_n d_Mo_submit_8 rfl ?_
    refine j_iconst (v := mI 0) d_Mo_submit_9 (by decide +kernel) ?_
    refine j_icmp_eq (t := 21) d_Mo_submit_10 (by decide) (fun c10 => ?_) (fun c10 => ?_)
    · exfalso; first | exact c10 | omega | exact c10 (inr_nI (by omega) hf) | exact hy c10 | exact hy2 c10
    · first | refine j_aload_n d_Mo_submit_13 rfl ?_ | refine j_aload_nq d_Mo_submit_13 rfl ?_ | refine j_aload_nN d_Mo_submit_13 rfl ?_
      refine j_iload_n d_Mo_submit_14 rfl ?_
      refine j_callV0 (As := [_]) G0_good G0_E d_Mo_submit_15 c_Mo_107 rfl rfl (m_isOutput hb y) (hM_o (by decide)) rfl rfl (by decide) (Nat.le_of_ble_eq_true rfl) ?_
      rintro _ _ ⟨rfl, rfl⟩
      first | refine c_if_eq (t := 26) d_Mo_submit_18 (by decide) (fun c18 => ?_) (fun c18 => ?_) | refine n_if_eq (t := 26) d_Mo_submit_18 (by decide) (by omega) (fun c18 => ?_) (fun c18 => ?_) | refine j_if_eq (t := 26) d_Mo_submit_18 (by decide) (fun c18 => ?_) (fun c18 => ?_)
      · refine j_iconst (v := mI 0) d_Mo_submit_26 (by decide +kernel) ?_
        exact j_iret d_Mo_submit_27 rfl ⟨rfl, rfl⟩
      · exfalso; first | exact c18 | omega | exact c18 (inr_nI (by omega) hf) | exact hy c18 | exact hy2 c18

set_option maxHeartbeats 4000000 in
set_option maxRecDepth 100000 in
theorem m_sub_3 {l : Launch} {D : va_G} {M nx : Nat} {L : Int32} {σ ρ : Sg} {g : Nat → Option va_E} (hb : bd σ) (h8 : σ 33 0 0 ≤ 8) (f s : Nat) (hf : f < 4 + 2 * σ 33 0 0) (hs : s ≤ 4 + 2 * σ 33 0 0) (a : Int32) (he : f + 1 = s) : jM (G0 l D) m_Mo_submit 2 0 0 [.ref (M + 0), .int (nI f), .int (mI s), .int a] (hM D M L σ ρ g, nx) (fun v h => v = some (.int (mI 0)) ∧ h = (hM D M L σ ρ g, nx)) := by
  refine jM.of (by decide +kernel) (Nat.le_of_ble_eq_true rfl) rfl ?_
  first | refine j_aload_n d_Mo_submit_0 rfl ?_ | refine j_aload_nq d_Mo_submit_0 rfl ?_ | refine j_aload_nN d_Mo_submit_0 rfl ?_
  refine j_iload_n d_Mo_submit_1 rfl ?_
  refine j_callV0 (As := [_]) G0_good G0_E d_Mo_submit_2 c_Mo_107 rfl rfl (m_isOutput hb (nI f)) (hM_o (by decide)) rfl rfl (by decide) (Nat.le_of_ble_eq_true rfl) ?_
  rintro _ _ ⟨rfl, rfl⟩
  first | refine c_if_eq (t := 26) d_Mo_submit_5 (by decide) (fun c5 => ?_) (fun c5 => ?_) | refine n_if_eq (t := 26) d_Mo_submit_5 (by decide) (by omega) (fun c5 => ?_) (fun c5 => ?_) | refine j_if_eq (t := 26) d_Mo_submit_5 (by decide) (fun c5 => ?_) (fun c5 => ?_)
  · exfalso; first | exact c5 | omega | exact c5 (inr_nI (by omega) hf) | exact c5 ((inr_mI (by omega) (by omega)).mpr ⟨by omega, by omega⟩)
  · refine j_iload_n d_Mo_submit_8 rfl ?_
    refine j_iconst (v := mI 0) d_Mo_submit_9 (by decide +kernel) ?_
    first | refine nn_icmp_eq (t := 21) d_Mo_submit_10 (by decide) (by omega) (by omega) (fun c10 => ?_) (fun c10 => ?_) | refine mm_icmp_eq (t := 21) d_Mo_submit_10 (by decide) (by omega) (by omega) (fun c10 => ?_) (fun c10 => ?_) | refine mn_icmp_eq (t := 21) d_Mo_submit_10 (by decide) (by omega) (by omega) (fun c10 => ?_) (fun c10 => ?_) | refine nm_icmp_eq (t := 21) d_Mo_submit_10 (by decide) (by omega) (by omega) (fun c10 => ?_) (fun c10 => ?_) | refine j_icmp_eq (t := 21) d_Mo_submit_10 (by decide) (fun c10 => ?_) (fun c10 => ?_)
    · refine j_iload_n d_Mo_submit_21 rfl ?_
      refine j_iload_n d_Mo_submit_22 rfl ?_
      first | refine nn_icmp_ne (t := 28) d_Mo_submit_23 (by decide) (by omega) (by omega) (fun c23 => ?_) (fun c23 => ?_) | refine mm_icmp_ne (t := 28) d_Mo_submit_23 (by decide) (by omega) (by omega) (fun c23 => ?_) (fun c23 => ?_) | refine mn_icmp_ne (t := 28) d_Mo_submit_23 (by decide) (by omega) (by omega) (fun c23 => ?_) (fun c23 => ?_) | refine nm_icmp_ne (t := 28) d_Mo_submit_23 (by decide) (by omega) (by omega) (fun c23 => ?_) (fun c23 => ?_) | refine j_icmp_ne (t := 28) d_Mo_submit_23 (by decide) (fun c23 => ?_) (fun c23 => ?_)
      · exfalso; first | exact c23 | omega | exact c23 (inr_nI (by omega) hf) | exact c23 ((inr_mI (by omega) (by omega)).mpr ⟨by omega, by omega⟩)
      · refine j_iconst (v := mI 0) d_Mo_submit_26 (by decide +kernel) ?_
        exact j_iret d_Mo_submit_27 rfl ⟨rfl, rfl⟩
    · first | refine j_aload_n d_Mo_submit_13 rfl ?_ | refine j_aload_nq d_Mo_submit_13 rfl ?_ | refine j_aload_nN d_Mo_submit_13 rfl ?_
      refine j_iload_n d_Mo_submit_14 rfl ?_
      refine j_callV0 (As := [_]) G0_good G0_E d_Mo_submit_15 c_Mo_107 rfl rfl (m_isOutput hb (mI s)) (hM_o (by decide)) rfl rfl (by decide) (Nat.le_of_ble_eq_true rfl) ?_
      rintro _ _ ⟨rfl, rfl⟩
      first | refine c_if_eq (t := 26) d_Mo_submit_18 (by decide) (fun c18 => ?_) (fun c18 => ?_) | refine n_if_eq (t := 26) d_Mo_submit_18 (by decide) (by omega) (fun c18 => ?_) (fun c18 => ?_) | refine j_if_eq (t := 26) d_Mo_submit_18 (by decide) (fun c18 => ?_) (fun c18 => ?_)
      · exfalso; first | exact c18 | omega | exact c18 (inr_nI (by omega) hf) | exact c18 ((inr_mI (by omega) (by omega)).mpr ⟨by omega, by omega⟩)
      · refine j_iload_n d_Mo_submit_21 rfl ?_
        refine j_iload_n d_Mo_submit_22 rfl ?_
        first | refine nn_icmp_ne (t := 28) d_Mo_submit_23 (by decide) (by omega) (by omega) (fun c23 => ?_) (fun c23 => ?_) | refine mm_icmp_ne (t := 28) d_Mo_submit_23 (by decide) (by omega) (by omega) (fun c23 => ?_) (fun c23 => ?_) | refine mn_icmp_ne (t := 28) d_Mo_submit_23 (by decide) (by omega) (by omega) (fun c23 => ?_) (fun c23 => ?_) | refine nm_icmp_ne (t := 28) d_Mo_submit_23 (by decide) (by omega) (by omega) (fun c23 => ?_) (fun c23 => ?_) | refine j_icmp_ne (t := 28) d_Mo_submit_23 (by decide) (fun c23 => ?_) (fun c23 => ?_)
        · exfalso; first | exact c23 | omega | exact c23 (inr_nI (by omega) hf) | exact c23 ((inr_mI (by omega) (by omega)).mpr ⟨by omega, by omega⟩)
        · refine j_iconst (v := mI 0) d_Mo_submit_26 (by decide +kernel) ?_
          exact j_iret d_Mo_submit_27 rfl ⟨rfl, rfl⟩

set_option maxHeartbeats 4000000 in
set_option maxRecDepth 100000 in
theorem lp_sub_4 {l : Launch} {D : va_G} {M nx : Nat} {L : Int32} {σ ρ : Sg} {g : Nat → Option va_E} (hb : bd σ) (h8 : σ 33 0 0 ≤ 8) (f s : Nat) (hf : f < 4 + 2 * σ 33 0 0) (hs : s ≤ 4 + 2 * σ 33 0 0) (a : Int32) (ha : ¬ ∃ b, a = nI b ∧ b ≤ σ 4 0 f + am σ s) : J (G0 l D) jT m_Mo_submit 2 (fun v h => v = some (.int (mI 0)) ∧ h = (hM D M L σ ρ g, nx)) 0 0 51 [some (.ref (M + 0)), some (.int (nI f)), some (.int (mI s)), some (.int a), some (.int (nI (σ 4 0 f + am σ s))), none, none, none] [] (hM D M L σ ρ g, nx) := by
  have b4 := hb 4 0 f
  have bam : am σ s < 100000 := by unfold am; split; omega; exact hb _ _ _
  refine j_iload_n d_Mo_submit_51 rfl ?_
  refine j_if_lt (t := 61) d_Mo_submit_52 (by decide) (fun c52 => ?_) (fun c52 => ?_)
  · refine j_iconst (v := mI 0) d_Mo_submit_61 (by decide +kernel) ?_
    exact j_iret d_Mo_submit_62 rfl ⟨rfl, rfl⟩
  · refine j_iload_n d_Mo_submit_55 rfl ?_
    refine j_iload d_Mo_submit_56 rfl ?_
    refine j_icmp_le (t := 63) d_Mo_submit_58 (by decide) (fun c58 => ?_) (fun c58 => ?_)
    · exfalso
      obtain ⟨b, hb1, rfl⟩ := inr_of (by omega) (le_inr (by omega) c52 c58)
      exact ha ⟨b, rfl, by omega⟩
    · refine j_iconst (v := mI 0) d_Mo_submit_61 (by decide +kernel) ?_
      exact j_iret d_Mo_submit_62 rfl ⟨rfl, rfl⟩

set_option maxHeartbeats 4000000 in
set_option maxRecDepth 100000 in
theorem m_sub_4 {l : Launch} {D : va_G} {M nx : Nat} {L : Int32} {σ ρ : Sg} {g : Nat → Option va_E} (hb : bd σ) (h8 : σ 33 0 0 ≤ 8) (f s : Nat) (hf : f < 4 + 2 * σ 33 0 0) (hs : s ≤ 4 + 2 * σ 33 0 0) (hne : f + 1 ≠ s) (a : Int32) (ha : ¬ ∃ b, a = nI b ∧ b ≤ σ 4 0 f + am σ s) : jM (G0 l D) m_Mo_submit 2 0 0 [.ref (M + 0), .int (nI f), .int (mI s), .int a] (hM D M L σ ρ g, nx) (fun v h => v = some (.int (mI 0)) ∧ h = (hM D M L σ ρ g, nx)) := by
  refine jM.of (by decide +kernel) (Nat.le_of_ble_eq_true rfl) rfl ?_
  have b4 := hb 4 0 f
  have bam : am σ s < 100000 := by unfold am; split; omega; exact hb _ _ _

  first | refine j_aload_n d_Mo_submit_0 rfl ?_ | refine j_aload_nq d_Mo_submit_0 rfl ?_ | refine j_aload_nN d_Mo_submit_0 rfl ?_
  refine j_iload_n d_Mo_submit_1 rfl ?_
  refine j_callV0 (As := [_]) G0_good G0_E d_Mo_submit_2 c_Mo_107 rfl rfl (m_isOutput hb (nI f)) (hM_o (by decide)) rfl rfl (by decide) (Nat.le_of_ble_eq_true rfl) ?_
  rintro _ _ ⟨rfl, rfl⟩
  first | refine c_if_eq (t := 26) d_Mo_submit_5 (by decide) (fun c5 => ?_) (fun c5 => ?_) | refine n_if_eq (t := 26) d_Mo_submit_5 (by decide) (by omega) (fun c5 => ?_) (fun c5 => ?_) | refine j_if_eq (t := 26) d_Mo_submit_5 (by decide) (fun c5 => ?_) (fun c5 => ?_)
  · exfalso; first | exact c5 | omega | exact c5 (inr_nI (by omega) hf) | exact c5 ((inr_mI (by omega) (by omega)).mpr ⟨by omega, by omega⟩)
  · refine j_iload_n d_Mo_submit_8 rfl ?_
    refine j_iconst (v := mI 0) d_Mo_submit_9 (by decide +kernel) ?_
    first | refine nn_icmp_eq (t := 21) d_Mo_submit_10 (by decide) (by omega) (by omega) (fun c10 => ?_) (fun c10 => ?_) | refine mm_icmp_eq (t := 21) d_Mo_submit_10 (by decide) (by omega) (by omega) (fun c10 => ?_) (fun c10 => ?_) | refine mn_icmp_eq (t := 21) d_Mo_submit_10 (by decide) (by omega) (by omega) (fun c10 => ?_) (fun c10 => ?_) | refine nm_icmp_eq (t := 21) d_Mo_submit_10 (by decide) (by omega) (by omega) (fun c10 => ?_) (fun c10 => ?_) | refine j_icmp_eq (t := 21) d_Mo_submit_10 (by decide) (fun c10 => ?_) (fun c10 => ?_)
    · refine j_iload_n d_Mo_submit_21 rfl ?_
      refine j_iload_n d_Mo_submit_22 rfl ?_
      first | refine nn_icmp_ne (t := 28) d_Mo_submit_23 (by decide) (by omega) (by omega) (fun c23 => ?_) (fun c23 => ?_) | refine mm_icmp_ne (t := 28) d_Mo_submit_23 (by decide) (by omega) (by omega) (fun c23 => ?_) (fun c23 => ?_) | refine mn_icmp_ne (t := 28) d_Mo_submit_23 (by decide) (by omega) (by omega) (fun c23 => ?_) (fun c23 => ?_) | refine nm_icmp_ne (t := 28) d_Mo_submit_23 (by decide) (by omega) (by omega) (fun c23 => ?_) (fun c23 => ?_) | refine j_icmp_ne (t := 28) d_Mo_submit_23 (by decide) (fun c23 => ?_) (fun c23 => ?_)
      · first | refine j_aload_n d_Mo_submit_28 rfl ?_ | refine j_aload_nq d_Mo_submit_28 rfl ?_ | refine j_aload_nN d_Mo_submit_28 rfl ?_
        refine j_get d_Mo_submit_29 f_Mo_19 (hM_o (by decide)) rfl ?_
        refine j_iload_n d_Mo_submit_32 rfl ?_
        refine j_iald (t := 0) d_Mo_submit_33 rfl (hM_o (by decide)) rfl (by omega) (by decide) ?_
        refine j_iload_n d_Mo_submit_34 rfl ?_
        refine m_if_ge (t := 42) d_Mo_submit_35 (by decide) (by omega) (fun c35 => ?_) (fun c35 => ?_)
        · first | refine j_aload_n d_Mo_submit_42 rfl ?_ | refine j_aload_nq d_Mo_submit_42 rfl ?_ | refine j_aload_nN d_Mo_submit_42 rfl ?_
          refine j_get d_Mo_submit_43 f_Mo_19 (hM_o (by decide)) rfl ?_
          rw [mI_pos c35]
          refine j_iload_n d_Mo_submit_46 rfl ?_
          refine j_iald (t := 0) d_Mo_submit_47 rfl (hM_o (by decide)) rfl (by omega) (by decide) ?_
          rw [← mI_pos c35]
          refine jn_iadd d_Mo_submit_48 ?_
          refine j_istore (lc' := [_, _, _, _, _, _, _, _]) d_Mo_submit_49 (by decide) rfl rfl ?_
          rw [show σ 4 0 f + σ 4 0 (s - 1) = σ 4 0 f + am σ s from by unfold am; rw [if_neg c35]]
          exact lp_sub_4 hb h8 f s hf hs a ha
        · refine j_iconst (v := nI 0) d_Mo_submit_38 (by decide +kernel) ?_
          refine j_goto (t := 48) d_Mo_submit_39 (by decide) ?_
          refine jn_iadd d_Mo_submit_48 ?_
          refine j_istore (lc' := [_, _, _, _, _, _, _, _]) d_Mo_submit_49 (by decide) rfl rfl ?_
          rw [show σ 4 0 f + 0 = σ 4 0 f + am σ s from by unfold am; rw [if_pos c35]]
          exact lp_sub_4 hb h8 f s hf hs a ha
      · exfalso; first | exact c23 | omega | exact c23 (inr_nI (by omega) hf) | exact c23 ((inr_mI (by omega) (by omega)).mpr ⟨by omega, by omega⟩)
    · first | refine j_aload_n d_Mo_submit_13 rfl ?_ | refine j_aload_nq d_Mo_submit_13 rfl ?_ | refine j_aload_nN d_Mo_submit_13 rfl ?_
      refine j_iload_n d_Mo_submit_14 rfl ?_
      refine j_callV0 (As := [_]) G0_good G0_E d_Mo_submit_15 c_Mo_107 rfl rfl (m_isOutput hb (mI s)) (hM_o (by decide)) rfl rfl (by decide) (Nat.le_of_ble_eq_true rfl) ?_
      rintro _ _ ⟨rfl, rfl⟩
      first | refine c_if_eq (t := 26) d_Mo_submit_18 (by decide) (fun c18 => ?_) (fun c18 => ?_) | refine n_if_eq (t := 26) d_Mo_submit_18 (by decide) (by omega) (fun c18 => ?_) (fun c18 => ?_) | refine j_if_eq (t := 26) d_Mo_submit_18 (by decide) (fun c18 => ?_) (fun c18 => ?_)
      · exfalso; first | exact c18 | omega | exact c18 (inr_nI (by omega) hf) | exact c18 ((inr_mI (by omega) (by omega)).mpr ⟨by omega, by omega⟩)
      · refine j_iload_n d_Mo_submit_21 rfl ?_
        refine j_iload_n d_Mo_submit_22 rfl ?_
        first | refine nn_icmp_ne (t := 28) d_Mo_submit_23 (by decide) (by omega) (by omega) (fun c23 => ?_) (fun c23 => ?_) | refine mm_icmp_ne (t := 28) d_Mo_submit_23 (by decide) (by omega) (by omega) (fun c23 => ?_) (fun c23 => ?_) | refine mn_icmp_ne (t := 28) d_Mo_submit_23 (by decide) (by omega) (by omega) (fun c23 => ?_) (fun c23 => ?_) | refine nm_icmp_ne (t := 28) d_Mo_submit_23 (by decide) (by omega) (by omega) (fun c23 => ?_) (fun c23 => ?_) | refine j_icmp_ne (t := 28) d_Mo_submit_23 (by decide) (fun c23 => ?_) (fun c23 => ?_)
        · first | refine j_aload_n d_Mo_submit_28 rfl ?_ | refine j_aload_nq d_Mo_submit_28 rfl ?_ | refine j_aload_nN d_Mo_submit_28 rfl ?_
          refine j_get d_Mo_submit_29 f_Mo_19 (hM_o (by decide)) rfl ?_
          refine j_iload_n d_Mo_submit_32 rfl ?_
          refine j_iald (t := 0) d_Mo_submit_33 rfl (hM_o (by decide)) rfl (by omega) (by decide) ?_
          refine j_iload_n d_Mo_submit_34 rfl ?_
          refine m_if_ge (t := 42) d_Mo_submit_35 (by decide) (by omega) (fun c35 => ?_) (fun c35 => ?_)
          · first | refine j_aload_n d_Mo_submit_42 rfl ?_ | refine j_aload_nq d_Mo_submit_42 rfl ?_ | refine j_aload_nN d_Mo_submit_42 rfl ?_
            refine j_get d_Mo_submit_43 f_Mo_19 (hM_o (by decide)) rfl ?_
            rw [mI_pos c35]
            refine j_iload_n d_Mo_submit_46 rfl ?_
            refine j_iald (t := 0) d_Mo_submit_47 rfl (hM_o (by decide)) rfl (by omega) (by decide) ?_
            rw [← mI_pos c35]
            refine jn_iadd d_Mo_submit_48 ?_
            refine j_istore (lc' := [_, _, _, _, _, _, _, _]) d_Mo_submit_49 (by decide) rfl rfl ?_
            rw [show σ 4 0 f + σ 4 0 (s - 1) = σ 4 0 f + am σ s from by unfold am; rw [if_neg c35]]
            exact lp_sub_4 hb h8 f s hf hs a ha
          · refine j_iconst (v := nI 0) d_Mo_submit_38 (by decide +kernel) ?_
            refine j_goto (t := 48) d_Mo_submit_39 (by decide) ?_
            refine jn_iadd d_Mo_submit_48 ?_
            refine j_istore (lc' := [_, _, _, _, _, _, _, _]) d_Mo_submit_49 (by decide) rfl rfl ?_
            rw [show σ 4 0 f + 0 = σ 4 0 f + am σ s from by unfold am; rw [if_pos c35]]
            exact lp_sub_4 hb h8 f s hf hs a ha
        · exfalso; first | exact c23 | omega | exact c23 (inr_nI (by omega) hf) | exact c23 ((inr_mI (by omega) (by omega)).mpr ⟨by omega, by omega⟩)

set_option maxHeartbeats 4000000 in
set_option maxRecDepth 100000 in
theorem lp_sub_8 {l : Launch} {D : va_G} {M nx : Nat} {L : Int32} {σ ρ : Sg} {g : Nat → Option va_E} (hb : bd σ) (h8 : σ 33 0 0 ≤ 8) (f s : Nat) (hf : f < 4 + 2 * σ 33 0 0) (hs : s ≤ 4 + 2 * σ 33 0 0) (b : Nat) (hbs : b ≤ σ 4 0 f + am σ s) (h88 : σ 33 0 0 = 8) : J (G0 l D) jT m_Mo_submit 2 (fun v h => v = some (.int (-2)) ∧ h = (hM D M L σ ρ g, nx)) 0 0 51 [some (.ref (M + 0)), some (.int (nI f)), some (.int (mI s)), some (.int (nI b)), some (.int (nI (σ 4 0 f + am σ s))), none, none, none] [] (hM D M L σ ρ g, nx) := by
  have b4 := hb 4 0 f
  have bam : am σ s < 100000 := by unfold am; split; omega; exact hb _ _ _
  refine j_iload_n d_Mo_submit_51 rfl ?_
  first | refine m_if_lt (t := 61) d_Mo_submit_52 (by decide) (by omega) (fun c52 => ?_) (fun c52 => ?_) | refine n_if_lt (t := 61) d_Mo_submit_52 (by decide) (by omega) (fun c52 => ?_) (fun c52 => ?_) | refine j_if_lt (t := 61) d_Mo_submit_52 (by decide) (fun c52 => ?_) (fun c52 => ?_)
  · exfalso; first | exact c52 | omega
  · refine j_iload_n d_Mo_submit_55 rfl ?_
    refine j_iload d_Mo_submit_56 rfl ?_
    first | refine nn_icmp_le (t := 63) d_Mo_submit_58 (by decide) (by omega) (by omega) (fun c58 => ?_) (fun c58 => ?_) | refine mm_icmp_le (t := 63) d_Mo_submit_58 (by decide) (by omega) (by omega) (fun c58 => ?_) (fun c58 => ?_) | refine mn_icmp_le (t := 63) d_Mo_submit_58 (by decide) (by omega) (by omega) (fun c58 => ?_) (fun c58 => ?_) | refine nm_icmp_le (t := 63) d_Mo_submit_58 (by decide) (by omega) (by omega) (fun c58 => ?_) (fun c58 => ?_) | refine j_icmp_le (t := 63) d_Mo_submit_58 (by decide) (fun c58 => ?_) (fun c58 => ?_)
    · first | refine j_aload_n d_Mo_submit_63 rfl ?_ | refine j_aload_nq d_Mo_submit_63 rfl ?_ | refine j_aload_nN d_Mo_submit_63 rfl ?_
      refine j_get d_Mo_submit_64 f_Mo_100 (hM_o (by decide)) rfl ?_
      refine j_bipush (v := nI 8) d_Mo_submit_67 (by decide +kernel) ?_
      first | refine nn_icmp_ne (t := 75) d_Mo_submit_69 (by decide) (by omega) (by omega) (fun c69 => ?_) (fun c69 => ?_) | refine mm_icmp_ne (t := 75) d_Mo_submit_69 (by decide) (by omega) (by omega) (fun c69 => ?_) (fun c69 => ?_) | refine mn_icmp_ne (t := 75) d_Mo_submit_69 (by decide) (by omega) (by omega) (fun c69 => ?_) (fun c69 => ?_) | refine nm_icmp_ne (t := 75) d_Mo_submit_69 (by decide) (by omega) (by omega) (fun c69 => ?_) (fun c69 => ?_) | refine j_icmp_ne (t := 75) d_Mo_submit_69 (by decide) (fun c69 => ?_) (fun c69 => ?_)
      · exfalso; first | exact c69 | omega
      · refine j_bipush (v := (-2)) d_Mo_submit_72 (by decide +kernel) ?_
        exact j_iret d_Mo_submit_74 rfl ⟨rfl, rfl⟩
    · exfalso; first | exact c58 | omega

set_option maxHeartbeats 4000000 in
set_option maxRecDepth 100000 in
theorem m_sub_8 {l : Launch} {D : va_G} {M nx : Nat} {L : Int32} {σ ρ : Sg} {g : Nat → Option va_E} (hb : bd σ) (h8 : σ 33 0 0 ≤ 8) (f s : Nat) (hf : f < 4 + 2 * σ 33 0 0) (hs : s ≤ 4 + 2 * σ 33 0 0) (hne : f + 1 ≠ s) (b : Nat) (hbs : b ≤ σ 4 0 f + am σ s) (h88 : σ 33 0 0 = 8) : jM (G0 l D) m_Mo_submit 2 0 0 [.ref (M + 0), .int (nI f), .int (mI s), .int (nI b)] (hM D M L σ ρ g, nx) (fun v h => v = some (.int (-2)) ∧ h = (hM D M L σ ρ g, nx)) := by
  refine jM.of (by decide +kernel) (Nat.le_of_ble_eq_true rfl) rfl ?_
  have b4 := hb 4 0 f
  have bam : am σ s < 100000 := by unfold am; split; omega; exact hb _ _ _

  first | refine j_aload_n d_Mo_submit_0 rfl ?_ | refine j_aload_nq d_Mo_submit_0 rfl ?_ | refine j_aload_nN d_Mo_submit_0 rfl ?_
  refine j_iload_n d_Mo_submit_1 rfl ?_
  refine j_callV0 (As := [_]) G0_good G0_E d_Mo_submit_2 c_Mo_107 rfl rfl (m_isOutput hb (nI f)) (hM_o (by decide)) rfl rfl (by decide) (Nat.le_of_ble_eq_true rfl) ?_
  rintro _ _ ⟨rfl, rfl⟩
  first | refine c_if_eq (t := 26) d_Mo_submit_5 (by decide) (fun c5 => ?_) (fun c5 => ?_) | refine n_if_eq (t := 26) d_Mo_submit_5 (by decide) (by omega) (fun c5 => ?_) (fun c5 => ?_) | refine j_if_eq (t := 26) d_Mo_submit_5 (by decide) (fun c5 => ?_) (fun c5 => ?_)
  · exfalso; first | exact c5 | omega | exact c5 (inr_nI (by omega) hf) | exact c5 ((inr_mI (by omega) (by omega)).mpr ⟨by omega, by omega⟩)
  · refine j_iload_n d_Mo_submit_8 rfl ?_
    refine j_iconst (v := mI 0) d_Mo_submit_9 (by decide +kernel) ?_
    first | refine nn_icmp_eq (t := 21) d_Mo_submit_10 (by decide) (by omega) (by omega) (fun c10 => ?_) (fun c10 => ?_) | refine mm_icmp_eq (t := 21) d_Mo_submit_10 (by decide) (by omega) (by omega) (fun c10 => ?_) (fun c10 => ?_) | refine mn_icmp_eq (t := 21) d_Mo_submit_10 (by decide) (by omega) (by omega) (fun c10 => ?_) (fun c10 => ?_) | refine nm_icmp_eq (t := 21) d_Mo_submit_10 (by decide) (by omega) (by omega) (fun c10 => ?_) (fun c10 => ?_) | refine j_icmp_eq (t := 21) d_Mo_submit_10 (by decide) (fun c10 => ?_) (fun c10 => ?_)
    · refine j_iload_n d_Mo_submit_21 rfl ?_
      refine j_iload_n d_Mo_submit_22 rfl ?_
      first | refine nn_icmp_ne (t := 28) d_Mo_submit_23 (by decide) (by omega) (by omega) (fun c23 => ?_) (fun c23 => ?_) | refine mm_icmp_ne (t := 28) d_Mo_submit_23 (by decide) (by omega) (by omega) (fun c23 => ?_) (fun c23 => ?_) | refine mn_icmp_ne (t := 28) d_Mo_submit_23 (by decide) (by omega) (by omega) (fun c23 => ?_) (fun c23 => ?_) | refine nm_icmp_ne (t := 28) d_Mo_submit_23 (by decide) (by omega) (by omega) (fun c23 => ?_) (fun c23 => ?_) | refine j_icmp_ne (t := 28) d_Mo_submit_23 (by decide) (fun c23 => ?_) (fun c23 => ?_)
      · first | refine j_aload_n d_Mo_submit_28 rfl ?_ | refine j_aload_nq d_Mo_submit_28 rfl ?_ | refine j_aload_nN d_Mo_submit_28 rfl ?_
        refine j_get d_Mo_submit_29 f_Mo_19 (hM_o (by decide)) rfl ?_
        refine j_iload_n d_Mo_submit_32 rfl ?_
        refine j_iald (t := 0) d_Mo_submit_33 rfl (hM_o (by decide)) rfl (by omega) (by decide) ?_
        refine j_iload_n d_Mo_submit_34 rfl ?_
        refine m_if_ge (t := 42) d_Mo_submit_35 (by decide) (by omega) (fun c35 => ?_) (fun c35 => ?_)
        · first | refine j_aload_n d_Mo_submit_42 rfl ?_ | refine j_aload_nq d_Mo_submit_42 rfl ?_ | refine j_aload_nN d_Mo_submit_42 rfl ?_
          refine j_get d_Mo_submit_43 f_Mo_19 (hM_o (by decide)) rfl ?_
          rw [mI_pos c35]
          refine j_iload_n d_Mo_submit_46 rfl ?_
          refine j_iald (t := 0) d_Mo_submit_47 rfl (hM_o (by decide)) rfl (by omega) (by decide) ?_
          rw [← mI_pos c35]
          refine jn_iadd d_Mo_submit_48 ?_
          refine j_istore (lc' := [_, _, _, _, _, _, _, _]) d_Mo_submit_49 (by decide) rfl rfl ?_
          rw [show σ 4 0 f + σ 4 0 (s - 1) = σ 4 0 f + am σ s from by unfold am; rw [if_neg c35]]
          exact lp_sub_8 hb h8 f s hf hs b hbs h88
        · refine j_iconst (v := nI 0) d_Mo_submit_38 (by decide +kernel) ?_
          refine j_goto (t := 48) d_Mo_submit_39 (by decide) ?_
          refine jn_iadd d_Mo_submit_48 ?_
          refine j_istore (lc' := [_, _, _, _, _, _, _, _]) d_Mo_submit_49 (by decide) rfl rfl ?_
          rw [show σ 4 0 f + 0 = σ 4 0 f + am σ s from by unfold am; rw [if_pos c35]]
          exact lp_sub_8 hb h8 f s hf hs b hbs h88
      · exfalso; first | exact c23 | omega | exact c23 (inr_nI (by omega) hf) | exact c23 ((inr_mI (by omega) (by omega)).mpr ⟨by omega, by omega⟩)
    · first | refine j_aload_n d_Mo_submit_13 rfl ?_ | refine j_aload_nq d_Mo_submit_13 rfl ?_ | refine j_aload_nN d_Mo_submit_13 rfl ?_
      refine j_iload_n d_Mo_submit_14 rfl ?_
      refine j_callV0 (As := [_]) G0_good G0_E d_Mo_submit_15 c_Mo_107 rfl rfl (m_isOutput hb (mI s)) (hM_o (by decide)) rfl rfl (by decide) (Nat.le_of_ble_eq_true rfl) ?_
      rintro _ _ ⟨rfl, rfl⟩
      first | refine c_if_eq (t := 26) d_Mo_submit_18 (by decide) (fun c18 => ?_) (fun c18 => ?_) | refine n_if_eq (t := 26) d_Mo_submit_18 (by decide) (by omega) (fun c18 => ?_) (fun c18 => ?_) | refine j_if_eq (t := 26) d_Mo_submit_18 (by decide) (fun c18 => ?_) (fun c18 => ?_)
      · exfalso; first | exact c18 | omega | exact c18 (inr_nI (by omega) hf) | exact c18 ((inr_mI (by omega) (by omega)).mpr ⟨by omega, by omega⟩)
      · refine j_iload_n d_Mo_submit_21 rfl ?_
        refine j_iload_n d_Mo_submit_22 rfl ?_
        first | refine nn_icmp_ne (t := 28) d_Mo_submit_23 (by decide) (by omega) (by omega) (fun c23 => ?_) (fun c23 => ?_) | refine mm_icmp_ne (t := 28) d_Mo_submit_23 (by decide) (by omega) (by omega) (fun c23 => ?_) (fun c23 => ?_) | refine mn_icmp_ne (t := 28) d_Mo_submit_23 (by decide) (by omega) (by omega) (fun c23 => ?_) (fun c23 => ?_) | refine nm_icmp_ne (t := 28) d_Mo_submit_23 (by decide) (by omega) (by omega) (fun c23 => ?_) (fun c23 => ?_) | refine j_icmp_ne (t := 28) d_Mo_submit_23 (by decide) (fun c23 => ?_) (fun c23 => ?_)
        · first | refine j_aload_n d_Mo_submit_28 rfl ?_ | refine j_aload_nq d_Mo_submit_28 rfl ?_ | refine j_aload_nN d_Mo_submit_28 rfl ?_
          refine j_get d_Mo_submit_29 f_Mo_19 (hM_o (by decide)) rfl ?_
          refine j_iload_n d_Mo_submit_32 rfl ?_
          refine j_iald (t := 0) d_Mo_submit_33 rfl (hM_o (by decide)) rfl (by omega) (by decide) ?_
          refine j_iload_n d_Mo_submit_34 rfl ?_
          refine m_if_ge (t := 42) d_Mo_submit_35 (by decide) (by omega) (fun c35 => ?_) (fun c35 => ?_)
          · first | refine j_aload_n d_Mo_submit_42 rfl ?_ | refine j_aload_nq d_Mo_submit_42 rfl ?_ | refine j_aload_nN d_Mo_submit_42 rfl ?_
            refine j_get d_Mo_submit_43 f_Mo_19 (hM_o (by decide)) rfl ?_
            rw [mI_pos c35]
            refine j_iload_n d_Mo_submit_46 rfl ?_
            refine j_iald (t := 0) d_Mo_submit_47 rfl (hM_o (by decide)) rfl (by omega) (by decide) ?_
            rw [← mI_pos c35]
            refine jn_iadd d_Mo_submit_48 ?_
            refine j_istore (lc' := [_, _, _, _, _, _, _, _]) d_Mo_submit_49 (by decide) rfl rfl ?_
            rw [show σ 4 0 f + σ 4 0 (s - 1) = σ 4 0 f + am σ s from by unfold am; rw [if_neg c35]]
            exact lp_sub_8 hb h8 f s hf hs b hbs h88
          · refine j_iconst (v := nI 0) d_Mo_submit_38 (by decide +kernel) ?_
            refine j_goto (t := 48) d_Mo_submit_39 (by decide) ?_
            refine jn_iadd d_Mo_submit_48 ?_
            refine j_istore (lc' := [_, _, _, _, _, _, _, _]) d_Mo_submit_49 (by decide) rfl rfl ?_
            rw [show σ 4 0 f + 0 = σ 4 0 f + am σ s from by unfold am; rw [if_pos c35]]
            exact lp_sub_8 hb h8 f s hf hs b hbs h88
        · exfalso; first | exact c23 | omega | exact c23 (inr_nI (by omega) hf) | exact c23 ((inr_mI (by omega) (by omega)).mpr ⟨by omega, by omega⟩)

theorem sAdd_34 {σ : Sg} {f s b : Nat} : sAdd σ f s b 34 = σ 34 := by
  unfold sAdd; rw [U_ne (by decide), U_ne (by decide), U_ne (by decide), U_ne (by decide), U_ne (by decide), U_ne (by decide)]
theorem sAdd_1 {σ : Sg} {f s b : Nat} : sAdd σ f s b 1 0 (σ 33 0 0) = f := by
  unfold sAdd; rw [U_ne (by decide), U_ne (by decide), U_ne (by decide), U_ne (by decide), U_ne (by decide), U_at, if_pos ⟨rfl, rfl⟩]

set_option maxHeartbeats 4000000 in
set_option maxRecDepth 100000 in
theorem lp_sub_l {l : Launch} {D : va_G} {M nx : Nat} {L : Int32} {g : Nat → Option va_E} {σ : Sg} {c : Nat → Nat → Nat} (ic : Pu.Ic c σ) (fc : FC L c) (f s : Nat) (hf : f < 4 + 2 * σ 33 0 0) (hs : s ≤ 4 + 2 * σ 33 0 0) (b : Nat) (hbs : b ≤ σ 4 0 f + am σ s) (h7 : σ 33 0 0 < 8) : ∀ (m : Nat) (j n : Nat) (τ ρ : Sg), j ≤ 2 → 2 - j < m → τ = mk (inS (sAdd σ f s b) (σ 33 0 0)) 0 (σ 33 0 0) j (sAdd σ f s b) → n + σ 34 0 0 = τ 34 0 0 → J (G0 l D) jT m_Mo_submit 6 (fun v h => v = some (.int (nI (σ 33 0 0))) ∧ ∃ ρ', h = (hM D M L (allF 8 (mk (inS (sAdd σ f s b) (σ 33 0 0)) 0 (σ 33 0 0) 2 (sAdd σ f s b))) ρ' g, nx)) 0 0 140 [some (.ref (M + 0)), some (.int (nI f)), some (.int (mI s)), some (.int (nI b)), some (.int (nI (σ 4 0 f + am σ s))), some (.int (nI (σ 33 0 0))), some (.int (nI n)), some (.int (nI j))] [] (hM D M L τ ρ g, nx) := by
  intro m
  induction m with
  | zero =>
    intros
    exfalso
    omega
  | succ m ih =>
    intro j n τ ρ h1 h2 hτ hn
    have hb := ic.2.1
    have h30 := Pu.rq30_tx ic.1.bk h7
    have hA := Pu.bd_add ic.1.bk hb h7 hf hs hbs
    have h34 : sAdd σ f s b 34 0 0 = σ 34 0 0 := by rw [sAdd_34]
    have hbt : bd τ := by rw [hτ]; exact Pu.bd_mk hA (by omega) (by omega) (by omega) j (by omega)
    have hnj := mk_34 (P := inS (sAdd σ f s b) (σ 33 0 0)) (k := 0) (t := σ 33 0 0) (σ := sAdd σ f s b) j
    rw [← hτ, h34] at hnj
    have hin : inS τ (σ 33 0 0) j ↔ inS (sAdd σ f s b) (σ 33 0 0) j := by unfold inS; rw [hτ, mk_ne (by omega), mk_ne (by omega)]
    refine j_iload d_Mo_submit_140 rfl ?_
    refine j_iconst (v := nI 2) d_Mo_submit_142 (by decide +kernel) ?_
    first | refine nn_icmp_ge (t := 182) d_Mo_submit_143 (by decide) (by omega) (by omega) (fun c143 => ?_) (fun c143 => ?_) | refine mm_icmp_ge (t := 182) d_Mo_submit_143 (by decide) (by omega) (by omega) (fun c143 => ?_) (fun c143 => ?_) | refine mn_icmp_ge (t := 182) d_Mo_submit_143 (by decide) (by omega) (by omega) (fun c143 => ?_) (fun c143 => ?_) | refine nm_icmp_ge (t := 182) d_Mo_submit_143 (by decide) (by omega) (by omega) (fun c143 => ?_) (fun c143 => ?_) | refine j_icmp_ge (t := 182) d_Mo_submit_143 (by decide) (fun c143 => ?_) (fun c143 => ?_)
    · have ej : j = 2 := by omega
      subst ej
      have ict : Pu.Ic c τ := by rw [hτ]; exact Pu.sub_Ic ic h7 hf hs hbs
      have hmk := Pu.mk_Mk (σ := sAdd σ f s b) (P := inS (sAdd σ f s b) (σ 33 0 0)) (k := 0) (t := σ 33 0 0)
      have hnz : ¬ n = 0 := by
        intro z
        obtain ⟨q, h5, h6⟩ := hmk.ex (f % 2) (by omega) (Or.inl (by rw [sAdd_1]))
        rw [← hτ, sAdd_34] at *
        omega
      refine j_iload d_Mo_submit_182 rfl ?_
      first | refine n_if_le (t := 191) d_Mo_submit_184 (by decide) (by omega) (fun c184 => ?_) (fun c184 => ?_) | refine j_if_le (t := 191) d_Mo_submit_184 (by decide) (fun c184 => ?_) (fun c184 => ?_)
      · exfalso; first | exact c184 | omega
      · first | refine j_aload_n d_Mo_submit_187 rfl ?_ | refine j_aload_nq d_Mo_submit_187 rfl ?_ | refine j_aload_nN d_Mo_submit_187 rfl ?_
        refine j_callV0 (As := []) G0_good G0_E d_Mo_submit_188 c_Mo_118 rfl rfl (m_allAct ict fc) (hM_o (by decide)) rfl rfl (by decide) (Nat.le_of_ble_eq_true rfl) ?_
        rintro _ _ ⟨rfl, ρ', rfl⟩
        refine j_iload d_Mo_submit_191 rfl ?_
        exact j_iret d_Mo_submit_193 rfl ⟨rfl, _, by rw [hτ]⟩
    · first | refine j_aload_n d_Mo_submit_146 rfl ?_ | refine j_aload_nq d_Mo_submit_146 rfl ?_ | refine j_aload_nN d_Mo_submit_146 rfl ?_
      refine j_iload d_Mo_submit_147 rfl ?_
      refine j_iload d_Mo_submit_149 rfl ?_
      refine j_callV0 (As := [_, _]) G0_good G0_E d_Mo_submit_151 c_Mo_111 rfl rfl (m_takes hbt (σ 33 0 0) j h7 (by omega)) (hM_o (by decide)) rfl rfl (by decide) (Nat.le_of_ble_eq_true rfl) ?_
      rintro _ _ ⟨rfl, rfl⟩
      first | refine c_if_eq (t := 172) d_Mo_submit_154 (by decide) (fun c154 => ?_) (fun c154 => ?_) | refine n_if_eq (t := 172) d_Mo_submit_154 (by decide) (by omega) (fun c154 => ?_) (fun c154 => ?_) | refine j_if_eq (t := 172) d_Mo_submit_154 (by decide) (fun c154 => ?_) (fun c154 => ?_)
      · refine j_iload d_Mo_submit_172 rfl ?_
        refine j_istore (lc' := [_, _, _, _, _, _, _, _]) d_Mo_submit_174 (by decide) rfl rfl ?_
        refine n_iinc (k := 1) (lc' := [_, _, _, _, _, _, _, _]) d_Mo_submit_176 (by decide +kernel) rfl (by decide) rfl rfl ?_
        refine j_goto (t := 140) d_Mo_submit_179 (by decide) ?_
        exact ih (j + 1) _ _ _ (by omega) (by omega) (by show _ = ifP _ _ (mk (inS (sAdd σ f s b) (σ 33 0 0)) 0 (σ 33 0 0) j (sAdd σ f s b)); rw [ifP_f (fun z => c154 (hin.mpr z)), ← hτ]) hn
      · refine j_iload d_Mo_submit_157 rfl ?_
        first | refine j_aload_n d_Mo_submit_159 rfl ?_ | refine j_aload_nq d_Mo_submit_159 rfl ?_ | refine j_aload_nN d_Mo_submit_159 rfl ?_
        refine j_iload d_Mo_submit_160 rfl ?_
        refine j_iconst (v := nI 0) d_Mo_submit_162 (by decide +kernel) ?_
        refine j_iload d_Mo_submit_163 rfl ?_
        refine j_callV0 (As := [_, _, _]) G0_good G0_E d_Mo_submit_165 c_Mo_114 rfl rfl (m_ask hbt (by omega) j 0 (σ 33 0 0)) (hM_o (by decide)) rfl rfl (by decide) (Nat.le_of_ble_eq_true rfl) ?_
        rintro _ _ ⟨rfl, rfl⟩
        refine jn_iadd d_Mo_submit_168 ?_
        refine j_goto (t := 174) d_Mo_submit_169 (by decide) ?_
        refine j_istore (lc' := [_, _, _, _, _, _, _, _]) d_Mo_submit_174 (by decide) rfl rfl ?_
        refine n_iinc (k := 1) (lc' := [_, _, _, _, _, _, _, _]) d_Mo_submit_176 (by decide +kernel) rfl (by decide) rfl rfl ?_
        refine j_goto (t := 140) d_Mo_submit_179 (by decide) ?_
        exact ih (j + 1) _ _ _ (by omega) (by omega) (by show _ = ifP _ (sMake (mk (inS (sAdd σ f s b) (σ 33 0 0)) 0 (σ 33 0 0) j (sAdd σ f s b)) j 0 (σ 33 0 0)) _; rw [ifP_t (hin.mp c154), ← hτ]) (by rw [sMake_34]; omega)

set_option maxHeartbeats 4000000 in
set_option maxRecDepth 100000 in
theorem lp_sub_t {l : Launch} {D : va_G} {M nx : Nat} {L : Int32} {σ ρ : Sg} {g : Nat → Option va_E} {c : Nat → Nat → Nat} (ic : Pu.Ic c σ) (fc : FC L c) (f s : Nat) (hf : f < 4 + 2 * σ 33 0 0) (hs : s ≤ 4 + 2 * σ 33 0 0) (b : Nat) (hbs : b ≤ σ 4 0 f + am σ s) (h7 : σ 33 0 0 < 8) : J (G0 l D) jT m_Mo_submit 6 (fun v h => v = some (.int (nI (σ 33 0 0))) ∧ ∃ ρ', h = (hM D M L (allF 8 (mk (inS (sAdd σ f s b) (σ 33 0 0)) 0 (σ 33 0 0) 2 (sAdd σ f s b))) ρ' g, nx)) 0 0 51 [some (.ref (M + 0)), some (.int (nI f)), some (.int (mI s)), some (.int (nI b)), some (.int (nI (σ 4 0 f + am σ s))), none, none, none] [] (hM D M L σ ρ g, nx) := by
  have hb := ic.2.1
  have b4 := hb 4 0 f
  have bam : am σ s < 100000 := by unfold am; split; omega; exact hb _ _ _
  refine j_iload_n d_Mo_submit_51 rfl ?_
  first | refine m_if_lt (t := 61) d_Mo_submit_52 (by decide) (by omega) (fun c52 => ?_) (fun c52 => ?_) | refine n_if_lt (t := 61) d_Mo_submit_52 (by decide) (by omega) (fun c52 => ?_) (fun c52 => ?_) | refine j_if_lt (t := 61) d_Mo_submit_52 (by decide) (fun c52 => ?_) (fun c52 => ?_)
  · exfalso; first | exact c52 | omega
  · refine j_iload_n d_Mo_submit_55 rfl ?_
    refine j_iload d_Mo_submit_56 rfl ?_
    first | refine nn_icmp_le (t := 63) d_Mo_submit_58 (by decide) (by omega) (by omega) (fun c58 => ?_) (fun c58 => ?_) | refine mm_icmp_le (t := 63) d_Mo_submit_58 (by decide) (by omega) (by omega) (fun c58 => ?_) (fun c58 => ?_) | refine mn_icmp_le (t := 63) d_Mo_submit_58 (by decide) (by omega) (by omega) (fun c58 => ?_) (fun c58 => ?_) | refine nm_icmp_le (t := 63) d_Mo_submit_58 (by decide) (by omega) (by omega) (fun c58 => ?_) (fun c58 => ?_) | refine j_icmp_le (t := 63) d_Mo_submit_58 (by decide) (fun c58 => ?_) (fun c58 => ?_)
    · first | refine j_aload_n d_Mo_submit_63 rfl ?_ | refine j_aload_nq d_Mo_submit_63 rfl ?_ | refine j_aload_nN d_Mo_submit_63 rfl ?_
      refine j_get d_Mo_submit_64 f_Mo_100 (hM_o (by decide)) rfl ?_
      refine j_bipush (v := nI 8) d_Mo_submit_67 (by decide +kernel) ?_
      first | refine nn_icmp_ne (t := 75) d_Mo_submit_69 (by decide) (by omega) (by omega) (fun c69 => ?_) (fun c69 => ?_) | refine mm_icmp_ne (t := 75) d_Mo_submit_69 (by decide) (by omega) (by omega) (fun c69 => ?_) (fun c69 => ?_) | refine mn_icmp_ne (t := 75) d_Mo_submit_69 (by decide) (by omega) (by omega) (fun c69 => ?_) (fun c69 => ?_) | refine nm_icmp_ne (t := 75) d_Mo_submit_69 (by decide) (by omega) (by omega) (fun c69 => ?_) (fun c69 => ?_) | refine j_icmp_ne (t := 75) d_Mo_submit_69 (by decide) (fun c69 => ?_) (fun c69 => ?_)
      · first | refine j_aload_n d_Mo_submit_75 rfl ?_ | refine j_aload_nq d_Mo_submit_75 rfl ?_ | refine j_aload_nN d_Mo_submit_75 rfl ?_
        refine j_get d_Mo_submit_76 f_Mo_100 (hM_o (by decide)) rfl ?_
        refine j_istore (lc' := [_, _, _, _, _, _, _, _]) d_Mo_submit_79 (by decide) rfl rfl ?_
        first | refine j_aload_n d_Mo_submit_81 rfl ?_ | refine j_aload_nq d_Mo_submit_81 rfl ?_ | refine j_aload_nN d_Mo_submit_81 rfl ?_
        refine j_get d_Mo_submit_82 f_Mo_7 (hM_o (by decide)) rfl ?_
        refine j_iload d_Mo_submit_85 rfl ?_
        refine j_iload_n d_Mo_submit_87 rfl ?_
        refine j_iast (t := 0) d_Mo_submit_88 rfl (hM_o (by decide)) rfl (by omega) (by decide) (J.hq o1 ?_)
        first | refine j_aload_n d_Mo_submit_89 rfl ?_ | refine j_aload_nq d_Mo_submit_89 rfl ?_ | refine j_aload_nN d_Mo_submit_89 rfl ?_
        refine j_get d_Mo_submit_90 f_Mo_13 (hM_o (by decide)) rfl ?_
        refine j_iload d_Mo_submit_93 rfl ?_
        refine j_iload_n d_Mo_submit_95 rfl ?_
        refine j_iast (t := 0) d_Mo_submit_96 rfl (hM_o (by decide)) rfl (by omega) (by decide) (J.hq o2 ?_)
        first | refine j_aload_n d_Mo_submit_97 rfl ?_ | refine j_aload_nq d_Mo_submit_97 rfl ?_ | refine j_aload_nN d_Mo_submit_97 rfl ?_
        refine j_get d_Mo_submit_98 f_Mo_19 (hM_o (by decide)) rfl ?_
        refine j_iconst (v := nI 4) d_Mo_submit_101 (by decide +kernel) ?_
        refine j_iconst (v := nI 2) d_Mo_submit_102 (by decide +kernel) ?_
        refine j_iload d_Mo_submit_103 rfl ?_
        refine jn_imul d_Mo_submit_105 ?_
        refine jn_iadd d_Mo_submit_106 ?_
        refine j_iload_n d_Mo_submit_107 rfl ?_
        refine j_iast (t := 0) d_Mo_submit_108 rfl (hM_o (by decide)) rfl (by omega) (by decide) (J.hq o4 ?_)
        first | refine j_aload_n d_Mo_submit_109 rfl ?_ | refine j_aload_nq d_Mo_submit_109 rfl ?_ | refine j_aload_nN d_Mo_submit_109 rfl ?_
        refine j_get d_Mo_submit_110 f_Mo_19 (hM_o (by decide)) rfl ?_
        refine j_iconst (v := nI 5) d_Mo_submit_113 (by decide +kernel) ?_
        refine j_iconst (v := nI 2) d_Mo_submit_114 (by decide +kernel) ?_
        refine j_iload d_Mo_submit_115 rfl ?_
        refine jn_imul d_Mo_submit_117 ?_
        refine jn_iadd d_Mo_submit_118 ?_
        refine j_iload d_Mo_submit_119 rfl ?_
        refine j_iload_n d_Mo_submit_121 rfl ?_
        refine jn_isub d_Mo_submit_122 (by omega) ?_
        refine j_iast (t := 0) d_Mo_submit_123 rfl (hM_o (by decide)) rfl (by omega) (by decide) (J.hq o4 ?_)
        first | refine j_aload_n d_Mo_submit_124 rfl ?_ | refine j_aload_nq d_Mo_submit_124 rfl ?_ | refine j_aload_nN d_Mo_submit_124 rfl ?_
        refine j_dup d_Mo_submit_125 rfl ?_
        refine j_get d_Mo_submit_126 f_Mo_100 (hM_o (by decide)) rfl ?_
        refine j_iconst (v := nI 1) d_Mo_submit_129 (by decide +kernel) ?_
        refine jn_iadd d_Mo_submit_130 ?_
        refine j_put d_Mo_submit_131 p_Mo_100 (hM_o (by decide)) rfl (by first | rfl | decide +kernel) (Nat.le_of_ble_eq_true rfl) (J.hq o33 ?_)
        rw [hM_add (ic.1.bk.sz _ (Nat.le_refl _))]
        refine j_iconst (v := nI 0) d_Mo_submit_134 (by decide +kernel) ?_
        refine j_istore (lc' := [_, _, _, _, _, _, _, _]) d_Mo_submit_135 (by decide) rfl rfl ?_
        refine j_iconst (v := nI 0) d_Mo_submit_137 (by decide +kernel) ?_
        refine j_istore (lc' := [_, _, _, _, _, _, _, _]) d_Mo_submit_138 (by decide) rfl rfl ?_
        exact lp_sub_l ic fc f s hf hs b hbs h7 3 0 0 _ _ (by omega) (by omega) rfl (by rw [Nat.zero_add]; show _ = sAdd σ f s b 34 0 0; rw [sAdd_34])
      · exfalso; first | exact c69 | omega
    · exfalso; first | exact c58 | omega

set_option maxHeartbeats 4000000 in
set_option maxRecDepth 100000 in
theorem m_sub_t {l : Launch} {D : va_G} {M nx : Nat} {L : Int32} {σ ρ : Sg} {g : Nat → Option va_E} (hb : bd σ) (h8 : σ 33 0 0 ≤ 8) (f s : Nat) (hf : f < 4 + 2 * σ 33 0 0) (hs : s ≤ 4 + 2 * σ 33 0 0) (hne : f + 1 ≠ s) {c : Nat → Nat → Nat} (ic : Pu.Ic c σ) (fc : FC L c) (b : Nat) (hbs : b ≤ σ 4 0 f + am σ s) (h7 : σ 33 0 0 < 8) : jM (G0 l D) m_Mo_submit 6 0 0 [.ref (M + 0), .int (nI f), .int (mI s), .int (nI b)] (hM D M L σ ρ g, nx) (fun v h => v = some (.int (nI (σ 33 0 0))) ∧ ∃ ρ', h = (hM D M L (allF 8 (mk (inS (sAdd σ f s b) (σ 33 0 0)) 0 (σ 33 0 0) 2 (sAdd σ f s b))) ρ' g, nx)) := by
  refine jM.of (by decide +kernel) (Nat.le_of_ble_eq_true rfl) rfl ?_
  have b4 := hb 4 0 f
  have bam : am σ s < 100000 := by unfold am; split; omega; exact hb _ _ _

  first | refine j_aload_n d_Mo_submit_0 rfl ?_ | refine j_aload_nq d_Mo_submit_0 rfl ?_ | refine j_aload_nN d_Mo_submit_0 rfl ?_
  refine j_iload_n d_Mo_submit_1 rfl ?_
  refine j_callV0 (As := [_]) G0_good G0_E d_Mo_submit_2 c_Mo_107 rfl rfl (m_isOutput hb (nI f)) (hM_o (by decide)) rfl rfl (by decide) (Nat.le_of_ble_eq_true rfl) ?_
  rintro _ _ ⟨rfl, rfl⟩
  first | refine c_if_eq (t := 26) d_Mo_submit_5 (by decide) (fun c5 => ?_) (fun c5 => ?_) | refine n_if_eq (t := 26) d_Mo_submit_5 (by decide) (by omega) (fun c5 => ?_) (fun c5 => ?_) | refine j_if_eq (t := 26) d_Mo_submit_5 (by decide) (fun c5 => ?_) (fun c5 => ?_)
  · exfalso; first | exact c5 | omega | exact c5 (inr_nI (by omega) hf) | exact c5 ((inr_mI (by omega) (by omega)).mpr ⟨by omega, by omega⟩)
  · refine j_iload_n d_Mo_submit_8 rfl ?_
    refine j_iconst (v := mI 0) d_Mo_submit_9 (by decide +kernel) ?_
    first | refine nn_icmp_eq (t := 21) d_Mo_submit_10 (by decide) (by omega) (by omega) (fun c10 => ?_) (fun c10 => ?_) | refine mm_icmp_eq (t := 21) d_Mo_submit_10 (by decide) (by omega) (by omega) (fun c10 => ?_) (fun c10 => ?_) | refine mn_icmp_eq (t := 21) d_Mo_submit_10 (by decide) (by omega) (by omega) (fun c10 => ?_) (fun c10 => ?_) | refine nm_icmp_eq (t := 21) d_Mo_submit_10 (by decide) (by omega) (by omega) (fun c10 => ?_) (fun c10 => ?_) | refine j_icmp_eq (t := 21) d_Mo_submit_10 (by decide) (fun c10 => ?_) (fun c10 => ?_)
    · refine j_iload_n d_Mo_submit_21 rfl ?_
      refine j_iload_n d_Mo_submit_22 rfl ?_
      first | refine nn_icmp_ne (t := 28) d_Mo_submit_23 (by decide) (by omega) (by omega) (fun c23 => ?_) (fun c23 => ?_) | refine mm_icmp_ne (t := 28) d_Mo_submit_23 (by decide) (by omega) (by omega) (fun c23 => ?_) (fun c23 => ?_) | refine mn_icmp_ne (t := 28) d_Mo_submit_23 (by decide) (by omega) (by omega) (fun c23 => ?_) (fun c23 => ?_) | refine nm_icmp_ne (t := 28) d_Mo_submit_23 (by decide) (by omega) (by omega) (fun c23 => ?_) (fun c23 => ?_) | refine j_icmp_ne (t := 28) d_Mo_submit_23 (by decide) (fun c23 => ?_) (fun c23 => ?_)
      · first | refine j_aload_n d_Mo_submit_28 rfl ?_ | refine j_aload_nq d_Mo_submit_28 rfl ?_ | refine j_aload_nN d_Mo_submit_28 rfl ?_
        refine j_get d_Mo_submit_29 f_Mo_19 (hM_o (by decide)) rfl ?_
        refine j_iload_n d_Mo_submit_32 rfl ?_
        refine j_iald (t := 0) d_Mo_submit_33 rfl (hM_o (by decide)) rfl (by omega) (by decide) ?_
        refine j_iload_n d_Mo_submit_34 rfl ?_
        refine m_if_ge (t := 42) d_Mo_submit_35 (by decide) (by omega) (fun c35 => ?_) (fun c35 => ?_)
        · first | refine j_aload_n d_Mo_submit_42 rfl ?_ | refine j_aload_nq d_Mo_submit_42 rfl ?_ | refine j_aload_nN d_Mo_submit_42 rfl ?_
          refine j_get d_Mo_submit_43 f_Mo_19 (hM_o (by decide)) rfl ?_
          rw [mI_pos c35]
          refine j_iload_n d_Mo_submit_46 rfl ?_
          refine j_iald (t := 0) d_Mo_submit_47 rfl (hM_o (by decide)) rfl (by omega) (by decide) ?_
          rw [← mI_pos c35]
          refine jn_iadd d_Mo_submit_48 ?_
          refine j_istore (lc' := [_, _, _, _, _, _, _, _]) d_Mo_submit_49 (by decide) rfl rfl ?_
          rw [show σ 4 0 f + σ 4 0 (s - 1) = σ 4 0 f + am σ s from by unfold am; rw [if_neg c35]]
          exact lp_sub_t ic fc f s hf hs b hbs h7
        · refine j_iconst (v := nI 0) d_Mo_submit_38 (by decide +kernel) ?_
          refine j_goto (t := 48) d_Mo_submit_39 (by decide) ?_
          refine jn_iadd d_Mo_submit_48 ?_
          refine j_istore (lc' := [_, _, _, _, _, _, _, _]) d_Mo_submit_49 (by decide) rfl rfl ?_
          rw [show σ 4 0 f + 0 = σ 4 0 f + am σ s from by unfold am; rw [if_pos c35]]
          exact lp_sub_t ic fc f s hf hs b hbs h7
      · exfalso; first | exact c23 | omega | exact c23 (inr_nI (by omega) hf) | exact c23 ((inr_mI (by omega) (by omega)).mpr ⟨by omega, by omega⟩)
    · first | refine j_aload_n d_Mo_submit_13 rfl ?_ | refine j_aload_nq d_Mo_submit_13 rfl ?_ | refine j_aload_nN d_Mo_submit_13 rfl ?_
      refine j_iload_n d_Mo_submit_14 rfl ?_
      refine j_callV0 (As := [_]) G0_good G0_E d_Mo_submit_15 c_Mo_107 rfl rfl (m_isOutput hb (mI s)) (hM_o (by decide)) rfl rfl (by decide) (Nat.le_of_ble_eq_true rfl) ?_
      rintro _ _ ⟨rfl, rfl⟩
      first | refine c_if_eq (t := 26) d_Mo_submit_18 (by decide) (fun c18 => ?_) (fun c18 => ?_) | refine n_if_eq (t := 26) d_Mo_submit_18 (by decide) (by omega) (fun c18 => ?_) (fun c18 => ?_) | refine j_if_eq (t := 26) d_Mo_submit_18 (by decide) (fun c18 => ?_) (fun c18 => ?_)
      · exfalso; first | exact c18 | omega | exact c18 (inr_nI (by omega) hf) | exact c18 ((inr_mI (by omega) (by omega)).mpr ⟨by omega, by omega⟩)
      · refine j_iload_n d_Mo_submit_21 rfl ?_
        refine j_iload_n d_Mo_submit_22 rfl ?_
        first | refine nn_icmp_ne (t := 28) d_Mo_submit_23 (by decide) (by omega) (by omega) (fun c23 => ?_) (fun c23 => ?_) | refine mm_icmp_ne (t := 28) d_Mo_submit_23 (by decide) (by omega) (by omega) (fun c23 => ?_) (fun c23 => ?_) | refine mn_icmp_ne (t := 28) d_Mo_submit_23 (by decide) (by omega) (by omega) (fun c23 => ?_) (fun c23 => ?_) | refine nm_icmp_ne (t := 28) d_Mo_submit_23 (by decide) (by omega) (by omega) (fun c23 => ?_) (fun c23 => ?_) | refine j_icmp_ne (t := 28) d_Mo_submit_23 (by decide) (fun c23 => ?_) (fun c23 => ?_)
        · first | refine j_aload_n d_Mo_submit_28 rfl ?_ | refine j_aload_nq d_Mo_submit_28 rfl ?_ | refine j_aload_nN d_Mo_submit_28 rfl ?_
          refine j_get d_Mo_submit_29 f_Mo_19 (hM_o (by decide)) rfl ?_
          refine j_iload_n d_Mo_submit_32 rfl ?_
          refine j_iald (t := 0) d_Mo_submit_33 rfl (hM_o (by decide)) rfl (by omega) (by decide) ?_
          refine j_iload_n d_Mo_submit_34 rfl ?_
          refine m_if_ge (t := 42) d_Mo_submit_35 (by decide) (by omega) (fun c35 => ?_) (fun c35 => ?_)
          · first | refine j_aload_n d_Mo_submit_42 rfl ?_ | refine j_aload_nq d_Mo_submit_42 rfl ?_ | refine j_aload_nN d_Mo_submit_42 rfl ?_
            refine j_get d_Mo_submit_43 f_Mo_19 (hM_o (by decide)) rfl ?_
            rw [mI_pos c35]
            refine j_iload_n d_Mo_submit_46 rfl ?_
            refine j_iald (t := 0) d_Mo_submit_47 rfl (hM_o (by decide)) rfl (by omega) (by decide) ?_
            rw [← mI_pos c35]
            refine jn_iadd d_Mo_submit_48 ?_
            refine j_istore (lc' := [_, _, _, _, _, _, _, _]) d_Mo_submit_49 (by decide) rfl rfl ?_
            rw [show σ 4 0 f + σ 4 0 (s - 1) = σ 4 0 f + am σ s from by unfold am; rw [if_neg c35]]
            exact lp_sub_t ic fc f s hf hs b hbs h7
          · refine j_iconst (v := nI 0) d_Mo_submit_38 (by decide +kernel) ?_
            refine j_goto (t := 48) d_Mo_submit_39 (by decide) ?_
            refine jn_iadd d_Mo_submit_48 ?_
            refine j_istore (lc' := [_, _, _, _, _, _, _, _]) d_Mo_submit_49 (by decide) rfl rfl ?_
            rw [show σ 4 0 f + 0 = σ 4 0 f + am σ s from by unfold am; rw [if_pos c35]]
            exact lp_sub_t ic fc f s hf hs b hbs h7
        · exfalso; first | exact c23 | omega | exact c23 (inr_nI (by omega) hf) | exact c23 ((inr_mI (by omega) (by omega)).mpr ⟨by omega, by omega⟩)

theorem m_submit_bad {l : Launch} {D : va_G} {M nx : Nat} {L : Int32} {σ ρ : Sg} {g : Nat → Option va_E} (hb : bd σ) (h8 : σ 33 0 0 ≤ 8) (x y a : Int32) (h : ¬ Pp σ x y a) : jM (G0 l D) m_Mo_submit 2 0 0 [.ref (M + 0), .int x, .int y, .int a] (hM D M L σ ρ g, nx) (fun v h => v = some (.int (mI 0)) ∧ h = (hM D M L σ ρ g, nx)) := by
  by_cases hx : inr x (4 + 2 * σ 33 0 0)
  · obtain ⟨f, hf, rfl⟩ := inr_of (by omega) hx
    by_cases hy : y = mI 0 ∨ inr y (4 + 2 * σ 33 0 0)
    · obtain ⟨s, hs, rfl⟩ := mI_or (4 + 2 * σ 33 0 0) (by omega) hy
      by_cases he : f + 1 = s
      · exact m_sub_3 hb h8 f s hf hs a he
      · refine m_sub_4 hb h8 f s hf hs he a (fun z => ?_)
        obtain ⟨b, rfl, hb1⟩ := z
        exact h ⟨f, s, b, rfl, rfl, rfl, hf, hs, he, hb1⟩
    · exact m_sub_2 hb h8 f hf y a (fun z => hy (Or.inl z)) (fun z => hy (Or.inr z))
  · exact m_sub_1 hb h8 x y a hx

set_option maxHeartbeats 4000000 in
set_option maxRecDepth 100000 in
theorem lp_answer {l : Launch} {D : va_G} {M nx : Nat} {L : Int32} {σ ρ : Sg} {g : Nat → Option va_E} {c : Nat → Nat → Nat} (ic : Pu.Ic c σ) (q : Nat) (hq : q < σ 34 0 0) : ∀ (m : Nat) (r mm ff : Nat) (x5 : Option Value), r ≤ 4 → 4 - r < m → mm = Pu.manR σ q (σ 5 0 q) r → ff = Pu.fndR σ q (σ 5 0 q) r → J (G0 l D) jT m_Mo_answer 0 (fun v h => v = some (.int (nI (ans σ q))) ∧ h = (hM D M L σ ρ g, nx)) 0 0 7 [some (.ref (M + 0)), some (.int (nI q)), some (.int (nI mm)), some (.int (nI ff)), some (.int (nI r)), x5] [] (hM D M L σ ρ g, nx) := by
  intro m
  induction m with
  | zero =>
    intros
    exfalso
    omega
  | succ m ih =>
    intro r mm ff x5 h1 h2 hm hf
    have hb := ic.2.1
    have r32 := Pu.rq32 ic.1.bk
    have h5 := (ic.1.bk.rq q hq).1
    have b19 := hb 19 (4 * σ 5 0 q + r) q
    have bm := Pu.manR_le (σ := σ) (q := q) (s := σ 5 0 q) r
    refine j_iload d_Mo_answer_7 rfl ?_
    refine j_iconst (v := nI 4) d_Mo_answer_9 (by decide +kernel) ?_
    first | refine nn_icmp_ge (t := 67) d_Mo_answer_10 (by decide) (by omega) (by omega) (fun c10 => ?_) (fun c10 => ?_) | refine mm_icmp_ge (t := 67) d_Mo_answer_10 (by decide) (by omega) (by omega) (fun c10 => ?_) (fun c10 => ?_) | refine mn_icmp_ge (t := 67) d_Mo_answer_10 (by decide) (by omega) (by omega) (fun c10 => ?_) (fun c10 => ?_) | refine nm_icmp_ge (t := 67) d_Mo_answer_10 (by decide) (by omega) (by omega) (fun c10 => ?_) (fun c10 => ?_) | refine j_icmp_ge (t := 67) d_Mo_answer_10 (by decide) (fun c10 => ?_) (fun c10 => ?_)
    · refine j_iload_n d_Mo_answer_67 rfl ?_
      refine j_iconst (v := nI 2) d_Mo_answer_68 (by decide +kernel) ?_
      first | refine nn_icmp_lt (t := 76) d_Mo_answer_69 (by decide) (by omega) (by omega) (fun c69 => ?_) (fun c69 => ?_) | refine mm_icmp_lt (t := 76) d_Mo_answer_69 (by decide) (by omega) (by omega) (fun c69 => ?_) (fun c69 => ?_) | refine mn_icmp_lt (t := 76) d_Mo_answer_69 (by decide) (by omega) (by omega) (fun c69 => ?_) (fun c69 => ?_) | refine nm_icmp_lt (t := 76) d_Mo_answer_69 (by decide) (by omega) (by omega) (fun c69 => ?_) (fun c69 => ?_) | refine j_icmp_lt (t := 76) d_Mo_answer_69 (by decide) (fun c69 => ?_) (fun c69 => ?_)
      · refine j_iconst (v := nI 0) d_Mo_answer_76 (by decide +kernel) ?_
        have e4 : r = 4 := by omega
        subst e4
        exact j_iret d_Mo_answer_77 rfl ⟨by rw [← (Pu.ansR_ans ic.1 hq).1]; unfold Pu.ansR; rw [if_neg (by omega)], rfl⟩
      · refine j_iload_n d_Mo_answer_72 rfl ?_
        refine j_goto (t := 77) d_Mo_answer_73 (by decide) ?_
        have e4 : r = 4 := by omega
        subst e4
        exact j_iret d_Mo_answer_77 rfl ⟨by rw [← (Pu.ansR_ans ic.1 hq).1]; unfold Pu.ansR; rw [if_pos (by omega), hf], rfl⟩
    · first | refine j_aload_n d_Mo_answer_13 rfl ?_ | refine j_aload_nq d_Mo_answer_13 rfl ?_ | refine j_aload_nN d_Mo_answer_13 rfl ?_
      refine j_get d_Mo_answer_14 f_Mo_65 (hM_o (by decide)) rfl ?_
      refine j_bipush (v := nI 32) d_Mo_answer_17 (by decide +kernel) ?_
      refine j_iconst (v := nI 4) d_Mo_answer_19 (by decide +kernel) ?_
      first | refine j_aload_n d_Mo_answer_20 rfl ?_ | refine j_aload_nq d_Mo_answer_20 rfl ?_ | refine j_aload_nN d_Mo_answer_20 rfl ?_
      refine j_get d_Mo_answer_21 f_Mo_22 (hM_o (by decide)) rfl ?_
      refine j_iload_n d_Mo_answer_24 rfl ?_
      refine j_iald (t := 0) d_Mo_answer_25 rfl (hM_o (by decide)) rfl (by omega) (by decide) ?_
      refine jn_imul d_Mo_answer_26 ?_
      refine j_iload d_Mo_answer_27 rfl ?_
      refine jn_iadd d_Mo_answer_29 ?_
      refine jn_imul d_Mo_answer_30 ?_
      refine j_iload_n d_Mo_answer_31 rfl ?_
      refine jn_iadd d_Mo_answer_32 ?_
      refine o_fld (t := 0) (w := 32) d_Mo_answer_33 rfl (hM_o (by decide)) rfl (by omega) (by omega) (by decide) ?_
      refine j_istore (lc' := [_, _, _, _, _, _]) d_Mo_answer_34 (by decide) rfl rfl ?_
      refine j_iload d_Mo_answer_36 rfl ?_
      first | refine n_if_le (t := 47) d_Mo_answer_38 (by decide) (by omega) (fun c38 => ?_) (fun c38 => ?_) | refine j_if_le (t := 47) d_Mo_answer_38 (by decide) (fun c38 => ?_) (fun c38 => ?_)
      · refine j_iload_n d_Mo_answer_47 rfl ?_
        refine j_istore_n (lc' := [_, _, _, _, _, _]) d_Mo_answer_48 (by decide) rfl rfl ?_
        refine j_iload d_Mo_answer_49 rfl ?_
        first | refine n_if_le (t := 59) d_Mo_answer_51 (by decide) (by omega) (fun c51 => ?_) (fun c51 => ?_) | refine j_if_le (t := 59) d_Mo_answer_51 (by decide) (fun c51 => ?_) (fun c51 => ?_)
        · refine j_iload_n d_Mo_answer_59 rfl ?_
          refine j_istore_n (lc' := [_, _, _, _, _, _]) d_Mo_answer_60 (by decide) rfl rfl ?_
          refine n_iinc (k := 1) (lc' := [_, _, _, _, _, _]) d_Mo_answer_61 (by decide +kernel) rfl (by decide) rfl rfl ?_
          refine j_goto (t := 7) d_Mo_answer_64 (by decide) ?_
          exact ih (r + 1) _ _ _ (by omega) (by omega) (by show _ = Pu.manR σ q (σ 5 0 q) r + (if σ 19 (4 * σ 5 0 q + r) q = 0 then 0 else 1); rw [if_pos c38, Nat.add_zero, hm]) (by show _ = (if σ 19 (4 * σ 5 0 q + r) q = 0 then Pu.fndR σ q (σ 5 0 q) r else σ 19 (4 * σ 5 0 q + r) q); rw [if_pos c38, hf])
        · exfalso; first | exact c51 | omega
      · refine j_iload_n d_Mo_answer_41 rfl ?_
        refine j_iconst (v := nI 1) d_Mo_answer_42 (by decide +kernel) ?_
        refine jn_iadd d_Mo_answer_43 ?_
        refine j_goto (t := 48) d_Mo_answer_44 (by decide) ?_
        refine j_istore_n (lc' := [_, _, _, _, _, _]) d_Mo_answer_48 (by decide) rfl rfl ?_
        refine j_iload d_Mo_answer_49 rfl ?_
        first | refine n_if_le (t := 59) d_Mo_answer_51 (by decide) (by omega) (fun c51 => ?_) (fun c51 => ?_) | refine j_if_le (t := 59) d_Mo_answer_51 (by decide) (fun c51 => ?_) (fun c51 => ?_)
        · exfalso; first | exact c51 | omega
        · refine j_iload d_Mo_answer_54 rfl ?_
          refine j_goto (t := 60) d_Mo_answer_56 (by decide) ?_
          refine j_istore_n (lc' := [_, _, _, _, _, _]) d_Mo_answer_60 (by decide) rfl rfl ?_
          refine n_iinc (k := 1) (lc' := [_, _, _, _, _, _]) d_Mo_answer_61 (by decide +kernel) rfl (by decide) rfl rfl ?_
          refine j_goto (t := 7) d_Mo_answer_64 (by decide) ?_
          exact ih (r + 1) _ _ _ (by omega) (by omega) (by show _ = Pu.manR σ q (σ 5 0 q) r + (if σ 19 (4 * σ 5 0 q + r) q = 0 then 0 else 1); rw [if_neg c38, hm]) (by show _ = (if σ 19 (4 * σ 5 0 q + r) q = 0 then Pu.fndR σ q (σ 5 0 q) r else σ 19 (4 * σ 5 0 q + r) q); rw [if_neg c38])

set_option maxHeartbeats 4000000 in
set_option maxRecDepth 100000 in
theorem m_answer {l : Launch} {D : va_G} {M nx : Nat} {L : Int32} {σ ρ : Sg} {g : Nat → Option va_E} {c : Nat → Nat → Nat} (ic : Pu.Ic c σ) (q : Nat) (hq : q < σ 34 0 0) : jM (G0 l D) m_Mo_answer 0 0 0 [.ref (M + 0), .int (nI q)] (hM D M L σ ρ g, nx) (fun v h => v = some (.int (nI (ans σ q))) ∧ h = (hM D M L σ ρ g, nx)) := by
  refine jM.of (by decide +kernel) (Nat.le_of_ble_eq_true rfl) rfl ?_
  refine j_iconst (v := nI 0) d_Mo_answer_0 (by decide +kernel) ?_
  refine j_istore_n (lc' := [_, _, _, _, _, _]) d_Mo_answer_1 (by decide) rfl rfl ?_
  refine j_iconst (v := nI 0) d_Mo_answer_2 (by decide +kernel) ?_
  refine j_istore_n (lc' := [_, _, _, _, _, _]) d_Mo_answer_3 (by decide) rfl rfl ?_
  refine j_iconst (v := nI 0) d_Mo_answer_4 (by decide +kernel) ?_
  refine j_istore (lc' := [_, _, _, _, _, _]) d_Mo_answer_5 (by decide) rfl rfl ?_
  exact lp_answer ic q hq 5 0 0 0 _ (by omega) (by omega) rfl rfl

set_option maxHeartbeats 4000000 in
set_option maxRecDepth 100000 in
theorem lp_answers {l : Launch} {D : va_G} {M nx : Nat} {L : Int32} {σ ρ : Sg} {g : Nat → Option va_E} {c : Nat → Nat → Nat} (ic : Pu.Ic c σ) (t k : Nat) (ht : t < 100000) (hk : k < 3) (hx : ∃ q, q < σ 34 0 0 ∧ σ 7 0 q = t ∧ σ 6 0 q = k) : ∀ (m : Nat) (q mo : Nat), q ≤ σ 34 0 0 → σ 34 0 0 - q < m → mo = max 1 (hians σ k t q) → (∀ q', q' < q → σ 6 0 q' = k → σ 7 0 q' = t → ¬ ans σ q' = 0) → J (G0 l D) jT m_Mo_answers 1 (fun v h => v = some (.int (nI (outc σ k t))) ∧ h = (hM D M L σ ρ g, nx)) 0 0 5 [some (.ref (M + 0)), some (.int (nI t)), some (.int (nI k)), some (.int (nI mo)), some (.int (nI q))] [] (hM D M L σ ρ g, nx) := by
  intro m
  induction m with
  | zero =>
    intros
    exfalso
    omega
  | succ m ih =>
    intro q mo h1 h2 hm hu
    have hb := ic.2.1
    have r32 := Pu.rq32 ic.1.bk
    have b6 := hb 6 0 q
    have b7 := hb 7 0 q
    have bh : hians σ k t q ≤ 2 := Pu.hians_le q (fun z hz => (Pu.ansR_ans ic.1 (show z < σ 34 0 0 by omega)).2)
    have bmo : mo < 10 := by omega
    refine j_iload d_Mo_answers_5 rfl ?_
    first | refine j_aload_n d_Mo_answers_7 rfl ?_ | refine j_aload_nq d_Mo_answers_7 rfl ?_ | refine j_aload_nN d_Mo_answers_7 rfl ?_
    refine j_get d_Mo_answers_8 f_Mo_97 (hM_o (by decide)) rfl ?_
    first | refine nn_icmp_ge (t := 74) d_Mo_answers_11 (by decide) (by omega) (by omega) (fun c11 => ?_) (fun c11 => ?_) | refine mm_icmp_ge (t := 74) d_Mo_answers_11 (by decide) (by omega) (by omega) (fun c11 => ?_) (fun c11 => ?_) | refine mn_icmp_ge (t := 74) d_Mo_answers_11 (by decide) (by omega) (by omega) (fun c11 => ?_) (fun c11 => ?_) | refine nm_icmp_ge (t := 74) d_Mo_answers_11 (by decide) (by omega) (by omega) (fun c11 => ?_) (fun c11 => ?_) | refine j_icmp_ge (t := 74) d_Mo_answers_11 (by decide) (fun c11 => ?_) (fun c11 => ?_)
    · refine j_iload_n d_Mo_answers_74 rfl ?_
      have eq : q = σ 34 0 0 := by omega
      subst eq
      exact j_iret d_Mo_answers_75 rfl ⟨by rw [Pu.outc_all hx hu, hm], rfl⟩
    · first | refine j_aload_n d_Mo_answers_14 rfl ?_ | refine j_aload_nq d_Mo_answers_14 rfl ?_ | refine j_aload_nN d_Mo_answers_14 rfl ?_
      refine j_get d_Mo_answers_15 f_Mo_28 (hM_o (by decide)) rfl ?_
      refine j_iload d_Mo_answers_18 rfl ?_
      refine j_iald (t := 0) d_Mo_answers_20 rfl (hM_o (by decide)) rfl (by omega) (by decide) ?_
      refine j_iload_n d_Mo_answers_21 rfl ?_
      first | refine nn_icmp_ne (t := 68) d_Mo_answers_22 (by decide) (by omega) (by omega) (fun c22 => ?_) (fun c22 => ?_) | refine mm_icmp_ne (t := 68) d_Mo_answers_22 (by decide) (by omega) (by omega) (fun c22 => ?_) (fun c22 => ?_) | refine mn_icmp_ne (t := 68) d_Mo_answers_22 (by decide) (by omega) (by omega) (fun c22 => ?_) (fun c22 => ?_) | refine nm_icmp_ne (t := 68) d_Mo_answers_22 (by decide) (by omega) (by omega) (fun c22 => ?_) (fun c22 => ?_) | refine j_icmp_ne (t := 68) d_Mo_answers_22 (by decide) (fun c22 => ?_) (fun c22 => ?_)
      · refine n_iinc (k := 1) (lc' := [_, _, _, _, _]) d_Mo_answers_68 (by decide +kernel) rfl (by decide) rfl rfl ?_
        refine j_goto (t := 5) d_Mo_answers_71 (by decide) ?_
        exact ih (q + 1) _ (by omega) (by omega) (by show _ = max 1 (if σ 6 0 q = k ∧ σ 7 0 q = t then max (hians σ k t q) (ans σ q) else hians σ k t q); rw [if_neg (by omega)]; exact hm) (fun q' h1 h2 h3 => by by_cases e : q' = q; (subst e; exfalso; omega); exact hu q' (by omega) h2 h3)
      · first | refine j_aload_n d_Mo_answers_25 rfl ?_ | refine j_aload_nq d_Mo_answers_25 rfl ?_ | refine j_aload_nN d_Mo_answers_25 rfl ?_
        refine j_get d_Mo_answers_26 f_Mo_25 (hM_o (by decide)) rfl ?_
        refine j_iload d_Mo_answers_29 rfl ?_
        refine j_iald (t := 0) d_Mo_answers_31 rfl (hM_o (by decide)) rfl (by omega) (by decide) ?_
        refine j_iload_n d_Mo_answers_32 rfl ?_
        first | refine nn_icmp_ne (t := 68) d_Mo_answers_33 (by decide) (by omega) (by omega) (fun c33 => ?_) (fun c33 => ?_) | refine mm_icmp_ne (t := 68) d_Mo_answers_33 (by decide) (by omega) (by omega) (fun c33 => ?_) (fun c33 => ?_) | refine mn_icmp_ne (t := 68) d_Mo_answers_33 (by decide) (by omega) (by omega) (fun c33 => ?_) (fun c33 => ?_) | refine nm_icmp_ne (t := 68) d_Mo_answers_33 (by decide) (by omega) (by omega) (fun c33 => ?_) (fun c33 => ?_) | refine j_icmp_ne (t := 68) d_Mo_answers_33 (by decide) (fun c33 => ?_) (fun c33 => ?_)
        · refine n_iinc (k := 1) (lc' := [_, _, _, _, _]) d_Mo_answers_68 (by decide +kernel) rfl (by decide) rfl rfl ?_
          refine j_goto (t := 5) d_Mo_answers_71 (by decide) ?_
          exact ih (q + 1) _ (by omega) (by omega) (by show _ = max 1 (if σ 6 0 q = k ∧ σ 7 0 q = t then max (hians σ k t q) (ans σ q) else hians σ k t q); rw [if_neg (by omega)]; exact hm) (fun q' h1 h2 h3 => by by_cases e : q' = q; (subst e; exfalso; omega); exact hu q' (by omega) h2 h3)
        · have ba := (Pu.ansR_ans ic.1 (show q < σ 34 0 0 by omega)).2
          first | refine j_aload_n d_Mo_answers_36 rfl ?_ | refine j_aload_nq d_Mo_answers_36 rfl ?_ | refine j_aload_nN d_Mo_answers_36 rfl ?_
          refine j_iload d_Mo_answers_37 rfl ?_
          refine j_callV0 (As := [_]) G0_good G0_E d_Mo_answers_39 c_Mo_121 rfl rfl (m_answer ic q (by omega)) (hM_o (by decide)) rfl rfl (by decide) (Nat.le_of_ble_eq_true rfl) ?_
          rintro _ _ ⟨rfl, rfl⟩
          first | refine c_if_ne (t := 47) d_Mo_answers_42 (by decide) (fun c42 => ?_) (fun c42 => ?_) | refine n_if_ne (t := 47) d_Mo_answers_42 (by decide) (by omega) (fun c42 => ?_) (fun c42 => ?_) | refine j_if_ne (t := 47) d_Mo_answers_42 (by decide) (fun c42 => ?_) (fun c42 => ?_)
          · first | refine j_aload_n d_Mo_answers_47 rfl ?_ | refine j_aload_nq d_Mo_answers_47 rfl ?_ | refine j_aload_nN d_Mo_answers_47 rfl ?_
            refine j_iload d_Mo_answers_48 rfl ?_
            refine j_callV0 (As := [_]) G0_good G0_E d_Mo_answers_50 c_Mo_121 rfl rfl (m_answer ic q (by omega)) (hM_o (by decide)) rfl rfl (by decide) (Nat.le_of_ble_eq_true rfl) ?_
            rintro _ _ ⟨rfl, rfl⟩
            refine j_iload_n d_Mo_answers_53 rfl ?_
            first | refine nn_icmp_le (t := 66) d_Mo_answers_54 (by decide) (by omega) (by omega) (fun c54 => ?_) (fun c54 => ?_) | refine mm_icmp_le (t := 66) d_Mo_answers_54 (by decide) (by omega) (by omega) (fun c54 => ?_) (fun c54 => ?_) | refine mn_icmp_le (t := 66) d_Mo_answers_54 (by decide) (by omega) (by omega) (fun c54 => ?_) (fun c54 => ?_) | refine nm_icmp_le (t := 66) d_Mo_answers_54 (by decide) (by omega) (by omega) (fun c54 => ?_) (fun c54 => ?_) | refine j_icmp_le (t := 66) d_Mo_answers_54 (by decide) (fun c54 => ?_) (fun c54 => ?_)
            · refine j_iload_n d_Mo_answers_66 rfl ?_
              refine j_istore_n (lc' := [_, _, _, _, _]) d_Mo_answers_67 (by decide) rfl rfl ?_
              refine n_iinc (k := 1) (lc' := [_, _, _, _, _]) d_Mo_answers_68 (by decide +kernel) rfl (by decide) rfl rfl ?_
              refine j_goto (t := 5) d_Mo_answers_71 (by decide) ?_
              exact ih (q + 1) _ (by omega) (by omega) (by show _ = max 1 (if σ 6 0 q = k ∧ σ 7 0 q = t then max (hians σ k t q) (ans σ q) else hians σ k t q); rw [if_pos (by omega)]; omega) (fun q' h1 h2 h3 => by by_cases e : q' = q; (subst e; exact c42); exact hu q' (by omega) h2 h3)
            · first | refine j_aload_n d_Mo_answers_57 rfl ?_ | refine j_aload_nq d_Mo_answers_57 rfl ?_ | refine j_aload_nN d_Mo_answers_57 rfl ?_
              refine j_iload d_Mo_answers_58 rfl ?_
              refine j_callV0 (As := [_]) G0_good G0_E d_Mo_answers_60 c_Mo_121 rfl rfl (m_answer ic q (by omega)) (hM_o (by decide)) rfl rfl (by decide) (Nat.le_of_ble_eq_true rfl) ?_
              rintro _ _ ⟨rfl, rfl⟩
              refine j_goto (t := 67) d_Mo_answers_63 (by decide) ?_
              refine j_istore_n (lc' := [_, _, _, _, _]) d_Mo_answers_67 (by decide) rfl rfl ?_
              refine n_iinc (k := 1) (lc' := [_, _, _, _, _]) d_Mo_answers_68 (by decide +kernel) rfl (by decide) rfl rfl ?_
              refine j_goto (t := 5) d_Mo_answers_71 (by decide) ?_
              exact ih (q + 1) _ (by omega) (by omega) (by show _ = max 1 (if σ 6 0 q = k ∧ σ 7 0 q = t then max (hians σ k t q) (ans σ q) else hians σ k t q); rw [if_pos (by omega)]; omega) (fun q' h1 h2 h3 => by by_cases e : q' = q; (subst e; exact c42); exact hu q' (by omega) h2 h3)
          · refine j_iconst (v := nI 0) d_Mo_answers_45 (by decide +kernel) ?_
            exact j_iret d_Mo_answers_46 rfl ⟨by rw [Pu.outc_0 (show q < σ 34 0 0 by omega) (by omega) (by omega) c42], rfl⟩

set_option maxHeartbeats 4000000 in
set_option maxRecDepth 100000 in
theorem m_answers {l : Launch} {D : va_G} {M nx : Nat} {L : Int32} {σ ρ : Sg} {g : Nat → Option va_E} {c : Nat → Nat → Nat} (ic : Pu.Ic c σ) (t k : Nat) (ht : t < 100000) (hk : k < 3) (hx : ∃ q, q < σ 34 0 0 ∧ σ 7 0 q = t ∧ σ 6 0 q = k) : jM (G0 l D) m_Mo_answers 1 0 0 [.ref (M + 0), .int (nI t), .int (nI k)] (hM D M L σ ρ g, nx) (fun v h => v = some (.int (nI (outc σ k t))) ∧ h = (hM D M L σ ρ g, nx)) := by
  refine jM.of (by decide +kernel) (Nat.le_of_ble_eq_true rfl) rfl ?_
  refine j_iconst (v := nI 1) d_Mo_answers_0 (by decide +kernel) ?_
  refine j_istore_n (lc' := [_, _, _, _, _]) d_Mo_answers_1 (by decide) rfl rfl ?_
  refine j_iconst (v := nI 0) d_Mo_answers_2 (by decide +kernel) ?_
  refine j_istore (lc' := [_, _, _, _, _]) d_Mo_answers_3 (by decide) rfl rfl ?_
  exact lp_answers ic t k ht hk hx (σ 34 0 0 + 1) 0 1 (by omega) (by omega) rfl (fun q' h => by omega)

set_option maxHeartbeats 4000000 in
set_option maxRecDepth 100000 in
theorem lp_look_2 {l : Launch} {D : va_G} {M nx : Nat} {L : Int32} {g : Nat → Option va_E} {σ ρ : Sg} {c : Nat → Nat → Nat} (ic : Pu.Ic c σ) (t : Nat) (ht : t < σ 33 0 0) (h0 : σ 3 0 t = 0) (oc : Nat) (hoc : oc = 2) : ∀ (m : Nat) (j n : Nat) (τ : Sg), j ≤ 2 → 2 - j < m → τ = mk (inS σ t) 2 t j σ → n + σ 34 0 0 = τ 34 0 0 → J (G0 l D) jT m_Mo_look 2 (fun v h => v = some (.int (nI (U (mk (inS σ t) 2 t 2 σ) 3 0 t 2 34 0 0 - σ 34 0 0))) ∧ h = (hM D M L (U (mk (inS σ t) 2 t 2 σ) 3 0 t 2) ρ g, nx)) 0 0 60 [some (.ref (M + 0)), some (.int (nI t)), some (.int (nI oc)), some (.int (nI n)), some (.int (nI j))] [] (hM D M L τ ρ g, nx) := by
  intro m
  induction m with
  | zero =>
    intros
    exfalso
    omega
  | succ m ih =>
    intro j n τ h1 h2 hτ hn
    have hb := ic.2.1
    have tx := ic.1.bk.tx
    have h30 := Pu.rq30 ic.1.bk ht h0
    have hbt : bd τ := by rw [hτ]; exact Pu.bd_mk hb (by omega) (by omega) (by omega) j (by omega)
    have hnj := mk_34 (P := inS σ t) (k := 2) (t := t) (σ := σ) j
    rw [← hτ] at hnj
    have hin : inS τ t j ↔ inS σ t j := by unfold inS; rw [hτ, mk_ne (by omega), mk_ne (by omega)]
    have hmk : 0 < τ 4 0 (4 + 2 * t + j) ↔ 0 < σ 4 0 (4 + 2 * t + j) := by rw [hτ, mk_ne (by omega)]
    refine j_iload d_Mo_look_60 rfl ?_
    refine j_iconst (v := nI 2) d_Mo_look_62 (by decide +kernel) ?_
    first | refine nn_icmp_ge (t := 134) d_Mo_look_63 (by decide) (by omega) (by omega) (fun c63 => ?_) (fun c63 => ?_) | refine mm_icmp_ge (t := 134) d_Mo_look_63 (by decide) (by omega) (by omega) (fun c63 => ?_) (fun c63 => ?_) | refine mn_icmp_ge (t := 134) d_Mo_look_63 (by decide) (by omega) (by omega) (fun c63 => ?_) (fun c63 => ?_) | refine nm_icmp_ge (t := 134) d_Mo_look_63 (by decide) (by omega) (by omega) (fun c63 => ?_) (fun c63 => ?_) | refine j_icmp_ge (t := 134) d_Mo_look_63 (by decide) (fun c63 => ?_) (fun c63 => ?_)
    · first | refine j_aload_n d_Mo_look_134 rfl ?_ | refine j_aload_nq d_Mo_look_134 rfl ?_ | refine j_aload_nN d_Mo_look_134 rfl ?_
      refine j_get d_Mo_look_135 f_Mo_16 (hM_o (by decide)) rfl ?_
      refine j_iload_n d_Mo_look_138 rfl ?_
      refine j_iload_n d_Mo_look_139 rfl ?_
      refine j_iconst (v := nI 2) d_Mo_look_140 (by decide +kernel) ?_
      first | refine nn_icmp_ne (t := 148) d_Mo_look_141 (by decide) (by omega) (by omega) (fun c141 => ?_) (fun c141 => ?_) | refine mm_icmp_ne (t := 148) d_Mo_look_141 (by decide) (by omega) (by omega) (fun c141 => ?_) (fun c141 => ?_) | refine mn_icmp_ne (t := 148) d_Mo_look_141 (by decide) (by omega) (by omega) (fun c141 => ?_) (fun c141 => ?_) | refine nm_icmp_ne (t := 148) d_Mo_look_141 (by decide) (by omega) (by omega) (fun c141 => ?_) (fun c141 => ?_) | refine j_icmp_ne (t := 148) d_Mo_look_141 (by decide) (fun c141 => ?_) (fun c141 => ?_)
      · exfalso; first | exact c141 | omega
      · refine j_iconst (v := nI 2) d_Mo_look_144 (by decide +kernel) ?_
        refine j_goto (t := 149) d_Mo_look_145 (by decide) ?_
        refine j_iast (t := 0) d_Mo_look_149 rfl (hM_o (by decide)) rfl (by omega) (by decide) (J.hq o3 ?_)
        refine j_iload_n d_Mo_look_150 rfl ?_
        have ej : j = 2 := by omega
        subst ej
        exact j_iret d_Mo_look_151 rfl ⟨by rw [U_ne (by decide), ← hτ, show n = τ 34 0 0 - σ 34 0 0 by omega], by rw [hτ]⟩
    · refine j_iload_n d_Mo_look_66 rfl ?_
      refine j_iconst (v := nI 2) d_Mo_look_67 (by decide +kernel) ?_
      first | refine nn_icmp_ne (t := 92) d_Mo_look_68 (by decide) (by omega) (by omega) (fun c68 => ?_) (fun c68 => ?_) | refine mm_icmp_ne (t := 92) d_Mo_look_68 (by decide) (by omega) (by omega) (fun c68 => ?_) (fun c68 => ?_) | refine mn_icmp_ne (t := 92) d_Mo_look_68 (by decide) (by omega) (by omega) (fun c68 => ?_) (fun c68 => ?_) | refine nm_icmp_ne (t := 92) d_Mo_look_68 (by decide) (by omega) (by omega) (fun c68 => ?_) (fun c68 => ?_) | refine j_icmp_ne (t := 92) d_Mo_look_68 (by decide) (fun c68 => ?_) (fun c68 => ?_)
      · exfalso; first | exact c68 | omega
      · first | refine j_aload_n d_Mo_look_71 rfl ?_ | refine j_aload_nq d_Mo_look_71 rfl ?_ | refine j_aload_nN d_Mo_look_71 rfl ?_
        refine j_iload_n d_Mo_look_72 rfl ?_
        refine j_iload d_Mo_look_73 rfl ?_
        refine j_callV0 (As := [_, _]) G0_good G0_E d_Mo_look_75 c_Mo_111 rfl rfl (m_takes hbt t j (by omega) (by omega)) (hM_o (by decide)) rfl rfl (by decide) (Nat.le_of_ble_eq_true rfl) ?_
        rintro _ _ ⟨rfl, rfl⟩
        first | refine c_if_eq (t := 92) d_Mo_look_78 (by decide) (fun c78 => ?_) (fun c78 => ?_) | refine n_if_eq (t := 92) d_Mo_look_78 (by decide) (by omega) (fun c78 => ?_) (fun c78 => ?_) | refine j_if_eq (t := 92) d_Mo_look_78 (by decide) (fun c78 => ?_) (fun c78 => ?_)
        · refine j_iload_n d_Mo_look_92 rfl ?_
          refine j_iconst (v := nI 1) d_Mo_look_93 (by decide +kernel) ?_
          first | refine nn_icmp_ne (t := 128) d_Mo_look_94 (by decide) (by omega) (by omega) (fun c94 => ?_) (fun c94 => ?_) | refine mm_icmp_ne (t := 128) d_Mo_look_94 (by decide) (by omega) (by omega) (fun c94 => ?_) (fun c94 => ?_) | refine mn_icmp_ne (t := 128) d_Mo_look_94 (by decide) (by omega) (by omega) (fun c94 => ?_) (fun c94 => ?_) | refine nm_icmp_ne (t := 128) d_Mo_look_94 (by decide) (by omega) (by omega) (fun c94 => ?_) (fun c94 => ?_) | refine j_icmp_ne (t := 128) d_Mo_look_94 (by decide) (fun c94 => ?_) (fun c94 => ?_)
          · refine n_iinc (k := 1) (lc' := [_, _, _, _, _]) d_Mo_look_128 (by decide +kernel) rfl (by decide) rfl rfl ?_
            refine j_goto (t := 60) d_Mo_look_131 (by decide) ?_
            exact ih (j + 1) _ _ (by omega) (by omega) (by show _ = ifP _ _ (mk (inS σ t) 2 t j σ); rw [ifP_f (show ¬ inS σ t j from fun z => c78 (hin.mpr z)), ← hτ]) hn
          · exfalso; first | exact c94 | omega
        · refine j_iload_n d_Mo_look_81 rfl ?_
          first | refine j_aload_n d_Mo_look_82 rfl ?_ | refine j_aload_nq d_Mo_look_82 rfl ?_ | refine j_aload_nN d_Mo_look_82 rfl ?_
          refine j_iload d_Mo_look_83 rfl ?_
          refine j_iconst (v := nI 2) d_Mo_look_85 (by decide +kernel) ?_
          refine j_iload_n d_Mo_look_86 rfl ?_
          refine j_callV0 (As := [_, _, _]) G0_good G0_E d_Mo_look_87 c_Mo_114 rfl rfl (m_ask hbt (by omega) j 2 t) (hM_o (by decide)) rfl rfl (by decide) (Nat.le_of_ble_eq_true rfl) ?_
          rintro _ _ ⟨rfl, rfl⟩
          refine jn_iadd d_Mo_look_90 ?_
          refine j_istore_n (lc' := [_, _, _, _, _]) d_Mo_look_91 (by decide) rfl rfl ?_
          refine j_iload_n d_Mo_look_92 rfl ?_
          refine j_iconst (v := nI 1) d_Mo_look_93 (by decide +kernel) ?_
          first | refine nn_icmp_ne (t := 128) d_Mo_look_94 (by decide) (by omega) (by omega) (fun c94 => ?_) (fun c94 => ?_) | refine mm_icmp_ne (t := 128) d_Mo_look_94 (by decide) (by omega) (by omega) (fun c94 => ?_) (fun c94 => ?_) | refine mn_icmp_ne (t := 128) d_Mo_look_94 (by decide) (by omega) (by omega) (fun c94 => ?_) (fun c94 => ?_) | refine nm_icmp_ne (t := 128) d_Mo_look_94 (by decide) (by omega) (by omega) (fun c94 => ?_) (fun c94 => ?_) | refine j_icmp_ne (t := 128) d_Mo_look_94 (by decide) (fun c94 => ?_) (fun c94 => ?_)
          · refine n_iinc (k := 1) (lc' := [_, _, _, _, _]) d_Mo_look_128 (by decide +kernel) rfl (by decide) rfl rfl ?_
            refine j_goto (t := 60) d_Mo_look_131 (by decide) ?_
            exact ih (j + 1) _ _ (by omega) (by omega) (by show _ = ifP _ (sMake (mk (inS σ t) 2 t j σ) j 2 t) _; rw [ifP_t (show inS σ t j from hin.mp c78), ← hτ]) (by rw [sMake_34]; omega)
          · exfalso; first | exact c94 | omega

set_option maxHeartbeats 4000000 in
set_option maxRecDepth 100000 in
theorem lp_look_1 {l : Launch} {D : va_G} {M nx : Nat} {L : Int32} {g : Nat → Option va_E} {σ ρ : Sg} {c : Nat → Nat → Nat} (ic : Pu.Ic c σ) (t : Nat) (ht : t < σ 33 0 0) (h0 : σ 3 0 t = 0) (oc : Nat) (hoc : oc = 1) : ∀ (m : Nat) (j n : Nat) (τ : Sg), j ≤ 2 → 2 - j < m → τ = mk (cmS σ t) 1 t j σ → n + σ 34 0 0 = τ 34 0 0 → J (G0 l D) jT m_Mo_look 2 (fun v h => v = some (.int (nI (U (mk (cmS σ t) 1 t 2 σ) 3 0 t 1 34 0 0 - σ 34 0 0))) ∧ h = (hM D M L (U (mk (cmS σ t) 1 t 2 σ) 3 0 t 1) ρ g, nx)) 0 0 60 [some (.ref (M + 0)), some (.int (nI t)), some (.int (nI oc)), some (.int (nI n)), some (.int (nI j))] [] (hM D M L τ ρ g, nx) := by
  intro m
  induction m with
  | zero =>
    intros
    exfalso
    omega
  | succ m ih =>
    intro j n τ h1 h2 hτ hn
    have hb := ic.2.1
    have tx := ic.1.bk.tx
    have h30 := Pu.rq30 ic.1.bk ht h0
    have hbt : bd τ := by rw [hτ]; exact Pu.bd_mk hb (by omega) (by omega) (by omega) j (by omega)
    have hnj := mk_34 (P := cmS σ t) (k := 1) (t := t) (σ := σ) j
    rw [← hτ] at hnj
    have hin : inS τ t j ↔ inS σ t j := by unfold inS; rw [hτ, mk_ne (by omega), mk_ne (by omega)]
    have hmk : 0 < τ 4 0 (4 + 2 * t + j) ↔ 0 < σ 4 0 (4 + 2 * t + j) := by rw [hτ, mk_ne (by omega)]
    refine j_iload d_Mo_look_60 rfl ?_
    refine j_iconst (v := nI 2) d_Mo_look_62 (by decide +kernel) ?_
    first | refine nn_icmp_ge (t := 134) d_Mo_look_63 (by decide) (by omega) (by omega) (fun c63 => ?_) (fun c63 => ?_) | refine mm_icmp_ge (t := 134) d_Mo_look_63 (by decide) (by omega) (by omega) (fun c63 => ?_) (fun c63 => ?_) | refine mn_icmp_ge (t := 134) d_Mo_look_63 (by decide) (by omega) (by omega) (fun c63 => ?_) (fun c63 => ?_) | refine nm_icmp_ge (t := 134) d_Mo_look_63 (by decide) (by omega) (by omega) (fun c63 => ?_) (fun c63 => ?_) | refine j_icmp_ge (t := 134) d_Mo_look_63 (by decide) (fun c63 => ?_) (fun c63 => ?_)
    · first | refine j_aload_n d_Mo_look_134 rfl ?_ | refine j_aload_nq d_Mo_look_134 rfl ?_ | refine j_aload_nN d_Mo_look_134 rfl ?_
      refine j_get d_Mo_look_135 f_Mo_16 (hM_o (by decide)) rfl ?_
      refine j_iload_n d_Mo_look_138 rfl ?_
      refine j_iload_n d_Mo_look_139 rfl ?_
      refine j_iconst (v := nI 2) d_Mo_look_140 (by decide +kernel) ?_
      first | refine nn_icmp_ne (t := 148) d_Mo_look_141 (by decide) (by omega) (by omega) (fun c141 => ?_) (fun c141 => ?_) | refine mm_icmp_ne (t := 148) d_Mo_look_141 (by decide) (by omega) (by omega) (fun c141 => ?_) (fun c141 => ?_) | refine mn_icmp_ne (t := 148) d_Mo_look_141 (by decide) (by omega) (by omega) (fun c141 => ?_) (fun c141 => ?_) | refine nm_icmp_ne (t := 148) d_Mo_look_141 (by decide) (by omega) (by omega) (fun c141 => ?_) (fun c141 => ?_) | refine j_icmp_ne (t := 148) d_Mo_look_141 (by decide) (fun c141 => ?_) (fun c141 => ?_)
      · refine j_iconst (v := nI 1) d_Mo_look_148 (by decide +kernel) ?_
        refine j_iast (t := 0) d_Mo_look_149 rfl (hM_o (by decide)) rfl (by omega) (by decide) (J.hq o3 ?_)
        refine j_iload_n d_Mo_look_150 rfl ?_
        have ej : j = 2 := by omega
        subst ej
        exact j_iret d_Mo_look_151 rfl ⟨by rw [U_ne (by decide), ← hτ, show n = τ 34 0 0 - σ 34 0 0 by omega], by rw [hτ]⟩
      · exfalso; first | exact c141 | omega
    · refine j_iload_n d_Mo_look_66 rfl ?_
      refine j_iconst (v := nI 2) d_Mo_look_67 (by decide +kernel) ?_
      first | refine nn_icmp_ne (t := 92) d_Mo_look_68 (by decide) (by omega) (by omega) (fun c68 => ?_) (fun c68 => ?_) | refine mm_icmp_ne (t := 92) d_Mo_look_68 (by decide) (by omega) (by omega) (fun c68 => ?_) (fun c68 => ?_) | refine mn_icmp_ne (t := 92) d_Mo_look_68 (by decide) (by omega) (by omega) (fun c68 => ?_) (fun c68 => ?_) | refine nm_icmp_ne (t := 92) d_Mo_look_68 (by decide) (by omega) (by omega) (fun c68 => ?_) (fun c68 => ?_) | refine j_icmp_ne (t := 92) d_Mo_look_68 (by decide) (fun c68 => ?_) (fun c68 => ?_)
      · refine j_iload_n d_Mo_look_92 rfl ?_
        refine j_iconst (v := nI 1) d_Mo_look_93 (by decide +kernel) ?_
        first | refine nn_icmp_ne (t := 128) d_Mo_look_94 (by decide) (by omega) (by omega) (fun c94 => ?_) (fun c94 => ?_) | refine mm_icmp_ne (t := 128) d_Mo_look_94 (by decide) (by omega) (by omega) (fun c94 => ?_) (fun c94 => ?_) | refine mn_icmp_ne (t := 128) d_Mo_look_94 (by decide) (by omega) (by omega) (fun c94 => ?_) (fun c94 => ?_) | refine nm_icmp_ne (t := 128) d_Mo_look_94 (by decide) (by omega) (by omega) (fun c94 => ?_) (fun c94 => ?_) | refine j_icmp_ne (t := 128) d_Mo_look_94 (by decide) (fun c94 => ?_) (fun c94 => ?_)
        · exfalso; first | exact c94 | omega
        · first | refine j_aload_n d_Mo_look_97 rfl ?_ | refine j_aload_nq d_Mo_look_97 rfl ?_ | refine j_aload_nN d_Mo_look_97 rfl ?_
          refine j_iload_n d_Mo_look_98 rfl ?_
          refine j_iload d_Mo_look_99 rfl ?_
          refine j_callV0 (As := [_, _]) G0_good G0_E d_Mo_look_101 c_Mo_111 rfl rfl (m_takes hbt t j (by omega) (by omega)) (hM_o (by decide)) rfl rfl (by decide) (Nat.le_of_ble_eq_true rfl) ?_
          rintro _ _ ⟨rfl, rfl⟩
          first | refine c_if_ne (t := 117) d_Mo_look_104 (by decide) (fun c104 => ?_) (fun c104 => ?_) | refine n_if_ne (t := 117) d_Mo_look_104 (by decide) (by omega) (fun c104 => ?_) (fun c104 => ?_) | refine j_if_ne (t := 117) d_Mo_look_104 (by decide) (fun c104 => ?_) (fun c104 => ?_)
          · refine j_iload_n d_Mo_look_117 rfl ?_
            first | refine j_aload_n d_Mo_look_118 rfl ?_ | refine j_aload_nq d_Mo_look_118 rfl ?_ | refine j_aload_nN d_Mo_look_118 rfl ?_
            refine j_iload d_Mo_look_119 rfl ?_
            refine j_iconst (v := nI 1) d_Mo_look_121 (by decide +kernel) ?_
            refine j_iload_n d_Mo_look_122 rfl ?_
            refine j_callV0 (As := [_, _, _]) G0_good G0_E d_Mo_look_123 c_Mo_114 rfl rfl (m_ask hbt (by omega) j 1 t) (hM_o (by decide)) rfl rfl (by decide) (Nat.le_of_ble_eq_true rfl) ?_
            rintro _ _ ⟨rfl, rfl⟩
            refine jn_iadd d_Mo_look_126 ?_
            refine j_istore_n (lc' := [_, _, _, _, _]) d_Mo_look_127 (by decide) rfl rfl ?_
            refine n_iinc (k := 1) (lc' := [_, _, _, _, _]) d_Mo_look_128 (by decide +kernel) rfl (by decide) rfl rfl ?_
            refine j_goto (t := 60) d_Mo_look_131 (by decide) ?_
            exact ih (j + 1) _ _ (by omega) (by omega) (by show _ = ifP _ (sMake (mk (cmS σ t) 1 t j σ) j 1 t) _; rw [ifP_t (show cmS σ t j from Or.inl (hin.mp c104)), ← hτ]) (by rw [sMake_34]; omega)
          · first | refine j_aload_n d_Mo_look_107 rfl ?_ | refine j_aload_nq d_Mo_look_107 rfl ?_ | refine j_aload_nN d_Mo_look_107 rfl ?_
            refine j_iload_n d_Mo_look_108 rfl ?_
            refine j_iload d_Mo_look_109 rfl ?_
            refine j_callV0 (As := [_, _]) G0_good G0_E d_Mo_look_111 c_Mo_129 rfl rfl (m_makes hbt t j (by omega) (by omega)) (hM_o (by decide)) rfl rfl (by decide) (Nat.le_of_ble_eq_true rfl) ?_
            rintro _ _ ⟨rfl, rfl⟩
            first | refine c_if_eq (t := 128) d_Mo_look_114 (by decide) (fun c114 => ?_) (fun c114 => ?_) | refine n_if_eq (t := 128) d_Mo_look_114 (by decide) (by omega) (fun c114 => ?_) (fun c114 => ?_) | refine j_if_eq (t := 128) d_Mo_look_114 (by decide) (fun c114 => ?_) (fun c114 => ?_)
            · refine n_iinc (k := 1) (lc' := [_, _, _, _, _]) d_Mo_look_128 (by decide +kernel) rfl (by decide) rfl rfl ?_
              refine j_goto (t := 60) d_Mo_look_131 (by decide) ?_
              exact ih (j + 1) _ _ (by omega) (by omega) (by show _ = ifP _ _ (mk (cmS σ t) 1 t j σ); rw [ifP_f (show ¬ cmS σ t j from fun z => z.elim (fun y => c104 (hin.mpr y)) (fun y => c114 (hmk.mpr y))), ← hτ]) hn
            · refine j_iload_n d_Mo_look_117 rfl ?_
              first | refine j_aload_n d_Mo_look_118 rfl ?_ | refine j_aload_nq d_Mo_look_118 rfl ?_ | refine j_aload_nN d_Mo_look_118 rfl ?_
              refine j_iload d_Mo_look_119 rfl ?_
              refine j_iconst (v := nI 1) d_Mo_look_121 (by decide +kernel) ?_
              refine j_iload_n d_Mo_look_122 rfl ?_
              refine j_callV0 (As := [_, _, _]) G0_good G0_E d_Mo_look_123 c_Mo_114 rfl rfl (m_ask hbt (by omega) j 1 t) (hM_o (by decide)) rfl rfl (by decide) (Nat.le_of_ble_eq_true rfl) ?_
              rintro _ _ ⟨rfl, rfl⟩
              refine jn_iadd d_Mo_look_126 ?_
              refine j_istore_n (lc' := [_, _, _, _, _]) d_Mo_look_127 (by decide) rfl rfl ?_
              refine n_iinc (k := 1) (lc' := [_, _, _, _, _]) d_Mo_look_128 (by decide +kernel) rfl (by decide) rfl rfl ?_
              refine j_goto (t := 60) d_Mo_look_131 (by decide) ?_
              exact ih (j + 1) _ _ (by omega) (by omega) (by show _ = ifP _ (sMake (mk (cmS σ t) 1 t j σ) j 1 t) _; rw [ifP_t (show cmS σ t j from Or.inr (hmk.mp c114)), ← hτ]) (by rw [sMake_34]; omega)
      · exfalso; first | exact c68 | omega

set_option maxHeartbeats 4000000 in
set_option maxRecDepth 100000 in
theorem m_look {l : Launch} {D : va_G} {M nx : Nat} {L : Int32} {σ ρ : Sg} {g : Nat → Option va_E} {c : Nat → Nat → Nat} (ic : Pu.Ic c σ) (t : Nat) (ht : t < σ 33 0 0) : jM (G0 l D) m_Mo_look 2 0 0 [.ref (M + 0), .int (nI t)] (hM D M L σ ρ g, nx) (fun v h => v = some (.int (nI (sLook σ t 34 0 0 - σ 34 0 0))) ∧ h = (hM D M L (sLook σ t) ρ g, nx)) := by
  refine jM.of (by decide +kernel) (Nat.le_of_ble_eq_true rfl) rfl ?_
  have hb := ic.2.1
  have tx := ic.1.bk.tx
  have s4 := ic.1.bk.st4 t
  have ob := fun k => Pu.outc_le ic.1 k t
  have hx : σ 3 0 t ≤ 2 → ∃ q, q < σ 34 0 0 ∧ σ 7 0 q = t ∧ σ 6 0 q = σ 3 0 t := fun z => by
    have : σ 3 0 t = 0 ∨ σ 3 0 t = 1 ∨ σ 3 0 t = 2 := by omega
    rcases this with e | e | e
    · rw [e]; exact ic.1.bk.ex0 t ht
    · rw [e]; exact ic.1.bk.ex1 t ht e
    · rw [e]; exact ic.1.bk.ex2 t ht e

  first | refine j_aload_n d_Mo_look_0 rfl ?_ | refine j_aload_nq d_Mo_look_0 rfl ?_ | refine j_aload_nN d_Mo_look_0 rfl ?_
  refine j_get d_Mo_look_1 f_Mo_16 (hM_o (by decide)) rfl ?_
  refine j_iload_n d_Mo_look_4 rfl ?_
  refine j_iald (t := 0) d_Mo_look_5 rfl (hM_o (by decide)) rfl (by omega) (by decide) ?_
  refine j_iconst (v := nI 2) d_Mo_look_6 (by decide +kernel) ?_
  first | refine nn_icmp_le (t := 12) d_Mo_look_7 (by decide) (by omega) (by omega) (fun c7 => ?_) (fun c7 => ?_) | refine mm_icmp_le (t := 12) d_Mo_look_7 (by decide) (by omega) (by omega) (fun c7 => ?_) (fun c7 => ?_) | refine mn_icmp_le (t := 12) d_Mo_look_7 (by decide) (by omega) (by omega) (fun c7 => ?_) (fun c7 => ?_) | refine nm_icmp_le (t := 12) d_Mo_look_7 (by decide) (by omega) (by omega) (fun c7 => ?_) (fun c7 => ?_) | refine j_icmp_le (t := 12) d_Mo_look_7 (by decide) (fun c7 => ?_) (fun c7 => ?_)
  · first | refine j_aload_n d_Mo_look_12 rfl ?_ | refine j_aload_nq d_Mo_look_12 rfl ?_ | refine j_aload_nN d_Mo_look_12 rfl ?_
    refine j_iload_n d_Mo_look_13 rfl ?_
    first | refine j_aload_n d_Mo_look_14 rfl ?_ | refine j_aload_nq d_Mo_look_14 rfl ?_ | refine j_aload_nN d_Mo_look_14 rfl ?_
    refine j_get d_Mo_look_15 f_Mo_16 (hM_o (by decide)) rfl ?_
    refine j_iload_n d_Mo_look_18 rfl ?_
    refine j_iald (t := 0) d_Mo_look_19 rfl (hM_o (by decide)) rfl (by omega) (by decide) ?_
    refine j_callV0 (As := [_, _]) G0_good G0_E d_Mo_look_20 c_Mo_125 rfl rfl (m_answers ic t (σ 3 0 t) (by omega) (by omega) (hx c7)) (hM_o (by decide)) rfl rfl (by decide) (Nat.le_of_ble_eq_true rfl) ?_
    rintro _ _ ⟨rfl, rfl⟩
    refine j_istore_n (lc' := [_, _, _, _, _]) d_Mo_look_23 (by decide) rfl rfl ?_
    have ob := ob (σ 3 0 t)
    refine j_iload_n d_Mo_look_24 rfl ?_
    first | refine c_if_ne (t := 30) d_Mo_look_25 (by decide) (fun c25 => ?_) (fun c25 => ?_) | refine n_if_ne (t := 30) d_Mo_look_25 (by decide) (by omega) (fun c25 => ?_) (fun c25 => ?_) | refine j_if_ne (t := 30) d_Mo_look_25 (by decide) (fun c25 => ?_) (fun c25 => ?_)
    · first | refine j_aload_n d_Mo_look_30 rfl ?_ | refine j_aload_nq d_Mo_look_30 rfl ?_ | refine j_aload_nN d_Mo_look_30 rfl ?_
      refine j_get d_Mo_look_31 f_Mo_16 (hM_o (by decide)) rfl ?_
      refine j_iload_n d_Mo_look_34 rfl ?_
      refine j_iald (t := 0) d_Mo_look_35 rfl (hM_o (by decide)) rfl (by omega) (by decide) ?_
      first | refine n_if_le (t := 55) d_Mo_look_36 (by decide) (by omega) (fun c36 => ?_) (fun c36 => ?_) | refine j_if_le (t := 55) d_Mo_look_36 (by decide) (fun c36 => ?_) (fun c36 => ?_)
      · refine j_iconst (v := nI 0) d_Mo_look_55 (by decide +kernel) ?_
        refine j_istore_n (lc' := [_, _, _, _, _]) d_Mo_look_56 (by decide) rfl rfl ?_
        refine j_iconst (v := nI 0) d_Mo_look_57 (by decide +kernel) ?_
        refine j_istore (lc' := [_, _, _, _, _]) d_Mo_look_58 (by decide) rfl rfl ?_
        rw [c36] at c25 ob ⊢
        have h3 : outc σ 0 t = 1 ∨ outc σ 0 t = 2 := by omega
        rcases h3 with e | e
        · have e2 : sLook σ t = U (mk (cmS σ t) 1 t 2 σ) 3 0 t 1 := by unfold sLook sDec; rw [ifP_t c36, ifP_f c25, ifP_t e]
          rw [e2]
          exact lp_look_1 ic t ht c36 _ e 3 0 0 _ (by omega) (by omega) rfl (by rw [Nat.zero_add])
        · have e2 : sLook σ t = U (mk (inS σ t) 2 t 2 σ) 3 0 t 2 := by unfold sLook sDec; rw [ifP_t c36, ifP_f c25, ifP_f (by omega)]
          rw [e2]
          exact lp_look_2 ic t ht c36 _ e 3 0 0 _ (by omega) (by omega) rfl (by rw [Nat.zero_add])
      · first | refine j_aload_n d_Mo_look_39 rfl ?_ | refine j_aload_nq d_Mo_look_39 rfl ?_ | refine j_aload_nN d_Mo_look_39 rfl ?_
        refine j_get d_Mo_look_40 f_Mo_16 (hM_o (by decide)) rfl ?_
        refine j_iload_n d_Mo_look_43 rfl ?_
        first | refine j_aload_n d_Mo_look_44 rfl ?_ | refine j_aload_nq d_Mo_look_44 rfl ?_ | refine j_aload_nN d_Mo_look_44 rfl ?_
        refine j_get d_Mo_look_45 f_Mo_16 (hM_o (by decide)) rfl ?_
        refine j_iload_n d_Mo_look_48 rfl ?_
        refine j_iald (t := 0) d_Mo_look_49 rfl (hM_o (by decide)) rfl (by omega) (by decide) ?_
        refine j_iconst (v := nI 2) d_Mo_look_50 (by decide +kernel) ?_
        refine jn_iadd d_Mo_look_51 ?_
        refine j_iast (t := 0) d_Mo_look_52 rfl (hM_o (by decide)) rfl (by omega) (by decide) (J.hq o3 ?_)
        refine j_iconst (v := nI 0) d_Mo_look_53 (by decide +kernel) ?_
        have h3 : σ 3 0 t = 1 ∨ σ 3 0 t = 2 := by omega
        rcases h3 with e | e
        · have e2 : sLook σ t = U σ 3 0 t (σ 3 0 t + 2) := by rw [e] at c25; unfold sLook; rw [ifP_f (by omega), ifP_t ⟨e, c25⟩, e]
          exact j_iret d_Mo_look_54 rfl ⟨by rw [e2, U_ne (by decide), Nat.sub_self], by rw [e2]⟩
        · have e2 : sLook σ t = U σ 3 0 t (σ 3 0 t + 2) := by rw [e] at c25; unfold sLook; rw [ifP_f (by omega), ifP_f (by omega), ifP_t ⟨e, c25⟩, e]
          exact j_iret d_Mo_look_54 rfl ⟨by rw [e2, U_ne (by decide), Nat.sub_self], by rw [e2]⟩
    · refine j_iconst (v := nI 0) d_Mo_look_28 (by decide +kernel) ?_
      have e : sLook σ t = σ := by
        unfold sLook sDec
        have h3 : σ 3 0 t = 0 ∨ σ 3 0 t = 1 ∨ σ 3 0 t = 2 := by omega
        rcases h3 with e | e | e
        · rw [e] at c25; rw [ifP_t e, ifP_t c25]
        · rw [e] at c25; rw [ifP_f (by omega), ifP_f (by omega), ifP_f (by omega)]
        · rw [e] at c25; rw [ifP_f (by omega), ifP_f (by omega), ifP_f (by omega)]
      exact j_iret d_Mo_look_29 rfl ⟨by rw [e, Nat.sub_self], by rw [e]⟩
  · refine j_iconst (v := nI 0) d_Mo_look_10 (by decide +kernel) ?_
    have e : sLook σ t = σ := by unfold sLook; rw [ifP_f (by omega), ifP_f (by omega), ifP_f (by omega)]
    exact j_iret d_Mo_look_11 rfl ⟨by rw [e, Nat.sub_self], by rw [e]⟩

set_option maxHeartbeats 4000000 in
set_option maxRecDepth 100000 in
theorem lp_mclient {l : Launch} {D : va_G} {M nx : Nat} {L : Int32} {g : Nat → Option va_E} {σ : Sg} {c : Nat → Nat → Nat} (ic : Pu.Ic c σ) (fc : FC L c) : ∀ (m : Nat) (t n : Nat) (τ ρ : Sg), t ≤ σ 33 0 0 → σ 33 0 0 - t < m → τ = clF t σ → n + σ 34 0 0 = τ 34 0 0 → J (G0 l D) jT m_Mo_client 6 (fun v h => v = some (.int (nI (clF (σ 33 0 0) σ 34 0 0 - σ 34 0 0))) ∧ ∃ ρ', h = (hM D M L (allF 8 (clF (σ 33 0 0) σ)) ρ' g, nx)) 0 0 4 [some (.ref (M + 0)), some (.int (nI n)), some (.int (nI t))] [] (hM D M L τ ρ g, nx) := by
  intro m
  induction m with
  | zero =>
    intros
    exfalso
    omega
  | succ m ih =>
    intro t n τ ρ h1 h2 hτ hn
    have ict : Pu.Ic c τ := by rw [hτ]; exact Pu.clF_Ic ic t h1
    have e33 : τ 33 0 0 = σ 33 0 0 := by rw [hτ, clF_ne (by omega)]
    have tx := ic.1.bk.tx
    refine j_iload_n d_Mo_client_4 rfl ?_
    first | refine j_aload_n d_Mo_client_5 rfl ?_ | refine j_aload_nq d_Mo_client_5 rfl ?_ | refine j_aload_nN d_Mo_client_5 rfl ?_
    refine j_get d_Mo_client_6 f_Mo_100 (hM_o (by decide)) rfl ?_
    first | refine nn_icmp_ge (t := 26) d_Mo_client_9 (by decide) (by omega) (by omega) (fun c9 => ?_) (fun c9 => ?_) | refine mm_icmp_ge (t := 26) d_Mo_client_9 (by decide) (by omega) (by omega) (fun c9 => ?_) (fun c9 => ?_) | refine mn_icmp_ge (t := 26) d_Mo_client_9 (by decide) (by omega) (by omega) (fun c9 => ?_) (fun c9 => ?_) | refine nm_icmp_ge (t := 26) d_Mo_client_9 (by decide) (by omega) (by omega) (fun c9 => ?_) (fun c9 => ?_) | refine j_icmp_ge (t := 26) d_Mo_client_9 (by decide) (fun c9 => ?_) (fun c9 => ?_)
    · have et : t = σ 33 0 0 := by omega
      subst et
      first | refine j_aload_n d_Mo_client_26 rfl ?_ | refine j_aload_nq d_Mo_client_26 rfl ?_ | refine j_aload_nN d_Mo_client_26 rfl ?_
      refine j_callV0 (As := []) G0_good G0_E d_Mo_client_27 c_Mo_118 rfl rfl (m_allAct ict fc) (hM_o (by decide)) rfl rfl (by decide) (Nat.le_of_ble_eq_true rfl) ?_
      rintro _ _ ⟨rfl, ρ', rfl⟩
      refine j_iload_n d_Mo_client_30 rfl ?_
      exact j_iret d_Mo_client_31 rfl ⟨by rw [← hτ, show n = τ 34 0 0 - σ 34 0 0 by omega], _, by rw [hτ]⟩
    · refine j_iload_n d_Mo_client_12 rfl ?_
      first | refine j_aload_n d_Mo_client_13 rfl ?_ | refine j_aload_nq d_Mo_client_13 rfl ?_ | refine j_aload_nN d_Mo_client_13 rfl ?_
      refine j_iload_n d_Mo_client_14 rfl ?_
      refine j_callV0 (As := [_]) G0_good G0_E d_Mo_client_15 c_Mo_132 rfl rfl (m_look ict t (by rw [e33]; omega)) (hM_o (by decide)) rfl rfl (by decide) (Nat.le_of_ble_eq_true rfl) ?_
      rintro _ _ ⟨rfl, rfl⟩
      refine jn_iadd d_Mo_client_18 ?_
      refine j_istore_n (lc' := [_, _, _]) d_Mo_client_19 (by decide) rfl rfl ?_
      refine n_iinc (k := 1) (lc' := [_, _, _]) d_Mo_client_20 (by decide +kernel) rfl (by decide) rfl rfl ?_
      refine j_goto (t := 4) d_Mo_client_23 (by decide) ?_
      exact ih (t + 1) _ _ _ (by omega) (by omega) (by rw [hτ]; rfl) (by have := sLook_34 (σ := τ) (t := t); omega)

set_option maxHeartbeats 4000000 in
set_option maxRecDepth 100000 in
theorem m_client {l : Launch} {D : va_G} {M nx : Nat} {L : Int32} {σ ρ : Sg} {g : Nat → Option va_E} {c : Nat → Nat → Nat} (ic : Pu.Ic c σ) (fc : FC L c) : jM (G0 l D) m_Mo_client 6 0 0 [.ref (M + 0)] (hM D M L σ ρ g, nx) (fun v h => v = some (.int (nI (clF (σ 33 0 0) σ 34 0 0 - σ 34 0 0))) ∧ ∃ ρ', h = (hM D M L (allF 8 (clF (σ 33 0 0) σ)) ρ' g, nx)) := by
  refine jM.of (by decide +kernel) (Nat.le_of_ble_eq_true rfl) rfl ?_
  refine j_iconst (v := nI 0) d_Mo_client_0 (by decide +kernel) ?_
  refine j_istore_n (lc' := [_, _, _]) d_Mo_client_1 (by decide) rfl rfl ?_
  refine j_iconst (v := nI 0) d_Mo_client_2 (by decide +kernel) ?_
  refine j_istore_n (lc' := [_, _, _]) d_Mo_client_3 (by decide) rfl rfl ?_
  exact lp_mclient ic fc (σ 33 0 0 + 1) 0 0 _ _ (by omega) (by omega) rfl (by rw [Nat.zero_add])
