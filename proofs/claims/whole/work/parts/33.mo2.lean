/-! The reference: messages (g_mo2.py) -/
theorem nI_dec (a : Nat) : nI (a + 1) + Int32.ofInt (-1) = nI a := by
  rw [show Int32.ofInt (-1) = -1 by decide +kernel, ← Int32.sub_eq_add_neg]
  exact nI_pred a
theorem nm_add1 (a b : Nat) : nI a + mI b + nI 1 = nI (a + b) := by
  unfold mI
  rw [show nI 1 = 1 by decide +kernel, ← nI_add, Int32.add_assoc, Int32.sub_add_cancel]
theorem dd100 (R i : Nat) : R / 100 ^ (i + 1) % 100 = R / 100 / 100 ^ i % 100 := by
  rw [Nat.div_div_eq_div_mul, Nat.pow_succ, Nat.mul_comm]

set_option maxHeartbeats 4000000 in
set_option maxRecDepth 100000 in
theorem lp_Mo_part {l : Launch} {D : va_G} {M nx : Nat} {L : Int32} {σ ρ : Sg} {g : Nat → Option va_E} (c w : Nat) (hw : w ≤ 5) : ∀ (m : Nat) (j R : Nat), j < m → j ≤ 5 → R < 2 ^ 63 → J (G0 l D) jT m_Mo_part 0 (fun v h => v = some (.int (nI (R / 100 ^ j % 100))) ∧ h = (hM D M L σ ρ g, nx)) 0 0 5 [some (.long (nL c)), none, some (.int (nI w)), some (.long (nL R)), none, some (.int (nI (w + j)))] [] (hM D M L σ ρ g, nx) := by
  intro m
  induction m with
  | zero =>
    intros
    exfalso
    omega
  | succ m ih =>
    intro j R h1 h5 h2
    refine j_iload d_Mo_part_5 rfl ?_
    refine j_iload_n d_Mo_part_7 rfl ?_
    first | refine nn_icmp_le (t := 23) d_Mo_part_8 (by decide) (by omega) (by omega) (fun c8 => ?_) (fun c8 => ?_) | refine mm_icmp_le (t := 23) d_Mo_part_8 (by decide) (by omega) (by omega) (fun c8 => ?_) (fun c8 => ?_) | refine mn_icmp_le (t := 23) d_Mo_part_8 (by decide) (by omega) (by omega) (fun c8 => ?_) (fun c8 => ?_) | refine nm_icmp_le (t := 23) d_Mo_part_8 (by decide) (by omega) (by omega) (fun c8 => ?_) (fun c8 => ?_) | refine j_icmp_le (t := 23) d_Mo_part_8 (by decide) (fun c8 => ?_) (fun c8 => ?_)
    · refine j_lload_n d_Mo_part_23 rfl ?_
      refine j_ldc2 (v := nL 100) d_Mo_part_24 w_Mo_135 ?_
      refine ol_rem d_Mo_part_27 (by omega) ?_
      refine ol_l2i d_Mo_part_28 ?_
      have hj0 : j = 0 := by omega
      subst hj0
      exact j_iret d_Mo_part_29 rfl ⟨by rw [Nat.pow_zero, Nat.div_one], rfl⟩
    · obtain ⟨i, rfl⟩ : ∃ i, j = i + 1 := ⟨j - 1, by omega⟩
      refine j_lload_n d_Mo_part_11 rfl ?_
      refine j_ldc2 (v := nL 100) d_Mo_part_12 w_Mo_135 ?_
      refine ol_div d_Mo_part_15 (by omega) ?_
      refine j_lstore_n (lc' := [_, _, _, _, _, _]) d_Mo_part_16 (by decide) rfl rfl ?_
      refine j_iinc (v := nI (w + i)) d_Mo_part_17 rfl (nI_dec (w + i)) (by decide) rfl rfl ?_
      refine j_goto (t := 5) d_Mo_part_20 (by decide) ?_
      rw [dd100]
      exact ih i (R / 100) (by omega) (by omega) (by omega)

set_option maxHeartbeats 4000000 in
set_option maxRecDepth 100000 in
theorem m_part {l : Launch} {D : va_G} {M nx : Nat} {L : Int32} {σ ρ : Sg} {g : Nat → Option va_E} (c w : Nat) (hw : w ≤ 5) (hc : c < 2 ^ 63) : jM (G0 l D) m_Mo_part 0 0 0 [.long (nL c), .int (nI w)] (hM D M L σ ρ g, nx) (fun v h => v = some (.int (nI (c / 100 ^ (5 - w) % 100))) ∧ h = (hM D M L σ ρ g, nx)) := by
  refine jM.of (by decide +kernel) (Nat.le_of_ble_eq_true rfl) rfl ?_
  refine j_lload_n d_Mo_part_0 rfl ?_
  refine j_lstore_n (lc' := [_, _, _, _, _, _]) d_Mo_part_1 (by decide) rfl rfl ?_
  refine j_iconst (v := nI 5) d_Mo_part_2 (by decide +kernel) ?_
  refine j_istore (lc' := [_, _, _, _, _, _]) d_Mo_part_3 (by decide) rfl rfl ?_
  have h5 := lp_Mo_part (l := l) (D := D) (M := M) (nx := nx) (L := L) (σ := σ) (ρ := ρ) (g := g) c w hw 6 (5 - w) c (by omega) (by omega) hc
  rw [show w + (5 - w) = 5 by omega] at h5
  exact h5

/-- a message's parts are small -/
def MB (σ : Sg) (s k : Nat) : Prop := σ 21 s k < 100 ∧ σ 22 s k < 100 ∧ σ 23 s k < 100 ∧ σ 24 s k < 100 ∧ σ 25 s k < 100 ∧ σ 26 s k < 100
theorem codeN_lt {σ : Sg} {s k : Nat} (h : MB σ s k) : codeN σ s k < 2 ^ 63 := by
  obtain ⟨h1, h2, h3, h4, h5, h6⟩ := h
  unfold codeN
  omega

theorem m_part0 {l : Launch} {D : va_G} {M nx : Nat} {L : Int32} {σ ρ : Sg} {g : Nat → Option va_E} {s k : Nat} (h : MB σ s k) : jM (G0 l D) m_Mo_part 0 0 0 [.long (nL (codeN σ s k)), .int (nI 0)] (hM D M L σ ρ g, nx) (fun v h => v = some (.int (nI (σ 21 s k))) ∧ h = (hM D M L σ ρ g, nx)) := by
  have := m_part (l := l) (D := D) (M := M) (nx := nx) (L := L) (σ := σ) (ρ := ρ) (g := g) (codeN σ s k) 0 (by decide) (codeN_lt h)
  obtain ⟨h1, h2, h3, h4, h5, h6⟩ := h
  rw [show codeN σ s k / 100 ^ (5 - 0) % 100 = σ 21 s k by unfold codeN; rw [show (100 : Nat) ^ (5 - 0) = 10000000000 from rfl]; omega] at this
  exact this

theorem m_part1 {l : Launch} {D : va_G} {M nx : Nat} {L : Int32} {σ ρ : Sg} {g : Nat → Option va_E} {s k : Nat} (h : MB σ s k) : jM (G0 l D) m_Mo_part 0 0 0 [.long (nL (codeN σ s k)), .int (nI 1)] (hM D M L σ ρ g, nx) (fun v h => v = some (.int (nI (σ 22 s k))) ∧ h = (hM D M L σ ρ g, nx)) := by
  have := m_part (l := l) (D := D) (M := M) (nx := nx) (L := L) (σ := σ) (ρ := ρ) (g := g) (codeN σ s k) 1 (by decide) (codeN_lt h)
  obtain ⟨h1, h2, h3, h4, h5, h6⟩ := h
  rw [show codeN σ s k / 100 ^ (5 - 1) % 100 = σ 22 s k by unfold codeN; rw [show (100 : Nat) ^ (5 - 1) = 100000000 from rfl]; omega] at this
  exact this

theorem m_part2 {l : Launch} {D : va_G} {M nx : Nat} {L : Int32} {σ ρ : Sg} {g : Nat → Option va_E} {s k : Nat} (h : MB σ s k) : jM (G0 l D) m_Mo_part 0 0 0 [.long (nL (codeN σ s k)), .int (nI 2)] (hM D M L σ ρ g, nx) (fun v h => v = some (.int (nI (σ 23 s k))) ∧ h = (hM D M L σ ρ g, nx)) := by
  have := m_part (l := l) (D := D) (M := M) (nx := nx) (L := L) (σ := σ) (ρ := ρ) (g := g) (codeN σ s k) 2 (by decide) (codeN_lt h)
  obtain ⟨h1, h2, h3, h4, h5, h6⟩ := h
  rw [show codeN σ s k / 100 ^ (5 - 2) % 100 = σ 23 s k by unfold codeN; rw [show (100 : Nat) ^ (5 - 2) = 1000000 from rfl]; omega] at this
  exact this

theorem m_part3 {l : Launch} {D : va_G} {M nx : Nat} {L : Int32} {σ ρ : Sg} {g : Nat → Option va_E} {s k : Nat} (h : MB σ s k) : jM (G0 l D) m_Mo_part 0 0 0 [.long (nL (codeN σ s k)), .int (nI 3)] (hM D M L σ ρ g, nx) (fun v h => v = some (.int (nI (σ 24 s k))) ∧ h = (hM D M L σ ρ g, nx)) := by
  have := m_part (l := l) (D := D) (M := M) (nx := nx) (L := L) (σ := σ) (ρ := ρ) (g := g) (codeN σ s k) 3 (by decide) (codeN_lt h)
  obtain ⟨h1, h2, h3, h4, h5, h6⟩ := h
  rw [show codeN σ s k / 100 ^ (5 - 3) % 100 = σ 24 s k by unfold codeN; rw [show (100 : Nat) ^ (5 - 3) = 10000 from rfl]; omega] at this
  exact this

theorem m_part4 {l : Launch} {D : va_G} {M nx : Nat} {L : Int32} {σ ρ : Sg} {g : Nat → Option va_E} {s k : Nat} (h : MB σ s k) : jM (G0 l D) m_Mo_part 0 0 0 [.long (nL (codeN σ s k)), .int (nI 4)] (hM D M L σ ρ g, nx) (fun v h => v = some (.int (nI (σ 25 s k))) ∧ h = (hM D M L σ ρ g, nx)) := by
  have := m_part (l := l) (D := D) (M := M) (nx := nx) (L := L) (σ := σ) (ρ := ρ) (g := g) (codeN σ s k) 4 (by decide) (codeN_lt h)
  obtain ⟨h1, h2, h3, h4, h5, h6⟩ := h
  rw [show codeN σ s k / 100 ^ (5 - 4) % 100 = σ 25 s k by unfold codeN; rw [show (100 : Nat) ^ (5 - 4) = 100 from rfl]; omega] at this
  exact this

theorem m_part5 {l : Launch} {D : va_G} {M nx : Nat} {L : Int32} {σ ρ : Sg} {g : Nat → Option va_E} {s k : Nat} (h : MB σ s k) : jM (G0 l D) m_Mo_part 0 0 0 [.long (nL (codeN σ s k)), .int (nI 5)] (hM D M L σ ρ g, nx) (fun v h => v = some (.int (nI (σ 26 s k))) ∧ h = (hM D M L σ ρ g, nx)) := by
  have := m_part (l := l) (D := D) (M := M) (nx := nx) (L := L) (σ := σ) (ρ := ρ) (g := g) (codeN σ s k) 5 (by decide) (codeN_lt h)
  obtain ⟨h1, h2, h3, h4, h5, h6⟩ := h
  rw [show codeN σ s k / 100 ^ (5 - 5) % 100 = σ 26 s k by unfold codeN; rw [show (100 : Nat) ^ (5 - 5) = 1 from rfl]; omega] at this
  exact this

/-- a message written into the reference -/
def sM (σ : Sg) (s j k i h r x y : Nat) : Sg := U (U (U (U (U (U σ 21 s j k) 22 s j i) 23 s j h) 24 s j r) 25 s j x) 26 s j y
theorem sM_ne {σ : Sg} {s j k i h r x y f : Nat} (hf : f < 21 ∨ 26 < f) : sM σ s j k i h r x y f = σ f := by
  unfold sM
  rw [U_ne (by omega), U_ne (by omega), U_ne (by omega), U_ne (by omega), U_ne (by omega), U_ne (by omega)]
theorem codeN_sM {σ : Sg} {s j k i h r x y a b : Nat} : codeN (sM σ s j k i h r x y) a b = if a = s ∧ b = j then ((((k * 100 + i) * 100 + h) * 100 + r) * 100 + x) * 100 + y else codeN σ a b := by
  have e : ∀ (τ : Sg) (f v : Nat) (f' : Nat), U τ f s j v f' a b = if f' = f ∧ a = s ∧ b = j then v else τ f' a b := by
    intro τ f v f'
    by_cases hf : f' = f
    · subst hf; rw [U_at]; simp
    · rw [U_ne hf]; simp [hf]
  unfold codeN sM
  simp only [e]
  by_cases c : a = s ∧ b = j
  · simp [c]
  · simp [c]
theorem oL {D : va_G} {M : Nat} {L : Int32} {σ ρ : Sg} {g : Nat → Option va_E} {s j k i h r x y c : Nat} (hj : j < 1000) (hc : c = ((((k * 100 + i) * 100 + h) * 100 + r) * 100 + x) * 100 + y) : va_up (hM D M L σ ρ g) (M + 21) (some (jLA (D.1 22) 2000 (vp_updL (fun k => nL (codeN σ (k / 1000) (k % 1000))) (1000 * s + j) (nL c)))) = hM D M L (sM σ s j k i h r x y) ρ g := by
  have e : vp_updL (fun k => nL (codeN σ (k / 1000) (k % 1000))) (1000 * s + j) (nL c) = fun q => nL (codeN (sM σ s j k i h r x y) (q / 1000) (q % 1000)) := by
    funext q
    rw [codeN_sM]
    by_cases hq : q = 1000 * s + j
    · rw [if_pos ⟨by omega, by omega⟩]
      simp [vp_updL, hq, hc]
    · rw [if_neg (by omega)]
      simp [vp_updL, hq]
  rw [e]
  refine hM_up (o := 21) (by decide) (fun o' h1 h2 => ocell_congr o' h1 (fun f e => sM_ne ?_) (fun _ _ => rfl))
  have : ∀ f, 21 ≤ f → f ≤ 26 → oidx f = 21 := by
    intro f h1 h2
    have : f = 21 ∨ f = 22 ∨ f = 23 ∨ f = 24 ∨ f = 25 ∨ f = 26 := by omega
    rcases this with rfl | rfl | rfl | rfl | rfl | rfl <;> rfl
  have h3 := this f
  omega
theorem U_skip {σ : Sg} {f1 a1 b1 v1 f2 a2 b2 v2 f : Nat} (h : f ≠ f1) : U (U σ f1 a1 b1 v1) f2 a2 b2 v2 f = U σ f2 a2 b2 v2 f := by
  by_cases e : f = f2
  · subst e
    funext a b
    rw [U_at, U_at, U_ne h]
  · rw [U_ne e, U_ne e, U_ne h]
theorem oidx_29 {f : Nat} (h : oidx f < 28) : f ≠ 0 ∧ f ≠ 29 ∧ f ≠ 30 ∧ f ≠ 31 ∧ f ≠ 32 := by
  refine ⟨?_, ?_, ?_, ?_, ?_⟩ <;> (rintro rfl; exact absurd h (by decide))
theorem hM_send {D : va_G} {M : Nat} {L : Int32} {σ ρ : Sg} {g : Nat → Option va_E} {p k x y : Nat} : hM D M L (U (U (sM σ (p / 4) (σ 20 (p / 4) 0) k (p % 4) (σ 10 p 0) (σ 11 p 0) x y) 27 (p / 4) (σ 20 (p / 4) 0) (2 ^ (p % 4))) 20 (p / 4) 0 (σ 20 (p / 4) 0 + 1)) ρ g = hM D M L (sSend σ p k x y) ρ g := by
  symm
  refine hM_cgr (fun f hf => ?_)
  obtain ⟨-, h1, h2, -, -⟩ := oidx_29 hf
  unfold sSend sGh
  rw [U_skip h2, U_skip h1]
  rfl

set_option maxHeartbeats 4000000 in
set_option maxRecDepth 100000 in
theorem m_send {l : Launch} {D : va_G} {M nx : Nat} {L : Int32} {σ ρ : Sg} {g : Nat → Option va_E} (hb : bd σ) (p : Nat) (hp : p < 8) (h918 : σ 20 (p / 4) 0 < 918) (k x y : Nat) (hk : k < 3) (hx : x < 100000) (hy : y < 100000) : jM (G0 l D) m_Mo_send 0 0 0 [.ref (M + 0), .int (nI p), .int (nI k), .int (mI x), .int (mI y)] (hM D M L σ ρ g, nx) (fun v h => v = none ∧ h = (hM D M L (sSend σ p k x y) ρ g, nx)) := by
  refine jM.of (by decide +kernel) (Nat.le_of_ble_eq_true rfl) rfl ?_
  have b10 := hb 10 p 0
  have b11 := hb 11 p 0
  have hs : p / 4 < 2 := by omega
  refine j_iload_n d_Mo_send_0 rfl ?_
  refine j_iconst (v := nI 4) d_Mo_send_1 (by decide +kernel) ?_
  refine jn_idiv d_Mo_send_2 (by omega) (by decide) (by decide) ?_
  refine j_istore (lc' := [_, _, _, _, _, _, _, _, _]) d_Mo_send_3 (by decide) rfl rfl ?_
  refine j_sipush (v := nI 1000) d_Mo_send_5 (by decide +kernel) ?_
  refine j_iload d_Mo_send_8 rfl ?_
  refine jn_imul d_Mo_send_10 ?_
  first | refine j_aload_n d_Mo_send_11 rfl ?_ | refine j_aload_nq d_Mo_send_11 rfl ?_ | refine j_aload_nN d_Mo_send_11 rfl ?_
  refine j_get d_Mo_send_12 f_Mo_68 (hM_o (by decide)) rfl ?_
  refine j_iload d_Mo_send_15 rfl ?_
  refine j_iald (t := 0) d_Mo_send_17 rfl (hM_o (by decide)) rfl (by omega) (by decide) ?_
  refine jn_iadd d_Mo_send_18 ?_
  refine j_istore (lc' := [_, _, _, _, _, _, _, _, _]) d_Mo_send_19 (by decide) rfl rfl ?_
  refine j_iload_n d_Mo_send_21 rfl ?_
  refine ol_i2l d_Mo_send_22 (by omega) ?_
  refine j_lstore (lc' := [_, _, _, _, _, _, _, _, _]) d_Mo_send_23 (by decide) rfl rfl ?_
  refine j_ldc2 (v := nL 100) d_Mo_send_25 w_Mo_135 ?_
  refine j_lload d_Mo_send_28 rfl ?_
  refine ol_mul d_Mo_send_30 ?_
  refine j_iload_n d_Mo_send_31 rfl ?_
  refine j_iconst (v := nI 4) d_Mo_send_32 (by decide +kernel) ?_
  refine jn_irem d_Mo_send_33 (by omega) (by decide) (by decide) ?_
  refine ol_i2l d_Mo_send_34 (by omega) ?_
  refine ol_add d_Mo_send_35 ?_
  refine j_lstore (lc' := [_, _, _, _, _, _, _, _, _]) d_Mo_send_36 (by decide) rfl rfl ?_
  refine j_ldc2 (v := nL 100) d_Mo_send_38 w_Mo_135 ?_
  refine j_lload d_Mo_send_41 rfl ?_
  refine ol_mul d_Mo_send_43 ?_
  first | refine j_aload_n d_Mo_send_44 rfl ?_ | refine j_aload_nq d_Mo_send_44 rfl ?_ | refine j_aload_nN d_Mo_send_44 rfl ?_
  refine j_get d_Mo_send_45 f_Mo_37 (hM_o (by decide)) rfl ?_
  refine j_iload_n d_Mo_send_48 rfl ?_
  refine j_iald (t := 0) d_Mo_send_49 rfl (hM_o (by decide)) rfl (by omega) (by decide) ?_
  refine ol_i2l d_Mo_send_50 (by omega) ?_
  refine ol_add d_Mo_send_51 ?_
  refine j_lstore (lc' := [_, _, _, _, _, _, _, _, _]) d_Mo_send_52 (by decide) rfl rfl ?_
  refine j_ldc2 (v := nL 100) d_Mo_send_54 w_Mo_135 ?_
  refine j_lload d_Mo_send_57 rfl ?_
  refine ol_mul d_Mo_send_59 ?_
  first | refine j_aload_n d_Mo_send_60 rfl ?_ | refine j_aload_nq d_Mo_send_60 rfl ?_ | refine j_aload_nN d_Mo_send_60 rfl ?_
  refine j_get d_Mo_send_61 f_Mo_40 (hM_o (by decide)) rfl ?_
  refine j_iload_n d_Mo_send_64 rfl ?_
  refine j_iald (t := 0) d_Mo_send_65 rfl (hM_o (by decide)) rfl (by omega) (by decide) ?_
  refine ol_i2l d_Mo_send_66 (by omega) ?_
  refine ol_add d_Mo_send_67 ?_
  refine j_lstore (lc' := [_, _, _, _, _, _, _, _, _]) d_Mo_send_68 (by decide) rfl rfl ?_
  refine j_ldc2 (v := nL 100) d_Mo_send_70 w_Mo_135 ?_
  refine j_lload d_Mo_send_73 rfl ?_
  refine ol_mul d_Mo_send_75 ?_
  refine j_iload_n d_Mo_send_76 rfl ?_
  refine ol_m2l d_Mo_send_77 ?_
  refine ol_mad d_Mo_send_78 ?_
  refine j_lconst (v := nL 1) d_Mo_send_79 (by decide +kernel) ?_
  refine ol_mad1 d_Mo_send_80 (by omega) ?_
  refine j_lstore (lc' := [_, _, _, _, _, _, _, _, _]) d_Mo_send_81 (by decide) rfl rfl ?_
  first | refine j_aload_n d_Mo_send_83 rfl ?_ | refine j_aload_nq d_Mo_send_83 rfl ?_ | refine j_aload_nN d_Mo_send_83 rfl ?_
  refine j_get d_Mo_send_84 f_Mo_71 (hM_o (by decide)) rfl ?_
  refine j_iload d_Mo_send_87 rfl ?_
  refine j_ldc2 (v := nL 100) d_Mo_send_89 w_Mo_135 ?_
  refine j_lload d_Mo_send_92 rfl ?_
  refine ol_mul d_Mo_send_94 ?_
  refine j_iload d_Mo_send_95 rfl ?_
  refine ol_m2l d_Mo_send_97 ?_
  refine ol_mad d_Mo_send_98 ?_
  refine j_lconst (v := nL 1) d_Mo_send_99 (by decide +kernel) ?_
  refine ol_mad1 d_Mo_send_100 (by omega) ?_
  refine j_last (t := 2) d_Mo_send_101 rfl (hM_o (by decide)) rfl (by omega) (by decide) (J.hq (oL (k := k) (i := p % 4) (h := σ 10 p 0) (r := σ 11 p 0) (x := x) (y := y) (by omega) (by omega)) ?_)
  first | refine j_aload_n d_Mo_send_102 rfl ?_ | refine j_aload_nq d_Mo_send_102 rfl ?_ | refine j_aload_nN d_Mo_send_102 rfl ?_
  refine j_get d_Mo_send_103 f_Mo_75 (hM_o (by decide)) rfl ?_
  refine j_iload d_Mo_send_106 rfl ?_
  refine j_iconst (v := nI 1) d_Mo_send_108 (by decide +kernel) ?_
  refine j_iload_n d_Mo_send_109 rfl ?_
  refine j_iconst (v := nI 4) d_Mo_send_110 (by decide +kernel) ?_
  refine jn_irem d_Mo_send_111 (by omega) (by decide) (by decide) ?_
  refine j_ishl d_Mo_send_112 ?_
  rw [tk_one _ (Nat.mod_lt _ (by decide))]
  refine j_iast (t := 0) d_Mo_send_113 rfl (hM_o (by decide)) rfl (by omega) (by decide) (J.hq (o27 (by omega)) ?_)
  first | refine j_aload_n d_Mo_send_114 rfl ?_ | refine j_aload_nq d_Mo_send_114 rfl ?_ | refine j_aload_nN d_Mo_send_114 rfl ?_
  refine j_get d_Mo_send_115 f_Mo_68 (hM_o (by decide)) rfl ?_
  refine j_iload d_Mo_send_118 rfl ?_
  refine j_dup2 d_Mo_send_120 rfl rfl ?_
  refine j_iald (t := 0) d_Mo_send_121 rfl (hM_o (by decide)) rfl (by omega) (by decide) ?_
  refine j_iconst (v := nI 1) d_Mo_send_122 (by decide +kernel) ?_
  refine jn_iadd d_Mo_send_123 ?_
  refine j_iast (t := 0) d_Mo_send_124 rfl (hM_o (by decide)) rfl (by omega) (by decide) (J.hq o20 ?_)
  exact j_vret d_Mo_send_125 rfl ⟨rfl, by rw [← hM_send]; rfl⟩

/-- a message counted -/
def cnt (ρ : Sg) (k i r x y : Nat) : Sg := if k = 0 then U (U (U ρ 0 0 (198 * k + 33 * r + x) (tks (ρ 0 0 (198 * k + 33 * r + x)) i)) 1 0 r x) 2 0 r y else U ρ 0 0 (198 * k + 33 * r + x) (tks (ρ 0 0 (198 * k + 33 * r + x)) i)

set_option maxHeartbeats 4000000 in
set_option maxRecDepth 100000 in
theorem m_count {l : Launch} {D : va_G} {M nx : Nat} {L : Int32} {σ ρ : Sg} {g : Nat → Option va_E} (k i r x y : Nat) (hk : k < 3) (hi : i < 4) (hr : r < 6) (hx : x < 33) (h16 : ρ 0 0 (198 * k + 33 * r + x) < 16) : jM (G0 l D) m_Mo_count 0 0 0 [.ref (M + 0), .int (nI k), .int (nI i), .int (nI r), .int (mI x), .int (mI y)] (hM D M L σ ρ g, nx) (fun v h => v = none ∧ h = (hM D M L σ (cnt ρ k i r x y) g, nx)) := by
  refine jM.of (by decide +kernel) (Nat.le_of_ble_eq_true rfl) rfl ?_
  refine j_sipush (v := nI 198) d_Mo_count_0 (by decide +kernel) ?_
  refine j_iload_n d_Mo_count_3 rfl ?_
  refine jn_imul d_Mo_count_4 ?_
  refine j_bipush (v := nI 33) d_Mo_count_5 (by decide +kernel) ?_
  refine j_iload_n d_Mo_count_7 rfl ?_
  refine jn_imul d_Mo_count_8 ?_
  refine jn_iadd d_Mo_count_9 ?_
  refine j_iload d_Mo_count_10 rfl ?_
  refine j_iadd d_Mo_count_12 ?_
  refine j_iconst (v := nI 1) d_Mo_count_13 (by decide +kernel) ?_
  refine j_iadd d_Mo_count_14 ?_
  rw [nm_add1]
  refine j_istore (lc' := [_, _, _, _, _, _, _]) d_Mo_count_15 (by decide) rfl rfl ?_
  first | refine j_aload_n d_Mo_count_17 rfl ?_ | refine j_aload_nq d_Mo_count_17 rfl ?_ | refine j_aload_nN d_Mo_count_17 rfl ?_
  refine j_get d_Mo_count_18 f_Mo_81 (hM_o (by decide)) rfl ?_
  refine j_iload d_Mo_count_21 rfl ?_
  first | refine j_aload_n d_Mo_count_23 rfl ?_ | refine j_aload_nq d_Mo_count_23 rfl ?_ | refine j_aload_nN d_Mo_count_23 rfl ?_
  refine j_get d_Mo_count_24 f_Mo_81 (hM_o (by decide)) rfl ?_
  refine j_iload d_Mo_count_27 rfl ?_
  refine j_iald (t := 0) d_Mo_count_29 rfl (hM_o (by decide)) rfl (by omega) (by decide) ?_
  refine j_iconst (v := nI 1) d_Mo_count_30 (by decide +kernel) ?_
  refine j_iload_n d_Mo_count_31 rfl ?_
  refine j_ishl d_Mo_count_32 ?_
  refine j_ior d_Mo_count_33 ?_
  rw [tk_or _ h16 _ hi]
  refine j_iast (t := 0) d_Mo_count_34 rfl (hM_o (by decide)) rfl (by omega) (by decide) (J.hq r0w ?_)
  refine j_iload_n d_Mo_count_35 rfl ?_
  first | refine c_if_ne (t := 55) d_Mo_count_36 (by decide) (fun c36 => ?_) (fun c36 => ?_) | refine n_if_ne (t := 55) d_Mo_count_36 (by decide) (by omega) (fun c36 => ?_) (fun c36 => ?_) | refine j_if_ne (t := 55) d_Mo_count_36 (by decide) (fun c36 => ?_) (fun c36 => ?_)
  · exact j_vret d_Mo_count_55 rfl ⟨rfl, by rw [cnt, if_neg c36]⟩
  · first | refine j_aload_n d_Mo_count_39 rfl ?_ | refine j_aload_nq d_Mo_count_39 rfl ?_ | refine j_aload_nN d_Mo_count_39 rfl ?_
    refine j_get d_Mo_count_40 f_Mo_84 (hM_o (by decide)) rfl ?_
    refine j_iload_n d_Mo_count_43 rfl ?_
    refine j_iload d_Mo_count_44 rfl ?_
    refine j_iast (t := 0) d_Mo_count_46 rfl (hM_o (by decide)) rfl (by omega) (by decide) (J.hq r1w ?_)
    first | refine j_aload_n d_Mo_count_47 rfl ?_ | refine j_aload_nq d_Mo_count_47 rfl ?_ | refine j_aload_nN d_Mo_count_47 rfl ?_
    refine j_get d_Mo_count_48 f_Mo_87 (hM_o (by decide)) rfl ?_
    refine j_iload_n d_Mo_count_51 rfl ?_
    refine j_iload d_Mo_count_52 rfl ?_
    refine j_iast (t := 0) d_Mo_count_54 rfl (hM_o (by decide)) rfl (by omega) (by decide) (J.hq r2w ?_)
    exact j_vret d_Mo_count_55 rfl ⟨rfl, by rw [cnt, if_pos c36]⟩

set_option maxHeartbeats 4000000 in
set_option maxRecDepth 100000 in
theorem m_three {l : Launch} {D : va_G} {M nx : Nat} {L : Int32} {σ ρ : Sg} {g : Nat → Option va_E} (k r x : Nat) (hk : k < 3) (hr : r < 6) (hx : x < 33) (h16 : ρ 0 0 (198 * k + 33 * r + x) < 16) : jM (G0 l D) m_Mo_three 1 0 0 [.ref (M + 0), .int (nI k), .int (nI r), .int (mI x)] (hM D M L σ ρ g, nx) (fun v h => v = some (.int (cI (3 ≤ bc (ρ 0 0 (198 * k + 33 * r + x))))) ∧ h = (hM D M L σ ρ g, nx)) := by
  refine jM.of (by decide +kernel) (Nat.le_of_ble_eq_true rfl) rfl ?_
  first | refine j_aload_n d_Mo_three_0 rfl ?_ | refine j_aload_nq d_Mo_three_0 rfl ?_ | refine j_aload_nN d_Mo_three_0 rfl ?_
  refine j_get d_Mo_three_1 f_Mo_81 (hM_o (by decide)) rfl ?_
  refine j_sipush (v := nI 198) d_Mo_three_4 (by decide +kernel) ?_
  refine j_iload_n d_Mo_three_7 rfl ?_
  refine jn_imul d_Mo_three_8 ?_
  refine j_bipush (v := nI 33) d_Mo_three_9 (by decide +kernel) ?_
  refine j_iload_n d_Mo_three_11 rfl ?_
  refine jn_imul d_Mo_three_12 ?_
  refine jn_iadd d_Mo_three_13 ?_
  refine j_iload_n d_Mo_three_14 rfl ?_
  refine j_iadd d_Mo_three_15 ?_
  refine j_iconst (v := nI 1) d_Mo_three_16 (by decide +kernel) ?_
  refine j_iadd d_Mo_three_17 ?_
  rw [nm_add1]
  refine j_iald (t := 0) d_Mo_three_18 rfl (hM_o (by decide)) rfl (by omega) (by decide) ?_
  refine j_callS0 (As := [_]) G0_good G0_E d_Mo_three_19 c_Mo_149 rfl rfl rfl (m_bits (ρ 0 0 (198 * k + 33 * r + x)) h16) (by decide) (Nat.le_of_ble_eq_true rfl) ?_
  rintro _ _ ⟨rfl, rfl⟩
  have hbc : bc (ρ 0 0 (198 * k + 33 * r + x)) < 2 ^ 31 := by unfold bc; omega
  refine j_iconst (v := nI 3) d_Mo_three_22 (by decide +kernel) ?_
  first | refine nn_icmp_lt (t := 30) d_Mo_three_23 (by decide) (by omega) (by omega) (fun c23 => ?_) (fun c23 => ?_) | refine mm_icmp_lt (t := 30) d_Mo_three_23 (by decide) (by omega) (by omega) (fun c23 => ?_) (fun c23 => ?_) | refine mn_icmp_lt (t := 30) d_Mo_three_23 (by decide) (by omega) (by omega) (fun c23 => ?_) (fun c23 => ?_) | refine nm_icmp_lt (t := 30) d_Mo_three_23 (by decide) (by omega) (by omega) (fun c23 => ?_) (fun c23 => ?_) | refine j_icmp_lt (t := 30) d_Mo_three_23 (by decide) (fun c23 => ?_) (fun c23 => ?_)
  · refine j_iconst (v := nI 0) d_Mo_three_30 (by decide +kernel) ?_
    first | exact jc_t d_Mo_three_31 rfl (by omega) rfl | exact jc_f d_Mo_three_31 rfl (by omega) rfl | exact jc_c d_Mo_three_31 rfl Iff.rfl rfl | exact j_zret d_Mo_three_31 rfl (by decide +kernel) ⟨rfl, rfl⟩
  · refine j_iconst (v := nI 1) d_Mo_three_26 (by decide +kernel) ?_
    refine j_goto (t := 31) d_Mo_three_27 (by decide) ?_
    first | exact jc_t d_Mo_three_31 rfl (by omega) rfl | exact jc_f d_Mo_three_31 rfl (by omega) rfl | exact jc_c d_Mo_three_31 rfl Iff.rfl rfl | exact j_zret d_Mo_three_31 rfl (by decide +kernel) ⟨rfl, rfl⟩
