set_option linter.unusedVariables false
set_option linter.unusedSimpArgs false
/-! Pure part 1: counting, quorums, what each step does to each field. -/
theorem Pu.inj_le : ∀ (n m : Nat) (f : Nat → Nat), (∀ i, i < n → f i < m) → (∀ i j, i < n → j < n → f i = f j → i = j) → n ≤ m
  | 0, m, f, _, _ => Nat.zero_le m
  | n + 1, m, f, hb, hi => by
    have hv : f n < m := hb n (by omega)
    have h := inj_le n (m - 1) (fun i => if f i < f n then f i else f i - 1)
      (fun i hin => by
        have h1 := hb i (by omega)
        have h2 : f i ≠ f n := fun e => by have := hi i n (by omega) (by omega) e; omega
        show (if f i < f n then f i else f i - 1) < m - 1
        split <;> omega)
      (fun i j hin hjn e => by
        have h1 : f i ≠ f n := fun e => by have := hi i n (by omega) (by omega) e; omega
        have h2 : f j ≠ f n := fun e => by have := hi j n (by omega) (by omega) e; omega
        apply hi i j (by omega) (by omega)
        have e' : (if f i < f n then f i else f i - 1) = (if f j < f n then f j else f j - 1) := e
        split at e' <;> split at e' <;> omega)
    omega
/-- three of four -/
def Pu.Qm (P : Nat → Prop) : Prop := ∃ e, e < 4 ∧ ∀ i, i < 4 → i ≠ e → P i
theorem Pu.Qm_mono {P P' : Nat → Prop} (h : ∀ i, i < 4 → P i → P' i) : Qm P → Qm P' := fun ⟨e, he, hp⟩ => ⟨e, he, fun i hi hn => h i hi (hp i hi hn)⟩
theorem Pu.Qm_two {P P' : Nat → Prop} (h : Qm P) (h' : Qm P') : ∃ i, i < 3 ∧ P i ∧ P' i := by
  obtain ⟨e, he, hp⟩ := h
  obtain ⟨e', he', hp'⟩ := h'
  have : ∃ i, i < 3 ∧ i ≠ e ∧ i ≠ e' := by
    by_cases h0 : 0 ≠ e ∧ 0 ≠ e'
    · exact ⟨0, by omega, h0⟩
    · by_cases h1 : 1 ≠ e ∧ 1 ≠ e'
      · exact ⟨1, by omega, h1⟩
      · exact ⟨2, by omega, by omega, by omega⟩
  obtain ⟨i, hi, h1, h2⟩ := this
  exact ⟨i, hi, hp i (by omega) h1, hp' i (by omega) h2⟩
theorem Pu.Qm_0 {P : Nat → Prop} (h1 : P 1) (h2 : P 2) (h3 : P 3) : Qm P := ⟨0, by omega, fun i hi hn => by
  have : i = 1 ∨ i = 2 ∨ i = 3 := by omega
  rcases this with e | e | e <;> subst e <;> assumption⟩
theorem Pu.Qm_1 {P : Nat → Prop} (h1 : P 0) (h2 : P 2) (h3 : P 3) : Qm P := ⟨1, by omega, fun i hi hn => by
  have : i = 0 ∨ i = 2 ∨ i = 3 := by omega
  rcases this with e | e | e <;> subst e <;> assumption⟩
theorem Pu.Qm_2 {P : Nat → Prop} (h1 : P 0) (h2 : P 1) (h3 : P 3) : Qm P := ⟨2, by omega, fun i hi hn => by
  have : i = 0 ∨ i = 1 ∨ i = 3 := by omega
  rcases this with e | e | e <;> subst e <;> assumption⟩
theorem Pu.Qm_3 {P : Nat → Prop} (h1 : P 0) (h2 : P 1) (h3 : P 2) : Qm P := ⟨3, by omega, fun i hi hn => by
  have : i = 0 ∨ i = 1 ∨ i = 2 := by omega
  rcases this with e | e | e <;> subst e <;> assumption⟩
theorem Pu.cq_Qm {σ : Sg} {p k r q : Nat} (h : 3 ≤ cq σ p k r q 4) : Qm (fun i => σ 29 p (slt k r i) = q + 1) := by
  simp only [cq] at h
  by_cases h0 : σ 29 p (slt k r 0) = q + 1 <;> by_cases h1 : σ 29 p (slt k r 1) = q + 1 <;> by_cases h2 : σ 29 p (slt k r 2) = q + 1 <;> by_cases h3 : σ 29 p (slt k r 3) = q + 1 <;>
    simp only [h0, h1, h2, h3, if_true, if_false] at h
  all_goals first
    | (exfalso; omega)
    | exact Qm_0 h1 h2 h3
    | exact Qm_1 h0 h2 h3
    | exact Qm_2 h0 h1 h3
    | exact Qm_3 h0 h1 h2
/-- what a send does -/
theorem Pu.sSend_ne {σ : Sg} {p k x y f : Nat} (h : f < 20 ∨ f = 28 ∨ 30 < f) : sSend σ p k x y f = σ f := by
  unfold sSend sGh
  rw [U_ne (by omega), U_ne (by omega), U_ne (by omega), U_ne (by omega), U_ne (by omega), U_ne (by omega), U_ne (by omega), U_ne (by omega), U_ne (by omega), U_ne (by omega)]
theorem Pu.sSend_20 {σ : Sg} {p k x y a b : Nat} : sSend σ p k x y 20 a b = if a = p / 4 ∧ b = 0 then σ 20 (p / 4) 0 + 1 else σ 20 a b := by
  simp [sSend, sGh, U_ne, U_at]
theorem Pu.sSend_21 {σ : Sg} {p k x y a b : Nat} : sSend σ p k x y 21 a b = if a = p / 4 ∧ b = σ 20 (p / 4) 0 then k else σ 21 a b := by
  simp [sSend, sGh, U_ne, U_at]
theorem Pu.sSend_22 {σ : Sg} {p k x y a b : Nat} : sSend σ p k x y 22 a b = if a = p / 4 ∧ b = σ 20 (p / 4) 0 then p % 4 else σ 22 a b := by
  simp [sSend, sGh, U_ne, U_at]
theorem Pu.sSend_23 {σ : Sg} {p k x y a b : Nat} : sSend σ p k x y 23 a b = if a = p / 4 ∧ b = σ 20 (p / 4) 0 then σ 10 p 0 else σ 23 a b := by
  simp [sSend, sGh, U_ne, U_at]
theorem Pu.sSend_24 {σ : Sg} {p k x y a b : Nat} : sSend σ p k x y 24 a b = if a = p / 4 ∧ b = σ 20 (p / 4) 0 then σ 11 p 0 else σ 24 a b := by
  simp [sSend, sGh, U_ne, U_at]
theorem Pu.sSend_25 {σ : Sg} {p k x y a b : Nat} : sSend σ p k x y 25 a b = if a = p / 4 ∧ b = σ 20 (p / 4) 0 then x else σ 25 a b := by
  simp [sSend, sGh, U_ne, U_at]
theorem Pu.sSend_26 {σ : Sg} {p k x y a b : Nat} : sSend σ p k x y 26 a b = if a = p / 4 ∧ b = σ 20 (p / 4) 0 then y else σ 26 a b := by
  simp [sSend, sGh, U_ne, U_at]
theorem Pu.sSend_27 {σ : Sg} {p k x y a b : Nat} : sSend σ p k x y 27 a b = if a = p / 4 ∧ b = σ 20 (p / 4) 0 then 2 ^ (p % 4) else σ 27 a b := by
  simp [sSend, sGh, U_ne, U_at]
theorem Pu.sSend_29 {σ : Sg} {p k x y a b : Nat} : sSend σ p k x y 29 a b = if a = p ∧ b = slt k (σ 11 p 0) (p % 4) then x + 1 else σ 29 a b := by
  simp [sSend, sGh, U_ne, U_at]
theorem Pu.sSend_30 {σ : Sg} {p k x y a b : Nat} : sSend σ p k x y 30 a b = if a = p ∧ b = slt k (σ 11 p 0) (p % 4) then y else σ 30 a b := by
  simp [sSend, sGh, U_ne, U_at]
theorem Pu.slt_inj {k r i k' r' i' : Nat} (h : slt k r i = slt k' r' i') (hr : r < 6) (hi : i < 4) (hr' : r' < 6) (hi' : i' < 4) : k = k' ∧ r = r' ∧ i = i' := by
  unfold slt at h; omega
/-- a message is there -/
def Pu.Mg (σ : Sg) (s k i h r x y : Nat) : Prop := ∃ j, j < σ 20 s 0 ∧ σ 21 s j = k ∧ σ 22 s j = i ∧ σ 23 s j = h ∧ σ 24 s j = r ∧ σ 25 s j = x ∧ σ 26 s j = y
theorem Pu.Mg_cg {σ τ : Sg} (e : ∀ f, 20 ≤ f → f ≤ 26 → τ f = σ f) {s k i h r x y : Nat} : Mg τ s k i h r x y ↔ Mg σ s k i h r x y := by
  unfold Mg
  rw [e 20 (by omega) (by omega), e 21 (by omega) (by omega), e 22 (by omega) (by omega), e 23 (by omega) (by omega), e 24 (by omega) (by omega), e 25 (by omega) (by omega), e 26 (by omega) (by omega)]
theorem Pu.Mg_send {σ : Sg} {p kk xx yy s k i h r x y : Nat} : Mg (sSend σ p kk xx yy) s k i h r x y ↔ Mg σ s k i h r x y ∨ (s = p / 4 ∧ k = kk ∧ i = p % 4 ∧ h = σ 10 p 0 ∧ r = σ 11 p 0 ∧ x = xx ∧ y = yy) := by
  unfold Mg
  simp only [sSend_20, sSend_21, sSend_22, sSend_23, sSend_24, sSend_25, sSend_26]
  by_cases hs : s = p / 4
  · subst hs
    simp only [true_and, and_true, if_true]
    constructor
    · rintro ⟨j, hj, h1, h2, h3, h4, h5, h6⟩
      by_cases e : j = σ 20 (p / 4) 0
      · right
        simp only [e, if_true] at h1 h2 h3 h4 h5 h6
        exact ⟨h1.symm, h2.symm, h3.symm, h4.symm, h5.symm, h6.symm⟩
      · left
        simp only [e, if_false] at h1 h2 h3 h4 h5 h6
        exact ⟨j, by omega, h1, h2, h3, h4, h5, h6⟩
    · rintro (⟨j, hj, h1, h2, h3, h4, h5, h6⟩ | ⟨h1, h2, h3, h4, h5, h6⟩)
      · refine ⟨j, by omega, ?_⟩
        have e : ¬ j = σ 20 (p / 4) 0 := by omega
        simp only [e, if_false]
        exact ⟨h1, h2, h3, h4, h5, h6⟩
      · refine ⟨σ 20 (p / 4) 0, by omega, ?_⟩
        simp only [if_true]
        exact ⟨h1.symm, h2.symm, h3.symm, h4.symm, h5.symm, h6.symm⟩
  · simp only [hs, false_and, if_false, or_false]
