set_option linter.unusedVariables false
set_option linter.unusedSimpArgs false
/-! Pure part 10: the reference counts answers replica by replica. -/
def Pu.manR (σ : Sg) (q s : Nat) : Nat → Nat
  | 0 => 0
  | r + 1 => manR σ q s r + (if σ 19 (4 * s + r) q = 0 then 0 else 1)
def Pu.fndR (σ : Sg) (q s : Nat) : Nat → Nat
  | 0 => 0
  | r + 1 => if σ 19 (4 * s + r) q = 0 then fndR σ q s r else σ 19 (4 * s + r) q
def Pu.ansR (σ : Sg) (q : Nat) : Nat := if 2 ≤ manR σ q (σ 5 0 q) 4 then fndR σ q (σ 5 0 q) 4 else 0
theorem Pu.manR_le {σ : Sg} {q s : Nat} : ∀ r, manR σ q s r ≤ r
  | 0 => Nat.le_refl _
  | r + 1 => by
    have := manR_le (σ := σ) (q := q) (s := s) r
    show manR σ q s r + (if σ 19 (4 * s + r) q = 0 then 0 else 1) ≤ r + 1
    split <;> omega
theorem Pu.fndR_eq {σ : Sg} (X : Ex σ) {q s : Nat} (hs : s < 2) : ∀ r, r ≤ 4 → (manR σ q s r = 0 ∨ fndR σ q s r = σ 32 0 q) ∧ fndR σ q s r ≤ 2
  | 0, _ => ⟨Or.inl rfl, Nat.zero_le _⟩
  | r + 1, h => by
    have ih := fndR_eq X (q := q) hs r (by omega)
    show (manR σ q s r + (if σ 19 (4 * s + r) q = 0 then 0 else 1) = 0 ∨ (if σ 19 (4 * s + r) q = 0 then fndR σ q s r else σ 19 (4 * s + r) q) = σ 32 0 q) ∧ (if σ 19 (4 * s + r) q = 0 then fndR σ q s r else σ 19 (4 * s + r) q) ≤ 2
    by_cases c : σ 19 (4 * s + r) q = 0
    · rw [if_pos c, if_pos c]; exact ih
    · rw [if_neg c, if_neg c]
      exact ⟨Or.inr (X.eq (4 * s + r) q (by omega) c).symm, X.r2 _ _ (by omega)⟩
theorem Pu.cn_manR {σ : Sg} (X : Ex σ) {q : Nat} (hq : q < σ 34 0 0) (hs : σ 5 0 q < 2) : σ 31 0 q = manR σ q (σ 5 0 q) 4 := by
  have z : ∀ p, p < 8 → ¬ p / 4 = σ 5 0 q → σ 19 p q = 0 := fun p hp hn => by
    refine (X.rs p q hp).2 (fun k hk e => hn ?_)
    have := (X.lg p k hp hk).2
    rw [e] at this
    exact this.symm
  rw [X.cn q]
  have : σ 5 0 q = 0 ∨ σ 5 0 q = 1 := by omega
  rcases this with e | e
  · rw [e]
    have z4 := z 4 (by omega) (by omega)
    have z5 := z 5 (by omega) (by omega)
    have z6 := z 6 (by omega) (by omega)
    have z7 := z 7 (by omega) (by omega)
    simp only [sm, manR, z4, z5, z6, z7, if_true, Nat.mul_zero, Nat.zero_add, Nat.add_zero]
  · rw [e]
    have z4 := z 0 (by omega) (by omega)
    have z5 := z 1 (by omega) (by omega)
    have z6 := z 2 (by omega) (by omega)
    have z7 := z 3 (by omega) (by omega)
    simp only [sm, manR, z4, z5, z6, z7, if_true, Nat.mul_one, Nat.zero_add, Nat.add_zero, Nat.reduceAdd]
theorem Pu.ansR_ans {σ : Sg} (I : Iw σ) {q : Nat} (hq : q < σ 34 0 0) : ansR σ q = ans σ q ∧ ans σ q ≤ 2 := by
  have hs := (I.bk.rq q hq).1
  have hc := cn_manR I.ex hq hs
  have hf := fndR_eq I.ex (q := q) hs 4 (by omega)
  unfold ansR ans
  rw [hc]
  by_cases c : 2 ≤ manR σ q (σ 5 0 q) 4
  · rw [if_pos c, if_pos c]
    rcases hf.1 with h | h
    · omega
    · exact ⟨h, by rw [← h]; exact hf.2⟩
  · rw [if_neg c, if_neg c]; exact ⟨rfl, by omega⟩
theorem Pu.unans_t {σ : Sg} {k t : Nat} : ∀ n q, q < n → σ 6 0 q = k → σ 7 0 q = t → ans σ q = 0 → unans σ k t n = true
  | 0, q, h, _, _, _ => by omega
  | n + 1, q, h, h1, h2, h3 => by
    unfold unans
    by_cases e : q = n
    · subst e; simp [h1, h2, h3]
    · rw [unans_t n q (by omega) h1 h2 h3]; rfl
theorem Pu.unans_f {σ : Sg} {k t : Nat} : ∀ n, (∀ q, q < n → σ 6 0 q = k → σ 7 0 q = t → ¬ ans σ q = 0) → unans σ k t n = false
  | 0, _ => rfl
  | n + 1, h => by
    unfold unans
    rw [unans_f n (fun q hq => h q (by omega))]
    have := h n (by omega)
    by_cases h1 : σ 6 0 n = k
    · by_cases h2 : σ 7 0 n = t
      · simp [h1, h2, this h1 h2]
      · simp [h2]
    · simp [h1]
theorem Pu.hians_le {σ : Sg} {k t : Nat} {c : Nat} : ∀ n, (∀ q, q < n → ans σ q ≤ c) → hians σ k t n ≤ c
  | 0, _ => Nat.zero_le _
  | n + 1, h => by
    have ih := hians_le (k := k) (t := t) n (fun q hq => h q (by omega))
    have := h n (by omega)
    unfold hians
    split
    · exact Nat.max_le.mpr ⟨ih, this⟩
    · exact ih
theorem Pu.hians_ge {σ : Sg} {k t : Nat} : ∀ n q, q < n → σ 6 0 q = k → σ 7 0 q = t → ans σ q ≤ hians σ k t n
  | 0, q, h, _, _ => by omega
  | n + 1, q, h, h1, h2 => by
    unfold hians
    by_cases e : q = n
    · subst e; rw [if_pos ⟨h1, h2⟩]; exact Nat.le_max_right _ _
    · have := hians_ge n q (by omega) h1 h2
      split
      · exact Nat.le_trans this (Nat.le_max_left _ _)
      · exact this
theorem Pu.outc_le {σ : Sg} (I : Iw σ) (k t : Nat) : outc σ k t ≤ 2 := by
  unfold outc
  split
  · omega
  · exact hians_le _ (fun q hq => (ansR_ans I hq).2)
/-- all answered: the highest answer is the outcome -/
theorem Pu.outc_all {σ : Sg} {k t : Nat} (hx : ∃ q, q < σ 34 0 0 ∧ σ 7 0 q = t ∧ σ 6 0 q = k) (ha : ∀ q, q < σ 34 0 0 → σ 6 0 q = k → σ 7 0 q = t → ¬ ans σ q = 0) : outc σ k t = max 1 (hians σ k t (σ 34 0 0)) := by
  unfold outc
  rw [unans_f _ ha]
  obtain ⟨q, h1, h2, h3⟩ := hx
  have a := hians_ge (σ 34 0 0) q h1 h3 h2
  have b := ha q h1 h3 h2
  rw [if_neg (by decide), Nat.max_eq_right (by omega)]
theorem Pu.outc_0 {σ : Sg} {k t q : Nat} (hq : q < σ 34 0 0) (h6 : σ 6 0 q = k) (h7 : σ 7 0 q = t) (h : ans σ q = 0) : outc σ k t = 0 := by
  unfold outc
  rw [unans_t _ q hq h6 h7 h, if_pos rfl]
