set_option linter.unusedVariables false
set_option linter.unusedSimpArgs false
/-! Pure part 3: execution reads little. -/
theorem Pu.exLk_ne {σ : Sg} {p t f : Nat} (h8 : f ≠ 8) (h9 : f ≠ 9) : ∀ j, exLk σ p t j f = σ f
  | 0 => rfl
  | j + 1 => by
    unfold exLk
    by_cases c : inp σ t (p / 4 + 2 * j)
    · rw [ifP_t c, U_ne h9, U_ne h8, exLk_ne h8 h9 j]
    · rw [ifP_f c, exLk_ne h8 h9 j]
theorem Pu.exSp_ne {σ : Sg} {p t f : Nat} (h8 : f ≠ 8) : ∀ j, exSp σ p t j f = σ f
  | 0 => rfl
  | j + 1 => by
    unfold exSp
    by_cases c : inp σ t (p / 4 + 2 * j)
    · rw [ifP_t c, U_ne h8, exSp_ne h8 j]
    · rw [ifP_f c]
      by_cases c' : mad σ t (p / 4 + 2 * j)
      · rw [ifP_t c', U_ne h8, exSp_ne h8 j]
      · rw [ifP_f c', exSp_ne h8 j]
theorem Pu.exFr_ne {σ : Sg} {p t f : Nat} (h8 : f ≠ 8) : ∀ j, exFr σ p t j f = σ f
  | 0 => rfl
  | j + 1 => by
    unfold exFr
    by_cases c : inp σ t (p / 4 + 2 * j) ∧ exFr σ p t j 8 p (p / 4 + 2 * j) = 2 ∧ exFr σ p t j 9 p (p / 4 + 2 * j) = t
    · rw [ifP_t c, U_ne h8, exFr_ne h8 j]
    · rw [ifP_f c, exFr_ne h8 j]
theorem Pu.exS_ne {σ : Sg} {p k t f : Nat} (h8 : f ≠ 8) (h9 : f ≠ 9) : exS σ p k t f = σ f := by
  unfold exS
  by_cases c : k = 0
  · rw [ifP_t c]
    by_cases c' : lkBad σ p t 10
    · rw [ifP_t c']
    · rw [ifP_f c', exLk_ne h8 h9]
  · rw [ifP_f c]
    by_cases c' : k = 1
    · rw [ifP_t c', exSp_ne h8]
    · rw [ifP_f c', exFr_ne h8]
theorem Pu.exLk_row {σ : Sg} {p t a : Nat} (h : a ≠ p) (f : Nat) : ∀ j, exLk σ p t j f a = σ f a
  | 0 => rfl
  | j + 1 => by
    unfold exLk
    by_cases c : inp σ t (p / 4 + 2 * j)
    · rw [ifP_t c, U_row h, U_row h, exLk_row h f j]
    · rw [ifP_f c, exLk_row h f j]
theorem Pu.exSp_row {σ : Sg} {p t a : Nat} (h : a ≠ p) (f : Nat) : ∀ j, exSp σ p t j f a = σ f a
  | 0 => rfl
  | j + 1 => by
    unfold exSp
    by_cases c : inp σ t (p / 4 + 2 * j)
    · rw [ifP_t c, U_row h, exSp_row h f j]
    · rw [ifP_f c]
      by_cases c' : mad σ t (p / 4 + 2 * j)
      · rw [ifP_t c', U_row h, exSp_row h f j]
      · rw [ifP_f c', exSp_row h f j]
theorem Pu.exFr_row {σ : Sg} {p t a : Nat} (h : a ≠ p) (f : Nat) : ∀ j, exFr σ p t j f a = σ f a
  | 0 => rfl
  | j + 1 => by
    unfold exFr
    by_cases c : inp σ t (p / 4 + 2 * j) ∧ exFr σ p t j 8 p (p / 4 + 2 * j) = 2 ∧ exFr σ p t j 9 p (p / 4 + 2 * j) = t
    · rw [ifP_t c, U_row h, exFr_row h f j]
    · rw [ifP_f c, exFr_row h f j]
theorem Pu.exS_row {σ : Sg} {p k t a : Nat} (h : a ≠ p) (f : Nat) : exS σ p k t f a = σ f a := by
  unfold exS
  by_cases c : k = 0
  · rw [ifP_t c]
    by_cases c' : lkBad σ p t 10
    · rw [ifP_t c']
    · rw [ifP_f c', exLk_row h]
  · rw [ifP_f c]
    by_cases c' : k = 1
    · rw [ifP_t c', exSp_row h]
    · rw [ifP_f c', exFr_row h]
/-- two replicas' rows look alike -/
def Pu.Lk (σ : Sg) (p : Nat) (τ : Sg) (p' : Nat) : Prop := ∀ n, σ 8 p n = τ 8 p' n ∧ σ 9 p n = τ 9 p' n
theorem Pu.Lk_U8 {σ τ : Sg} {p p' n v : Nat} (h : Lk σ p τ p') : Lk (U σ 8 p n v) p (U τ 8 p' n v) p' := by
  intro m
  simp only [U_at, U_ne (show (9:Nat) ≠ 8 by decide), true_and]
  exact ⟨by split <;> first | rfl | exact (h m).1, (h m).2⟩
theorem Pu.Lk_U9 {σ τ : Sg} {p p' n v : Nat} (h : Lk σ p τ p') : Lk (U σ 9 p n v) p (U τ 9 p' n v) p' := by
  intro m
  simp only [U_at, U_ne (show (8:Nat) ≠ 9 by decide), true_and]
  exact ⟨(h m).1, by split <;> first | rfl | exact (h m).2⟩
theorem Pu.exLk_cg {σ τ : Sg} {p p' t : Nat} (hp : p / 4 = p' / 4) (hi : ∀ n, inp σ t n ↔ inp τ t n) (e : Lk σ p τ p') : ∀ j, Lk (exLk σ p t j) p (exLk τ p' t j) p'
  | 0 => e
  | j + 1 => by
    unfold exLk
    rw [hp]
    by_cases c : inp σ t (p' / 4 + 2 * j)
    · rw [ifP_t c, ifP_t ((hi _).1 c)]
      exact Lk_U9 (Lk_U8 (exLk_cg hp hi e j))
    · rw [ifP_f c, ifP_f (fun c' => c ((hi _).2 c'))]
      exact exLk_cg hp hi e j
theorem Pu.exSp_cg {σ τ : Sg} {p p' t : Nat} (hp : p / 4 = p' / 4) (hi : ∀ n, inp σ t n ↔ inp τ t n) (hm : ∀ n, mad σ t n ↔ mad τ t n) (e : Lk σ p τ p') : ∀ j, Lk (exSp σ p t j) p (exSp τ p' t j) p'
  | 0 => e
  | j + 1 => by
    unfold exSp
    rw [hp]
    by_cases c : inp σ t (p' / 4 + 2 * j)
    · rw [ifP_t c, ifP_t ((hi _).1 c)]
      exact Lk_U8 (exSp_cg hp hi hm e j)
    · rw [ifP_f c, ifP_f (fun c' => c ((hi _).2 c'))]
      by_cases c2 : mad σ t (p' / 4 + 2 * j)
      · rw [ifP_t c2, ifP_t ((hm _).1 c2)]
        exact Lk_U8 (exSp_cg hp hi hm e j)
      · rw [ifP_f c2, ifP_f (fun c' => c2 ((hm _).2 c'))]
        exact exSp_cg hp hi hm e j
theorem Pu.exFr_cg {σ τ : Sg} {p p' t : Nat} (hp : p / 4 = p' / 4) (hi : ∀ n, inp σ t n ↔ inp τ t n) (e : Lk σ p τ p') : ∀ j, Lk (exFr σ p t j) p (exFr τ p' t j) p'
  | 0 => e
  | j + 1 => by
    have ih := exFr_cg hp hi e j
    unfold exFr
    rw [hp]
    have h1 := (ih (p' / 4 + 2 * j)).1
    have h2 := (ih (p' / 4 + 2 * j)).2
    by_cases c : inp σ t (p' / 4 + 2 * j) ∧ exFr σ p t j 8 p (p' / 4 + 2 * j) = 2 ∧ exFr σ p t j 9 p (p' / 4 + 2 * j) = t
    · rw [ifP_t c, ifP_t ⟨(hi _).1 c.1, h1 ▸ c.2.1, h2 ▸ c.2.2⟩]
      exact Lk_U8 ih
    · rw [ifP_f c, ifP_f (fun c' => c ⟨(hi _).2 c'.1, h1.trans c'.2.1, h2.trans c'.2.2⟩)]
      exact ih
theorem Pu.lkBad_cg {σ τ : Sg} {p p' t : Nat} (hp : p / 4 = p' / 4) (hi : ∀ n, inp σ t n ↔ inp τ t n) (e : Lk σ p τ p') (j : Nat) : lkBad σ p t j ↔ lkBad τ p' t j := by
  unfold lkBad
  rw [hp]
  constructor
  · rintro ⟨i, h1, h2, h3⟩
    exact ⟨i, h1, (hi _).1 h2, fun h => h3 ((e _).1.trans h)⟩
  · rintro ⟨i, h1, h2, h3⟩
    exact ⟨i, h1, (hi _).2 h2, fun h => h3 ((e _).1.symm.trans h)⟩
theorem Pu.exS_cg {σ τ : Sg} {p p' k t : Nat} (hp : p / 4 = p' / 4) (hi : ∀ n, inp σ t n ↔ inp τ t n) (hm : ∀ n, mad σ t n ↔ mad τ t n) (e : Lk σ p τ p') : Lk (exS σ p k t) p (exS τ p' k t) p' := by
  unfold exS
  by_cases c : k = 0
  · rw [ifP_t c, ifP_t c]
    by_cases c' : lkBad σ p t 10
    · rw [ifP_t c', ifP_t ((lkBad_cg hp hi e 10).1 c')]; exact e
    · rw [ifP_f c', ifP_f (fun c2 => c' ((lkBad_cg hp hi e 10).2 c2))]; exact exLk_cg hp hi e 10
  · rw [ifP_f c, ifP_f c]
    by_cases c' : k = 1
    · rw [ifP_t c', ifP_t c']; exact exSp_cg hp hi hm e 10
    · rw [ifP_f c', ifP_f c']; exact exFr_cg hp hi e 10
theorem Pu.exR_cg {σ τ : Sg} {p p' k t : Nat} (hp : p / 4 = p' / 4) (hi : ∀ n, inp σ t n ↔ inp τ t n) (e : Lk σ p τ p') : exR σ p k t = exR τ p' k t := by
  unfold exR
  by_cases c : k = 0 ∧ lkBad σ p t 10
  · rw [ifP_t c, ifP_t ⟨c.1, (lkBad_cg hp hi e 10).1 c.2⟩]
  · rw [ifP_f c, ifP_f (fun c2 => c ⟨c2.1, (lkBad_cg hp hi e 10).2 c2.2⟩)]
theorem Pu.rp_ne {σ : Sg} {p f : Nat} (h8 : f ≠ 8) (h9 : f ≠ 9) : ∀ k, rp σ p k f = σ f
  | 0 => by funext a b; simp only [rp, if_neg h8, if_neg h9]
  | k + 1 => by
    show exS (rp σ p k) p (σ 6 0 (σ 18 p k)) (σ 7 0 (σ 18 p k)) f = σ f
    rw [exS_ne h8 h9, rp_ne h8 h9 k]
/-- the books of a request look alike -/
def Pu.Sq (σ τ : Sg) (q : Nat) : Prop := σ 6 0 q = τ 6 0 q ∧ σ 7 0 q = τ 7 0 q ∧ σ 1 0 (σ 7 0 q) = τ 1 0 (σ 7 0 q) ∧ σ 2 0 (σ 7 0 q) = τ 2 0 (σ 7 0 q) ∧ ∀ n, 4 ≤ n → (n - 4) / 2 = σ 7 0 q → σ 4 0 n = τ 4 0 n
theorem Pu.Sq_inp {σ τ : Sg} {q : Nat} (h : Sq σ τ q) (n : Nat) : inp σ (σ 7 0 q) n ↔ inp τ (σ 7 0 q) n := by
  unfold inp; rw [h.2.2.1, h.2.2.2.1]
theorem Pu.Sq_mad {σ τ : Sg} {q : Nat} (h : Sq σ τ q) (n : Nat) : mad σ (σ 7 0 q) n ↔ mad τ (σ 7 0 q) n := by
  unfold mad
  constructor
  · rintro ⟨a, b, c⟩; exact ⟨a, b, by rw [← h.2.2.2.2 n a b]; exact c⟩
  · rintro ⟨a, b, c⟩; exact ⟨a, b, by rw [h.2.2.2.2 n a b]; exact c⟩
theorem Pu.rp_inp {σ : Sg} {p k t n : Nat} : inp (rp σ p k) t n ↔ inp σ t n := by
  unfold inp; rw [rp_ne (by decide) (by decide), rp_ne (by decide) (by decide)]
theorem Pu.rp_mad {σ : Sg} {p k t n : Nat} : mad (rp σ p k) t n ↔ mad σ t n := by
  unfold mad; rw [rp_ne (by decide) (by decide)]
theorem Pu.rp_cg {σ τ : Sg} {p p' : Nat} (hp : p / 4 = p' / 4) : ∀ K, (∀ k, k < K → σ 18 p k = τ 18 p' k ∧ Sq σ τ (σ 18 p k)) → Lk (rp σ p K) p (rp τ p' K) p'
  | 0, _ => by
    intro n
    simp [rp, hp]
  | K + 1, h => by
    have ih := rp_cg hp K (fun k hk => h k (by omega))
    obtain ⟨h1, h2⟩ := h K (by omega)
    show Lk (exS (rp σ p K) p (σ 6 0 (σ 18 p K)) (σ 7 0 (σ 18 p K))) p (exS (rp τ p' K) p' (τ 6 0 (τ 18 p' K)) (τ 7 0 (τ 18 p' K))) p'
    rw [← h1, ← h2.1, ← h2.2.1]
    exact exS_cg hp (fun n => by rw [rp_inp, rp_inp]; exact Sq_inp h2 n) (fun n => by rw [rp_mad, rp_mad]; exact Sq_mad h2 n) ih
theorem Pu.Ex_cg {σ τ : Sg} (e5 : ∀ q, q < σ 34 0 0 → τ 5 0 q = σ 5 0 q) (eq : ∀ q, q < σ 34 0 0 → Sq σ τ q) (e8 : τ 8 = σ 8) (e9 : τ 9 = σ 9) (e10 : τ 10 = σ 10) (e18 : τ 18 = σ 18) (e19 : τ 19 = σ 19) (e31 : τ 31 = σ 31) (e32 : τ 32 = σ 32) (e34 : σ 34 0 0 ≤ τ 34 0 0) (x : Ex σ) : Ex τ := by
  have rpe : ∀ p k, p < 8 → k ≤ σ 10 p 0 → Lk (rp σ p k) p (rp τ p k) p := fun p k hp hk => rp_cg rfl k (fun j hj => ⟨by rw [e18], eq _ (x.lg p j hp (by omega)).1⟩)
  refine ⟨?_, ?_, ?_, ?_, ?_, ?_, ?_, ?_⟩
  · intro p k hp hk
    rw [e10] at hk
    rw [e18]
    have := x.lg p k hp hk
    exact ⟨by omega, by rw [e5 _ this.1]; exact this.2⟩
  · rw [e10, e18]; exact x.ld
  · rw [e10, e18, e19]; exact x.rs
  · rw [e19]; exact x.r2
  · intro p n hp
    rw [e8, e9, e10, ← (rpe p _ hp (Nat.le_refl _) n).1, ← (rpe p _ hp (Nat.le_refl _) n).2]
    exact x.rp p n hp
  · intro p k hp hk
    rw [e10] at hk
    have hq := (x.lg p k hp hk).1
    have sq := eq _ hq
    rw [e18, e19, ← sq.1, ← sq.2.1, x.rr p k hp hk]
    exact exR_cg rfl (fun n => by rw [rp_inp, rp_inp]; exact Sq_inp sq n) (rpe p k hp (by omega))
  · rw [e31, e19]; exact x.cn
  · rw [e32, e19]; exact x.eq
theorem Pu.Sq_same {σ τ : Sg} (e1 : τ 1 = σ 1) (e2 : τ 2 = σ 2) (e4 : τ 4 = σ 4) (e6 : τ 6 = σ 6) (e7 : τ 7 = σ 7) (q : Nat) : Sq σ τ q := by
  unfold Sq; rw [e1, e2, e4, e6, e7]; exact ⟨rfl, rfl, rfl, rfl, fun _ _ _ => rfl⟩
