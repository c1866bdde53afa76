set_option linter.unusedVariables false
set_option linter.unusedSimpArgs false
/-! Pure part 5: a replica goes on in its height; a replica decides. -/
abbrev Pu.Psn (σ τ : Sg) (p : Nat) : Prop := (∀ f, (f < 11 ∨ 16 < f) → τ f = σ f) ∧ (∀ f a b, ¬ (a = p ∧ b = 0) → 11 ≤ f → f ≤ 16 → τ f a b = σ f a b)
theorem Pu.Psn.mk {σ τ : Sg} {p : Nat} (fr : ∀ f, (f < 11 ∨ 16 < f) → τ f = σ f) (rv : ∀ f a b, ¬ (a = p ∧ b = 0) → 11 ≤ f → f ≤ 16 → τ f a b = σ f a b) : Pu.Psn σ τ p := ⟨fr, rv⟩
theorem Pu.Psn.fr {σ τ : Sg} {p : Nat} (h : Pu.Psn σ τ p) : ∀ f, (f < 11 ∨ 16 < f) → τ f = σ f := h.1
theorem Pu.Psn.rv {σ τ : Sg} {p : Nat} (h : Pu.Psn σ τ p) : ∀ f a b, ¬ (a = p ∧ b = 0) → 11 ≤ f → f ≤ 16 → τ f a b = σ f a b := h.2
theorem Pu.Psn.iw {σ τ : Sg} {p : Nat} (S : Psn σ τ p) (hp : p < 8) (hon : σ 0 p 0 = 0) (I : Iw σ) (h13 : τ 13 p 0 = σ 13 p 0) (h14 : τ 14 p 0 = σ 14 p 0) (h11 : τ 11 p 0 ≤ 5) (h12 : τ 12 p 0 ≤ 2)
    (up : σ 11 p 0 < τ 11 p 0 ∨ (τ 11 p 0 = σ 11 p 0 ∧ σ 12 p 0 ≤ τ 12 p 0)) (hcd : τ 16 p 0 ≤ τ 11 p 0 + 1 ∧ τ 15 p 0 ≤ 32 ∧ (τ 15 p 0 = 0 ↔ τ 16 p 0 = 0)) : Iw τ := by
  have ne : ∀ f, (f < 11 ∨ 16 < f) → τ f = σ f := S.fr
  have mg : ∀ s k i h r x y, Mg τ s k i h r x y ↔ Mg σ s k i h r x y := fun s k i h r x y => Mg_cg (fun f a b => ne f (by omega))
  have e0 := ne 0 (by omega)
  have e10 := ne 10 (by omega)
  have q1 : ∀ s h r x, Q1 σ s h r x → Q1 τ s h r x := fun s h r x => Q1_mono e0 (fun k i h r x y hm => (mg s k i h r x y).2 hm)
  have q2 : ∀ s h r x, Q2 σ s h r x → Q2 τ s h r x := fun s h r x => Q2_mono e0 (fun k i h r x y hm => (mg s k i h r x y).2 hm)
  have e20 := ne 20 (by omega)
  have e21 := ne 21 (by omega)
  have e22 := ne 22 (by omega)
  have e23 := ne 23 (by omega)
  have e24 := ne 24 (by omega)
  have e25 := ne 25 (by omega)
  have e26 := ne 26 (by omega)
  have e27 := ne 27 (by omega)
  have e28 := ne 28 (by omega)
  have e29 := ne 29 (by omega)
  have e30 := ne 30 (by omega)
  have P := I.po
  refine Iw.mk (bk := Bk_cg (ne 1 (by omega)) (ne 2 (by omega)) (ne 3 (by omega)) (ne 4 (by omega)) (ne 5 (by omega)) (ne 6 (by omega)) (ne 7 (by omega)) (ne 33 (by omega)) (ne 34 (by omega)) I.bk) (po := ?_) (ms := ?_) (bx := ?_) (vt := ?_) (ex := Ex_cg (fun q _ => by rw [ne 5 (by omega)]) (fun q _ => Sq_same (ne 1 (by omega)) (ne 2 (by omega)) (ne 4 (by omega)) (ne 6 (by omega)) (ne 7 (by omega)) q) (ne 8 (by omega)) (ne 9 (by omega)) (ne 10 (by omega)) (ne 18 (by omega)) (ne 19 (by omega)) (ne 31 (by omega)) (ne 32 (by omega)) (by rw [ne 34 (by omega)]; exact Nat.le_refl _) I.ex)
  · refine ⟨?_, ?_, ?_, ?_, ?_, ?_⟩
    · rw [e10]; exact P.ht
    · intro a ha
      by_cases e : a = p
      · subst e; exact h11
      · rw [S.rv 11 a 0 (by omega) (by omega) (by omega)]; exact P.rd a ha
    · intro a ha
      by_cases e : a = p
      · subst e; exact h12
      · rw [S.rv 12 a 0 (by omega) (by omega) (by omega)]; exact P.sp a ha
    · intro a ha
      have := P.lk a ha
      by_cases e : a = p
      · subst e; rw [h14]; omega
      · rw [S.rv 12 a 0 (by omega) (by omega) (by omega), S.rv 11 a 0 (by omega) (by omega) (by omega), S.rv 14 a 0 (by omega) (by omega) (by omega)]; exact this
    · intro a ha
      by_cases e : a = p
      · subst e; exact hcd
      · rw [S.rv 15 a 0 (by omega) (by omega) (by omega), S.rv 11 a 0 (by omega) (by omega) (by omega), S.rv 16 a 0 (by omega) (by omega) (by omega)]; exact P.cd a ha
    · intro a ha
      rw [e0, e10]
      intro h
      have e : ¬ a = p := fun e => h (by rw [e]; exact hon)
      rw [S.rv 11 a 0 (by omega) (by omega) (by omega), S.rv 12 a 0 (by omega) (by omega) (by omega)]; exact P.fau a ha h
  · have m := I.ms
    refine ⟨?_, ?_, ?_, ?_, ?_, ?_⟩
    · rw [e20, e21, e22, e23, e24, e25, e26, e27]; exact m.fld
    · rw [e20, e22, e27, e0]; exact m.own
    · rw [e20, e21, e22, e23, e24, e25]; exact m.prp
    · rw [e20, e21, e22, e23, e24]
      intro s j hs hj
      have := m.bef s j hs hj
      unfold bf at this ⊢
      rw [e10]
      by_cases e : 4 * s + σ 22 s j = p
      · rw [e] at this ⊢; omega
      · rw [S.rv 11 _ 0 (by omega) (by omega) (by omega), S.rv 12 _ 0 (by omega) (by omega) (by omega)]; exact this
    · rw [e20, e23, e27, e10]; exact m.tkn
    · rw [e20, e21, e22, e23, e24]; exact m.key
  · have B := I.bx
    refine ⟨?_, ?_, ?_, ?_, ?_, ?_, ?_⟩
    · intro a ha
      have := B.bx a ha
      simp only [BX, Sm, hrs, lieV, ld] at this ⊢
      rw [e0, e10, e20, e21, e22, e23, e24, e25, e26, e27, e28, e29, e30]; exact this
    · rw [e28]; exact B.lb
    · rw [e28]; exact B.l1
    · rw [e28, e10, e0]; exact B.lh
    · rw [e29]; exact B.b9
    · rw [e29, e0]; exact B.fb
    · rw [e30]; exact B.b0
  · have V := I.vt
    refine ⟨?_, ?_, ?_, ?_, ?_⟩
    · intro s i h r x y h1 h2
      rw [mg]
      exact fun h3 => q1 _ _ _ _ (V.sl s i h r x y h1 h2 h3)
    · intro s i h r0 r x' x y' y h1 h2 h3 h4
      rw [mg, mg]
      intro m1 m2
      obtain ⟨c, c1, c2, c3⟩ := V.ag s i h r0 r x' x y' y h1 h2 h3 h4 m1 m2
      exact ⟨c, c1, c2, q1 _ _ _ _ c3⟩
    · intro a r x y ha h2
      rw [mg, e10]
      intro h3
      have := V.lk a r x y ha h2 h3
      by_cases e : a = p
      · subst e; omega
      · rw [S.rv 14 a 0 (by omega) (by omega) (by omega)]; exact this
    · intro a ha
      rw [e10]
      by_cases e : a = p
      · subst e
        rw [h13, h14]
        intro h
        have := V.lq a ha h
        exact ⟨this.1, q1 _ _ _ _ this.2⟩
      · rw [S.rv 14 a 0 (by omega) (by omega) (by omega), S.rv 13 a 0 (by omega) (by omega) (by omega)]
        intro h
        have := V.lq a ha h
        exact ⟨this.1, q1 _ _ _ _ this.2⟩
    · intro a k ha
      rw [e10, ne 18 (by omega)]
      intro h
      obtain ⟨r, hr⟩ := V.dc a k ha h
      exact ⟨r, q2 _ _ _ _ hr⟩
/-! deciding -/
theorem Pu.seal_spec {σ : Sg} {p : Nat} (h : ¬ sealed σ p = 0) : ∃ r q, r < 6 ∧ sealed σ p = q + 1 ∧ gdn σ p q ∧ 3 ≤ cq σ p 2 r (q + 1) 4 := by
  unfold sealed at h ⊢
  by_cases c : srch (sealAt σ p) 6 0 = 0
  · rw [ifP_t c] at h; exact absurd rfl h
  · rw [ifP_f c] at h ⊢
    obtain ⟨x, hx⟩ : ∃ x, srch (sealAt σ p) 6 0 = x + 1 := ⟨srch (sealAt σ p) 6 0 - 1, by omega⟩
    obtain ⟨h1, h2, h3, h4, h5⟩ := srch_spec hx
    rw [hx] at h ⊢
    have e : x + 1 - 1 = x := by omega
    rw [e] at h ⊢
    refine ⟨x, prp σ p x - 1 - 1, by omega, by omega, h4.2, ?_⟩
    have e2 : prp σ p x - 1 - 1 + 1 = prp σ p x - 1 := by omega
    rw [e2]; exact h5
theorem Pu.cq_mg {σ : Sg} (P : Po σ) (B : Bx σ) {p k r x : Nat} (hp : p < 8) (hon : σ 0 p 0 = 0) (hk : k < 3) (hr : r < 6) (h : 3 ≤ cq σ p k r x 4) : Qm (fun i => ¬ σ 0 (4 * (p / 4) + i) 0 = 0 ∨ ∃ y, Mg σ (p / 4) k i (σ 10 p 0) r x y) := by
  have b := (B.bx p hp hon).1
  refine Qm_mono (fun i hi hb => ?_) (cq_Qm h)
  rcases (b k r i x (σ 30 p (slt k r i)) hk hr hi).2 ⟨hb, rfl⟩ with h1 | ⟨h1, h2, h3, h4⟩
  · exact Or.inr ⟨_, Sm_mg h1⟩
  · left
    rw [h2]
    have hl : ¬ σ 28 (3 * (p / 4) + p % 4) (102 * k + 6 * σ 10 p 0 + r) = 0 := by
      unfold lieV at h4; omega
    exact (B.lh (p / 4) (p % 4) k (σ 10 p 0) r (by omega) h1 hk (P.ht p hp) hr hl).2
theorem Pu.a1_ne {σ : Sg} {p f : Nat} (h : f < 8 ∨ f = 17 ∨ (19 < f ∧ f < 29) ∨ 32 < f) : a1 σ p f = σ f := by
  funext a b
  unfold a1 clrB
  rw [if_neg (by omega), U_ne (by omega)]
  unfold e7 e4 e2 e1
  rw [U_ne (by omega), U_ne (by omega), U_ne (by omega), U_ne (by omega), U_ne (by omega), U_ne (by omega), U_ne (by omega), U_ne (by omega), U_ne (by omega), U_ne (by omega), exS_ne (by omega) (by omega)]
theorem Pu.a1_8 {σ : Sg} {p a b : Nat} : a1 σ p 8 a b = exS σ p (σ 6 0 (q1 σ p)) (σ 7 0 (q1 σ p)) 8 a b := by
  simp [a1, clrB, e7, e4, e2, e1, U_ne, U_at]
theorem Pu.a1_9 {σ : Sg} {p a b : Nat} : a1 σ p 9 a b = exS σ p (σ 6 0 (q1 σ p)) (σ 7 0 (q1 σ p)) 9 a b := by
  simp [a1, clrB, e7, e4, e2, e1, U_ne, U_at]
theorem Pu.a1_10 {σ : Sg} {p a b : Nat} : a1 σ p 10 a b = if a = p ∧ b = 0 then σ 10 p 0 + 1 else σ 10 a b := by
  simp [a1, clrB, e7, e4, e2, e1, U_ne, U_at, exS_ne]
theorem Pu.a1_11 {σ : Sg} {p a b : Nat} : a1 σ p 11 a b = if a = p ∧ b = 0 then 0 else σ 11 a b := by
  simp [a1, clrB, e7, e4, e2, e1, U_ne, U_at, exS_ne]
theorem Pu.a1_12 {σ : Sg} {p a b : Nat} : a1 σ p 12 a b = if a = p ∧ b = 0 then 0 else σ 12 a b := by
  simp [a1, clrB, e7, e4, e2, e1, U_ne, U_at, exS_ne]
theorem Pu.a1_13 {σ : Sg} {p a b : Nat} : a1 σ p 13 a b = if a = p ∧ b = 0 then 0 else σ 13 a b := by
  simp [a1, clrB, e7, e4, e2, e1, U_ne, U_at, exS_ne]
theorem Pu.a1_14 {σ : Sg} {p a b : Nat} : a1 σ p 14 a b = if a = p ∧ b = 0 then 0 else σ 14 a b := by
  simp [a1, clrB, e7, e4, e2, e1, U_ne, U_at, exS_ne]
theorem Pu.a1_15 {σ : Sg} {p a b : Nat} : a1 σ p 15 a b = if a = p ∧ b = 0 then 0 else σ 15 a b := by
  simp [a1, clrB, e7, e4, e2, e1, U_ne, U_at, exS_ne]
theorem Pu.a1_16 {σ : Sg} {p a b : Nat} : a1 σ p 16 a b = if a = p ∧ b = 0 then 0 else σ 16 a b := by
  simp [a1, clrB, e7, e4, e2, e1, U_ne, U_at, exS_ne]
theorem Pu.a1_18 {σ : Sg} {p a b : Nat} : a1 σ p 18 a b = if a = p ∧ b = σ 10 p 0 then q1 σ p else σ 18 a b := by
  simp [a1, clrB, e7, e4, e2, e1, U_ne, U_at, exS_ne]
theorem Pu.a1_19 {σ : Sg} {p a b : Nat} : a1 σ p 19 a b = if a = p ∧ b = q1 σ p then r1 σ p else σ 19 a b := by
  simp [a1, clrB, e7, e4, e2, e1, U_ne, U_at, exS_ne]
theorem Pu.a1_31 {σ : Sg} {p a b : Nat} : a1 σ p 31 a b = if a = 0 ∧ b = q1 σ p then σ 31 0 (q1 σ p) + 1 else σ 31 a b := by
  simp [a1, clrB, e7, e4, e2, e1, U_ne, U_at, exS_ne]
theorem Pu.a1_32 {σ : Sg} {p a b : Nat} : a1 σ p 32 a b = if a = 0 ∧ b = q1 σ p then r1 σ p else σ 32 a b := by
  simp [a1, clrB, e7, e4, e2, e1, U_ne, U_at, exS_ne]
theorem Pu.a1_29 {σ : Sg} {p a b : Nat} : a1 σ p 29 a b = if a = p then 0 else σ 29 a b := by
  simp [a1, clrB, e7, e4, e2, e1, U_ne, U_at, exS_ne]
theorem Pu.a1_30 {σ : Sg} {p a b : Nat} : a1 σ p 30 a b = if a = p then 0 else σ 30 a b := by
  simp [a1, clrB, e7, e4, e2, e1, U_ne, U_at, exS_ne]
theorem Pu.exR_12 {σ : Sg} {p k t : Nat} : exR σ p k t = 1 ∨ exR σ p k t = 2 := by
  unfold exR
  by_cases c : k = 0 ∧ lkBad σ p t 10
  · rw [ifP_t c]; exact Or.inr rfl
  · rw [ifP_f c]; exact Or.inl rfl
theorem Pu.sm_up {f g : Nat → Nat} {p : Nat} (h : g p = f p + 1) (hn : ∀ a, a ≠ p → g a = f a) : ∀ n, sm g n = sm f n + (if p < n then 1 else 0)
  | 0 => rfl
  | n + 1 => by
    have ih := sm_up h hn n
    show sm g n + g n = sm f n + f n + _
    rw [ih]
    by_cases e : n = p
    · subst e
      rw [h, if_neg (by omega), if_pos (by omega)]; omega
    · rw [hn n e]
      by_cases l : p < n
      · rw [if_pos l, if_pos (by omega)]; omega
      · rw [if_neg l, if_neg (by omega)]; omega
theorem Pu.sm_cg {f g : Nat → Nat} (h : ∀ a, g a = f a) (n : Nat) : sm g n = sm f n := by
  have : g = f := funext h
  rw [this]
theorem Pu.Lk.trans {σ τ υ : Sg} {p p' p'' : Nat} (a : Lk σ p τ p') (b : Lk τ p' υ p'') : Lk σ p υ p'' := fun n => ⟨(a n).1.trans (b n).1, (a n).2.trans (b n).2⟩
theorem Pu.Lk.symm {σ τ : Sg} {p p' : Nat} (a : Lk σ p τ p') : Lk τ p' σ p := fun n => ⟨(a n).1.symm, (a n).2.symm⟩
theorem Pu.Sq_refl (σ : Sg) (q : Nat) : Sq σ σ q := ⟨rfl, rfl, rfl, rfl, fun _ _ _ => rfl⟩
theorem Pu.a1_iw {σ : Sg} {p : Nat} (hp : p < 8) (I : Iw σ) (hon : σ 0 p 0 = 0) (g : g1 σ p) : Iw (a1 σ p) := by
  obtain ⟨r, q, hr, hq, hg, hc⟩ := seal_spec g.1
  have eq1 : q1 σ p = q := by unfold q1; omega
  have hh := g.2
  have P := I.po
  have Q := cq_mg P I.bx hp hon (by omega) hr hc
  have Q : Q2 σ (p / 4) (σ 10 p 0) r (q + 1) := Q
  have pm : 4 * (p / 4) + p % 4 = p := by omega
  have ne : ∀ f, (f < 8 ∨ f = 17 ∨ (19 < f ∧ f < 29) ∨ 32 < f) → a1 σ p f = σ f := fun f h => a1_ne h
  have mg : ∀ s k i h r x y, Mg (a1 σ p) s k i h r x y ↔ Mg σ s k i h r x y := fun s k i h r x y => Mg_cg (fun f a b => ne f (by omega))
  have e0 := ne 0 (by omega)
  have q1' : ∀ s h r x, Q1 σ s h r x → Q1 (a1 σ p) s h r x := fun s h r x => Q1_mono e0 (fun k i h r x y hm => (mg s k i h r x y).2 hm)
  have q2' : ∀ s h r x, Q2 σ s h r x → Q2 (a1 σ p) s h r x := fun s h r x => Q2_mono e0 (fun k i h r x y hm => (mg s k i h r x y).2 hm)
  have e20 := ne 20 (by omega)
  have e21 := ne 21 (by omega)
  have e22 := ne 22 (by omega)
  have e23 := ne 23 (by omega)
  have e24 := ne 24 (by omega)
  have e25 := ne 25 (by omega)
  have e26 := ne 26 (by omega)
  have e27 := ne 27 (by omega)
  have e28 := ne 28 (by omega)
  have m := I.ms
  have B := I.bx
  have V := I.vt
  have X := I.ex
  have up : ∀ a, σ 10 a 0 ≤ a1 σ p 10 a 0 := fun a => by
    rw [a1_10]
    split
    · next h => rw [h.1]; omega
    · exact Nat.le_refl _
  have mb : ∀ s k i h r x y, s < 2 → Mg σ s k i h r x y → bf σ (4 * s + i) k h r := by
    rintro s k i h r x y h1 ⟨j, hj, a1, a2, a3, a4, a5, a6⟩
    have := m.bef s j h1 hj
    rw [a1, a2, a3, a4] at this
    exact this
  have lo : ∀ k, k < σ 10 p 0 → a1 σ p 18 p k = σ 18 p k := fun k hk => by rw [a1_18, if_neg (by omega)]
  have ht : a1 σ p 18 p (σ 10 p 0) = q := by rw [a1_18, if_pos ⟨rfl, rfl⟩, eq1]
  have r0 : ∀ a b, a ≠ p → a1 σ p 10 a b = σ 10 a b := fun a b h => by rw [a1_10, if_neg (fun c => h c.1)]
  have l0 : ∀ a b, a ≠ p → a1 σ p 18 a b = σ 18 a b := fun a b h => by rw [a1_18, if_neg (fun c => h c.1)]
  have rL : ∀ a, a ≠ p → Lk (a1 σ p) a σ a := fun a h n => ⟨by rw [a1_8, exS_row h], by rw [a1_9, exS_row h]⟩
  have sq : ∀ q, Sq σ (a1 σ p) q := fun q => Sq_same (ne 1 (by omega)) (ne 2 (by omega)) (ne 4 (by omega)) (ne 6 (by omega)) (ne 7 (by omega)) q
  have hpx : a1 σ p 10 p 0 = σ 10 p 0 + 1 := by rw [a1_10, if_pos ⟨rfl, rfl⟩]
  have Lp : Lk σ p (rp σ p (σ 10 p 0)) p := fun n => X.rp p n hp
  have rpp : ∀ k, k ≤ σ 10 p 0 → Lk (rp σ p k) p (rp (a1 σ p) p k) p := fun k hk => rp_cg rfl k (fun j hj => ⟨(lo j (by omega)).symm, sq _⟩)
  have rpa : ∀ a k, a ≠ p → Lk (rp σ a k) a (rp (a1 σ p) a k) a := fun a k h => rp_cg rfl k (fun j hj => ⟨(l0 a j h).symm, sq _⟩)
  have er1 : r1 σ p = exR (rp σ p (σ 10 p 0)) p (σ 6 0 q) (σ 7 0 q) := by
    unfold r1
    rw [eq1]
    exact exR_cg rfl (fun n => by rw [rp_inp]) Lp
  have r12 : r1 σ p = 1 ∨ r1 σ p = 2 := by unfold r1; exact exR_12
  have n19 : σ 19 p q = 0 := (X.rs p q hp).2 (fun k hk => hg.2.2 k hk (by omega))
  have agr : ∀ p', p' < 8 → p' ≠ p → ¬ σ 19 p' q = 0 → σ 19 p' q = r1 σ p := by
    intro p' hp' hne hz
    have : ∃ k, k < σ 10 p' 0 ∧ σ 18 p' k = q := by
      refine Classical.byContradiction (fun hc => hz ((X.rs p' q hp').2 (fun k hk e => hc ⟨k, hk, e⟩)))
    obtain ⟨k', hk', ek'⟩ := this
    have hs : p' / 4 = p / 4 := by
      have := (X.lg p' k' hp' hk').2
      rw [ek'] at this
      rw [← this, hg.2.1]
    have s2 : p / 4 < 2 := by omega
    obtain ⟨r', Q'⟩ := V.dc p' k' hp' hk'
    rw [hs, ek'] at Q'
    have below : ∀ k, k < σ 10 p 0 → k < σ 10 p' 0 → σ 18 p k = σ 18 p' k := by
      intro k h1 h2
      obtain ⟨_, A⟩ := V.dc p k hp h1
      obtain ⟨_, A'⟩ := V.dc p' k hp' h2
      rw [hs] at A'
      have := agree P m V s2 (by omega) (by omega) A A'
      omega
    have ek : k' = σ 10 p 0 := by
      rcases Nat.lt_trichotomy k' (σ 10 p 0) with l | l | l
      · have := below k' l hk'
        exact absurd (this.trans ek') (hg.2.2 k' l (by omega))
      · exact l
      · have l' : σ 10 p 0 < σ 10 p' 0 := by omega
        obtain ⟨_, A'⟩ := V.dc p' (σ 10 p 0) hp' l'
        rw [hs] at A'
        have e1 := agree P m V s2 (by omega) (by omega) Q A'
        have := X.ld p' (σ 10 p 0) k' hp' l' hk' (by omega)
        omega
    have := X.rr p' k' hp' hk'
    rw [ek'] at this
    rw [this, er1, ek]
    refine exR_cg hs (fun n => by rw [rp_inp, rp_inp]) (rp_cg hs _ (fun k hk => ⟨(below k hk (by omega)).symm, Sq_refl _ _⟩))
  refine Iw.mk (bk := Bk_cg (ne 1 (by omega)) (ne 2 (by omega)) (ne 3 (by omega)) (ne 4 (by omega)) (ne 5 (by omega)) (ne 6 (by omega)) (ne 7 (by omega)) (ne 33 (by omega)) (ne 34 (by omega)) I.bk) (po := ?_) (ms := ?_) (bx := ?_) (vt := ?_) (ex := ?_)
  · refine ⟨?_, ?_, ?_, ?_, ?_, ?_⟩
    · intro a ha
      rw [a1_10]
      split
      · omega
      · exact P.ht a ha
    · intro a ha
      rw [a1_11]
      split
      · omega
      · exact P.rd a ha
    · intro a ha
      rw [a1_12]
      split
      · omega
      · exact P.sp a ha
    · intro a ha
      rw [a1_11, a1_12, a1_14]
      split
      · omega
      · exact P.lk a ha
    · intro a ha
      rw [a1_11, a1_15, a1_16]
      split
      · omega
      · exact P.cd a ha
    · intro a ha
      rw [e0, a1_10, a1_11, a1_12]
      intro h
      split
      · next c => rw [c.1] at h; exact absurd hon h
      · exact P.fau a ha h
  · refine ⟨?_, ?_, ?_, ?_, ?_, ?_⟩
    · rw [e20, e21, e22, e23, e24, e25, e26, e27]; exact m.fld
    · rw [e20, e22, e27, e0]; exact m.own
    · rw [e20, e21, e22, e23, e24, e25]; exact m.prp
    · rw [e20, e21, e22, e23, e24]
      intro s j hs hj
      have := m.bef s j hs hj
      unfold bf at this ⊢
      rw [a1_10, a1_11, a1_12]
      split
      · next c => rw [c.1] at this; omega
      · exact this
    · rw [e20, e23, e27]
      intro s j i hs hj hi hb
      have := m.tkn s j i hs hj hi hb
      have := up (4 * s + i)
      omega
    · rw [e20, e21, e22, e23, e24]; exact m.key
  · refine ⟨?_, ?_, ?_, ?_, ?_, ?_, ?_⟩
    · intro a ha h0
      rw [e0] at h0
      by_cases c : a = p
      · subst c
        have nS : ∀ k r i x y, ¬ Sm (a1 σ a) a (a1 σ a 20 (a / 4) 0) k r i x y := by
          rintro k r i x y ⟨j, hj, ⟨h1, h2⟩, h3⟩
          rw [e27] at h1
          rw [e23, hpx] at h2
          rw [e20] at hj
          have := m.tkn (a / 4) j (a % 4) (by omega) hj (by omega) h1
          rw [pm] at this
          omega
        refine ⟨?_, ?_, ?_⟩
        · intro k r i x y hk hr' hi
          rw [a1_29, if_pos rfl]
          constructor
          · rintro (h | ⟨h1, h2, h3, h4⟩)
            · exact absurd h (nS _ _ _ _ _)
            · unfold lieV at h4
              rw [e28, hpx] at h4
              have := (B.lh (a / 4) (a % 4) k (σ 10 a 0 + 1) r (by omega) h1 hk (by omega) hr' (by omega)).1
              rw [pm] at this
              omega
          · rintro ⟨h, _⟩
            omega
        · intro r i x y h
          exact absurd h (nS _ _ _ _ _)
        · intro r hr'
          unfold lieV
          rw [e28, hpx]
          exact B.l1 _ _ (by omega)
      · have b := B.bx a ha h0
        have E29 : ∀ j, a1 σ p 29 a j = σ 29 a j := fun j => by rw [a1_29, if_neg c]
        have E30 : ∀ j, a1 σ p 30 a j = σ 30 a j := fun j => by rw [a1_30, if_neg c]
        simp only [BX, Sm, hrs, lieV, ld] at b ⊢
        simp only [e20, e21, e22, e23, e24, e25, e26, e27, e28, E29, E30, r0 a 0 c]; exact b
    · rw [e28]; exact B.lb
    · rw [e28]; exact B.l1
    · rw [e28, e0]
      intro s i k h r a1 a2 a3 a4 a5 a6
      have := B.lh s i k h r a1 a2 a3 a4 a5 a6
      exact ⟨Nat.le_trans this.1 (up _), this.2⟩
    · intro a b
      rw [a1_29]
      split
      · omega
      · exact B.b9 a b
    · intro a ha h j
      rw [e0] at h
      rw [a1_29]
      split
      · rfl
      · exact B.fb a ha h j
    · intro a b
      rw [a1_30]
      split
      · omega
      · exact B.b0 a b
  · refine ⟨?_, ?_, ?_, ?_, ?_⟩
    · intro s i h r x y h1 h2
      rw [mg]
      exact fun h3 => q1' _ _ _ _ (V.sl s i h r x y h1 h2 h3)
    · intro s i h r0 r x' x y' y h1 h2 h3 h4
      rw [mg, mg]
      intro m1 m2
      obtain ⟨c, c1, c2, c3⟩ := V.ag s i h r0 r x' x y' y h1 h2 h3 h4 m1 m2
      exact ⟨c, c1, c2, q1' _ _ _ _ c3⟩
    · intro a r x y ha h2
      rw [mg]
      intro h3
      by_cases e : a = p
      · subst e
        rw [hpx] at h3
        have := mb _ _ _ _ _ _ _ (by omega) h3
        rw [pm] at this
        unfold bf at this
        omega
      · rw [r0 a 0 e] at h3
        rw [a1_14, if_neg (fun c => e c.1)]; exact V.lk a r x y ha h2 h3
    · intro a ha
      by_cases e : a = p
      · subst e
        rw [a1_14, if_pos ⟨rfl, rfl⟩]
        exact fun h => absurd rfl h
      · rw [a1_14, if_neg (fun c => e c.1), a1_13, if_neg (fun c => e c.1), r0 a 0 e]
        intro h
        have := V.lq a ha h
        exact ⟨this.1, q1' _ _ _ _ this.2⟩
    · intro a k ha
      by_cases e : a = p
      · subst e
        rw [hpx]
        intro h
        by_cases ek : k = σ 10 a 0
        · subst ek
          rw [ht]
          exact ⟨r, q2' _ _ _ _ Q⟩
        · rw [lo k (by omega)]
          obtain ⟨r, hr⟩ := V.dc a k ha (by omega)
          exact ⟨r, q2' _ _ _ _ hr⟩
      · rw [r0 a 0 e, l0 a k e]
        intro h
        obtain ⟨r, hr⟩ := V.dc a k ha h
        exact ⟨r, q2' _ _ _ _ hr⟩
  · have e34 := ne 34 (by omega)
    have e5 := ne 5 (by omega)
    have e6 := ne 6 (by omega)
    have e7 := ne 7 (by omega)
    refine ⟨?_, ?_, ?_, ?_, ?_, ?_, ?_, ?_⟩
    · intro a k ha
      rw [e34, e5]
      by_cases e : a = p
      · subst e
        rw [hpx]
        intro h
        by_cases ek : k = σ 10 a 0
        · subst ek
          rw [ht]
          exact ⟨hg.1, hg.2.1⟩
        · rw [lo k (by omega)]
          exact X.lg a k ha (by omega)
      · rw [r0 a 0 e, l0 a k e]
        exact X.lg a k ha
    · intro a k k' ha
      by_cases e : a = p
      · subst e
        rw [hpx]
        intro h h'
        by_cases ek : k = σ 10 a 0
        · subst ek
          by_cases ek' : k' = σ 10 a 0
          · intro _; exact ek'.symm
          · rw [ht, lo k' (by omega)]
            intro e; exact absurd e.symm (hg.2.2 k' (by omega) (by omega))
        · by_cases ek' : k' = σ 10 a 0
          · subst ek'
            rw [ht, lo k (by omega)]
            intro e; exact absurd e (hg.2.2 k (by omega) (by omega))
          · rw [lo k (by omega), lo k' (by omega)]
            exact X.ld a k k' ha (by omega) (by omega)
      · rw [r0 a 0 e, l0 a k e, l0 a k' e]
        exact X.ld a k k' ha
    · intro a q' ha
      rw [a1_19]
      by_cases e : a = p
      · subst e
        rw [hpx, eq1]
        by_cases eq' : q' = q
        · subst eq'
          rw [if_pos ⟨rfl, rfl⟩]
          constructor
          · intro h; omega
          · intro h; exact absurd ht (h _ (by omega))
        · rw [if_neg (fun c => eq' c.2), X.rs a q' ha]
          constructor
          · intro h k hk
            by_cases ek : k = σ 10 a 0
            · subst ek; rw [ht]; exact fun e => eq' e.symm
            · rw [lo k (by omega)]; exact h k (by omega)
          · intro h k hk
            have := h k (by omega)
            rw [lo k hk] at this
            exact this
      · rw [if_neg (fun c => e c.1), r0 a 0 e, X.rs a q' ha]
        constructor
        · intro h k hk; rw [l0 a k e]; exact h k hk
        · intro h k hk; have := h k hk; rw [l0 a k e] at this; exact this
    · intro a q' ha
      rw [a1_19]
      split
      · omega
      · exact X.r2 a q' ha
    · intro a n ha
      by_cases e : a = p
      · subst e
        rw [hpx]
        show _ = exS (rp (a1 σ a) a (σ 10 a 0)) a (a1 σ a 6 0 (a1 σ a 18 a (σ 10 a 0))) (a1 σ a 7 0 (a1 σ a 18 a (σ 10 a 0))) 8 a n ∧ _ = exS (rp (a1 σ a) a (σ 10 a 0)) a (a1 σ a 6 0 (a1 σ a 18 a (σ 10 a 0))) (a1 σ a 7 0 (a1 σ a 18 a (σ 10 a 0))) 9 a n
        rw [ht, e6, e7, a1_8, a1_9, eq1]
        have L := Lp.trans (rpp _ (Nat.le_refl _))
        exact exS_cg rfl (fun n => by rw [rp_inp]; exact Sq_inp (sq q) n) (fun n => by rw [rp_mad]; exact Sq_mad (sq q) n) L n
      · rw [r0 a 0 e, (rL a e n).1, (rL a e n).2, ← (rpa a _ e n).1, ← (rpa a _ e n).2]
        exact X.rp a n ha
    · intro a k ha
      rw [e6, e7]
      by_cases e : a = p
      · subst e
        rw [hpx]
        intro h
        by_cases ek : k = σ 10 a 0
        · subst ek
          rw [ht, a1_19, if_pos ⟨rfl, eq1.symm⟩, er1]
          exact exR_cg rfl (fun n => by rw [rp_inp, rp_inp]; exact Sq_inp (sq q) n) (rpp _ (Nat.le_refl _))
        · have hk : k < σ 10 a 0 := by omega
          rw [lo k hk, a1_19, if_neg (fun c => by rw [eq1] at c; exact hg.2.2 k hk (by omega) c.2), X.rr a k ha hk]
          exact exR_cg rfl (fun n => by rw [rp_inp, rp_inp]; exact Sq_inp (sq _) n) (rpp _ (by omega))
      · rw [r0 a 0 e, l0 a k e, a1_19, if_neg (fun c => e c.1)]
        intro hk
        rw [X.rr a k ha hk]
        exact exR_cg rfl (fun n => by rw [rp_inp, rp_inp]; exact Sq_inp (sq _) n) (rpa a _ e)
    · intro q'
      rw [a1_31, eq1]
      by_cases e : q' = q
      · subst e
        rw [if_pos ⟨rfl, rfl⟩, X.cn q']
        have := sm_up (f := fun p => if σ 19 p q' = 0 then 0 else 1) (g := fun a => if a1 σ p 19 a q' = 0 then 0 else 1) (p := p)
          (by
            show (if a1 σ p 19 p q' = 0 then 0 else 1) = (if σ 19 p q' = 0 then 0 else 1) + 1
            have e19 : a1 σ p 19 p q' = r1 σ p := by rw [a1_19, if_pos ⟨rfl, eq1.symm⟩]
            have nz : ¬ r1 σ p = 0 := by omega
            rw [e19, n19, if_neg nz, if_pos rfl])
          (fun a h => by
            show (if a1 σ p 19 a q' = 0 then 0 else 1) = (if σ 19 a q' = 0 then 0 else 1)
            have e19 : a1 σ p 19 a q' = σ 19 a q' := by rw [a1_19, if_neg (fun c => h c.1)]
            rw [e19]) 8
        rw [this, if_pos hp]
      · rw [if_neg (fun c => e c.2), X.cn q']
        refine (sm_cg (fun a => ?_) 8).symm
        have e19 : a1 σ p 19 a q' = σ 19 a q' := by rw [a1_19, if_neg (fun c => by rw [eq1] at c; exact e c.2)]
        rw [e19]
    · intro a q' ha
      rw [a1_19, a1_32, eq1]
      by_cases e : q' = q
      · subst e
        rw [if_pos (c := 0 = 0 ∧ q' = q') ⟨rfl, rfl⟩]
        by_cases ea : a = p
        · rw [if_pos ⟨ea, rfl⟩]; intro _; rfl
        · rw [if_neg (fun c => ea c.1)]
          intro hz
          exact (agr a ha ea hz).symm
      · rw [if_neg (fun c => e c.2), if_neg (fun c => e c.2)]
        exact X.eq a q' ha
