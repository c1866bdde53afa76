set_option linter.unusedVariables false
set_option linter.unusedSimpArgs false
/-! Pure part 6: a message is taken; a lie; sleep. -/
theorem Pu.Vt_cg {σ τ : Sg} (e0 : τ 0 = σ 0) (e10 : τ 10 = σ 10) (e13 : τ 13 = σ 13) (e14 : τ 14 = σ 14) (e18 : τ 18 = σ 18) (e : ∀ f, 20 ≤ f → f ≤ 26 → τ f = σ f) (V : Vt σ) : Vt τ := by
  have mg : ∀ s k i h r x y, Mg τ s k i h r x y ↔ Mg σ s k i h r x y := fun s k i h r x y => Mg_cg e
  have q1 : ∀ s h r x, Q1 σ s h r x → Q1 τ s h r x := fun s h r x => Q1_mono e0 (fun k i h r x y hm => (mg s k i h r x y).2 hm)
  have q2 : ∀ s h r x, Q2 σ s h r x → Q2 τ s h r x := fun s h r x => Q2_mono e0 (fun k i h r x y hm => (mg s k i h r x y).2 hm)
  refine ⟨?_, ?_, ?_, ?_, ?_⟩
  · intro s i h r x y h1 h2
    rw [mg]
    exact fun h3 => q1 _ _ _ _ (V.sl s i h r x y h1 h2 h3)
  · intro s i h r0 r x' x y' y h1 h2 h3 h4
    rw [mg, mg]
    intro m1 m2
    obtain ⟨c, c1, c2, c3⟩ := V.ag s i h r0 r x' x y' y h1 h2 h3 h4 m1 m2
    exact ⟨c, c1, c2, q1 _ _ _ _ c3⟩
  · intro a r x y ha h2
    rw [mg, e10, e14]
    exact V.lk a r x y ha h2
  · intro a ha
    rw [e10, e13, e14]
    intro h
    have := V.lq a ha h
    exact ⟨this.1, q1 _ _ _ _ this.2⟩
  · intro a k ha
    rw [e10, e18]
    intro h
    obtain ⟨r, hr⟩ := V.dc a k ha h
    exact ⟨r, q2 _ _ _ _ hr⟩
theorem Pu.Po_cg {σ τ : Sg} (e0 : τ 0 = σ 0) (e : ∀ f, 10 ≤ f → f ≤ 16 → τ f = σ f) (P : Po σ) : Po τ := by
  have e10 := e 10 (by omega) (by omega)
  have e11 := e 11 (by omega) (by omega)
  have e12 := e 12 (by omega) (by omega)
  have e14 := e 14 (by omega) (by omega)
  have e15 := e 15 (by omega) (by omega)
  have e16 := e 16 (by omega) (by omega)
  refine ⟨?_, ?_, ?_, ?_, ?_, ?_⟩
  · rw [e10]; exact P.ht
  · rw [e11]; exact P.rd
  · rw [e12]; exact P.sp
  · rw [e11, e12, e14]; exact P.lk
  · rw [e11, e15, e16]; exact P.cd
  · rw [e0, e10, e11, e12]; exact P.fau
theorem Pu.Ms_cg {σ τ : Sg} (e0 : τ 0 = σ 0) (e10 : τ 10 = σ 10) (e11 : τ 11 = σ 11) (e12 : τ 12 = σ 12) (e : ∀ f, 20 ≤ f → f ≤ 27 → τ f = σ f) (m : Ms σ) : Ms τ := by
  have e20 := e 20 (by omega) (by omega)
  have e21 := e 21 (by omega) (by omega)
  have e22 := e 22 (by omega) (by omega)
  have e23 := e 23 (by omega) (by omega)
  have e24 := e 24 (by omega) (by omega)
  have e25 := e 25 (by omega) (by omega)
  have e26 := e 26 (by omega) (by omega)
  have e27 := e 27 (by omega) (by omega)
  refine ⟨?_, ?_, ?_, ?_, ?_, ?_⟩
  · rw [e20, e21, e22, e23, e24, e25, e26, e27]; exact m.fld
  · rw [e20, e22, e27, e0]; exact m.own
  · rw [e20, e21, e22, e23, e24, e25]; exact m.prp
  · simp only [bf]
    rw [e20, e21, e22, e23, e24, e10, e11, e12]; exact m.bef
  · rw [e20, e23, e27, e10]; exact m.tkn
  · rw [e20, e21, e22, e23, e24]; exact m.key
theorem Pu.Bx_cg {σ τ : Sg} (e0 : τ 0 = σ 0) (e10 : τ 10 = σ 10) (e : ∀ f, 20 ≤ f → f ≤ 30 → τ f = σ f) (B : Bx σ) : Bx τ := by
  have e20 := e 20 (by omega) (by omega)
  have e21 := e 21 (by omega) (by omega)
  have e22 := e 22 (by omega) (by omega)
  have e23 := e 23 (by omega) (by omega)
  have e24 := e 24 (by omega) (by omega)
  have e25 := e 25 (by omega) (by omega)
  have e26 := e 26 (by omega) (by omega)
  have e27 := e 27 (by omega) (by omega)
  have e28 := e 28 (by omega) (by omega)
  have e29 := e 29 (by omega) (by omega)
  have e30 := e 30 (by omega) (by omega)
  refine ⟨?_, ?_, ?_, ?_, ?_, ?_, ?_⟩
  · intro a ha
    have := B.bx a ha
    simp only [BX, Sm, hrs, lieV, ld] at this ⊢
    rw [e0, e10, e20, e21, e22, e23, e24, e25, e26, e27, e28, e29, e30]; exact this
  · rw [e28]; exact B.lb
  · rw [e28]; exact B.l1
  · rw [e28, e10, e0]; exact B.lh
  · rw [e29]; exact B.b9
  · rw [e29, e0]; exact B.fb
  · rw [e30]; exact B.b0
theorem Pu.Ex_cg' {σ τ : Sg} (e : ∀ f, f < 11 ∨ f = 18 ∨ f = 19 ∨ 30 < f → τ f = σ f) (x : Ex σ) : Ex τ :=
  Ex_cg (fun q _ => by rw [e 5 (by omega)]) (fun q _ => Sq_same (e 1 (by omega)) (e 2 (by omega)) (e 4 (by omega)) (e 6 (by omega)) (e 7 (by omega)) q) (e 8 (by omega)) (e 9 (by omega)) (e 10 (by omega)) (e 18 (by omega)) (e 19 (by omega)) (e 31 (by omega)) (e 32 (by omega)) (by rw [e 34 (by omega)]; exact Nat.le_refl _) x
theorem Pu.Bk_cg' {σ τ : Sg} (e : ∀ f, f < 8 ∨ 32 < f → τ f = σ f) (h : Bk σ) : Bk τ :=
  Bk_cg (e 1 (by omega)) (e 2 (by omega)) (e 3 (by omega)) (e 4 (by omega)) (e 5 (by omega)) (e 6 (by omega)) (e 7 (by omega)) (e 33 (by omega)) (e 34 (by omega)) h
theorem Pu.sSl_iw {σ : Sg} {p b : Nat} (I : Iw σ) : Iw (sSl σ p b) := by
  have e : ∀ f, f ≠ 17 → sSl σ p b f = σ f := fun f h => by unfold sSl; exact U_ne h
  exact Iw.mk (bk := Bk_cg' (fun f h => e f (by omega)) I.bk) (po := Po_cg (e 0 (by omega)) (fun f a b => e f (by omega)) I.po) (ms := Ms_cg (e 0 (by omega)) (e 10 (by omega)) (e 11 (by omega)) (e 12 (by omega)) (fun f a b => e f (by omega)) I.ms) (bx := Bx_cg (e 0 (by omega)) (e 10 (by omega)) (fun f a b => e f (by omega)) I.bx) (vt := Vt_cg (e 0 (by omega)) (e 10 (by omega)) (e 13 (by omega)) (e 14 (by omega)) (e 18 (by omega)) (fun f a b => e f (by omega)) I.vt) (ex := Ex_cg' (fun f h => e f (by omega)) I.ex)
theorem Pu.tks_b : ∀ m, m < 16 → ∀ i, i < 4 → tks m i < 16 ∧ ∀ i', i' < 4 → (tks m i / 2 ^ i' % 2 = 1 ↔ (m / 2 ^ i' % 2 = 1 ∨ i' = i)) := by
  unfold tks; decide
theorem Pu.sTake_iw {σ : Sg} {p k : Nat} (hp : p < 8) (I : Iw σ) (hk : k < σ 20 (p / 4) 0) (c : can σ p k) : Iw (sTake σ p k) := by
  obtain ⟨⟨hon, haw⟩, hnt, hle⟩ := c
  have P := I.po
  have m := I.ms
  have B := I.bx
  have s2 : p / 4 < 2 := by omega
  have pm : 4 * (p / 4) + p % 4 = p := by omega
  have fl := m.fld (p / 4) k s2 hk
  have tb := tks_b (σ 27 (p / 4) k) fl.2.2.2.2.2.2 (p % 4) (by omega)
  -- what it does
  have e : ∀ f, f ≠ 27 → f ≠ 29 → f ≠ 30 → sTake σ p k f = σ f := fun f h1 h2 h3 => by
    unfold sTake tk2 tk1
    by_cases c : σ 23 (p / 4) k = σ 10 p 0
    · rw [ifP_t c, U_ne h3, U_ne h2, U_ne h1]
    · rw [ifP_f c, U_ne h1]
  have e27 : ∀ a b, sTake σ p k 27 a b = if a = p / 4 ∧ b = k then tks (σ 27 (p / 4) k) (p % 4) else σ 27 a b := fun a b => by
    unfold sTake tk2 tk1
    by_cases c : σ 23 (p / 4) k = σ 10 p 0
    · rw [ifP_t c, U_ne (by decide), U_ne (by decide), U_at]
    · rw [ifP_f c, U_at]
  have e29 : ∀ a b, sTake σ p k 29 a b = if σ 23 (p / 4) k = σ 10 p 0 ∧ a = p ∧ b = slt (σ 21 (p / 4) k) (σ 24 (p / 4) k) (σ 22 (p / 4) k) then σ 25 (p / 4) k + 1 else σ 29 a b := fun a b => by
    unfold sTake tk2 tk1
    by_cases c : σ 23 (p / 4) k = σ 10 p 0
    · rw [ifP_t c, U_ne (by decide), U_at, U_ne (by decide)]
      simp only [c, true_and]
    · rw [ifP_f c, U_ne (by decide), if_neg (fun h => c h.1)]
  have e30 : ∀ a b, sTake σ p k 30 a b = if σ 23 (p / 4) k = σ 10 p 0 ∧ a = p ∧ b = slt (σ 21 (p / 4) k) (σ 24 (p / 4) k) (σ 22 (p / 4) k) then σ 26 (p / 4) k else σ 30 a b := fun a b => by
    unfold sTake tk2 tk1
    by_cases c : σ 23 (p / 4) k = σ 10 p 0
    · rw [ifP_t c, U_at, U_ne (by decide), U_ne (by decide)]
      simp only [c, true_and]
    · rw [ifP_f c, U_ne (by decide), if_neg (fun h => c h.1)]
  generalize sTake σ p k = τ at e e27 e29 e30 ⊢
  have e0 := e 0 (by omega) (by omega) (by omega)
  have e10 := e 10 (by omega) (by omega) (by omega)
  have e11 := e 11 (by omega) (by omega) (by omega)
  have e12 := e 12 (by omega) (by omega) (by omega)
  have e20 := e 20 (by omega) (by omega) (by omega)
  have e21 := e 21 (by omega) (by omega) (by omega)
  have e22 := e 22 (by omega) (by omega) (by omega)
  have e23 := e 23 (by omega) (by omega) (by omega)
  have e24 := e 24 (by omega) (by omega) (by omega)
  have e25 := e 25 (by omega) (by omega) (by omega)
  have e26 := e 26 (by omega) (by omega) (by omega)
  have e28 := e 28 (by omega) (by omega) (by omega)
  refine Iw.mk (bk := Bk_cg' (fun f h => e f (by omega) (by omega) (by omega)) I.bk) (po := Po_cg e0 (fun f a b => e f (by omega) (by omega) (by omega)) I.po) (ms := ?_) (bx := ?_) (vt := Vt_cg e0 e10 (e 13 (by omega) (by omega) (by omega)) (e 14 (by omega) (by omega) (by omega)) (e 18 (by omega) (by omega) (by omega)) (fun f a b => e f (by omega) (by omega) (by omega)) I.vt) (ex := Ex_cg' (fun f h => e f (by omega) (by omega) (by omega)) I.ex)
  · refine ⟨?_, ?_, ?_, ?_, ?_, ?_⟩
    · rw [e20, e21, e22, e23, e24, e25, e26]
      intro s j hs hj
      have := m.fld s j hs hj
      rw [e27]
      split
      · exact ⟨this.1, this.2.1, this.2.2.1, this.2.2.2.1, this.2.2.2.2.1, this.2.2.2.2.2.1, tb.1⟩
      · exact this
    · rw [e20, e22, e0]
      intro s j hs hj
      have := m.own s j hs hj
      have f2 := m.fld s j hs hj
      rw [e27]
      split
      · next h =>
        refine ⟨?_, this.2⟩
        rw [tb.2 _ f2.2.1]
        left
        rw [← h.1, ← h.2]; exact this.1
      · exact this
    · rw [e20, e21, e22, e23, e24, e25]; exact m.prp
    · simp only [bf]
      rw [e20, e21, e22, e23, e24, e10, e11, e12]; exact m.bef
    · rw [e20, e23, e10]
      intro s j i hs hj hi
      rw [e27]
      split
      · next h =>
        rw [tb.2 _ hi, h.1, h.2]
        rintro (hb | hb)
        · exact m.tkn (p / 4) k i s2 hk hi hb
        · rw [hb, pm]; exact hle
      · exact m.tkn s j i hs hj hi
    · rw [e20, e21, e22, e23, e24]; exact m.key
  · have own := m.own (p / 4) k s2 hk
    -- the heard messages
    have sm : ∀ a kk r i x y, a < 8 → (Sm τ a (τ 20 (a / 4) 0) kk r i x y ↔ Sm σ a (σ 20 (a / 4) 0) kk r i x y ∨ (a = p ∧ σ 23 (p / 4) k = σ 10 p 0 ∧ σ 21 (p / 4) k = kk ∧ σ 24 (p / 4) k = r ∧ σ 22 (p / 4) k = i ∧ σ 25 (p / 4) k = x ∧ σ 26 (p / 4) k = y)) := by
      intro a kk r i x y ha
      unfold Sm hrs
      rw [e20, e21, e22, e23, e24, e25, e26, e10]
      constructor
      · rintro ⟨j, hj, ⟨h1, h2⟩, h3⟩
        rw [e27] at h1
        by_cases c : a / 4 = p / 4 ∧ j = k
        · rw [if_pos c, tb.2 _ (by omega)] at h1
          rw [c.1, c.2] at h2 h3
          rcases h1 with h1 | h1
          · left
            refine ⟨j, hj, ⟨?_, ?_⟩, ?_⟩
            · rw [c.1, c.2]; exact h1
            · rw [c.1, c.2]; exact h2
            · rw [c.1, c.2]; exact h3
          · right
            have : a = p := by omega
            subst this
            exact ⟨rfl, h2, h3⟩
        · rw [if_neg c] at h1
          exact Or.inl ⟨j, hj, ⟨h1, h2⟩, h3⟩
      · rintro (⟨j, hj, ⟨h1, h2⟩, h3⟩ | ⟨h1, h2, h3⟩)
        · refine ⟨j, hj, ⟨?_, h2⟩, h3⟩
          rw [e27]
          split
          · next c => rw [tb.2 _ (by omega)]; left; rw [← c.1, ← c.2]; exact h1
          · exact h1
        · subst h1
          refine ⟨k, hk, ⟨?_, h2⟩, h3⟩
          rw [e27, if_pos ⟨rfl, rfl⟩, tb.2 _ (by omega)]
          right; rfl
    refine ⟨?_, ?_, ?_, ?_, ?_, ?_, ?_⟩
    · intro a ha h0
      rw [e0] at h0
      obtain ⟨b1, b2, b3⟩ := B.bx a ha h0
      refine ⟨?_, ?_, ?_⟩
      · intro kk r i x y hkk hr hi
        have b := b1 kk r i x y hkk hr hi
        rw [sm a kk r i x y ha, e29, e30]
        unfold lieV at b ⊢
        rw [e28, e10]
        by_cases c : σ 23 (p / 4) k = σ 10 p 0 ∧ a = p ∧ slt kk r i = slt (σ 21 (p / 4) k) (σ 24 (p / 4) k) (σ 22 (p / 4) k)
        · rw [if_pos c, if_pos c]
          obtain ⟨c0, c1, c2⟩ := c
          obtain ⟨d1, d2, d3⟩ := slt_inj c2 hr hi (by omega) (by omega)
          subst c1
          constructor
          · rintro ((⟨j, hj, ⟨h1, h2⟩, h3, h4, h5, h6, h7⟩ | h) | h)
            · have := m.key (a / 4) j k s2 hj hk (by omega) (by omega) (by omega) (by omega)
              subst this
              exact absurd h1 hnt
            · omega
            · exfalso
              have hl := (B.lh (a / 4) (a % 4) kk (σ 10 a 0) r s2 h.1 hkk (P.ht a ha) hr (by omega)).2
              have := own.2
              rw [← d3, h.2.1] at this
              exact hl this
          · rintro ⟨h1, h2⟩
            exact Or.inl (Or.inr ⟨rfl, c0, by omega, by omega, by omega, by omega, by omega⟩)
        · rw [if_neg c, if_neg c, ← b]
          constructor
          · rintro ((h | h) | h)
            · exact Or.inl h
            · exact absurd ⟨h.2.1, h.1, by rw [h.2.2.1, h.2.2.2.1, h.2.2.2.2.1]⟩ c
            · exact Or.inr h
          · rintro (h | h)
            · exact Or.inl (Or.inl h)
            · exact Or.inr h
      · intro r i x y
        rw [sm a 0 r i x y ha]
        have b := b2 r i x y
        unfold ld at b ⊢
        rw [e10]
        rintro (h | ⟨h1, h2, h3, h4, h5, h6, h7⟩)
        · exact b h
        · have := m.prp (p / 4) k s2 hk h3
          subst h1
          omega
      · intro r hr'
        have := b3 r hr'
        unfold lieV at this ⊢
        rw [e28, e10]; exact this
    · rw [e28]; exact B.lb
    · rw [e28]; exact B.l1
    · rw [e28, e10, e0]; exact B.lh
    · intro a b
      rw [e29]
      split
      · omega
      · exact B.b9 a b
    · intro a ha h j
      rw [e0] at h
      have e : ¬ a = p := fun e => h (by rw [e]; exact hon)
      rw [e29, if_neg (fun c => e c.2.1)]; exact B.fb a ha h j
    · intro a b
      rw [e30]
      split
      · omega
      · exact B.b0 a b
theorem Pu.sLie_iw {σ : Sg} {s i k r x : Nat} (I : Iw σ) (hs : s < 2) (hi : i < 4) (hk : k < 3) (hr : r < 6) (hx : (x = 0 ∧ ¬ k = 0) ∨ (¬ x = 0 ∧ x - 1 < σ 34 0 0)) (hf : ¬ σ 0 (4 * s + 3) 0 = 0) (aw : awake σ (4 * s + i)) (em : σ 29 (4 * s + i) (slt k r 3) = 0) : Iw (sLie σ (4 * s + i) k r x) := by
  have P := I.po
  have m := I.ms
  have B := I.bx
  have r32 := rq32 I.bk
  have i3 : i < 3 := by
    by_cases e : i = 3
    · subst e; exact absurd aw.1 hf
    · omega
  have d4 : (4 * s + i) / 4 = s := by omega
  have m4 : (4 * s + i) % 4 = i := by omega
  have hh := P.ht (4 * s + i) (by omega)
  have e : ∀ f, f ≠ 28 → f ≠ 29 → f ≠ 30 → sLie σ (4 * s + i) k r x f = σ f := fun f h1 h2 h3 => by
    unfold sLie
    rw [U_ne h3, U_ne h2, U_ne h1]
  have e28 : ∀ a b, sLie σ (4 * s + i) k r x 28 a b = if a = 3 * s + i ∧ b = 102 * k + 6 * σ 10 (4 * s + i) 0 + r then x + 1 else σ 28 a b := fun a b => by
    unfold sLie
    rw [U_ne (by decide), U_ne (by decide), U_at, d4, m4]
  have e29 : ∀ a b, sLie σ (4 * s + i) k r x 29 a b = if a = 4 * s + i ∧ b = slt k r 3 then x + 1 else σ 29 a b := fun a b => by
    unfold sLie
    rw [U_ne (by decide), U_at, U_ne (by decide)]
  have e30 : ∀ a b, sLie σ (4 * s + i) k r x 30 a b = if a = 4 * s + i ∧ b = slt k r 3 then 0 else σ 30 a b := fun a b => by
    unfold sLie
    rw [U_at, U_ne (by decide), U_ne (by decide)]
  generalize sLie σ (4 * s + i) k r x = τ at e e28 e29 e30 ⊢
  have e0 := e 0 (by omega) (by omega) (by omega)
  have e10 := e 10 (by omega) (by omega) (by omega)
  have e20 := e 20 (by omega) (by omega) (by omega)
  have e21 := e 21 (by omega) (by omega) (by omega)
  have e22 := e 22 (by omega) (by omega) (by omega)
  have e23 := e 23 (by omega) (by omega) (by omega)
  have e24 := e 24 (by omega) (by omega) (by omega)
  have e25 := e 25 (by omega) (by omega) (by omega)
  have e26 := e 26 (by omega) (by omega) (by omega)
  have e27 := e 27 (by omega) (by omega) (by omega)
  have l1 : ∀ i z, z < 102 → ¬ τ 28 i z = 1 := by
    intro a z hz
    rw [e28]
    split
    · omega
    · exact B.l1 a z hz
  refine Iw.mk (bk := Bk_cg' (fun f h => e f (by omega) (by omega) (by omega)) I.bk) (po := Po_cg e0 (fun f a b => e f (by omega) (by omega) (by omega)) I.po) (ms := Ms_cg e0 e10 (e 11 (by omega) (by omega) (by omega)) (e 12 (by omega) (by omega) (by omega)) (fun f a b => e f (by omega) (by omega) (by omega)) I.ms) (bx := ?_) (vt := Vt_cg e0 e10 (e 13 (by omega) (by omega) (by omega)) (e 14 (by omega) (by omega) (by omega)) (e 18 (by omega) (by omega) (by omega)) (fun f a b => e f (by omega) (by omega) (by omega)) I.vt) (ex := Ex_cg' (fun f h => e f (by omega) (by omega) (by omega)) I.ex)
  refine ⟨?_, ?_, ?_, ?_, ?_, ?_, ?_⟩
  · intro a ha h0
    rw [e0] at h0
    obtain ⟨b1, b2, b3⟩ := B.bx a ha h0
    have sm : ∀ kk r i x y, Sm τ a (τ 20 (a / 4) 0) kk r i x y ↔ Sm σ a (σ 20 (a / 4) 0) kk r i x y := by
      intro kk r i x y
      unfold Sm hrs
      rw [e20, e21, e22, e23, e24, e25, e26, e27, e10]
    refine ⟨?_, ?_, ?_⟩
    · intro kk r' i' x' y' hkk hr' hi'
      have b := b1 kk r' i' x' y' hkk hr' hi'
      have b' := fun x y => b1 kk r' i' x y hkk hr' hi'
      rw [sm, e29, e30]
      by_cases c : a = 4 * s + i ∧ slt kk r' i' = slt k r 3
      · rw [if_pos c, if_pos c]
        obtain ⟨c1, c2⟩ := c
        obtain ⟨d1, d2, d3⟩ := slt_inj c2 hr' hi' hr (by omega)
        subst c1 d1 d2 d3
        unfold lieV at b ⊢
        rw [e10, d4, m4, e28, if_pos ⟨rfl, rfl⟩]
        constructor
        · rintro (⟨j, hj, ⟨h1, h2⟩, h3, h4, h5, h6, h7⟩ | h)
          · exfalso
            rw [d4] at h5
            have := (m.own s j hs hj).2
            rw [h5] at this
            exact hf this
          · exact ⟨by omega, by omega⟩
        · rintro ⟨h1, h2⟩
          exact Or.inr ⟨i3, rfl, by omega, by omega⟩
      · rw [if_neg c, if_neg c, ← b]
        unfold lieV
        rw [e10, e28]
        by_cases c2 : 3 * (a / 4) + a % 4 = 3 * s + i ∧ 102 * kk + 6 * σ 10 a 0 + r' = 102 * k + 6 * σ 10 (4 * s + i) 0 + r
        · by_cases c3 : a % 4 < 3 ∧ i' = 3
          · exfalso
            have ea : a = 4 * s + i := by omega
            have c2' := c2.2
            rw [← ea] at c2' hh
            have : kk = k ∧ r' = r := by omega
            exact c ⟨ea, by rw [this.1, this.2, c3.2]⟩
          · constructor
            · rintro (h | h)
              · exact Or.inl h
              · exact absurd ⟨h.1, h.2.1⟩ c3
            · rintro (h | h)
              · exact Or.inl h
              · exact absurd ⟨h.1, h.2.1⟩ c3
        · rw [if_neg c2]
    · intro r i x y
      rw [sm]
      have b := b2 r i x y
      unfold ld at b ⊢
      rw [e10]
      exact b
    · intro r' hr'
      unfold lieV
      have := P.ht a ha
      rw [e10]
      exact l1 _ _ (by omega)
  · intro a b
    rw [e28]
    split
    · omega
    · exact B.lb a b
  · exact l1
  · intro s' i' k' h' r' a1 a2 a3 a4 a5
    rw [e28, e10, e0]
    split
    · next c =>
      intro _
      have : s' = s ∧ i' = i := by omega
      rw [this.1, this.2]
      exact ⟨by omega, hf⟩
    · exact B.lh s' i' k' h' r' a1 a2 a3 a4 a5
  · intro a b
    rw [e29]
    split
    · omega
    · exact B.b9 a b
  · intro a ha h j
    rw [e0] at h
    have e : ¬ a = 4 * s + i := fun e => h (by rw [e]; exact aw.1)
    rw [e29, if_neg (fun c => e c.1)]; exact B.fb a ha h j
  · intro a b
    rw [e30]
    split
    · omega
    · exact B.b0 a b
