set_option linter.unusedVariables false
set_option linter.unusedSimpArgs false
/-! Pure part 4: a send, with its replica's step and locks set. -/
abbrev Pu.Snd (σ τ : Sg) (p k x y : Nat) : Prop := (∀ f, (f < 12 ∨ 16 < f) → τ f = sSend σ p k x y f) ∧ (∀ f a b, ¬ (a = p ∧ b = 0) → 12 ≤ f → f ≤ 16 → τ f a b = σ f a b)
theorem Pu.Snd.mk {σ τ : Sg} {p k x y : Nat} (fr : ∀ f, (f < 12 ∨ 16 < f) → τ f = sSend σ p k x y f) (rv : ∀ f a b, ¬ (a = p ∧ b = 0) → 12 ≤ f → f ≤ 16 → τ f a b = σ f a b) : Pu.Snd σ τ p k x y := ⟨fr, rv⟩
theorem Pu.Snd.fr {σ τ : Sg} {p k x y : Nat} (h : Pu.Snd σ τ p k x y) : ∀ f, (f < 12 ∨ 16 < f) → τ f = sSend σ p k x y f := h.1
theorem Pu.Snd.rv {σ τ : Sg} {p k x y : Nat} (h : Pu.Snd σ τ p k x y) : ∀ f a b, ¬ (a = p ∧ b = 0) → 12 ≤ f → f ≤ 16 → τ f a b = σ f a b := h.2
theorem Pu.Snd.ne {σ τ : Sg} {p k x y : Nat} (S : Snd σ τ p k x y) {f : Nat} (h : f < 12 ∨ 16 < f) (h' : f < 20 ∨ f = 28 ∨ 30 < f) : τ f = σ f := by
  rw [S.fr f h, sSend_ne h']
theorem Pu.Snd.n20 {σ τ : Sg} {p k x y : Nat} (S : Snd σ τ p k x y) (a b : Nat) : τ 20 a b = if a = p / 4 ∧ b = 0 then σ 20 (p / 4) 0 + 1 else σ 20 a b := by
  rw [S.fr 20 (by omega), sSend_20]
theorem Pu.Snd.cs {σ τ : Sg} {p k x y : Nat} (S : Snd σ τ p k x y) {s j : Nat} (h : j < τ 20 s 0) :
    (s = p / 4 ∧ j = σ 20 (p / 4) 0 ∧ τ 21 s j = k ∧ τ 22 s j = p % 4 ∧ τ 23 s j = σ 10 p 0 ∧ τ 24 s j = σ 11 p 0 ∧ τ 25 s j = x ∧ τ 26 s j = y ∧ τ 27 s j = 2 ^ (p % 4)) ∨
    (j < σ 20 s 0 ∧ τ 21 s j = σ 21 s j ∧ τ 22 s j = σ 22 s j ∧ τ 23 s j = σ 23 s j ∧ τ 24 s j = σ 24 s j ∧ τ 25 s j = σ 25 s j ∧ τ 26 s j = σ 26 s j ∧ τ 27 s j = σ 27 s j) := by
  rw [S.n20] at h
  rw [S.fr 21 (by omega), S.fr 22 (by omega), S.fr 23 (by omega), S.fr 24 (by omega), S.fr 25 (by omega), S.fr 26 (by omega), S.fr 27 (by omega), sSend_21, sSend_22, sSend_23, sSend_24, sSend_25, sSend_26, sSend_27]
  by_cases c : s = p / 4 ∧ j = σ 20 (p / 4) 0
  · left
    simp only [if_pos c, and_true]
    exact c
  · right
    simp only [if_neg c, and_self, and_true]
    by_cases hs : s = p / 4
    · rw [if_pos ⟨hs, rfl⟩] at h
      subst hs
      have : ¬ j = σ 20 (p / 4) 0 := fun e => c ⟨rfl, e⟩
      omega
    · rw [if_neg (fun h => hs h.1)] at h
      exact h
theorem Pu.Snd.mg {σ τ : Sg} {p kk xx yy : Nat} (S : Snd σ τ p kk xx yy) {s k i h r x y : Nat} : Mg τ s k i h r x y ↔ Mg σ s k i h r x y ∨ (s = p / 4 ∧ k = kk ∧ i = p % 4 ∧ h = σ 10 p 0 ∧ r = σ 11 p 0 ∧ x = xx ∧ y = yy) := by
  rw [Mg_cg (fun f a b => S.fr f (by omega)), Mg_send]
theorem Pu.Snd.po {σ τ : Sg} {p k x y : Nat} (S : Snd σ τ p k x y) (hp : p < 8) (hon : σ 0 p 0 = 0) (P : Po σ) (h12 : τ 12 p 0 ≤ 2) (hlk : τ 14 p 0 ≤ σ 11 p 0 + 1 ∧ (τ 12 p 0 < 2 → τ 14 p 0 ≤ σ 11 p 0)) (hcd : τ 16 p 0 ≤ σ 11 p 0 + 1 ∧ τ 15 p 0 ≤ 32 ∧ (τ 15 p 0 = 0 ↔ τ 16 p 0 = 0)) : Po τ := by
  have e10 := S.ne (f := 10) (by omega) (by omega)
  have e11 := S.ne (f := 11) (by omega) (by omega)
  have e0 := S.ne (f := 0) (by omega) (by omega)
  refine ⟨?_, ?_, ?_, ?_, ?_, ?_⟩
  · rw [e10]; exact P.ht
  · rw [e11]; exact P.rd
  · intro a ha
    by_cases e : a = p
    · subst e; exact h12
    · rw [S.rv 12 a 0 (by omega) (by omega) (by omega)]; exact P.sp a ha
  · intro a ha
    by_cases e : a = p
    · subst e; rw [e11]; exact hlk
    · rw [S.rv 12 a 0 (by omega) (by omega) (by omega), S.rv 14 a 0 (by omega) (by omega) (by omega), e11]; exact P.lk a ha
  · intro a ha
    by_cases e : a = p
    · subst e; rw [e11]; exact hcd
    · rw [S.rv 15 a 0 (by omega) (by omega) (by omega), S.rv 16 a 0 (by omega) (by omega) (by omega), e11]; exact P.cd a ha
  · intro a ha
    rw [e0, e10, e11]
    intro h
    have e : ¬ a = p := fun e => h (by rw [e]; exact hon)
    rw [S.rv 12 a 0 (by omega) (by omega) (by omega)]; exact P.fau a ha h
theorem Pu.Snd.ms {σ τ : Sg} {p k x y : Nat} (S : Snd σ τ p k x y) (hp : p < 8) (P : Po σ) (m : Ms σ) (hk : k < 3) (hx : x ≤ 32) (hy : y ≤ 6) (hon : σ 0 p 0 = 0)
    (fresh : ∀ x y, ¬ Mg σ (p / 4) k (p % 4) (σ 10 p 0) (σ 11 p 0) x y) (hk0 : k = 0 → ld σ p (σ 11 p 0) = p % 4 ∧ 1 ≤ x) (h12 : σ 12 p 0 ≤ τ 12 p 0) (hk12 : k ≤ τ 12 p 0) : Ms τ := by
  have e10 := S.ne (f := 10) (by omega) (by omega)
  have e11 := S.ne (f := 11) (by omega) (by omega)
  have e0 := S.ne (f := 0) (by omega) (by omega)
  have hr := P.rd p hp
  have hh := P.ht p hp
  have pm : 4 * (p / 4) + p % 4 = p := by omega
  have i4 : p % 4 < 4 := by omega
  refine ⟨?_, ?_, ?_, ?_, ?_, ?_⟩
  · intro s j hs hj
    rcases S.cs hj with ⟨c0, c1, c2, c3, c4, c5, c6, c7, c8⟩ | ⟨c1, c2, c3, c4, c5, c6, c7, c8⟩
    · rw [c2, c3, c4, c5, c6, c7, c8]
      refine ⟨hk, i4, hh, by omega, hx, hy, ?_⟩
      have : p % 4 = 0 ∨ p % 4 = 1 ∨ p % 4 = 2 ∨ p % 4 = 3 := by omega
      rcases this with e | e | e | e <;> rw [e] <;> decide
    · rw [c2, c3, c4, c5, c6, c7, c8]; exact m.fld s j hs c1
  · intro s j hs hj
    rw [e0]
    rcases S.cs hj with ⟨c0, c1, c2, c3, c4, c5, c6, c7, c8⟩ | ⟨c1, c2, c3, c4, c5, c6, c7, c8⟩
    · rw [c3, c8, c0, pm]
      exact ⟨by rw [Nat.div_self (Nat.two_pow_pos _)], hon⟩
    · rw [c3, c8]; exact m.own s j hs c1
  · intro s j hs hj
    rcases S.cs hj with ⟨c0, c1, c2, c3, c4, c5, c6, c7, c8⟩ | ⟨c1, c2, c3, c4, c5, c6, c7, c8⟩
    · rw [c2, c3, c4, c5, c6]
      intro e
      have := hk0 e
      unfold ld at this
      omega
    · rw [c2, c3, c4, c5, c6]; exact m.prp s j hs c1
  · intro s j hs hj
    unfold bf
    rw [e10, e11]
    rcases S.cs hj with ⟨c0, c1, c2, c3, c4, c5, c6, c7, c8⟩ | ⟨c1, c2, c3, c4, c5, c6, c7, c8⟩
    · rw [c2, c3, c4, c5, c0, pm]; omega
    · rw [c2, c3, c4, c5]
      have := m.bef s j hs c1
      unfold bf at this
      have hfl := m.fld s j hs c1
      by_cases e : 4 * s + σ 22 s j = p
      · rw [e] at this ⊢; omega
      · rw [S.rv 12 _ 0 (by omega) (by omega) (by omega)]; exact this
  · intro s j i hs hj hi
    rw [e10]
    rcases S.cs hj with ⟨c0, c1, c2, c3, c4, c5, c6, c7, c8⟩ | ⟨c1, c2, c3, c4, c5, c6, c7, c8⟩
    · rw [c8, c4, c0]
      intro hb
      have : i = p % 4 := by
        have h3 : p % 4 = 0 ∨ p % 4 = 1 ∨ p % 4 = 2 ∨ p % 4 = 3 := by omega
        have h4 : i = 0 ∨ i = 1 ∨ i = 2 ∨ i = 3 := by omega
        rcases h3 with e | e | e | e <;> rw [e] at hb ⊢ <;> rcases h4 with e' | e' | e' | e' <;> subst e' <;> first | rfl | exact absurd hb (by decide)
      rw [this, pm]
      exact Nat.le_refl _
    · rw [c8, c4]; exact m.tkn s j i hs c1 hi
  · intro s j j' hs hj hj' k1 k2 k3 k4
    have nf : ∀ j, j < σ 20 (p / 4) 0 → σ 21 (p / 4) j = k → σ 22 (p / 4) j = p % 4 → σ 23 (p / 4) j = σ 10 p 0 → σ 24 (p / 4) j = σ 11 p 0 → False := fun j h1 h2 h3 h4 h5 => fresh _ _ ⟨j, h1, h2, h3, h4, h5, rfl, rfl⟩
    rcases S.cs hj with ⟨c0, c1, c2, c3, c4, c5, c6, c7, c8⟩ | ⟨c1, c2, c3, c4, c5, c6, c7, c8⟩
    · rcases S.cs hj' with ⟨d0, d1, d2, d3, d4, d5, d6, d7, d8⟩ | ⟨d1, d2, d3, d4, d5, d6, d7, d8⟩
      · omega
      · exfalso
        subst c0
        exact nf j' d1 (by omega) (by omega) (by omega) (by omega)
    · rcases S.cs hj' with ⟨d0, d1, d2, d3, d4, d5, d6, d7, d8⟩ | ⟨d1, d2, d3, d4, d5, d6, d7, d8⟩
      · exfalso
        subst d0
        exact nf j c1 (by omega) (by omega) (by omega) (by omega)
      · exact m.key s j j' hs c1 d1 (by omega) (by omega) (by omega) (by omega)
theorem Pu.bit_pow {i a : Nat} (ha : a < 4) (hi : i < 4) : 2 ^ a / 2 ^ i % 2 = 1 ↔ i = a := by
  have h3 : a = 0 ∨ a = 1 ∨ a = 2 ∨ a = 3 := by omega
  have h4 : i = 0 ∨ i = 1 ∨ i = 2 ∨ i = 3 := by omega
  rcases h3 with e | e | e | e <;> subst e <;> rcases h4 with e' | e' | e' | e' <;> subst e' <;> decide
theorem Pu.Snd.sm {σ τ : Sg} {p kk xx yy : Nat} (S : Snd σ τ p kk xx yy) (hp : p < 8) {p' k r i x y : Nat} (hp' : p' < 8) :
    Sm τ p' (τ 20 (p' / 4) 0) k r i x y ↔ Sm σ p' (σ 20 (p' / 4) 0) k r i x y ∨ (p' = p ∧ k = kk ∧ r = σ 11 p 0 ∧ i = p % 4 ∧ x = xx ∧ y = yy) := by
  have e10 := S.ne (f := 10) (by omega) (by omega)
  unfold Sm hrs
  rw [e10]
  constructor
  · rintro ⟨j, hj, ⟨h1, h2⟩, h3, h4, h5, h6, h7⟩
    rcases S.cs hj with ⟨c0, c1, c2, c3, c4, c5, c6, c7, c8⟩ | ⟨c1, c2, c3, c4, c5, c6, c7, c8⟩
    · right
      rw [c8, bit_pow (by omega) (by omega)] at h1
      exact ⟨by omega, by omega, by omega, by omega, by omega, by omega⟩
    · left
      exact ⟨j, c1, ⟨by rw [← c8]; exact h1, by omega⟩, by omega, by omega, by omega, by omega, by omega⟩
  · rintro (⟨j, hj, ⟨h1, h2⟩, h3, h4, h5, h6, h7⟩ | ⟨h0, h3, h4, h5, h6, h7⟩)
    · have hj' : j < τ 20 (p' / 4) 0 := by
        rw [S.n20]
        split
        · next h => rw [h.1] at hj; omega
        · exact hj
      rcases S.cs hj' with ⟨c0, c1, c2, c3, c4, c5, c6, c7, c8⟩ | ⟨c1, c2, c3, c4, c5, c6, c7, c8⟩
      · rw [c0] at hj; omega
      · exact ⟨j, hj', ⟨by rw [c8]; exact h1, by omega⟩, by omega, by omega, by omega, by omega, by omega⟩
    · subst h0
      have hj' : σ 20 (p' / 4) 0 < τ 20 (p' / 4) 0 := by
        rw [S.n20, if_pos ⟨rfl, rfl⟩]; omega
      rcases S.cs hj' with ⟨c0, c1, c2, c3, c4, c5, c6, c7, c8⟩ | ⟨c1, c2, c3, c4, c5, c6, c7, c8⟩
      · refine ⟨_, hj', ⟨?_, by omega⟩, by omega, by omega, by omega, by omega, by omega⟩
        rw [c8, bit_pow (by omega) (by omega)]
      · omega
theorem Pu.Sm_mg {σ : Sg} {p k r i x y : Nat} : Sm σ p (σ 20 (p / 4) 0) k r i x y → Mg σ (p / 4) k i (σ 10 p 0) r x y := by
  rintro ⟨j, hj, ⟨h1, h2⟩, h3, h4, h5, h6, h7⟩
  exact ⟨j, hj, h3, h5, h2, h4, h6, h7⟩
theorem Pu.Snd.bx {σ τ : Sg} {p kk xx yy : Nat} (S : Snd σ τ p kk xx yy) (hp : p < 8) (P : Po σ) (B : Bx σ) (hx : xx ≤ 32) (hy : yy ≤ 6) (hon : σ 0 p 0 = 0)
    (fresh : ∀ x y, ¬ Mg σ (p / 4) kk (p % 4) (σ 10 p 0) (σ 11 p 0) x y) (hk0 : kk = 0 → ld σ p (σ 11 p 0) = p % 4 ∧ 1 ≤ xx) : Bx τ := by
  have e10 := S.ne (f := 10) (by omega) (by omega)
  have e0 := S.ne (f := 0) (by omega) (by omega)
  have e28 := S.ne (f := 28) (by omega) (by omega)
  have e29 : ∀ a b, τ 29 a b = if a = p ∧ b = slt kk (σ 11 p 0) (p % 4) then xx + 1 else σ 29 a b := fun a b => by rw [S.fr 29 (by omega), sSend_29]
  have e30 : ∀ a b, τ 30 a b = if a = p ∧ b = slt kk (σ 11 p 0) (p % 4) then yy else σ 30 a b := fun a b => by rw [S.fr 30 (by omega), sSend_30]
  have hr := P.rd p hp
  refine ⟨?_, ?_, ?_, ?_, ?_, ?_, ?_⟩
  · intro a ha h0
    rw [e0] at h0
    obtain ⟨b1, b2, b3⟩ := B.bx a ha h0
    refine ⟨?_, ?_, ?_⟩
    · intro k r i x y hk hr' hi
      have b := b1 k r i x y hk hr' hi
      rw [S.sm hp ha, e29, e30]
      unfold lieV at b ⊢
      rw [e28, e10]
      by_cases c : a = p ∧ slt k r i = slt kk (σ 11 p 0) (p % 4)
      · rw [if_pos c, if_pos c]
        obtain ⟨c1, c2⟩ := c
        obtain ⟨d1, d2, d3⟩ := slt_inj c2 hr' hi (by omega) (by omega)
        subst c1
        constructor
        · rintro ((h | h) | h)
          · have := Sm_mg h
            rw [d1, d2, d3] at this
            exact absurd this (fresh _ _)
          · exact ⟨by omega, by omega⟩
          · omega
        · rintro ⟨h1, h2⟩
          exact Or.inl (Or.inr ⟨rfl, d1, d2, d3, by omega, by omega⟩)
      · rw [if_neg c, if_neg c, ← b]
        constructor
        · rintro ((h | h) | h)
          · exact Or.inl h
          · exact absurd ⟨h.1, by rw [h.2.1, h.2.2.1, h.2.2.2.1]⟩ c
          · exact Or.inr h
        · rintro (h | h)
          · exact Or.inl (Or.inl h)
          · exact Or.inr h
    · intro r i x y
      rw [S.sm hp ha]
      have b := b2 r i x y
      unfold ld at b hk0 ⊢
      rw [e10]
      rintro (h | h)
      · exact b h
      · have := hk0 h.2.1.symm
        obtain ⟨h0, h1, h2, h3, h4, h5⟩ := h
        subst h0
        omega
    · intro r hr'
      have := b3 r hr'
      unfold lieV at this ⊢
      rw [e28, e10]; exact this
  · rw [e28]; exact B.lb
  · rw [e28]; exact B.l1
  · rw [e28, e10, e0]; exact B.lh
  · intro a b
    rw [e29]
    split
    · omega
    · exact B.b9 a b
  · intro a ha h j
    rw [e0] at h
    have e : ¬ a = p := fun e => h (by rw [e]; exact hon)
    rw [e29, if_neg (fun c => e c.1)]; exact B.fb a ha h j
  · intro a b
    rw [e30]
    split
    · omega
    · exact B.b0 a b
theorem Pu.Snd.vt {σ τ : Sg} {p kk xx yy : Nat} (S : Snd σ τ p kk xx yy) (hp : p < 8) (P : Po σ) (m : Ms σ) (V : Vt σ)
    (hv : kk = 1 → ¬ xx = 0 → ∀ r0 x' y', ¬ x' = 0 → r0 < σ 11 p 0 → Mg σ (p / 4) 2 (p % 4) (σ 10 p 0) r0 x' y' → ∃ c, r0 ≤ c ∧ c < σ 11 p 0 ∧ Q1 σ (p / 4) (σ 10 p 0) c xx)
    (hs : (kk = 2 ∧ ¬ xx = 0 ∧ Q1 σ (p / 4) (σ 10 p 0) (σ 11 p 0) xx ∧ τ 13 p 0 = xx ∧ τ 14 p 0 = σ 11 p 0 + 1) ∨ ((kk = 2 → xx = 0) ∧ τ 13 p 0 = σ 13 p 0 ∧ τ 14 p 0 = σ 14 p 0)) : Vt τ := by
  have e10 := S.ne (f := 10) (by omega) (by omega)
  have e18 := S.ne (f := 18) (by omega) (by omega)
  have e0 := S.ne (f := 0) (by omega) (by omega)
  have pm : 4 * (p / 4) + p % 4 = p := by omega
  have mo : ∀ s k i h r x y, Mg σ s k i h r x y → Mg τ s k i h r x y := fun s k i h r x y hm => S.mg.2 (Or.inl hm)
  have q1 : ∀ s h r x, Q1 σ s h r x → Q1 τ s h r x := fun s h r x => Q1_mono e0 (mo s)
  have q2 : ∀ s h r x, Q2 σ s h r x → Q2 τ s h r x := fun s h r x => Q2_mono e0 (mo s)
  have mb : ∀ s k i h r x y, s < 2 → Mg σ s k i h r x y → bf σ (4 * s + i) k h r := by
    rintro s k i h r x y h1 ⟨j, hj, a1, a2, a3, a4, a5, a6⟩
    have := m.bef s j h1 hj
    rw [a1, a2, a3, a4] at this
    exact this
  refine ⟨?_, ?_, ?_, ?_, ?_⟩
  · intro s i h r x y h1 h2
    rw [S.mg]
    rintro (h3 | ⟨h3, h4, h5, h6, h7, h8, h9⟩)
    · exact q1 _ _ _ _ (V.sl s i h r x y h1 h2 h3)
    · rcases hs with ⟨a1, a2, a3, a4⟩ | ⟨a1, a2⟩
      · rw [h3, h6, h7, h8]; exact q1 _ _ _ _ a3
      · exact absurd (h8.trans (a1 h4.symm)) h2
  · intro s i h r0 r x' x y' y h1 h2 h3 h4 m1 m2
    rw [S.mg] at m1 m2
    rcases m1 with m1 | ⟨b1, b2, b3, b4, b5, b6, b7⟩
    · rcases m2 with m2 | ⟨c1, c2, c3, c4, c5, c6, c7⟩
      · obtain ⟨c, h5, h6, h7⟩ := V.ag s i h r0 r x' x y' y h1 h2 h3 h4 m1 m2
        exact ⟨c, h5, h6, q1 _ _ _ _ h7⟩
      · subst c1 c3 c4 c5 c6
        obtain ⟨c, h5, h6, h7⟩ := hv c2.symm h3 r0 x' y' h2 h4 m1
        exact ⟨c, h5, h6, q1 _ _ _ _ h7⟩
    · rcases m2 with m2 | ⟨c1, c2, c3, c4, c5, c6, c7⟩
      · exfalso
        have := mb _ _ _ _ _ _ _ h1 m2
        rw [b1, b3, pm] at this
        unfold bf at this
        have := P.sp p hp
        omega
      · omega
  · intro a r x y ha h2
    rw [S.mg, e10]
    rintro (h3 | ⟨h3, h4, h5, h6, h7, h8, h9⟩)
    · have hl := V.lk a r x y ha h2 h3
      by_cases e : a = p
      · subst e
        rcases hs with ⟨a1, a2, a3, a4, a5⟩ | ⟨a1, a2, a3⟩
        · have := mb _ _ _ _ _ _ _ (by omega) h3
          rw [pm] at this
          unfold bf at this
          omega
        · omega
      · rw [S.rv 14 a 0 (by omega) (by omega) (by omega)]; exact hl
    · have : a = p := by omega
      subst this
      rcases hs with ⟨a1, a2, a3, a4, a5⟩ | ⟨a1, a2, a3⟩
      · omega
      · exact absurd (h8.trans (a1 h4.symm)) h2
  · intro a ha
    rw [e10]
    by_cases e : a = p
    · subst e
      rcases hs with ⟨a1, a2, a3, a4, a5⟩ | ⟨a1, a2, a3⟩
      · intro _
        rw [a4, a5]
        exact ⟨a2, q1 _ _ _ _ a3⟩
      · rw [a2, a3]
        intro h
        have := V.lq a ha h
        exact ⟨this.1, q1 _ _ _ _ this.2⟩
    · rw [S.rv 14 a 0 (by omega) (by omega) (by omega), S.rv 13 a 0 (by omega) (by omega) (by omega)]
      intro h
      have := V.lq a ha h
      exact ⟨this.1, q1 _ _ _ _ this.2⟩
  · intro a k ha
    rw [e10, e18]
    intro h
    obtain ⟨r, hr⟩ := V.dc a k ha h
    exact ⟨r, q2 _ _ _ _ hr⟩
theorem Pu.Snd.iw {σ τ : Sg} {p kk xx yy : Nat} (S : Snd σ τ p kk xx yy) (hp : p < 8) (I : Iw σ) (hon : σ 0 p 0 = 0) (hk : kk < 3) (hx : xx ≤ 32) (hy : yy ≤ 6)
    (fresh : ∀ x y, ¬ Mg σ (p / 4) kk (p % 4) (σ 10 p 0) (σ 11 p 0) x y) (hk0 : kk = 0 → ld σ p (σ 11 p 0) = p % 4 ∧ 1 ≤ xx) (h12 : σ 12 p 0 ≤ τ 12 p 0) (hk12 : kk ≤ τ 12 p 0) (h122 : τ 12 p 0 ≤ 2)
    (hlk : τ 14 p 0 ≤ σ 11 p 0 + 1 ∧ (τ 12 p 0 < 2 → τ 14 p 0 ≤ σ 11 p 0)) (hcd : τ 16 p 0 ≤ σ 11 p 0 + 1 ∧ τ 15 p 0 ≤ 32 ∧ (τ 15 p 0 = 0 ↔ τ 16 p 0 = 0))
    (hv : kk = 1 → ¬ xx = 0 → ∀ r0 x' y', ¬ x' = 0 → r0 < σ 11 p 0 → Mg σ (p / 4) 2 (p % 4) (σ 10 p 0) r0 x' y' → ∃ c, r0 ≤ c ∧ c < σ 11 p 0 ∧ Q1 σ (p / 4) (σ 10 p 0) c xx)
    (hs : (kk = 2 ∧ ¬ xx = 0 ∧ Q1 σ (p / 4) (σ 10 p 0) (σ 11 p 0) xx ∧ τ 13 p 0 = xx ∧ τ 14 p 0 = σ 11 p 0 + 1) ∨ ((kk = 2 → xx = 0) ∧ τ 13 p 0 = σ 13 p 0 ∧ τ 14 p 0 = σ 14 p 0)) : Iw τ := by
  have ne : ∀ f, (f < 12 ∨ 16 < f) → (f < 20 ∨ f = 28 ∨ 30 < f) → τ f = σ f := fun f h h' => S.ne h h'
  exact Iw.mk (bk := Bk_cg (ne 1 (by omega) (by omega)) (ne 2 (by omega) (by omega)) (ne 3 (by omega) (by omega)) (ne 4 (by omega) (by omega)) (ne 5 (by omega) (by omega)) (ne 6 (by omega) (by omega)) (ne 7 (by omega) (by omega)) (ne 33 (by omega) (by omega)) (ne 34 (by omega) (by omega)) I.bk) (po := S.po hp hon I.po h122 hlk hcd) (ms := S.ms hp I.po I.ms hk hx hy hon fresh hk0 h12 hk12) (bx := S.bx hp I.po I.bx hx hy hon fresh hk0) (vt := S.vt hp I.po I.ms I.vt hv hs) (ex := Ex_cg (fun q _ => by rw [ne 5 (by omega) (by omega)]) (fun q _ => Sq_same (ne 1 (by omega) (by omega)) (ne 2 (by omega) (by omega)) (ne 4 (by omega) (by omega)) (ne 6 (by omega) (by omega)) (ne 7 (by omega) (by omega)) q) (ne 8 (by omega) (by omega)) (ne 9 (by omega) (by omega)) (ne 10 (by omega) (by omega)) (ne 18 (by omega) (by omega)) (ne 19 (by omega) (by omega)) (ne 31 (by omega) (by omega)) (ne 32 (by omega) (by omega)) (by rw [ne 34 (by omega) (by omega)]; exact Nat.le_refl _) I.ex)
