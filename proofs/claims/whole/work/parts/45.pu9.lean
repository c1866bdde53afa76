set_option linter.unusedVariables false
set_option linter.unusedSimpArgs false
/-! Pure part 9: ticks, sleep, lies; the start; what the reference asks of a state. -/
theorem Pu.k0_Ic {c : Nat → Nat → Nat} {σ : Sg} {p : Nat} (hp : p < 8) (h : Ic c σ) (aw : awake σ p) (h12 : σ 12 p 0 = 0) : Ic c (k0 σ p) ∧ σ 20 (p / 4) 0 < 918 := by
  have i := nil_iw hp h.1 aw.1 (k := 1) (by omega) (by omega) (by omega)
  refine ⟨⟨i, bd_U (bd_send h.2.1 (by omega) (by omega) (by omega) (ms918 h.1.ms (by omega))) (by omega), ?_⟩, snd_room hp snd_12 i⟩
  unfold k0; rw [U_ne (by omega), sSend_ne (by omega)]; exact h.2.2
theorem Pu.k1_Ic {c : Nat → Nat → Nat} {σ : Sg} {p : Nat} (hp : p < 8) (h : Ic c σ) (aw : awake σ p) (h12 : σ 12 p 0 = 1) : Ic c (k1 σ p) ∧ σ 20 (p / 4) 0 < 918 := by
  have i := nil_iw hp h.1 aw.1 (k := 2) (by omega) (by omega) (by omega)
  refine ⟨⟨i, bd_U (bd_send h.2.1 (by omega) (by omega) (by omega) (ms918 h.1.ms (by omega))) (by omega), ?_⟩, snd_room hp snd_12 i⟩
  unfold k1; rw [U_ne (by omega), sSend_ne (by omega)]; exact h.2.2
theorem Pu.k2_Ic {c : Nat → Nat → Nat} {σ : Sg} {p : Nat} (hp : p < 8) (h : Ic c σ) (aw : awake σ p) (h5 : σ 11 p 0 < 5) : Ic c (k2 σ p) := by
  refine ⟨k2_iw hp aw.1 h.1 (by omega) (by omega), bd_U (bd_U h.2.1 (by omega)) (by omega), ?_⟩
  unfold k2; rw [U_ne (by omega), U_ne (by omega)]; exact h.2.2
theorem Pu.sSl_Ic {c : Nat → Nat → Nat} {σ : Sg} {p b : Nat} (h : Ic c σ) (hb : b < 2) : Ic c (sSl σ p b) := by
  refine ⟨sSl_iw h.1, bd_U h.2.1 (by omega), ?_⟩
  unfold sSl; rw [U_ne (by omega)]; exact h.2.2
theorem Pu.sLie_Ic {c : Nat → Nat → Nat} {σ : Sg} {s i k r x : Nat} (h : Ic c σ) (hs : s < 2) (hi : i < 4) (hk : k < 3) (hr : r < 6) (hx : (x = 0 ∧ ¬ k = 0) ∨ (¬ x = 0 ∧ x - 1 < σ 34 0 0)) (hf : ¬ σ 0 (4 * s + 3) 0 = 0) (aw : awake σ (4 * s + i)) (em : σ 29 (4 * s + i) (slt k r 3) = 0) : Ic c (sLie σ (4 * s + i) k r x) := by
  have := rq32 h.1.bk
  refine ⟨sLie_iw h.1 hs hi hk hr hx hf aw em, bd_U (bd_U (bd_U h.2.1 (by omega)) (by omega)) (by omega), ?_⟩
  unfold sLie; rw [U_ne (by omega), U_ne (by omega), U_ne (by omega)]; exact h.2.2
/-- a sealed request finds room in the log -/
theorem Pu.gdn16 {σ : Sg} {p q : Nat} (hp : p < 8) (I : Iw σ) (h : gdn σ p q) : σ 10 p 0 < 16 := by
  have := I.po.ht p hp
  refine Classical.byContradiction (fun hc => ?_)
  have e : σ 10 p 0 = 16 := by omega
  have := rq16 I.bk (s := p / 4) (n := 17) (fun i => if i < 16 then σ 18 p i else q) (fun i hi => by
      show (if i < 16 then σ 18 p i else q) < _ ∧ σ 5 0 (if i < 16 then σ 18 p i else q) = _
      by_cases l : i < 16
      · rw [if_pos l]; exact I.ex.lg p i hp (by omega)
      · rw [if_neg l]; exact ⟨h.1, h.2.1⟩)
    (fun i j hi hj e' => by
      have e2 : (if i < 16 then σ 18 p i else q) = (if j < 16 then σ 18 p j else q) := e'
      by_cases l : i < 16
      · rw [if_pos l] at e2
        by_cases l' : j < 16
        · rw [if_pos l'] at e2; exact I.ex.ld p i j hp (by omega) (by omega) e2
        · rw [if_neg l'] at e2; exact absurd e2 (h.2.2 i (by omega) l)
      · rw [if_neg l] at e2
        by_cases l' : j < 16
        · rw [if_pos l'] at e2; exact absurd e2.symm (h.2.2 j (by omega) l')
        · omega)
  omega
theorem Pu.seal16 {σ : Sg} {p : Nat} (hp : p < 8) (I : Iw σ) (h : ¬ sealed σ p = 0) : σ 10 p 0 < 16 := by
  obtain ⟨r, q, hr, hq, hg, hc⟩ := seal_spec h
  exact gdn16 hp I hg
theorem Pu.MG_ok {σ : Sg} {s : Nat} (hs : s < 2) (I : Iw σ) : MG σ s := by
  refine ⟨ms918 I.ms hs, fun j hj => ?_⟩
  have f := I.ms.fld s j hs hj
  exact ⟨f.1, f.2.1, by omega, f.2.2.2.1, by omega, by omega, f.2.2.2.2.2.2⟩
/-- the start -/
def Pu.s0 (c : Nat → Nat → Nat) : Sg := fun f a b => if f = 0 then c a b else if f = 2 then 1 else if f = 4 then (if a = 0 ∧ b < 4 then 100 else 0) else if f = 8 then (if b < 4 ∧ b % 2 = a / 4 then 1 else 0) else if 13 ≤ f ∧ f ≤ 16 then (if a < 8 ∧ b = 0 then 0 else 1) else 0
theorem Pu.s0_z {c : Nat → Nat → Nat} {f : Nat} (h0 : f ≠ 0 ∧ f ≠ 2) (h4 : f ≠ 4 ∧ f ≠ 8) (h8 : f < 13 ∨ 16 < f) (a b : Nat) : s0 c f a b = 0 := by
  unfold s0; rw [if_neg h0.1, if_neg h0.2, if_neg h4.1, if_neg h4.2, if_neg (by omega)]
theorem Pu.s0_m {c : Nat → Nat → Nat} {f p : Nat} (h : 13 ≤ f) (h' : f ≤ 16) (hp : p < 8) : s0 c f p 0 = 0 := by
  unfold s0; rw [if_neg (by omega), if_neg (by omega), if_neg (by omega), if_neg (by omega), if_pos ⟨h, h'⟩, if_pos ⟨hp, rfl⟩]
theorem Pu.s0_Ic {c : Nat → Nat → Nat} (hc : ∀ p b, c p b < 2) (h3 : ∀ p, p < 8 → ¬ c p 0 = 0 → p % 4 = 3) : Ic c (s0 c) := by
  have z : ∀ f a b, (f ≠ 0 ∧ f ≠ 2) → (f ≠ 4 ∧ f ≠ 8) → (f < 13 ∨ 16 < f) → s0 c f a b = 0 := fun f a b h0 h4 h8 => s0_z h0 h4 h8 a b
  have e0 : s0 c 0 = c := rfl
  have mg : ∀ s k i h r x y, ¬ Mg (s0 c) s k i h r x y := by
    rintro s k i h r x y ⟨j, hj, _⟩
    rw [z 20 s 0 (by omega) (by omega) (by omega)] at hj
    omega
  refine ⟨Iw.mk (bk := ?_) (po := ?_) (ms := ?_) (bx := ?_) (vt := ?_) (ex := ?_), ?_, e0⟩
  · refine ⟨?_, ?_, ?_, ?_, ?_, ?_, ?_, ?_, ?_, ?_, ?_⟩
    · rw [z 33 _ _ (by omega) (by omega) (by omega)]; omega
    · intro t ht; rw [z 33 _ _ (by omega) (by omega) (by omega)] at ht; omega
    · intro n
      rw [z 33 _ _ (by omega) (by omega) (by omega)]
      show (if 0 = 0 ∧ n < 4 then 100 else 0) ≤ _
      split <;> omega
    · intro t ht; rw [z 34 _ _ (by omega) (by omega) (by omega)] at ht; omega
    · intro t t' ht; rw [z 34 _ _ (by omega) (by omega) (by omega)] at ht; omega
    · intro t ht; rw [z 34 _ _ (by omega) (by omega) (by omega)] at ht; omega
    · intro t; rw [z 3 _ _ (by omega) (by omega) (by omega)]; omega
    · intro t _; rw [z 3 _ _ (by omega) (by omega) (by omega)]
    · intro t ht; rw [z 33 _ _ (by omega) (by omega) (by omega)] at ht; omega
    · intro t ht; rw [z 33 _ _ (by omega) (by omega) (by omega)] at ht; omega
    · intro t ht; rw [z 33 _ _ (by omega) (by omega) (by omega)] at ht; omega
  · refine ⟨?_, ?_, ?_, ?_, ?_, ?_⟩
    · intro p _; rw [z 10 _ _ (by omega) (by omega) (by omega)]; omega
    · intro p _; rw [z 11 _ _ (by omega) (by omega) (by omega)]; omega
    · intro p _; rw [z 12 _ _ (by omega) (by omega) (by omega)]; omega
    · intro p hp; rw [s0_m (f := 14) (by omega) (by omega) hp]; omega
    · intro p hp; rw [s0_m (f := 16) (by omega) (by omega) hp, s0_m (f := 15) (by omega) (by omega) hp]; omega
    · intro p hp h
      rw [z 10 _ _ (by omega) (by omega) (by omega), z 11 _ _ (by omega) (by omega) (by omega), z 12 _ _ (by omega) (by omega) (by omega)]
      exact ⟨h3 p hp h, rfl, rfl, rfl⟩
  · refine ⟨?_, ?_, ?_, ?_, ?_, ?_⟩
    · intro s j _ hj; rw [z 20 _ _ (by omega) (by omega) (by omega)] at hj; omega
    · intro s j _ hj; rw [z 20 _ _ (by omega) (by omega) (by omega)] at hj; omega
    · intro s j _ hj; rw [z 20 _ _ (by omega) (by omega) (by omega)] at hj; omega
    · intro s j _ hj; rw [z 20 _ _ (by omega) (by omega) (by omega)] at hj; omega
    · intro s j i _ hj; rw [z 20 _ _ (by omega) (by omega) (by omega)] at hj; omega
    · intro s j j' _ hj; rw [z 20 _ _ (by omega) (by omega) (by omega)] at hj; omega
  · refine ⟨?_, ?_, ?_, ?_, ?_, ?_, ?_⟩
    · intro p hp _
      refine ⟨?_, ?_, ?_⟩
      · intro k r i x y _ _ _
        rw [z 29 _ _ (by omega) (by omega) (by omega)]
        unfold lieV
        rw [z 28 _ _ (by omega) (by omega) (by omega)]
        constructor
        · rintro (h | h)
          · exact absurd (Sm_mg h) (mg _ _ _ _ _ _ _)
          · omega
        · rintro ⟨h, _⟩; omega
      · intro r i x y h
        exact absurd (Sm_mg h) (mg _ _ _ _ _ _ _)
      · intro r _
        unfold lieV
        rw [z 28 _ _ (by omega) (by omega) (by omega)]; omega
    · intro i n; rw [z 28 _ _ (by omega) (by omega) (by omega)]; omega
    · intro i n _; rw [z 28 _ _ (by omega) (by omega) (by omega)]; omega
    · intro s i k h r _ _ _ _ _ hz; rw [z 28 _ _ (by omega) (by omega) (by omega)] at hz; exact absurd rfl hz
    · intro i n; rw [z 29 _ _ (by omega) (by omega) (by omega)]; omega
    · intro p _ _ j; exact z 29 _ _ (by omega) (by omega) (by omega)
    · intro i n; rw [z 30 _ _ (by omega) (by omega) (by omega)]; omega
  · refine ⟨?_, ?_, ?_, ?_, ?_⟩
    · intro s i h r x y _ _ m; exact absurd m (mg _ _ _ _ _ _ _)
    · intro s i h r0 r x' x y' y _ _ _ _ m; exact absurd m (mg _ _ _ _ _ _ _)
    · intro p r x y _ _ m; exact absurd m (mg _ _ _ _ _ _ _)
    · intro p hp h; rw [s0_m (f := 14) (by omega) (by omega) hp] at h; exact absurd rfl h
    · intro p k _ h; rw [z 10 _ _ (by omega) (by omega) (by omega)] at h; omega
  · refine ⟨?_, ?_, ?_, ?_, ?_, ?_, ?_, ?_⟩
    · intro p k _ h; rw [z 10 _ _ (by omega) (by omega) (by omega)] at h; omega
    · intro p k k' _ h; rw [z 10 _ _ (by omega) (by omega) (by omega)] at h; omega
    · intro p q _
      rw [z 19 _ _ (by omega) (by omega) (by omega), z 10 _ _ (by omega) (by omega) (by omega)]
      exact ⟨fun _ k h => by omega, fun _ => rfl⟩
    · intro p q _; rw [z 19 _ _ (by omega) (by omega) (by omega)]; omega
    · intro p n _
      rw [z 10 _ _ (by omega) (by omega) (by omega)]
      exact ⟨rfl, rfl⟩
    · intro p k _ h; rw [z 10 _ _ (by omega) (by omega) (by omega)] at h; omega
    · intro q
      rw [z 31 _ _ (by omega) (by omega) (by omega)]
      have : ∀ n, sm (fun p => if s0 c 19 p q = 0 then 0 else 1) n = 0 := by
        intro n
        induction n with
        | zero => rfl
        | succ n ih =>
          show sm _ n + (if s0 c 19 n q = 0 then 0 else 1) = 0
          rw [ih, z 19 _ _ (by omega) (by omega) (by omega)]
          rfl
      rw [this]
    · intro p q _ h; rw [z 19 _ _ (by omega) (by omega) (by omega)] at h; exact absurd rfl h
  · intro f a b
    unfold s0
    split
    · have := hc a b; omega
    · split
      · omega
      · split
        · split <;> omega
        · split
          · split <;> omega
          · split
            · split <;> omega
            · omega
