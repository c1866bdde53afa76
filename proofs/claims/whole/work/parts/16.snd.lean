/-! a message is sent: the numbers, the pointers (g_snd.py) -/
section SND
variable {D : va_G} {B nx : Nat} {σ σ' : Sg} {κ : Kp} {g : Nat → Option va_E}
/-- what the class's picture doesn't show may change -/
theorem hC_cgr (h : ∀ f, (0 < tidx f ∨ 0 < pidx f ∨ 0 < sidx f ∨ f = 0) → σ' f = σ f) : hC D B σ' κ g = hC D B σ κ g := by
  funext a
  refine hC_ext (a0 := a + 1) (fun o ho hne => tcell_congr o (fun f' e ho' => ?_)) (fun s j _ _ _ => scell_congr s j (fun f' e hj => ?_) rfl) (fun p c _ _ _ => pcell_congr p c ?_ (fun f' e hc => ?_) rfl) (fun _ _ _ => rfl) a (by omega)
  · rw [h f' (Or.inl (by rw [e]; exact ho'))]
  · rw [h f' (Or.inr (Or.inr (Or.inl (by rw [e]; exact hj))))]
  · rw [h 0 (Or.inr (Or.inr (Or.inr rfl)))]
  · rw [h f' (Or.inr (Or.inl (by rw [e]; exact hc)))]
def msgF (k i h r x y t : Nat) : Nat → Nat
  | 0 => k | 1 => i | 2 => h | 3 => r | 4 => x | 5 => y | 6 => t | _ => 0
/-- the numbers of a new message of p, all but the count -/
def sGh (σ : Sg) (p k x y : Nat) : Sg := U (U (U (U (U (U (U (U (U σ 21 (p / 4) (σ 20 (p / 4) 0) k) 22 (p / 4) (σ 20 (p / 4) 0) (p % 4)) 23 (p / 4) (σ 20 (p / 4) 0) (σ 10 p 0)) 24 (p / 4) (σ 20 (p / 4) 0) (σ 11 p 0)) 25 (p / 4) (σ 20 (p / 4) 0) x) 26 (p / 4) (σ 20 (p / 4) 0) y) 27 (p / 4) (σ 20 (p / 4) 0) (2 ^ (p % 4))) 29 p (slt k (σ 11 p 0) (p % 4)) (x + 1)) 30 p (slt k (σ 11 p 0) (p % 4)) y
def sSend (σ : Sg) (p k x y : Nat) : Sg := U (sGh σ p k x y) 20 (p / 4) 0 (σ 20 (p / 4) 0 + 1)
theorem sGh_ne {p k x y f : Nat} (h : f < 21 ∨ f = 28 ∨ 30 < f) : sGh σ p k x y f = σ f := by
  unfold sGh
  rw [U_ne (by omega), U_ne (by omega), U_ne (by omega), U_ne (by omega), U_ne (by omega), U_ne (by omega), U_ne (by omega), U_ne (by omega), U_ne (by omega)]
theorem sSend_ne {p k x y f : Nat} (h : f < 20 ∨ f = 28 ∨ 30 < f) : sSend σ p k x y f = σ f := by
  unfold sSend
  rw [U_ne (by omega), sGh_ne (by omega)]
theorem sSend_20 {p k x y s b : Nat} : sSend σ p k x y 20 s b = if s = p / 4 ∧ b = 0 then σ 20 (p / 4) 0 + 1 else σ 20 s b := by
  unfold sSend
  rw [U_at, sGh_ne (by omega)]
theorem sSend_29 {p k x y a b : Nat} : sSend σ p k x y 29 a b = if a = p ∧ b = slt k (σ 11 p 0) (p % 4) then x + 1 else σ 29 a b := by
  unfold sSend sGh
  rw [U_ne (by decide), U_ne (by decide), U_at, U_ne (by decide), U_ne (by decide), U_ne (by decide), U_ne (by decide), U_ne (by decide), U_ne (by decide), U_ne (by decide)]
theorem sSend_30 {p k x y a b : Nat} : sSend σ p k x y 30 a b = if a = p ∧ b = slt k (σ 11 p 0) (p % 4) then y else σ 30 a b := by
  unfold sSend sGh
  rw [U_ne (by decide), U_at, U_ne (by decide), U_ne (by decide), U_ne (by decide), U_ne (by decide), U_ne (by decide), U_ne (by decide), U_ne (by decide), U_ne (by decide)]
theorem sSend_msg {p k x y a b : Nat} : ∀ i, i < 7 → sSend σ p k x y (21 + i) a b = if a = p / 4 ∧ b = σ 20 (p / 4) 0 then msgF k (p % 4) (σ 10 p 0) (σ 11 p 0) x y (2 ^ (p % 4)) i else σ (21 + i) a b := by
  intro i hi
  unfold sSend sGh
  rw [U_ne (by omega), U_ne (by omega), U_ne (by omega)]
  match i, hi with
  | 0, _ => rw [U_ne (by decide), U_ne (by decide), U_ne (by decide), U_ne (by decide), U_ne (by decide), U_ne (by decide)]; exact U_at
  | 1, _ => rw [U_ne (by decide), U_ne (by decide), U_ne (by decide), U_ne (by decide), U_ne (by decide)]; rw [show (21 + 1 : Nat) = 22 from rfl, U_at, U_ne (by decide)]; rfl
  | 2, _ => rw [U_ne (by decide), U_ne (by decide), U_ne (by decide), U_ne (by decide)]; rw [show (21 + 2 : Nat) = 23 from rfl, U_at, U_ne (by decide), U_ne (by decide)]; rfl
  | 3, _ => rw [U_ne (by decide), U_ne (by decide), U_ne (by decide)]; rw [show (21 + 3 : Nat) = 24 from rfl, U_at, U_ne (by decide), U_ne (by decide), U_ne (by decide)]; rfl
  | 4, _ => rw [U_ne (by decide), U_ne (by decide)]; rw [show (21 + 4 : Nat) = 25 from rfl, U_at, U_ne (by decide), U_ne (by decide), U_ne (by decide), U_ne (by decide)]; rfl
  | 5, _ => rw [U_ne (by decide)]; rw [show (21 + 5 : Nat) = 26 from rfl, U_at, U_ne (by decide), U_ne (by decide), U_ne (by decide), U_ne (by decide), U_ne (by decide)]; rfl
  | 6, _ => rw [show (21 + 6 : Nat) = 27 from rfl, U_at, U_ne (by decide), U_ne (by decide), U_ne (by decide), U_ne (by decide), U_ne (by decide), U_ne (by decide)]; rfl
theorem hC_send {p k x y : Nat} : hC D B (U σ 20 (p / 4) 0 (σ 20 (p / 4) 0 + 1)) κ g = hC D B (sSend σ p k x y) κ g := by
  symm
  refine hC_cgr (fun f hf => ?_)
  have hn : f ≠ 21 ∧ f ≠ 22 ∧ f ≠ 23 ∧ f ≠ 24 ∧ f ≠ 25 ∧ f ≠ 26 ∧ f ≠ 27 ∧ f ≠ 29 ∧ f ≠ 30 := by
    refine ⟨?_, ?_, ?_, ?_, ?_, ?_, ?_, ?_, ?_⟩ <;> (rintro rfl; simp [tidx, pidx, sidx] at hf)
  by_cases e : f = 20
  · subst e
    funext a b
    rw [sSend_20, U_at]
  · rw [U_ne e]
    unfold sSend sGh
    rw [U_ne e, U_ne (by omega), U_ne (by omega), U_ne (by omega), U_ne (by omega), U_ne (by omega), U_ne (by omega), U_ne (by omega), U_ne (by omega), U_ne (by omega)]
/-- the pointers behind it -/
def Ksend (σ : Sg) (κ : Kp) (nx p k x y : Nat) : Kp := Kib (Klg (Knew κ nx (msgF k (p % 4) (σ 10 p 0) (σ 11 p 0) x y (2 ^ (p % 4)))) (p / 4) (σ 20 (p / 4) 0) (some nx)) p (slt k (σ 11 p 0) (p % 4)) (some nx)
theorem msgF_lt {k i h r x y t : Nat} (h0 : k < 100000) (h1 : i < 100000) (h2 : h < 100000) (h3 : r < 100000) (h4 : x < 100000) (h5 : y < 100000) (h6 : t < 100000) : ∀ j, msgF k i h r x y t j < 100000 := by
  intro j
  unfold msgF
  split <;> first | assumption | decide
theorem KR_send {p k x y : Nat} (kr : KR B σ κ nx) (hb : bd σ) (hp : p < 8) (hk : k < 3) (hr : σ 11 p 0 < 6) (hx : x < 99999) (hy : y < 100000) : KR B (sSend σ p k x y) (Ksend σ κ nx p k x y) (nx + 1) := by
  obtain ⟨k1, k2, k3, k4, ⟨k5, k5'⟩, k6⟩ := kr
  have hi : p % 4 < 4 := Nat.mod_lt _ (by decide)
  have hj := slt_lt hk hr hi
  have old : ∀ {a : Nat}, κ.2.2.1 a = true → a ≠ nx := fun h e => by have := (k5' _ h).2; omega
  have eib : ∀ q j, (Ksend σ κ nx p k x y).1 q j = if q = p ∧ j = slt k (σ 11 p 0) (p % 4) then some nx else κ.1 q j := by
    intro q j
    by_cases e1 : q = p
    · subst e1
      by_cases e2 : j = slt k (σ 11 q 0) (q % 4)
      · simp [Ksend, Kib, Klg, Knew, va_up, e2]
      · simp [Ksend, Kib, Klg, Knew, va_up, e2]
    · simp [Ksend, Kib, Klg, Knew, va_up, e1]
  have elg : ∀ s j, (Ksend σ κ nx p k x y).2.1 s j = if s = p / 4 ∧ j = σ 20 (p / 4) 0 then some nx else κ.2.1 s j := by
    intro s j
    by_cases e1 : s = p / 4
    · subst e1
      by_cases e2 : j = σ 20 (p / 4) 0
      · simp [Ksend, Kib, Klg, Knew, va_up, e2]
      · simp [Ksend, Kib, Klg, Knew, va_up, e2]
    · simp [Ksend, Kib, Klg, Knew, va_up, e1]
  have epr : ∀ a, (Ksend σ κ nx p k x y).2.2.1 a = if a = nx then true else κ.2.2.1 a := fun a => rfl
  have emf : ∀ a, (Ksend σ κ nx p k x y).2.2.2 a = if a = nx then msgF k (p % 4) (σ 10 p 0) (σ 11 p 0) x y (2 ^ (p % 4)) else κ.2.2.2 a := fun a => rfl
  refine ⟨fun q j hq hj' => ?_, fun q j a hq hj' h => ?_, fun s j hs hj' => ?_, fun s j s' j' a hs hs' hj1 hj2 h1 h2 => ?_, ⟨by omega, fun a ha => ?_⟩, fun a i ha => ?_⟩
  · rw [eib, sSend_29]
    by_cases e : q = p ∧ j = slt k (σ 11 p 0) (p % 4)
    · rw [if_pos e, if_pos e]; simp
    · rw [if_neg e, if_neg e]; exact k1 q j hq hj'
  · rw [eib] at h
    rw [sSend_29, sSend_30, epr, emf]
    by_cases e : q = p ∧ j = slt k (σ 11 p 0) (p % 4)
    · rw [if_pos e] at h
      cases h
      rw [if_pos e, if_pos e, if_pos rfl, if_pos rfl]
      exact ⟨rfl, by omega, rfl, rfl⟩
    · rw [if_neg e] at h
      obtain ⟨g1, g2, g3, g4⟩ := k2 q j a hq hj' h
      rw [if_neg e, if_neg e, if_neg (old g1), if_neg (old g1)]
      exact ⟨g1, g2, g3, g4⟩
  · rw [sSend_20] at hj'
    by_cases e : s = p / 4 ∧ j = σ 20 (p / 4) 0
    · refine ⟨nx, by rw [elg, if_pos e], by rw [epr, if_pos rfl], by omega, fun i hi7 => ?_⟩
      rw [sSend_msg i hi7, if_pos e, emf, if_pos rfl]
    · have hlt : j < σ 20 s 0 := by
        by_cases es : s = p / 4
        · subst es
          rw [if_pos ⟨rfl, rfl⟩] at hj'
          have : j ≠ σ 20 (p / 4) 0 := fun z => e ⟨rfl, z⟩
          omega
        · rw [if_neg (fun z => es z.1)] at hj'
          exact hj'
      obtain ⟨a, g1, g2, g3, g4⟩ := k3 s j hs hlt
      refine ⟨a, by rw [elg, if_neg e]; exact g1, by rw [epr, if_neg (old g2)]; exact g2, g3, fun i hi7 => ?_⟩
      rw [sSend_msg i hi7, if_neg e, emf, if_neg (old g2)]
      exact g4 i hi7
  · have key : ∀ s j, s < 2 → j < sSend σ p k x y 20 s 0 → ¬ (s = p / 4 ∧ j = σ 20 (p / 4) 0) → j < σ 20 s 0 := by
      intro s j hs hj' e
      rw [sSend_20] at hj'
      by_cases es : s = p / 4
      · subst es
        rw [if_pos ⟨rfl, rfl⟩] at hj'
        have : j ≠ σ 20 (p / 4) 0 := fun z => e ⟨rfl, z⟩
        omega
      · rw [if_neg (fun z => es z.1)] at hj'
        exact hj'
    rw [elg] at h1 h2
    by_cases e1 : s = p / 4 ∧ j = σ 20 (p / 4) 0
    · rw [if_pos e1] at h1
      cases h1
      by_cases e2 : s' = p / 4 ∧ j' = σ 20 (p / 4) 0
      · exact ⟨e1.1.trans e2.1.symm, e1.2.trans e2.2.symm⟩
      · rw [if_neg e2] at h2
        obtain ⟨a, g1, g2, -⟩ := k3 s' j' hs' (key s' j' hs' hj2 e2)
        rw [h2] at g1
        cases g1
        exact absurd rfl (old g2)
    · rw [if_neg e1] at h1
      have l1 := key s j hs hj1 e1
      by_cases e2 : s' = p / 4 ∧ j' = σ 20 (p / 4) 0
      · rw [if_pos e2] at h2
        cases h2
        obtain ⟨a, g1, g2, -⟩ := k3 s j hs l1
        rw [h1] at g1
        cases g1
        exact absurd rfl (old g2)
      · rw [if_neg e2] at h2
        exact k4 s j s' j' a hs hs' l1 (key s' j' hs' hj2 e2) h1 h2
  · rw [epr] at ha
    by_cases e : a = nx
    · subst e; exact ⟨by omega, by omega⟩
    · rw [if_neg e] at ha
      have := k5' a ha
      exact ⟨by omega, by omega⟩
  · rw [emf]
    rw [epr] at ha
    by_cases e : a = nx
    · rw [if_pos e]
      exact msgF_lt (by omega) (by omega) (hb _ _ _) (hb _ _ _) (by omega) hy (by
        have : p % 4 = 0 ∨ p % 4 = 1 ∨ p % 4 = 2 ∨ p % 4 = 3 := by omega
        rcases this with h | h | h | h <;> rw [h] <;> decide) i
    · rw [if_neg e] at ha ⊢
      exact k6 a i ha
/-- what KR doesn't speak of may change -/
theorem KR_cgr (kr : KR B σ κ nx) (h : ∀ f, (19 < f ∧ f < 28) ∨ f = 29 ∨ f = 30 → σ' f = σ f) : KR B σ' κ nx := by
  obtain ⟨k1, k2, k3, k4, k5, k6⟩ := kr
  have h20 := h 20 (Or.inl (by decide))
  have h29 := h 29 (Or.inr (Or.inl rfl))
  have h30 := h 30 (Or.inr (Or.inr rfl))
  refine ⟨fun q j a b => by rw [h29]; exact k1 q j a b, fun q j a b c d => by rw [h29, h30]; exact k2 q j a b c d, fun s j a b => ?_, fun s j s' j' a b c d e => ?_, k5, k6⟩
  · rw [h20] at b
    obtain ⟨x, g1, g2, g3, g4⟩ := k3 s j a b
    exact ⟨x, g1, g2, g3, fun i hi => by rw [h (21 + i) (Or.inl (by omega))]; exact g4 i hi⟩
  · rw [h20] at d e
    exact k4 s j s' j' a b c d e
end SND
