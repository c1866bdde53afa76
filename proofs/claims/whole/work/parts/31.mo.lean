/-! The reference's picture (g_mo0.py) -/
def nL (n : Nat) : Int64 := Int64.ofNat n
theorem nL_add (a b : Nat) : nL a + nL b = nL (a + b) := (Int64.ofNat_add a b).symm
theorem nL_mul (a b : Nat) : nL a * nL b = nL (a * b) := (Int64.ofNat_mul a b).symm
theorem nL_div {a : Nat} (h : a < 2 ^ 63) : nL a / nL 100 = nL (a / 100) := (Int64.ofNat_div h (by decide)).symm
theorem nL_rem {a : Nat} (h : a < 2 ^ 63) : nL a - nL a / nL 100 * nL 100 = nL (a % 100) := by
  rw [nL_div h, nL_mul]
  have : nL a = nL (a % 100) + nL (a / 100 * 100) := by
    rw [nL_add]
    congr 1
    omega
  rw [this]
  rw [Int64.add_sub_cancel]
theorem nL_i2l {a : Nat} (h : a < 2 ^ 31) : (nI a).toInt64 = nL a := Int32.toInt64_ofNat' (by show (a : Int) ≤ 2147483647; omega)
theorem nL_m2l {a : Nat} (h : a < 2 ^ 31) : (mI a).toInt64 + nL 1 = nL a := by
  cases a with
  | zero => decide +kernel
  | succ a => rw [mI_succ, nL_i2l (by omega), nL_add]
theorem nL_l2i (a : Nat) : (nL a).toInt32 = nI a := Int64.toInt32_ofNat'
/-- a message in one number -/
def codeN (σ : Sg) (s k : Nat) : Nat := ((((σ 21 s k * 100 + σ 22 s k) * 100 + σ 23 s k) * 100 + σ 24 s k) * 100 + σ 25 s k) * 100 + σ 26 s k
def ocell (D : va_G) (M : Nat) (L : Int32) (σ ρ : Sg) : Nat → va_E
  | 0 => .inr (10, [.int L, .int (nI (σ 33 0 0)), .ref (M + 1), .ref (M + 2), .ref (M + 3), .ref (M + 4), .int (nI (σ 34 0 0)), .ref (M + 5), .ref (M + 6), .ref (M + 7), .ref (M + 8), .ref (M + 9), .ref (M + 10), .ref (M + 11), .ref (M + 12), .ref (M + 13), .ref (M + 14), .ref (M + 15), .ref (M + 16), .ref (M + 17), .ref (M + 18), .ref (M + 19), .ref (M + 20), .ref (M + 21), .ref (M + 22), .ref (M + 23), .ref (M + 24), .ref (M + 25), .ref (M + 26), .ref (M + 27)])
  | 1 => jIA (D.1 20) 8 (fun k => nI (σ 1 0 k))
  | 2 => jIA (D.1 20) 8 (fun k => mI (σ 2 0 k))
  | 3 => jIA (D.1 20) 8 (fun k => nI (σ 3 0 k))
  | 4 => jIA (D.1 20) 20 (fun k => nI (σ 4 0 k))
  | 5 => jIA (D.1 20) 32 (fun k => nI (σ 5 0 k))
  | 6 => jIA (D.1 20) 32 (fun k => nI (σ 6 0 k))
  | 7 => jIA (D.1 20) 32 (fun k => nI (σ 7 0 k))
  | 8 => jIA (D.1 20) 160 (fun k => nI (σ 8 (k / 20) (k % 20)))
  | 9 => jIA (D.1 20) 160 (fun k => nI (σ 9 (k / 20) (k % 20)))
  | 10 => jIA (D.1 20) 8 (fun k => nI (σ 10 k 0))
  | 11 => jIA (D.1 20) 8 (fun k => nI (σ 11 k 0))
  | 12 => jIA (D.1 20) 8 (fun k => nI (σ 12 k 0))
  | 13 => jIA (D.1 20) 8 (fun k => mI (σ 13 k 0))
  | 14 => jIA (D.1 20) 8 (fun k => mI (σ 14 k 0))
  | 15 => jIA (D.1 20) 8 (fun k => mI (σ 15 k 0))
  | 16 => jIA (D.1 20) 8 (fun k => mI (σ 16 k 0))
  | 17 => jIA (D.1 21) 8 (fun k => nI (σ 17 k 0))
  | 18 => jIA (D.1 20) 128 (fun k => nI (σ 18 (k / 16) (k % 16)))
  | 19 => jIA (D.1 20) 256 (fun k => nI (σ 19 (k / 32) (k % 32)))
  | 20 => jIA (D.1 20) 2 (fun k => nI (σ 20 k 0))
  | 21 => jLA (D.1 22) 2000 (fun k => nL (codeN σ (k / 1000) (k % 1000)))
  | 22 => jIA (D.1 20) 2000 (fun k => nI (σ 27 (k / 1000) (k % 1000)))
  | 23 => jIA (D.1 20) 1836 (fun k => nI (σ 28 (k / 306) (k % 306)))
  | 24 => jIA (D.1 20) 594 (fun k => nI (ρ 0 0 k))
  | 25 => jIA (D.1 20) 6 (fun k => mI (ρ 1 0 k))
  | 26 => jIA (D.1 20) 6 (fun k => mI (ρ 2 0 k))
  | _ => jIA (D.1 21) 6 (fun k => nI (ρ 3 0 k))
def oidx : Nat → Nat
  | 1 => 1 | 2 => 2 | 3 => 3 | 4 => 4 | 5 => 5 | 6 => 6 | 7 => 7 | 8 => 8 | 9 => 9 | 10 => 10 | 11 => 11 | 12 => 12 | 13 => 13 | 14 => 14 | 15 => 15 | 16 => 16 | 17 => 17 | 18 => 18 | 19 => 19 | 20 => 20 | 21 => 21 | 22 => 21 | 23 => 21 | 24 => 21 | 25 => 21 | 26 => 21 | 27 => 22 | 28 => 23 | 33 => 0 | 34 => 0 | _ => 28
/-- the reference's picture over a background: M the object, L the liars -/
def hM (D : va_G) (M : Nat) (L : Int32) (σ ρ : Sg) (g : Nat → Option va_E) : Nat → Option va_E := fun a => if M ≤ a ∧ a < M + 28 then some (ocell D M L σ ρ (a - M)) else g a
section HM
variable {D : va_G} {M : Nat} {L : Int32} {σ σ' ρ ρ' : Sg} {g : Nat → Option va_E}
theorem hM_o {o : Nat} (h : o < 28) : hM D M L σ ρ g (M + o) = some (ocell D M L σ ρ o) := by
  unfold hM
  rw [if_pos ⟨by omega, by omega⟩, Nat.add_sub_cancel_left]
theorem ocell_congr (o : Nat) (ho : o < 28) (h : ∀ f, oidx f = o → σ' f = σ f) (hr : ∀ i, 24 + i = o → ρ' i = ρ i) : ocell D M L σ' ρ' o = ocell D M L σ ρ o := by
  match o with
  | 0 => simp only [ocell, h 33 rfl, h 34 rfl]
  | 1 => simp only [ocell, h 1 rfl]
  | 2 => simp only [ocell, h 2 rfl]
  | 3 => simp only [ocell, h 3 rfl]
  | 4 => simp only [ocell, h 4 rfl]
  | 5 => simp only [ocell, h 5 rfl]
  | 6 => simp only [ocell, h 6 rfl]
  | 7 => simp only [ocell, h 7 rfl]
  | 8 => simp only [ocell, h 8 rfl]
  | 9 => simp only [ocell, h 9 rfl]
  | 10 => simp only [ocell, h 10 rfl]
  | 11 => simp only [ocell, h 11 rfl]
  | 12 => simp only [ocell, h 12 rfl]
  | 13 => simp only [ocell, h 13 rfl]
  | 14 => simp only [ocell, h 14 rfl]
  | 15 => simp only [ocell, h 15 rfl]
  | 16 => simp only [ocell, h 16 rfl]
  | 17 => simp only [ocell, h 17 rfl]
  | 18 => simp only [ocell, h 18 rfl]
  | 19 => simp only [ocell, h 19 rfl]
  | 20 => simp only [ocell, h 20 rfl]
  | 21 => simp only [ocell, codeN, h 21 rfl, h 22 rfl, h 23 rfl, h 24 rfl, h 25 rfl, h 26 rfl]
  | 22 => simp only [ocell, h 27 rfl]
  | 23 => simp only [ocell, h 28 rfl]
  | 24 => simp only [ocell, hr 0 rfl]
  | 25 => simp only [ocell, hr 1 rfl]
  | 26 => simp only [ocell, hr 2 rfl]
  | 27 => simp only [ocell, hr 3 rfl]
  | _ + 28 => exact absurd ho (by omega)
/-- what the reference doesn't see -/
theorem hM_cgr (h : ∀ f, oidx f < 28 → σ' f = σ f) : hM D M L σ' ρ g = hM D M L σ ρ g := by
  funext a
  unfold hM
  by_cases c : M ≤ a ∧ a < M + 28
  · rw [if_pos c, if_pos c, ocell_congr _ (by omega) (fun f e => h f (by omega)) (fun _ _ => rfl)]
  · rw [if_neg c, if_neg c]
theorem hM_up {o : Nat} (ho : o < 28) (h : ∀ o', o' < 28 → o' ≠ o → ocell D M L σ' ρ' o' = ocell D M L σ ρ o') : va_up (hM D M L σ ρ g) (M + o) (some (ocell D M L σ' ρ' o)) = hM D M L σ' ρ' g := by
  refine va_up_ext (fun a ha => ?_) (hM_o ho)
  unfold hM
  by_cases c : M ≤ a ∧ a < M + 28
  · rw [if_pos c, if_pos c, h (a - M) (by omega) (by omega)]
  · rw [if_neg c, if_neg c]
theorem hM_w {f a b v : Nat} (hf : oidx f < 28) : va_up (hM D M L σ ρ g) (M + oidx f) (some (ocell D M L (U σ f a b v) ρ (oidx f))) = hM D M L (U σ f a b v) ρ g :=
  hM_up hf (fun o' h1 h2 => ocell_congr o' h1 (fun f' e => U_ne (fun e2 => h2 (by rw [← e, e2]))) (fun _ _ => rfl))
theorem hM_r {i b v : Nat} (hi : i < 4) : va_up (hM D M L σ ρ g) (M + (24 + i)) (some (ocell D M L σ (U ρ i 0 b v) (24 + i))) = hM D M L σ (U ρ i 0 b v) g :=
  hM_up (by omega) (fun o' h1 h2 => ocell_congr o' h1 (fun _ _ => rfl) (fun i' e => U_ne (fun e2 => h2 (by rw [← e, e2]))))
theorem upd_P {σ : Sg} {F : Nat → Int32} {f p v : Nat} : upd (fun k => F (σ f k 0)) p (F v) = fun k => F (U σ f p 0 v f k 0) := by
  funext k
  rw [U_at]
  by_cases h : k = p
  · simp [upd, h]
  · simp [upd, h]
theorem upd_F {σ : Sg} {F : Nat → Int32} {f w p b v : Nat} (hb : b < w) : upd (fun k => F (σ f (k / w) (k % w))) (w * p + b) (F v) = fun k => F (U σ f p b v f (k / w) (k % w)) := by
  funext k
  rw [U_at]
  have hw : 0 < w := by omega
  by_cases h : k = w * p + b
  · have h1 : k / w = p := by rw [h, Nat.mul_add_div hw, Nat.div_eq_of_lt hb, Nat.add_zero]
    have h2 : k % w = b := by rw [h, Nat.mul_add_mod, Nat.mod_eq_of_lt hb]
    simp only [upd, h, if_true]
    rw [← h, h1, h2]
    simp
  · have : ¬ (k / w = p ∧ k % w = b) := by
      rintro ⟨h1, h2⟩
      apply h
      rw [← h1, ← h2]
      exact (Nat.div_add_mod k w).symm
    simp only [upd, h, if_false, this]
theorem o1 {j v : Nat} : va_up (hM D M L σ ρ g) (M + 1) (some (jIA (D.1 20) 8 (upd (fun k => nI (σ 1 0 k)) j (nI v)))) = hM D M L (U σ 1 0 j v) ρ g := by
  rw [upd_U]
  exact hM_w (f := 1) (by decide)
theorem o2 {j v : Nat} : va_up (hM D M L σ ρ g) (M + 2) (some (jIA (D.1 20) 8 (upd (fun k => mI (σ 2 0 k)) j (mI v)))) = hM D M L (U σ 2 0 j v) ρ g := by
  rw [upd_U]
  exact hM_w (f := 2) (by decide)
theorem o3 {j v : Nat} : va_up (hM D M L σ ρ g) (M + 3) (some (jIA (D.1 20) 8 (upd (fun k => nI (σ 3 0 k)) j (nI v)))) = hM D M L (U σ 3 0 j v) ρ g := by
  rw [upd_U]
  exact hM_w (f := 3) (by decide)
theorem o4 {j v : Nat} : va_up (hM D M L σ ρ g) (M + 4) (some (jIA (D.1 20) 20 (upd (fun k => nI (σ 4 0 k)) j (nI v)))) = hM D M L (U σ 4 0 j v) ρ g := by
  rw [upd_U]
  exact hM_w (f := 4) (by decide)
theorem o5 {j v : Nat} : va_up (hM D M L σ ρ g) (M + 5) (some (jIA (D.1 20) 32 (upd (fun k => nI (σ 5 0 k)) j (nI v)))) = hM D M L (U σ 5 0 j v) ρ g := by
  rw [upd_U]
  exact hM_w (f := 5) (by decide)
theorem o6 {j v : Nat} : va_up (hM D M L σ ρ g) (M + 6) (some (jIA (D.1 20) 32 (upd (fun k => nI (σ 6 0 k)) j (nI v)))) = hM D M L (U σ 6 0 j v) ρ g := by
  rw [upd_U]
  exact hM_w (f := 6) (by decide)
theorem o7 {j v : Nat} : va_up (hM D M L σ ρ g) (M + 7) (some (jIA (D.1 20) 32 (upd (fun k => nI (σ 7 0 k)) j (nI v)))) = hM D M L (U σ 7 0 j v) ρ g := by
  rw [upd_U]
  exact hM_w (f := 7) (by decide)
theorem o8 {p j v : Nat} (hj : j < 20) : va_up (hM D M L σ ρ g) (M + 8) (some (jIA (D.1 20) 160 (upd (fun k => nI (σ 8 (k / 20) (k % 20))) (20 * p + j) (nI v)))) = hM D M L (U σ 8 p j v) ρ g := by
  rw [upd_F hj]
  exact hM_w (f := 8) (by decide)
theorem o9 {p j v : Nat} (hj : j < 20) : va_up (hM D M L σ ρ g) (M + 9) (some (jIA (D.1 20) 160 (upd (fun k => nI (σ 9 (k / 20) (k % 20))) (20 * p + j) (nI v)))) = hM D M L (U σ 9 p j v) ρ g := by
  rw [upd_F hj]
  exact hM_w (f := 9) (by decide)
theorem o10 {p v : Nat} : va_up (hM D M L σ ρ g) (M + 10) (some (jIA (D.1 20) 8 (upd (fun k => nI (σ 10 k 0)) p (nI v)))) = hM D M L (U σ 10 p 0 v) ρ g := by
  rw [upd_P]
  exact hM_w (f := 10) (by decide)
theorem o11 {p v : Nat} : va_up (hM D M L σ ρ g) (M + 11) (some (jIA (D.1 20) 8 (upd (fun k => nI (σ 11 k 0)) p (nI v)))) = hM D M L (U σ 11 p 0 v) ρ g := by
  rw [upd_P]
  exact hM_w (f := 11) (by decide)
theorem o12 {p v : Nat} : va_up (hM D M L σ ρ g) (M + 12) (some (jIA (D.1 20) 8 (upd (fun k => nI (σ 12 k 0)) p (nI v)))) = hM D M L (U σ 12 p 0 v) ρ g := by
  rw [upd_P]
  exact hM_w (f := 12) (by decide)
theorem o13 {p v : Nat} : va_up (hM D M L σ ρ g) (M + 13) (some (jIA (D.1 20) 8 (upd (fun k => mI (σ 13 k 0)) p (mI v)))) = hM D M L (U σ 13 p 0 v) ρ g := by
  rw [upd_P]
  exact hM_w (f := 13) (by decide)
theorem o14 {p v : Nat} : va_up (hM D M L σ ρ g) (M + 14) (some (jIA (D.1 20) 8 (upd (fun k => mI (σ 14 k 0)) p (mI v)))) = hM D M L (U σ 14 p 0 v) ρ g := by
  rw [upd_P]
  exact hM_w (f := 14) (by decide)
theorem o15 {p v : Nat} : va_up (hM D M L σ ρ g) (M + 15) (some (jIA (D.1 20) 8 (upd (fun k => mI (σ 15 k 0)) p (mI v)))) = hM D M L (U σ 15 p 0 v) ρ g := by
  rw [upd_P]
  exact hM_w (f := 15) (by decide)
theorem o16 {p v : Nat} : va_up (hM D M L σ ρ g) (M + 16) (some (jIA (D.1 20) 8 (upd (fun k => mI (σ 16 k 0)) p (mI v)))) = hM D M L (U σ 16 p 0 v) ρ g := by
  rw [upd_P]
  exact hM_w (f := 16) (by decide)
theorem o17 {p v : Nat} : va_up (hM D M L σ ρ g) (M + 17) (some (jIA (D.1 21) 8 (upd (fun k => nI (σ 17 k 0)) p (nI v)))) = hM D M L (U σ 17 p 0 v) ρ g := by
  rw [upd_P]
  exact hM_w (f := 17) (by decide)
theorem o18 {p j v : Nat} (hj : j < 16) : va_up (hM D M L σ ρ g) (M + 18) (some (jIA (D.1 20) 128 (upd (fun k => nI (σ 18 (k / 16) (k % 16))) (16 * p + j) (nI v)))) = hM D M L (U σ 18 p j v) ρ g := by
  rw [upd_F hj]
  exact hM_w (f := 18) (by decide)
theorem o19 {p j v : Nat} (hj : j < 32) : va_up (hM D M L σ ρ g) (M + 19) (some (jIA (D.1 20) 256 (upd (fun k => nI (σ 19 (k / 32) (k % 32))) (32 * p + j) (nI v)))) = hM D M L (U σ 19 p j v) ρ g := by
  rw [upd_F hj]
  exact hM_w (f := 19) (by decide)
theorem o20 {p v : Nat} : va_up (hM D M L σ ρ g) (M + 20) (some (jIA (D.1 20) 2 (upd (fun k => nI (σ 20 k 0)) p (nI v)))) = hM D M L (U σ 20 p 0 v) ρ g := by
  rw [upd_P]
  exact hM_w (f := 20) (by decide)
theorem o27 {p j v : Nat} (hj : j < 1000) : va_up (hM D M L σ ρ g) (M + 22) (some (jIA (D.1 20) 2000 (upd (fun k => nI (σ 27 (k / 1000) (k % 1000))) (1000 * p + j) (nI v)))) = hM D M L (U σ 27 p j v) ρ g := by
  rw [upd_F hj]
  exact hM_w (f := 27) (by decide)
theorem o28 {p j v : Nat} (hj : j < 306) : va_up (hM D M L σ ρ g) (M + 23) (some (jIA (D.1 20) 1836 (upd (fun k => nI (σ 28 (k / 306) (k % 306))) (306 * p + j) (nI v)))) = hM D M L (U σ 28 p j v) ρ g := by
  rw [upd_F hj]
  exact hM_w (f := 28) (by decide)
theorem r0w {j v : Nat} : va_up (hM D M L σ ρ g) (M + 24) (some (jIA (D.1 20) 594 (upd (fun k => nI (ρ 0 0 k)) j (nI v)))) = hM D M L σ (U ρ 0 0 j v) g := by
  rw [upd_U]
  exact hM_r (i := 0) (by decide)
theorem r1w {j v : Nat} : va_up (hM D M L σ ρ g) (M + 25) (some (jIA (D.1 20) 6 (upd (fun k => mI (ρ 1 0 k)) j (mI v)))) = hM D M L σ (U ρ 1 0 j v) g := by
  rw [upd_U]
  exact hM_r (i := 1) (by decide)
theorem r2w {j v : Nat} : va_up (hM D M L σ ρ g) (M + 26) (some (jIA (D.1 20) 6 (upd (fun k => mI (ρ 2 0 k)) j (mI v)))) = hM D M L σ (U ρ 2 0 j v) g := by
  rw [upd_U]
  exact hM_r (i := 2) (by decide)
theorem r3w {j v : Nat} : va_up (hM D M L σ ρ g) (M + 27) (some (jIA (D.1 21) 6 (upd (fun k => nI (ρ 3 0 k)) j (nI v)))) = hM D M L σ (U ρ 3 0 j v) g := by
  rw [upd_U]
  exact hM_r (i := 3) (by decide)
theorem o33 {v : Nat} : va_up (hM D M L σ ρ g) (M + 0) (some (.inr (10, [.int L, .int (nI v), .ref (M + 1), .ref (M + 2), .ref (M + 3), .ref (M + 4), .int (nI (σ 34 0 0)), .ref (M + 5), .ref (M + 6), .ref (M + 7), .ref (M + 8), .ref (M + 9), .ref (M + 10), .ref (M + 11), .ref (M + 12), .ref (M + 13), .ref (M + 14), .ref (M + 15), .ref (M + 16), .ref (M + 17), .ref (M + 18), .ref (M + 19), .ref (M + 20), .ref (M + 21), .ref (M + 22), .ref (M + 23), .ref (M + 24), .ref (M + 25), .ref (M + 26), .ref (M + 27)]))) = hM D M L (U σ 33 0 0 v) ρ g := by
  rw [← hM_w (f := 33) (by decide)]
  rfl
theorem o34 {v : Nat} : va_up (hM D M L σ ρ g) (M + 0) (some (.inr (10, [.int L, .int (nI (σ 33 0 0)), .ref (M + 1), .ref (M + 2), .ref (M + 3), .ref (M + 4), .int (nI v), .ref (M + 5), .ref (M + 6), .ref (M + 7), .ref (M + 8), .ref (M + 9), .ref (M + 10), .ref (M + 11), .ref (M + 12), .ref (M + 13), .ref (M + 14), .ref (M + 15), .ref (M + 16), .ref (M + 17), .ref (M + 18), .ref (M + 19), .ref (M + 20), .ref (M + 21), .ref (M + 22), .ref (M + 23), .ref (M + 24), .ref (M + 25), .ref (M + 26), .ref (M + 27)]))) = hM D M L (U σ 34 0 0 v) ρ g := by
  rw [← hM_w (f := 34) (by decide)]
  rfl
/-- both pictures side by side -/
theorem hC_hM {B : Nat} {τ : Sg} {κ : Kp} (hk : ∀ a, B + 93 ≤ a → a < B + 121 → κ.2.2.1 a = false) : hC D B τ κ (hM D (B + 93) L σ ρ g) = hM D (B + 93) L σ ρ (hC D B τ κ g) := by
  funext a
  unfold hC hM
  by_cases c : B + 93 ≤ a ∧ a < B + 93 + 28
  · rw [if_pos c, if_neg (by omega), if_neg (by omega), if_neg (by omega)]
    have := hk a (by omega) (by omega)
    simp only [mcell, this, if_neg (show ¬ false = true by decide), if_pos c]
  · simp only [if_neg c]
end HM
section OROWS
variable {G : jG} {Z : State → (Nat → Prop) → Prop} {u : jMt} {d n sn pc : Nat} {Q : Option Value → jH → Prop} {lc : List (Option Value)} {st : List Value} {h : jH}
theorem o_fld {a t N w p j f : Nat} {cA : ClassId} {σ : Sg} {x : Int32} (hd : jd u pc .iaload 1) (ht : G.2.2.2.1[t]? = some (cA, .int)) (hr : h.1 a = some (jIA cA N (fun k => nI (σ f (k / w) (k % w))))) (hx : x = nI (w * p + j)) (hn : j < w) (hj : w * p + j < N) (hN : N < 2 ^ 31) (kk : J G Z u d Q n sn (pc + 1) lc (.int (nI (σ f p j)) :: st) h) : J G Z u d Q n sn pc lc (.int x :: .ref a :: st) h := by
  refine j_iald hd ht hr hx hj hN ?_
  have hw : 0 < w := by omega
  show J G Z u d Q n sn (pc + 1) lc (.int (nI (σ f ((w * p + j) / w) ((w * p + j) % w))) :: st) h
  rw [Nat.mul_add_div hw, Nat.div_eq_of_lt hn, Nat.add_zero, Nat.mul_add_mod, Nat.mod_eq_of_lt hn]
  exact kk
theorem o_lld {a t s j : Nat} {cA : ClassId} {σ : Sg} {x : Int32} (hd : jd u pc .laload 1) (ht : G.2.2.2.1[t]? = some (cA, .long)) (hr : h.1 a = some (jLA cA 2000 (fun k => nL (codeN σ (k / 1000) (k % 1000))))) (hx : x = nI (1000 * s + j)) (hn : j < 1000) (hj : 1000 * s + j < 2000) (kk : J G Z u d Q n sn (pc + 1) lc (.long (nL (codeN σ s j)) :: st) h) : J G Z u d Q n sn pc lc (.int x :: .ref a :: st) h := by
  refine j_lald hd ht hr hx hj (by decide) ?_
  show J G Z u d Q n sn (pc + 1) lc (.long (nL (codeN σ ((1000 * s + j) / 1000) ((1000 * s + j) % 1000))) :: st) h
  rw [show (1000 * s + j) / 1000 = s by omega, show (1000 * s + j) % 1000 = j by omega]
  exact kk
theorem ol_mul {a b : Nat} (hd : jd u pc .lmul 1) (kk : J G Z u d Q n sn (pc + 1) lc (.long (nL (a * b)) :: st) h) : J G Z u d Q n sn pc lc (.long (nL b) :: .long (nL a) :: st) h := j_lmul hd (by rw [nL_mul]; exact kk)
theorem ol_add {a b : Nat} (hd : jd u pc .ladd 1) (kk : J G Z u d Q n sn (pc + 1) lc (.long (nL (a + b)) :: st) h) : J G Z u d Q n sn pc lc (.long (nL b) :: .long (nL a) :: st) h := j_ladd hd (by rw [nL_add]; exact kk)
theorem ol_div {a : Nat} (hd : jd u pc .ldiv 1) (ha : a < 2 ^ 63) (kk : J G Z u d Q n sn (pc + 1) lc (.long (nL (a / 100)) :: st) h) : J G Z u d Q n sn pc lc (.long (nL 100) :: .long (nL a) :: st) h := j_ldiv hd (by decide +kernel) (by rw [nL_div ha]; exact kk)
theorem ol_rem {a : Nat} (hd : jd u pc .lrem 1) (ha : a < 2 ^ 63) (kk : J G Z u d Q n sn (pc + 1) lc (.long (nL (a % 100)) :: st) h) : J G Z u d Q n sn pc lc (.long (nL 100) :: .long (nL a) :: st) h := j_lrem hd (by decide +kernel) (by rw [nL_rem ha]; exact kk)
theorem ol_i2l {a : Nat} (hd : jd u pc .i2l 1) (ha : a < 2 ^ 31) (kk : J G Z u d Q n sn (pc + 1) lc (.long (nL a) :: st) h) : J G Z u d Q n sn pc lc (.int (nI a) :: st) h := j_i2l hd (nL_i2l ha) kk
theorem ol_m2l {a : Nat} (hd : jd u pc .i2l 1) (kk : J G Z u d Q n sn (pc + 1) lc (.long ((mI a).toInt64) :: st) h) : J G Z u d Q n sn pc lc (.int (mI a) :: st) h := j_i2l hd rfl kk
theorem ol_mad {a b : Nat} (hd : jd u pc .ladd 1) (kk : J G Z u d Q n sn (pc + 1) lc (.long (nL a + (mI b).toInt64) :: st) h) : J G Z u d Q n sn pc lc (.long ((mI b).toInt64) :: .long (nL a) :: st) h := j_ladd hd kk
theorem ol_mad1 {a b : Nat} (hd : jd u pc .ladd 1) (hb : b < 2 ^ 31) (kk : J G Z u d Q n sn (pc + 1) lc (.long (nL (a + b)) :: st) h) : J G Z u d Q n sn pc lc (.long (nL 1) :: .long (nL a + (mI b).toInt64) :: st) h := j_ladd hd (by rw [Int64.add_assoc, nL_m2l hb, nL_add]; exact kk)
theorem ol_l2i {a : Nat} (hd : jd u pc .l2i 1) (kk : J G Z u d Q n sn (pc + 1) lc (.int (nI a) :: st) h) : J G Z u d Q n sn pc lc (.long (nL a) :: st) h := j_l2i hd (nL_l2i a) kk
end OROWS
