/-! The state: one function sg of a field's number, a row and a place, all natural numbers; class and reference are two pictures of it. A number that may be 'none' (-1) stands one higher. -/
abbrev Sg : Type := Nat → Nat → Nat → Nat
def U (σ : Sg) (f a b v : Nat) : Sg := fun f' a' b' => bif Nat.beq f' f then (if a' = a ∧ b' = b then v else σ f' a' b') else σ f' a' b'
theorem U_ne {σ : Sg} {f a b v f' : Nat} (h : f' ≠ f) : U σ f a b v f' = σ f' := by
  funext a' b'
  have : Nat.beq f' f = false := by
    cases e : Nat.beq f' f with
    | false => rfl
    | true => exact absurd (Nat.eq_of_beq_eq_true e) h
  simp [U, this]
theorem U_at {σ : Sg} {f a b v a' b' : Nat} : U σ f a b v f a' b' = if a' = a ∧ b' = b then v else σ f a' b' := by
  have : Nat.beq f f = true := Nat.beq_refl f
  simp [U, this]
theorem U_row {σ : Sg} {f a b v a' : Nat} (h : a' ≠ a) (f' : Nat) : U σ f a b v f' a' = σ f' a' := by
  funext b'
  by_cases hf : f' = f
  · subst hf
    rw [U_at]; simp [h]
  · rw [U_ne hf]
/-- a number one lower: -1 for none -/
def mI (n : Nat) : Int32 := nI n - 1
theorem mI_succ (n : Nat) : mI (n + 1) = nI n := nI_pred n
theorem mI_0 : mI 0 = -1 := by decide +kernel
/-- where things lie: B the ledger -/
def aS (B s : Nat) : Nat := B + 13 + 40 * s
def aP (B p : Nat) : Nat := B + 17 + 40 * (p / 4) + 9 * (p % 4)
abbrev Kp : Type := (Nat → Nat → Option Nat) × (Nat → Nat → Option Nat) × (Nat → Bool) × (Nat → Nat → Nat)
def tcell (D : va_G) (B : Nat) (σ : Sg) : Nat → va_E
  | 0 => .inr (9, [.ref (B + 1), .ref (B + 6), .ref (B + 12)])
  | 1 => .inr (8, [.ref (B + 2), .ref (B + 3), .ref (B + 4), .ref (B + 5), .int (nI (σ 33 0 0))])
  | 2 => jIA (D.1 20) 8 (fun k => nI (σ 1 0 k))
  | 3 => jIA (D.1 20) 8 (fun k => mI (σ 2 0 k))
  | 4 => jIA (D.1 20) 8 (fun k => nI (σ 3 0 k))
  | 5 => jIA (D.1 20) 20 (fun k => nI (σ 4 0 k))
  | 6 => .inr (6, [.ref (B + 7), .ref (B + 8), .ref (B + 9), .ref (B + 10), .ref (B + 11), .int (nI (σ 34 0 0))])
  | 7 => jIA (D.1 20) 32 (fun k => nI (σ 5 0 k))
  | 8 => jIA (D.1 20) 32 (fun k => nI (σ 6 0 k))
  | 9 => jIA (D.1 20) 32 (fun k => nI (σ 7 0 k))
  | 10 => jIA (D.1 20) 32 (fun k => nI (σ 31 0 k))
  | 11 => jIA (D.1 20) 32 (fun k => nI (σ 32 0 k))
  | _ => jRA (D.1 25) 2 (fun k => if k < 2 then some (aS B k + 0) else none)
def scell (D : va_G) (B : Nat) (σ : Sg) (κ : Kp) (s : Nat) : Nat → va_E
  | 0 => .inr (7, [.ref (aS B s + 1), .ref (aS B s + 3)])
  | 1 => .inr (4, [.ref (aS B s + 2), .int (nI (σ 20 s 0))])
  | 2 => jRA (D.1 23) 918 (κ.2.1 s)
  | _ => jRA (D.1 24) 4 (fun k => if k < 4 then some (aP B (4 * s + k) + 3) else none)
def pcell (D : va_G) (B : Nat) (σ : Sg) (κ : Kp) (p : Nat) : Nat → va_E
  | 0 => .inr (1, [.int (nI (p / 4)), .ref (B + 1), .ref (aP B p + 1), .ref (aP B p + 2)])
  | 1 => jIA (D.1 20) 20 (fun k => nI (σ 8 p k))
  | 2 => jIA (D.1 20) 20 (fun k => nI (σ 9 p k))
  | 3 => .inr (5, [.int (nI (p / 4)), .int (nI (p % 4)), .int (nI (σ 0 p 0)), .ref (B + 6), .ref (aS B (p / 4) + 1), .ref (aP B p + 0), .ref (aP B p + 4), .ref (aP B p + 6), .ref (aP B p + 7), .ref (aP B p + 8), .int (nI (σ 17 p 0)), .int (nI (σ 10 p 0)), .int (nI (σ 11 p 0)), .int (nI (σ 12 p 0))])
  | 4 => .inr (2, [.ref (aP B p + 5)])
  | 5 => jRA (D.1 23) 72 (κ.1 p)
  | 6 => .inr (0, [.int (mI (σ 13 p 0)), .int (mI (σ 14 p 0))])
  | 7 => .inr (0, [.int (mI (σ 15 p 0)), .int (mI (σ 16 p 0))])
  | 8 => jIA (D.1 20) 16 (fun k => nI (σ 18 p k))
  | _ => .inr (2, [])
def mcell (κ : Kp) (a : Nat) : Option va_E := if κ.2.2.1 a = true then some (.inr (3, [.int (nI (κ.2.2.2 a 0)), .int (nI (κ.2.2.2 a 1)), .int (nI (κ.2.2.2 a 2)), .int (nI (κ.2.2.2 a 3)), .int (mI (κ.2.2.2 a 4)), .int (mI (κ.2.2.2 a 5)), .int (nI (κ.2.2.2 a 6))])) else none
/-- the class's picture over a background -/
def hC (D : va_G) (B : Nat) (σ : Sg) (κ : Kp) (g : Nat → Option va_E) : Nat → Option va_E := fun a =>
  if a < B then g a else if a < B + 13 then some (tcell D B σ (a - B)) else if a < B + 93 then
    (if (a - B - 13) % 40 < 4 then some (scell D B σ κ ((a - B - 13) / 40) ((a - B - 13) % 40)) else some (pcell D B σ κ (4 * ((a - B - 13) / 40) + ((a - B - 13) % 40 - 4) / 9) (((a - B - 13) % 40 - 4) % 9)))
  else match mcell κ a with
    | some x => some x
    | none => g a
section HC
variable {D : va_G} {B : Nat} {σ σ' : Sg} {κ κ' : Kp} {g : Nat → Option va_E}
theorem hC_t {o : Nat} (h : o < 13) : hC D B σ κ g (B + o) = some (tcell D B σ o) := by
  unfold hC
  rw [if_neg (by omega), if_pos (by omega), Nat.add_sub_cancel_left]
theorem hC_s {s j : Nat} (hs : s < 2) (hj : j < 4) : hC D B σ κ g (aS B s + j) = some (scell D B σ κ s j) := by
  unfold hC aS
  rw [if_neg (by omega), if_neg (by omega), if_pos (by omega), if_pos (by omega)]
  rw [show (B + 13 + 40 * s + j - B - 13) / 40 = s by omega, show (B + 13 + 40 * s + j - B - 13) % 40 = j by omega]
theorem aP_off {B p c : Nat} (hc : c < 9) : aP B p + c - B - 13 = 40 * (p / 4) + (4 + 9 * (p % 4) + c) ∧ (40 * (p / 4) + (4 + 9 * (p % 4) + c)) / 40 = p / 4 ∧ (40 * (p / 4) + (4 + 9 * (p % 4) + c)) % 40 = 4 + 9 * (p % 4) + c ∧ 4 * (p / 4) + (4 + 9 * (p % 4) + c - 4) / 9 = p ∧ (4 + 9 * (p % 4) + c - 4) % 9 = c := by
  have h4 : p % 4 < 4 := Nat.mod_lt _ (by decide)
  have hp : 4 * (p / 4) + p % 4 = p := Nat.div_add_mod p 4
  unfold aP
  generalize p / 4 = x at *
  generalize p % 4 = y at *
  refine ⟨by omega, by omega, by omega, ?_, by omega⟩
  rw [show (4 + 9 * y + c - 4) / 9 = y by omega]
  exact hp
theorem aP_ge {B p : Nat} : B + 17 ≤ aP B p := by unfold aP; omega
theorem aP_lt {B p : Nat} (h : p < 8) : aP B p + 9 ≤ B + 93 := by unfold aP; omega
theorem hC_p {p c : Nat} (hp : p < 8) (hc : c < 9) : hC D B σ κ g (aP B p + c) = some (pcell D B σ κ p c) := by
  unfold hC
  obtain ⟨e1, e2, e3, e4, e5⟩ := aP_off (B := B) (p := p) hc
  have h1 := aP_ge (B := B) (p := p)
  have h2 := aP_lt (B := B) hp
  rw [if_neg (by omega), if_neg (by omega), if_pos (by omega), e1, e3, if_neg (by omega), e2, e4, e5]
theorem hC_m {a : Nat} (ha : B + 93 ≤ a) (hp : κ.2.2.1 a = true) : hC D B σ κ g a = some (.inr (3, [.int (nI (κ.2.2.2 a 0)), .int (nI (κ.2.2.2 a 1)), .int (nI (κ.2.2.2 a 2)), .int (nI (κ.2.2.2 a 3)), .int (mI (κ.2.2.2 a 4)), .int (mI (κ.2.2.2 a 5)), .int (nI (κ.2.2.2 a 6))])) := by
  unfold hC
  rw [if_neg (by omega), if_neg (by omega), if_neg (by omega)]
  simp [mcell, hp]
theorem hC_ext {a0 : Nat} (h1 : ∀ o, o < 13 → B + o ≠ a0 → tcell D B σ' o = tcell D B σ o) (h2 : ∀ s j, s < 2 → j < 4 → aS B s + j ≠ a0 → scell D B σ' κ' s j = scell D B σ κ s j)
    (h3 : ∀ p c, p < 8 → c < 9 → aP B p + c ≠ a0 → pcell D B σ' κ' p c = pcell D B σ κ p c) (h4 : ∀ a, a ≠ a0 → B + 93 ≤ a → mcell κ' a = mcell κ a) : ∀ a, a ≠ a0 → hC D B σ' κ' g a = hC D B σ κ g a := by
  intro a ha
  unfold hC
  by_cases c1 : a < B
  · rw [if_pos c1, if_pos c1]
  rw [if_neg c1, if_neg c1]
  by_cases c2 : a < B + 13
  · rw [if_pos c2, if_pos c2, h1 (a - B) (by omega) (by omega)]
  rw [if_neg c2, if_neg c2]
  by_cases c3 : a < B + 93
  · rw [if_pos c3, if_pos c3]
    by_cases c4 : (a - B - 13) % 40 < 4
    · rw [if_pos c4, if_pos c4, h2 _ _ (by omega) c4 (by unfold aS; omega)]
    · have hx : (a - B - 13) / 40 < 2 := by omega
      have hy : ((a - B - 13) % 40 - 4) / 9 < 4 := by omega
      have hz : a = aP B (4 * ((a - B - 13) / 40) + ((a - B - 13) % 40 - 4) / 9) + ((a - B - 13) % 40 - 4) % 9 := by
        unfold aP
        have e0 : a = B + 13 + (a - B - 13) := by omega
        generalize a - B - 13 = t at *
        have e1 : t = 40 * (t / 40) + t % 40 := (Nat.div_add_mod t 40).symm
        generalize t / 40 = x at *
        generalize t % 40 = y at *
        have e2 : y - 4 = 9 * ((y - 4) / 9) + (y - 4) % 9 := (Nat.div_add_mod (y - 4) 9).symm
        generalize (y - 4) / 9 = z at *
        generalize (y - 4) % 9 = w at *
        rw [show (4 * x + z) / 4 = x by omega, show (4 * x + z) % 4 = z by omega]
        omega
      rw [if_neg c4, if_neg c4, h3 _ _ (by omega) (by omega) (by rw [← hz]; exact ha)]
  rw [if_neg c3, if_neg c3, h4 a ha (by omega)]
theorem va_up_ext {f f' : Nat → Option va_E} {a0 : Nat} {x : va_E} (h : ∀ a, a ≠ a0 → f' a = f a) (h0 : f' a0 = some x) : va_up f a0 (some x) = f' := by
  funext a
  by_cases ha : a = a0
  · subst ha
    simp [va_up, h0]
  · simp [va_up, ha, h a ha]
/-- in which cell a field lies -/
def tidx : Nat → Nat
  | 1 => 2 | 2 => 3 | 3 => 4 | 4 => 5 | 5 => 7 | 6 => 8 | 7 => 9 | 31 => 10 | 32 => 11 | 33 => 1 | 34 => 6 | _ => 0
def pidx : Nat → Nat
  | 8 => 1 | 9 => 2 | 10 => 3 | 11 => 3 | 12 => 3 | 17 => 3 | 13 => 6 | 14 => 6 | 15 => 7 | 16 => 7 | 18 => 8 | _ => 0
def sidx : Nat → Nat
  | 20 => 1 | _ => 0
theorem tcell_congr (o : Nat) (h : ∀ f, tidx f = o → 0 < o → σ' f 0 = σ f 0) : tcell D B σ' o = tcell D B σ o := by
  match o with
  | 0 => rfl
  | 1 => simp only [tcell, h 33 rfl (by decide)]
  | 2 => simp only [tcell, h 1 rfl (by decide)]
  | 3 => simp only [tcell, h 2 rfl (by decide)]
  | 4 => simp only [tcell, h 3 rfl (by decide)]
  | 5 => simp only [tcell, h 4 rfl (by decide)]
  | 6 => simp only [tcell, h 34 rfl (by decide)]
  | 7 => simp only [tcell, h 5 rfl (by decide)]
  | 8 => simp only [tcell, h 6 rfl (by decide)]
  | 9 => simp only [tcell, h 7 rfl (by decide)]
  | 10 => simp only [tcell, h 31 rfl (by decide)]
  | 11 => simp only [tcell, h 32 rfl (by decide)]
  | _ + 12 => rfl
theorem scell_congr (s j : Nat) (h : ∀ f, sidx f = j → 0 < j → σ' f s = σ f s) (hk : κ'.2.1 s = κ.2.1 s) : scell D B σ' κ' s j = scell D B σ κ s j := by
  match j with
  | 0 => rfl
  | 1 => simp only [scell, h 20 rfl (by decide)]
  | 2 => simp only [scell, hk]
  | _ + 3 => rfl
theorem pcell_congr (p c : Nat) (h0 : σ' 0 p = σ 0 p) (h : ∀ f, pidx f = c → 0 < c → σ' f p = σ f p) (hk : κ'.1 p = κ.1 p) : pcell D B σ' κ' p c = pcell D B σ κ p c := by
  match c with
  | 0 => rfl
  | 1 => simp only [pcell, h 8 rfl (by decide)]
  | 2 => simp only [pcell, h 9 rfl (by decide)]
  | 3 => simp only [pcell, h0, h 10 rfl (by decide), h 11 rfl (by decide), h 12 rfl (by decide), h 17 rfl (by decide)]
  | 4 => rfl
  | 5 => simp only [pcell, hk]
  | 6 => simp only [pcell, h 13 rfl (by decide), h 14 rfl (by decide)]
  | 7 => simp only [pcell, h 15 rfl (by decide), h 16 rfl (by decide)]
  | 8 => simp only [pcell, h 18 rfl (by decide)]
  | _ + 9 => rfl
/-- a write into a cell of the books -/
theorem hC_wt {f b v : Nat} (hf : 0 < tidx f) (hp : pidx f = 0) (hs : sidx f = 0) (h0 : f ≠ 0) : va_up (hC D B σ κ g) (B + tidx f) (some (tcell D B (U σ f 0 b v) (tidx f))) = hC D B (U σ f 0 b v) κ g := by
  have hlt : tidx f < 13 := by
    unfold tidx
    split <;> decide
  refine va_up_ext (hC_ext (fun o ho hne => tcell_congr o (fun f' e _ => ?_)) (fun s j _ _ _ => scell_congr s j (fun f' e hj => ?_) rfl) (fun p c _ _ _ => pcell_congr p c ?_ (fun f' e hc => ?_) rfl) (fun _ _ _ => rfl)) (hC_t hlt)
  · rw [U_ne (fun e2 => hne (by rw [← e, e2]))]
  · rw [U_ne (fun e2 => by rw [e2, hs] at e; omega)]
  · rw [U_ne (Ne.symm h0)]
  · rw [U_ne (fun e2 => by rw [e2, hp] at e; omega)]
theorem pidx_lt (f : Nat) : pidx f < 9 := by
  unfold pidx
  split <;> decide
theorem aP_inj {B p q c d : Nat} (hc : c < 9) (hd : d < 9) (h : aP B p + c = aP B q + d) : p = q ∧ c = d := by
  have h1 := aP_off (B := B) (p := p) hc
  have h2 := aP_off (B := B) (p := q) hd
  have e1 := h1.1
  rw [h, h2.1] at e1
  have ex : p / 4 = q / 4 := by rw [← h1.2.1, ← e1, h2.2.1]
  have ey : 4 + 9 * (p % 4) + c = 4 + 9 * (q % 4) + d := by rw [← h1.2.2.1, ← e1, h2.2.2.1]
  have h4 : p % 4 < 4 := Nat.mod_lt _ (by decide)
  have h5 : q % 4 < 4 := Nat.mod_lt _ (by decide)
  exact ⟨by omega, by omega⟩
/-- a write into a replica's cell -/
theorem hC_wp {f p b v : Nat} (h8 : p < 8) (hf : 0 < pidx f) (ht : tidx f = 0) (hs : sidx f = 0) (h0 : f ≠ 0) : va_up (hC D B σ κ g) (aP B p + pidx f) (some (pcell D B (U σ f p b v) κ p (pidx f))) = hC D B (U σ f p b v) κ g := by
  refine va_up_ext (hC_ext (fun o ho hne => tcell_congr o (fun f' e ho => ?_)) (fun s j _ _ _ => scell_congr s j (fun f' e hj => ?_) rfl) (fun q c _ hc hne => pcell_congr q c ?_ (fun f' e hc' => ?_) rfl) (fun _ _ _ => rfl)) (hC_p h8 (pidx_lt f))
  · rw [U_ne (fun e2 => by rw [e2, ht] at e; omega)]
  · rw [U_ne (fun e2 => by rw [e2, hs] at e; omega)]
  · rw [U_ne (Ne.symm h0)]
  · by_cases hq : q = p
    · subst hq
      rw [U_ne (fun e2 => hne (by rw [← e, e2]))]
    · exact U_row hq f'
/-- a write into a log's count -/
theorem hC_ws {s v : Nat} (h2 : s < 2) : va_up (hC D B σ κ g) (aS B s + 1) (some (scell D B (U σ 20 s 0 v) κ s 1)) = hC D B (U σ 20 s 0 v) κ g := by
  refine va_up_ext (hC_ext (fun o ho hne => tcell_congr o (fun f' e ho => ?_)) (fun t j _ hj hne => scell_congr t j (fun f' e hj' => ?_) rfl) (fun q c _ hc hne => pcell_congr q c ?_ (fun f' e hc' => ?_) rfl) (fun _ _ _ => rfl)) (hC_s h2 (by decide))
  · rw [U_ne (fun e2 => by subst e2; simp [tidx] at e; omega)]
  · by_cases ht : t = s
    · subst ht
      rw [U_ne (fun e2 => by subst e2; simp [sidx] at e; omega)]
    · exact U_row ht f'
  · rw [U_ne (by decide)]
  · rw [U_ne (fun e2 => by subst e2; simp [pidx] at e; omega)]
/-- writes into the pointers -/
def Kib (κ : Kp) (p j : Nat) (r : Option Nat) : Kp := (va_up κ.1 p (va_up (κ.1 p) j r), κ.2)
def Klg (κ : Kp) (s k : Nat) (r : Option Nat) : Kp := (κ.1, va_up κ.2.1 s (va_up (κ.2.1 s) k r), κ.2.2)
def Kmf (κ : Kp) (a i v : Nat) : Kp := (κ.1, κ.2.1, κ.2.2.1, va_up κ.2.2.2 a (va_up (κ.2.2.2 a) i v))
def Knew (κ : Kp) (a : Nat) (m : Nat → Nat) : Kp := (κ.1, κ.2.1, va_up κ.2.2.1 a true, va_up κ.2.2.2 a m)
theorem hC_wib {p j : Nat} {r : Option Nat} (h8 : p < 8) : va_up (hC D B σ κ g) (aP B p + 5) (some (jRA (D.1 23) 72 (va_up (κ.1 p) j r))) = hC D B σ (Kib κ p j r) g := by
  refine va_up_ext (hC_ext (fun o ho hne => rfl) (fun t j _ hj hne => rfl) (fun q c _ hc hne => ?_) (fun _ _ _ => rfl)) ?_
  · by_cases hq : q = p
    · subst hq
      match c with
      | 0 => rfl
      | 1 => rfl
      | 2 => rfl
      | 3 => rfl
      | 4 => rfl
      | 5 => exact absurd rfl hne
      | 6 => rfl
      | 7 => rfl
      | 8 => rfl
      | _ + 9 => rfl
    · exact pcell_congr q c rfl (fun _ _ _ => rfl) (by simp [Kib, va_up, hq])
  · rw [hC_p h8 (by decide)]
    simp [pcell, Kib, va_up]
theorem hC_wlg {s k : Nat} {r : Option Nat} (h2 : s < 2) : va_up (hC D B σ κ g) (aS B s + 2) (some (jRA (D.1 23) 918 (va_up (κ.2.1 s) k r))) = hC D B σ (Klg κ s k r) g := by
  refine va_up_ext (hC_ext (fun o ho hne => rfl) (fun t j _ hj hne => ?_) (fun q c _ hc hne => ?_) (fun _ _ _ => rfl)) ?_
  · by_cases ht : t = s
    · subst ht
      match j with
      | 0 => rfl
      | 1 => rfl
      | 2 => exact absurd rfl hne
      | _ + 3 => rfl
    · exact scell_congr t j (fun _ _ _ => rfl) (by simp [Klg, va_up, ht])
  · exact pcell_congr q c rfl (fun _ _ _ => rfl) rfl
  · rw [hC_s h2 (by decide)]
    simp [scell, Klg, va_up]
/-- a message's takers change -/
theorem hC_wmf {a v : Nat} (ha : B + 93 ≤ a) (hp : κ.2.2.1 a = true) : va_up (hC D B σ κ g) a (some (.inr (3, [.int (nI (κ.2.2.2 a 0)), .int (nI (κ.2.2.2 a 1)), .int (nI (κ.2.2.2 a 2)), .int (nI (κ.2.2.2 a 3)), .int (mI (κ.2.2.2 a 4)), .int (mI (κ.2.2.2 a 5)), .int (nI v)]))) = hC D B σ (Kmf κ a 6 v) g := by
  refine va_up_ext (hC_ext (fun o ho hne => rfl) (fun t j _ hj hne => scell_congr t j (fun _ _ _ => rfl) rfl) (fun q c _ hc hne => pcell_congr q c rfl (fun _ _ _ => rfl) rfl) (fun b hb _ => ?_)) ?_
  · simp [mcell, Kmf, va_up, hb]
  · rw [hC_m ha (by simpa [Kmf] using hp)]
    simp [Kmf, va_up]
/-- a new message -/
theorem hC_new {a : Nat} {m : Nat → Nat} (ha : B + 93 ≤ a) : va_up (hC D B σ κ g) a (some (.inr (3, [.int (nI (m 0)), .int (nI (m 1)), .int (nI (m 2)), .int (nI (m 3)), .int (mI (m 4)), .int (mI (m 5)), .int (nI (m 6))]))) = hC D B σ (Knew κ a m) g := by
  refine va_up_ext (hC_ext (fun o ho hne => rfl) (fun t j _ hj hne => scell_congr t j (fun _ _ _ => rfl) rfl) (fun q c _ hc hne => pcell_congr q c rfl (fun _ _ _ => rfl) rfl) (fun b hb _ => ?_)) ?_
  · simp [mcell, Knew, va_up, hb]
  · rw [hC_m ha (by simp [Knew, va_up])]
    simp [Knew, va_up]
end HC
