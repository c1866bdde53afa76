/-! each write, as its row meets it: laid by program -/
section HW
variable {D : va_G} {B : Nat} {σ : Sg} {κ : Kp} {g : Nat → Option va_E}
theorem upd_U {σ : Sg} {F : Nat → Int32} {f a j v : Nat} : upd (fun k => F (σ f a k)) j (F v) = fun k => F (U σ f a j v f a k) := by
  funext k
  rw [U_at]
  by_cases h : k = j
  · simp [upd, h]
  · simp [upd, h]
theorem w1 {j v : Nat} : va_up (hC D B σ κ g) (B + 2) (some (jIA (D.1 20) 8 (upd (fun k => nI (σ 1 0 k)) j (nI v)))) = hC D B (U σ 1 0 j v) κ g := by
  rw [upd_U]
  exact hC_wt (f := 1) (by decide) rfl rfl (by decide)
theorem w2 {j v : Nat} : va_up (hC D B σ κ g) (B + 3) (some (jIA (D.1 20) 8 (upd (fun k => mI (σ 2 0 k)) j (mI v)))) = hC D B (U σ 2 0 j v) κ g := by
  rw [upd_U]
  exact hC_wt (f := 2) (by decide) rfl rfl (by decide)
theorem w3 {j v : Nat} : va_up (hC D B σ κ g) (B + 4) (some (jIA (D.1 20) 8 (upd (fun k => nI (σ 3 0 k)) j (nI v)))) = hC D B (U σ 3 0 j v) κ g := by
  rw [upd_U]
  exact hC_wt (f := 3) (by decide) rfl rfl (by decide)
theorem w4 {j v : Nat} : va_up (hC D B σ κ g) (B + 5) (some (jIA (D.1 20) 20 (upd (fun k => nI (σ 4 0 k)) j (nI v)))) = hC D B (U σ 4 0 j v) κ g := by
  rw [upd_U]
  exact hC_wt (f := 4) (by decide) rfl rfl (by decide)
theorem w5 {j v : Nat} : va_up (hC D B σ κ g) (B + 7) (some (jIA (D.1 20) 32 (upd (fun k => nI (σ 5 0 k)) j (nI v)))) = hC D B (U σ 5 0 j v) κ g := by
  rw [upd_U]
  exact hC_wt (f := 5) (by decide) rfl rfl (by decide)
theorem w6 {j v : Nat} : va_up (hC D B σ κ g) (B + 8) (some (jIA (D.1 20) 32 (upd (fun k => nI (σ 6 0 k)) j (nI v)))) = hC D B (U σ 6 0 j v) κ g := by
  rw [upd_U]
  exact hC_wt (f := 6) (by decide) rfl rfl (by decide)
theorem w7 {j v : Nat} : va_up (hC D B σ κ g) (B + 9) (some (jIA (D.1 20) 32 (upd (fun k => nI (σ 7 0 k)) j (nI v)))) = hC D B (U σ 7 0 j v) κ g := by
  rw [upd_U]
  exact hC_wt (f := 7) (by decide) rfl rfl (by decide)
theorem w31 {j v : Nat} : va_up (hC D B σ κ g) (B + 10) (some (jIA (D.1 20) 32 (upd (fun k => nI (σ 31 0 k)) j (nI v)))) = hC D B (U σ 31 0 j v) κ g := by
  rw [upd_U]
  exact hC_wt (f := 31) (by decide) rfl rfl (by decide)
theorem w32 {j v : Nat} : va_up (hC D B σ κ g) (B + 11) (some (jIA (D.1 20) 32 (upd (fun k => nI (σ 32 0 k)) j (nI v)))) = hC D B (U σ 32 0 j v) κ g := by
  rw [upd_U]
  exact hC_wt (f := 32) (by decide) rfl rfl (by decide)
theorem w33 {v : Nat} : va_up (hC D B σ κ g) (B + 1) (some (.inr (8, [.ref (B + 2), .ref (B + 3), .ref (B + 4), .ref (B + 5), .int (nI v)]))) = hC D B (U σ 33 0 0 v) κ g := by
  rw [← hC_wt (f := 33) (b := 0) (v := v) (by decide) rfl rfl (by decide)]
  rfl
theorem w34 {v : Nat} : va_up (hC D B σ κ g) (B + 6) (some (.inr (6, [.ref (B + 7), .ref (B + 8), .ref (B + 9), .ref (B + 10), .ref (B + 11), .int (nI v)]))) = hC D B (U σ 34 0 0 v) κ g := by
  rw [← hC_wt (f := 34) (b := 0) (v := v) (by decide) rfl rfl (by decide)]
  rfl
theorem w8 {p j v : Nat} (hp : p < 8) : va_up (hC D B σ κ g) (aP B p + 1) (some (jIA (D.1 20) 20 (upd (fun k => nI (σ 8 p k)) j (nI v)))) = hC D B (U σ 8 p j v) κ g := by
  rw [upd_U]
  exact hC_wp (f := 8) hp (by decide) rfl rfl (by decide)
theorem w9 {p j v : Nat} (hp : p < 8) : va_up (hC D B σ κ g) (aP B p + 2) (some (jIA (D.1 20) 20 (upd (fun k => nI (σ 9 p k)) j (nI v)))) = hC D B (U σ 9 p j v) κ g := by
  rw [upd_U]
  exact hC_wp (f := 9) hp (by decide) rfl rfl (by decide)
theorem w18 {p j v : Nat} (hp : p < 8) : va_up (hC D B σ κ g) (aP B p + 8) (some (jIA (D.1 20) 16 (upd (fun k => nI (σ 18 p k)) j (nI v)))) = hC D B (U σ 18 p j v) κ g := by
  rw [upd_U]
  exact hC_wp (f := 18) hp (by decide) rfl rfl (by decide)
theorem w17 {p v : Nat} (hp : p < 8) : va_up (hC D B σ κ g) (aP B p + 3) (some (.inr (5, [.int (nI (p / 4)), .int (nI (p % 4)), .int (nI (σ 0 p 0)), .ref (B + 6), .ref (aS B (p / 4) + 1), .ref (aP B p + 0), .ref (aP B p + 4), .ref (aP B p + 6), .ref (aP B p + 7), .ref (aP B p + 8), .int (nI v), .int (nI (σ 10 p 0)), .int (nI (σ 11 p 0)), .int (nI (σ 12 p 0))]))) = hC D B (U σ 17 p 0 v) κ g := by
  rw [← hC_wp (f := 17) (b := 0) (v := v) hp (by decide) rfl rfl (by decide)]
  simp [pidx, pcell, U] <;> rfl
theorem w10 {p v : Nat} (hp : p < 8) : va_up (hC D B σ κ g) (aP B p + 3) (some (.inr (5, [.int (nI (p / 4)), .int (nI (p % 4)), .int (nI (σ 0 p 0)), .ref (B + 6), .ref (aS B (p / 4) + 1), .ref (aP B p + 0), .ref (aP B p + 4), .ref (aP B p + 6), .ref (aP B p + 7), .ref (aP B p + 8), .int (nI (σ 17 p 0)), .int (nI v), .int (nI (σ 11 p 0)), .int (nI (σ 12 p 0))]))) = hC D B (U σ 10 p 0 v) κ g := by
  rw [← hC_wp (f := 10) (b := 0) (v := v) hp (by decide) rfl rfl (by decide)]
  simp [pidx, pcell, U] <;> rfl
theorem w11 {p v : Nat} (hp : p < 8) : va_up (hC D B σ κ g) (aP B p + 3) (some (.inr (5, [.int (nI (p / 4)), .int (nI (p % 4)), .int (nI (σ 0 p 0)), .ref (B + 6), .ref (aS B (p / 4) + 1), .ref (aP B p + 0), .ref (aP B p + 4), .ref (aP B p + 6), .ref (aP B p + 7), .ref (aP B p + 8), .int (nI (σ 17 p 0)), .int (nI (σ 10 p 0)), .int (nI v), .int (nI (σ 12 p 0))]))) = hC D B (U σ 11 p 0 v) κ g := by
  rw [← hC_wp (f := 11) (b := 0) (v := v) hp (by decide) rfl rfl (by decide)]
  simp [pidx, pcell, U] <;> rfl
theorem w12 {p v : Nat} (hp : p < 8) : va_up (hC D B σ κ g) (aP B p + 3) (some (.inr (5, [.int (nI (p / 4)), .int (nI (p % 4)), .int (nI (σ 0 p 0)), .ref (B + 6), .ref (aS B (p / 4) + 1), .ref (aP B p + 0), .ref (aP B p + 4), .ref (aP B p + 6), .ref (aP B p + 7), .ref (aP B p + 8), .int (nI (σ 17 p 0)), .int (nI (σ 10 p 0)), .int (nI (σ 11 p 0)), .int (nI v)]))) = hC D B (U σ 12 p 0 v) κ g := by
  rw [← hC_wp (f := 12) (b := 0) (v := v) hp (by decide) rfl rfl (by decide)]
  simp [pidx, pcell, U] <;> rfl
theorem w13 {p v : Nat} (hp : p < 8) : va_up (hC D B σ κ g) (aP B p + 6) (some (.inr (0, [.int (mI v), .int (mI (σ 14 p 0))]))) = hC D B (U σ 13 p 0 v) κ g := by
  rw [← hC_wp (f := 13) (b := 0) (v := v) hp (by decide) rfl rfl (by decide)]
  simp [pidx, pcell, U] <;> rfl
theorem w14 {p v : Nat} (hp : p < 8) : va_up (hC D B σ κ g) (aP B p + 6) (some (.inr (0, [.int (mI (σ 13 p 0)), .int (mI v)]))) = hC D B (U σ 14 p 0 v) κ g := by
  rw [← hC_wp (f := 14) (b := 0) (v := v) hp (by decide) rfl rfl (by decide)]
  simp [pidx, pcell, U] <;> rfl
theorem w15 {p v : Nat} (hp : p < 8) : va_up (hC D B σ κ g) (aP B p + 7) (some (.inr (0, [.int (mI v), .int (mI (σ 16 p 0))]))) = hC D B (U σ 15 p 0 v) κ g := by
  rw [← hC_wp (f := 15) (b := 0) (v := v) hp (by decide) rfl rfl (by decide)]
  simp [pidx, pcell, U] <;> rfl
theorem w16 {p v : Nat} (hp : p < 8) : va_up (hC D B σ κ g) (aP B p + 7) (some (.inr (0, [.int (mI (σ 15 p 0)), .int (mI v)]))) = hC D B (U σ 16 p 0 v) κ g := by
  rw [← hC_wp (f := 16) (b := 0) (v := v) hp (by decide) rfl rfl (by decide)]
  simp [pidx, pcell, U] <;> rfl
theorem w20 {s v : Nat} (hs : s < 2) : va_up (hC D B σ κ g) (aS B s + 1) (some (.inr (4, [.ref (aS B s + 2), .int (nI v)]))) = hC D B (U σ 20 s 0 v) κ g := by
  rw [← hC_ws hs]
  simp [scell, U] <;> rfl
end HW
/-! the judgement at numbers -/
def bI (P : Prop) [Decidable P] : Int32 := nI (if P then 1 else 0)
theorem bI_t {P : Prop} [Decidable P] (h : P) : bI P = nI 1 := by unfold bI; rw [if_pos h]
theorem bI_f {P : Prop} [Decidable P] (h : ¬ P) : bI P = nI 0 := by unfold bI; rw [if_neg h]
theorem bI_nar {P : Prop} [Decidable P] : narrow .boolean (.int (bI P)) = .int (bI P) := by
  by_cases h : P
  · rw [bI_t h]; decide +kernel
  · rw [bI_f h]; decide +kernel
noncomputable def cI (P : Prop) : Int32 := @bI P (Classical.propDecidable P)
theorem cI_t {P : Prop} (h : P) : cI P = nI 1 := @bI_t P (Classical.propDecidable P) h
theorem cI_f {P : Prop} (h : ¬ P) : cI P = nI 0 := @bI_f P (Classical.propDecidable P) h
theorem cI_nar {P : Prop} : narrow .boolean (.int (cI P)) = .int (cI P) := @bI_nar P (Classical.propDecidable P)
theorem cI_iff {P R : Prop} (h : P ↔ R) : cI P = cI R := by rw [propext h]
section JN
variable {G : jG} {Z : State → (Nat → Prop) → Prop} {u : jMt} {d n sn pc : Nat} {Q : Option Value → jH → Prop} {lc : List (Option Value)} {st : List Value} {h : jH}
theorem J.hq {c c' : Nat → Option va_E} {nx : Nat} (e : c = c') (kk : J G Z u d Q n sn pc lc st (c', nx)) : J G Z u d Q n sn pc lc st (c, nx) := e ▸ kk
theorem J.top {x y : Int32} (e : x = y) (kk : J G Z u d Q n sn pc lc (.int y :: st) h) : J G Z u d Q n sn pc lc (.int x :: st) h := e ▸ kk
theorem jn_iadd {a b : Nat} (hd : jd u pc .iadd 1) (kk : J G Z u d Q n sn (pc + 1) lc (.int (nI (a + b)) :: st) h) : J G Z u d Q n sn pc lc (.int (nI b) :: .int (nI a) :: st) h := by
  refine j_iadd hd ?_
  rw [nI_add]; exact kk
theorem jn_isub {a b : Nat} (hd : jd u pc .isub 1) (hab : b ≤ a) (kk : J G Z u d Q n sn (pc + 1) lc (.int (nI (a - b)) :: st) h) : J G Z u d Q n sn pc lc (.int (nI b) :: .int (nI a) :: st) h := by
  refine j_isub hd ?_
  rw [pk_sub hab]; exact kk
theorem jn_imul {a b : Nat} (hd : jd u pc .imul 1) (kk : J G Z u d Q n sn (pc + 1) lc (.int (nI (a * b)) :: st) h) : J G Z u d Q n sn pc lc (.int (nI b) :: .int (nI a) :: st) h := by
  refine j_imul hd ?_
  rw [pk_mul]; exact kk
theorem jn_irem {a b : Nat} (hd : jd u pc .irem 1) (ha : a < 2 ^ 31) (h0 : 0 < b) (hb : b < 2 ^ 31) (kk : J G Z u d Q n sn (pc + 1) lc (.int (nI (a % b)) :: st) h) : J G Z u d Q n sn pc lc (.int (nI b) :: .int (nI a) :: st) h := by
  refine j_irem hd (nI_ne0 h0 hb) ?_
  rw [pk_rem ha h0 hb]; exact kk
theorem jn_idiv {a b : Nat} (hd : jd u pc .idiv 1) (ha : a < 2 ^ 31) (h0 : 0 < b) (hb : b < 2 ^ 31) (kk : J G Z u d Q n sn (pc + 1) lc (.int (nI (a / b)) :: st) h) : J G Z u d Q n sn pc lc (.int (nI b) :: .int (nI a) :: st) h := by
  refine j_idiv hd (nI_ne0 h0 hb) ?_
  rw [pk_div ha h0 hb]; exact kk
theorem j_callV0 {i np d1 b ci : Nat} {w : jMt} {As rest : List Value} {Q1 : Option Value → jH → Prop} {vs : List Value} {r : vw_C} (hg : jGood G) (hE : jE G) (hd : jd u pc (.invokevirtual i) 3) (hc : jCV G u.1.cls i w np) (hst : st = As.reverse ++ .ref b :: rest) (hn : As.length = np) (hM : jM G w d1 0 0 (.ref b :: As) h Q1) (hb : h.1 b = some (.inr (ci, vs))) (hr : G.2.2.1[ci]? = some r) (hrc : r.1 = w.1.cls) (hdd : d1 + 1 ≤ d) (hrest : (rest.map fun v => v.category).sum ≤ 8)
    (kk : ∀ v h', Q1 v h' → J G Z u d Q n sn (pc + 3) lc (v.toList ++ rest) h') : J G Z u d Q n sn pc lc st h := by
  have := j_callV (n := n) (sn := sn) hg hE hd hc hst hn hM hb hr hrc hdd hrest kk
  simpa using this
theorem j_callS0 {i np d1 : Nat} {w : jMt} {As rest : List Value} {Q1 : Option Value → jH → Prop} (hg : jGood G) (hE : jE G) (hd : jd u pc (.invokestatic i) 3) (hc : jCS G u.1.cls i w np) (hown : w.1.cls = u.1.cls) (hst : st = As.reverse ++ rest) (hn : As.length = np) (hM : jM G w d1 0 0 As h Q1) (hdd : d1 + 1 ≤ d) (hrest : (rest.map fun v => v.category).sum ≤ 8)
    (kk : ∀ v h', Q1 v h' → J G Z u d Q n sn (pc + 3) lc (v.toList ++ rest) h') : J G Z u d Q n sn pc lc st h := by
  have := j_callS (n := n) (sn := sn) hg hE hd hc hown hst hn hM hdd hrest kk
  simpa using this
theorem mI_toInt {a : Nat} (h : a < 2 ^ 31) : (mI a).toInt = (a : Int) - 1 := by
  cases a with
  | zero => rw [mI_0]; decide
  | succ a => rw [mI_succ, nI_toInt (by omega)]; omega
theorem nn_eq {a b : Nat} (ha : a < 2 ^ 31) (hb : b < 2 ^ 31) : nI a = nI b ↔ a = b := nI_eq ha hb
theorem nn_lt {a b : Nat} (ha : a < 2 ^ 31) (hb : b < 2 ^ 31) : nI a < nI b ↔ a < b := nI_ltI ha hb
theorem nn_le {a b : Nat} (ha : a < 2 ^ 31) (hb : b < 2 ^ 31) : nI a ≤ nI b ↔ a ≤ b := nI_leI ha hb
theorem i32_eq {x y : Int32} : x = y ↔ x.toInt = y.toInt := Int32.toInt_inj.symm
theorem mm_eq {a b : Nat} (ha : a < 2 ^ 31) (hb : b < 2 ^ 31) : mI a = mI b ↔ a = b := by rw [i32_eq, mI_toInt ha, mI_toInt hb]; omega
theorem mm_lt {a b : Nat} (ha : a < 2 ^ 31) (hb : b < 2 ^ 31) : mI a < mI b ↔ a < b := by rw [Int32.lt_iff_toInt_lt, mI_toInt ha, mI_toInt hb]; omega
theorem mm_le {a b : Nat} (ha : a < 2 ^ 31) (hb : b < 2 ^ 31) : mI a ≤ mI b ↔ a ≤ b := by rw [Int32.le_iff_toInt_le, mI_toInt ha, mI_toInt hb]; omega
theorem mn_eq {a b : Nat} (ha : a < 2 ^ 31) (hb : b < 2 ^ 31) : mI a = nI b ↔ a = b + 1 := by rw [i32_eq, mI_toInt ha, nI_toInt hb]; omega
theorem mn_lt {a b : Nat} (ha : a < 2 ^ 31) (hb : b < 2 ^ 31) : mI a < nI b ↔ a < b + 1 := by rw [Int32.lt_iff_toInt_lt, mI_toInt ha, nI_toInt hb]; omega
theorem mn_le {a b : Nat} (ha : a < 2 ^ 31) (hb : b < 2 ^ 31) : mI a ≤ nI b ↔ a ≤ b + 1 := by rw [Int32.le_iff_toInt_le, mI_toInt ha, nI_toInt hb]; omega
theorem nm_eq {a b : Nat} (ha : a < 2 ^ 31) (hb : b < 2 ^ 31) : nI a = mI b ↔ a + 1 = b := by rw [i32_eq, nI_toInt ha, mI_toInt hb]; omega
theorem nm_lt {a b : Nat} (ha : a < 2 ^ 31) (hb : b < 2 ^ 31) : nI a < mI b ↔ a + 1 < b := by rw [Int32.lt_iff_toInt_lt, nI_toInt ha, mI_toInt hb]; omega
theorem nm_le {a b : Nat} (ha : a < 2 ^ 31) (hb : b < 2 ^ 31) : nI a ≤ mI b ↔ a + 1 ≤ b := by rw [Int32.le_iff_toInt_le, nI_toInt ha, mI_toInt hb]; omega
theorem n0_lt {a : Nat} (ha : a < 2 ^ 31) : ¬ nI a < 0 := nI_pos ha
theorem m0_lt {a : Nat} (ha : a < 2 ^ 31) : mI a < 0 ↔ a = 0 := by rw [Int32.lt_iff_toInt_lt, mI_toInt ha, Int32.toInt_zero]; omega
theorem m0_le {a : Nat} (ha : a < 2 ^ 31) : 0 ≤ mI a ↔ 1 ≤ a := by rw [Int32.le_iff_toInt_le, mI_toInt ha, Int32.toInt_zero]; omega
theorem n0_eq {a : Nat} (ha : a < 2 ^ 31) : nI a = 0 ↔ a = 0 := by rw [i32_eq, nI_toInt ha, Int32.toInt_zero]; omega
theorem n0_gt {a : Nat} (ha : a < 2 ^ 31) : 0 < nI a ↔ 0 < a := by rw [Int32.lt_iff_toInt_lt, nI_toInt ha, Int32.toInt_zero]; omega
theorem n0_le {a : Nat} (ha : a < 2 ^ 31) : nI a ≤ 0 ↔ a = 0 := by rw [Int32.le_iff_toInt_le, nI_toInt ha, Int32.toInt_zero]; omega
theorem nn_icmp_eq {a b : Nat} {o : Int} {t : Nat} (hd : jd u pc (.if_icmp .eq o) 3) (ht : (pc : Int) + o = (t : Int)) (ha : a < 2 ^ 31) (hb : b < 2 ^ 31) (kt : a = b → J G Z u d Q n sn t lc st h) (kf : ¬ a = b → J G Z u d Q n sn (pc + 3) lc st h) : J G Z u d Q n sn pc lc (.int (nI b) :: .int (nI a) :: st) h :=
  j_icmp_eq hd ht (fun q => kt ((nn_eq ha hb).mp q)) (fun q => kf (fun z => q ((nn_eq ha hb).mpr z)))
theorem nn_icmp_ne {a b : Nat} {o : Int} {t : Nat} (hd : jd u pc (.if_icmp .ne o) 3) (ht : (pc : Int) + o = (t : Int)) (ha : a < 2 ^ 31) (hb : b < 2 ^ 31) (kt : ¬ a = b → J G Z u d Q n sn t lc st h) (kf : a = b → J G Z u d Q n sn (pc + 3) lc st h) : J G Z u d Q n sn pc lc (.int (nI b) :: .int (nI a) :: st) h :=
  j_icmp_ne hd ht (fun q => kt (fun z => q ((nn_eq ha hb).mpr z))) (fun q => kf ((nn_eq ha hb).mp q))
theorem nn_icmp_lt {a b : Nat} {o : Int} {t : Nat} (hd : jd u pc (.if_icmp .lt o) 3) (ht : (pc : Int) + o = (t : Int)) (ha : a < 2 ^ 31) (hb : b < 2 ^ 31) (kt : a < b → J G Z u d Q n sn t lc st h) (kf : b ≤ a → J G Z u d Q n sn (pc + 3) lc st h) : J G Z u d Q n sn pc lc (.int (nI b) :: .int (nI a) :: st) h :=
  j_icmp_lt hd ht (fun q => kt ((nn_lt ha hb).mp q)) (fun q => kf (Nat.not_lt.mp fun z => q ((nn_lt ha hb).mpr z)))
theorem nn_icmp_ge {a b : Nat} {o : Int} {t : Nat} (hd : jd u pc (.if_icmp .ge o) 3) (ht : (pc : Int) + o = (t : Int)) (ha : a < 2 ^ 31) (hb : b < 2 ^ 31) (kt : b ≤ a → J G Z u d Q n sn t lc st h) (kf : a < b → J G Z u d Q n sn (pc + 3) lc st h) : J G Z u d Q n sn pc lc (.int (nI b) :: .int (nI a) :: st) h :=
  j_icmp_ge hd ht (fun q => kt ((nn_le hb ha).mp q)) (fun q => kf (Nat.not_le.mp fun z => q ((nn_le hb ha).mpr z)))
theorem nn_icmp_gt {a b : Nat} {o : Int} {t : Nat} (hd : jd u pc (.if_icmp .gt o) 3) (ht : (pc : Int) + o = (t : Int)) (ha : a < 2 ^ 31) (hb : b < 2 ^ 31) (kt : b < a → J G Z u d Q n sn t lc st h) (kf : a ≤ b → J G Z u d Q n sn (pc + 3) lc st h) : J G Z u d Q n sn pc lc (.int (nI b) :: .int (nI a) :: st) h :=
  j_icmp_gt hd ht (fun q => kt ((nn_lt hb ha).mp q)) (fun q => kf (Nat.not_lt.mp fun z => q ((nn_lt hb ha).mpr z)))
theorem nn_icmp_le {a b : Nat} {o : Int} {t : Nat} (hd : jd u pc (.if_icmp .le o) 3) (ht : (pc : Int) + o = (t : Int)) (ha : a < 2 ^ 31) (hb : b < 2 ^ 31) (kt : a ≤ b → J G Z u d Q n sn t lc st h) (kf : b < a → J G Z u d Q n sn (pc + 3) lc st h) : J G Z u d Q n sn pc lc (.int (nI b) :: .int (nI a) :: st) h :=
  j_icmp_le hd ht (fun q => kt ((nn_le ha hb).mp q)) (fun q => kf (Nat.not_le.mp fun z => q ((nn_le ha hb).mpr z)))
theorem mm_icmp_eq {a b : Nat} {o : Int} {t : Nat} (hd : jd u pc (.if_icmp .eq o) 3) (ht : (pc : Int) + o = (t : Int)) (ha : a < 2 ^ 31) (hb : b < 2 ^ 31) (kt : a = b → J G Z u d Q n sn t lc st h) (kf : ¬ a = b → J G Z u d Q n sn (pc + 3) lc st h) : J G Z u d Q n sn pc lc (.int (mI b) :: .int (mI a) :: st) h :=
  j_icmp_eq hd ht (fun q => kt ((mm_eq ha hb).mp q)) (fun q => kf (fun z => q ((mm_eq ha hb).mpr z)))
theorem mm_icmp_ne {a b : Nat} {o : Int} {t : Nat} (hd : jd u pc (.if_icmp .ne o) 3) (ht : (pc : Int) + o = (t : Int)) (ha : a < 2 ^ 31) (hb : b < 2 ^ 31) (kt : ¬ a = b → J G Z u d Q n sn t lc st h) (kf : a = b → J G Z u d Q n sn (pc + 3) lc st h) : J G Z u d Q n sn pc lc (.int (mI b) :: .int (mI a) :: st) h :=
  j_icmp_ne hd ht (fun q => kt (fun z => q ((mm_eq ha hb).mpr z))) (fun q => kf ((mm_eq ha hb).mp q))
theorem mm_icmp_lt {a b : Nat} {o : Int} {t : Nat} (hd : jd u pc (.if_icmp .lt o) 3) (ht : (pc : Int) + o = (t : Int)) (ha : a < 2 ^ 31) (hb : b < 2 ^ 31) (kt : a < b → J G Z u d Q n sn t lc st h) (kf : b ≤ a → J G Z u d Q n sn (pc + 3) lc st h) : J G Z u d Q n sn pc lc (.int (mI b) :: .int (mI a) :: st) h :=
  j_icmp_lt hd ht (fun q => kt ((mm_lt ha hb).mp q)) (fun q => kf (Nat.not_lt.mp fun z => q ((mm_lt ha hb).mpr z)))
theorem mm_icmp_ge {a b : Nat} {o : Int} {t : Nat} (hd : jd u pc (.if_icmp .ge o) 3) (ht : (pc : Int) + o = (t : Int)) (ha : a < 2 ^ 31) (hb : b < 2 ^ 31) (kt : b ≤ a → J G Z u d Q n sn t lc st h) (kf : a < b → J G Z u d Q n sn (pc + 3) lc st h) : J G Z u d Q n sn pc lc (.int (mI b) :: .int (mI a) :: st) h :=
  j_icmp_ge hd ht (fun q => kt ((mm_le hb ha).mp q)) (fun q => kf (Nat.not_le.mp fun z => q ((mm_le hb ha).mpr z)))
theorem mm_icmp_gt {a b : Nat} {o : Int} {t : Nat} (hd : jd u pc (.if_icmp .gt o) 3) (ht : (pc : Int) + o = (t : Int)) (ha : a < 2 ^ 31) (hb : b < 2 ^ 31) (kt : b < a → J G Z u d Q n sn t lc st h) (kf : a ≤ b → J G Z u d Q n sn (pc + 3) lc st h) : J G Z u d Q n sn pc lc (.int (mI b) :: .int (mI a) :: st) h :=
  j_icmp_gt hd ht (fun q => kt ((mm_lt hb ha).mp q)) (fun q => kf (Nat.not_lt.mp fun z => q ((mm_lt hb ha).mpr z)))
theorem mm_icmp_le {a b : Nat} {o : Int} {t : Nat} (hd : jd u pc (.if_icmp .le o) 3) (ht : (pc : Int) + o = (t : Int)) (ha : a < 2 ^ 31) (hb : b < 2 ^ 31) (kt : a ≤ b → J G Z u d Q n sn t lc st h) (kf : b < a → J G Z u d Q n sn (pc + 3) lc st h) : J G Z u d Q n sn pc lc (.int (mI b) :: .int (mI a) :: st) h :=
  j_icmp_le hd ht (fun q => kt ((mm_le ha hb).mp q)) (fun q => kf (Nat.not_le.mp fun z => q ((mm_le ha hb).mpr z)))
theorem mn_icmp_eq {a b : Nat} {o : Int} {t : Nat} (hd : jd u pc (.if_icmp .eq o) 3) (ht : (pc : Int) + o = (t : Int)) (ha : a < 2 ^ 31) (hb : b < 2 ^ 31) (kt : a = b + 1 → J G Z u d Q n sn t lc st h) (kf : ¬ a = b + 1 → J G Z u d Q n sn (pc + 3) lc st h) : J G Z u d Q n sn pc lc (.int (nI b) :: .int (mI a) :: st) h :=
  j_icmp_eq hd ht (fun q => kt ((mn_eq ha hb).mp q)) (fun q => kf (fun z => q ((mn_eq ha hb).mpr z)))
theorem mn_icmp_ne {a b : Nat} {o : Int} {t : Nat} (hd : jd u pc (.if_icmp .ne o) 3) (ht : (pc : Int) + o = (t : Int)) (ha : a < 2 ^ 31) (hb : b < 2 ^ 31) (kt : ¬ a = b + 1 → J G Z u d Q n sn t lc st h) (kf : a = b + 1 → J G Z u d Q n sn (pc + 3) lc st h) : J G Z u d Q n sn pc lc (.int (nI b) :: .int (mI a) :: st) h :=
  j_icmp_ne hd ht (fun q => kt (fun z => q ((mn_eq ha hb).mpr z))) (fun q => kf ((mn_eq ha hb).mp q))
theorem mn_icmp_lt {a b : Nat} {o : Int} {t : Nat} (hd : jd u pc (.if_icmp .lt o) 3) (ht : (pc : Int) + o = (t : Int)) (ha : a < 2 ^ 31) (hb : b < 2 ^ 31) (kt : a < b + 1 → J G Z u d Q n sn t lc st h) (kf : b + 1 ≤ a → J G Z u d Q n sn (pc + 3) lc st h) : J G Z u d Q n sn pc lc (.int (nI b) :: .int (mI a) :: st) h :=
  j_icmp_lt hd ht (fun q => kt ((mn_lt ha hb).mp q)) (fun q => kf (Nat.not_lt.mp fun z => q ((mn_lt ha hb).mpr z)))
theorem mn_icmp_ge {a b : Nat} {o : Int} {t : Nat} (hd : jd u pc (.if_icmp .ge o) 3) (ht : (pc : Int) + o = (t : Int)) (ha : a < 2 ^ 31) (hb : b < 2 ^ 31) (kt : b + 1 ≤ a → J G Z u d Q n sn t lc st h) (kf : a < b + 1 → J G Z u d Q n sn (pc + 3) lc st h) : J G Z u d Q n sn pc lc (.int (nI b) :: .int (mI a) :: st) h :=
  j_icmp_ge hd ht (fun q => kt ((nm_le hb ha).mp q)) (fun q => kf (Nat.not_le.mp fun z => q ((nm_le hb ha).mpr z)))
theorem mn_icmp_gt {a b : Nat} {o : Int} {t : Nat} (hd : jd u pc (.if_icmp .gt o) 3) (ht : (pc : Int) + o = (t : Int)) (ha : a < 2 ^ 31) (hb : b < 2 ^ 31) (kt : b + 1 < a → J G Z u d Q n sn t lc st h) (kf : a ≤ b + 1 → J G Z u d Q n sn (pc + 3) lc st h) : J G Z u d Q n sn pc lc (.int (nI b) :: .int (mI a) :: st) h :=
  j_icmp_gt hd ht (fun q => kt ((nm_lt hb ha).mp q)) (fun q => kf (Nat.not_lt.mp fun z => q ((nm_lt hb ha).mpr z)))
theorem mn_icmp_le {a b : Nat} {o : Int} {t : Nat} (hd : jd u pc (.if_icmp .le o) 3) (ht : (pc : Int) + o = (t : Int)) (ha : a < 2 ^ 31) (hb : b < 2 ^ 31) (kt : a ≤ b + 1 → J G Z u d Q n sn t lc st h) (kf : b + 1 < a → J G Z u d Q n sn (pc + 3) lc st h) : J G Z u d Q n sn pc lc (.int (nI b) :: .int (mI a) :: st) h :=
  j_icmp_le hd ht (fun q => kt ((mn_le ha hb).mp q)) (fun q => kf (Nat.not_le.mp fun z => q ((mn_le ha hb).mpr z)))
theorem nm_icmp_eq {a b : Nat} {o : Int} {t : Nat} (hd : jd u pc (.if_icmp .eq o) 3) (ht : (pc : Int) + o = (t : Int)) (ha : a < 2 ^ 31) (hb : b < 2 ^ 31) (kt : a + 1 = b → J G Z u d Q n sn t lc st h) (kf : ¬ a + 1 = b → J G Z u d Q n sn (pc + 3) lc st h) : J G Z u d Q n sn pc lc (.int (mI b) :: .int (nI a) :: st) h :=
  j_icmp_eq hd ht (fun q => kt ((nm_eq ha hb).mp q)) (fun q => kf (fun z => q ((nm_eq ha hb).mpr z)))
theorem nm_icmp_ne {a b : Nat} {o : Int} {t : Nat} (hd : jd u pc (.if_icmp .ne o) 3) (ht : (pc : Int) + o = (t : Int)) (ha : a < 2 ^ 31) (hb : b < 2 ^ 31) (kt : ¬ a + 1 = b → J G Z u d Q n sn t lc st h) (kf : a + 1 = b → J G Z u d Q n sn (pc + 3) lc st h) : J G Z u d Q n sn pc lc (.int (mI b) :: .int (nI a) :: st) h :=
  j_icmp_ne hd ht (fun q => kt (fun z => q ((nm_eq ha hb).mpr z))) (fun q => kf ((nm_eq ha hb).mp q))
theorem nm_icmp_lt {a b : Nat} {o : Int} {t : Nat} (hd : jd u pc (.if_icmp .lt o) 3) (ht : (pc : Int) + o = (t : Int)) (ha : a < 2 ^ 31) (hb : b < 2 ^ 31) (kt : a + 1 < b → J G Z u d Q n sn t lc st h) (kf : b ≤ a + 1 → J G Z u d Q n sn (pc + 3) lc st h) : J G Z u d Q n sn pc lc (.int (mI b) :: .int (nI a) :: st) h :=
  j_icmp_lt hd ht (fun q => kt ((nm_lt ha hb).mp q)) (fun q => kf (Nat.not_lt.mp fun z => q ((nm_lt ha hb).mpr z)))
theorem nm_icmp_ge {a b : Nat} {o : Int} {t : Nat} (hd : jd u pc (.if_icmp .ge o) 3) (ht : (pc : Int) + o = (t : Int)) (ha : a < 2 ^ 31) (hb : b < 2 ^ 31) (kt : b ≤ a + 1 → J G Z u d Q n sn t lc st h) (kf : a + 1 < b → J G Z u d Q n sn (pc + 3) lc st h) : J G Z u d Q n sn pc lc (.int (mI b) :: .int (nI a) :: st) h :=
  j_icmp_ge hd ht (fun q => kt ((mn_le hb ha).mp q)) (fun q => kf (Nat.not_le.mp fun z => q ((mn_le hb ha).mpr z)))
theorem nm_icmp_gt {a b : Nat} {o : Int} {t : Nat} (hd : jd u pc (.if_icmp .gt o) 3) (ht : (pc : Int) + o = (t : Int)) (ha : a < 2 ^ 31) (hb : b < 2 ^ 31) (kt : b < a + 1 → J G Z u d Q n sn t lc st h) (kf : a + 1 ≤ b → J G Z u d Q n sn (pc + 3) lc st h) : J G Z u d Q n sn pc lc (.int (mI b) :: .int (nI a) :: st) h :=
  j_icmp_gt hd ht (fun q => kt ((mn_lt hb ha).mp q)) (fun q => kf (Nat.not_lt.mp fun z => q ((mn_lt hb ha).mpr z)))
theorem nm_icmp_le {a b : Nat} {o : Int} {t : Nat} (hd : jd u pc (.if_icmp .le o) 3) (ht : (pc : Int) + o = (t : Int)) (ha : a < 2 ^ 31) (hb : b < 2 ^ 31) (kt : a + 1 ≤ b → J G Z u d Q n sn t lc st h) (kf : b < a + 1 → J G Z u d Q n sn (pc + 3) lc st h) : J G Z u d Q n sn pc lc (.int (mI b) :: .int (nI a) :: st) h :=
  j_icmp_le hd ht (fun q => kt ((nm_le ha hb).mp q)) (fun q => kf (Nat.not_le.mp fun z => q ((nm_le ha hb).mpr z)))
theorem n_if_eq {a : Nat} {o : Int} {t : Nat} (hd : jd u pc (.ifCond .eq o) 3) (ht : (pc : Int) + o = (t : Int)) (ha : a < 2 ^ 31) (kt : a = 0 → J G Z u d Q n sn t lc st h) (kf : ¬ a = 0 → J G Z u d Q n sn (pc + 3) lc st h) : J G Z u d Q n sn pc lc (.int (nI a) :: st) h :=
  j_if_eq hd ht (fun q => kt ((n0_eq ha).mp q)) (fun q => kf (fun z => q ((n0_eq ha).mpr z)))
theorem n_if_ne {a : Nat} {o : Int} {t : Nat} (hd : jd u pc (.ifCond .ne o) 3) (ht : (pc : Int) + o = (t : Int)) (ha : a < 2 ^ 31) (kt : ¬ a = 0 → J G Z u d Q n sn t lc st h) (kf : a = 0 → J G Z u d Q n sn (pc + 3) lc st h) : J G Z u d Q n sn pc lc (.int (nI a) :: st) h :=
  j_if_ne hd ht (fun q => kt (fun z => q ((n0_eq ha).mpr z))) (fun q => kf ((n0_eq ha).mp q))
theorem n_if_le {a : Nat} {o : Int} {t : Nat} (hd : jd u pc (.ifCond .le o) 3) (ht : (pc : Int) + o = (t : Int)) (ha : a < 2 ^ 31) (kt : a = 0 → J G Z u d Q n sn t lc st h) (kf : ¬ a = 0 → J G Z u d Q n sn (pc + 3) lc st h) : J G Z u d Q n sn pc lc (.int (nI a) :: st) h :=
  j_if_le hd ht (fun q => kt ((n0_le ha).mp q)) (fun q => kf (fun z => q ((n0_le ha).mpr z)))
theorem n_if_lt {a : Nat} {o : Int} {t : Nat} (hd : jd u pc (.ifCond .lt o) 3) (ht : (pc : Int) + o = (t : Int)) (ha : a < 2 ^ 31) (kt : False → J G Z u d Q n sn t lc st h) (kf : True → J G Z u d Q n sn (pc + 3) lc st h) : J G Z u d Q n sn pc lc (.int (nI a) :: st) h :=
  j_if_lt hd ht (fun q => kt (absurd q (n0_lt ha))) (fun _ => kf trivial)
theorem m_if_lt {a : Nat} {o : Int} {t : Nat} (hd : jd u pc (.ifCond .lt o) 3) (ht : (pc : Int) + o = (t : Int)) (ha : a < 2 ^ 31) (kt : a = 0 → J G Z u d Q n sn t lc st h) (kf : ¬ a = 0 → J G Z u d Q n sn (pc + 3) lc st h) : J G Z u d Q n sn pc lc (.int (mI a) :: st) h :=
  j_if_lt hd ht (fun q => kt ((m0_lt ha).mp q)) (fun q => kf (fun z => q ((m0_lt ha).mpr z)))
theorem b_if_eq {P : Prop} [Decidable P] {o : Int} {t : Nat} (hd : jd u pc (.ifCond .eq o) 3) (ht : (pc : Int) + o = (t : Int)) (kt : ¬ P → J G Z u d Q n sn t lc st h) (kf : P → J G Z u d Q n sn (pc + 3) lc st h) : J G Z u d Q n sn pc lc (.int (bI P) :: st) h :=
  j_if_eq hd ht (fun q => kt (fun z => by rw [bI_t z] at q; exact absurd q (by decide +kernel))) (fun q => kf (Decidable.byContradiction fun z => q ((bI_f z).trans (by decide +kernel))))
theorem b_if_ne {P : Prop} [Decidable P] {o : Int} {t : Nat} (hd : jd u pc (.ifCond .ne o) 3) (ht : (pc : Int) + o = (t : Int)) (kt : P → J G Z u d Q n sn t lc st h) (kf : ¬ P → J G Z u d Q n sn (pc + 3) lc st h) : J G Z u d Q n sn pc lc (.int (bI P) :: st) h :=
  j_if_ne hd ht (fun q => kt (Decidable.byContradiction fun z => q ((bI_f z).trans (by decide +kernel)))) (fun q => kf (fun z => by rw [bI_t z] at q; exact absurd q (by decide +kernel)))
theorem c_if_eq {P : Prop} {o : Int} {t : Nat} (hd : jd u pc (.ifCond .eq o) 3) (ht : (pc : Int) + o = (t : Int)) (kt : ¬ P → J G Z u d Q n sn t lc st h) (kf : P → J G Z u d Q n sn (pc + 3) lc st h) : J G Z u d Q n sn pc lc (.int (cI P) :: st) h :=
  @b_if_eq G Z u d n sn pc Q lc st h P (Classical.propDecidable P) o t hd ht kt kf
theorem c_if_ne {P : Prop} {o : Int} {t : Nat} (hd : jd u pc (.ifCond .ne o) 3) (ht : (pc : Int) + o = (t : Int)) (kt : P → J G Z u d Q n sn t lc st h) (kf : ¬ P → J G Z u d Q n sn (pc + 3) lc st h) : J G Z u d Q n sn pc lc (.int (cI P) :: st) h :=
  @b_if_ne G Z u d n sn pc Q lc st h P (Classical.propDecidable P) o t hd ht kt kf
theorem jc_t {P : Prop} {h0 : jH} (hd : jd u pc .ireturn 1) (hr : u.2.2.2 = some .boolean) (hp : P) (he : h = h0) : J G Z u d (fun v h' => v = some (.int (cI P)) ∧ h' = h0) n sn pc lc [.int (nI 1)] h :=
  j_zret hd hr (by decide +kernel) ⟨by rw [cI_t hp], he⟩
theorem jc_f {P : Prop} {h0 : jH} (hd : jd u pc .ireturn 1) (hr : u.2.2.2 = some .boolean) (hp : ¬ P) (he : h = h0) : J G Z u d (fun v h' => v = some (.int (cI P)) ∧ h' = h0) n sn pc lc [.int (nI 0)] h :=
  j_zret hd hr (by decide +kernel) ⟨by rw [cI_f hp], he⟩
theorem jc_c {P R : Prop} {h0 : jH} (hd : jd u pc .ireturn 1) (hr : u.2.2.2 = some .boolean) (hp : P ↔ R) (he : h = h0) : J G Z u d (fun v h' => v = some (.int (cI R)) ∧ h' = h0) n sn pc lc [.int (cI P)] h :=
  j_zret hd hr cI_nar ⟨by rw [cI_iff hp], he⟩
theorem n_iinc {i a k : Nat} {z : Int} (hd : jd u pc (.iinc i z) 3) (hz : Int32.ofInt z = nI k) (hx : lc[i]? = some (some (.int (nI a)))) (hi : i < u.2.2.1) (hk : jok lc i = true) {lc' : List (Option Value)} (hl : lc.set i (some (.int (nI (a + k)))) = lc') (kk : J G Z u d Q n sn (pc + 3) lc' st h) : J G Z u d Q n sn pc lc st h :=
  j_iinc hd hx (by rw [hz, nI_add]) hi hk hl kk
end JN
