set_option linter.unusedVariables false
set_option linter.unusedSimpArgs false
/-! Pure part 2: the invariant. -/
abbrev Pu.Bk (σ : Sg) : Prop := (σ 33 0 0 ≤ 8) ∧ (INP σ) ∧ (∀ n, σ 4 0 n ≤ 100 * 2 ^ σ 33 0 0) ∧ (∀ q, q < σ 34 0 0 → σ 5 0 q < 2 ∧ σ 6 0 q < 3 ∧ σ 7 0 q < σ 33 0 0) ∧ (∀ q q', q < σ 34 0 0 → q' < σ 34 0 0 → σ 5 0 q = σ 5 0 q' → σ 7 0 q = σ 7 0 q' → (σ 6 0 q = 0 ↔ σ 6 0 q' = 0) → q = q') ∧ (∀ q, q < σ 34 0 0 → ¬ σ 6 0 q = 0 → ¬ σ 3 0 (σ 7 0 q) = 0) ∧ (∀ t, σ 3 0 t ≤ 4) ∧ (∀ t, σ 33 0 0 ≤ t → σ 3 0 t = 0) ∧ (∀ t, t < σ 33 0 0 → ∃ q, q < σ 34 0 0 ∧ σ 7 0 q = t ∧ σ 6 0 q = 0) ∧ (∀ t, t < σ 33 0 0 → σ 3 0 t = 1 → ∃ q, q < σ 34 0 0 ∧ σ 7 0 q = t ∧ σ 6 0 q = 1) ∧ (∀ t, t < σ 33 0 0 → σ 3 0 t = 2 → ∃ q, q < σ 34 0 0 ∧ σ 7 0 q = t ∧ σ 6 0 q = 2)
theorem Pu.Bk.mk {σ : Sg} (tx : σ 33 0 0 ≤ 8) (ip : INP σ) (amt : ∀ n, σ 4 0 n ≤ 100 * 2 ^ σ 33 0 0) (rq : ∀ q, q < σ 34 0 0 → σ 5 0 q < 2 ∧ σ 6 0 q < 3 ∧ σ 7 0 q < σ 33 0 0) (un : ∀ q q', q < σ 34 0 0 → q' < σ 34 0 0 → σ 5 0 q = σ 5 0 q' → σ 7 0 q = σ 7 0 q' → (σ 6 0 q = 0 ↔ σ 6 0 q' = 0) → q = q') (st : ∀ q, q < σ 34 0 0 → ¬ σ 6 0 q = 0 → ¬ σ 3 0 (σ 7 0 q) = 0) (st4 : ∀ t, σ 3 0 t ≤ 4) (sz : ∀ t, σ 33 0 0 ≤ t → σ 3 0 t = 0) (ex0 : ∀ t, t < σ 33 0 0 → ∃ q, q < σ 34 0 0 ∧ σ 7 0 q = t ∧ σ 6 0 q = 0) (ex1 : ∀ t, t < σ 33 0 0 → σ 3 0 t = 1 → ∃ q, q < σ 34 0 0 ∧ σ 7 0 q = t ∧ σ 6 0 q = 1) (ex2 : ∀ t, t < σ 33 0 0 → σ 3 0 t = 2 → ∃ q, q < σ 34 0 0 ∧ σ 7 0 q = t ∧ σ 6 0 q = 2) : Pu.Bk σ := ⟨tx, ip, amt, rq, un, st, st4, sz, ex0, ex1, ex2⟩
theorem Pu.Bk.tx {σ : Sg} (h : Pu.Bk σ) : σ 33 0 0 ≤ 8 := h.1
theorem Pu.Bk.ip {σ : Sg} (h : Pu.Bk σ) : INP σ := h.2.1
theorem Pu.Bk.amt {σ : Sg} (h : Pu.Bk σ) : ∀ n, σ 4 0 n ≤ 100 * 2 ^ σ 33 0 0 := h.2.2.1
theorem Pu.Bk.rq {σ : Sg} (h : Pu.Bk σ) : ∀ q, q < σ 34 0 0 → σ 5 0 q < 2 ∧ σ 6 0 q < 3 ∧ σ 7 0 q < σ 33 0 0 := h.2.2.2.1
theorem Pu.Bk.un {σ : Sg} (h : Pu.Bk σ) : ∀ q q', q < σ 34 0 0 → q' < σ 34 0 0 → σ 5 0 q = σ 5 0 q' → σ 7 0 q = σ 7 0 q' → (σ 6 0 q = 0 ↔ σ 6 0 q' = 0) → q = q' := h.2.2.2.2.1
theorem Pu.Bk.st {σ : Sg} (h : Pu.Bk σ) : ∀ q, q < σ 34 0 0 → ¬ σ 6 0 q = 0 → ¬ σ 3 0 (σ 7 0 q) = 0 := h.2.2.2.2.2.1
theorem Pu.Bk.st4 {σ : Sg} (h : Pu.Bk σ) : ∀ t, σ 3 0 t ≤ 4 := h.2.2.2.2.2.2.1
theorem Pu.Bk.sz {σ : Sg} (h : Pu.Bk σ) : ∀ t, σ 33 0 0 ≤ t → σ 3 0 t = 0 := h.2.2.2.2.2.2.2.1
theorem Pu.Bk.ex0 {σ : Sg} (h : Pu.Bk σ) : ∀ t, t < σ 33 0 0 → ∃ q, q < σ 34 0 0 ∧ σ 7 0 q = t ∧ σ 6 0 q = 0 := h.2.2.2.2.2.2.2.2.1
theorem Pu.Bk.ex1 {σ : Sg} (h : Pu.Bk σ) : ∀ t, t < σ 33 0 0 → σ 3 0 t = 1 → ∃ q, q < σ 34 0 0 ∧ σ 7 0 q = t ∧ σ 6 0 q = 1 := h.2.2.2.2.2.2.2.2.2.1
theorem Pu.Bk.ex2 {σ : Sg} (h : Pu.Bk σ) : ∀ t, t < σ 33 0 0 → σ 3 0 t = 2 → ∃ q, q < σ 34 0 0 ∧ σ 7 0 q = t ∧ σ 6 0 q = 2 := h.2.2.2.2.2.2.2.2.2.2
abbrev Pu.Po (σ : Sg) : Prop := (∀ p, p < 8 → σ 10 p 0 ≤ 16) ∧ (∀ p, p < 8 → σ 11 p 0 ≤ 5) ∧ (∀ p, p < 8 → σ 12 p 0 ≤ 2) ∧ (∀ p, p < 8 → σ 14 p 0 ≤ σ 11 p 0 + 1 ∧ (σ 12 p 0 < 2 → σ 14 p 0 ≤ σ 11 p 0)) ∧ (∀ p, p < 8 → σ 16 p 0 ≤ σ 11 p 0 + 1 ∧ σ 15 p 0 ≤ 32 ∧ (σ 15 p 0 = 0 ↔ σ 16 p 0 = 0)) ∧ (∀ p, p < 8 → ¬ σ 0 p 0 = 0 → p % 4 = 3 ∧ σ 10 p 0 = 0 ∧ σ 11 p 0 = 0 ∧ σ 12 p 0 = 0)
theorem Pu.Po.mk {σ : Sg} (ht : ∀ p, p < 8 → σ 10 p 0 ≤ 16) (rd : ∀ p, p < 8 → σ 11 p 0 ≤ 5) (sp : ∀ p, p < 8 → σ 12 p 0 ≤ 2) (lk : ∀ p, p < 8 → σ 14 p 0 ≤ σ 11 p 0 + 1 ∧ (σ 12 p 0 < 2 → σ 14 p 0 ≤ σ 11 p 0)) (cd : ∀ p, p < 8 → σ 16 p 0 ≤ σ 11 p 0 + 1 ∧ σ 15 p 0 ≤ 32 ∧ (σ 15 p 0 = 0 ↔ σ 16 p 0 = 0)) (fau : ∀ p, p < 8 → ¬ σ 0 p 0 = 0 → p % 4 = 3 ∧ σ 10 p 0 = 0 ∧ σ 11 p 0 = 0 ∧ σ 12 p 0 = 0) : Pu.Po σ := ⟨ht, rd, sp, lk, cd, fau⟩
theorem Pu.Po.ht {σ : Sg} (h : Pu.Po σ) : ∀ p, p < 8 → σ 10 p 0 ≤ 16 := h.1
theorem Pu.Po.rd {σ : Sg} (h : Pu.Po σ) : ∀ p, p < 8 → σ 11 p 0 ≤ 5 := h.2.1
theorem Pu.Po.sp {σ : Sg} (h : Pu.Po σ) : ∀ p, p < 8 → σ 12 p 0 ≤ 2 := h.2.2.1
theorem Pu.Po.lk {σ : Sg} (h : Pu.Po σ) : ∀ p, p < 8 → σ 14 p 0 ≤ σ 11 p 0 + 1 ∧ (σ 12 p 0 < 2 → σ 14 p 0 ≤ σ 11 p 0) := h.2.2.2.1
theorem Pu.Po.cd {σ : Sg} (h : Pu.Po σ) : ∀ p, p < 8 → σ 16 p 0 ≤ σ 11 p 0 + 1 ∧ σ 15 p 0 ≤ 32 ∧ (σ 15 p 0 = 0 ↔ σ 16 p 0 = 0) := h.2.2.2.2.1
theorem Pu.Po.fau {σ : Sg} (h : Pu.Po σ) : ∀ p, p < 8 → ¬ σ 0 p 0 = 0 → p % 4 = 3 ∧ σ 10 p 0 = 0 ∧ σ 11 p 0 = 0 ∧ σ 12 p 0 = 0 := h.2.2.2.2.2
def Pu.bf (σ : Sg) (p k h r : Nat) : Prop := h < σ 10 p 0 ∨ (h = σ 10 p 0 ∧ (r < σ 11 p 0 ∨ (r = σ 11 p 0 ∧ k ≤ σ 12 p 0)))
abbrev Pu.Ms (σ : Sg) : Prop := (∀ s j, s < 2 → j < σ 20 s 0 → σ 21 s j < 3 ∧ σ 22 s j < 4 ∧ σ 23 s j ≤ 16 ∧ σ 24 s j < 6 ∧ σ 25 s j ≤ 32 ∧ σ 26 s j ≤ 6 ∧ σ 27 s j < 16) ∧ (∀ s j, s < 2 → j < σ 20 s 0 → σ 27 s j / 2 ^ σ 22 s j % 2 = 1 ∧ σ 0 (4 * s + σ 22 s j) 0 = 0) ∧ (∀ s j, s < 2 → j < σ 20 s 0 → σ 21 s j = 0 → σ 22 s j = (σ 23 s j + σ 24 s j) % 4 ∧ 1 ≤ σ 25 s j) ∧ (∀ s j, s < 2 → j < σ 20 s 0 → bf σ (4 * s + σ 22 s j) (σ 21 s j) (σ 23 s j) (σ 24 s j)) ∧ (∀ s j i, s < 2 → j < σ 20 s 0 → i < 4 → σ 27 s j / 2 ^ i % 2 = 1 → σ 23 s j ≤ σ 10 (4 * s + i) 0) ∧ (∀ s j j', s < 2 → j < σ 20 s 0 → j' < σ 20 s 0 → σ 21 s j = σ 21 s j' → σ 22 s j = σ 22 s j' → σ 23 s j = σ 23 s j' → σ 24 s j = σ 24 s j' → j = j')
theorem Pu.Ms.mk {σ : Sg} (fld : ∀ s j, s < 2 → j < σ 20 s 0 → σ 21 s j < 3 ∧ σ 22 s j < 4 ∧ σ 23 s j ≤ 16 ∧ σ 24 s j < 6 ∧ σ 25 s j ≤ 32 ∧ σ 26 s j ≤ 6 ∧ σ 27 s j < 16) (own : ∀ s j, s < 2 → j < σ 20 s 0 → σ 27 s j / 2 ^ σ 22 s j % 2 = 1 ∧ σ 0 (4 * s + σ 22 s j) 0 = 0) (prp : ∀ s j, s < 2 → j < σ 20 s 0 → σ 21 s j = 0 → σ 22 s j = (σ 23 s j + σ 24 s j) % 4 ∧ 1 ≤ σ 25 s j) (bef : ∀ s j, s < 2 → j < σ 20 s 0 → bf σ (4 * s + σ 22 s j) (σ 21 s j) (σ 23 s j) (σ 24 s j)) (tkn : ∀ s j i, s < 2 → j < σ 20 s 0 → i < 4 → σ 27 s j / 2 ^ i % 2 = 1 → σ 23 s j ≤ σ 10 (4 * s + i) 0) (key : ∀ s j j', s < 2 → j < σ 20 s 0 → j' < σ 20 s 0 → σ 21 s j = σ 21 s j' → σ 22 s j = σ 22 s j' → σ 23 s j = σ 23 s j' → σ 24 s j = σ 24 s j' → j = j') : Pu.Ms σ := ⟨fld, own, prp, bef, tkn, key⟩
theorem Pu.Ms.fld {σ : Sg} (h : Pu.Ms σ) : ∀ s j, s < 2 → j < σ 20 s 0 → σ 21 s j < 3 ∧ σ 22 s j < 4 ∧ σ 23 s j ≤ 16 ∧ σ 24 s j < 6 ∧ σ 25 s j ≤ 32 ∧ σ 26 s j ≤ 6 ∧ σ 27 s j < 16 := h.1
theorem Pu.Ms.own {σ : Sg} (h : Pu.Ms σ) : ∀ s j, s < 2 → j < σ 20 s 0 → σ 27 s j / 2 ^ σ 22 s j % 2 = 1 ∧ σ 0 (4 * s + σ 22 s j) 0 = 0 := h.2.1
theorem Pu.Ms.prp {σ : Sg} (h : Pu.Ms σ) : ∀ s j, s < 2 → j < σ 20 s 0 → σ 21 s j = 0 → σ 22 s j = (σ 23 s j + σ 24 s j) % 4 ∧ 1 ≤ σ 25 s j := h.2.2.1
theorem Pu.Ms.bef {σ : Sg} (h : Pu.Ms σ) : ∀ s j, s < 2 → j < σ 20 s 0 → bf σ (4 * s + σ 22 s j) (σ 21 s j) (σ 23 s j) (σ 24 s j) := h.2.2.2.1
theorem Pu.Ms.tkn {σ : Sg} (h : Pu.Ms σ) : ∀ s j i, s < 2 → j < σ 20 s 0 → i < 4 → σ 27 s j / 2 ^ i % 2 = 1 → σ 23 s j ≤ σ 10 (4 * s + i) 0 := h.2.2.2.2.1
theorem Pu.Ms.key {σ : Sg} (h : Pu.Ms σ) : ∀ s j j', s < 2 → j < σ 20 s 0 → j' < σ 20 s 0 → σ 21 s j = σ 21 s j' → σ 22 s j = σ 22 s j' → σ 23 s j = σ 23 s j' → σ 24 s j = σ 24 s j' → j = j' := h.2.2.2.2.2
abbrev Pu.Bx (σ : Sg) : Prop := (∀ p, p < 8 → σ 0 p 0 = 0 → BX σ p) ∧ (∀ i z, σ 28 i z ≤ 33) ∧ (∀ i z, z < 102 → ¬ σ 28 i z = 1) ∧ (∀ s i k h r, s < 2 → i < 3 → k < 3 → h ≤ 16 → r < 6 → ¬ σ 28 (3 * s + i) (102 * k + 6 * h + r) = 0 → h ≤ σ 10 (4 * s + i) 0 ∧ ¬ σ 0 (4 * s + 3) 0 = 0) ∧ (∀ p j, σ 29 p j ≤ 33) ∧ (∀ p, p < 8 → ¬ σ 0 p 0 = 0 → ∀ j, σ 29 p j = 0) ∧ (∀ p j, σ 30 p j ≤ 6)
theorem Pu.Bx.mk {σ : Sg} (bx : ∀ p, p < 8 → σ 0 p 0 = 0 → BX σ p) (lb : ∀ i z, σ 28 i z ≤ 33) (l1 : ∀ i z, z < 102 → ¬ σ 28 i z = 1) (lh : ∀ s i k h r, s < 2 → i < 3 → k < 3 → h ≤ 16 → r < 6 → ¬ σ 28 (3 * s + i) (102 * k + 6 * h + r) = 0 → h ≤ σ 10 (4 * s + i) 0 ∧ ¬ σ 0 (4 * s + 3) 0 = 0) (b9 : ∀ p j, σ 29 p j ≤ 33) (fb : ∀ p, p < 8 → ¬ σ 0 p 0 = 0 → ∀ j, σ 29 p j = 0) (b0 : ∀ p j, σ 30 p j ≤ 6) : Pu.Bx σ := ⟨bx, lb, l1, lh, b9, fb, b0⟩
theorem Pu.Bx.bx {σ : Sg} (h : Pu.Bx σ) : ∀ p, p < 8 → σ 0 p 0 = 0 → BX σ p := h.1
theorem Pu.Bx.lb {σ : Sg} (h : Pu.Bx σ) : ∀ i z, σ 28 i z ≤ 33 := h.2.1
theorem Pu.Bx.l1 {σ : Sg} (h : Pu.Bx σ) : ∀ i z, z < 102 → ¬ σ 28 i z = 1 := h.2.2.1
theorem Pu.Bx.lh {σ : Sg} (h : Pu.Bx σ) : ∀ s i k h r, s < 2 → i < 3 → k < 3 → h ≤ 16 → r < 6 → ¬ σ 28 (3 * s + i) (102 * k + 6 * h + r) = 0 → h ≤ σ 10 (4 * s + i) 0 ∧ ¬ σ 0 (4 * s + 3) 0 = 0 := h.2.2.2.1
theorem Pu.Bx.b9 {σ : Sg} (h : Pu.Bx σ) : ∀ p j, σ 29 p j ≤ 33 := h.2.2.2.2.1
theorem Pu.Bx.fb {σ : Sg} (h : Pu.Bx σ) : ∀ p, p < 8 → ¬ σ 0 p 0 = 0 → ∀ j, σ 29 p j = 0 := h.2.2.2.2.2.1
theorem Pu.Bx.b0 {σ : Sg} (h : Pu.Bx σ) : ∀ p j, σ 30 p j ≤ 6 := h.2.2.2.2.2.2
def Pu.Q1 (σ : Sg) (s h r x : Nat) : Prop := Qm (fun i => ¬ σ 0 (4 * s + i) 0 = 0 ∨ ∃ y, Mg σ s 1 i h r x y)
def Pu.Q2 (σ : Sg) (s h r x : Nat) : Prop := Qm (fun i => ¬ σ 0 (4 * s + i) 0 = 0 ∨ ∃ y, Mg σ s 2 i h r x y)
abbrev Pu.Vt (σ : Sg) : Prop := (∀ s i h r x y, s < 2 → ¬ x = 0 → Mg σ s 2 i h r x y → Q1 σ s h r x) ∧ (∀ s i h r0 r x' x y' y, s < 2 → ¬ x' = 0 → ¬ x = 0 → r0 < r → Mg σ s 2 i h r0 x' y' → Mg σ s 1 i h r x y → ∃ c, r0 ≤ c ∧ c < r ∧ Q1 σ s h c x) ∧ (∀ p r x y, p < 8 → ¬ x = 0 → Mg σ (p / 4) 2 (p % 4) (σ 10 p 0) r x y → r + 1 ≤ σ 14 p 0) ∧ (∀ p, p < 8 → ¬ σ 14 p 0 = 0 → ¬ σ 13 p 0 = 0 ∧ Q1 σ (p / 4) (σ 10 p 0) (σ 14 p 0 - 1) (σ 13 p 0)) ∧ (∀ p k, p < 8 → k < σ 10 p 0 → ∃ r, Q2 σ (p / 4) k r (σ 18 p k + 1))
theorem Pu.Vt.mk {σ : Sg} (sl : ∀ s i h r x y, s < 2 → ¬ x = 0 → Mg σ s 2 i h r x y → Q1 σ s h r x) (ag : ∀ s i h r0 r x' x y' y, s < 2 → ¬ x' = 0 → ¬ x = 0 → r0 < r → Mg σ s 2 i h r0 x' y' → Mg σ s 1 i h r x y → ∃ c, r0 ≤ c ∧ c < r ∧ Q1 σ s h c x) (lk : ∀ p r x y, p < 8 → ¬ x = 0 → Mg σ (p / 4) 2 (p % 4) (σ 10 p 0) r x y → r + 1 ≤ σ 14 p 0) (lq : ∀ p, p < 8 → ¬ σ 14 p 0 = 0 → ¬ σ 13 p 0 = 0 ∧ Q1 σ (p / 4) (σ 10 p 0) (σ 14 p 0 - 1) (σ 13 p 0)) (dc : ∀ p k, p < 8 → k < σ 10 p 0 → ∃ r, Q2 σ (p / 4) k r (σ 18 p k + 1)) : Pu.Vt σ := ⟨sl, ag, lk, lq, dc⟩
theorem Pu.Vt.sl {σ : Sg} (h : Pu.Vt σ) : ∀ s i h r x y, s < 2 → ¬ x = 0 → Mg σ s 2 i h r x y → Q1 σ s h r x := h.1
theorem Pu.Vt.ag {σ : Sg} (h : Pu.Vt σ) : ∀ s i h r0 r x' x y' y, s < 2 → ¬ x' = 0 → ¬ x = 0 → r0 < r → Mg σ s 2 i h r0 x' y' → Mg σ s 1 i h r x y → ∃ c, r0 ≤ c ∧ c < r ∧ Q1 σ s h c x := h.2.1
theorem Pu.Vt.lk {σ : Sg} (h : Pu.Vt σ) : ∀ p r x y, p < 8 → ¬ x = 0 → Mg σ (p / 4) 2 (p % 4) (σ 10 p 0) r x y → r + 1 ≤ σ 14 p 0 := h.2.2.1
theorem Pu.Vt.lq {σ : Sg} (h : Pu.Vt σ) : ∀ p, p < 8 → ¬ σ 14 p 0 = 0 → ¬ σ 13 p 0 = 0 ∧ Q1 σ (p / 4) (σ 10 p 0) (σ 14 p 0 - 1) (σ 13 p 0) := h.2.2.2.1
theorem Pu.Vt.dc {σ : Sg} (h : Pu.Vt σ) : ∀ p k, p < 8 → k < σ 10 p 0 → ∃ r, Q2 σ (p / 4) k r (σ 18 p k + 1) := h.2.2.2.2
noncomputable def Pu.rp (σ : Sg) (p : Nat) : Nat → Sg
  | 0 => fun f a b => if f = 8 then (if b < 4 ∧ b % 2 = p / 4 then 1 else 0) else if f = 9 then 0 else σ f a b
  | k + 1 => exS (rp σ p k) p (σ 6 0 (σ 18 p k)) (σ 7 0 (σ 18 p k))
def Pu.sm (f : Nat → Nat) : Nat → Nat
  | 0 => 0
  | n + 1 => sm f n + f n
abbrev Pu.Ex (σ : Sg) : Prop := (∀ p k, p < 8 → k < σ 10 p 0 → σ 18 p k < σ 34 0 0 ∧ σ 5 0 (σ 18 p k) = p / 4) ∧ (∀ p k k', p < 8 → k < σ 10 p 0 → k' < σ 10 p 0 → σ 18 p k = σ 18 p k' → k = k') ∧ (∀ p q, p < 8 → (σ 19 p q = 0 ↔ ∀ k, k < σ 10 p 0 → ¬ σ 18 p k = q)) ∧ (∀ p q, p < 8 → σ 19 p q ≤ 2) ∧ (∀ p n, p < 8 → σ 8 p n = Pu.rp σ p (σ 10 p 0) 8 p n ∧ σ 9 p n = Pu.rp σ p (σ 10 p 0) 9 p n) ∧ (∀ p k, p < 8 → k < σ 10 p 0 → σ 19 p (σ 18 p k) = exR (Pu.rp σ p k) p (σ 6 0 (σ 18 p k)) (σ 7 0 (σ 18 p k))) ∧ (∀ q, σ 31 0 q = sm (fun p => if σ 19 p q = 0 then 0 else 1) 8) ∧ (∀ p q, p < 8 → ¬ σ 19 p q = 0 → σ 32 0 q = σ 19 p q)
theorem Pu.Ex.mk {σ : Sg} (lg : ∀ p k, p < 8 → k < σ 10 p 0 → σ 18 p k < σ 34 0 0 ∧ σ 5 0 (σ 18 p k) = p / 4) (ld : ∀ p k k', p < 8 → k < σ 10 p 0 → k' < σ 10 p 0 → σ 18 p k = σ 18 p k' → k = k') (rs : ∀ p q, p < 8 → (σ 19 p q = 0 ↔ ∀ k, k < σ 10 p 0 → ¬ σ 18 p k = q)) (r2 : ∀ p q, p < 8 → σ 19 p q ≤ 2) (rp : ∀ p n, p < 8 → σ 8 p n = Pu.rp σ p (σ 10 p 0) 8 p n ∧ σ 9 p n = Pu.rp σ p (σ 10 p 0) 9 p n) (rr : ∀ p k, p < 8 → k < σ 10 p 0 → σ 19 p (σ 18 p k) = exR (Pu.rp σ p k) p (σ 6 0 (σ 18 p k)) (σ 7 0 (σ 18 p k))) (cn : ∀ q, σ 31 0 q = sm (fun p => if σ 19 p q = 0 then 0 else 1) 8) (eq : ∀ p q, p < 8 → ¬ σ 19 p q = 0 → σ 32 0 q = σ 19 p q) : Pu.Ex σ := ⟨lg, ld, rs, r2, rp, rr, cn, eq⟩
theorem Pu.Ex.lg {σ : Sg} (h : Pu.Ex σ) : ∀ p k, p < 8 → k < σ 10 p 0 → σ 18 p k < σ 34 0 0 ∧ σ 5 0 (σ 18 p k) = p / 4 := h.1
theorem Pu.Ex.ld {σ : Sg} (h : Pu.Ex σ) : ∀ p k k', p < 8 → k < σ 10 p 0 → k' < σ 10 p 0 → σ 18 p k = σ 18 p k' → k = k' := h.2.1
theorem Pu.Ex.rs {σ : Sg} (h : Pu.Ex σ) : ∀ p q, p < 8 → (σ 19 p q = 0 ↔ ∀ k, k < σ 10 p 0 → ¬ σ 18 p k = q) := h.2.2.1
theorem Pu.Ex.r2 {σ : Sg} (h : Pu.Ex σ) : ∀ p q, p < 8 → σ 19 p q ≤ 2 := h.2.2.2.1
theorem Pu.Ex.rp {σ : Sg} (h : Pu.Ex σ) : ∀ p n, p < 8 → σ 8 p n = Pu.rp σ p (σ 10 p 0) 8 p n ∧ σ 9 p n = Pu.rp σ p (σ 10 p 0) 9 p n := h.2.2.2.2.1
theorem Pu.Ex.rr {σ : Sg} (h : Pu.Ex σ) : ∀ p k, p < 8 → k < σ 10 p 0 → σ 19 p (σ 18 p k) = exR (Pu.rp σ p k) p (σ 6 0 (σ 18 p k)) (σ 7 0 (σ 18 p k)) := h.2.2.2.2.2.1
theorem Pu.Ex.cn {σ : Sg} (h : Pu.Ex σ) : ∀ q, σ 31 0 q = sm (fun p => if σ 19 p q = 0 then 0 else 1) 8 := h.2.2.2.2.2.2.1
theorem Pu.Ex.eq {σ : Sg} (h : Pu.Ex σ) : ∀ p q, p < 8 → ¬ σ 19 p q = 0 → σ 32 0 q = σ 19 p q := h.2.2.2.2.2.2.2
abbrev Pu.Iw (σ : Sg) : Prop := (Bk σ) ∧ (Po σ) ∧ (Ms σ) ∧ (Bx σ) ∧ (Vt σ) ∧ (Ex σ)
theorem Pu.Iw.mk {σ : Sg} (bk : Bk σ) (po : Po σ) (ms : Ms σ) (bx : Bx σ) (vt : Vt σ) (ex : Ex σ) : Pu.Iw σ := ⟨bk, po, ms, bx, vt, ex⟩
theorem Pu.Iw.bk {σ : Sg} (h : Pu.Iw σ) : Bk σ := h.1
theorem Pu.Iw.po {σ : Sg} (h : Pu.Iw σ) : Po σ := h.2.1
theorem Pu.Iw.ms {σ : Sg} (h : Pu.Iw σ) : Ms σ := h.2.2.1
theorem Pu.Iw.bx {σ : Sg} (h : Pu.Iw σ) : Bx σ := h.2.2.2.1
theorem Pu.Iw.vt {σ : Sg} (h : Pu.Iw σ) : Vt σ := h.2.2.2.2.1
theorem Pu.Iw.ex {σ : Sg} (h : Pu.Iw σ) : Ex σ := h.2.2.2.2.2
/-! Modules don't see what they don't read. -/
theorem Pu.Bk_cg {σ τ : Sg} (e1 : τ 1 = σ 1) (e2 : τ 2 = σ 2) (e3 : τ 3 = σ 3) (e4 : τ 4 = σ 4) (e5 : τ 5 = σ 5) (e6 : τ 6 = σ 6) (e7 : τ 7 = σ 7) (e33 : τ 33 = σ 33) (e34 : τ 34 = σ 34) (h : Bk σ) : Bk τ := by
  refine ⟨?_, ?_, ?_, ?_, ?_, ?_, ?_, ?_, ?_, ?_, ?_⟩ <;> simp only [INP, e1, e2, e3, e4, e5, e6, e7, e33, e34]
  · exact h.tx
  · exact h.ip
  · exact h.amt
  · exact h.rq
  · exact h.un
  · exact h.st
  · exact h.st4
  · exact h.sz
  · exact h.ex0
  · exact h.ex1
  · exact h.ex2
theorem Pu.Q1_mono {σ τ : Sg} (e0 : τ 0 = σ 0) {s : Nat} (e : ∀ k i h r x y, Mg σ s k i h r x y → Mg τ s k i h r x y) {h r x : Nat} : Q1 σ s h r x → Q1 τ s h r x := by
  unfold Q1
  rw [e0]
  exact Qm_mono (fun i hi hh => hh.imp id (fun ⟨y, hy⟩ => ⟨y, e _ _ _ _ _ _ hy⟩))
theorem Pu.Q2_mono {σ τ : Sg} (e0 : τ 0 = σ 0) {s : Nat} (e : ∀ k i h r x y, Mg σ s k i h r x y → Mg τ s k i h r x y) {h r x : Nat} : Q2 σ s h r x → Q2 τ s h r x := by
  unfold Q2
  rw [e0]
  exact Qm_mono (fun i hi hh => hh.imp id (fun ⟨y, hy⟩ => ⟨y, e _ _ _ _ _ _ hy⟩))
/-! Safety: agreement of quorums. -/
theorem Pu.Mg_un {σ : Sg} (m : Ms σ) {s k i h r x y x' y' : Nat} (hs : s < 2) : Mg σ s k i h r x y → Mg σ s k i h r x' y' → x = x' ∧ y = y' := by
  rintro ⟨j, hj, a1, a2, a3, a4, a5, a6⟩ ⟨j', hj', b1, b2, b3, b4, b5, b6⟩
  have := m.key s j j' hs hj hj' (by omega) (by omega) (by omega) (by omega)
  subst this
  omega
theorem Pu.hon3 {σ : Sg} (P : Po σ) {s i : Nat} (hs : s < 2) (hi : i < 3) : σ 0 (4 * s + i) 0 = 0 := by
  by_cases h : σ 0 (4 * s + i) 0 = 0
  · exact h
  · have := (P.fau (4 * s + i) (by omega) h).1; omega
theorem Pu.Q1_un {σ : Sg} (P : Po σ) (m : Ms σ) {s h r x x' : Nat} (hs : s < 2) (a : Q1 σ s h r x) (b : Q1 σ s h r x') : x = x' := by
  obtain ⟨i, hi, h1, h2⟩ := Qm_two a b
  have hh := hon3 P hs hi
  rcases h1 with h1 | ⟨y, h1⟩
  · exact absurd hh h1
  rcases h2 with h2 | ⟨y', h2⟩
  · exact absurd hh h2
  exact (Mg_un m hs h1 h2).1
theorem Pu.Q2_Q1 {σ : Sg} (P : Po σ) (v : Vt σ) {s h r x : Nat} (hs : s < 2) (hx : ¬ x = 0) (a : Q2 σ s h r x) : Q1 σ s h r x := by
  obtain ⟨i, hi, h1, h2⟩ := Qm_two a a
  have hh := hon3 P hs hi
  rcases h1 with h1 | ⟨y, h1⟩
  · exact absurd hh h1
  exact v.sl s i h r x y hs hx h1
theorem Pu.safe {σ : Sg} (P : Po σ) (m : Ms σ) (v : Vt σ) {s h r x x' : Nat} (hs : s < 2) (hx : ¬ x = 0) (hx' : ¬ x' = 0) (a : Q2 σ s h r x) : ∀ n r', r' < n → r ≤ r' → Q1 σ s h r' x' → x = x'
  | 0, r', hn, _, _ => absurd hn (by omega)
  | n + 1, r', hn, hr, b => by
    by_cases e : r' = r
    · subst e
      exact Q1_un P m hs (Q2_Q1 P v hs hx a) b
    · obtain ⟨i, hi, h1, h2⟩ := Qm_two a b
      have hh := hon3 P hs hi
      rcases h1 with h1 | ⟨y, h1⟩
      · exact absurd hh h1
      rcases h2 with h2 | ⟨y', h2⟩
      · exact absurd hh h2
      obtain ⟨c, c1, c2, c3⟩ := v.ag s i h r r' x x' y y' hs hx hx' (by omega) h1 h2
      exact safe P m v hs hx hx' a n c (by omega) c1 c3
theorem Pu.agree {σ : Sg} (P : Po σ) (m : Ms σ) (v : Vt σ) {s h r r' x x' : Nat} (hs : s < 2) (hx : ¬ x = 0) (hx' : ¬ x' = 0) (a : Q2 σ s h r x) (b : Q2 σ s h r' x') : x = x' := by
  by_cases hr : r ≤ r'
  · exact safe P m v hs hx hx' a (r' + 1) r' (by omega) hr (Q2_Q1 P v hs hx' b)
  · exact (safe P m v hs hx' hx b (r + 1) r (by omega) (by omega) (Q2_Q1 P v hs hx a)).symm
/-! Bounds out of the keys. -/
theorem Pu.rq32 {σ : Sg} (b : Bk σ) : σ 34 0 0 ≤ 32 := by
  have := b.tx
  refine inj_le (σ 34 0 0) 32 (fun q => 16 * σ 5 0 q + 2 * σ 7 0 q + (if σ 6 0 q = 0 then 0 else 1)) (fun q hq => ?_) (fun q q' hq hq' e => ?_)
  · have := b.rq q hq
    show 16 * σ 5 0 q + 2 * σ 7 0 q + (if σ 6 0 q = 0 then 0 else 1) < 32
    split <;> omega
  · have h1 := b.rq q hq
    have h2 := b.rq q' hq'
    have e' : 16 * σ 5 0 q + 2 * σ 7 0 q + (if σ 6 0 q = 0 then 0 else 1) = 16 * σ 5 0 q' + 2 * σ 7 0 q' + (if σ 6 0 q' = 0 then 0 else 1) := e
    apply b.un q q' hq hq' <;> (split at e' <;> split at e' <;> omega)
theorem Pu.rq16 {σ : Sg} (b : Bk σ) {s n : Nat} (f : Nat → Nat) (h : ∀ i, i < n → f i < σ 34 0 0 ∧ σ 5 0 (f i) = s) (hi : ∀ i j, i < n → j < n → f i = f j → i = j) : n ≤ 16 := by
  have := b.tx
  refine inj_le n 16 (fun i => 2 * σ 7 0 (f i) + (if σ 6 0 (f i) = 0 then 0 else 1)) (fun q hq => ?_) (fun q q' hq hq' e => ?_)
  · have := b.rq (f q) (h q hq).1
    show 2 * σ 7 0 (f q) + (if σ 6 0 (f q) = 0 then 0 else 1) < 16
    split <;> omega
  · have h1 := b.rq (f q) (h q hq).1
    have h2 := b.rq (f q') (h q' hq').1
    have h3 := h q hq
    have h4 := h q' hq'
    have e' : 2 * σ 7 0 (f q) + (if σ 6 0 (f q) = 0 then 0 else 1) = 2 * σ 7 0 (f q') + (if σ 6 0 (f q') = 0 then 0 else 1) := e
    apply hi q q' hq hq'
    apply b.un (f q) (f q') h3.1 h4.1 <;> (split at e' <;> split at e' <;> omega)
theorem Pu.rq30 {σ : Sg} (b : Bk σ) {t : Nat} (ht : t < σ 33 0 0) (h0 : σ 3 0 t = 0) : σ 34 0 0 ≤ 30 := by
  have := b.tx
  have hk : ∀ q, q < σ 34 0 0 → σ 7 0 q = t → σ 6 0 q = 0 := fun q hq e => by
    by_cases h : σ 6 0 q = 0
    · exact h
    · have := b.st q hq h
      rw [e] at this
      exact absurd h0 this
  have : σ 34 0 0 + 2 ≤ 32 := by
    refine inj_le (σ 34 0 0 + 2) 32 (fun q => if q < σ 34 0 0 then 16 * σ 5 0 q + 2 * σ 7 0 q + (if σ 6 0 q = 0 then 0 else 1) else if q = σ 34 0 0 then 2 * t + 1 else 16 + 2 * t + 1) (fun q hq => ?_) (fun q q' hq hq' e => ?_)
    · show (if q < σ 34 0 0 then 16 * σ 5 0 q + 2 * σ 7 0 q + (if σ 6 0 q = 0 then 0 else 1) else if q = σ 34 0 0 then 2 * t + 1 else 16 + 2 * t + 1) < 32
      by_cases h : q < σ 34 0 0
      · have := b.rq q h
        rw [if_pos h]
        split <;> omega
      · rw [if_neg h]
        split <;> omega
    · have e' : (if q < σ 34 0 0 then 16 * σ 5 0 q + 2 * σ 7 0 q + (if σ 6 0 q = 0 then 0 else 1) else if q = σ 34 0 0 then 2 * t + 1 else 16 + 2 * t + 1) = (if q' < σ 34 0 0 then 16 * σ 5 0 q' + 2 * σ 7 0 q' + (if σ 6 0 q' = 0 then 0 else 1) else if q' = σ 34 0 0 then 2 * t + 1 else 16 + 2 * t + 1) := e
      by_cases h : q < σ 34 0 0
      · have h1 := b.rq q h
        have h1' := hk q h
        rw [if_pos h] at e'
        by_cases h' : q' < σ 34 0 0
        · have h2 := b.rq q' h'
          rw [if_pos h'] at e'
          apply b.un q q' h h' <;> (split at e' <;> split at e' <;> omega)
        · rw [if_neg h'] at e'
          split at e' <;> split at e' <;> omega
      · rw [if_neg h] at e'
        by_cases h' : q' < σ 34 0 0
        · have h1 := b.rq q' h'
          have h1' := hk q' h'
          rw [if_pos h'] at e'
          split at e' <;> split at e' <;> omega
        · rw [if_neg h'] at e'
          split at e' <;> split at e' <;> omega
  omega
/-- how many messages -/
theorem Pu.ms918 {σ : Sg} (m : Ms σ) {s : Nat} (hs : s < 2) : σ 20 s 0 ≤ 918 := by
  refine inj_le (σ 20 s 0) 918 (fun j => if σ 21 s j = 0 then 6 * σ 23 s j + σ 24 s j else 102 + 408 * (σ 21 s j - 1) + 4 * (6 * σ 23 s j + σ 24 s j) + σ 22 s j) (fun j hj => ?_) (fun j j' hj hj' e => ?_)
  · have := m.fld s j hs hj
    show (if σ 21 s j = 0 then 6 * σ 23 s j + σ 24 s j else 102 + 408 * (σ 21 s j - 1) + 4 * (6 * σ 23 s j + σ 24 s j) + σ 22 s j) < 918
    split <;> omega
  · have h1 := m.fld s j hs hj
    have h2 := m.fld s j' hs hj'
    have h3 := m.prp s j hs hj
    have h4 := m.prp s j' hs hj'
    have e' : (if σ 21 s j = 0 then 6 * σ 23 s j + σ 24 s j else 102 + 408 * (σ 21 s j - 1) + 4 * (6 * σ 23 s j + σ 24 s j) + σ 22 s j) = (if σ 21 s j' = 0 then 6 * σ 23 s j' + σ 24 s j' else 102 + 408 * (σ 21 s j' - 1) + 4 * (6 * σ 23 s j' + σ 24 s j') + σ 22 s j') := e
    split at e' <;> split at e'
    · have h3 := h3 (by assumption)
      have h4 := h4 (by assumption)
      have a : σ 23 s j = σ 23 s j' := by omega
      have b : σ 24 s j = σ 24 s j' := by omega
      apply m.key s j j' hs hj hj' <;> first | omega | (rw [h3.1, h4.1, a, b])
    · omega
    · omega
    · apply m.key s j j' hs hj hj' <;> omega
