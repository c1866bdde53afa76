/-! The reference: what the survey says, against the inboxes (g_mo4.py) -/
/-- an inbox holds what was taken of its height, and lies -/
def BX (σ : Sg) (p : Nat) : Prop :=
  (∀ k r i x y, k < 3 → r < 6 → i < 4 → ((Sm σ p (σ 20 (p / 4) 0) k r i x y ∨ (p % 4 < 3 ∧ i = 3 ∧ y = 0 ∧ x + 1 = lieV σ p k r)) ↔ (σ 29 p (slt k r i) = x + 1 ∧ σ 30 p (slt k r i) = y))) ∧
  (∀ r i x y, Sm σ p (σ 20 (p / 4) 0) 0 r i x y → i = ld σ p r ∧ 1 ≤ x) ∧ (∀ r, r < 6 → ¬ lieV σ p 0 r = 1)
theorem Sm_rng {σ : Sg} {p k r i x y : Nat} (mg : MG σ (p / 4)) (h : Sm σ p (σ 20 (p / 4) 0) k r i x y) : k < 3 ∧ r < 6 ∧ i < 4 ∧ x < 33 := by
  obtain ⟨j, hj, -, rfl, rfl, rfl, rfl, rfl⟩ := h
  obtain ⟨h1, h2, h3, h4, h5, h6, h7⟩ := mg.2 j hj
  exact ⟨h1, h4, h2, h5⟩
section SVB
variable {σ ρ : Sg} {p : Nat}
theorem bx33 (bx : BX σ p) (mg : MG σ (p / 4)) (hl : ∀ i z, σ 28 i z ≤ 33) {k r i : Nat} (hk : k < 3) (hr : r < 6) (hi : i < 4) : σ 29 p (slt k r i) ≤ 33 := by
  by_cases h : σ 29 p (slt k r i) = 0
  · omega
  · obtain ⟨x, hx⟩ : ∃ x, σ 29 p (slt k r i) = x + 1 := ⟨σ 29 p (slt k r i) - 1, by omega⟩
    rcases (bx.1 k r i x _ hk hr hi).mpr ⟨hx, rfl⟩ with q | q
    · have := (Sm_rng mg q).2.2.2
      omega
    · have := hl (3 * (p / 4) + p % 4) (102 * k + 6 * σ 10 p 0 + r)
      have h2 := q.2.2.2
      unfold lieV at h2
      omega
theorem src_iff (bx : BX σ p) {k r i x : Nat} (hk : k < 3) (hr : r < 6) (hi : i < 4) : (∃ y, Sl σ p 3 0 k r i x y) ↔ (σ 29 p (slt k r i) = x + 1 ∧ (k = 0 → i = ld σ p r)) := by
  constructor
  · rintro ⟨y, q | q⟩
    · refine ⟨((bx.1 k r i x y hk hr hi).mp (Or.inl q)).1, ?_⟩
      rintro rfl
      exact (bx.2.1 r i x y q).1
    · refine ⟨((bx.1 k r i x y hk hr hi).mp (Or.inr ⟨q.1, q.2.1, q.2.2.1, q.2.2.2.1⟩)).1, ?_⟩
      intro h0
      have := q.2.2.2.2.1
      omega
  · rintro ⟨h1, h2⟩
    rcases (bx.1 k r i x _ hk hr hi).mpr ⟨h1, rfl⟩ with q | q
    · exact ⟨_, Or.inl q⟩
    · refine ⟨_, Or.inr ⟨q.1, q.2.1, q.2.2.1, q.2.2.2, ?_, hk, hr, Or.inl hk⟩⟩
      by_cases h0 : k = 0
      · exact Or.inr (by rw [← h2 h0]; exact q.2.1)
      · exact Or.inl (by omega)
theorem bc_sum (m : Nat) : bc m = m / 2 ^ 0 % 2 + m / 2 ^ 1 % 2 + m / 2 ^ 2 % 2 + m / 2 ^ 3 % 2 := by unfold bc; rw [Nat.pow_zero, Nat.div_one]
theorem bit_ite {m i : Nat} {P : Prop} [Decidable P] (h : m / 2 ^ i % 2 = 1 ↔ P) : m / 2 ^ i % 2 = if P then 1 else 0 := by
  by_cases c : P
  · rw [if_pos c]; exact h.mpr c
  · rw [if_neg c]
    have : ¬ m / 2 ^ i % 2 = 1 := fun z => c (h.mp z)
    omega
theorem bc_cq (sv : SV σ p ρ) (bx : BX σ p) {k r x : Nat} (hk : k = 1 ∨ k = 2) (hr : r < 6) (hx : x < 33) : bc (ρ 0 0 (198 * k + 33 * r + x)) = cq σ p k r x 4 := by
  have e : ∀ i, i < 4 → ρ 0 0 (198 * k + 33 * r + x) / 2 ^ i % 2 = if σ 29 p (slt k r i) = x + 1 then 1 else 0 := by
    intro i hi
    refine bit_ite ?_
    rw [sv.1.2.1 k r x i (by omega) hr hx hi, src_iff bx (by omega) hr hi]
    constructor
    · exact fun q => q.1
    · exact fun q => ⟨q, fun z => by omega⟩
  rw [bc_sum, e 0 (by decide), e 1 (by decide), e 2 (by decide), e 3 (by decide)]
  simp only [cq]
  omega
theorem sv_prp (sv : SV σ p ρ) (bx : BX σ p) {r : Nat} (hr : r < 6) : ρ 1 0 r = prp σ p r - 1 ∧ (¬ prp σ p r = 0 → ρ 2 0 r = prc σ p r) ∧ (ρ 1 0 r = 0 ↔ prp σ p r = 0) := by
  have hld : ld σ p r < 4 := ld_lt
  have h1 : ¬ prp σ p r = 1 := by
    intro q
    unfold prp at q
    rcases (bx.1 0 r _ 0 _ (by decide) hr hld).mpr ⟨q, rfl⟩ with z | z
    · have := (bx.2.1 _ _ _ _ z).2; omega
    · exact bx.2.2 r hr z.2.2.2.symm
  rcases sv.1.2.2 r hr with ⟨q1, q2⟩ | ⟨i, q⟩
  · have h0 : prp σ p r = 0 := by
      refine Decidable.byContradiction fun z => ?_
      obtain ⟨x, hx⟩ : ∃ x, prp σ p r = x + 1 := ⟨prp σ p r - 1, by omega⟩
      obtain ⟨y, hy⟩ := (src_iff bx (k := 0) (x := x) (by decide) hr hld).mpr ⟨hx, fun _ => rfl⟩
      exact q2 _ _ _ hy
    exact ⟨by omega, fun z => absurd h0 z, by omega⟩
  · have hi : i = ld σ p r ∧ σ 29 p (slt 0 r i) = ρ 1 0 r + 1 ∧ σ 30 p (slt 0 r i) = ρ 2 0 r := by
      rcases q with q | q
      · have a := (bx.2.1 _ _ _ _ q).1
        have b := (bx.1 0 r i _ _ (by decide) hr (by omega)).mp (Or.inl q)
        exact ⟨a, b⟩
      · have a : i = ld σ p r := by have := q.2.2.2.2.1; omega
        have b := (bx.1 0 r i _ _ (by decide) hr (by omega)).mp (Or.inr ⟨q.1, q.2.1, q.2.2.1, q.2.2.2.1⟩)
        exact ⟨a, b⟩
    obtain ⟨rfl, e1, e2⟩ := hi
    have e3 : prp σ p r = ρ 1 0 r + 1 := e1
    exact ⟨by omega, fun _ => e2.symm, by omega⟩
theorem sv_own (sv : SV σ p ρ) (bx : BX σ p) {r : Nat} (hr : r < 6) : ¬ ρ 3 0 r = 0 ↔ ¬ σ 29 p (slt 0 r (p % 4)) = 0 := by
  rw [(sv.2 r hr).2]
  have h4 : p % 4 < 4 := Nat.mod_lt _ (by decide)
  constructor
  · rintro ⟨j, hj, a, b, c, e⟩ z
    have := (bx.1 0 r (p % 4) (σ 25 (p / 4) j) (σ 26 (p / 4) j) (by decide) hr h4).mp (Or.inl ⟨j, hj, a, b, c, e, rfl, rfl⟩)
    omega
  · intro z
    obtain ⟨x, hx⟩ : ∃ x, σ 29 p (slt 0 r (p % 4)) = x + 1 := ⟨σ 29 p (slt 0 r (p % 4)) - 1, by omega⟩
    rcases (bx.1 0 r (p % 4) x _ (by decide) hr h4).mpr ⟨hx, rfl⟩ with q | q
    · obtain ⟨j, hj, a, b, c, e, -, -⟩ := q
      exact ⟨j, hj, a, b, c, e⟩
    · omega
end SVB
theorem or_nn : ∀ a, a < 16 → ∀ b, b < 16 → nI a ||| nI b = nI (a ||| b) := by decide +kernel
theorem or_lt : ∀ a, a < 16 → ∀ b, b < 16 → a ||| b < 16 := by decide +kernel
theorem or_bit : ∀ a, a < 16 → ∀ b, b < 16 → ∀ i, i < 4 → ((a ||| b) / 2 ^ i % 2 = 1 ↔ (a / 2 ^ i % 2 = 1 ∨ b / 2 ^ i % 2 = 1)) := by decide +kernel
/-- the senders of n requests, joined -/
def jn (ρ : Sg) (b n m : Nat) : Prop := m < 16 ∧ ∀ i, i < 4 → (m / 2 ^ i % 2 = 1 ↔ ∃ q, q < n ∧ ρ 0 0 (b + q) / 2 ^ i % 2 = 1)
theorem jn_0 {ρ : Sg} {b : Nat} : jn ρ b 0 0 := ⟨by decide, fun i _ => by
  rw [Nat.zero_div]
  constructor
  · intro q; exact absurd q (by decide)
  · rintro ⟨q, h, -⟩; omega⟩
theorem jn_s {ρ : Sg} {b n m : Nat} (h : jn ρ b n m) (h16 : ρ 0 0 (b + n) < 16) : jn ρ b (n + 1) (m ||| ρ 0 0 (b + n)) := by
  refine ⟨or_lt _ h.1 _ h16, fun i hi => ?_⟩
  rw [or_bit _ h.1 _ h16 _ hi, h.2 i hi]
  constructor
  · rintro (⟨q, a, b⟩ | a)
    · exact ⟨q, by omega, b⟩
    · exact ⟨n, by omega, a⟩
  · rintro ⟨q, a, b⟩
    by_cases e : q = n
    · subst e; exact Or.inr b
    · exact Or.inl ⟨q, by omega, b⟩
theorem bc_ca {σ ρ : Sg} {p : Nat} (sv : SV σ p ρ) (bx : BX σ p) (mg : MG σ (p / 4)) (hl : ∀ i z, σ 28 i z ≤ 33) {k r m : Nat} (hk : k = 1 ∨ k = 2) (hr : r < 6) (h : jn ρ (198 * k + 33 * r) 33 m) : bc m = ca σ p k r 4 := by
  have e : ∀ i, i < 4 → m / 2 ^ i % 2 = if ¬ σ 29 p (slt k r i) = 0 then 1 else 0 := by
    intro i hi
    refine bit_ite ?_
    rw [h.2 i hi]
    constructor
    · rintro ⟨q, h1, h2⟩
      have := ((src_iff bx (by omega) hr hi).mp ((sv.1.2.1 k r q i (by omega) hr h1 hi).mp h2)).1
      omega
    · intro z
      have b33 := bx33 bx mg hl (k := k) (r := r) (i := i) (by omega) hr hi
      refine ⟨σ 29 p (slt k r i) - 1, by omega, ?_⟩
      rw [sv.1.2.1 k r _ i (by omega) hr (by omega) hi, src_iff bx (by omega) hr hi]
      exact ⟨by omega, fun z => by omega⟩
  rw [bc_sum, e 0 (by decide), e 1 (by decide), e 2 (by decide), e 3 (by decide)]
  simp only [ca]
  simp only [Nat.zero_add, ite_not]
theorem bc_cs {σ ρ : Sg} {p : Nat} (sv : SV σ p ρ) (bx : BX σ p) (mg : MG σ (p / 4)) (hl : ∀ i z, σ 28 i z ≤ 33) {r m m0 m1 m2 : Nat} (hr : r < 6) (h0 : jn ρ (33 * r) 33 m0) (h1 : jn ρ (198 + 33 * r) 33 m1) (h2 : jn ρ (396 + 33 * r) 33 m2) (hm : ∀ i, i < 4 → (m / 2 ^ i % 2 = 1 ↔ (m0 / 2 ^ i % 2 = 1 ∨ m1 / 2 ^ i % 2 = 1 ∨ m2 / 2 ^ i % 2 = 1))) : bc m = cs σ p r (ld σ p r) 4 := by
  have f : ∀ k mm b, k < 3 → b = 198 * k + 33 * r → jn ρ b 33 mm → ∀ i, i < 4 → (mm / 2 ^ i % 2 = 1 ↔ (¬ σ 29 p (slt k r i) = 0 ∧ (k = 0 → i = ld σ p r))) := by
    intro k mm b hk hb h i hi
    subst hb
    rw [h.2 i hi]
    constructor
    · rintro ⟨q, h1, h2⟩
      have := (src_iff bx hk hr hi).mp ((sv.1.2.1 k r q i hk hr h1 hi).mp h2)
      exact ⟨by omega, this.2⟩
    · rintro ⟨z1, z2⟩
      have b33 := bx33 bx mg hl (k := k) (r := r) (i := i) hk hr hi
      refine ⟨σ 29 p (slt k r i) - 1, by omega, ?_⟩
      rw [sv.1.2.1 k r _ i hk hr (by omega) hi, src_iff bx hk hr hi]
      exact ⟨by omega, z2⟩
  have e : ∀ i, i < 4 → m / 2 ^ i % 2 = if ¬ σ 29 p (slt 1 r i) = 0 ∨ ¬ σ 29 p (slt 2 r i) = 0 ∨ (i = ld σ p r ∧ ¬ σ 29 p (slt 0 r i) = 0) then 1 else 0 := by
    intro i hi
    refine bit_ite ?_
    rw [hm i hi, f 0 m0 _ (by decide) (by omega) h0 i hi, f 1 m1 _ (by decide) (by omega) h1 i hi, f 2 m2 _ (by decide) (by omega) h2 i hi]
    constructor
    · rintro (q | q | q)
      · exact Or.inr (Or.inr ⟨q.2 rfl, q.1⟩)
      · exact Or.inl q.1
      · exact Or.inr (Or.inl q.1)
    · rintro (q | q | q)
      · exact Or.inr (Or.inl ⟨q, fun z => by omega⟩)
      · exact Or.inr (Or.inr ⟨q, fun z => by omega⟩)
      · exact Or.inl ⟨q.2, fun _ => q.1⟩
  rw [bc_sum, e 0 (by decide), e 1 (by decide), e 2 (by decide), e 3 (by decide)]
  simp only [cs]
  omega

set_option maxHeartbeats 4000000 in
set_option maxRecDepth 100000 in
theorem lp_Mo_all {l : Launch} {D : va_G} {M nx : Nat} {L : Int32} {σ ρ : Sg} {g : Nat → Option va_E} {p : Nat} (sv : SV σ p ρ) (bx : BX σ p) (mg : MG σ (p / 4)) (hl : ∀ i z, σ 28 i z ≤ 33) (k r : Nat) (hk : k = 1 ∨ k = 2) (hr : r < 6) : ∀ (m : Nat) (q n : Nat), q ≤ 33 → 33 - q < m → jn ρ (198 * k + 33 * r) q n → J (G0 l D) jT m_Mo_all 1 (fun v h => v = some (.int (nI (ca σ p k r 4))) ∧ h = (hM D M L σ ρ g, nx)) 0 0 5 [some (.ref (M + 0)), some (.int (nI k)), some (.int (nI r)), some (.int (nI n)), some (.int (nI q))] [] (hM D M L σ ρ g, nx) := by
  intro m
  induction m with
  | zero =>
    intros
    exfalso
    omega
  | succ m ih =>
    intro q n h1 h2 hj
    refine j_iload d_Mo_all_5 rfl ?_
    refine j_bipush (v := nI 33) d_Mo_all_7 (by decide +kernel) ?_
    first | refine nn_icmp_ge (t := 39) d_Mo_all_9 (by decide) (by omega) (by omega) (fun c9 => ?_) (fun c9 => ?_) | refine mm_icmp_ge (t := 39) d_Mo_all_9 (by decide) (by omega) (by omega) (fun c9 => ?_) (fun c9 => ?_) | refine mn_icmp_ge (t := 39) d_Mo_all_9 (by decide) (by omega) (by omega) (fun c9 => ?_) (fun c9 => ?_) | refine nm_icmp_ge (t := 39) d_Mo_all_9 (by decide) (by omega) (by omega) (fun c9 => ?_) (fun c9 => ?_) | refine j_icmp_ge (t := 39) d_Mo_all_9 (by decide) (fun c9 => ?_) (fun c9 => ?_)
    · refine j_iload_n d_Mo_all_39 rfl ?_
      refine j_callS0 (As := [_]) G0_good G0_E d_Mo_all_40 c_Mo_149 rfl rfl rfl (m_bits n hj.1) (by decide) (Nat.le_of_ble_eq_true rfl) ?_
      rintro _ _ ⟨rfl, rfl⟩
      have hq : q = 33 := by omega
      subst hq
      exact j_iret d_Mo_all_43 rfl ⟨by rw [bc_ca sv bx mg hl hk hr hj], rfl⟩
    · refine j_iload_n d_Mo_all_12 rfl ?_
      first | refine j_aload_n d_Mo_all_13 rfl ?_ | refine j_aload_nq d_Mo_all_13 rfl ?_ | refine j_aload_nN d_Mo_all_13 rfl ?_
      refine j_get d_Mo_all_14 f_Mo_81 (hM_o (by decide)) rfl ?_
      refine j_sipush (v := nI 198) d_Mo_all_17 (by decide +kernel) ?_
      refine j_iload_n d_Mo_all_20 rfl ?_
      refine jn_imul d_Mo_all_21 ?_
      refine j_bipush (v := nI 33) d_Mo_all_22 (by decide +kernel) ?_
      refine j_iload_n d_Mo_all_24 rfl ?_
      refine jn_imul d_Mo_all_25 ?_
      refine jn_iadd d_Mo_all_26 ?_
      refine j_iload d_Mo_all_27 rfl ?_
      refine jn_iadd d_Mo_all_29 ?_
      refine j_iald (t := 0) d_Mo_all_30 rfl (hM_o (by decide)) rfl (by omega) (by decide) ?_
      refine j_ior d_Mo_all_31 ?_
      rw [or_nn _ hj.1 _ (sv.1.1 _ (by omega))]
      refine j_istore_n (lc' := [_, _, _, _, _]) d_Mo_all_32 (by decide) rfl rfl ?_
      refine n_iinc (k := 1) (lc' := [_, _, _, _, _]) d_Mo_all_33 (by decide +kernel) rfl (by decide) rfl rfl ?_
      refine j_goto (t := 5) d_Mo_all_36 (by decide) ?_
      exact ih _ _ (by omega) (by omega) (jn_s hj (sv.1.1 _ (by omega)))

set_option maxHeartbeats 4000000 in
set_option maxRecDepth 100000 in
theorem m_all {l : Launch} {D : va_G} {M nx : Nat} {L : Int32} {σ ρ : Sg} {g : Nat → Option va_E} {p : Nat} (sv : SV σ p ρ) (bx : BX σ p) (mg : MG σ (p / 4)) (hl : ∀ i z, σ 28 i z ≤ 33) (k r : Nat) (hk : k = 1 ∨ k = 2) (hr : r < 6) : jM (G0 l D) m_Mo_all 1 0 0 [.ref (M + 0), .int (nI k), .int (nI r)] (hM D M L σ ρ g, nx) (fun v h => v = some (.int (nI (ca σ p k r 4))) ∧ h = (hM D M L σ ρ g, nx)) := by
  refine jM.of (by decide +kernel) (Nat.le_of_ble_eq_true rfl) rfl ?_
  refine j_iconst (v := nI 0) d_Mo_all_0 (by decide +kernel) ?_
  refine j_istore_n (lc' := [_, _, _, _, _]) d_Mo_all_1 (by decide) rfl rfl ?_
  refine j_iconst (v := nI 0) d_Mo_all_2 (by decide +kernel) ?_
  refine j_istore (lc' := [_, _, _, _, _]) d_Mo_all_3 (by decide) rfl rfl ?_
  exact lp_Mo_all sv bx mg hl k r hk hr 34 0 0 (by omega) (by omega) jn_0

theorem or4 {a x y z : Nat} (ha : a < 16) (hx : x < 16) (hy : y < 16) (hz : z < 16) : nI a ||| nI x ||| nI y ||| nI z = nI (a ||| x ||| y ||| z) := by
  rw [or_nn _ ha _ hx, or_nn _ (or_lt _ ha _ hx) _ hy, or_nn _ (or_lt _ (or_lt _ ha _ hx) _ hy) _ hz]
def j3 (ρ : Sg) (r q n : Nat) : Prop := n < 16 ∧ ∃ m0 m1 m2, jn ρ (33 * r) q m0 ∧ jn ρ (198 + 33 * r) q m1 ∧ jn ρ (396 + 33 * r) q m2 ∧ ∀ i, i < 4 → (n / 2 ^ i % 2 = 1 ↔ (m0 / 2 ^ i % 2 = 1 ∨ m1 / 2 ^ i % 2 = 1 ∨ m2 / 2 ^ i % 2 = 1))
theorem j3_s {ρ : Sg} {r q n : Nat} (h : j3 ρ r q n) (a : ρ 0 0 (33 * r + q) < 16) (b : ρ 0 0 (198 + 33 * r + q) < 16) (c : ρ 0 0 (396 + 33 * r + q) < 16) : j3 ρ r (q + 1) (n ||| ρ 0 0 (33 * r + q) ||| ρ 0 0 (198 + 33 * r + q) ||| ρ 0 0 (396 + 33 * r + q)) := by
  obtain ⟨h0, m0, m1, m2, x0, x1, x2, hx⟩ := h
  refine ⟨or_lt _ (or_lt _ (or_lt _ h0 _ a) _ b) _ c, _, _, _, jn_s x0 a, jn_s x1 b, jn_s x2 c, fun i hi => ?_⟩
  rw [or_bit _ (or_lt _ (or_lt _ h0 _ a) _ b) _ c _ hi, or_bit _ (or_lt _ h0 _ a) _ b _ hi, or_bit _ h0 _ a _ hi, or_bit _ x0.1 _ a _ hi, or_bit _ x1.1 _ b _ hi, or_bit _ x2.1 _ c _ hi, hx i hi]
  constructor
  · rintro ((((q | q | q) | q) | q) | q) <;> simp [q]
  · rintro ((q | q) | (q | q) | (q | q)) <;> simp [q]

set_option maxHeartbeats 4000000 in
set_option maxRecDepth 100000 in
theorem lp_Mo_anyKind {l : Launch} {D : va_G} {M nx : Nat} {L : Int32} {σ ρ : Sg} {g : Nat → Option va_E} {p : Nat} (sv : SV σ p ρ) (bx : BX σ p) (mg : MG σ (p / 4)) (hl : ∀ i z, σ 28 i z ≤ 33) (r : Nat) (hr : r < 6) : ∀ (m : Nat) (q n : Nat), q ≤ 33 → 33 - q < m → j3 ρ r q n → J (G0 l D) jT m_Mo_anyKind 1 (fun v h => v = some (.int (nI (cs σ p r (ld σ p r) 4))) ∧ h = (hM D M L σ ρ g, nx)) 0 0 4 [some (.ref (M + 0)), some (.int (nI r)), some (.int (nI n)), some (.int (nI q))] [] (hM D M L σ ρ g, nx) := by
  intro m
  induction m with
  | zero =>
    intros
    exfalso
    omega
  | succ m ih =>
    intro q n h1 h2 hj
    refine j_iload_n d_Mo_anyKind_4 rfl ?_
    refine j_bipush (v := nI 33) d_Mo_anyKind_5 (by decide +kernel) ?_
    first | refine nn_icmp_ge (t := 62) d_Mo_anyKind_7 (by decide) (by omega) (by omega) (fun c7 => ?_) (fun c7 => ?_) | refine mm_icmp_ge (t := 62) d_Mo_anyKind_7 (by decide) (by omega) (by omega) (fun c7 => ?_) (fun c7 => ?_) | refine mn_icmp_ge (t := 62) d_Mo_anyKind_7 (by decide) (by omega) (by omega) (fun c7 => ?_) (fun c7 => ?_) | refine nm_icmp_ge (t := 62) d_Mo_anyKind_7 (by decide) (by omega) (by omega) (fun c7 => ?_) (fun c7 => ?_) | refine j_icmp_ge (t := 62) d_Mo_anyKind_7 (by decide) (fun c7 => ?_) (fun c7 => ?_)
    · refine j_iload_n d_Mo_anyKind_62 rfl ?_
      refine j_callS0 (As := [_]) G0_good G0_E d_Mo_anyKind_63 c_Mo_149 rfl rfl rfl (m_bits n hj.1) (by decide) (Nat.le_of_ble_eq_true rfl) ?_
      rintro _ _ ⟨rfl, rfl⟩
      have hq : q = 33 := by omega
      subst hq
      obtain ⟨-, m0, m1, m2, y0, y1, y2, hy⟩ := hj
      exact j_iret d_Mo_anyKind_66 rfl ⟨by rw [bc_cs sv bx mg hl hr y0 y1 y2 hy], rfl⟩
    · refine j_iload_n d_Mo_anyKind_10 rfl ?_
      first | refine j_aload_n d_Mo_anyKind_11 rfl ?_ | refine j_aload_nq d_Mo_anyKind_11 rfl ?_ | refine j_aload_nN d_Mo_anyKind_11 rfl ?_
      refine j_get d_Mo_anyKind_12 f_Mo_81 (hM_o (by decide)) rfl ?_
      refine j_bipush (v := nI 33) d_Mo_anyKind_15 (by decide +kernel) ?_
      refine j_iload_n d_Mo_anyKind_17 rfl ?_
      refine jn_imul d_Mo_anyKind_18 ?_
      refine j_iload_n d_Mo_anyKind_19 rfl ?_
      refine jn_iadd d_Mo_anyKind_20 ?_
      refine j_iald (t := 0) d_Mo_anyKind_21 rfl (hM_o (by decide)) rfl (by omega) (by decide) ?_
      refine j_ior d_Mo_anyKind_22 ?_
      first | refine j_aload_n d_Mo_anyKind_23 rfl ?_ | refine j_aload_nq d_Mo_anyKind_23 rfl ?_ | refine j_aload_nN d_Mo_anyKind_23 rfl ?_
      refine j_get d_Mo_anyKind_24 f_Mo_81 (hM_o (by decide)) rfl ?_
      refine j_sipush (v := nI 198) d_Mo_anyKind_27 (by decide +kernel) ?_
      refine j_bipush (v := nI 33) d_Mo_anyKind_30 (by decide +kernel) ?_
      refine j_iload_n d_Mo_anyKind_32 rfl ?_
      refine jn_imul d_Mo_anyKind_33 ?_
      refine jn_iadd d_Mo_anyKind_34 ?_
      refine j_iload_n d_Mo_anyKind_35 rfl ?_
      refine jn_iadd d_Mo_anyKind_36 ?_
      refine j_iald (t := 0) d_Mo_anyKind_37 rfl (hM_o (by decide)) rfl (by omega) (by decide) ?_
      refine j_ior d_Mo_anyKind_38 ?_
      first | refine j_aload_n d_Mo_anyKind_39 rfl ?_ | refine j_aload_nq d_Mo_anyKind_39 rfl ?_ | refine j_aload_nN d_Mo_anyKind_39 rfl ?_
      refine j_get d_Mo_anyKind_40 f_Mo_81 (hM_o (by decide)) rfl ?_
      refine j_sipush (v := nI 396) d_Mo_anyKind_43 (by decide +kernel) ?_
      refine j_bipush (v := nI 33) d_Mo_anyKind_46 (by decide +kernel) ?_
      refine j_iload_n d_Mo_anyKind_48 rfl ?_
      refine jn_imul d_Mo_anyKind_49 ?_
      refine jn_iadd d_Mo_anyKind_50 ?_
      refine j_iload_n d_Mo_anyKind_51 rfl ?_
      refine jn_iadd d_Mo_anyKind_52 ?_
      refine j_iald (t := 0) d_Mo_anyKind_53 rfl (hM_o (by decide)) rfl (by omega) (by decide) ?_
      refine j_ior d_Mo_anyKind_54 ?_
      rw [or4 hj.1 (sv.1.1 _ (by omega)) (sv.1.1 _ (by omega)) (sv.1.1 _ (by omega))]
      refine j_istore_n (lc' := [_, _, _, _]) d_Mo_anyKind_55 (by decide) rfl rfl ?_
      refine n_iinc (k := 1) (lc' := [_, _, _, _]) d_Mo_anyKind_56 (by decide +kernel) rfl (by decide) rfl rfl ?_
      refine j_goto (t := 4) d_Mo_anyKind_59 (by decide) ?_
      exact ih _ _ (by omega) (by omega) (j3_s hj (sv.1.1 _ (by omega)) (sv.1.1 _ (by omega)) (sv.1.1 _ (by omega)))

set_option maxHeartbeats 4000000 in
set_option maxRecDepth 100000 in
theorem m_anyKind {l : Launch} {D : va_G} {M nx : Nat} {L : Int32} {σ ρ : Sg} {g : Nat → Option va_E} {p : Nat} (sv : SV σ p ρ) (bx : BX σ p) (mg : MG σ (p / 4)) (hl : ∀ i z, σ 28 i z ≤ 33) (r : Nat) (hr : r < 6) : jM (G0 l D) m_Mo_anyKind 1 0 0 [.ref (M + 0), .int (nI r)] (hM D M L σ ρ g, nx) (fun v h => v = some (.int (nI (cs σ p r (ld σ p r) 4))) ∧ h = (hM D M L σ ρ g, nx)) := by
  refine jM.of (by decide +kernel) (Nat.le_of_ble_eq_true rfl) rfl ?_
  refine j_iconst (v := nI 0) d_Mo_anyKind_0 (by decide +kernel) ?_
  refine j_istore_n (lc' := [_, _, _, _]) d_Mo_anyKind_1 (by decide) rfl rfl ?_
  refine j_iconst (v := nI 0) d_Mo_anyKind_2 (by decide +kernel) ?_
  refine j_istore_n (lc' := [_, _, _, _]) d_Mo_anyKind_3 (by decide) rfl rfl ?_
  exact lp_Mo_anyKind sv bx mg hl r hr 34 0 0 (by omega) (by omega) ⟨by decide, 0, 0, 0, jn_0, jn_0, jn_0, fun i _ => by rw [Nat.zero_div]; simp⟩
