/-! The reference: the survey (g_mo3.py) -/
abbrev Src : Type := Nat → Nat → Nat → Nat → Nat → Prop
/-- the scratch holds what was counted: kind, round, sender, request + 1, candidate's round + 1 -/
def INV (S : Src) (ρ : Sg) : Prop :=
  (∀ z, z < 594 → ρ 0 0 z < 16) ∧
  (∀ k r x i, k < 3 → r < 6 → x < 33 → i < 4 → (ρ 0 0 (198 * k + 33 * r + x) / 2 ^ i % 2 = 1 ↔ ∃ y, S k r i x y)) ∧
  (∀ r, r < 6 → (ρ 1 0 r = 0 ∧ ∀ i x y, ¬ S 0 r i x y) ∨ ∃ i, S 0 r i (ρ 1 0 r) (ρ 2 0 r))
def OWN (O : Nat → Prop) (ρ : Sg) : Prop := ∀ r, r < 6 → ρ 3 0 r < 2 ∧ (¬ ρ 3 0 r = 0 ↔ O r)
theorem tks_bit : ∀ m, m < 16 → ∀ i, i < 4 → ∀ j, j < 4 → (tks m i / 2 ^ j % 2 = 1 ↔ (j = i ∨ m / 2 ^ j % 2 = 1)) := by decide +kernel
theorem cnt_0 {ρ : Sg} {k i r x y z : Nat} : cnt ρ k i r x y 0 0 z = if z = 198 * k + 33 * r + x then tks (ρ 0 0 (198 * k + 33 * r + x)) i else ρ 0 0 z := by
  unfold cnt
  by_cases h : k = 0
  · rw [if_pos h, U_ne (by decide), U_ne (by decide), U_at]; simp
  · rw [if_neg h, U_at]; simp
theorem cnt_1 {ρ : Sg} {k i r x y z : Nat} : cnt ρ k i r x y 1 0 z = if k = 0 ∧ z = r then x else ρ 1 0 z := by
  unfold cnt
  by_cases h : k = 0
  · rw [if_pos h, U_ne (by decide), U_at, U_ne (by decide)]; simp [h]
  · rw [if_neg h, U_ne (by decide)]; simp [h]
theorem cnt_2 {ρ : Sg} {k i r x y z : Nat} : cnt ρ k i r x y 2 0 z = if k = 0 ∧ z = r then y else ρ 2 0 z := by
  unfold cnt
  by_cases h : k = 0
  · rw [if_pos h, U_at, U_ne (by decide), U_ne (by decide)]; simp [h]
  · rw [if_neg h, U_ne (by decide)]; simp [h]
theorem cnt_3 {ρ : Sg} {k i r x y : Nat} : cnt ρ k i r x y 3 = ρ 3 := by
  unfold cnt
  by_cases h : k = 0
  · rw [if_pos h, U_ne (by decide), U_ne (by decide), U_ne (by decide)]
  · rw [if_neg h, U_ne (by decide)]
theorem INV_congr {S S' : Src} {ρ : Sg} (h : INV S ρ) (e : ∀ k r i x y, S k r i x y ↔ S' k r i x y) : INV S' ρ := by
  have : S = S' := by funext k r i x y; exact propext (e k r i x y)
  rw [← this]; exact h
theorem OWN_congr {O O' : Nat → Prop} {ρ : Sg} (h : OWN O ρ) (e : ∀ r, r < 6 → (O r ↔ O' r)) : OWN O' ρ := fun r hr => ⟨(h r hr).1, (h r hr).2.trans (e r hr)⟩
theorem INV_cnt {S S' : Src} {ρ : Sg} {k i r x y : Nat} (h : INV S ρ) (hk : k < 3) (hi : i < 4) (hr : r < 6) (hx : x < 33) (e : ∀ k' r' i' x' y', S' k' r' i' x' y' ↔ (S k' r' i' x' y' ∨ (k' = k ∧ r' = r ∧ i' = i ∧ x' = x ∧ y' = y))) : INV S' (cnt ρ k i r x y) := by
  obtain ⟨h1, h2, h3⟩ := h
  refine ⟨fun z hz => ?_, fun k' r' x' i' hk' hr' hx' hi' => ?_, fun r' hr' => ?_⟩
  · rw [cnt_0]
    split
    · exact tks_lt _ (h1 _ (by omega)) _ hi
    · exact h1 z hz
  · rw [cnt_0]
    split
    · next c =>
      have hc : k' = k ∧ r' = r ∧ x' = x := by omega
      obtain ⟨rfl, rfl, rfl⟩ := hc
      rw [tks_bit _ (h1 _ (by omega)) _ hi _ hi', h2 k' r' x' i' hk' hr' hx' hi']
      constructor
      · rintro (q | ⟨y', q⟩)
        · exact ⟨y, (e _ _ _ _ _).mpr (Or.inr ⟨rfl, rfl, q, rfl, rfl⟩)⟩
        · exact ⟨y', (e _ _ _ _ _).mpr (Or.inl q)⟩
      · rintro ⟨y', q⟩
        rcases (e _ _ _ _ _).mp q with q | q
        · exact Or.inr ⟨y', q⟩
        · exact Or.inl q.2.2.1
    · next c =>
      rw [h2 k' r' x' i' hk' hr' hx' hi']
      constructor
      · rintro ⟨y', q⟩
        exact ⟨y', (e _ _ _ _ _).mpr (Or.inl q)⟩
      · rintro ⟨y', q⟩
        rcases (e _ _ _ _ _).mp q with q | q
        · exact ⟨y', q⟩
        · obtain ⟨rfl, rfl, -, rfl, -⟩ := q
          exact absurd rfl c
  · rw [cnt_1, cnt_2]
    by_cases c : k = 0 ∧ r' = r
    · rw [if_pos c, if_pos c]
      exact Or.inr ⟨i, (e _ _ _ _ _).mpr (Or.inr ⟨c.1.symm, c.2, rfl, rfl, rfl⟩)⟩
    · rw [if_neg c, if_neg c]
      rcases h3 r' hr' with ⟨q1, q2⟩ | ⟨i', q⟩
      · refine Or.inl ⟨q1, fun i' x' y' z => ?_⟩
        rcases (e _ _ _ _ _).mp z with z | z
        · exact q2 _ _ _ z
        · exact c ⟨z.1.symm, z.2.1⟩
      · exact Or.inr ⟨i', (e _ _ _ _ _).mpr (Or.inl q)⟩
/-- p has message j, and it is of its height -/
def hrs (σ : Sg) (p j : Nat) : Prop := σ 27 (p / 4) j / 2 ^ (p % 4) % 2 = 1 ∧ σ 23 (p / 4) j = σ 10 p 0
def Sm (σ : Sg) (p m : Nat) : Src := fun k r i x y => ∃ j, j < m ∧ hrs σ p j ∧ σ 21 (p / 4) j = k ∧ σ 24 (p / 4) j = r ∧ σ 22 (p / 4) j = i ∧ σ 25 (p / 4) j = x ∧ σ 26 (p / 4) j = y
def Om (σ : Sg) (p m r : Nat) : Prop := ∃ j, j < m ∧ hrs σ p j ∧ σ 21 (p / 4) j = 0 ∧ σ 24 (p / 4) j = r ∧ σ 22 (p / 4) j = p % 4
theorem Sm_skip {σ : Sg} {p m : Nat} (h : ¬ hrs σ p m) (k r i x y : Nat) : Sm σ p m k r i x y ↔ Sm σ p (m + 1) k r i x y := by
  constructor
  · rintro ⟨j, hj, q⟩
    exact ⟨j, by omega, q⟩
  · rintro ⟨j, hj, q⟩
    by_cases e : j = m
    · subst e; exact absurd q.1 h
    · exact ⟨j, by omega, q⟩
theorem Om_skip {σ : Sg} {p m : Nat} (h : ¬ (hrs σ p m ∧ σ 21 (p / 4) m = 0 ∧ σ 22 (p / 4) m = p % 4)) (r : Nat) : Om σ p m r ↔ Om σ p (m + 1) r := by
  constructor
  · rintro ⟨j, hj, q⟩
    exact ⟨j, by omega, q⟩
  · rintro ⟨j, hj, q⟩
    by_cases e : j = m
    · subst e; exact absurd ⟨q.1, q.2.1, q.2.2.2⟩ h
    · exact ⟨j, by omega, q⟩
theorem Sm_step {σ : Sg} {p m : Nat} (h : hrs σ p m) (k r i x y : Nat) : Sm σ p (m + 1) k r i x y ↔ (Sm σ p m k r i x y ∨ (k = σ 21 (p / 4) m ∧ r = σ 24 (p / 4) m ∧ i = σ 22 (p / 4) m ∧ x = σ 25 (p / 4) m ∧ y = σ 26 (p / 4) m)) := by
  constructor
  · rintro ⟨j, hj, q⟩
    by_cases e : j = m
    · subst e; exact Or.inr ⟨q.2.1.symm, q.2.2.1.symm, q.2.2.2.1.symm, q.2.2.2.2.1.symm, q.2.2.2.2.2.symm⟩
    · exact Or.inl ⟨j, by omega, q⟩
  · rintro (⟨j, hj, q⟩ | q)
    · exact ⟨j, by omega, q⟩
    · exact ⟨m, by omega, h, q.1.symm, q.2.1.symm, q.2.2.1.symm, q.2.2.2.1.symm, q.2.2.2.2.symm⟩
theorem OWN_set {σ ρ : Sg} {p m : Nat} (ho : OWN (Om σ p m) ρ) (h : hrs σ p m ∧ σ 21 (p / 4) m = 0 ∧ σ 22 (p / 4) m = p % 4) : OWN (Om σ p (m + 1)) (U ρ 3 0 (σ 24 (p / 4) m) 1) := by
  intro r hr
  rw [U_at]
  by_cases e : r = σ 24 (p / 4) m
  · rw [if_pos ⟨rfl, e⟩]
    exact ⟨by decide, fun _ => ⟨m, by omega, h.1, h.2.1, e.symm, h.2.2⟩, fun _ => by decide⟩
  · rw [if_neg (fun z => e z.2)]
    refine ⟨(ho r hr).1, (ho r hr).2.trans ?_⟩
    constructor
    · rintro ⟨j, hj, q⟩
      exact ⟨j, by omega, q⟩
    · rintro ⟨j, hj, q⟩
      by_cases ej : j = m
      · subst ej; exact absurd q.2.2.1.symm e
      · exact ⟨j, by omega, q⟩
/-- the lie that p heard -/
def lieV (σ : Sg) (p k r : Nat) : Nat := σ 28 (3 * (p / 4) + p % 4) (102 * k + 6 * σ 10 p 0 + r)
def Sl (σ : Sg) (p kk rr : Nat) : Src := fun k r i x y => Sm σ p (σ 20 (p / 4) 0) k r i x y ∨ (p % 4 < 3 ∧ i = 3 ∧ y = 0 ∧ x + 1 = lieV σ p k r ∧ (0 < k ∨ ld σ p r = 3) ∧ k < 3 ∧ r < 6 ∧ (k < kk ∨ (k = kk ∧ r < rr)))
/-- what the survey leaves -/
def SV (σ : Sg) (p : Nat) (ρ : Sg) : Prop := INV (Sl σ p 3 0) ρ ∧ OWN (Om σ p (σ 20 (p / 4) 0)) ρ
/-- messages of a shard are in order -/
def MG (σ : Sg) (s : Nat) : Prop := σ 20 s 0 ≤ 918 ∧ ∀ j, j < σ 20 s 0 → σ 21 s j < 3 ∧ σ 22 s j < 4 ∧ σ 23 s j < 100 ∧ σ 24 s j < 6 ∧ σ 25 s j < 33 ∧ σ 26 s j < 100 ∧ σ 27 s j < 16
theorem MG.mb {σ : Sg} {s j : Nat} (h : MG σ s) (hj : j < σ 20 s 0) : MB σ s j := by
  obtain ⟨h1, h2, h3, h4, h5, h6, h7⟩ := h.2 j hj
  exact ⟨by omega, by omega, h3, by omega, by omega, h6⟩
theorem nI_sub1 (x : Nat) : nI x - nI 1 = mI x := by unfold mI; rw [show nI 1 = 1 by decide +kernel]
theorem nI_sub2 {x : Nat} (h : ¬ x = 0) : nI x - nI 2 = mI (x - 1) := by
  obtain ⟨n, rfl⟩ : ∃ n, x = n + 1 := ⟨x - 1, by omega⟩
  have e : nI 2 = nI 1 + 1 := by decide +kernel
  rw [e, Nat.add_sub_cancel]
  unfold mI
  rw [← nI_pred n, show nI 1 = 1 by decide +kernel]
  rw [Int32.sub_eq_add_neg, Int32.sub_eq_add_neg, Int32.sub_eq_add_neg, Int32.add_assoc]
  rfl
theorem n_if_gt {G : jG} {Z : State → (Nat → Prop) → Prop} {u : jMt} {d n sn pc : Nat} {Q : Option Value → jH → Prop} {lc : List (Option Value)} {st : List Value} {h : jH} {a : Nat} {o : Int} {t : Nat} (hd : jd u pc (.ifCond .gt o) 3) (ht : (pc : Int) + o = (t : Int)) (ha : a < 2 ^ 31) (kt : ¬ a = 0 → J G Z u d Q n sn t lc st h) (kf : a = 0 → J G Z u d Q n sn (pc + 3) lc st h) : J G Z u d Q n sn pc lc (.int (nI a) :: st) h :=
  j_if_gt hd ht (fun q => kt (by have := (n0_gt ha).mp q; omega)) (fun q => kf (Decidable.byContradiction fun z => q ((n0_gt ha).mpr (by omega))))

theorem lskip0 {σ : Sg} {p kk rr : Nat} (hr : rr < 6) (hv : lieV σ p kk rr = 0) (k r i x y : Nat) : Sl σ p kk rr k r i x y ↔ Sl σ p kk (rr + 1) k r i x y := by
  unfold Sl
  constructor
  · rintro (q | q)
    · exact Or.inl q
    · exact Or.inr (by omega)
  · rintro (q | q)
    · exact Or.inl q
    · refine Or.inr ?_
      by_cases e : k = kk ∧ r = rr
      · obtain ⟨rfl, rfl⟩ := e
        omega
      · omega
theorem lskip {σ : Sg} {p kk rr : Nat} (hk : kk < 3) (hr : rr < 6) (hv : ¬ (0 < kk ∨ ld σ p rr = 3)) (k r i x y : Nat) : Sl σ p kk rr k r i x y ↔ Sl σ p kk (rr + 1) k r i x y := by
  unfold Sl
  constructor
  · rintro (q | q)
    · exact Or.inl q
    · exact Or.inr (by omega)
  · rintro (q | q)
    · exact Or.inl q
    · refine Or.inr ?_
      by_cases e : k = kk ∧ r = rr
      · obtain ⟨rfl, rfl⟩ := e
        exact absurd q.2.2.2.2.1 hv
      · omega
theorem lstep {σ : Sg} {p kk rr : Nat} (h3 : p % 4 < 3) (hk : kk < 3) (hr : rr < 6) (hv : ¬ lieV σ p kk rr = 0) (hc : 0 < kk ∨ ld σ p rr = 3) (k r i x y : Nat) : Sl σ p kk (rr + 1) k r i x y ↔ (Sl σ p kk rr k r i x y ∨ (k = kk ∧ r = rr ∧ i = 3 ∧ x = lieV σ p kk rr - 1 ∧ y = 0)) := by
  unfold Sl
  constructor
  · rintro (q | q)
    · exact Or.inl (Or.inl q)
    · by_cases e : k = kk ∧ r = rr
      · obtain ⟨rfl, rfl⟩ := e
        exact Or.inr ⟨rfl, rfl, q.2.1, by omega, q.2.2.1⟩
      · exact Or.inl (Or.inr (by omega))
  · rintro ((q | q) | q)
    · exact Or.inl q
    · exact Or.inr (by omega)
    · obtain ⟨rfl, rfl, rfl, rfl, rfl⟩ := q
      exact Or.inr ⟨h3, rfl, rfl, by omega, hc, hk, hr, Or.inr ⟨rfl, by omega⟩⟩

theorem INV_own {S : Src} {ρ : Sg} {r v : Nat} (h : INV S ρ) : INV S (U ρ 3 0 r v) := by
  refine ⟨fun z hz => ?_, fun k r x i h1 h2 h3 h4 => ?_, fun r hr => ?_⟩
  · rw [U_ne (by decide)]; exact h.1 z hz
  · rw [U_ne (by decide)]; exact h.2.1 k r x i h1 h2 h3 h4
  · rw [U_ne (by decide), U_ne (by decide)]; exact h.2.2 r hr
theorem INV_0 {σ : Sg} {p : Nat} {ρ : Sg} (h0 : ∀ z, z < 594 → ρ 0 0 z = 0) (h1 : ∀ r, r < 6 → ρ 1 0 r = 0) : INV (Sm σ p 0) ρ := by
  refine ⟨fun z hz => by rw [h0 z hz]; decide, fun k r x i a b c e => ?_, fun r hr => Or.inl ⟨h1 r hr, fun i x y q => ?_⟩⟩
  · rw [h0 _ (by omega), Nat.zero_div]
    constructor
    · intro q; exact absurd q (by decide)
    · rintro ⟨y, j, hj, -⟩; omega
  · obtain ⟨j, hj, -⟩ := q; omega
theorem OWN_0 {σ : Sg} {p : Nat} {ρ : Sg} (h3 : ∀ r, r < 6 → ρ 3 0 r = 0) : OWN (Om σ p 0) ρ := by
  intro r hr
  rw [h3 r hr]
  refine ⟨by decide, fun q => absurd rfl q, ?_⟩
  rintro ⟨j, hj, -⟩; omega

set_option maxHeartbeats 4000000 in
set_option maxRecDepth 100000 in
theorem lp_sv_e {l : Launch} {D : va_G} {M nx : Nat} {L : Int32} {σ : Sg} {g : Nat → Option va_E} (hb : bd σ) {p : Nat} (hp : p < 8) (mg : MG σ (p / 4)) (h16 : σ 10 p 0 ≤ 16) (hl : ∀ i z, σ 28 i z ≤ 33) (h3 : p % 4 < 3) (kk : Nat) (hkk : kk < 3) (kD : ∀ (ρ : Sg) (x4 x5 : Option Value), INV (Sl σ p (kk + 1) 0) ρ → OWN (Om σ p (σ 20 (p / 4) 0)) ρ → J (G0 l D) jT m_Mo_survey 1 (fun v h => v = none ∧ ∃ ρ', h = (hM D M L σ ρ' g, nx) ∧ SV σ p ρ') 0 0 194 [some (.ref (M + 0)), some (.int (nI p)), some (.int (nI (p / 4))), some (.int (nI (kk + 1))), x4, x5] [] (hM D M L σ ρ g, nx)) : ∀ (m : Nat) (rr : Nat) (ρ : Sg) (x5 : Option Value), rr ≤ 6 → 6 - rr < m → INV (Sl σ p kk rr) ρ → OWN (Om σ p (σ 20 (p / 4) 0)) ρ → J (G0 l D) jT m_Mo_survey 1 (fun v h => v = none ∧ ∃ ρ', h = (hM D M L σ ρ' g, nx) ∧ SV σ p ρ') 0 0 209 [some (.ref (M + 0)), some (.int (nI p)), some (.int (nI (p / 4))), some (.int (nI kk)), some (.int (nI rr)), x5] [] (hM D M L σ ρ g, nx) := by
  intro m
  induction m with
  | zero =>
    intros
    exfalso
    omega
  | succ m ih =>
    intro rr ρ x5 h1 h2 hi ho
    have b10 := hb 10 p 0
    have hl1 := hl (3 * (p / 4) + p % 4) (102 * kk + 6 * σ 10 p 0 + rr)
    refine j_iload d_Mo_survey_209 rfl ?_
    refine j_bipush (v := nI 6) d_Mo_survey_211 (by decide +kernel) ?_
    first | refine nn_icmp_ge (t := 280) d_Mo_survey_213 (by decide) (by omega) (by omega) (fun c213 => ?_) (fun c213 => ?_) | refine mm_icmp_ge (t := 280) d_Mo_survey_213 (by decide) (by omega) (by omega) (fun c213 => ?_) (fun c213 => ?_) | refine mn_icmp_ge (t := 280) d_Mo_survey_213 (by decide) (by omega) (by omega) (fun c213 => ?_) (fun c213 => ?_) | refine nm_icmp_ge (t := 280) d_Mo_survey_213 (by decide) (by omega) (by omega) (fun c213 => ?_) (fun c213 => ?_) | refine j_icmp_ge (t := 280) d_Mo_survey_213 (by decide) (fun c213 => ?_) (fun c213 => ?_)
    · refine n_iinc (k := 1) (lc' := [_, _, _, _, _, _]) d_Mo_survey_280 (by decide +kernel) rfl (by decide) rfl rfl ?_
      refine j_goto (t := 194) d_Mo_survey_283 (by decide) ?_
      have hr6 : rr = 6 := by omega
      subst hr6
      exact kD _ _ _ (INV_congr hi (fun k r i x y => by unfold Sl; constructor <;> rintro (q | q) <;> first | exact Or.inl q | exact Or.inr (by omega))) ho
    · first | refine j_aload_n d_Mo_survey_216 rfl ?_ | refine j_aload_nq d_Mo_survey_216 rfl ?_ | refine j_aload_nN d_Mo_survey_216 rfl ?_
      refine j_get d_Mo_survey_217 f_Mo_78 (hM_o (by decide)) rfl ?_
      first | refine j_aload_n d_Mo_survey_220 rfl ?_ | refine j_aload_nq d_Mo_survey_220 rfl ?_ | refine j_aload_nN d_Mo_survey_220 rfl ?_
      refine j_iload_n d_Mo_survey_221 rfl ?_
      refine j_iload_n d_Mo_survey_222 rfl ?_
      first | refine j_aload_n d_Mo_survey_223 rfl ?_ | refine j_aload_nq d_Mo_survey_223 rfl ?_ | refine j_aload_nN d_Mo_survey_223 rfl ?_
      refine j_get d_Mo_survey_224 f_Mo_37 (hM_o (by decide)) rfl ?_
      refine j_iload_n d_Mo_survey_227 rfl ?_
      refine j_iald (t := 0) d_Mo_survey_228 rfl (hM_o (by decide)) rfl (by omega) (by decide) ?_
      refine j_iload d_Mo_survey_229 rfl ?_
      refine j_callV0 (As := [_, _, _, _]) G0_good G0_E d_Mo_survey_231 c_Mo_145 rfl rfl (m_lieAt p kk (σ 10 p 0) rr hp) (hM_o (by decide)) rfl rfl (by decide) (Nat.le_of_ble_eq_true rfl) ?_
      rintro _ _ ⟨rfl, rfl⟩
      refine o_fld (t := 0) (w := 306) d_Mo_survey_234 rfl (hM_o (by decide)) rfl (by omega) (by omega) (by decide) ?_
      refine j_istore (lc' := [_, _, _, _, _, _]) d_Mo_survey_235 (by decide) rfl rfl ?_
      refine j_iload d_Mo_survey_237 rfl ?_
      first | refine n_if_le (t := 274) d_Mo_survey_239 (by decide) (by omega) (fun c239 => ?_) (fun c239 => ?_) | refine j_if_le (t := 274) d_Mo_survey_239 (by decide) (fun c239 => ?_) (fun c239 => ?_)
      · refine n_iinc (k := 1) (lc' := [_, _, _, _, _, _]) d_Mo_survey_274 (by decide +kernel) rfl (by decide) rfl rfl ?_
        refine j_goto (t := 209) d_Mo_survey_277 (by decide) ?_
        exact ih _ _ _ (by omega) (by omega) (INV_congr hi (lskip0 (by omega) c239)) ho
      · refine j_iload_n d_Mo_survey_242 rfl ?_
        refine n_if_gt (t := 261) d_Mo_survey_243 (by decide) (by omega) (fun c243 => ?_) (fun c243 => ?_)
        · first | refine j_aload_n d_Mo_survey_261 rfl ?_ | refine j_aload_nq d_Mo_survey_261 rfl ?_ | refine j_aload_nN d_Mo_survey_261 rfl ?_
          refine j_iload_n d_Mo_survey_262 rfl ?_
          refine j_iconst (v := nI 3) d_Mo_survey_263 (by decide +kernel) ?_
          refine j_iload d_Mo_survey_264 rfl ?_
          refine j_iload d_Mo_survey_266 rfl ?_
          refine j_iconst (v := nI 2) d_Mo_survey_268 (by decide +kernel) ?_
          refine j_isub d_Mo_survey_269 ?_
          rw [nI_sub2 c239]
          refine j_iconst (v := mI 0) d_Mo_survey_270 (by decide +kernel) ?_
          refine j_callV0 (As := [_, _, _, _, _]) G0_good G0_E d_Mo_survey_271 c_Mo_141 rfl rfl (m_count kk 3 rr (σ 28 (3 * (p / 4) + p % 4) (102 * kk + 6 * σ 10 p 0 + rr) - 1) 0 hkk (by decide) (by omega) (by omega) (hi.1 _ (by omega))) (hM_o (by decide)) rfl rfl (by decide) (Nat.le_of_ble_eq_true rfl) ?_
          rintro _ _ ⟨rfl, rfl⟩
          refine n_iinc (k := 1) (lc' := [_, _, _, _, _, _]) d_Mo_survey_274 (by decide +kernel) rfl (by decide) rfl rfl ?_
          refine j_goto (t := 209) d_Mo_survey_277 (by decide) ?_
          exact ih _ _ _ (by omega) (by omega) (INV_cnt hi hkk (by decide) (by omega) (by omega) (lstep h3 (by omega) (by omega) c239 (by unfold ld; omega))) (by intro r hr; rw [cnt_3]; exact ho r hr)
        · first | refine j_aload_n d_Mo_survey_246 rfl ?_ | refine j_aload_nq d_Mo_survey_246 rfl ?_ | refine j_aload_nN d_Mo_survey_246 rfl ?_
          refine j_get d_Mo_survey_247 f_Mo_37 (hM_o (by decide)) rfl ?_
          refine j_iload_n d_Mo_survey_250 rfl ?_
          refine j_iald (t := 0) d_Mo_survey_251 rfl (hM_o (by decide)) rfl (by omega) (by decide) ?_
          refine j_iload d_Mo_survey_252 rfl ?_
          refine jn_iadd d_Mo_survey_254 ?_
          refine j_iconst (v := nI 4) d_Mo_survey_255 (by decide +kernel) ?_
          refine jn_irem d_Mo_survey_256 (by omega) (by decide) (by decide) ?_
          refine j_iconst (v := nI 3) d_Mo_survey_257 (by decide +kernel) ?_
          first | refine nn_icmp_ne (t := 274) d_Mo_survey_258 (by decide) (by omega) (by omega) (fun c258 => ?_) (fun c258 => ?_) | refine mm_icmp_ne (t := 274) d_Mo_survey_258 (by decide) (by omega) (by omega) (fun c258 => ?_) (fun c258 => ?_) | refine mn_icmp_ne (t := 274) d_Mo_survey_258 (by decide) (by omega) (by omega) (fun c258 => ?_) (fun c258 => ?_) | refine nm_icmp_ne (t := 274) d_Mo_survey_258 (by decide) (by omega) (by omega) (fun c258 => ?_) (fun c258 => ?_) | refine j_icmp_ne (t := 274) d_Mo_survey_258 (by decide) (fun c258 => ?_) (fun c258 => ?_)
          · refine n_iinc (k := 1) (lc' := [_, _, _, _, _, _]) d_Mo_survey_274 (by decide +kernel) rfl (by decide) rfl rfl ?_
            refine j_goto (t := 209) d_Mo_survey_277 (by decide) ?_
            exact ih _ _ _ (by omega) (by omega) (INV_congr hi (lskip (by omega) (by omega) (fun q => by unfold ld at q; omega))) ho
          · first | refine j_aload_n d_Mo_survey_261 rfl ?_ | refine j_aload_nq d_Mo_survey_261 rfl ?_ | refine j_aload_nN d_Mo_survey_261 rfl ?_
            refine j_iload_n d_Mo_survey_262 rfl ?_
            refine j_iconst (v := nI 3) d_Mo_survey_263 (by decide +kernel) ?_
            refine j_iload d_Mo_survey_264 rfl ?_
            refine j_iload d_Mo_survey_266 rfl ?_
            refine j_iconst (v := nI 2) d_Mo_survey_268 (by decide +kernel) ?_
            refine j_isub d_Mo_survey_269 ?_
            rw [nI_sub2 c239]
            refine j_iconst (v := mI 0) d_Mo_survey_270 (by decide +kernel) ?_
            refine j_callV0 (As := [_, _, _, _, _]) G0_good G0_E d_Mo_survey_271 c_Mo_141 rfl rfl (m_count kk 3 rr (σ 28 (3 * (p / 4) + p % 4) (102 * kk + 6 * σ 10 p 0 + rr) - 1) 0 hkk (by decide) (by omega) (by omega) (hi.1 _ (by omega))) (hM_o (by decide)) rfl rfl (by decide) (Nat.le_of_ble_eq_true rfl) ?_
            rintro _ _ ⟨rfl, rfl⟩
            refine n_iinc (k := 1) (lc' := [_, _, _, _, _, _]) d_Mo_survey_274 (by decide +kernel) rfl (by decide) rfl rfl ?_
            refine j_goto (t := 209) d_Mo_survey_277 (by decide) ?_
            exact ih _ _ _ (by omega) (by omega) (INV_cnt hi hkk (by decide) (by omega) (by omega) (lstep h3 (by omega) (by omega) c239 (by unfold ld; omega))) (by intro r hr; rw [cnt_3]; exact ho r hr)

set_option maxHeartbeats 4000000 in
set_option maxRecDepth 100000 in
theorem lp_sv_d {l : Launch} {D : va_G} {M nx : Nat} {L : Int32} {σ : Sg} {g : Nat → Option va_E} (hb : bd σ) {p : Nat} (hp : p < 8) (mg : MG σ (p / 4)) (h16 : σ 10 p 0 ≤ 16) (hl : ∀ i z, σ 28 i z ≤ 33) : ∀ (m : Nat) (kk : Nat) (ρ : Sg) (x4 x5 : Option Value), kk ≤ 3 → 3 - kk < m → INV (Sl σ p kk 0) ρ → OWN (Om σ p (σ 20 (p / 4) 0)) ρ → J (G0 l D) jT m_Mo_survey 1 (fun v h => v = none ∧ ∃ ρ', h = (hM D M L σ ρ' g, nx) ∧ SV σ p ρ') 0 0 194 [some (.ref (M + 0)), some (.int (nI p)), some (.int (nI (p / 4))), some (.int (nI kk)), x4, x5] [] (hM D M L σ ρ g, nx) := by
  intro m
  induction m with
  | zero =>
    intros
    exfalso
    omega
  | succ m ih =>
    intro kk ρ x4 x5 h1 h2 hi ho
    refine j_iload_n d_Mo_survey_194 rfl ?_
    refine j_iconst (v := nI 3) d_Mo_survey_195 (by decide +kernel) ?_
    first | refine nn_icmp_ge (t := 286) d_Mo_survey_196 (by decide) (by omega) (by omega) (fun c196 => ?_) (fun c196 => ?_) | refine mm_icmp_ge (t := 286) d_Mo_survey_196 (by decide) (by omega) (by omega) (fun c196 => ?_) (fun c196 => ?_) | refine mn_icmp_ge (t := 286) d_Mo_survey_196 (by decide) (by omega) (by omega) (fun c196 => ?_) (fun c196 => ?_) | refine nm_icmp_ge (t := 286) d_Mo_survey_196 (by decide) (by omega) (by omega) (fun c196 => ?_) (fun c196 => ?_) | refine j_icmp_ge (t := 286) d_Mo_survey_196 (by decide) (fun c196 => ?_) (fun c196 => ?_)
    · have hk3 : kk = 3 := by omega
      subst hk3
      exact j_vret d_Mo_survey_286 rfl ⟨rfl, ρ, rfl, hi, ho⟩
    · refine j_iload_n d_Mo_survey_199 rfl ?_
      refine j_iconst (v := nI 4) d_Mo_survey_200 (by decide +kernel) ?_
      refine jn_irem d_Mo_survey_201 (by omega) (by decide) (by decide) ?_
      refine j_iconst (v := nI 3) d_Mo_survey_202 (by decide +kernel) ?_
      first | refine nn_icmp_ge (t := 286) d_Mo_survey_203 (by decide) (by omega) (by omega) (fun c203 => ?_) (fun c203 => ?_) | refine mm_icmp_ge (t := 286) d_Mo_survey_203 (by decide) (by omega) (by omega) (fun c203 => ?_) (fun c203 => ?_) | refine mn_icmp_ge (t := 286) d_Mo_survey_203 (by decide) (by omega) (by omega) (fun c203 => ?_) (fun c203 => ?_) | refine nm_icmp_ge (t := 286) d_Mo_survey_203 (by decide) (by omega) (by omega) (fun c203 => ?_) (fun c203 => ?_) | refine j_icmp_ge (t := 286) d_Mo_survey_203 (by decide) (fun c203 => ?_) (fun c203 => ?_)
      · exact j_vret d_Mo_survey_286 rfl ⟨rfl, ρ, rfl, INV_congr hi (fun k r i x y => by unfold Sl; constructor <;> rintro (q | q) <;> first | exact Or.inl q | omega), ho⟩
      · refine j_iconst (v := nI 0) d_Mo_survey_206 (by decide +kernel) ?_
        refine j_istore (lc' := [_, _, _, _, _, _]) d_Mo_survey_207 (by decide) rfl rfl ?_
        exact lp_sv_e hb hp mg h16 hl (by omega) kk (by omega) (fun ρ x4 x5 a b => ih _ _ _ _ (by omega) (by omega) a b) 7 0 _ _ (by omega) (by omega) hi ho

set_option maxHeartbeats 4000000 in
set_option maxRecDepth 100000 in
theorem lp_sv_c {l : Launch} {D : va_G} {M nx : Nat} {L : Int32} {σ : Sg} {g : Nat → Option va_E} (hb : bd σ) {p : Nat} (hp : p < 8) (mg : MG σ (p / 4)) (h16 : σ 10 p 0 ≤ 16) (hl : ∀ i z, σ 28 i z ≤ 33) : ∀ (m : Nat) (j : Nat) (ρ : Sg) (x4 : Option Value), j ≤ σ 20 (p / 4) 0 → σ 20 (p / 4) 0 - j < m → INV (Sm σ p j) ρ → OWN (Om σ p j) ρ → J (G0 l D) jT m_Mo_survey 1 (fun v h => v = none ∧ ∃ ρ', h = (hM D M L σ ρ' g, nx) ∧ SV σ p ρ') 0 0 60 [some (.ref (M + 0)), some (.int (nI p)), some (.int (nI (p / 4))), some (.int (nI (1000 * (p / 4) + j))), x4, none] [] (hM D M L σ ρ g, nx) := by
  intro m
  induction m with
  | zero =>
    intros
    exfalso
    omega
  | succ m ih =>
    intro j ρ x4 h1 h2 hi ho
    have b10 := hb 10 p 0
    have h918 := mg.1
    have hs : p / 4 < 2 := by omega
    refine j_iload_n d_Mo_survey_60 rfl ?_
    refine j_sipush (v := nI 1000) d_Mo_survey_61 (by decide +kernel) ?_
    refine j_iload_n d_Mo_survey_64 rfl ?_
    refine jn_imul d_Mo_survey_65 ?_
    first | refine j_aload_n d_Mo_survey_66 rfl ?_ | refine j_aload_nq d_Mo_survey_66 rfl ?_ | refine j_aload_nN d_Mo_survey_66 rfl ?_
    refine j_get d_Mo_survey_67 f_Mo_68 (hM_o (by decide)) rfl ?_
    refine j_iload_n d_Mo_survey_70 rfl ?_
    refine j_iald (t := 0) d_Mo_survey_71 rfl (hM_o (by decide)) rfl (by omega) (by decide) ?_
    refine jn_iadd d_Mo_survey_72 ?_
    first | refine nn_icmp_ge (t := 192) d_Mo_survey_73 (by decide) (by omega) (by omega) (fun c73 => ?_) (fun c73 => ?_) | refine mm_icmp_ge (t := 192) d_Mo_survey_73 (by decide) (by omega) (by omega) (fun c73 => ?_) (fun c73 => ?_) | refine mn_icmp_ge (t := 192) d_Mo_survey_73 (by decide) (by omega) (by omega) (fun c73 => ?_) (fun c73 => ?_) | refine nm_icmp_ge (t := 192) d_Mo_survey_73 (by decide) (by omega) (by omega) (fun c73 => ?_) (fun c73 => ?_) | refine j_icmp_ge (t := 192) d_Mo_survey_73 (by decide) (fun c73 => ?_) (fun c73 => ?_)
    · refine j_iconst (v := nI 0) d_Mo_survey_192 (by decide +kernel) ?_
      refine j_istore_n (lc' := [_, _, _, _, _, _]) d_Mo_survey_193 (by decide) rfl rfl ?_
      have hj : j = σ 20 (p / 4) 0 := by omega
      subst hj
      exact lp_sv_d hb hp mg h16 hl 4 0 _ _ _ (by omega) (by omega) (INV_congr hi (fun k r i x y => by unfold Sl; constructor <;> first | exact Or.inl | (rintro (q | q) <;> first | exact q | omega))) ho
    · obtain ⟨g1, g2, g3, g4, g5, g6, g7⟩ := mg.2 j (by omega)
      first | refine j_aload_n d_Mo_survey_76 rfl ?_ | refine j_aload_nq d_Mo_survey_76 rfl ?_ | refine j_aload_nN d_Mo_survey_76 rfl ?_
      refine j_get d_Mo_survey_77 f_Mo_71 (hM_o (by decide)) rfl ?_
      refine j_iload_n d_Mo_survey_80 rfl ?_
      refine o_lld (t := 2) d_Mo_survey_81 rfl (hM_o (by decide)) rfl (by omega) (by omega) ?_
      refine j_lstore (lc' := [_, _, _, _, _, _]) d_Mo_survey_82 (by decide) rfl rfl ?_
      first | refine j_aload_n d_Mo_survey_84 rfl ?_ | refine j_aload_nq d_Mo_survey_84 rfl ?_ | refine j_aload_nN d_Mo_survey_84 rfl ?_
      refine j_get d_Mo_survey_85 f_Mo_75 (hM_o (by decide)) rfl ?_
      refine j_iload_n d_Mo_survey_88 rfl ?_
      refine o_fld (t := 0) (w := 1000) d_Mo_survey_89 rfl (hM_o (by decide)) rfl (by omega) (by omega) (by decide) ?_
      refine j_iload_n d_Mo_survey_90 rfl ?_
      refine j_iconst (v := nI 4) d_Mo_survey_91 (by decide +kernel) ?_
      refine jn_irem d_Mo_survey_92 (by omega) (by decide) (by decide) ?_
      refine j_ishr d_Mo_survey_93 ?_
      refine j_iconst (v := nI 1) d_Mo_survey_94 (by decide +kernel) ?_
      refine j_iand d_Mo_survey_95 ?_
      rw [tk_bit _ g7 _ (Nat.mod_lt _ (by decide))]
      refine j_iconst (v := nI 1) d_Mo_survey_96 (by decide +kernel) ?_
      first | refine nn_icmp_ne (t := 186) d_Mo_survey_97 (by decide) (by omega) (by omega) (fun c97 => ?_) (fun c97 => ?_) | refine mm_icmp_ne (t := 186) d_Mo_survey_97 (by decide) (by omega) (by omega) (fun c97 => ?_) (fun c97 => ?_) | refine mn_icmp_ne (t := 186) d_Mo_survey_97 (by decide) (by omega) (by omega) (fun c97 => ?_) (fun c97 => ?_) | refine nm_icmp_ne (t := 186) d_Mo_survey_97 (by decide) (by omega) (by omega) (fun c97 => ?_) (fun c97 => ?_) | refine j_icmp_ne (t := 186) d_Mo_survey_97 (by decide) (fun c97 => ?_) (fun c97 => ?_)
      · refine n_iinc (k := 1) (lc' := [_, _, _, _, _, _]) d_Mo_survey_186 (by decide +kernel) rfl (by decide) rfl rfl ?_
        refine j_goto (t := 60) d_Mo_survey_189 (by decide) ?_
        exact ih (j + 1) _ _ (by omega) (by omega) (INV_congr hi (Sm_skip (fun z => c97 z.1))) (OWN_congr ho (fun r _ => Om_skip (fun z => c97 z.1.1) r))
      · refine j_lload d_Mo_survey_100 rfl ?_
        refine j_iconst (v := nI 2) d_Mo_survey_102 (by decide +kernel) ?_
        refine j_callS0 (As := [_, _]) G0_good G0_E d_Mo_survey_103 c_Mo_137 rfl rfl rfl (m_part2 (mg.mb (by omega))) (by decide) (Nat.le_of_ble_eq_true rfl) ?_
        rintro _ _ ⟨rfl, rfl⟩
        first | refine j_aload_n d_Mo_survey_106 rfl ?_ | refine j_aload_nq d_Mo_survey_106 rfl ?_ | refine j_aload_nN d_Mo_survey_106 rfl ?_
        refine j_get d_Mo_survey_107 f_Mo_37 (hM_o (by decide)) rfl ?_
        refine j_iload_n d_Mo_survey_110 rfl ?_
        refine j_iald (t := 0) d_Mo_survey_111 rfl (hM_o (by decide)) rfl (by omega) (by decide) ?_
        first | refine nn_icmp_ne (t := 186) d_Mo_survey_112 (by decide) (by omega) (by omega) (fun c112 => ?_) (fun c112 => ?_) | refine mm_icmp_ne (t := 186) d_Mo_survey_112 (by decide) (by omega) (by omega) (fun c112 => ?_) (fun c112 => ?_) | refine mn_icmp_ne (t := 186) d_Mo_survey_112 (by decide) (by omega) (by omega) (fun c112 => ?_) (fun c112 => ?_) | refine nm_icmp_ne (t := 186) d_Mo_survey_112 (by decide) (by omega) (by omega) (fun c112 => ?_) (fun c112 => ?_) | refine j_icmp_ne (t := 186) d_Mo_survey_112 (by decide) (fun c112 => ?_) (fun c112 => ?_)
        · refine n_iinc (k := 1) (lc' := [_, _, _, _, _, _]) d_Mo_survey_186 (by decide +kernel) rfl (by decide) rfl rfl ?_
          refine j_goto (t := 60) d_Mo_survey_189 (by decide) ?_
          exact ih (j + 1) _ _ (by omega) (by omega) (INV_congr hi (Sm_skip (fun z => c112 z.2))) (OWN_congr ho (fun r _ => Om_skip (fun z => c112 z.1.2) r))
        · first | refine j_aload_n d_Mo_survey_115 rfl ?_ | refine j_aload_nq d_Mo_survey_115 rfl ?_ | refine j_aload_nN d_Mo_survey_115 rfl ?_
          refine j_lload d_Mo_survey_116 rfl ?_
          refine j_iconst (v := nI 0) d_Mo_survey_118 (by decide +kernel) ?_
          refine j_callS0 (As := [_, _]) G0_good G0_E d_Mo_survey_119 c_Mo_137 rfl rfl rfl (m_part0 (mg.mb (by omega))) (by decide) (Nat.le_of_ble_eq_true rfl) ?_
          rintro _ _ ⟨rfl, rfl⟩
          refine j_lload d_Mo_survey_122 rfl ?_
          refine j_iconst (v := nI 1) d_Mo_survey_124 (by decide +kernel) ?_
          refine j_callS0 (As := [_, _]) G0_good G0_E d_Mo_survey_125 c_Mo_137 rfl rfl rfl (m_part1 (mg.mb (by omega))) (by decide) (Nat.le_of_ble_eq_true rfl) ?_
          rintro _ _ ⟨rfl, rfl⟩
          refine j_lload d_Mo_survey_128 rfl ?_
          refine j_iconst (v := nI 3) d_Mo_survey_130 (by decide +kernel) ?_
          refine j_callS0 (As := [_, _]) G0_good G0_E d_Mo_survey_131 c_Mo_137 rfl rfl rfl (m_part3 (mg.mb (by omega))) (by decide) (Nat.le_of_ble_eq_true rfl) ?_
          rintro _ _ ⟨rfl, rfl⟩
          refine j_lload d_Mo_survey_134 rfl ?_
          refine j_iconst (v := nI 4) d_Mo_survey_136 (by decide +kernel) ?_
          refine j_callS0 (As := [_, _]) G0_good G0_E d_Mo_survey_137 c_Mo_137 rfl rfl rfl (m_part4 (mg.mb (by omega))) (by decide) (Nat.le_of_ble_eq_true rfl) ?_
          rintro _ _ ⟨rfl, rfl⟩
          refine j_iconst (v := nI 1) d_Mo_survey_140 (by decide +kernel) ?_
          refine j_isub d_Mo_survey_141 ?_
          rw [nI_sub1]
          refine j_lload d_Mo_survey_142 rfl ?_
          refine j_iconst (v := nI 5) d_Mo_survey_144 (by decide +kernel) ?_
          refine j_callS0 (As := [_, _]) G0_good G0_E d_Mo_survey_145 c_Mo_137 rfl rfl rfl (m_part5 (mg.mb (by omega))) (by decide) (Nat.le_of_ble_eq_true rfl) ?_
          rintro _ _ ⟨rfl, rfl⟩
          refine j_iconst (v := nI 1) d_Mo_survey_148 (by decide +kernel) ?_
          refine j_isub d_Mo_survey_149 ?_
          rw [nI_sub1]
          refine j_callV0 (As := [_, _, _, _, _]) G0_good G0_E d_Mo_survey_150 c_Mo_141 rfl rfl (m_count (σ 21 (p / 4) j) (σ 22 (p / 4) j) (σ 24 (p / 4) j) (σ 25 (p / 4) j) (σ 26 (p / 4) j) (by omega) (by omega) (by omega) (by omega) (hi.1 _ (by omega))) (hM_o (by decide)) rfl rfl (by decide) (Nat.le_of_ble_eq_true rfl) ?_
          rintro _ _ ⟨rfl, rfl⟩
          refine j_lload d_Mo_survey_153 rfl ?_
          refine j_iconst (v := nI 0) d_Mo_survey_155 (by decide +kernel) ?_
          refine j_callS0 (As := [_, _]) G0_good G0_E d_Mo_survey_156 c_Mo_137 rfl rfl rfl (m_part0 (mg.mb (by omega))) (by decide) (Nat.le_of_ble_eq_true rfl) ?_
          rintro _ _ ⟨rfl, rfl⟩
          first | refine c_if_ne (t := 186) d_Mo_survey_159 (by decide) (fun c159 => ?_) (fun c159 => ?_) | refine n_if_ne (t := 186) d_Mo_survey_159 (by decide) (by omega) (fun c159 => ?_) (fun c159 => ?_) | refine j_if_ne (t := 186) d_Mo_survey_159 (by decide) (fun c159 => ?_) (fun c159 => ?_)
          · refine n_iinc (k := 1) (lc' := [_, _, _, _, _, _]) d_Mo_survey_186 (by decide +kernel) rfl (by decide) rfl rfl ?_
            refine j_goto (t := 60) d_Mo_survey_189 (by decide) ?_
            exact ih (j + 1) _ _ (by omega) (by omega) (INV_cnt hi (by omega) (by omega) (by omega) (by omega) (Sm_step ⟨c97, c112⟩)) (fun r hr => by rw [cnt_3]; exact OWN_congr ho (fun r _ => Om_skip (fun z => c159 z.2.1) r) r hr)
          · refine j_lload d_Mo_survey_162 rfl ?_
            refine j_iconst (v := nI 1) d_Mo_survey_164 (by decide +kernel) ?_
            refine j_callS0 (As := [_, _]) G0_good G0_E d_Mo_survey_165 c_Mo_137 rfl rfl rfl (m_part1 (mg.mb (by omega))) (by decide) (Nat.le_of_ble_eq_true rfl) ?_
            rintro _ _ ⟨rfl, rfl⟩
            refine j_iload_n d_Mo_survey_168 rfl ?_
            refine j_iconst (v := nI 4) d_Mo_survey_169 (by decide +kernel) ?_
            refine jn_irem d_Mo_survey_170 (by omega) (by decide) (by decide) ?_
            first | refine nn_icmp_ne (t := 186) d_Mo_survey_171 (by decide) (by omega) (by omega) (fun c171 => ?_) (fun c171 => ?_) | refine mm_icmp_ne (t := 186) d_Mo_survey_171 (by decide) (by omega) (by omega) (fun c171 => ?_) (fun c171 => ?_) | refine mn_icmp_ne (t := 186) d_Mo_survey_171 (by decide) (by omega) (by omega) (fun c171 => ?_) (fun c171 => ?_) | refine nm_icmp_ne (t := 186) d_Mo_survey_171 (by decide) (by omega) (by omega) (fun c171 => ?_) (fun c171 => ?_) | refine j_icmp_ne (t := 186) d_Mo_survey_171 (by decide) (fun c171 => ?_) (fun c171 => ?_)
            · refine n_iinc (k := 1) (lc' := [_, _, _, _, _, _]) d_Mo_survey_186 (by decide +kernel) rfl (by decide) rfl rfl ?_
              refine j_goto (t := 60) d_Mo_survey_189 (by decide) ?_
              exact ih (j + 1) _ _ (by omega) (by omega) (INV_cnt hi (by omega) (by omega) (by omega) (by omega) (Sm_step ⟨c97, c112⟩)) (fun r hr => by rw [cnt_3]; exact OWN_congr ho (fun r _ => Om_skip (fun z => c171 z.2.2) r) r hr)
            · first | refine j_aload_n d_Mo_survey_174 rfl ?_ | refine j_aload_nq d_Mo_survey_174 rfl ?_ | refine j_aload_nN d_Mo_survey_174 rfl ?_
              refine j_get d_Mo_survey_175 f_Mo_90 (hM_o (by decide)) rfl ?_
              refine j_lload d_Mo_survey_178 rfl ?_
              refine j_iconst (v := nI 3) d_Mo_survey_180 (by decide +kernel) ?_
              refine j_callS0 (As := [_, _]) G0_good G0_E d_Mo_survey_181 c_Mo_137 rfl rfl rfl (m_part3 (mg.mb (by omega))) (by decide) (Nat.le_of_ble_eq_true rfl) ?_
              rintro _ _ ⟨rfl, rfl⟩
              refine j_iconst (v := nI 1) d_Mo_survey_184 (by decide +kernel) ?_
              refine j_zast (t := 1) d_Mo_survey_185 rfl (hM_o (by decide)) rfl (by omega) (by decide) (by decide +kernel) (J.hq r3w ?_)
              refine n_iinc (k := 1) (lc' := [_, _, _, _, _, _]) d_Mo_survey_186 (by decide +kernel) rfl (by decide) rfl rfl ?_
              refine j_goto (t := 60) d_Mo_survey_189 (by decide) ?_
              exact ih (j + 1) _ _ (by omega) (by omega) (INV_own (INV_cnt hi (by omega) (by omega) (by omega) (by omega) (Sm_step ⟨c97, c112⟩))) (OWN_set (fun r hr => by rw [cnt_3]; exact ho r hr) ⟨⟨c97, c112⟩, c159, c171⟩)

set_option maxHeartbeats 4000000 in
set_option maxRecDepth 100000 in
theorem lp_sv_b {l : Launch} {D : va_G} {M nx : Nat} {L : Int32} {σ : Sg} {g : Nat → Option va_E} (hb : bd σ) {p : Nat} (hp : p < 8) (mg : MG σ (p / 4)) (h16 : σ 10 p 0 ≤ 16) (hl : ∀ i z, σ 28 i z ≤ 33) : ∀ (m : Nat) (r : Nat) (ρ : Sg), r ≤ 6 → 6 - r < m → (∀ z, z < 594 → ρ 0 0 z = 0) → (∀ z, z < r → ρ 1 0 z = 0 ∧ ρ 3 0 z = 0) → J (G0 l D) jT m_Mo_survey 1 (fun v h => v = none ∧ ∃ ρ', h = (hM D M L σ ρ' g, nx) ∧ SV σ p ρ') 0 0 24 [some (.ref (M + 0)), some (.int (nI p)), some (.int (nI r)), none, none, none] [] (hM D M L σ ρ g, nx) := by
  intro m
  induction m with
  | zero =>
    intros
    exfalso
    omega
  | succ m ih =>
    intro r ρ h1 h2 h0 h13
    refine j_iload_n d_Mo_survey_24 rfl ?_
    refine j_bipush (v := nI 6) d_Mo_survey_25 (by decide +kernel) ?_
    first | refine nn_icmp_ge (t := 50) d_Mo_survey_27 (by decide) (by omega) (by omega) (fun c27 => ?_) (fun c27 => ?_) | refine mm_icmp_ge (t := 50) d_Mo_survey_27 (by decide) (by omega) (by omega) (fun c27 => ?_) (fun c27 => ?_) | refine mn_icmp_ge (t := 50) d_Mo_survey_27 (by decide) (by omega) (by omega) (fun c27 => ?_) (fun c27 => ?_) | refine nm_icmp_ge (t := 50) d_Mo_survey_27 (by decide) (by omega) (by omega) (fun c27 => ?_) (fun c27 => ?_) | refine j_icmp_ge (t := 50) d_Mo_survey_27 (by decide) (fun c27 => ?_) (fun c27 => ?_)
    · refine j_iload_n d_Mo_survey_50 rfl ?_
      refine j_iconst (v := nI 4) d_Mo_survey_51 (by decide +kernel) ?_
      refine jn_idiv d_Mo_survey_52 (by omega) (by decide) (by decide) ?_
      refine j_istore_n (lc' := [_, _, _, _, _, _]) d_Mo_survey_53 (by decide) rfl rfl ?_
      refine j_sipush (v := nI 1000) d_Mo_survey_54 (by decide +kernel) ?_
      refine j_iload_n d_Mo_survey_57 rfl ?_
      refine jn_imul d_Mo_survey_58 ?_
      refine j_istore_n (lc' := [_, _, _, _, _, _]) d_Mo_survey_59 (by decide) rfl rfl ?_
      have hr6 : r = 6 := by omega
      subst hr6
      exact lp_sv_c hb hp mg h16 hl (σ 20 (p / 4) 0 + 1) 0 _ _ (by omega) (by omega) (INV_0 h0 (fun r hr => (h13 r hr).1)) (OWN_0 (fun r hr => (h13 r hr).2))
    · first | refine j_aload_n d_Mo_survey_30 rfl ?_ | refine j_aload_nq d_Mo_survey_30 rfl ?_ | refine j_aload_nN d_Mo_survey_30 rfl ?_
      refine j_get d_Mo_survey_31 f_Mo_84 (hM_o (by decide)) rfl ?_
      refine j_iload_n d_Mo_survey_34 rfl ?_
      refine j_iconst (v := mI 0) d_Mo_survey_35 (by decide +kernel) ?_
      refine j_iast (t := 0) d_Mo_survey_36 rfl (hM_o (by decide)) rfl (by omega) (by decide) (J.hq (r1w (v := 0)) ?_)
      first | refine j_aload_n d_Mo_survey_37 rfl ?_ | refine j_aload_nq d_Mo_survey_37 rfl ?_ | refine j_aload_nN d_Mo_survey_37 rfl ?_
      refine j_get d_Mo_survey_38 f_Mo_90 (hM_o (by decide)) rfl ?_
      refine j_iload_n d_Mo_survey_41 rfl ?_
      refine j_iconst (v := nI 0) d_Mo_survey_42 (by decide +kernel) ?_
      refine j_zast (t := 1) d_Mo_survey_43 rfl (hM_o (by decide)) rfl (by omega) (by decide) (by decide +kernel) (J.hq (r3w (v := 0)) ?_)
      refine n_iinc (k := 1) (lc' := [_, _, _, _, _, _]) d_Mo_survey_44 (by decide +kernel) rfl (by decide) rfl rfl ?_
      refine j_goto (t := 24) d_Mo_survey_47 (by decide) ?_
      exact ih (r + 1) _ (by omega) (by omega) (fun z hz => by rw [U_ne (by decide), U_ne (by decide)]; exact h0 z hz) (fun z hz => by
        rw [U_ne (show 1 ≠ 3 by decide), U_at, U_at, U_ne (show 3 ≠ 1 by decide)]
        by_cases e : z = r
        · subst e; simp
        · simp only [e, and_false, if_false]; exact h13 z (by omega))

set_option maxHeartbeats 4000000 in
set_option maxRecDepth 100000 in
theorem lp_sv_a {l : Launch} {D : va_G} {M nx : Nat} {L : Int32} {σ : Sg} {g : Nat → Option va_E} (hb : bd σ) {p : Nat} (hp : p < 8) (mg : MG σ (p / 4)) (h16 : σ 10 p 0 ≤ 16) (hl : ∀ i z, σ 28 i z ≤ 33) : ∀ (m : Nat) (k : Nat) (ρ : Sg), k ≤ 594 → 594 - k < m → (∀ z, z < k → ρ 0 0 z = 0) → J (G0 l D) jT m_Mo_survey 1 (fun v h => v = none ∧ ∃ ρ', h = (hM D M L σ ρ' g, nx) ∧ SV σ p ρ') 0 0 2 [some (.ref (M + 0)), some (.int (nI p)), some (.int (nI k)), none, none, none] [] (hM D M L σ ρ g, nx) := by
  intro m
  induction m with
  | zero =>
    intros
    exfalso
    omega
  | succ m ih =>
    intro k ρ h1 h2 h0
    refine j_iload_n d_Mo_survey_2 rfl ?_
    refine j_sipush (v := nI 594) d_Mo_survey_3 (by decide +kernel) ?_
    first | refine nn_icmp_ge (t := 22) d_Mo_survey_6 (by decide) (by omega) (by omega) (fun c6 => ?_) (fun c6 => ?_) | refine mm_icmp_ge (t := 22) d_Mo_survey_6 (by decide) (by omega) (by omega) (fun c6 => ?_) (fun c6 => ?_) | refine mn_icmp_ge (t := 22) d_Mo_survey_6 (by decide) (by omega) (by omega) (fun c6 => ?_) (fun c6 => ?_) | refine nm_icmp_ge (t := 22) d_Mo_survey_6 (by decide) (by omega) (by omega) (fun c6 => ?_) (fun c6 => ?_) | refine j_icmp_ge (t := 22) d_Mo_survey_6 (by decide) (fun c6 => ?_) (fun c6 => ?_)
    · refine j_iconst (v := nI 0) d_Mo_survey_22 (by decide +kernel) ?_
      refine j_istore_n (lc' := [_, _, _, _, _, _]) d_Mo_survey_23 (by decide) rfl rfl ?_
      have hk : k = 594 := by omega
      subst hk
      exact lp_sv_b hb hp mg h16 hl 7 0 _ (by omega) (by omega) h0 (fun z hz => absurd hz (by omega))
    · first | refine j_aload_n d_Mo_survey_9 rfl ?_ | refine j_aload_nq d_Mo_survey_9 rfl ?_ | refine j_aload_nN d_Mo_survey_9 rfl ?_
      refine j_get d_Mo_survey_10 f_Mo_81 (hM_o (by decide)) rfl ?_
      refine j_iload_n d_Mo_survey_13 rfl ?_
      refine j_iconst (v := nI 0) d_Mo_survey_14 (by decide +kernel) ?_
      refine j_iast (t := 0) d_Mo_survey_15 rfl (hM_o (by decide)) rfl (by omega) (by decide) (J.hq (r0w (v := 0)) ?_)
      refine n_iinc (k := 1) (lc' := [_, _, _, _, _, _]) d_Mo_survey_16 (by decide +kernel) rfl (by decide) rfl rfl ?_
      refine j_goto (t := 2) d_Mo_survey_19 (by decide) ?_
      exact ih (k + 1) _ (by omega) (by omega) (fun z hz => by
        rw [U_at]
        by_cases e : z = k
        · subst e; simp
        · simp only [e, and_false, if_false]; exact h0 z (by omega))

set_option maxHeartbeats 4000000 in
set_option maxRecDepth 100000 in
theorem m_survey {l : Launch} {D : va_G} {M nx : Nat} {L : Int32} {σ ρ : Sg} {g : Nat → Option va_E} (hb : bd σ) (p : Nat) (hp : p < 8) (mg : MG σ (p / 4)) (h16 : σ 10 p 0 ≤ 16) (hl : ∀ i z, σ 28 i z ≤ 33) : jM (G0 l D) m_Mo_survey 1 0 0 [.ref (M + 0), .int (nI p)] (hM D M L σ ρ g, nx) (fun v h => v = none ∧ ∃ ρ', h = (hM D M L σ ρ' g, nx) ∧ SV σ p ρ') := by
  refine jM.of (by decide +kernel) (Nat.le_of_ble_eq_true rfl) rfl ?_
  refine j_iconst (v := nI 0) d_Mo_survey_0 (by decide +kernel) ?_
  refine j_istore_n (lc' := [_, _, _, _, _, _]) d_Mo_survey_1 (by decide) rfl rfl ?_
  exact lp_sv_a hb hp mg h16 hl 595 0 _ (by omega) (by omega) (fun z hz => absurd hz (by omega))
