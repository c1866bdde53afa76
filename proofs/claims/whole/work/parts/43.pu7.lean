set_option linter.unusedVariables false
set_option linter.unusedSimpArgs false
/-! Pure part 7: every rule keeps the invariant and lowers the measure. -/
theorem Pu.bd_U {σ : Sg} {f a b v : Nat} (h : bd σ) (hv : v < 100000) : bd (U σ f a b v) := by
  intro f' a' b'
  by_cases e : f' = f
  · subst e
    rw [U_at]
    split
    · exact hv
    · exact h _ _ _
  · rw [U_ne e]; exact h _ _ _
theorem Pu.pw4 {i : Nat} (h : i < 4) : 2 ^ i < 16 := by
  have : i = 0 ∨ i = 1 ∨ i = 2 ∨ i = 3 := by omega
  rcases this with e | e | e | e <;> subst e <;> decide
theorem Pu.bd_send {σ : Sg} {p k x y : Nat} (h : bd σ) (hk : k < 3) (hx : x ≤ 32) (hy : y ≤ 6) (hs : σ 20 (p / 4) 0 ≤ 918) : bd (sSend σ p k x y) := by
  have := pw4 (show p % 4 < 4 by omega)
  unfold sSend sGh
  exact bd_U (bd_U (bd_U (bd_U (bd_U (bd_U (bd_U (bd_U (bd_U (bd_U h (by omega)) (by omega)) (h _ _ _)) (h _ _ _)) (by omega)) (by omega)) (by omega)) (by omega)) (by omega)) (by omega)
theorem Pu.Mg_bf {σ : Sg} (m : Ms σ) {s k i h r x y : Nat} (hs : s < 2) : Mg σ s k i h r x y → bf σ (4 * s + i) k h r := by
  rintro ⟨j, hj, a1, a2, a3, a4, a5, a6⟩
  have := m.bef s j hs hj
  rw [a1, a2, a3, a4] at this
  exact this
theorem Pu.fresh_k {σ : Sg} (m : Ms σ) {p k : Nat} (hp : p < 8) (h : σ 12 p 0 < k) (x y : Nat) : ¬ Mg σ (p / 4) k (p % 4) (σ 10 p 0) (σ 11 p 0) x y := by
  intro c
  have := Mg_bf m (by omega) c
  rw [show 4 * (p / 4) + p % 4 = p by omega] at this
  unfold bf at this
  omega
theorem Pu.fresh_0 {σ : Sg} (m : Ms σ) (P : Po σ) (B : Bx σ) {p k : Nat} (hp : p < 8) (hk : k < 3) (hon : σ 0 p 0 = 0) (h : σ 29 p (slt k (σ 11 p 0) (p % 4)) = 0) (x y : Nat) : ¬ Mg σ (p / 4) k (p % 4) (σ 10 p 0) (σ 11 p 0) x y := by
  rintro ⟨j, hj, a1, a2, a3, a4, a5, a6⟩
  have b := ((B.bx p hp hon).1 k (σ 11 p 0) (p % 4) x y hk (by have := P.rd p hp; omega) (by omega)).1
    (Or.inl ⟨j, hj, ⟨by have := (m.own (p / 4) j (by omega) hj).1; rw [a2] at this; exact this, a3⟩, a1, a4, a2, a5, a6⟩)
  omega
/-- a state with the step set after a send -/
theorem Pu.snd_12 {σ : Sg} {p k x y v : Nat} : Snd σ (U (sSend σ p k x y) 12 p 0 v) p k x y := Snd.mk
  (fr := fun f h => U_ne (by omega))
  (rv := fun f a b h h1 h2 => by
      by_cases e : f = 12
      · subst e; rw [U_at, if_neg h, sSend_ne (by omega)]
      · rw [U_ne e, sSend_ne (by omega)])
theorem Pu.snd_0 {σ : Sg} {p k x y : Nat} : Snd σ (sSend σ p k x y) p k x y := Snd.mk
  (fr := fun f h => rfl)
  (rv := fun f a b h h1 h2 => by rw [sSend_ne (by omega)])
theorem Pu.snd_12v {σ : Sg} {p k x y v f : Nat} (h1 : 12 < f) (h2 : f ≤ 16) : U (sSend σ p k x y) 12 p 0 v f p 0 = σ f p 0 := by
  rw [U_ne (by omega), sSend_ne (by omega)]
theorem Pu.snd_12a {σ : Sg} {p k x y v : Nat} : U (sSend σ p k x y) 12 p 0 v 12 p 0 = v := by
  rw [U_at, if_pos ⟨rfl, rfl⟩]
/-- a vote or a seal for nothing -/
theorem Pu.nil_iw {σ : Sg} {p k : Nat} (hp : p < 8) (I : Iw σ) (hon : σ 0 p 0 = 0) (h1 : 1 ≤ k) (h2 : k ≤ 2) (h : σ 12 p 0 < k) : Iw (U (sSend σ p k 0 0) 12 p 0 k) := by
  have L := I.po.lk p hp
  have C := I.po.cd p hp
  refine snd_12.iw hp I hon (by omega) (by omega) (by omega) (fresh_k I.ms hp h) (by omega) (by rw [snd_12a]; omega) (by rw [snd_12a]; omega) (by rw [snd_12a]; omega) ?_ ?_ (fun _ c => absurd rfl c) (Or.inr ⟨fun _ => rfl, snd_12v (by omega) (by omega), snd_12v (by omega) (by omega)⟩)
  · rw [snd_12a, snd_12v (by omega) (by omega)]; omega
  · rw [snd_12v (by omega) (by omega), snd_12v (by omega) (by omega)]; exact C
theorem Pu.k2_psn {σ : Sg} {p v w : Nat} : Psn σ (U (U σ 11 p 0 v) 12 p 0 w) p := Psn.mk
  (fr := fun f h => by rw [U_ne (by omega), U_ne (by omega)])
  (rv := fun f a b h h1 h2 => by
      by_cases e : f = 12
      · subst e; rw [U_at, if_neg h, U_ne (by omega)]
      · rw [U_ne e]
        by_cases e : f = 11
        · subst e; rw [U_at, if_neg h]
        · rw [U_ne e])
theorem Pu.k2_iw {σ : Sg} {p v : Nat} (hp : p < 8) (hon : σ 0 p 0 = 0) (I : Iw σ) (h : σ 11 p 0 < v) (h5 : v ≤ 5) : Iw (U (U σ 11 p 0 v) 12 p 0 0) := by
  have C := I.po.cd p hp
  have a11 : U (U σ 11 p 0 v) 12 p 0 0 11 p 0 = v := by rw [U_ne (by decide), U_at, if_pos ⟨rfl, rfl⟩]
  have a12 : U (U σ 11 p 0 v) 12 p 0 0 12 p 0 = 0 := by rw [U_at, if_pos ⟨rfl, rfl⟩]
  have o : ∀ f, 12 < f → U (U σ 11 p 0 v) 12 p 0 0 f p 0 = σ f p 0 := fun f h => by rw [U_ne (by omega), U_ne (by omega)]
  refine k2_psn.iw hp hon I (o 13 (by omega)) (o 14 (by omega)) (by rw [a11]; exact h5) (by rw [a12]; omega) (Or.inl (by rw [a11]; exact h)) ?_
  rw [o 16 (by omega), o 15 (by omega), a11]; omega
theorem Pu.j2_spec {σ : Sg} {p : Nat} (h : ¬ j2 σ p = 0) (h5 : σ 11 p 0 ≤ 5) : σ 11 p 0 < j2 σ p - 1 ∧ j2 σ p - 1 ≤ 5 := by
  unfold j2 at h ⊢
  obtain ⟨x, hx⟩ : ∃ x, srch (joinAt σ p) (5 - σ 11 p 0) (σ 11 p 0 + 1) = x + 1 := ⟨srch (joinAt σ p) (5 - σ 11 p 0) (σ 11 p 0 + 1) - 1, by omega⟩
  obtain ⟨h1, h2, _⟩ := srch_spec hx
  omega
theorem Pu.a2_iw {σ : Sg} {p : Nat} (hp : p < 8) (hon : σ 0 p 0 = 0) (I : Iw σ) (h : ¬ j2 σ p = 0) : Iw (a2 σ p) := by
  have := j2_spec h (I.po.rd p hp)
  exact k2_iw hp hon I this.1 this.2
theorem Pu.x3_spec {σ : Sg} {p : Nat} (I : Iw σ) (hp : p < 8) : x3 σ p ≤ 32 := by
  have r := rq32 I.bk
  unfold x3
  by_cases c : σ 15 p 0 = 0
  · rw [ifP_t c]
    by_cases z : srch (gdn σ p) (σ 34 0 0) 0 = 0
    · omega
    · obtain ⟨x, hx⟩ : ∃ x, srch (gdn σ p) (σ 34 0 0) 0 = x + 1 := ⟨srch (gdn σ p) (σ 34 0 0) 0 - 1, by omega⟩
      obtain ⟨h1, h2, _⟩ := srch_spec hx
      omega
  · rw [ifP_f c]; exact (I.po.cd p hp).2.1
theorem Pu.a3_iw {σ : Sg} {p : Nat} (hp : p < 8) (hon : σ 0 p 0 = 0) (I : Iw σ) (g : g3 σ p) : Iw (a3 σ p) := by
  obtain ⟨h1, h2, h3, h4⟩ := g
  have L := I.po.lk p hp
  have C := I.po.cd p hp
  have R := I.po.rd p hp
  have e : ∀ f, f < 20 → a3 σ p f p 0 = σ f p 0 := fun f h => by unfold a3; rw [sSend_ne (by omega)]
  refine snd_0.iw hp I hon (by omega) (x3_spec I hp) (by omega) (fresh_0 I.ms I.po I.bx hp (by omega) hon h3) (fun _ => ⟨h2, by omega⟩) ?_ (by omega) ?_ ?_ ?_ (fun c => absurd c (by omega)) (Or.inr ⟨fun _ => by omega, e 13 (by omega), e 14 (by omega)⟩)
  · have := e 12 (by omega); unfold a3 at this; omega
  · have := e 12 (by omega); unfold a3 at this; omega
  · have a := e 14 (by omega); have b := e 12 (by omega); unfold a3 at a b; omega
  · have a := e 15 (by omega); have b := e 16 (by omega); unfold a3 at a b; rw [a, b]; exact C
theorem Pu.a4_iw {σ : Sg} {p : Nat} (hp : p < 8) (hon : σ 0 p 0 = 0) (I : Iw σ) (g : g4 σ p) : Iw (a4 σ p) := by
  obtain ⟨h1, h2, h3⟩ := g
  have L := I.po.lk p hp
  have C := I.po.cd p hp
  have hx : x4 σ p ≤ 32 := by
    unfold x4
    have := I.bx.b9 p (slt 0 (σ 11 p 0) (ld σ p (σ 11 p 0)))
    by_cases c : welcome σ p (prp σ p (σ 11 p 0) - 1) (prc σ p (σ 11 p 0))
    · rw [ifP_t c]; unfold prp; omega
    · rw [ifP_f c]; omega
  refine snd_12.iw hp I hon (by omega) hx (by omega) (fresh_k I.ms hp (by omega)) (by omega) (by rw [snd_12a]; omega) (by rw [snd_12a]; omega) (by rw [snd_12a]; omega) ?_ ?_ ?_ (Or.inr ⟨fun c => by omega, snd_12v (by omega) (by omega), snd_12v (by omega) (by omega)⟩)
  · rw [snd_12a, snd_12v (by omega) (by omega)]; omega
  · rw [snd_12v (by omega) (by omega), snd_12v (by omega) (by omega)]; exact C
  · intro _ hx0 r0 x' y' hx' hr0 hm
    have hw : welcome σ p (prp σ p (σ 11 p 0) - 1) (prc σ p (σ 11 p 0)) := by
      refine Classical.byContradiction (fun c => hx0 ?_)
      unfold x4; rw [ifP_f c]
    have ex : x4 σ p = prp σ p (σ 11 p 0) - 1 := by unfold x4; rw [ifP_t hw]
    rw [ex]
    have lk := I.vt.lk p r0 x' y' hp hx' hm
    have lq := I.vt.lq p hp (by omega)
    obtain ⟨w1, w2, w3⟩ := hw
    rcases w3 with w3 | w3 | w3
    · exact absurd w3 lq.1
    · rw [← w3]
      exact ⟨σ 14 p 0 - 1, by omega, by omega, lq.2⟩
    · rcases h3 with h3 | h3 | h3
      · exact absurd h3 w3.1
      · omega
      · have R := I.po.rd p hp
        exact ⟨prc σ p (σ 11 p 0) - 1, by omega, by omega, cq_mg I.po I.bx hp hon (by omega) (by omega) h3⟩
theorem Pu.U_f {σ τ : Sg} {g a b v f : Nat} (h : σ f = τ f) : U σ g a b v f = U τ g a b v f := by
  funext a' b'
  unfold U
  rw [h]
theorem Pu.k5_ne {σ : Sg} {p f : Nat} (h : f < 13 ∨ 16 < f) : k5 σ p f = σ f := by
  unfold k5 c5
  rw [U_ne (by omega), U_ne (by omega), U_ne (by omega), U_ne (by omega)]
theorem Pu.s5_snd {σ : Sg} {p : Nat} : Snd σ (s5 σ p) p 2 (prp σ p (σ 11 p 0) - 1) 0 := Snd.mk
  (fr := fun f h => by
      unfold s5 sSend sGh
      rw [U_ne (by omega), k5_ne (f := 20) (by omega), k5_ne (f := 10) (by omega), k5_ne (f := 11) (by omega)]
      exact U_f (U_f (U_f (U_f (U_f (U_f (U_f (U_f (U_f (U_f (k5_ne (by omega))))))))))))
  (rv := fun f a b h h1 h2 => by
      unfold s5
      by_cases e : f = 12
      · subst e; rw [U_at, if_neg h, sSend_ne (by omega), k5_ne (by omega)]
      · rw [U_ne e, sSend_ne (by omega)]
        unfold k5 c5
        by_cases e : f = 14
        · subst e; rw [U_at, if_neg h, U_ne (by omega), U_ne (by omega), U_ne (by omega)]
        · rw [U_ne e]
          by_cases e : f = 13
          · subst e; rw [U_at, if_neg h, U_ne (by omega), U_ne (by omega)]
          · rw [U_ne e]
            by_cases e : f = 16
            · subst e; rw [U_at, if_neg h, U_ne (by omega)]
            · rw [U_ne e]
              have e : f = 15 := by omega
              subst e; rw [U_at, if_neg h])
theorem Pu.s5_iw {σ : Sg} {p : Nat} (hp : p < 8) (hon : σ 0 p 0 = 0) (I : Iw σ) (g : g5 σ p) (h12 : σ 12 p 0 = 1) : Iw (s5 σ p) := by
  obtain ⟨h1, h2, h3, h4, h5⟩ := g
  have R := I.po.rd p hp
  have a12 : s5 σ p 12 p 0 = 2 := by unfold s5; rw [U_at, if_pos ⟨rfl, rfl⟩]
  have a13 : s5 σ p 13 p 0 = prp σ p (σ 11 p 0) - 1 := by unfold s5 k5; rw [U_ne (by omega), sSend_ne (by omega), U_ne (by omega), U_at, if_pos ⟨rfl, rfl⟩]
  have a14 : s5 σ p 14 p 0 = σ 11 p 0 + 1 := by unfold s5 k5; rw [U_ne (by omega), sSend_ne (by omega), U_at, if_pos ⟨rfl, rfl⟩]
  have a15 : s5 σ p 15 p 0 = prp σ p (σ 11 p 0) - 1 := by unfold s5 k5 c5; rw [U_ne (by omega), sSend_ne (by omega), U_ne (by omega), U_ne (by omega), U_ne (by omega), U_at, if_pos ⟨rfl, rfl⟩]
  have a16 : s5 σ p 16 p 0 = σ 11 p 0 + 1 := by unfold s5 k5 c5; rw [U_ne (by omega), sSend_ne (by omega), U_ne (by omega), U_ne (by omega), U_at, if_pos ⟨rfl, rfl⟩]
  have hx : prp σ p (σ 11 p 0) - 1 ≤ 32 := by
    have := I.bx.b9 p (slt 0 (σ 11 p 0) (ld σ p (σ 11 p 0)))
    unfold prp; omega
  have nz := h4.1
  exact s5_snd.iw hp I hon (by omega) hx (by omega) (fresh_k I.ms hp (by omega)) (by omega) (by omega) (by omega) (by omega) (by omega) (by omega) (by omega) (Or.inl ⟨rfl, nz, cq_mg I.po I.bx hp hon (by omega) (by omega) h5, a13, a14⟩)
theorem Pu.c5_iw {σ : Sg} {p : Nat} (hp : p < 8) (hon : σ 0 p 0 = 0) (I : Iw σ) (g : g5 σ p) : Iw (c5 σ p) := by
  obtain ⟨h1, h2, h3, h4, h5⟩ := g
  have R := I.po.rd p hp
  have hx : prp σ p (σ 11 p 0) - 1 ≤ 32 := by
    have := I.bx.b9 p (slt 0 (σ 11 p 0) (ld σ p (σ 11 p 0)))
    unfold prp; omega
  have nz := h4.1
  have S : Psn σ (c5 σ p) p := Psn.mk (fr := fun f h => by unfold c5; rw [U_ne (by omega), U_ne (by omega)]) (rv := fun f a b h h1 h2 => by
      unfold c5
      by_cases e : f = 16
      · subst e; rw [U_at, if_neg h, U_ne (by omega)]
      · rw [U_ne e]
        by_cases e : f = 15
        · subst e; rw [U_at, if_neg h]
        · rw [U_ne e])
  have o : ∀ f, f < 15 → c5 σ p f p 0 = σ f p 0 := fun f h => by unfold c5; rw [U_ne (by omega), U_ne (by omega)]
  have a15 : c5 σ p 15 p 0 = prp σ p (σ 11 p 0) - 1 := by unfold c5; rw [U_ne (by omega), U_at, if_pos ⟨rfl, rfl⟩]
  have a16 : c5 σ p 16 p 0 = σ 11 p 0 + 1 := by unfold c5; rw [U_at, if_pos ⟨rfl, rfl⟩]
  have o11 := o 11 (by omega)
  have o12 := o 12 (by omega)
  have := I.po.sp p hp
  exact S.iw hp hon I (o 13 (by omega)) (o 14 (by omega)) (by omega) (by omega) (by omega) (by omega)
theorem Pu.bd_exLk {σ : Sg} {p t : Nat} (h : bd σ) (ht : t < 100000) : ∀ j, bd (exLk σ p t j)
  | 0 => h
  | j + 1 => by
    unfold exLk
    by_cases c : inp σ t (p / 4 + 2 * j)
    · rw [ifP_t c]; exact bd_U (bd_U (bd_exLk h ht j) (by omega)) ht
    · rw [ifP_f c]; exact bd_exLk h ht j
theorem Pu.bd_exSp {σ : Sg} {p t : Nat} (h : bd σ) : ∀ j, bd (exSp σ p t j)
  | 0 => h
  | j + 1 => by
    unfold exSp
    by_cases c : inp σ t (p / 4 + 2 * j)
    · rw [ifP_t c]; exact bd_U (bd_exSp h j) (by omega)
    · rw [ifP_f c]
      by_cases c' : mad σ t (p / 4 + 2 * j)
      · rw [ifP_t c']; exact bd_U (bd_exSp h j) (by omega)
      · rw [ifP_f c']; exact bd_exSp h j
theorem Pu.bd_exFr {σ : Sg} {p t : Nat} (h : bd σ) : ∀ j, bd (exFr σ p t j)
  | 0 => h
  | j + 1 => by
    unfold exFr
    by_cases c : inp σ t (p / 4 + 2 * j) ∧ exFr σ p t j 8 p (p / 4 + 2 * j) = 2 ∧ exFr σ p t j 9 p (p / 4 + 2 * j) = t
    · rw [ifP_t c]; exact bd_U (bd_exFr h j) (by omega)
    · rw [ifP_f c]; exact bd_exFr h j
theorem Pu.bd_exS {σ : Sg} {p k t : Nat} (h : bd σ) (ht : t < 100000) : bd (exS σ p k t) := by
  unfold exS
  by_cases c : k = 0
  · rw [ifP_t c]
    by_cases c' : lkBad σ p t 10
    · rw [ifP_t c']; exact h
    · rw [ifP_f c']; exact bd_exLk h ht 10
  · rw [ifP_f c]
    by_cases c' : k = 1
    · rw [ifP_t c']; exact bd_exSp h 10
    · rw [ifP_f c']; exact bd_exFr h 10
theorem Pu.sm_le {f : Nat → Nat} {c : Nat} (h : ∀ a, f a ≤ c) : ∀ n, sm f n ≤ c * n
  | 0 => by simp [sm]
  | n + 1 => by
    have := sm_le h n
    have := h n
    show sm f n + f n ≤ c * (n + 1)
    rw [Nat.mul_succ]; omega
theorem Pu.bd_a1 {σ : Sg} {p : Nat} (h : bd σ) (I : Iw σ) (g : g1 σ p) : bd (a1 σ p) := by
  have r12 : r1 σ p = 1 ∨ r1 σ p = 2 := by unfold r1; exact exR_12
  have q0 : q1 σ p < 100000 := by
    obtain ⟨r, q, hr, hq, hg, hc⟩ := seal_spec g.1
    have := rq32 I.bk
    have := hg.1
    unfold q1; omega
  have c31 : σ 31 0 (q1 σ p) ≤ 8 := by
    rw [I.ex.cn]
    have := sm_le (f := fun a => if σ 19 a (q1 σ p) = 0 then 0 else 1) (c := 1) (fun a => by show (if σ 19 a (q1 σ p) = 0 then 0 else 1) ≤ 1; split <;> omega) 8
    omega
  have e31 : e1 σ p 31 0 (q1 σ p) = σ 31 0 (q1 σ p) := by unfold e1; rw [exS_ne (by omega) (by omega)]
  have b1 : bd (e1 σ p) := bd_exS h (h _ _ _)
  have b2 : bd (e2 σ p) := bd_U (bd_U b1 (by omega)) (by omega)
  have b4 : bd (e4 σ p) := bd_U (bd_U b2 (by omega)) (by have := g.2; omega)
  have b7 : bd (e7 σ p) := bd_U (bd_U (bd_U (bd_U (bd_U (bd_U b4 (by omega)) (by omega)) (by omega)) (by omega)) (by omega)) (by omega)
  have b8 : bd (U (e7 σ p) 19 p (q1 σ p) (r1 σ p)) := bd_U b7 (by omega)
  intro f a b
  unfold a1 clrB
  split
  · omega
  · exact b8 f a b
/-- the invariant with the room of numbers and the faulty ones fixed -/
def Pu.Ic (c : Nat → Nat → Nat) (σ : Sg) : Prop := Iw σ ∧ bd σ ∧ σ 0 = c
def Pu.mu (p : Nat) (σ : Sg) : Nat := 50 * (16 - σ 10 p 0) + 8 * (5 - σ 11 p 0) + 2 * (2 - σ 12 p 0) + (if σ 16 p 0 = σ 11 p 0 + 1 then 0 else 1) + (if σ 29 p (slt 0 (σ 11 p 0) (p % 4)) = 0 then 1 else 0)
theorem Pu.mu_le {p : Nat} {σ : Sg} : mu p σ ≤ 846 := by
  unfold mu
  have a : (if σ 16 p 0 = σ 11 p 0 + 1 then 0 else 1) ≤ 1 := by split <;> omega
  have b : (if σ 29 p (slt 0 (σ 11 p 0) (p % 4)) = 0 then 1 else 0) ≤ 1 := by split <;> omega
  omega
theorem Pu.mu_s {p : Nat} {σ τ : Sg} (h10 : τ 10 p 0 = σ 10 p 0) (h11 : τ 11 p 0 = σ 11 p 0) (h12 : σ 12 p 0 < τ 12 p 0) (h2 : τ 12 p 0 ≤ 2) (h16 : τ 16 p 0 = σ 16 p 0 ∨ τ 16 p 0 = σ 11 p 0 + 1) (h29 : ¬ σ 29 p (slt 0 (σ 11 p 0) (p % 4)) = 0 → ¬ τ 29 p (slt 0 (σ 11 p 0) (p % 4)) = 0) : mu p τ < mu p σ := by
  unfold mu
  rw [h10, h11]
  have a : (if τ 16 p 0 = σ 11 p 0 + 1 then 0 else 1) ≤ (if σ 16 p 0 = σ 11 p 0 + 1 then 0 else 1) := by
    rcases h16 with e | e
    · rw [e]; exact Nat.le_refl _
    · rw [if_pos e]; omega
  have b : (if τ 29 p (slt 0 (σ 11 p 0) (p % 4)) = 0 then 1 else 0) ≤ (if σ 29 p (slt 0 (σ 11 p 0) (p % 4)) = 0 then 1 else 0) := by
    by_cases e : σ 29 p (slt 0 (σ 11 p 0) (p % 4)) = 0
    · rw [if_pos e]; split <;> omega
    · rw [if_neg e, if_neg (h29 e)]; omega
  omega
theorem Pu.snd_29 {σ : Sg} {p k x y v : Nat} (h : ¬ σ 29 p (slt 0 (σ 11 p 0) (p % 4)) = 0) : ¬ U (sSend σ p k x y) 12 p 0 v 29 p (slt 0 (σ 11 p 0) (p % 4)) = 0 := by
  rw [U_ne (by decide), sSend_29]
  split
  · omega
  · exact h
theorem Pu.one_cases {σ σ' : Sg} {p : Nat} (h : one σ p = some σ') : (g1 σ p ∧ σ' = a1 σ p) ∨ (¬ j2 σ p = 0 ∧ σ' = a2 σ p) ∨ (g3 σ p ∧ σ' = a3 σ p) ∨ (g4 σ p ∧ σ' = a4 σ p) ∨ (g5 σ p ∧ σ 12 p 0 = 1 ∧ σ' = s5 σ p) ∨ (g5 σ p ∧ σ' = c5 σ p) ∨ (g6 σ p ∧ σ' = a6 σ p) := by
  unfold one at h
  by_cases h1 : g1 σ p
  · rw [ifP_t h1] at h; cases h; exact Or.inl ⟨h1, rfl⟩
  rw [ifP_f h1] at h
  by_cases h2 : ¬ j2 σ p = 0
  · rw [ifP_t h2] at h; cases h; exact Or.inr (Or.inl ⟨h2, rfl⟩)
  rw [ifP_f h2] at h
  by_cases h3 : g3 σ p
  · rw [ifP_t h3] at h; cases h; exact Or.inr (Or.inr (Or.inl ⟨h3, rfl⟩))
  rw [ifP_f h3] at h
  by_cases h4 : g4 σ p
  · rw [ifP_t h4] at h; cases h; exact Or.inr (Or.inr (Or.inr (Or.inl ⟨h4, rfl⟩)))
  rw [ifP_f h4] at h
  by_cases h5 : g5 σ p
  · rw [ifP_t h5] at h
    by_cases h : σ 12 p 0 = 1
    · rename_i hh
      rw [ifP_t h] at hh; cases hh; exact Or.inr (Or.inr (Or.inr (Or.inr (Or.inl ⟨h5, h, rfl⟩))))
    · rename_i hh
      rw [ifP_f h] at hh; cases hh; exact Or.inr (Or.inr (Or.inr (Or.inr (Or.inr (Or.inl ⟨h5, rfl⟩)))))
  rw [ifP_f h5] at h
  by_cases h6 : g6 σ p
  · rw [ifP_t h6] at h; cases h; exact Or.inr (Or.inr (Or.inr (Or.inr (Or.inr (Or.inr ⟨h6, rfl⟩)))))
  rw [ifP_f h6] at h; cases h
theorem Pu.one_iw {σ σ' : Sg} {p : Nat} (hp : p < 8) (hon : σ 0 p 0 = 0) (I : Iw σ) (h : one σ p = some σ') : Iw σ' := by
  rcases one_cases h with ⟨g, e⟩ | ⟨g, e⟩ | ⟨g, e⟩ | ⟨g, e⟩ | ⟨g, g', e⟩ | ⟨g, e⟩ | ⟨g, e⟩ <;> subst e
  · exact a1_iw hp I hon g
  · exact a2_iw hp hon I g
  · exact a3_iw hp hon I g
  · exact a4_iw hp hon I g
  · exact s5_iw hp hon I g g'
  · exact c5_iw hp hon I g
  · exact nil_iw hp I hon (by omega) (by omega) (by have := g.1; omega)
theorem Pu.x4_le {σ : Sg} {p : Nat} (I : Iw σ) : x4 σ p ≤ 32 := by
  unfold x4
  have := I.bx.b9 p (slt 0 (σ 11 p 0) (ld σ p (σ 11 p 0)))
  by_cases c : welcome σ p (prp σ p (σ 11 p 0) - 1) (prc σ p (σ 11 p 0))
  · rw [ifP_t c]; unfold prp; omega
  · rw [ifP_f c]; omega
theorem Pu.one_bd {σ σ' : Sg} {p : Nat} (hp : p < 8) (I : Iw σ) (b : bd σ) (h : one σ p = some σ') : bd σ' := by
  have m9 := ms918 I.ms (s := p / 4) (by omega)
  have R := I.po.rd p hp
  have hx : prp σ p (σ 11 p 0) - 1 ≤ 32 := by
    have := I.bx.b9 p (slt 0 (σ 11 p 0) (ld σ p (σ 11 p 0)))
    unfold prp; omega
  rcases one_cases h with ⟨g, e⟩ | ⟨g, e⟩ | ⟨g, e⟩ | ⟨g, e⟩ | ⟨g, g', e⟩ | ⟨g, e⟩ | ⟨g, e⟩ <;> subst e
  · exact bd_a1 b I g
  · have := j2_spec g R
    exact bd_U (bd_U b (by omega)) (by omega)
  · exact bd_send b (by omega) (x3_spec I hp) (by have := I.po.cd p hp; omega) m9
  · exact bd_U (bd_send b (by omega) (x4_le I) (by omega) m9) (by omega)
  · refine bd_U (bd_send ?_ (by omega) hx (by omega) ?_) (by omega)
    · exact bd_U (bd_U (bd_U (bd_U b (by omega)) (by omega)) (by omega)) (by omega)
    · rw [k5_ne (by omega)]; exact m9
  · exact bd_U (bd_U b (by omega)) (by omega)
  · exact bd_U (bd_send b (by omega) (by omega) (by omega) m9) (by omega)
theorem Pu.one_mu {σ σ' : Sg} {p : Nat} (hp : p < 8) (I : Iw σ) (h : one σ p = some σ') : mu p σ' < mu p σ := by
  have R := I.po.rd p hp
  have H := I.po.ht p hp
  rcases one_cases h with ⟨g, e⟩ | ⟨g, e⟩ | ⟨g, e⟩ | ⟨g, e⟩ | ⟨g, g', e⟩ | ⟨g, e⟩ | ⟨g, e⟩ <;> subst e
  · have a := mu_le (p := p) (σ := a1 σ p)
    have c10 : a1 σ p 10 p 0 = σ 10 p 0 + 1 := by rw [a1_10, if_pos ⟨rfl, rfl⟩]
    have c11 : a1 σ p 11 p 0 = 0 := by rw [a1_11, if_pos ⟨rfl, rfl⟩]
    have c12 : a1 σ p 12 p 0 = 0 := by rw [a1_12, if_pos ⟨rfl, rfl⟩]
    have c16 : a1 σ p 16 p 0 = 0 := by rw [a1_16, if_pos ⟨rfl, rfl⟩]
    unfold mu
    rw [c10, c11, c12, c16]
    have b1 : (if (0 : Nat) = 0 + 1 then 0 else 1) = 1 := rfl
    have b2 : (if a1 σ p 29 p (slt 0 0 (p % 4)) = 0 then 1 else 0) ≤ 1 := by split <;> omega
    have := g.2
    omega
  · have := j2_spec g R
    unfold mu a2
    have e10 : U (U σ 11 p 0 (j2 σ p - 1)) 12 p 0 0 10 p 0 = σ 10 p 0 := by rw [U_ne (by decide), U_ne (by decide)]
    have e11 : U (U σ 11 p 0 (j2 σ p - 1)) 12 p 0 0 11 p 0 = j2 σ p - 1 := by rw [U_ne (by decide), U_at, if_pos ⟨rfl, rfl⟩]
    have e12 : U (U σ 11 p 0 (j2 σ p - 1)) 12 p 0 0 12 p 0 = 0 := by rw [U_at, if_pos ⟨rfl, rfl⟩]
    rw [e10, e11, e12]
    have b1 : (if U (U σ 11 p 0 (j2 σ p - 1)) 12 p 0 0 16 p 0 = j2 σ p - 1 + 1 then 0 else 1) ≤ 1 := by split <;> omega
    have b2 : (if U (U σ 11 p 0 (j2 σ p - 1)) 12 p 0 0 29 p (slt 0 (j2 σ p - 1) (p % 4)) = 0 then 1 else 0) ≤ 1 := by split <;> omega
    omega
  · unfold mu a3
    rw [sSend_ne (f := 10) (by omega), sSend_ne (f := 11) (by omega), sSend_ne (f := 12) (by omega), sSend_ne (f := 16) (by omega), sSend_29, if_pos (c := p = p ∧ _) ⟨rfl, rfl⟩, if_neg (c := x3 σ p + 1 = 0) (by omega), if_pos (c := σ 29 p (slt 0 (σ 11 p 0) (p % 4)) = 0) g.2.2.1]
    omega
  · have := g.1
    refine mu_s ?_ ?_ ?_ ?_ (Or.inl ?_) snd_29
    · unfold a4; rw [U_ne (by omega), sSend_ne (by omega)]
    · unfold a4; rw [U_ne (by omega), sSend_ne (by omega)]
    · unfold a4; rw [snd_12a]; omega
    · unfold a4; rw [snd_12a]; omega
    · unfold a4; exact snd_12v (by omega) (by omega)
  · refine mu_s ?_ ?_ ?_ ?_ (Or.inr ?_) ?_
    · unfold s5; rw [U_ne (by omega), sSend_ne (by omega), k5_ne (by omega)]
    · unfold s5; rw [U_ne (by omega), sSend_ne (by omega), k5_ne (by omega)]
    · unfold s5; rw [snd_12a]; omega
    · unfold s5; rw [snd_12a]; omega
    · unfold s5 k5 c5; rw [U_ne (by omega), sSend_ne (by omega), U_ne (by omega), U_ne (by omega), U_at, if_pos ⟨rfl, rfl⟩]
    · intro h
      unfold s5
      rw [U_ne (by decide), sSend_29, k5_ne (f := 29) (by omega)]
      split
      · omega
      · exact h
  · have e10 : c5 σ p 10 p 0 = σ 10 p 0 := by unfold c5; rw [U_ne (by decide), U_ne (by decide)]
    have e11 : c5 σ p 11 p 0 = σ 11 p 0 := by unfold c5; rw [U_ne (by decide), U_ne (by decide)]
    have e12 : c5 σ p 12 p 0 = σ 12 p 0 := by unfold c5; rw [U_ne (by decide), U_ne (by decide)]
    have e16 : c5 σ p 16 p 0 = σ 11 p 0 + 1 := by unfold c5; rw [U_at, if_pos ⟨rfl, rfl⟩]
    have e29 : c5 σ p 29 = σ 29 := by unfold c5; rw [U_ne (by decide), U_ne (by decide)]
    unfold mu
    rw [e10, e11, e12, e16, e29, if_pos (c := σ 11 p 0 + 1 = σ 11 p 0 + 1) rfl, if_neg g.2.1]
    omega
  · have := g.1
    refine mu_s ?_ ?_ ?_ ?_ (Or.inl ?_) snd_29
    · unfold a6; rw [U_ne (by omega), sSend_ne (by omega)]
    · unfold a6; rw [U_ne (by omega), sSend_ne (by omega)]
    · unfold a6; rw [snd_12a]; omega
    · unfold a6; rw [snd_12a]; omega
    · unfold a6; exact snd_12v (by omega) (by omega)
/-- there is room for one more message -/
theorem Pu.snd_room {σ τ : Sg} {p k x y : Nat} (hp : p < 8) (S : Snd σ τ p k x y) (I : Iw τ) : σ 20 (p / 4) 0 < 918 := by
  have := ms918 I.ms (s := p / 4) (by omega)
  rw [S.n20, if_pos ⟨rfl, rfl⟩] at this
  omega
theorem Pu.ok_Rq {σ : Sg} (I : Iw σ) (b : bd σ) {p : Nat} (hp : p < 8) : Rq σ p := by
  have r := rq32 I.bk
  have R := I.po.rd p hp
  have C := I.po.cd p hp
  refine ⟨b, r, I.bk.tx, by omega, I.bx.b0 p, fun q hq => ⟨(I.bk.rq q hq).2.1, (I.bk.rq q hq).2.2⟩, ?_, by omega, by omega⟩
  intro h
  by_cases hon : σ 0 p 0 = 0
  · rcases h with h | h | h | h
    · exact snd_room hp snd_0 (a3_iw hp hon I h)
    · exact snd_room hp snd_12 (a4_iw hp hon I h)
    · exact snd_room hp s5_snd (s5_iw hp hon I h.1 h.2)
    · exact snd_room hp snd_12 (nil_iw hp I hon (k := 2) (by omega) (by omega) (by have := h.1; omega))
  · exfalso
    obtain ⟨f1, f2, f3, f4⟩ := I.po.fau p hp hon
    have fb := I.bx.fb p hp hon
    rcases h with h | h | h | h
    · have := h.2.1
      unfold ld at this
      rw [f2, f3] at this
      omega
    · have := h.2.1
      unfold prp at this
      rw [fb] at this
      exact this rfl
    · have := h.2
      omega
    · have := h.1
      omega
theorem Pu.one_0 {σ σ' : Sg} {p : Nat} (h : one σ p = some σ') : σ' 0 = σ 0 := by
  rcases one_cases h with ⟨g, e⟩ | ⟨g, e⟩ | ⟨g, e⟩ | ⟨g, e⟩ | ⟨g, g', e⟩ | ⟨g, e⟩ | ⟨g, e⟩ <;> subst e
  · exact a1_ne (by omega)
  · unfold a2; rw [U_ne (by omega), U_ne (by omega)]
  · unfold a3; rw [sSend_ne (by omega)]
  · unfold a4; rw [U_ne (by omega), sSend_ne (by omega)]
  · unfold s5; rw [U_ne (by omega), sSend_ne (by omega), k5_ne (by omega)]
  · unfold c5; rw [U_ne (by omega), U_ne (by omega)]
  · unfold a6; rw [U_ne (by omega), sSend_ne (by omega)]
theorem Pu.okI (c : Nat → Nat → Nat) : OkI (Ic c) mu := by
  intro p hp
  refine ⟨fun σ h => ok_Rq h.1 h.2.1 hp, fun σ σ' h h0 _ e => ⟨⟨one_iw hp h0 h.1 e, one_bd hp h.1 h.2.1 e, (one_0 e).trans h.2.2⟩, one_mu hp h.1 e⟩, fun σ _ => ?_⟩
  have := mu_le (p := p) (σ := σ)
  omega
theorem Pu.bd_take {σ : Sg} {p k : Nat} (b : bd σ) (I : Iw σ) (hp : p < 8) (hk : k < σ 20 (p / 4) 0) : bd (sTake σ p k) := by
  have f := I.ms.fld (p / 4) k (by omega) hk
  have t := (tks_b _ f.2.2.2.2.2.2 (p % 4) (by omega)).1
  have b1 : bd (tk1 σ p k) := bd_U b (by omega)
  unfold sTake
  by_cases c : σ 23 (p / 4) k = σ 10 p 0
  · rw [ifP_t c]; exact bd_U (bd_U b1 (by omega)) (by omega)
  · rw [ifP_f c]; exact b1
theorem Pu.take_0 {σ : Sg} {p k f : Nat} (h1 : f ≠ 27) (h2 : f ≠ 29) (h3 : f ≠ 30) : sTake σ p k f = σ f := by
  unfold sTake tk2 tk1
  by_cases c : σ 23 (p / 4) k = σ 10 p 0
  · rw [ifP_t c, U_ne h3, U_ne h2, U_ne h1]
  · rw [ifP_f c, U_ne h1]
theorem Pu.okM (c : Nat → Nat → Nat) : OkM (Ic c) := by
  refine ⟨fun σ s h hs => ms918 h.1.ms hs, fun σ s k h hs hk => ?_, fun σ p k h hp hk cn => ⟨sTake_iw hp h.1 hk cn, bd_take h.2.1 h.1 hp hk, (take_0 (by omega) (by omega) (by omega)).trans h.2.2⟩⟩
  have f := h.1.ms.fld s k hs hk
  exact ⟨f.2.2.2.2.2.2, f.1, f.2.2.2.1, f.2.1⟩
