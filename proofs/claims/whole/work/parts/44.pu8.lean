set_option linter.unusedVariables false
set_option linter.unusedSimpArgs false
/-! Pure part 8: floods end; the books. -/
noncomputable def Pu.ph (s : Nat) (σ : Sg) : Nat := sm (fun k => bc (σ 27 s k)) (σ 20 s 0)
theorem Pu.bc_le (m : Nat) : bc m ≤ 4 := by unfold bc; omega
theorem Pu.sm_ext {f g : Nat → Nat} : ∀ n, (∀ a, a < n → g a = f a) → sm g n = sm f n
  | 0, _ => rfl
  | n + 1, h => by
    show sm g n + g n = sm f n + f n
    rw [sm_ext n (fun a ha => h a (by omega)), h n (by omega)]
theorem Pu.ph_eq {s : Nat} {σ τ : Sg} (h20 : τ 20 = σ 20) (h27 : τ 27 = σ 27) : ph s τ = ph s σ := by
  unfold ph; rw [h20, h27]
theorem Pu.ph_snd {s p k x y : Nat} {σ τ : Sg} (S : Snd σ τ p k x y) : ph s σ ≤ ph s τ := by
  unfold ph
  have e27 : ∀ a b, τ 27 a b = if a = p / 4 ∧ b = σ 20 (p / 4) 0 then 2 ^ (p % 4) else σ 27 a b := fun a b => by rw [S.fr 27 (by omega), sSend_27]
  rw [S.n20]
  by_cases c : s = p / 4
  · subst c
    rw [if_pos ⟨rfl, rfl⟩]
    show _ ≤ sm _ (σ 20 (p / 4) 0) + _
    rw [sm_ext (f := fun k => bc (σ 27 (p / 4) k)) (g := fun k => bc (τ 27 (p / 4) k)) _ (fun a ha => by
      show bc (τ 27 (p / 4) a) = bc (σ 27 (p / 4) a)
      rw [e27, if_neg (by omega)])]
    omega
  · rw [if_neg (fun h => c h.1), sm_ext (f := fun k => bc (σ 27 s k)) (g := fun k => bc (τ 27 s k)) _ (fun a ha => by
      show bc (τ 27 s a) = bc (σ 27 s a)
      rw [e27, if_neg (fun h => c h.1)])]
    exact Nat.le_refl _
theorem Pu.ph_one {σ σ' : Sg} {p s : Nat} (h : one σ p = some σ') : ph s σ ≤ ph s σ' := by
  rcases one_cases h with ⟨g, e⟩ | ⟨g, e⟩ | ⟨g, e⟩ | ⟨g, e⟩ | ⟨g, g', e⟩ | ⟨g, e⟩ | ⟨g, e⟩ <;> subst e
  · rw [ph_eq (a1_ne (by omega)) (a1_ne (by omega))]; exact Nat.le_refl _
  · refine Nat.le_of_eq (ph_eq ?_ ?_).symm
    · unfold a2; rw [U_ne (by omega), U_ne (by omega)]
    · unfold a2; rw [U_ne (by omega), U_ne (by omega)]
  · exact ph_snd snd_0
  · exact ph_snd snd_12
  · exact ph_snd s5_snd
  · refine Nat.le_of_eq (ph_eq ?_ ?_).symm
    · unfold c5; rw [U_ne (by omega), U_ne (by omega)]
    · unfold c5; rw [U_ne (by omega), U_ne (by omega)]
  · exact ph_snd snd_12
theorem Pu.ph_actF {p s : Nat} : ∀ (m : Nat) (σ : Sg), ph s σ ≤ ph s (actF m σ p)
  | 0, σ => Nat.le_refl _
  | m + 1, σ => by
    cases e : one σ p with
    | none => rw [actF_n e]; exact Nat.le_refl _
    | some σ' => rw [actF_s e]; exact Nat.le_trans (ph_one e) (ph_actF m σ')
theorem Pu.ph_act {σ : Sg} {p s : Nat} : ph s σ ≤ ph s (sAct σ p) := by
  unfold sAct
  by_cases q : ¬ σ 0 p 0 = 0 ∨ ¬ σ 17 p 0 = 0
  · rw [ifP_t q]; exact Nat.le_refl _
  · rw [ifP_f q]; exact ph_actF _ _
theorem Pu.bc_tks : ∀ m, m < 16 → ∀ i, i < 4 → ¬ m / 2 ^ i % 2 = 1 → bc (tks m i) = bc m + 1 := by
  unfold bc tks; decide
theorem Pu.ph_take {σ : Sg} {p k : Nat} (h16 : σ 27 (p / 4) k < 16) (hk : k < σ 20 (p / 4) 0) (hn : ¬ σ 27 (p / 4) k / 2 ^ (p % 4) % 2 = 1) : ph (p / 4) (sTake σ p k) = ph (p / 4) σ + 1 := by
  have e27 : ∀ a b, sTake σ p k 27 a b = if a = p / 4 ∧ b = k then tks (σ 27 (p / 4) k) (p % 4) else σ 27 a b := fun a b => by
    unfold sTake tk2 tk1
    by_cases c : σ 23 (p / 4) k = σ 10 p 0
    · rw [ifP_t c, U_ne (by decide), U_ne (by decide), U_at]
    · rw [ifP_f c, U_at]
  unfold ph
  rw [take_0 (f := 20) (by omega) (by omega) (by omega)]
  have := sm_up (f := fun k => bc (σ 27 (p / 4) k)) (g := fun j => bc (sTake σ p k 27 (p / 4) j)) (p := k)
    (by
      show bc (sTake σ p k 27 (p / 4) k) = bc (σ 27 (p / 4) k) + 1
      rw [e27, if_pos ⟨rfl, rfl⟩, bc_tks _ h16 _ (by omega) hn])
    (fun a ha => by
      show bc (sTake σ p k 27 (p / 4) a) = bc (σ 27 (p / 4) a)
      rw [e27, if_neg (fun c => ha c.2)]) (σ 20 (p / 4) 0)
  rw [this, if_pos hk]
theorem Pu.ph_f1 {c : Nat → Nat → Nat} {σ : Sg} {p k : Nat} (hp : p < 8) (h : Ic c σ) (hk : k < σ 20 (p / 4) 0) : ph (p / 4) σ + n1 σ p k ≤ ph (p / 4) (f1 σ p k) := by
  unfold f1 n1
  by_cases cn : can σ p k
  · rw [ifP_t cn, ifP_t cn, ← ph_take ((okM c).2.1 σ (p / 4) k h (by omega) hk).1 hk cn.2.1]; exact ph_act
  · rw [ifP_f cn, ifP_f cn]; exact Nat.le_refl _
theorem Pu.ph_f4 {c : Nat → Nat → Nat} {σ : Sg} {s k : Nat} (hs : s < 2) (h : Ic c σ) (hk : k < σ 20 s 0) : ∀ i, i ≤ 4 → ph s σ + n4 σ s k i ≤ ph s (f4 σ s k i)
  | 0, _ => Nat.le_refl _
  | i + 1, hi => by
    have ih := ph_f4 hs h hk i (by omega)
    have h1 := f4_I (okI c) (okM c) hs h hk i (by omega)
    have d : (4 * s + i) / 4 = s := by omega
    have h2 := f4_20 (σ := σ) (s := s) (k := k) (s' := s) i
    have h3 := ph_f1 (k := k) (p := 4 * s + i) (by omega) h1 (by rw [d]; omega)
    rw [d] at h3
    show ph s σ + (n4 σ s k i + n1 (f4 σ s k i) (4 * s + i) k) ≤ ph s (f1 (f4 σ s k i) (4 * s + i) k)
    omega
theorem Pu.ph_fp {c : Nat → Nat → Nat} {s : Nat} (hs : s < 2) : ∀ (m : Nat) (σ : Sg) (k : Nat), Ic c σ → ph s σ + np s m σ k ≤ ph s (fp s m σ k)
  | 0, σ, k, h => Nat.le_refl _
  | m + 1, σ, k, h => by
    unfold np fp
    by_cases q : k < σ 20 s 0
    · rw [ifP_t q, ifP_t q]
      have h1 := ph_f4 hs h q 4 (by omega)
      have h2 := ph_fp hs m (f4 σ s k 4) (k + 1) (f4_I (okI c) (okM c) hs h q 4 (by omega))
      omega
    · rw [ifP_f q, ifP_f q]; exact Nat.le_refl _
theorem Pu.ph_le {c : Nat → Nat → Nat} {s : Nat} {σ : Sg} (hs : s < 2) (h : Ic c σ) : ph s σ ≤ 3672 := by
  have a := (okM c).1 σ s h hs
  have b := sm_le (f := fun k => bc (σ 27 s k)) (c := 4) (fun k => bc_le _) (σ 20 s 0)
  unfold ph
  omega
theorem Pu.ends_ph {c : Nat → Nat → Nat} {s : Nat} (hs : s < 2) : ∀ (m : Nat) (σ : Sg), Ic c σ → 3672 < ph s σ + m → ends s m σ
  | 0, σ, h, hl => by have := ph_le hs h; omega
  | m + 1, σ, h, hl => by
    unfold ends
    by_cases z : np s 918 σ 0 = 0
    · exact Or.inl z
    · right
      have := ph_fp hs 918 σ 0 h
      exact ends_ph hs m _ (fp_I (okI c) (okM c) hs 918 σ 0 h) (by omega)
theorem Pu.ends_ok {c : Nat → Nat → Nat} {s : Nat} {σ : Sg} (hs : s < 2) (h : Ic c σ) : ends s 5000 σ := ends_ph hs 5000 σ h (by omega)
/-! new requests -/
abbrev Pu.Mk (σ τ : Sg) (P : Nat → Prop) (k t : Nat) : Prop := (∀ f, f ≠ 5 ∧ f ≠ 6 ∧ f ≠ 7 ∧ f ≠ 34 → τ f = σ f) ∧ (σ 34 0 0 ≤ τ 34 0 0) ∧ (τ 34 0 0 ≤ σ 34 0 0 + 2) ∧ (∀ q, q < σ 34 0 0 → τ 5 0 q = σ 5 0 q ∧ τ 6 0 q = σ 6 0 q ∧ τ 7 0 q = σ 7 0 q) ∧ (∀ q, σ 34 0 0 ≤ q → q < τ 34 0 0 → τ 5 0 q < 2 ∧ τ 6 0 q = k ∧ τ 7 0 q = t) ∧ (∀ q q', σ 34 0 0 ≤ q → q < τ 34 0 0 → σ 34 0 0 ≤ q' → q' < τ 34 0 0 → τ 5 0 q = τ 5 0 q' → q = q') ∧ (∀ s, s < 2 → P s → ∃ q, σ 34 0 0 ≤ q ∧ q < τ 34 0 0)
theorem Pu.Mk.mk {σ τ : Sg} {P : Nat → Prop} {k t : Nat} (fr : ∀ f, f ≠ 5 ∧ f ≠ 6 ∧ f ≠ 7 ∧ f ≠ 34 → τ f = σ f) (n0 : σ 34 0 0 ≤ τ 34 0 0) (n2 : τ 34 0 0 ≤ σ 34 0 0 + 2) (ol : ∀ q, q < σ 34 0 0 → τ 5 0 q = σ 5 0 q ∧ τ 6 0 q = σ 6 0 q ∧ τ 7 0 q = σ 7 0 q) (nw : ∀ q, σ 34 0 0 ≤ q → q < τ 34 0 0 → τ 5 0 q < 2 ∧ τ 6 0 q = k ∧ τ 7 0 q = t) (un : ∀ q q', σ 34 0 0 ≤ q → q < τ 34 0 0 → σ 34 0 0 ≤ q' → q' < τ 34 0 0 → τ 5 0 q = τ 5 0 q' → q = q') (ex : ∀ s, s < 2 → P s → ∃ q, σ 34 0 0 ≤ q ∧ q < τ 34 0 0) : Pu.Mk σ τ P k t := ⟨fr, n0, n2, ol, nw, un, ex⟩
theorem Pu.Mk.fr {σ τ : Sg} {P : Nat → Prop} {k t : Nat} (h : Pu.Mk σ τ P k t) : ∀ f, f ≠ 5 ∧ f ≠ 6 ∧ f ≠ 7 ∧ f ≠ 34 → τ f = σ f := h.1
theorem Pu.Mk.n0 {σ τ : Sg} {P : Nat → Prop} {k t : Nat} (h : Pu.Mk σ τ P k t) : σ 34 0 0 ≤ τ 34 0 0 := h.2.1
theorem Pu.Mk.n2 {σ τ : Sg} {P : Nat → Prop} {k t : Nat} (h : Pu.Mk σ τ P k t) : τ 34 0 0 ≤ σ 34 0 0 + 2 := h.2.2.1
theorem Pu.Mk.ol {σ τ : Sg} {P : Nat → Prop} {k t : Nat} (h : Pu.Mk σ τ P k t) : ∀ q, q < σ 34 0 0 → τ 5 0 q = σ 5 0 q ∧ τ 6 0 q = σ 6 0 q ∧ τ 7 0 q = σ 7 0 q := h.2.2.2.1
theorem Pu.Mk.nw {σ τ : Sg} {P : Nat → Prop} {k t : Nat} (h : Pu.Mk σ τ P k t) : ∀ q, σ 34 0 0 ≤ q → q < τ 34 0 0 → τ 5 0 q < 2 ∧ τ 6 0 q = k ∧ τ 7 0 q = t := h.2.2.2.2.1
theorem Pu.Mk.un {σ τ : Sg} {P : Nat → Prop} {k t : Nat} (h : Pu.Mk σ τ P k t) : ∀ q q', σ 34 0 0 ≤ q → q < τ 34 0 0 → σ 34 0 0 ≤ q' → q' < τ 34 0 0 → τ 5 0 q = τ 5 0 q' → q = q' := h.2.2.2.2.2.1
theorem Pu.Mk.ex {σ τ : Sg} {P : Nat → Prop} {k t : Nat} (h : Pu.Mk σ τ P k t) : ∀ s, s < 2 → P s → ∃ q, σ 34 0 0 ≤ q ∧ q < τ 34 0 0 := h.2.2.2.2.2.2
theorem Pu.sMake_5 {σ : Sg} {s k t b : Nat} : sMake σ s k t 5 0 b = if b = σ 34 0 0 then s else σ 5 0 b := by
  simp [sMake, U_ne, U_at]
theorem Pu.sMake_6 {σ : Sg} {s k t b : Nat} : sMake σ s k t 6 0 b = if b = σ 34 0 0 then k else σ 6 0 b := by
  simp [sMake, U_ne, U_at]
theorem Pu.sMake_7 {σ : Sg} {s k t b : Nat} : sMake σ s k t 7 0 b = if b = σ 34 0 0 then t else σ 7 0 b := by
  simp [sMake, U_ne, U_at]
theorem Pu.mk_Mk {σ : Sg} {P : Nat → Prop} {k t : Nat} : Mk σ (mk P k t 2 σ) P k t := by
  have fr : ∀ f, f ≠ 5 ∧ f ≠ 6 ∧ f ≠ 7 ∧ f ≠ 34 → mk P k t 2 σ f = σ f := fun f h => mk_ne h 2
  have hn := mk_34 (P := P) (k := k) (t := t) (σ := σ) 2
  have e2 : mk P k t 2 σ = ifP (P 1) (sMake (ifP (P 0) (sMake σ 0 k t) σ) 1 k t) (ifP (P 0) (sMake σ 0 k t) σ) := rfl
  rw [e2] at fr hn ⊢
  by_cases p1 : P 1
  · rw [ifP_t p1] at fr hn ⊢
    by_cases p0 : P 0
    · rw [ifP_t p0] at fr hn ⊢
      have n1 := sMake_34 (σ := σ) (s := 0) (k := k) (t := t)
      have n2 := sMake_34 (σ := sMake σ 0 k t) (s := 1) (k := k) (t := t)
      have a5 : ∀ q, sMake (sMake σ 0 k t) 1 k t 5 0 q = if q = σ 34 0 0 + 1 then 1 else if q = σ 34 0 0 then 0 else σ 5 0 q := fun q => by rw [sMake_5, n1, sMake_5]
      have a6 : ∀ q, sMake (sMake σ 0 k t) 1 k t 6 0 q = if q = σ 34 0 0 + 1 then k else if q = σ 34 0 0 then k else σ 6 0 q := fun q => by rw [sMake_6, n1, sMake_6]
      have a7 : ∀ q, sMake (sMake σ 0 k t) 1 k t 7 0 q = if q = σ 34 0 0 + 1 then t else if q = σ 34 0 0 then t else σ 7 0 q := fun q => by rw [sMake_7, n1, sMake_7]
      rw [n1] at n2
      refine Mk.mk (fr := fr) (n0 := hn.1) (n2 := hn.2) (ol := ?_) (nw := ?_) (un := ?_) (ex := ?_)
      · intro q hq
        rw [a5, a6, a7, if_neg (by omega), if_neg (by omega), if_neg (by omega), if_neg (by omega), if_neg (by omega), if_neg (by omega)]
        exact ⟨rfl, rfl, rfl⟩
      · intro q h1 h2
        rw [n2] at h2
        rw [a5, a6, a7]
        by_cases e : q = σ 34 0 0 + 1
        · rw [if_pos e, if_pos e, if_pos e]; exact ⟨by omega, rfl, rfl⟩
        · have e' : q = σ 34 0 0 := by omega
          rw [if_neg e, if_neg e, if_neg e, if_pos e', if_pos e', if_pos e']; exact ⟨by omega, rfl, rfl⟩
      · intro q q' h1 h2 h3 h4
        rw [n2] at h2 h4
        rw [a5, a5]
        intro h
        rcases (show q = σ 34 0 0 ∨ q = σ 34 0 0 + 1 by omega) with e | e <;> rcases (show q' = σ 34 0 0 ∨ q' = σ 34 0 0 + 1 by omega) with e' | e' <;> subst e <;> subst e'
        · rfl
        · rw [if_neg (by omega), if_pos rfl, if_pos rfl] at h; omega
        · rw [if_pos rfl, if_neg (by omega), if_pos rfl] at h; omega
        · rfl
      · intro s _ _
        exact ⟨σ 34 0 0, by omega, by omega⟩
    · rw [ifP_f p0] at fr hn ⊢
      have n1 := sMake_34 (σ := σ) (s := 1) (k := k) (t := t)
      refine Mk.mk (fr := fr) (n0 := hn.1) (n2 := hn.2) (ol := ?_) (nw := ?_) (un := ?_) (ex := ?_)
      · intro q hq
        rw [sMake_5, sMake_6, sMake_7, if_neg (by omega), if_neg (by omega), if_neg (by omega)]
        exact ⟨rfl, rfl, rfl⟩
      · intro q h1 h2
        have e : q = σ 34 0 0 := by omega
        rw [sMake_5, sMake_6, sMake_7, if_pos e, if_pos e, if_pos e]; exact ⟨by omega, rfl, rfl⟩
      · intro q q' h1 h2 h3 h4 _
        omega
      · intro s _ _
        exact ⟨σ 34 0 0, by omega, by omega⟩
  · rw [ifP_f p1] at fr hn ⊢
    by_cases p0 : P 0
    · rw [ifP_t p0] at fr hn ⊢
      have n1 := sMake_34 (σ := σ) (s := 0) (k := k) (t := t)
      refine Mk.mk (fr := fr) (n0 := hn.1) (n2 := hn.2) (ol := ?_) (nw := ?_) (un := ?_) (ex := ?_)
      · intro q hq
        rw [sMake_5, sMake_6, sMake_7, if_neg (by omega), if_neg (by omega), if_neg (by omega)]
        exact ⟨rfl, rfl, rfl⟩
      · intro q h1 h2
        have e : q = σ 34 0 0 := by omega
        rw [sMake_5, sMake_6, sMake_7, if_pos e, if_pos e, if_pos e]; exact ⟨by omega, rfl, rfl⟩
      · intro q q' h1 h2 h3 h4 _
        omega
      · intro s _ _
        exact ⟨σ 34 0 0, by omega, by omega⟩
    · rw [ifP_f p0] at fr hn ⊢
      refine Mk.mk (fr := fr) (n0 := hn.1) (n2 := hn.2) (ol := fun q _ => ⟨rfl, rfl, rfl⟩) (nw := fun q h1 h2 => by omega) (un := fun q q' h1 h2 => by omega) (ex := ?_)
      intro s hs h
      exfalso
      have : s = 0 ∨ s = 1 := by omega
      rcases this with e | e <;> subst e
      · exact p0 h
      · exact p1 h
theorem Pu.bd_make {σ : Sg} {s k t : Nat} (b : bd σ) (hs : s < 2) (hk : k < 3) (ht : t < 100000) (hn : σ 34 0 0 < 99999) : bd (sMake σ s k t) := by
  unfold sMake
  exact bd_U (bd_U (bd_U (bd_U b (by omega)) (by omega)) ht) (by omega)
theorem Pu.bd_mk {σ : Sg} {P : Nat → Prop} {k t : Nat} (b : bd σ) (hk : k < 3) (ht : t < 100000) (hn : σ 34 0 0 ≤ 32) : ∀ n, n ≤ 2 → bd (mk P k t n σ)
  | 0, _ => b
  | n + 1, h => by
    have ih := bd_mk (P := P) b hk ht hn n (by omega)
    have := mk_34 (P := P) (k := k) (t := t) (σ := σ) n
    unfold mk
    by_cases c : P n
    · rw [ifP_t c]; exact bd_make ih (by omega) hk ht (by omega)
    · rw [ifP_f c]; exact ih
/-- the rest doesn't see the books -/
theorem Pu.Iw_bk {σ τ : Sg} (I : Iw σ) (b : Bk τ) (e : ∀ f, f = 0 ∨ (8 ≤ f ∧ f ≤ 32) → τ f = σ f) (e5 : ∀ q, q < σ 34 0 0 → τ 5 0 q = σ 5 0 q) (eq : ∀ q, q < σ 34 0 0 → Sq σ τ q) (h34 : σ 34 0 0 ≤ τ 34 0 0) : Iw τ := Iw.mk
  (bk := b)
  (po := Po_cg (e 0 (by omega)) (fun f a b => e f (by omega)) I.po)
  (ms := Ms_cg (e 0 (by omega)) (e 10 (by omega)) (e 11 (by omega)) (e 12 (by omega)) (fun f a b => e f (by omega)) I.ms)
  (bx := Bx_cg (e 0 (by omega)) (e 10 (by omega)) (fun f a b => e f (by omega)) I.bx)
  (vt := Vt_cg (e 0 (by omega)) (e 10 (by omega)) (e 13 (by omega)) (e 14 (by omega)) (e 18 (by omega)) (fun f a b => e f (by omega)) I.vt)
  (ex := Ex_cg e5 eq (e 8 (by omega)) (e 9 (by omega)) (e 10 (by omega)) (e 18 (by omega)) (e 19 (by omega)) (e 31 (by omega)) (e 32 (by omega)) h34 I.ex)
theorem Pu.st_Ic {c : Nat → Nat → Nat} {σ : Sg} {t v : Nat} (h : Ic c σ) (ht : t < σ 33 0 0) (h0 : ¬ σ 3 0 t = 0) (hv : v = 3 ∨ v = 4) : Ic c (U σ 3 0 t v) := by
  obtain ⟨I, b, e0⟩ := h
  have e : ∀ f, f ≠ 3 → U σ 3 0 t v f = σ f := fun f h => U_ne h
  have e3 : ∀ n, U σ 3 0 t v 3 0 n = if n = t then v else σ 3 0 n := fun n => by rw [U_at]; simp
  refine ⟨Iw_bk I ?_ (fun f h => e f (by omega)) (fun q _ => by rw [e 5 (by omega)]) (fun q _ => Sq_same (e 1 (by omega)) (e 2 (by omega)) (e 4 (by omega)) (e 6 (by omega)) (e 7 (by omega)) q) (by rw [e 34 (by omega)]; exact Nat.le_refl _), bd_U b (by omega), (e 0 (by omega)).trans e0⟩
  have B := I.bk
  refine ⟨?_, ?_, ?_, ?_, ?_, ?_, ?_, ?_, ?_, ?_, ?_⟩
  · rw [e 33 (by omega)]; exact B.tx
  · unfold INP; rw [e 33 (by omega), e 1 (by omega), e 2 (by omega)]; exact B.ip
  · rw [e 33 (by omega), e 4 (by omega)]; exact B.amt
  · rw [e 33 (by omega), e 34 (by omega), e 5 (by omega), e 6 (by omega), e 7 (by omega)]; exact B.rq
  · rw [e 34 (by omega), e 5 (by omega), e 6 (by omega), e 7 (by omega)]; exact B.un
  · rw [e 34 (by omega), e 6 (by omega), e 7 (by omega)]
    intro q hq hz
    rw [e3]
    split
    · omega
    · exact B.st q hq hz
  · intro n
    rw [e3]
    split
    · omega
    · exact B.st4 n
  · rw [e 33 (by omega)]
    intro n hn
    rw [e3, if_neg (by omega)]; exact B.sz n hn
  · rw [e 33 (by omega), e 34 (by omega), e 6 (by omega), e 7 (by omega)]; exact B.ex0
  · rw [e 33 (by omega), e 34 (by omega), e 6 (by omega), e 7 (by omega)]
    intro n hn
    rw [e3]
    split
    · omega
    · exact B.ex1 n hn
  · rw [e 33 (by omega), e 34 (by omega), e 6 (by omega), e 7 (by omega)]
    intro n hn
    rw [e3]
    split
    · omega
    · exact B.ex2 n hn
theorem Pu.dec_Ic {c : Nat → Nat → Nat} {σ : Sg} {t k : Nat} {P : Nat → Prop} (h : Ic c σ) (ht : t < σ 33 0 0) (h0 : σ 3 0 t = 0) (hk : k = 1 ∨ k = 2) (hP : ∃ s, s < 2 ∧ P s) : Ic c (U (mk P k t 2 σ) 3 0 t k) := by
  obtain ⟨I, b, e0⟩ := h
  have B := I.bk
  have r32 := rq32 B
  have tx := B.tx
  have M := mk_Mk (σ := σ) (P := P) (k := k) (t := t)
  have bm := bd_mk (P := P) b (show k < 3 by omega) (show t < 100000 by omega) r32 2 (by omega)
  generalize mk P k t 2 σ = τ at M bm ⊢
  have e : ∀ f, f ≠ 3 → U τ 3 0 t k f = τ f := fun f h => U_ne h
  have m : ∀ f, f ≠ 3 ∧ f ≠ 5 ∧ f ≠ 6 ∧ f ≠ 7 ∧ f ≠ 34 → U τ 3 0 t k f = σ f := fun f h => by rw [e f h.1, M.fr f h.2]
  have e3 : ∀ n, U τ 3 0 t k 3 0 n = if n = t then k else σ 3 0 n := fun n => by rw [U_at, M.fr 3 (by omega)]; simp
  have old : ∀ q, q < σ 34 0 0 → σ 7 0 q = t → σ 6 0 q = 0 := fun q hq e => by
    by_cases z : σ 6 0 q = 0
    · exact z
    · exact absurd (by rw [e]; exact h0) (B.st q hq z)
  have new : ∃ q, σ 34 0 0 ≤ q ∧ q < τ 34 0 0 := by
    obtain ⟨s, hs, hp⟩ := hP
    exact M.ex s hs hp
  refine ⟨Iw_bk I ?_ (fun f h => m f (by omega)) (fun q hq => by rw [e 5 (by omega)]; exact (M.ol q hq).1) (fun q hq => ?_) (by rw [e 34 (by omega)]; exact M.n0), bd_U bm (by omega), (m 0 (by omega)).trans e0⟩
  · refine ⟨?_, ?_, ?_, ?_, ?_, ?_, ?_, ?_, ?_, ?_, ?_⟩
    · rw [m 33 (by omega)]; exact B.tx
    · unfold INP; rw [m 33 (by omega), m 1 (by omega), m 2 (by omega)]; exact B.ip
    · rw [m 33 (by omega), m 4 (by omega)]; exact B.amt
    · rw [m 33 (by omega), e 34 (by omega), e 5 (by omega), e 6 (by omega), e 7 (by omega)]
      intro q hq
      by_cases o : q < σ 34 0 0
      · rw [(M.ol q o).1, (M.ol q o).2.1, (M.ol q o).2.2]; exact B.rq q o
      · have := M.nw q (by omega) hq
        omega
    · rw [e 34 (by omega), e 5 (by omega), e 6 (by omega), e 7 (by omega)]
      intro q q' hq hq' h1 h2 h3
      by_cases o : q < σ 34 0 0
      · by_cases o' : q' < σ 34 0 0
        · rw [(M.ol q o).1, (M.ol q' o').1] at h1
          rw [(M.ol q o).2.2, (M.ol q' o').2.2] at h2
          rw [(M.ol q o).2.1, (M.ol q' o').2.1] at h3
          exact B.un q q' o o' h1 h2 h3
        · have n := M.nw q' (by omega) hq'
          have := old q o (by rw [← (M.ol q o).2.2]; omega)
          rw [(M.ol q o).2.1] at h3
          omega
      · have n := M.nw q (by omega) hq
        by_cases o' : q' < σ 34 0 0
        · have := old q' o' (by rw [← (M.ol q' o').2.2]; omega)
          rw [(M.ol q' o').2.1] at h3
          omega
        · exact M.un q q' (by omega) hq (by omega) hq' h1
    · rw [e 34 (by omega), e 6 (by omega), e 7 (by omega)]
      intro q hq hz
      rw [e3]
      split
      · omega
      · next ne =>
        by_cases o : q < σ 34 0 0
        · rw [(M.ol q o).2.2]
          rw [(M.ol q o).2.1] at hz
          exact B.st q o hz
        · exact absurd (M.nw q (by omega) hq).2.2 ne
    · intro n
      rw [e3]
      split
      · omega
      · exact B.st4 n
    · rw [m 33 (by omega)]
      intro n hn
      rw [e3, if_neg (by omega)]; exact B.sz n hn
    · rw [m 33 (by omega), e 34 (by omega), e 6 (by omega), e 7 (by omega)]
      intro n hn
      obtain ⟨q, h1, h2, h3⟩ := B.ex0 n hn
      exact ⟨q, by have := M.n0; omega, by rw [(M.ol q h1).2.2]; exact h2, by rw [(M.ol q h1).2.1]; exact h3⟩
    · rw [m 33 (by omega), e 34 (by omega), e 6 (by omega), e 7 (by omega)]
      intro n hn
      rw [e3]
      split
      · next en =>
        intro hk1
        obtain ⟨q, h1, h2⟩ := new
        have := M.nw q h1 h2
        exact ⟨q, h2, by omega, by omega⟩
      · intro h
        obtain ⟨q, h1, h2, h3⟩ := B.ex1 n hn h
        exact ⟨q, by have := M.n0; omega, by rw [(M.ol q h1).2.2]; exact h2, by rw [(M.ol q h1).2.1]; exact h3⟩
    · rw [m 33 (by omega), e 34 (by omega), e 6 (by omega), e 7 (by omega)]
      intro n hn
      rw [e3]
      split
      · next en =>
        intro hk1
        obtain ⟨q, h1, h2⟩ := new
        have := M.nw q h1 h2
        exact ⟨q, h2, by omega, by omega⟩
      · intro h
        obtain ⟨q, h1, h2, h3⟩ := B.ex2 n hn h
        exact ⟨q, by have := M.n0; omega, by rw [(M.ol q h1).2.2]; exact h2, by rw [(M.ol q h1).2.1]; exact h3⟩
  · refine ⟨?_, ?_, ?_, ?_, ?_⟩
    · rw [e 6 (by omega)]; exact (M.ol q hq).2.1.symm
    · rw [e 7 (by omega)]; exact (M.ol q hq).2.2.symm
    · rw [m 1 (by omega)]
    · rw [m 2 (by omega)]
    · intro n _ _; rw [m 4 (by omega)]
theorem Pu.look_Ic {c : Nat → Nat → Nat} {σ : Sg} {t : Nat} (h : Ic c σ) (ht : t < σ 33 0 0) : Ic c (sLook σ t) := by
  have inz : ∃ s, s < 2 ∧ inS σ t s := ⟨σ 1 0 t % 2, by omega, Or.inl rfl⟩
  unfold sLook
  by_cases c0 : σ 3 0 t = 0
  · rw [ifP_t c0]
    unfold sDec
    by_cases o0 : outc σ 0 t = 0
    · rw [ifP_t o0]; exact h
    · rw [ifP_f o0]
      by_cases o1 : outc σ 0 t = 1
      · rw [ifP_t o1]
        obtain ⟨s, hs, hi⟩ := inz
        exact dec_Ic h ht c0 (Or.inl rfl) ⟨s, hs, Or.inl hi⟩
      · rw [ifP_f o1]
        exact dec_Ic h ht c0 (Or.inr rfl) inz
  · rw [ifP_f c0]
    by_cases c1 : σ 3 0 t = 1 ∧ ¬ outc σ 1 t = 0
    · rw [ifP_t c1]; exact st_Ic h ht c0 (Or.inl rfl)
    · rw [ifP_f c1]
      by_cases c2 : σ 3 0 t = 2 ∧ ¬ outc σ 2 t = 0
      · rw [ifP_t c2]; exact st_Ic h ht c0 (Or.inr rfl)
      · rw [ifP_f c2]; exact h
theorem Pu.clF_Ic {c : Nat → Nat → Nat} {σ : Sg} (h : Ic c σ) : ∀ t, t ≤ σ 33 0 0 → Ic c (clF t σ)
  | 0, _ => h
  | t + 1, ht => look_Ic (clF_Ic h t (by omega)) (by rw [clF_ne (by omega)]; omega)
theorem Pu.LK_ok {c : Nat → Nat → Nat} {σ : Sg} {t : Nat} (h : Ic c σ) (ht : t < σ 33 0 0) : LK σ t :=
  ⟨h.2.1, rq32 h.1.bk, h.1.bk.tx, ht, fun z => rq30 h.1.bk ht z⟩
theorem Pu.clF_LK {c : Nat → Nat → Nat} {σ : Sg} (h : Ic c σ) {t : Nat} (ht : t < σ 33 0 0) : LK (clF t σ) t :=
  LK_ok (clF_Ic h t (by omega)) (by rw [clF_ne (by omega)]; exact ht)
/-! a new transaction -/
theorem Pu.pow_up {n : Nat} : 100 * 2 ^ (n + 1) = 100 * 2 ^ n + 100 * 2 ^ n := by rw [Nat.pow_succ]; omega
theorem Pu.pow_8 {n : Nat} (h : n ≤ 8) : 100 * 2 ^ n ≤ 25600 := by
  have : 2 ^ n ≤ 2 ^ 8 := Nat.pow_le_pow_right (by omega) h
  omega
theorem Pu.rq30_tx {σ : Sg} (B : Bk σ) (h : σ 33 0 0 < 8) : σ 34 0 0 ≤ 30 := by
  have : σ 34 0 0 + 2 ≤ 32 := by
    refine inj_le (σ 34 0 0 + 2) 32 (fun q => if q < σ 34 0 0 then 16 * σ 5 0 q + 2 * σ 7 0 q + (if σ 6 0 q = 0 then 0 else 1) else if q = σ 34 0 0 then 14 else 15) (fun q hq => ?_) (fun q q' hq hq' e => ?_)
    · show (if q < σ 34 0 0 then 16 * σ 5 0 q + 2 * σ 7 0 q + (if σ 6 0 q = 0 then 0 else 1) else if q = σ 34 0 0 then 14 else 15) < 32
      by_cases h : q < σ 34 0 0
      · have := B.rq q h
        rw [if_pos h]
        split <;> omega
      · rw [if_neg h]
        split <;> omega
    · have e' : (if q < σ 34 0 0 then 16 * σ 5 0 q + 2 * σ 7 0 q + (if σ 6 0 q = 0 then 0 else 1) else if q = σ 34 0 0 then 14 else 15) = (if q' < σ 34 0 0 then 16 * σ 5 0 q' + 2 * σ 7 0 q' + (if σ 6 0 q' = 0 then 0 else 1) else if q' = σ 34 0 0 then 14 else 15) := e
      by_cases h : q < σ 34 0 0
      · have h1 := B.rq q h
        rw [if_pos h] at e'
        by_cases h' : q' < σ 34 0 0
        · have h2 := B.rq q' h'
          rw [if_pos h'] at e'
          apply B.un q q' h h' <;> (split at e' <;> split at e' <;> omega)
        · rw [if_neg h'] at e'
          split at e' <;> split at e' <;> omega
      · rw [if_neg h] at e'
        by_cases h' : q' < σ 34 0 0
        · have h1 := B.rq q' h'
          rw [if_pos h'] at e'
          split at e' <;> split at e' <;> omega
        · rw [if_neg h'] at e'
          split at e' <;> split at e' <;> omega
  omega
theorem Pu.am_le {σ : Sg} (B : Bk σ) (s : Nat) : am σ s ≤ 100 * 2 ^ σ 33 0 0 := by
  unfold am
  split
  · omega
  · exact B.amt _
theorem Pu.bd_add {σ : Sg} {f s b : Nat} (B : Bk σ) (bd0 : bd σ) (h8 : σ 33 0 0 < 8) (hf : f < 4 + 2 * σ 33 0 0) (hs : s ≤ 4 + 2 * σ 33 0 0) (hb : b ≤ σ 4 0 f + am σ s) : bd (sAdd σ f s b) := by
  have a1 := B.amt f
  have a2 := am_le B s
  have a3 := pow_8 (show σ 33 0 0 ≤ 8 by omega)
  unfold sAdd
  exact bd_U (bd_U (bd_U (bd_U (bd_U (bd_U bd0 (by omega)) (by omega)) (by omega)) (by omega)) (by omega)) (by omega)
theorem Pu.sub_Ic {c : Nat → Nat → Nat} {σ : Sg} {f s b : Nat} (h : Ic c σ) (h8 : σ 33 0 0 < 8) (hf : f < 4 + 2 * σ 33 0 0) (hs : s ≤ 4 + 2 * σ 33 0 0) (hb : b ≤ σ 4 0 f + am σ s) : Ic c (mk (inS (sAdd σ f s b) (σ 33 0 0)) 0 (σ 33 0 0) 2 (sAdd σ f s b)) := by
  obtain ⟨I, bd0, e0⟩ := h
  have B := I.bk
  have r32 := rq32 B
  have a1 := B.amt f
  have a2 := am_le B s
  have bA := bd_add B bd0 h8 hf hs hb
  have A : ∀ g, g ≠ 1 ∧ g ≠ 2 ∧ g ≠ 3 ∧ g ≠ 4 ∧ g ≠ 33 → sAdd σ f s b g = σ g := fun g h => by
    unfold sAdd
    rw [U_ne (by omega), U_ne (by omega), U_ne (by omega), U_ne (by omega), U_ne (by omega), U_ne (by omega)]
  have A1 : ∀ n, sAdd σ f s b 1 0 n = if n = σ 33 0 0 then f else σ 1 0 n := fun n => by simp [sAdd, U_ne, U_at]
  have A2 : ∀ n, sAdd σ f s b 2 0 n = if n = σ 33 0 0 then s else σ 2 0 n := fun n => by simp [sAdd, U_ne, U_at]
  have A3 : ∀ n, sAdd σ f s b 3 0 n = if n = σ 33 0 0 then 0 else σ 3 0 n := fun n => by simp [sAdd, U_ne, U_at]
  have A4 : ∀ n, sAdd σ f s b 4 0 n = if n = 4 + 2 * σ 33 0 0 + 1 then σ 4 0 f + am σ s - b else if n = 4 + 2 * σ 33 0 0 then b else σ 4 0 n := fun n => by simp [sAdd, U_ne, U_at]
  have A33 : sAdd σ f s b 33 0 0 = σ 33 0 0 + 1 := by simp [sAdd, U_ne, U_at]
  have inz : ∃ z, z < 2 ∧ inS (sAdd σ f s b) (σ 33 0 0) z := ⟨f % 2, by omega, Or.inl (by rw [A1, if_pos rfl])⟩
  generalize sAdd σ f s b = α at *
  have A34 := A 34 (by omega)
  have A5 := A 5 (by omega)
  have A6 := A 6 (by omega)
  have A7 := A 7 (by omega)
  have M := mk_Mk (σ := α) (P := inS α (σ 33 0 0)) (k := 0) (t := σ 33 0 0)
  have bm := bd_mk (P := inS α (σ 33 0 0)) bA (show 0 < 3 by omega) (show σ 33 0 0 < 100000 by omega) (by rw [A34]; exact r32) 2 (by omega)
  generalize mk (inS α (σ 33 0 0)) 0 (σ 33 0 0) 2 α = τ at M bm ⊢
  have e : ∀ g, g ≠ 5 ∧ g ≠ 6 ∧ g ≠ 7 ∧ g ≠ 34 → τ g = α g := M.fr
  have m : ∀ g, g = 0 ∨ (8 ≤ g ∧ g ≤ 32) → τ g = σ g := fun g h => by rw [e g (by omega), A g (by omega)]
  have n0 := M.n0
  have ol := M.ol
  have nw := M.nw
  have un := M.un
  rw [A34] at n0 nw un ol
  rw [A5, A6, A7] at ol
  refine ⟨Iw_bk I ?_ m (fun q hq => (ol q hq).1) (fun q hq => ?_) n0, bm, (m 0 (by omega)).trans e0⟩
  · refine ⟨?_, ?_, ?_, ?_, ?_, ?_, ?_, ?_, ?_, ?_, ?_⟩
    · rw [e 33 (by omega), A33]; omega
    · unfold INP
      rw [e 33 (by omega), A33, e 1 (by omega), e 2 (by omega)]
      intro t ht
      rw [A1, A2]
      by_cases c : t = σ 33 0 0
      · rw [if_pos c, if_pos c]; omega
      · rw [if_neg c, if_neg c]; exact B.ip t (by omega)
    · rw [e 33 (by omega), A33, e 4 (by omega), pow_up]
      intro n
      rw [A4]
      have := B.amt n
      split
      · omega
      · split <;> omega
    · rw [e 33 (by omega), A33]
      intro q hq
      by_cases o : q < σ 34 0 0
      · rw [(ol q o).1, (ol q o).2.1, (ol q o).2.2]
        have := B.rq q o
        omega
      · have := nw q (by omega) hq
        omega
    · intro q q' hq hq' h1 h2 h3
      by_cases o : q < σ 34 0 0
      · by_cases o' : q' < σ 34 0 0
        · rw [(ol q o).1, (ol q' o').1] at h1
          rw [(ol q o).2.2, (ol q' o').2.2] at h2
          rw [(ol q o).2.1, (ol q' o').2.1] at h3
          exact B.un q q' o o' h1 h2 h3
        · have n := nw q' (by omega) hq'
          have := B.rq q o
          have := ol q o
          omega
      · have n := nw q (by omega) hq
        by_cases o' : q' < σ 34 0 0
        · have := B.rq q' o'
          have := ol q' o'
          omega
        · exact un q q' (by omega) hq (by omega) hq' h1
    · intro q hq hz
      rw [e 3 (by omega), A3]
      by_cases o : q < σ 34 0 0
      · have r := B.rq q o
        rw [(ol q o).2.2, if_neg (by omega)]
        rw [(ol q o).2.1] at hz
        exact B.st q o hz
      · exact absurd (nw q (by omega) hq).2.1 hz
    · intro n
      rw [e 3 (by omega), A3]
      split
      · omega
      · exact B.st4 n
    · rw [e 33 (by omega), A33, e 3 (by omega)]
      intro n hn
      rw [A3, if_neg (by omega)]; exact B.sz n (by omega)
    · rw [e 33 (by omega), A33]
      intro n hn
      by_cases c : n = σ 33 0 0
      · obtain ⟨z, hz, hi⟩ := inz
        obtain ⟨q, h1, h2⟩ := M.ex z hz hi
        rw [A34] at h1
        have := nw q h1 h2
        exact ⟨q, h2, by omega, by omega⟩
      · obtain ⟨q, h1, h2, h3⟩ := B.ex0 n (by omega)
        have := ol q h1
        exact ⟨q, by omega, by omega, by omega⟩
    · rw [e 33 (by omega), A33, e 3 (by omega)]
      intro n hn
      rw [A3]
      split
      · omega
      · next c =>
        intro h
        obtain ⟨q, h1, h2, h3⟩ := B.ex1 n (by omega) h
        have := ol q h1
        exact ⟨q, by omega, by omega, by omega⟩
    · rw [e 33 (by omega), A33, e 3 (by omega)]
      intro n hn
      rw [A3]
      split
      · omega
      · next c =>
        intro h
        obtain ⟨q, h1, h2, h3⟩ := B.ex2 n (by omega) h
        have := ol q h1
        exact ⟨q, by omega, by omega, by omega⟩
  · have r := B.rq q hq
    refine ⟨(ol q hq).2.1.symm, (ol q hq).2.2.symm, ?_, ?_, ?_⟩
    · rw [e 1 (by omega), A1, if_neg (by omega)]
    · rw [e 2 (by omega), A2, if_neg (by omega)]
    · intro n h1 h2
      rw [e 4 (by omega), A4, if_neg (by omega), if_neg (by omega)]
