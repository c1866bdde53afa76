/-! Class and reference answer each call alike (g_pr.py) -/
/-- one call, both sides -/
def PR (l : Launch) (D : va_G) (B : Nat) (L : Int32) (c : Nat → Nat → Nat) (σ : Sg) (mS mM : jMt) (av : List Value) : Prop :=
  ∃ (r : Int32) (σ' : Sg), Pu.Ic c σ' ∧ sS σ ≤ sS σ' ∧
    (∀ (κ : Kp) (nx : Nat) (g : Nat → Option va_E), KR B σ κ nx → ∃ d1 e s1 Q1, d1 ≤ 7 ∧ e ≤ sS σ' - sS σ + 1 ∧ s1 ≤ 7 * (sS σ' - sS σ + 1) ∧ jM (G0 l D) mS d1 e s1 (.ref (B + 0) :: av) (hC D B σ κ g, nx) Q1 ∧ ∀ v h, Q1 v h → v = some (.int r) ∧ ∃ κ' nx', h = (hC D B σ' κ' g, nx') ∧ KR B σ' κ' nx') ∧
    (∀ (ρ : Sg) (nx : Nat) (g : Nat → Option va_E), ∃ d2 Q2, d2 ≤ 7 ∧ jM (G0 l D) mM d2 0 0 (.ref (B + 93 + 0) :: av) (hM D (B + 93) L σ ρ g, nx) Q2 ∧ ∀ v h, Q2 v h → v = some (.int r) ∧ ∃ ρ', h = (hM D (B + 93) L σ' ρ' g, nx))
section PRS
variable {l : Launch} {D : va_G} {B : Nat} {L : Int32} {c : Nat → Nat → Nat} {σ : Sg} {mS mM : jMt} {av : List Value}
/-- nothing changes -/
theorem PR_same (ic : Pu.Ic c σ) (r : Int32) {d1 d2 : Nat} (h1 : d1 ≤ 7) (h2 : d2 ≤ 7) (hc : ∀ (κ : Kp) (nx : Nat) (g : Nat → Option va_E), KR B σ κ nx → jM (G0 l D) mS d1 0 0 (.ref (B + 0) :: av) (hC D B σ κ g, nx) (fun v h => v = some (.int r) ∧ h = (hC D B σ κ g, nx))) (hm : ∀ (ρ : Sg) (nx : Nat) (g : Nat → Option va_E), jM (G0 l D) mM d2 0 0 (.ref (B + 93 + 0) :: av) (hM D (B + 93) L σ ρ g, nx) (fun v h => v = some (.int r) ∧ h = (hM D (B + 93) L σ ρ g, nx))) : PR l D B L c σ mS mM av :=
  ⟨r, σ, ic, Nat.le_refl _, fun κ nx g kr => ⟨d1, 0, 0, _, h1, by omega, by omega, hc κ nx g kr, fun v h q => ⟨q.1, κ, nx, q.2, kr⟩⟩, fun ρ nx g => ⟨d2, _, h2, hm ρ nx g, fun v h q => ⟨q.1, ρ, q.2⟩⟩⟩
theorem PR_same' (ic : Pu.Ic c σ) (r : Int32) {d1 d2 : Nat} (h1 : d1 ≤ 7) (h2 : d2 ≤ 7) (hc : ∀ (κ : Kp) (nx : Nat) (g : Nat → Option va_E), KR B σ κ nx → jM (G0 l D) mS d1 0 0 (.ref (B + 0) :: av) (hC D B σ κ g, nx) (fun v h => v = some (.int r) ∧ h = (hC D B σ κ g, nx))) (hm : ∀ (ρ : Sg) (nx : Nat) (g : Nat → Option va_E), jM (G0 l D) mM d2 0 0 (.ref (B + 93 + 0) :: av) (hM D (B + 93) L σ ρ g, nx) (fun v h => v = some (.int r) ∧ ∃ ρ', h = (hM D (B + 93) L σ ρ' g, nx))) : PR l D B L c σ mS mM av :=
  ⟨r, σ, ic, Nat.le_refl _, fun κ nx g kr => ⟨d1, 0, 0, _, h1, by omega, by omega, hc κ nx g kr, fun v h q => ⟨q.1, κ, nx, q.2, kr⟩⟩, fun ρ nx g => ⟨d2, _, h2, hm ρ nx g, fun v h q => q⟩⟩
/-- the state moves on -/
theorem PR_move {σ' : Sg} (ic : Pu.Ic c σ') (le : sS σ ≤ sS σ') (r : Int32) {d1 d2 : Nat} (h1 : d1 ≤ 7) (h2 : d2 ≤ 7) (hc : ∀ (κ : Kp) (nx : Nat) (g : Nat → Option va_E), KR B σ κ nx → jM (G0 l D) mS d1 (sS σ' - sS σ) (7 * (sS σ' - sS σ)) (.ref (B + 0) :: av) (hC D B σ κ g, nx) (fun v h => v = some (.int r) ∧ ∃ κ' nx', h = (hC D B σ' κ' g, nx') ∧ KR B σ' κ' nx')) (hm : ∀ (ρ : Sg) (nx : Nat) (g : Nat → Option va_E), jM (G0 l D) mM d2 0 0 (.ref (B + 93 + 0) :: av) (hM D (B + 93) L σ ρ g, nx) (fun v h => v = some (.int r) ∧ ∃ ρ', h = (hM D (B + 93) L σ' ρ' g, nx))) : PR l D B L c σ mS mM av :=
  ⟨r, σ', ic, le, fun κ nx g kr => ⟨d1, _, _, _, h1, by omega, by omega, hc κ nx g kr, fun v h q => q⟩, fun ρ nx g => ⟨d2, _, h2, hm ρ nx g, fun v h q => q⟩⟩
theorem PR_movx {σ' : Sg} (ic : Pu.Ic c σ') (le : sS σ ≤ sS σ') (r : Int32) {d1 d2 : Nat} (h1 : d1 ≤ 7) (h2 : d2 ≤ 7) (hc : ∀ (κ : Kp) (nx : Nat) (g : Nat → Option va_E), KR B σ κ nx → jM (G0 l D) mS d1 (sS σ' - sS σ) (7 * (sS σ' - sS σ)) (.ref (B + 0) :: av) (hC D B σ κ g, nx) (fun v h => v = some (.int r) ∧ ∃ κ' nx', h = (hC D B σ' κ' g, nx') ∧ KR B σ' κ' nx' ∧ nx ≤ nx')) (hm : ∀ (ρ : Sg) (nx : Nat) (g : Nat → Option va_E), jM (G0 l D) mM d2 0 0 (.ref (B + 93 + 0) :: av) (hM D (B + 93) L σ ρ g, nx) (fun v h => v = some (.int r) ∧ ∃ ρ', h = (hM D (B + 93) L σ' ρ' g, nx))) : PR l D B L c σ mS mM av :=
  ⟨r, σ', ic, le, fun κ nx g kr => ⟨d1, _, _, _, h1, by omega, by omega, hc κ nx g kr, fun v h q => by obtain ⟨q1, κ', nx', q2, q3, -⟩ := q; exact ⟨q1, κ', nx', q2, q3⟩⟩, fun ρ nx g => ⟨d2, _, h2, hm ρ nx g, fun v h q => q⟩⟩
theorem nn_of {x : Int32} (h : ¬ x < 0) : ∃ j, j < 2 ^ 31 ∧ x = nI j := by
  have h0 : 0 ≤ x.toInt := by
    rw [Int32.lt_iff_toInt_lt, Int32.toInt_zero] at h; omega
  have h1 := Int32.toInt_lt x
  refine ⟨x.toInt.toNat, by omega, ?_⟩
  rw [← Int32.toInt_inj, nI_toInt (by omega)]
  omega
/-- out of range: below or above -/
theorem ninr {x : Int32} {n : Nat} (hn : n < 2 ^ 31) (h : ¬ inr x n) : x < 0 ∨ ∃ j, j < 2 ^ 31 ∧ n ≤ j ∧ x = nI j := by
  by_cases q : x < 0
  · exact Or.inl q
  · obtain ⟨j, hj, e⟩ := nn_of q
    refine Or.inr ⟨j, hj, ?_, e⟩
    subst e
    refine Nat.le_of_not_lt (fun z => h (inr_nI hn z))
theorem ninr_i {x : Int32} {n : Nat} (hn : n + 1 < 2 ^ 31) (h : ¬ inr x (n + 1)) : x.toInt < 0 ∨ (n : Int) < x.toInt := by
  rcases ninr hn h with q | ⟨j, hj, hn', e⟩
  · rw [Int32.lt_iff_toInt_lt, Int32.toInt_zero] at q; exact Or.inl q
  · subst e; rw [nI_toInt (by omega)]; right; omega

theorem pr_submit (fc : FC L c) (ic : Pu.Ic c σ) (x y a : Int32) : PR l D B L c σ m_Sl_submit m_Mo_submit [.int x, .int y, .int a] := by
  have hb := ic.2.1
  have h8 := ic.1.bk.tx
  by_cases h : Pp σ x y a
  · by_cases h88 : σ 33 0 0 = 8
    · refine PR_same ic (-2) (d1 := 4) (d2 := 2) (by omega) (by omega) (fun κ nx g kr => t_Sl_submit_full hb h8 x y a h h88) (fun ρ nx g => ?_)
      obtain ⟨f, s, b, rfl, rfl, rfl, hf, hs, hne, hbs⟩ := h
      exact m_sub_8 hb h8 f s hf hs hne b hbs h88
    · obtain ⟨f, s, b, rfl, rfl, rfl, hf, hs, hne, hbs⟩ := h
      have h7 : σ 33 0 0 < 8 := by omega
      have i1 := Pu.sub_Ic ic h7 hf hs hbs
      refine PR_move (allF_I (Pu.okI c) i1 8 (by omega)) ?_ (nI (σ 33 0 0)) (d1 := 7) (d2 := 6) (by omega) (by omega) (fun κ nx g kr => t_Sl_submit_t (Pu.okI c) kr f s b h7 (Pu.rq30_tx ic.1.bk h7) (Pu.bd_add ic.1.bk hb h7 hf hs hbs) i1 hb hf hs hne hbs) (fun ρ nx g => m_sub_t hb h8 f s hf hs hne ic fc b hbs h7)
      refine Nat.le_trans (Nat.le_of_eq (sS_of ?_).symm) (allF_mono (a := 0) (b := 8) (by omega) (by omega))
      show mk _ _ _ 2 _ 20 = _
      rw [mk_ne (by omega)]
      unfold sAdd
      rw [U_ne (by decide), U_ne (by decide), U_ne (by decide), U_ne (by decide), U_ne (by decide), U_ne (by decide)]
  · exact PR_same ic (mI 0) (d1 := 4) (d2 := 2) (by omega) (by omega) (fun κ nx g kr => t_Sl_submit_bad hb h8 x y a h) (fun ρ nx g => m_submit_bad hb h8 x y a h)

theorem pr_client (fc : FC L c) (ic : Pu.Ic c σ)  : PR l D B L c σ m_Sl_client m_Mo_client [] := by
  have hb := ic.2.1
  have i1 := Pu.clF_Ic ic (σ 33 0 0) (Nat.le_refl _)
  refine PR_move (allF_I (Pu.okI c) i1 8 (by omega)) ?_ (nI (clF (σ 33 0 0) σ 34 0 0 - σ 34 0 0)) (d1 := 7) (d2 := 6) (by omega) (by omega) (fun κ nx g kr => t_Sl_client (Pu.okI c) kr hb (fun t ht => Pu.clF_LK ic ht) i1) (fun ρ nx g => m_client ic fc)
  refine Nat.le_trans (Nat.le_of_eq (sS_of ?_).symm) (allF_mono (a := 0) (b := 8) (by omega) (by omega))
  show clF _ _ 20 = _
  rw [clF_ne (by omega)]

theorem pr_deliver (fc : FC L c) (ic : Pu.Ic c σ) (x k y : Int32) : PR l D B L c σ m_Sl_deliver m_Mo_deliver [.int x, .int k, .int y] := by
  by_cases hx : inr x 2
  · obtain ⟨s, hs, rfl⟩ := inr_of (by decide) hx
    by_cases hy : inr y 4
    · obtain ⟨i, hi, rfl⟩ := inr_of (by decide) hy
      have mg := Pu.MG_ok hs ic.1
      have h918 := mg.1
      by_cases hk : inr k (σ 20 s 0)
      · obtain ⟨j, hj, rfl⟩ := inr_of (by omega) hk
        have q := mg.2 j hj
        by_cases hc : can σ (4 * s + i) j
        · have i1 := (Pu.okM c).2.2 σ (4 * s + i) j ic (by omega) (by rw [show (4 * s + i) / 4 = s by omega]; exact hj) hc
          refine PR_movx (sAct_I (Pu.okI c) (p := 4 * s + i) (by omega) i1) ?_ (nI 1) (d1 := 7) (d2 := 6) (by omega) (by omega) (fun κ nx g kr => t_Sl_deliver_t (Pu.okI c) ic kr s i hs hi h918 j hj q.2.2.2.2.2.2 q.1 q.2.2.2.1 q.2.1 hc i1) (fun ρ nx g => m_deliver_t ic fc s i j hs hi hj hc)
          exact Nat.le_trans (Nat.le_of_eq sS_take.symm) (sS_act (by omega))
        · exact PR_same ic (nI 0) (d1 := 3) (d2 := 2) (by omega) (by omega) (fun κ nx g kr => t_Sl_deliver_f (Pu.okI c) ic kr s i hs hi h918 j hj q.2.2.2.2.2.2 q.1 q.2.2.2.1 q.2.1 hc) (fun ρ nx g => m_deliver_f ic fc s i j hs hi hj hc)
      · refine PR_same ic (nI 0) (d1 := 2) (d2 := 1) (by omega) (by omega) (fun κ nx g kr => ?_) (fun ρ nx g => m_deliver_o ic.2.1 s i hs hi k hk)
        rcases ninr (by omega) hk with q | ⟨j, hj, hn, rfl⟩
        · exact t_Sl_deliver_N (Pu.okI c) ic kr s i hs hi h918 k q
        · exact t_Sl_deliver_G (Pu.okI c) ic kr s i hs hi h918 j hj hn
    · exact PR_same ic (nI 0) (d1 := 2) (d2 := 1) (by omega) (by omega) (fun κ nx g kr => t_Sl_deliver_O2 s hs k y hy) (fun ρ nx g => m_deliver_O2 s hs k y hy)
  · exact PR_same ic (nI 0) (d1 := 2) (d2 := 1) (by omega) (by omega) (fun κ nx g kr => t_Sl_deliver_O1 x k y hx) (fun ρ nx g => m_deliver_O1 x k y hx)

theorem ff_I' {s : Nat} (hs : s < 2) : ∀ (m : Nat) (σ : Sg), Pu.Ic c σ → Pu.Ic c (ff s m σ)
  | 0, σ, h => h
  | m + 1, σ, h => by
    unfold ff
    have h1 := fp_I (Pu.okI c) (Pu.okM c) hs 918 σ 0 h
    by_cases z : np s 918 σ 0 = 0
    · rw [ifP_t z]; exact h1
    · rw [ifP_f z]; exact ff_I' hs m _ h1
theorem ff_I {s : Nat} (hs : s < 2) (h : Pu.Ic c σ) : Pu.Ic c (ff s 5000 σ) := ff_I' hs 5000 σ h

theorem pr_flood (fc : FC L c) (ic : Pu.Ic c σ) (x : Int32) : PR l D B L c σ m_Sl_flood m_Mo_flood [.int x] := by
  by_cases hx : inr x 2
  · obtain ⟨s, hs, rfl⟩ := inr_of (by decide) hx
    refine PR_move (ff_I hs ic) (ff_sS hs 5000 σ) (nI (0 + nf s 5000 σ)) (d1 := 7) (d2 := 6) (by omega) (by omega) (fun κ nx g kr => t_Sl_flood_i (Pu.okI c) (Pu.okM c) ic kr s hs (Pu.ends_ok hs ic)) (fun ρ nx g => m_flood_i ic fc s hs)
  · exact PR_same ic (mI 0) (d1 := 1) (d2 := 1) (by omega) (by omega) (fun κ nx g kr => t_Sl_flood_O x hx) (fun ρ nx g => m_flood_O x hx)

theorem pr_tick (fc : FC L c) (ic : Pu.Ic c σ) (x y : Int32) : PR l D B L c σ m_Sl_tick m_Mo_tick [.int x, .int y] := by
  by_cases hx : inr x 2
  · obtain ⟨s, hs, rfl⟩ := inr_of (by decide) hx
    by_cases hy : inr y 4
    · obtain ⟨i, hi, rfl⟩ := inr_of (by decide) hy
      by_cases h : cT σ (4 * s + i)
      · obtain ⟨aw, h⟩ := h
        rcases h with h | ⟨h, h3⟩ | ⟨h, h3, h5⟩
        · obtain ⟨i1, h9⟩ := Pu.k0_Ic (p := 4 * s + i) (by omega) ic aw h
          refine PR_movx (sAct_I (Pu.okI c) (p := 4 * s + i) (by omega) i1) ?_ (nI 1) (d1 := 7) (d2 := 5) (by omega) (by omega) (fun κ nx g kr => t_Sl_tick_0 (Pu.okI c) ic kr s i hs hi aw h i1 h9) (fun ρ nx g => m_tick_0 ic fc s i hs hi aw h)
          exact Nat.le_trans (by unfold k0; rw [sS_U (by decide), sS_send (by omega)]; omega) (sS_act (by omega))
        · obtain ⟨i1, h9⟩ := Pu.k1_Ic (p := 4 * s + i) (by omega) ic aw h
          refine PR_movx (sAct_I (Pu.okI c) (p := 4 * s + i) (by omega) i1) ?_ (nI 1) (d1 := 7) (d2 := 5) (by omega) (by omega) (fun κ nx g kr => t_Sl_tick_1 (Pu.okI c) ic kr s i hs hi aw h h3 i1 h9) (fun ρ nx g => m_tick_1 ic fc s i hs hi aw h h3)
          exact Nat.le_trans (by unfold k1; rw [sS_U (by decide), sS_send (by omega)]; omega) (sS_act (by omega))
        · have i1 := Pu.k2_Ic (p := 4 * s + i) (by omega) ic aw h5
          refine PR_movx (sAct_I (Pu.okI c) (p := 4 * s + i) (by omega) i1) ?_ (nI 1) (d1 := 7) (d2 := 5) (by omega) (by omega) (fun κ nx g kr => t_Sl_tick_2 (Pu.okI c) ic kr s i hs hi aw h h3 h5 i1) (fun ρ nx g => m_tick_2 ic fc s i hs hi aw h h3 h5)
          exact Nat.le_trans (by unfold k2; rw [sS_U (by decide), sS_U (by decide)]; omega) (sS_act (by omega))
      · exact PR_same' ic (nI 0) (d1 := 4) (d2 := 2) (by omega) (by omega) (fun κ nx g kr => t_Sl_tick_f (Pu.okI c) ic kr s i hs hi h) (fun ρ nx g => m_tick_f ic fc s i hs hi h)
    · exact PR_same ic (nI 0) (d1 := 2) (d2 := 1) (by omega) (by omega) (fun κ nx g kr => t_Sl_tick_O2 s hs y hy ) (fun ρ nx g => m_tick_O2 s hs y hy)
  · exact PR_same ic (nI 0) (d1 := 2) (d2 := 1) (by omega) (by omega) (fun κ nx g kr => t_Sl_tick_O1 x y hx) (fun ρ nx g => m_tick_O1 x y hx)

theorem pr_sleep (fc : FC L c) (ic : Pu.Ic c σ) (x y : Int32) (b : Nat) (hb2 : b < 2) : PR l D B L c σ m_Sl_sleep m_Mo_sleep [.int x, .int y, .int (nI b)] := by
  by_cases hx : inr x 2
  · obtain ⟨s, hs, rfl⟩ := inr_of (by decide) hx
    by_cases hy : inr y 4
    · obtain ⟨i, hi, rfl⟩ := inr_of (by decide) hy
      by_cases h : canS σ (4 * s + i) b
      · have i1 := Pu.sSl_Ic (p := 4 * s + i) ic hb2
        refine PR_movx (sAct_I (Pu.okI c) (p := 4 * s + i) (by omega) i1) ?_ (nI 1) (d1 := 7) (d2 := 5) (by omega) (by omega) (fun κ nx g kr => t_Sl_sleep_t (Pu.okI c) ic kr s i hs hi b hb2 h i1) (fun ρ nx g => m_sleep_t ic fc s i hs hi b hb2 h)
        exact Nat.le_trans (by unfold sSl; rw [sS_U (by decide)]; omega) (sS_act (by omega))
      · exact PR_same ic (nI 0) (d1 := 4) (d2 := 1) (by omega) (by omega) (fun κ nx g kr => t_Sl_sleep_f (Pu.okI c) ic kr s i hs hi b hb2 h) (fun ρ nx g => m_sleep_f ic fc s i hs hi b hb2 h)
    · exact PR_same ic (nI 0) (d1 := 2) (d2 := 1) (by omega) (by omega) (fun κ nx g kr => t_Sl_sleep_O2 s hs y (nI b) hy) (fun ρ nx g => m_sleep_O2 s hs y (nI b) hy)
  · exact PR_same ic (nI 0) (d1 := 2) (d2 := 1) (by omega) (by omega) (fun κ nx g kr => t_Sl_sleep_O1 x y (nI b) hx) (fun ρ nx g => m_sleep_O1 x y (nI b) hx)

theorem pr_lie (fc : FC L c) (ic : Pu.Ic c σ) (x b cc e y : Int32) : PR l D B L c σ m_Sl_lie m_Mo_lie [.int x, .int b, .int cc, .int e, .int y] := by
  by_cases hx : inr x 2
  · obtain ⟨s, hs, rfl⟩ := inr_of (by decide) hx
    by_cases hy : inr y 4
    · obtain ⟨i, hi, rfl⟩ := inr_of (by decide) hy
      by_cases h : lieP σ (nI s) b cc e (nI i)
      · obtain ⟨s', k, r, z, i', e1, rfl, rfl, rfl, e5, hs', hk, hr, hi', hf, hsay, haw, hz⟩ := h
        have es : s' = s := (nn_eq (by omega) (by omega)).mp e1.symm
        have ei : i' = i := (nn_eq (by omega) (by omega)).mp e5.symm
        subst es ei
        have i1 := Pu.sLie_Ic ic hs hi hk hr hsay hf haw hz
        have r32 := Pu.rq32 ic.1.bk
        have hz9 : z < 99999 := by omega
        refine ⟨nI 1, sAct (sLie σ (4 * s' + i') k r z) (4 * s' + i'), sAct_I (Pu.okI c) (p := 4 * s' + i') (by omega) i1, ?_, fun κ nx g kr => ⟨7, _, _, _, by omega, ?_, ?_, t_Sl_lie_t (Pu.okI c) ic kr s' i' hs hi k r z hk hr hz9 hf hsay haw hz i1, fun v h q => ?_⟩, fun ρ nx g => ⟨5, _, by omega, m_lie_t ic fc s' i' hs hi k r z hk hr hz9 hf hsay haw hz, fun v h q => q⟩⟩
        · exact Nat.le_trans (by unfold sLie; rw [sS_U (by decide), sS_U (by decide), sS_U (by decide)]; omega) (sS_act (by omega))
        · omega
        · omega
        · obtain ⟨q1, κ', nx', q2, q3, -⟩ := q
          exact ⟨q1, κ', nx', q2, q3⟩
      · exact PR_same ic (nI 0) (d1 := 3) (d2 := 1) (by omega) (by omega) (fun κ nx g kr => t_Sl_lie_f (Pu.okI c) ic kr s i hs hi b cc e h) (fun ρ nx g => m_lie_f ic fc s i hs hi b cc e h)
    · exact PR_same ic (nI 0) (d1 := 3) (d2 := 1) (by omega) (by omega) (fun κ nx g kr => t_Sl_lie_O2 ic.2.1 s hs b cc e y hy) (fun ρ nx g => m_lie_O2 s hs b cc e y (fun z => hy (by obtain ⟨j, hj, rfl⟩ := inr_of (by decide) z; exact inr_nI (by decide) (by omega))))
  · exact PR_same ic (nI 0) (d1 := 3) (d2 := 1) (by omega) (by omega) (fun κ nx g kr => t_Sl_lie_O1 x b cc e y hx) (fun ρ nx g => m_lie_O1 x b cc e y hx)

theorem pr_messages (fc : FC L c) (ic : Pu.Ic c σ) (x : Int32) : PR l D B L c σ m_Sl_messages m_Mo_messages [.int x] := by
  by_cases hx : inr x 2
  · obtain ⟨s, hs, rfl⟩ := inr_of (by decide) hx
    exact PR_same ic (nI (σ 20 s 0)) (d1 := 1) (d2 := 1) (by omega) (by omega) (fun κ nx g kr => t_Sl_messages_i s hs) (fun ρ nx g => m_messages_i s hs)
  · exact PR_same ic (mI 0) (d1 := 1) (d2 := 1) (by omega) (by omega) (fun κ nx g kr => t_Sl_messages_O x hx) (fun ρ nx g => m_messages_O x hx)

theorem pr_message (fc : FC L c) (ic : Pu.Ic c σ) (x k w : Int32) : PR l D B L c σ m_Sl_message m_Mo_message [.int x, .int k, .int w] := by
  by_cases hx : inr x 2
  · obtain ⟨s, hs, rfl⟩ := inr_of (by decide) hx
    have hb := ic.2.1
    have mg := Pu.MG_ok hs ic.1
    have h918 := mg.1
    by_cases hk : inr k (σ 20 s 0)
    · obtain ⟨j, hj, rfl⟩ := inr_of (by omega) hk
      by_cases hw : inr w 6
      · obtain ⟨w, hw, rfl⟩ := inr_of (by decide) hw
        have : w = 0 ∨ w = 1 ∨ w = 2 ∨ w = 3 ∨ w = 4 ∨ w = 5 := by omega
        rcases this with e | e | e | e | e | e <;> subst e
        · exact PR_same ic (nI (σ 21 s j)) (d1 := 1) (d2 := 1) (by omega) (by omega) (fun κ nx g kr => t_Sl_message_0 hb s hs h918 kr j hj) (fun ρ nx g => m_message_0 ic s hs j hj)
        · exact PR_same ic (nI (σ 22 s j)) (d1 := 1) (d2 := 1) (by omega) (by omega) (fun κ nx g kr => t_Sl_message_1 hb s hs h918 kr j hj) (fun ρ nx g => m_message_1 ic s hs j hj)
        · exact PR_same ic (nI (σ 23 s j)) (d1 := 1) (d2 := 1) (by omega) (by omega) (fun κ nx g kr => t_Sl_message_2 hb s hs h918 kr j hj) (fun ρ nx g => m_message_2 ic s hs j hj)
        · exact PR_same ic (nI (σ 24 s j)) (d1 := 1) (d2 := 1) (by omega) (by omega) (fun κ nx g kr => t_Sl_message_3 hb s hs h918 kr j hj) (fun ρ nx g => m_message_3 ic s hs j hj)
        · exact PR_same ic (mI (σ 25 s j)) (d1 := 1) (d2 := 1) (by omega) (by omega) (fun κ nx g kr => t_Sl_message_4 hb s hs h918 kr j hj) (fun ρ nx g => m_message_4 ic s hs j hj)
        · exact PR_same ic (mI (σ 26 s j)) (d1 := 1) (d2 := 1) (by omega) (by omega) (fun κ nx g kr => t_Sl_message_5 hb s hs h918 kr j hj) (fun ρ nx g => m_message_5 ic s hs j hj)
      · exact PR_same ic (-2) (d1 := 1) (d2 := 1) (by omega) (by omega) (fun κ nx g kr => t_Sl_message_W hb s hs h918 kr j hj w (ninr_i (by decide) hw)) (fun ρ nx g => m_message_W s hs (nI j) w hw)
    · refine PR_same ic (-2) (d1 := 1) (d2 := 1) (by omega) (by omega) (fun κ nx g kr => ?_) (fun ρ nx g => ?_)
      · rcases ninr (by omega) hk with q | ⟨j, hj, hn, rfl⟩
        · exact t_Sl_message_N s hs k w q
        · exact t_Sl_message_G hb s hs h918 j w hj hn
      · by_cases hw : inr w 6
        · obtain ⟨w, hw', rfl⟩ := inr_of (by decide) hw
          exact m_message_K s hs k w hw' hk
        · exact m_message_W s hs k w hw
  · exact PR_same ic (-2) (d1 := 1) (d2 := 1) (by omega) (by omega) (fun κ nx g kr => t_Sl_message_O x k w hx) (fun ρ nx g => m_message_O x k w hx)

theorem pr_replica (fc : FC L c) (ic : Pu.Ic c σ) (x y w : Int32) : PR l D B L c σ m_Sl_replica m_Mo_replica [.int x, .int y, .int w] := by
  by_cases hx : inr x 2
  · obtain ⟨s, hs, rfl⟩ := inr_of (by decide) hx
    by_cases hy : inr y 4
    · obtain ⟨i, hi, rfl⟩ := inr_of (by decide) hy
      by_cases hw : inr w 7
      · obtain ⟨w, hw, rfl⟩ := inr_of (by decide) hw
        have : w = 0 ∨ w = 1 ∨ w = 2 ∨ w = 3 ∨ w = 4 ∨ w = 5 ∨ w = 6 := by omega
        rcases this with e | e | e | e | e | e | e <;> subst e
        · exact PR_same ic (nI (σ 10 (4 * s + i) 0)) (d1 := 2) (d2 := 1) (by omega) (by omega) (fun κ nx g kr => t_Sl_replica_0 s i hs hi) (fun ρ nx g => m_replica_0 s i hs hi)
        · exact PR_same ic (nI (σ 11 (4 * s + i) 0)) (d1 := 2) (d2 := 1) (by omega) (by omega) (fun κ nx g kr => t_Sl_replica_1 s i hs hi) (fun ρ nx g => m_replica_1 s i hs hi)
        · exact PR_same ic (nI (σ 12 (4 * s + i) 0)) (d1 := 2) (d2 := 1) (by omega) (by omega) (fun κ nx g kr => t_Sl_replica_2 s i hs hi) (fun ρ nx g => m_replica_2 s i hs hi)
        · exact PR_same ic (mI (σ 13 (4 * s + i) 0)) (d1 := 2) (d2 := 1) (by omega) (by omega) (fun κ nx g kr => t_Sl_replica_3 s i hs hi) (fun ρ nx g => m_replica_3 s i hs hi)
        · exact PR_same ic (mI (σ 14 (4 * s + i) 0)) (d1 := 2) (d2 := 1) (by omega) (by omega) (fun κ nx g kr => t_Sl_replica_4 s i hs hi) (fun ρ nx g => m_replica_4 s i hs hi)
        · exact PR_same ic (mI (σ 15 (4 * s + i) 0)) (d1 := 2) (d2 := 1) (by omega) (by omega) (fun κ nx g kr => t_Sl_replica_5 s i hs hi) (fun ρ nx g => m_replica_5 s i hs hi)
        · exact PR_same ic (mI (σ 16 (4 * s + i) 0)) (d1 := 2) (d2 := 1) (by omega) (by omega) (fun κ nx g kr => t_Sl_replica_6 s i hs hi) (fun ρ nx g => m_replica_6 s i hs hi)
      · exact PR_same ic (-2) (d1 := 2) (d2 := 1) (by omega) (by omega) (fun κ nx g kr => t_Sl_replica_O s i hs hi w (ninr_i (by decide) hw)) (fun ρ nx g => m_replica_O s i hs hi w (ninr_i (by decide) hw))
    · exact PR_same ic (-2) (d1 := 2) (d2 := 1) (by omega) (by omega) (fun κ nx g kr => t_Sl_replica_O2 s hs y hy w) (fun ρ nx g => m_replica_O2 s hs y hy w)
  · exact PR_same ic (-2) (d1 := 2) (d2 := 1) (by omega) (by omega) (fun κ nx g kr => t_Sl_replica_O1 x y hx w) (fun ρ nx g => m_replica_O1 x y hx w)

theorem pr_executed (fc : FC L c) (ic : Pu.Ic c σ) (x y w : Int32) : PR l D B L c σ m_Sl_executed m_Mo_executed [.int x, .int y, .int w] := by
  by_cases hx : inr x 2
  · obtain ⟨s, hs, rfl⟩ := inr_of (by decide) hx
    by_cases hy : inr y 4
    · obtain ⟨i, hi, rfl⟩ := inr_of (by decide) hy
      have hb := ic.2.1
      have h16 := ic.1.po.ht (4 * s + i) (by omega)
      by_cases hw : inr w (σ 10 (4 * s + i) 0)
      · obtain ⟨k, hk, rfl⟩ := inr_of (by omega) hw
        exact PR_same ic (nI (σ 18 (4 * s + i) k)) (d1 := 2) (d2 := 1) (by omega) (by omega) (fun κ nx g kr => t_Sl_executed_i s i hs hi hb h16 k hk) (fun ρ nx g => m_executed_i s i hs hi hb h16 k hk)
      · exact PR_same ic (mI 0) (d1 := 2) (d2 := 1) (by omega) (by omega) (fun κ nx g kr => t_Sl_executed_o s i hs hi hb w hw) (fun ρ nx g => m_executed_o s i hs hi w hw)
    · exact PR_same ic (mI 0) (d1 := 2) (d2 := 1) (by omega) (by omega) (fun κ nx g kr => t_Sl_executed_O2 s hs y hy w) (fun ρ nx g => m_executed_O2 s hs y hy w)
  · exact PR_same ic (mI 0) (d1 := 2) (d2 := 1) (by omega) (by omega) (fun κ nx g kr => t_Sl_executed_O1 x y hx w) (fun ρ nx g => m_executed_O1 x y hx w)

theorem pr_output (fc : FC L c) (ic : Pu.Ic c σ) (x y w : Int32) : PR l D B L c σ m_Sl_output m_Mo_output [.int x, .int y, .int w] := by
  by_cases hx : inr x 2
  · obtain ⟨s, hs, rfl⟩ := inr_of (by decide) hx
    by_cases hy : inr y 4
    · obtain ⟨i, hi, rfl⟩ := inr_of (by decide) hy
      have hb := ic.2.1
      by_cases hw : inr w 20
      · obtain ⟨n, hn, rfl⟩ := inr_of (by decide) hw
        exact PR_same ic (if n % 2 = (4 * s + i) / 4 then nI (σ 8 (4 * s + i) n) else mI 0) (d1 := 2) (d2 := 1) (by omega) (by omega) (fun κ nx g kr => t_Sl_output_i s i hs hi hb n hn) (fun ρ nx g => m_output_i s i hs hi n hn)
      · exact PR_same ic (mI 0) (d1 := 2) (d2 := 1) (by omega) (by omega) (fun κ nx g kr => t_Sl_output_o s i hs hi hb w hw) (fun ρ nx g => m_output_o s i hs hi w hw)
    · exact PR_same ic (mI 0) (d1 := 2) (d2 := 1) (by omega) (by omega) (fun κ nx g kr => t_Sl_output_O2 s hs y hy w) (fun ρ nx g => m_output_O2 s hs y hy w)
  · exact PR_same ic (mI 0) (d1 := 2) (d2 := 1) (by omega) (by omega) (fun κ nx g kr => t_Sl_output_O1 x y hx w) (fun ρ nx g => m_output_O1 x y hx w)

theorem pr_value (fc : FC L c) (ic : Pu.Ic c σ) (x y : Int32) : PR l D B L c σ m_Sl_value m_Mo_value [.int x, .int y] := by
  by_cases hx : inr x 2
  · obtain ⟨s, hs, rfl⟩ := inr_of (by decide) hx
    by_cases hy : inr y 4
    · obtain ⟨i, hi, rfl⟩ := inr_of (by decide) hy
      exact PR_same ic (nI (wsum σ (4 * s + i) 10)) (d1 := 2) (d2 := 1) (by omega) (by omega) (fun κ nx g kr => t_Sl_value_i s i hs hi ic.2.1) (fun ρ nx g => m_value_i s i hs hi ic.2.1)
    · exact PR_same ic (mI 0) (d1 := 2) (d2 := 1) (by omega) (by omega) (fun κ nx g kr => t_Sl_value_O2 s hs y hy ) (fun ρ nx g => m_value_O2 s hs y hy)
  · exact PR_same ic (mI 0) (d1 := 2) (d2 := 1) (by omega) (by omega) (fun κ nx g kr => t_Sl_value_O1 x y hx) (fun ρ nx g => m_value_O1 x y hx)

theorem pr_requests (fc : FC L c) (ic : Pu.Ic c σ)  : PR l D B L c σ m_Sl_requests m_Mo_requests [] := by
  exact PR_same ic (nI (σ 34 0 0)) (d1 := 1) (d2 := 0) (by omega) (by omega) (fun κ nx g kr => t_Sl_requests) (fun ρ nx g => m_requests)

theorem pr_request (fc : FC L c) (ic : Pu.Ic c σ) (q w : Int32) : PR l D B L c σ m_Sl_request m_Mo_request [.int q, .int w] := by
  have hb := ic.2.1
  have h32 := Pu.rq32 ic.1.bk
  by_cases hq : inr q (σ 34 0 0)
  · obtain ⟨j, hj, rfl⟩ := inr_of (by omega) hq
    by_cases hw : inr w 4
    · obtain ⟨w, hw, rfl⟩ := inr_of (by decide) hw
      have : w = 0 ∨ w = 1 ∨ w = 2 ∨ w = 3 := by omega
      rcases this with e | e | e | e <;> subst e
      · exact PR_same ic (nI (σ 5 0 j)) (d1 := 2) (d2 := 1) (by omega) (by omega) (fun κ nx g kr => t_Sl_request_0 hb h32 j hj) (fun ρ nx g => m_request_0 ic j hj)
      · exact PR_same ic (nI (σ 6 0 j)) (d1 := 2) (d2 := 1) (by omega) (by omega) (fun κ nx g kr => t_Sl_request_1 hb h32 j hj) (fun ρ nx g => m_request_1 ic j hj)
      · exact PR_same ic (nI (σ 7 0 j)) (d1 := 2) (d2 := 1) (by omega) (by omega) (fun κ nx g kr => t_Sl_request_2 hb h32 j hj) (fun ρ nx g => m_request_2 ic j hj)
      · exact PR_same ic (nI (ans σ j)) (d1 := 2) (d2 := 1) (by omega) (by omega) (fun κ nx g kr => t_Sl_request_3 hb h32 j hj) (fun ρ nx g => m_request_3 ic j hj)
    · exact PR_same ic (-2) (d1 := 2) (d2 := 1) (by omega) (by omega) (fun κ nx g kr => t_Sl_request_O hb h32 j hj w (ninr_i (by decide) hw)) (fun ρ nx g => m_request_O hb j hj w hw)
  · refine PR_same ic (-2) (d1 := 2) (d2 := 1) (by omega) (by omega) (fun κ nx g kr => ?_) (fun ρ nx g => m_request_Q q w hq)
    rcases ninr (by omega) hq with z | ⟨j, hj, hn, rfl⟩
    · exact t_Sl_request_N q w z
    · exact t_Sl_request_G hb h32 j w hj hn

theorem pr_transaction (fc : FC L c) (ic : Pu.Ic c σ) (t : Int32) : PR l D B L c σ m_Sl_transaction m_Mo_transaction [.int t] := by
  have hb := ic.2.1
  have h8 := ic.1.bk.tx
  by_cases ht : inr t (σ 33 0 0)
  · obtain ⟨j, hj, rfl⟩ := inr_of (by omega) ht
    exact PR_same ic (nI (σ 3 0 j)) (d1 := 2) (d2 := 1) (by omega) (by omega) (fun κ nx g kr => t_Sl_transaction_i hb h8 j hj) (fun ρ nx g => m_transaction_i h8 j hj)
  · refine PR_same ic (mI 0) (d1 := 2) (d2 := 1) (by omega) (by omega) (fun κ nx g kr => ?_) (fun ρ nx g => m_transaction_o t ht)
    rcases ninr (by omega) ht with z | ⟨j, hj, hn, rfl⟩
    · exact t_Sl_transaction_N t z
    · exact t_Sl_transaction_G hb h8 j hj hn

end PRS
