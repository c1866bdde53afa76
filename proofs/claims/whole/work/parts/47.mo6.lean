/-! The reference: the rules (g_mo6.py) -/
theorem gdn_iff {c : Nat → Nat → Nat} {σ : Sg} (ic : Pu.Ic c σ) {p q : Nat} (hp : p < 8) : gdn σ p q ↔ (q < σ 34 0 0 ∧ σ 5 0 q = p / 4 ∧ σ 19 p q = 0) := by
  unfold gdn
  rw [ic.1.ex.rs p q hp]
  have := ic.1.po.ht p hp
  constructor
  · rintro ⟨a, b, c⟩
    exact ⟨a, b, fun k hk => c k hk (by omega)⟩
  · rintro ⟨a, b, c⟩
    exact ⟨a, b, fun k hk _ => c k hk⟩
theorem seal_sv {c : Nat → Nat → Nat} {σ ρ : Sg} (ic : Pu.Ic c σ) {p r : Nat} (hp : p < 8) (hon : σ 0 p 0 = 0) (sv : SV σ p ρ) (hr : r < 6) : ρ 1 0 r < 33 ∧ (sealAt σ p r ↔ (gd σ p (ρ 1 0 r) ∧ 3 ≤ bc (ρ 0 0 (198 * 2 + 33 * r + ρ 1 0 r)))) := by
  have bx := ic.1.bx.bx p hp hon
  obtain ⟨e1, e2, e3⟩ := sv_prp sv bx hr
  have b9 := ic.1.bx.b9 p (slt 0 r (ld σ p r))
  have h33 : ρ 1 0 r < 33 := by rw [e1]; unfold prp; omega
  refine ⟨h33, ?_⟩
  rw [bc_cq sv bx (Or.inr rfl) hr h33, e1]
  unfold sealAt
  constructor
  · exact fun z => z.2
  · exact fun z => ⟨fun e => z.1.1 (by omega), z⟩
theorem o14n {D : va_G} {M : Nat} {L : Int32} {σ ρ : Sg} {g : Nat → Option va_E} {p v : Nat} : va_up (hM D M L σ ρ g) (M + 14) (some (jIA (D.1 20) 8 (upd (fun k => mI (σ 14 k 0)) p (nI v)))) = hM D M L (U σ 14 p 0 (v + 1)) ρ g := by
  rw [← mI_succ]; exact o14
theorem o16n {D : va_G} {M : Nat} {L : Int32} {σ ρ : Sg} {g : Nat → Option va_E} {p v : Nat} : va_up (hM D M L σ ρ g) (M + 16) (some (jIA (D.1 20) 8 (upd (fun k => mI (σ 16 k 0)) p (nI v)))) = hM D M L (U σ 16 p 0 (v + 1)) ρ g := by
  rw [← mI_succ]; exact o16

set_option maxHeartbeats 4000000 in
set_option maxRecDepth 100000 in
theorem m_goodn {l : Launch} {D : va_G} {M nx : Nat} {L : Int32} {σ ρ : Sg} {g : Nat → Option va_E} {c : Nat → Nat → Nat} (ic : Pu.Ic c σ) (p : Nat) (hp : p < 8) (q : Nat) (hq : q < 100000) : jM (G0 l D) m_Mo_good 1 0 0 [.ref (M + 0), .int (nI p), .int (nI q)] (hM D M L σ ρ g, nx) (fun v h => v = some (.int (cI (gdn σ p q))) ∧ h = (hM D M L σ ρ g, nx)) := by
  refine jM.of (by decide +kernel) (Nat.le_of_ble_eq_true rfl) rfl ?_
  have hb := ic.2.1
  have r32 := Pu.rq32 ic.1.bk
  have hgd := gdn_iff ic (q := q) hp
  have b5 := hb 5 0 q
  have b19 := hb 19 p q
  refine j_iload_n d_Mo_good_0 rfl ?_
  first | refine j_aload_n d_Mo_good_1 rfl ?_ | refine j_aload_nq d_Mo_good_1 rfl ?_ | refine j_aload_nN d_Mo_good_1 rfl ?_
  refine j_get d_Mo_good_2 f_Mo_97 (hM_o (by decide)) rfl ?_
  refine j_callS0 (As := [_, _]) G0_good G0_E d_Mo_good_5 c_Mo_103 rfl rfl rfl (m_out (nI q) (σ 34 0 0)) (by decide) (Nat.le_of_ble_eq_true rfl) ?_
  rintro _ _ ⟨rfl, rfl⟩
  first | refine c_if_ne (t := 41) d_Mo_good_8 (by decide) (fun c8 => ?_) (fun c8 => ?_) | refine n_if_ne (t := 41) d_Mo_good_8 (by decide) (by omega) (fun c8 => ?_) (fun c8 => ?_) | refine j_if_ne (t := 41) d_Mo_good_8 (by decide) (fun c8 => ?_) (fun c8 => ?_)
  · refine j_iconst (v := nI 0) d_Mo_good_41 (by decide +kernel) ?_
    exact jc_f d_Mo_good_42 rfl (fun z => c8 (inr_nI (by omega) (hgd.1 z).1)) rfl
  · have hq3 : q < σ 34 0 0 := (inr_iff (by omega) (by omega)).mp (Classical.not_not.mp c8)
    first | refine j_aload_n d_Mo_good_11 rfl ?_ | refine j_aload_nq d_Mo_good_11 rfl ?_ | refine j_aload_nN d_Mo_good_11 rfl ?_
    refine j_get d_Mo_good_12 f_Mo_22 (hM_o (by decide)) rfl ?_
    refine j_iload_n d_Mo_good_15 rfl ?_
    refine j_iald (t := 0) d_Mo_good_16 rfl (hM_o (by decide)) rfl (by omega) (by decide) ?_
    refine j_iload_n d_Mo_good_17 rfl ?_
    refine j_iconst (v := nI 4) d_Mo_good_18 (by decide +kernel) ?_
    refine jn_idiv d_Mo_good_19 (by omega) (by decide) (by decide) ?_
    first | refine nn_icmp_ne (t := 41) d_Mo_good_20 (by decide) (by omega) (by omega) (fun c20 => ?_) (fun c20 => ?_) | refine mm_icmp_ne (t := 41) d_Mo_good_20 (by decide) (by omega) (by omega) (fun c20 => ?_) (fun c20 => ?_) | refine mn_icmp_ne (t := 41) d_Mo_good_20 (by decide) (by omega) (by omega) (fun c20 => ?_) (fun c20 => ?_) | refine nm_icmp_ne (t := 41) d_Mo_good_20 (by decide) (by omega) (by omega) (fun c20 => ?_) (fun c20 => ?_) | refine j_icmp_ne (t := 41) d_Mo_good_20 (by decide) (fun c20 => ?_) (fun c20 => ?_)
    · refine j_iconst (v := nI 0) d_Mo_good_41 (by decide +kernel) ?_
      exact jc_f d_Mo_good_42 rfl (fun z => by have := hgd.1 z; omega) rfl
    · first | refine j_aload_n d_Mo_good_23 rfl ?_ | refine j_aload_nq d_Mo_good_23 rfl ?_ | refine j_aload_nN d_Mo_good_23 rfl ?_
      refine j_get d_Mo_good_24 f_Mo_65 (hM_o (by decide)) rfl ?_
      refine j_bipush (v := nI 32) d_Mo_good_27 (by decide +kernel) ?_
      refine j_iload_n d_Mo_good_29 rfl ?_
      refine jn_imul d_Mo_good_30 ?_
      refine j_iload_n d_Mo_good_31 rfl ?_
      refine jn_iadd d_Mo_good_32 ?_
      refine o_fld (t := 0) (w := 32) d_Mo_good_33 rfl (hM_o (by decide)) rfl (by omega) (by omega) (by decide) ?_
      first | refine c_if_ne (t := 41) d_Mo_good_34 (by decide) (fun c34 => ?_) (fun c34 => ?_) | refine n_if_ne (t := 41) d_Mo_good_34 (by decide) (by omega) (fun c34 => ?_) (fun c34 => ?_) | refine j_if_ne (t := 41) d_Mo_good_34 (by decide) (fun c34 => ?_) (fun c34 => ?_)
      · refine j_iconst (v := nI 0) d_Mo_good_41 (by decide +kernel) ?_
        exact jc_f d_Mo_good_42 rfl (fun z => by have := hgd.1 z; omega) rfl
      · refine j_iconst (v := nI 1) d_Mo_good_37 (by decide +kernel) ?_
        refine j_goto (t := 42) d_Mo_good_38 (by decide) ?_
        exact jc_t d_Mo_good_42 rfl (hgd.2 ⟨hq3, by omega, by omega⟩) rfl

set_option maxHeartbeats 4000000 in
set_option maxRecDepth 100000 in
theorem m_good0 {l : Launch} {D : va_G} {M nx : Nat} {L : Int32} {σ ρ : Sg} {g : Nat → Option va_E} {c : Nat → Nat → Nat} (ic : Pu.Ic c σ) (p : Nat) (hp : p < 8) : jM (G0 l D) m_Mo_good 1 0 0 [.ref (M + 0), .int (nI p), .int (mI 0)] (hM D M L σ ρ g, nx) (fun v h => v = some (.int (cI (gd σ p 0))) ∧ h = (hM D M L σ ρ g, nx)) := by
  refine jM.of (by decide +kernel) (Nat.le_of_ble_eq_true rfl) rfl ?_
  refine j_iload_n d_Mo_good_0 rfl ?_
  first | refine j_aload_n d_Mo_good_1 rfl ?_ | refine j_aload_nq d_Mo_good_1 rfl ?_ | refine j_aload_nN d_Mo_good_1 rfl ?_
  refine j_get d_Mo_good_2 f_Mo_97 (hM_o (by decide)) rfl ?_
  refine j_callS0 (As := [_, _]) G0_good G0_E d_Mo_good_5 c_Mo_103 rfl rfl rfl (m_out (mI 0) (σ 34 0 0)) (by decide) (Nat.le_of_ble_eq_true rfl) ?_
  rintro _ _ ⟨rfl, rfl⟩
  first | refine c_if_ne (t := 41) d_Mo_good_8 (by decide) (fun c8 => ?_) (fun c8 => ?_) | refine n_if_ne (t := 41) d_Mo_good_8 (by decide) (by omega) (fun c8 => ?_) (fun c8 => ?_) | refine j_if_ne (t := 41) d_Mo_good_8 (by decide) (fun c8 => ?_) (fun c8 => ?_)
  · refine j_iconst (v := nI 0) d_Mo_good_41 (by decide +kernel) ?_
    exact jc_f d_Mo_good_42 rfl (fun z => z.1 rfl) rfl
  · exfalso; first | exact c8 | omega | exact c8 (fun z => z.1 (by decide +kernel))

theorem m_good {l : Launch} {D : va_G} {M nx : Nat} {L : Int32} {σ ρ : Sg} {g : Nat → Option va_E} {c : Nat → Nat → Nat} (ic : Pu.Ic c σ) (p : Nat) (hp : p < 8) (x : Nat) (hx : x < 100000) : jM (G0 l D) m_Mo_good 1 0 0 [.ref (M + 0), .int (nI p), .int (mI x)] (hM D M L σ ρ g, nx) (fun v h => v = some (.int (cI (gd σ p x))) ∧ h = (hM D M L σ ρ g, nx)) := by
  cases x with
  | zero => exact m_good0 ic p hp
  | succ q =>
    rw [mI_succ, show cI (gd σ p (q + 1)) = cI (gdn σ p q) from cI_iff ⟨fun z => z.2, fun z => ⟨by omega, z⟩⟩]
    exact m_goodn ic p hp q (by omega)

theorem srch_go {P : Nat → Prop} {n r y : Nat} (h : r < n) (hs : srch P (n - r) r = y) (hn : ¬ P r) : srch P (n - (r + 1)) (r + 1) = y := by
  rw [show n - r = (n - (r + 1)) + 1 by omega, srch_f hn] at hs
  exact hs
theorem srch_hit {P : Nat → Prop} {n r y : Nat} (h : r < n) (hs : srch P (n - r) r = y) (hn : P r) : y = r + 1 := by
  rw [show n - r = (n - (r + 1)) + 1 by omega, srch_t hn] at hs
  exact hs.symm
theorem sealed_hit {σ : Sg} {p r : Nat} (hs : srch (sealAt σ p) (6 - r) r = srch (sealAt σ p) 6 0) (h : r < 6) (hn : sealAt σ p r) : sealed σ p = prp σ p r - 1 := by
  have e := srch_hit h hs hn
  unfold sealed
  rw [ifP_f (by omega), e, show r + 1 - 1 = r by omega]
theorem sealed_z {σ : Sg} {p r : Nat} (hz : sealed σ p = 0) (hs : srch (sealAt σ p) (6 - r) r = srch (sealAt σ p) 6 0) (h : r < 6) (hn : sealAt σ p r) : False := by
  have e := sealed_hit hs h hn
  have := hn.2.1.1
  omega
theorem sealed_6 {σ : Sg} {p r : Nat} (hz : ¬ sealed σ p = 0) (hs : srch (sealAt σ p) (6 - r) r = srch (sealAt σ p) 6 0) (h : 6 ≤ r) : False := by
  rw [show 6 - r = 0 by omega] at hs
  have : srch (sealAt σ p) 6 0 = 0 := by rw [← hs]; rfl
  unfold sealed at hz
  rw [ifP_t this] at hz
  exact hz rfl
theorem hM_a1 {D : va_G} {M : Nat} {L : Int32} {σ ρ : Sg} {g : Nat → Option va_E} {p : Nat} : hM D M L (U (U (U (U (U (U (xS σ p (q1 σ p)) 11 p 0 0) 12 p 0 0) 13 p 0 0) 14 p 0 0) 15 p 0 0) 16 p 0 0) ρ g = hM D M L (a1 σ p) ρ g := by
  refine hM_cgr (fun f hf => ?_)
  have h29 : f ≠ 29 := fun e => by subst e; exact absurd hf (by decide)
  have h30 : f ≠ 30 := fun e => by subst e; exact absurd hf (by decide)
  have h31 : f ≠ 31 := fun e => by subst e; exact absurd hf (by decide)
  have h32 : f ≠ 32 := fun e => by subst e; exact absurd hf (by decide)
  have ec : a1 σ p f = U (e7 σ p) 19 p (q1 σ p) (r1 σ p) f := by
    funext a b
    unfold a1 clrB
    rw [if_neg (by omega)]
  rw [ec]
  by_cases e : f = 19
  · subst e
    unfold xS xT e7 e4 e2
    rw [U_ne (by decide), U_ne (by decide), U_ne (by decide), U_ne (by decide), U_ne (by decide), U_ne (by decide), U_ne (by decide)]
    refine Pu.U_f ?_
    rw [U_ne (by decide), U_ne (by decide), U_ne (by decide), U_ne (by decide), U_ne (by decide), U_ne (by decide), U_ne (by decide), U_ne (by decide), U_ne (by decide), U_ne (by decide), U_ne (by decide)]
    rfl
  · rw [U_ne e]
    unfold xS xT e7 e4 e2
    refine Pu.U_f (Pu.U_f (Pu.U_f (Pu.U_f (Pu.U_f (Pu.U_f (Pu.U_f ?_))))))
    rw [U_ne e]
    refine Pu.U_f ?_
    rw [U_ne h32, U_ne h31]
    rfl

set_option maxHeartbeats 4000000 in
set_option maxRecDepth 100000 in
theorem lp_dec_f {l : Launch} {D : va_G} {M nx : Nat} {L : Int32} {σ ρ : Sg} {g : Nat → Option va_E} {c : Nat → Nat → Nat} (ic : Pu.Ic c σ) (p : Nat) (hp : p < 8) (hon : σ 0 p 0 = 0) (sv : SV σ p ρ) (hz : sealed σ p = 0) : ∀ (m : Nat) (r : Nat), r ≤ 6 → 6 - r < m → srch (sealAt σ p) (6 - r) r = srch (sealAt σ p) 6 0 → J (G0 l D) jT m_Mo_decides 2 (fun v h => v = some (.int (nI 0)) ∧ h = (hM D M L σ ρ g, nx)) 0 0 2 [some (.ref (M + 0)), some (.int (nI p)), some (.int (nI r))] [] (hM D M L σ ρ g, nx) := by
  intro m
  induction m with
  | zero =>
    intros
    exfalso
    omega
  | succ m ih =>
    intro r h1 h2 hs
    have hsl := fun (z : r < 6) => seal_sv ic hp hon sv z
    refine j_iload_n d_Mo_decides_2 rfl ?_
    refine j_bipush (v := nI 6) d_Mo_decides_3 (by decide +kernel) ?_
    first | refine nn_icmp_ge (t := 98) d_Mo_decides_5 (by decide) (by omega) (by omega) (fun c5 => ?_) (fun c5 => ?_) | refine mm_icmp_ge (t := 98) d_Mo_decides_5 (by decide) (by omega) (by omega) (fun c5 => ?_) (fun c5 => ?_) | refine mn_icmp_ge (t := 98) d_Mo_decides_5 (by decide) (by omega) (by omega) (fun c5 => ?_) (fun c5 => ?_) | refine nm_icmp_ge (t := 98) d_Mo_decides_5 (by decide) (by omega) (by omega) (fun c5 => ?_) (fun c5 => ?_) | refine j_icmp_ge (t := 98) d_Mo_decides_5 (by decide) (fun c5 => ?_) (fun c5 => ?_)
    · refine j_iconst (v := nI 0) d_Mo_decides_98 (by decide +kernel) ?_
      exact j_zret d_Mo_decides_99 rfl (by decide +kernel) ⟨rfl, rfl⟩
    · have h33 := (hsl c5).1
      have hsl := (hsl c5).2
      first | refine j_aload_n d_Mo_decides_8 rfl ?_ | refine j_aload_nq d_Mo_decides_8 rfl ?_ | refine j_aload_nN d_Mo_decides_8 rfl ?_
      refine j_iload_n d_Mo_decides_9 rfl ?_
      first | refine j_aload_n d_Mo_decides_10 rfl ?_ | refine j_aload_nq d_Mo_decides_10 rfl ?_ | refine j_aload_nN d_Mo_decides_10 rfl ?_
      refine j_get d_Mo_decides_11 f_Mo_84 (hM_o (by decide)) rfl ?_
      refine j_iload_n d_Mo_decides_14 rfl ?_
      refine j_iald (t := 0) d_Mo_decides_15 rfl (hM_o (by decide)) rfl (by omega) (by decide) ?_
      refine j_callV0 (As := [_, _]) G0_good G0_E d_Mo_decides_16 c_Mo_152 rfl rfl (m_good ic p hp (ρ 1 0 r) (by omega)) (hM_o (by decide)) rfl rfl (by decide) (Nat.le_of_ble_eq_true rfl) ?_
      rintro _ _ ⟨rfl, rfl⟩
      first | refine c_if_eq (t := 92) d_Mo_decides_19 (by decide) (fun c19 => ?_) (fun c19 => ?_) | refine n_if_eq (t := 92) d_Mo_decides_19 (by decide) (by omega) (fun c19 => ?_) (fun c19 => ?_) | refine j_if_eq (t := 92) d_Mo_decides_19 (by decide) (fun c19 => ?_) (fun c19 => ?_)
      · refine n_iinc (k := 1) (lc' := [_, _, _]) d_Mo_decides_92 (by decide +kernel) rfl (by decide) rfl rfl ?_
        refine j_goto (t := 2) d_Mo_decides_95 (by decide) ?_
        exact ih (r + 1) (by omega) (by omega) (srch_go (by omega) hs (fun z => c19 (hsl.1 z).1))
      · first | refine j_aload_n d_Mo_decides_22 rfl ?_ | refine j_aload_nq d_Mo_decides_22 rfl ?_ | refine j_aload_nN d_Mo_decides_22 rfl ?_
        refine j_iconst (v := nI 2) d_Mo_decides_23 (by decide +kernel) ?_
        refine j_iload_n d_Mo_decides_24 rfl ?_
        first | refine j_aload_n d_Mo_decides_25 rfl ?_ | refine j_aload_nq d_Mo_decides_25 rfl ?_ | refine j_aload_nN d_Mo_decides_25 rfl ?_
        refine j_get d_Mo_decides_26 f_Mo_84 (hM_o (by decide)) rfl ?_
        refine j_iload_n d_Mo_decides_29 rfl ?_
        refine j_iald (t := 0) d_Mo_decides_30 rfl (hM_o (by decide)) rfl (by omega) (by decide) ?_
        refine j_callV0 (As := [_, _, _]) G0_good G0_E d_Mo_decides_31 c_Mo_155 rfl rfl (m_three 2 r (ρ 1 0 r) (by decide) (by omega) (by omega) (sv.1.1 _ (by omega))) (hM_o (by decide)) rfl rfl (by decide) (Nat.le_of_ble_eq_true rfl) ?_
        rintro _ _ ⟨rfl, rfl⟩
        first | refine c_if_eq (t := 92) d_Mo_decides_34 (by decide) (fun c34 => ?_) (fun c34 => ?_) | refine n_if_eq (t := 92) d_Mo_decides_34 (by decide) (by omega) (fun c34 => ?_) (fun c34 => ?_) | refine j_if_eq (t := 92) d_Mo_decides_34 (by decide) (fun c34 => ?_) (fun c34 => ?_)
        · refine n_iinc (k := 1) (lc' := [_, _, _]) d_Mo_decides_92 (by decide +kernel) rfl (by decide) rfl rfl ?_
          refine j_goto (t := 2) d_Mo_decides_95 (by decide) ?_
          exact ih (r + 1) (by omega) (by omega) (srch_go (by omega) hs (fun z => c34 (hsl.1 z).2))
        · exfalso; first | exact c34 | omega | exact (sealed_z hz hs (by omega) (hsl.2 ⟨c19, c34⟩))

set_option maxHeartbeats 4000000 in
set_option maxRecDepth 100000 in
theorem m_decides_f {l : Launch} {D : va_G} {M nx : Nat} {L : Int32} {σ ρ : Sg} {g : Nat → Option va_E} {c : Nat → Nat → Nat} (ic : Pu.Ic c σ) (p : Nat) (hp : p < 8) (hon : σ 0 p 0 = 0) (sv : SV σ p ρ) (hz : sealed σ p = 0) : jM (G0 l D) m_Mo_decides 2 0 0 [.ref (M + 0), .int (nI p)] (hM D M L σ ρ g, nx) (fun v h => v = some (.int (nI 0)) ∧ h = (hM D M L σ ρ g, nx)) := by
  refine jM.of (by decide +kernel) (Nat.le_of_ble_eq_true rfl) rfl ?_
  refine j_iconst (v := nI 0) d_Mo_decides_0 (by decide +kernel) ?_
  refine j_istore_n (lc' := [_, _, _]) d_Mo_decides_1 (by decide) rfl rfl ?_
  exact lp_dec_f ic p hp hon sv hz 7 0 (by omega) (by omega) rfl

set_option maxHeartbeats 4000000 in
set_option maxRecDepth 100000 in
theorem lp_dec_t {l : Launch} {D : va_G} {M nx : Nat} {L : Int32} {σ ρ : Sg} {g : Nat → Option va_E} {c : Nat → Nat → Nat} (ic : Pu.Ic c σ) (p : Nat) (hp : p < 8) (hon : σ 0 p 0 = 0) (sv : SV σ p ρ) (hz : ¬ sealed σ p = 0) : ∀ (m : Nat) (r : Nat), r ≤ 6 → 6 - r < m → srch (sealAt σ p) (6 - r) r = srch (sealAt σ p) 6 0 → J (G0 l D) jT m_Mo_decides 2 (fun v h => v = some (.int (nI 1)) ∧ h = (hM D M L (a1 σ p) ρ g, nx)) 0 0 2 [some (.ref (M + 0)), some (.int (nI p)), some (.int (nI r))] [] (hM D M L σ ρ g, nx) := by
  intro m
  induction m with
  | zero =>
    intros
    exfalso
    omega
  | succ m ih =>
    intro r h1 h2 hs
    have hsl := fun (z : r < 6) => seal_sv ic hp hon sv z
    have hb := ic.2.1
    have r32 := Pu.rq32 ic.1.bk
    have h16 := Pu.seal16 hp ic.1 hz
    obtain ⟨r0, q0, hr0, hq0, hg0, -⟩ := Pu.seal_spec hz
    have e0 : q1 σ p = q0 := by unfold q1; omega
    have hq1 : q1 σ p < 32 := by have := hg0.1; omega
    have hrq := ic.1.bk.rq (q1 σ p) (by rw [e0]; exact hg0.1)
    have ht : σ 7 0 (q1 σ p) < 8 := by have := ic.1.bk.tx; omega
    have h6 := hrq.2.1
    have hin := ic.1.bk.ip _ hrq.2.2
    have hqe : sealAt σ p r → mI (ρ 1 0 r) = nI (q1 σ p) := fun z => by
      have hr6 : r < 6 := by
        refine Classical.byContradiction (fun y => ?_)
        exact sealed_6 hz hs (by omega)
      have e := sealed_hit hs hr6 z
      obtain ⟨e1, -, -⟩ := sv_prp sv (ic.1.bx.bx p hp hon) hr6
      rw [show ρ 1 0 r = q1 σ p + 1 by unfold q1; omega, mI_succ]
    refine j_iload_n d_Mo_decides_2 rfl ?_
    refine j_bipush (v := nI 6) d_Mo_decides_3 (by decide +kernel) ?_
    first | refine nn_icmp_ge (t := 98) d_Mo_decides_5 (by decide) (by omega) (by omega) (fun c5 => ?_) (fun c5 => ?_) | refine mm_icmp_ge (t := 98) d_Mo_decides_5 (by decide) (by omega) (by omega) (fun c5 => ?_) (fun c5 => ?_) | refine mn_icmp_ge (t := 98) d_Mo_decides_5 (by decide) (by omega) (by omega) (fun c5 => ?_) (fun c5 => ?_) | refine nm_icmp_ge (t := 98) d_Mo_decides_5 (by decide) (by omega) (by omega) (fun c5 => ?_) (fun c5 => ?_) | refine j_icmp_ge (t := 98) d_Mo_decides_5 (by decide) (fun c5 => ?_) (fun c5 => ?_)
    · exfalso; first | exact c5 | omega | exact sealed_6 hz hs c5
    · have h33 := (hsl c5).1
      have hsl := (hsl c5).2
      first | refine j_aload_n d_Mo_decides_8 rfl ?_ | refine j_aload_nq d_Mo_decides_8 rfl ?_ | refine j_aload_nN d_Mo_decides_8 rfl ?_
      refine j_iload_n d_Mo_decides_9 rfl ?_
      first | refine j_aload_n d_Mo_decides_10 rfl ?_ | refine j_aload_nq d_Mo_decides_10 rfl ?_ | refine j_aload_nN d_Mo_decides_10 rfl ?_
      refine j_get d_Mo_decides_11 f_Mo_84 (hM_o (by decide)) rfl ?_
      refine j_iload_n d_Mo_decides_14 rfl ?_
      refine j_iald (t := 0) d_Mo_decides_15 rfl (hM_o (by decide)) rfl (by omega) (by decide) ?_
      refine j_callV0 (As := [_, _]) G0_good G0_E d_Mo_decides_16 c_Mo_152 rfl rfl (m_good ic p hp (ρ 1 0 r) (by omega)) (hM_o (by decide)) rfl rfl (by decide) (Nat.le_of_ble_eq_true rfl) ?_
      rintro _ _ ⟨rfl, rfl⟩
      first | refine c_if_eq (t := 92) d_Mo_decides_19 (by decide) (fun c19 => ?_) (fun c19 => ?_) | refine n_if_eq (t := 92) d_Mo_decides_19 (by decide) (by omega) (fun c19 => ?_) (fun c19 => ?_) | refine j_if_eq (t := 92) d_Mo_decides_19 (by decide) (fun c19 => ?_) (fun c19 => ?_)
      · refine n_iinc (k := 1) (lc' := [_, _, _]) d_Mo_decides_92 (by decide +kernel) rfl (by decide) rfl rfl ?_
        refine j_goto (t := 2) d_Mo_decides_95 (by decide) ?_
        exact ih (r + 1) (by omega) (by omega) (srch_go (by omega) hs (fun z => c19 (hsl.1 z).1))
      · first | refine j_aload_n d_Mo_decides_22 rfl ?_ | refine j_aload_nq d_Mo_decides_22 rfl ?_ | refine j_aload_nN d_Mo_decides_22 rfl ?_
        refine j_iconst (v := nI 2) d_Mo_decides_23 (by decide +kernel) ?_
        refine j_iload_n d_Mo_decides_24 rfl ?_
        first | refine j_aload_n d_Mo_decides_25 rfl ?_ | refine j_aload_nq d_Mo_decides_25 rfl ?_ | refine j_aload_nN d_Mo_decides_25 rfl ?_
        refine j_get d_Mo_decides_26 f_Mo_84 (hM_o (by decide)) rfl ?_
        refine j_iload_n d_Mo_decides_29 rfl ?_
        refine j_iald (t := 0) d_Mo_decides_30 rfl (hM_o (by decide)) rfl (by omega) (by decide) ?_
        refine j_callV0 (As := [_, _, _]) G0_good G0_E d_Mo_decides_31 c_Mo_155 rfl rfl (m_three 2 r (ρ 1 0 r) (by decide) (by omega) (by omega) (sv.1.1 _ (by omega))) (hM_o (by decide)) rfl rfl (by decide) (Nat.le_of_ble_eq_true rfl) ?_
        rintro _ _ ⟨rfl, rfl⟩
        first | refine c_if_eq (t := 92) d_Mo_decides_34 (by decide) (fun c34 => ?_) (fun c34 => ?_) | refine n_if_eq (t := 92) d_Mo_decides_34 (by decide) (by omega) (fun c34 => ?_) (fun c34 => ?_) | refine j_if_eq (t := 92) d_Mo_decides_34 (by decide) (fun c34 => ?_) (fun c34 => ?_)
        · refine n_iinc (k := 1) (lc' := [_, _, _]) d_Mo_decides_92 (by decide +kernel) rfl (by decide) rfl rfl ?_
          refine j_goto (t := 2) d_Mo_decides_95 (by decide) ?_
          exact ih (r + 1) (by omega) (by omega) (srch_go (by omega) hs (fun z => c34 (hsl.1 z).2))
        · first | refine j_aload_n d_Mo_decides_37 rfl ?_ | refine j_aload_nq d_Mo_decides_37 rfl ?_ | refine j_aload_nN d_Mo_decides_37 rfl ?_
          refine j_iload_n d_Mo_decides_38 rfl ?_
          first | refine j_aload_n d_Mo_decides_39 rfl ?_ | refine j_aload_nq d_Mo_decides_39 rfl ?_ | refine j_aload_nN d_Mo_decides_39 rfl ?_
          refine j_get d_Mo_decides_40 f_Mo_84 (hM_o (by decide)) rfl ?_
          refine j_iload_n d_Mo_decides_43 rfl ?_
          refine j_iald (t := 0) d_Mo_decides_44 rfl (hM_o (by decide)) rfl (by omega) (by decide) ?_
          rw [hqe (hsl.2 ⟨c19, c34⟩)]
          refine j_callV0 (As := [_, _]) G0_good G0_E d_Mo_decides_45 c_Mo_159 rfl rfl (m_execute hp hb (q1 σ p) hq1 ht h16 h6 hin) (hM_o (by decide)) rfl rfl (by decide) (Nat.le_of_ble_eq_true rfl) ?_
          rintro _ _ ⟨rfl, rfl⟩
          first | refine j_aload_n d_Mo_decides_48 rfl ?_ | refine j_aload_nq d_Mo_decides_48 rfl ?_ | refine j_aload_nN d_Mo_decides_48 rfl ?_
          refine j_get d_Mo_decides_49 f_Mo_40 (hM_o (by decide)) rfl ?_
          refine j_iload_n d_Mo_decides_52 rfl ?_
          refine j_iconst (v := nI 0) d_Mo_decides_53 (by decide +kernel) ?_
          refine j_iast (t := 0) d_Mo_decides_54 rfl (hM_o (by decide)) rfl (by omega) (by decide) (J.hq o11 ?_)
          first | refine j_aload_n d_Mo_decides_55 rfl ?_ | refine j_aload_nq d_Mo_decides_55 rfl ?_ | refine j_aload_nN d_Mo_decides_55 rfl ?_
          refine j_get d_Mo_decides_56 f_Mo_43 (hM_o (by decide)) rfl ?_
          refine j_iload_n d_Mo_decides_59 rfl ?_
          refine j_iconst (v := nI 0) d_Mo_decides_60 (by decide +kernel) ?_
          refine j_iast (t := 0) d_Mo_decides_61 rfl (hM_o (by decide)) rfl (by omega) (by decide) (J.hq o12 ?_)
          first | refine j_aload_n d_Mo_decides_62 rfl ?_ | refine j_aload_nq d_Mo_decides_62 rfl ?_ | refine j_aload_nN d_Mo_decides_62 rfl ?_
          refine j_get d_Mo_decides_63 f_Mo_46 (hM_o (by decide)) rfl ?_
          refine j_iload_n d_Mo_decides_66 rfl ?_
          refine j_iconst (v := mI 0) d_Mo_decides_67 (by decide +kernel) ?_
          refine j_iast (t := 0) d_Mo_decides_68 rfl (hM_o (by decide)) rfl (by omega) (by decide) (J.hq o13 ?_)
          first | refine j_aload_n d_Mo_decides_69 rfl ?_ | refine j_aload_nq d_Mo_decides_69 rfl ?_ | refine j_aload_nN d_Mo_decides_69 rfl ?_
          refine j_get d_Mo_decides_70 f_Mo_49 (hM_o (by decide)) rfl ?_
          refine j_iload_n d_Mo_decides_73 rfl ?_
          refine j_iconst (v := mI 0) d_Mo_decides_74 (by decide +kernel) ?_
          refine j_iast (t := 0) d_Mo_decides_75 rfl (hM_o (by decide)) rfl (by omega) (by decide) (J.hq o14 ?_)
          first | refine j_aload_n d_Mo_decides_76 rfl ?_ | refine j_aload_nq d_Mo_decides_76 rfl ?_ | refine j_aload_nN d_Mo_decides_76 rfl ?_
          refine j_get d_Mo_decides_77 f_Mo_52 (hM_o (by decide)) rfl ?_
          refine j_iload_n d_Mo_decides_80 rfl ?_
          refine j_iconst (v := mI 0) d_Mo_decides_81 (by decide +kernel) ?_
          refine j_iast (t := 0) d_Mo_decides_82 rfl (hM_o (by decide)) rfl (by omega) (by decide) (J.hq o15 ?_)
          first | refine j_aload_n d_Mo_decides_83 rfl ?_ | refine j_aload_nq d_Mo_decides_83 rfl ?_ | refine j_aload_nN d_Mo_decides_83 rfl ?_
          refine j_get d_Mo_decides_84 f_Mo_55 (hM_o (by decide)) rfl ?_
          refine j_iload_n d_Mo_decides_87 rfl ?_
          refine j_iconst (v := mI 0) d_Mo_decides_88 (by decide +kernel) ?_
          refine j_iast (t := 0) d_Mo_decides_89 rfl (hM_o (by decide)) rfl (by omega) (by decide) (J.hq o16 ?_)
          refine j_iconst (v := nI 1) d_Mo_decides_90 (by decide +kernel) ?_
          exact j_zret d_Mo_decides_91 rfl (by decide +kernel) ⟨rfl, by rw [hM_a1]⟩

set_option maxHeartbeats 4000000 in
set_option maxRecDepth 100000 in
theorem m_decides_t {l : Launch} {D : va_G} {M nx : Nat} {L : Int32} {σ ρ : Sg} {g : Nat → Option va_E} {c : Nat → Nat → Nat} (ic : Pu.Ic c σ) (p : Nat) (hp : p < 8) (hon : σ 0 p 0 = 0) (sv : SV σ p ρ) (hz : ¬ sealed σ p = 0) : jM (G0 l D) m_Mo_decides 2 0 0 [.ref (M + 0), .int (nI p)] (hM D M L σ ρ g, nx) (fun v h => v = some (.int (nI 1)) ∧ h = (hM D M L (a1 σ p) ρ g, nx)) := by
  refine jM.of (by decide +kernel) (Nat.le_of_ble_eq_true rfl) rfl ?_
  refine j_iconst (v := nI 0) d_Mo_decides_0 (by decide +kernel) ?_
  refine j_istore_n (lc' := [_, _, _]) d_Mo_decides_1 (by decide) rfl rfl ?_
  exact lp_dec_t ic p hp hon sv hz 7 0 (by omega) (by omega) rfl

set_option maxHeartbeats 4000000 in
set_option maxRecDepth 100000 in
theorem lp_fol_f {l : Launch} {D : va_G} {M nx : Nat} {L : Int32} {σ ρ : Sg} {g : Nat → Option va_E} {c : Nat → Nat → Nat} (ic : Pu.Ic c σ) (p : Nat) (hp : p < 8) (hon : σ 0 p 0 = 0) (sv : SV σ p ρ) (hz : j2 σ p = 0) : ∀ (m : Nat) (r : Nat), r ≤ 6 → 6 - r < m → srch (joinAt σ p) (6 - r) r = 0 → J (G0 l D) jT m_Mo_follows 2 (fun v h => v = some (.int (nI 0)) ∧ h = (hM D M L σ ρ g, nx)) 0 0 9 [some (.ref (M + 0)), some (.int (nI p)), some (.int (nI r))] [] (hM D M L σ ρ g, nx) := by
  intro m
  induction m with
  | zero =>
    intros
    exfalso
    omega
  | succ m ih =>
    intro r h1 h2 hs
    have bx := ic.1.bx.bx p hp hon
    have mg := Pu.MG_ok (s := p / 4) (by omega) ic.1
    have hl := ic.1.bx.lb
    have hcs := cs_le (σ := σ) (p := p) (r := r) (ld := ld σ p r) 4
    refine j_iload_n d_Mo_follows_9 rfl ?_
    refine j_bipush (v := nI 6) d_Mo_follows_10 (by decide +kernel) ?_
    first | refine nn_icmp_ge (t := 46) d_Mo_follows_12 (by decide) (by omega) (by omega) (fun c12 => ?_) (fun c12 => ?_) | refine mm_icmp_ge (t := 46) d_Mo_follows_12 (by decide) (by omega) (by omega) (fun c12 => ?_) (fun c12 => ?_) | refine mn_icmp_ge (t := 46) d_Mo_follows_12 (by decide) (by omega) (by omega) (fun c12 => ?_) (fun c12 => ?_) | refine nm_icmp_ge (t := 46) d_Mo_follows_12 (by decide) (by omega) (by omega) (fun c12 => ?_) (fun c12 => ?_) | refine j_icmp_ge (t := 46) d_Mo_follows_12 (by decide) (fun c12 => ?_) (fun c12 => ?_)
    · refine j_iconst (v := nI 0) d_Mo_follows_46 (by decide +kernel) ?_
      exact j_zret d_Mo_follows_47 rfl (by decide +kernel) ⟨rfl, rfl⟩
    · first | refine j_aload_n d_Mo_follows_15 rfl ?_ | refine j_aload_nq d_Mo_follows_15 rfl ?_ | refine j_aload_nN d_Mo_follows_15 rfl ?_
      refine j_iload_n d_Mo_follows_16 rfl ?_
      refine j_callV0 (As := [_]) G0_good G0_E d_Mo_follows_17 c_Mo_163 rfl rfl (m_anyKind sv bx mg hl r (by omega)) (hM_o (by decide)) rfl rfl (by decide) (Nat.le_of_ble_eq_true rfl) ?_
      rintro _ _ ⟨rfl, rfl⟩
      refine j_iconst (v := nI 2) d_Mo_follows_20 (by decide +kernel) ?_
      first | refine nn_icmp_lt (t := 40) d_Mo_follows_21 (by decide) (by omega) (by omega) (fun c21 => ?_) (fun c21 => ?_) | refine mm_icmp_lt (t := 40) d_Mo_follows_21 (by decide) (by omega) (by omega) (fun c21 => ?_) (fun c21 => ?_) | refine mn_icmp_lt (t := 40) d_Mo_follows_21 (by decide) (by omega) (by omega) (fun c21 => ?_) (fun c21 => ?_) | refine nm_icmp_lt (t := 40) d_Mo_follows_21 (by decide) (by omega) (by omega) (fun c21 => ?_) (fun c21 => ?_) | refine j_icmp_lt (t := 40) d_Mo_follows_21 (by decide) (fun c21 => ?_) (fun c21 => ?_)
      · refine n_iinc (k := 1) (lc' := [_, _, _]) d_Mo_follows_40 (by decide +kernel) rfl (by decide) rfl rfl ?_
        refine j_goto (t := 9) d_Mo_follows_43 (by decide) ?_
        exact ih (r + 1) (by omega) (by omega) (srch_go (by omega) hs (show ¬ joinAt σ p r from by unfold joinAt; omega))
      · exfalso; first | exact c21 | omega | (have := srch_hit (by omega) hs (show joinAt σ p r from c21); omega)

set_option maxHeartbeats 4000000 in
set_option maxRecDepth 100000 in
theorem m_follows_f {l : Launch} {D : va_G} {M nx : Nat} {L : Int32} {σ ρ : Sg} {g : Nat → Option va_E} {c : Nat → Nat → Nat} (ic : Pu.Ic c σ) (p : Nat) (hp : p < 8) (hon : σ 0 p 0 = 0) (sv : SV σ p ρ) (hz : j2 σ p = 0) : jM (G0 l D) m_Mo_follows 2 0 0 [.ref (M + 0), .int (nI p)] (hM D M L σ ρ g, nx) (fun v h => v = some (.int (nI 0)) ∧ h = (hM D M L σ ρ g, nx)) := by
  refine jM.of (by decide +kernel) (Nat.le_of_ble_eq_true rfl) rfl ?_
  have R := ic.1.po.rd p hp

  first | refine j_aload_n d_Mo_follows_0 rfl ?_ | refine j_aload_nq d_Mo_follows_0 rfl ?_ | refine j_aload_nN d_Mo_follows_0 rfl ?_
  refine j_get d_Mo_follows_1 f_Mo_40 (hM_o (by decide)) rfl ?_
  refine j_iload_n d_Mo_follows_4 rfl ?_
  refine j_iald (t := 0) d_Mo_follows_5 rfl (hM_o (by decide)) rfl (by omega) (by decide) ?_
  refine j_iconst (v := nI 1) d_Mo_follows_6 (by decide +kernel) ?_
  refine jn_iadd d_Mo_follows_7 ?_
  refine j_istore_n (lc' := [_, _, _]) d_Mo_follows_8 (by decide) rfl rfl ?_
  exact lp_fol_f ic p hp hon sv hz 7 (σ 11 p 0 + 1) (by omega) (by omega) (by unfold j2 at hz; rw [show 6 - (σ 11 p 0 + 1) = 5 - σ 11 p 0 by omega]; exact hz)

set_option maxHeartbeats 4000000 in
set_option maxRecDepth 100000 in
theorem lp_fol_t {l : Launch} {D : va_G} {M nx : Nat} {L : Int32} {σ ρ : Sg} {g : Nat → Option va_E} {c : Nat → Nat → Nat} (ic : Pu.Ic c σ) (p : Nat) (hp : p < 8) (hon : σ 0 p 0 = 0) (sv : SV σ p ρ) (hz : ¬ j2 σ p = 0) : ∀ (m : Nat) (r : Nat), r ≤ 6 → 6 - r < m → srch (joinAt σ p) (6 - r) r = j2 σ p → J (G0 l D) jT m_Mo_follows 2 (fun v h => v = some (.int (nI 1)) ∧ h = (hM D M L (a2 σ p) ρ g, nx)) 0 0 9 [some (.ref (M + 0)), some (.int (nI p)), some (.int (nI r))] [] (hM D M L σ ρ g, nx) := by
  intro m
  induction m with
  | zero =>
    intros
    exfalso
    omega
  | succ m ih =>
    intro r h1 h2 hs
    have bx := ic.1.bx.bx p hp hon
    have mg := Pu.MG_ok (s := p / 4) (by omega) ic.1
    have hl := ic.1.bx.lb
    have hcs := cs_le (σ := σ) (p := p) (r := r) (ld := ld σ p r) 4
    refine j_iload_n d_Mo_follows_9 rfl ?_
    refine j_bipush (v := nI 6) d_Mo_follows_10 (by decide +kernel) ?_
    first | refine nn_icmp_ge (t := 46) d_Mo_follows_12 (by decide) (by omega) (by omega) (fun c12 => ?_) (fun c12 => ?_) | refine mm_icmp_ge (t := 46) d_Mo_follows_12 (by decide) (by omega) (by omega) (fun c12 => ?_) (fun c12 => ?_) | refine mn_icmp_ge (t := 46) d_Mo_follows_12 (by decide) (by omega) (by omega) (fun c12 => ?_) (fun c12 => ?_) | refine nm_icmp_ge (t := 46) d_Mo_follows_12 (by decide) (by omega) (by omega) (fun c12 => ?_) (fun c12 => ?_) | refine j_icmp_ge (t := 46) d_Mo_follows_12 (by decide) (fun c12 => ?_) (fun c12 => ?_)
    · exfalso; first | exact c12 | omega | (rw [show 6 - r = 0 by omega] at hs; exact hz hs.symm)
    · first | refine j_aload_n d_Mo_follows_15 rfl ?_ | refine j_aload_nq d_Mo_follows_15 rfl ?_ | refine j_aload_nN d_Mo_follows_15 rfl ?_
      refine j_iload_n d_Mo_follows_16 rfl ?_
      refine j_callV0 (As := [_]) G0_good G0_E d_Mo_follows_17 c_Mo_163 rfl rfl (m_anyKind sv bx mg hl r (by omega)) (hM_o (by decide)) rfl rfl (by decide) (Nat.le_of_ble_eq_true rfl) ?_
      rintro _ _ ⟨rfl, rfl⟩
      refine j_iconst (v := nI 2) d_Mo_follows_20 (by decide +kernel) ?_
      first | refine nn_icmp_lt (t := 40) d_Mo_follows_21 (by decide) (by omega) (by omega) (fun c21 => ?_) (fun c21 => ?_) | refine mm_icmp_lt (t := 40) d_Mo_follows_21 (by decide) (by omega) (by omega) (fun c21 => ?_) (fun c21 => ?_) | refine mn_icmp_lt (t := 40) d_Mo_follows_21 (by decide) (by omega) (by omega) (fun c21 => ?_) (fun c21 => ?_) | refine nm_icmp_lt (t := 40) d_Mo_follows_21 (by decide) (by omega) (by omega) (fun c21 => ?_) (fun c21 => ?_) | refine j_icmp_lt (t := 40) d_Mo_follows_21 (by decide) (fun c21 => ?_) (fun c21 => ?_)
      · refine n_iinc (k := 1) (lc' := [_, _, _]) d_Mo_follows_40 (by decide +kernel) rfl (by decide) rfl rfl ?_
        refine j_goto (t := 9) d_Mo_follows_43 (by decide) ?_
        exact ih (r + 1) (by omega) (by omega) (srch_go (by omega) hs (show ¬ joinAt σ p r from by unfold joinAt; omega))
      · first | refine j_aload_n d_Mo_follows_24 rfl ?_ | refine j_aload_nq d_Mo_follows_24 rfl ?_ | refine j_aload_nN d_Mo_follows_24 rfl ?_
        refine j_get d_Mo_follows_25 f_Mo_40 (hM_o (by decide)) rfl ?_
        refine j_iload_n d_Mo_follows_28 rfl ?_
        refine j_iload_n d_Mo_follows_29 rfl ?_
        refine j_iast (t := 0) d_Mo_follows_30 rfl (hM_o (by decide)) rfl (by omega) (by decide) (J.hq o11 ?_)
        first | refine j_aload_n d_Mo_follows_31 rfl ?_ | refine j_aload_nq d_Mo_follows_31 rfl ?_ | refine j_aload_nN d_Mo_follows_31 rfl ?_
        refine j_get d_Mo_follows_32 f_Mo_43 (hM_o (by decide)) rfl ?_
        refine j_iload_n d_Mo_follows_35 rfl ?_
        refine j_iconst (v := nI 0) d_Mo_follows_36 (by decide +kernel) ?_
        refine j_iast (t := 0) d_Mo_follows_37 rfl (hM_o (by decide)) rfl (by omega) (by decide) (J.hq o12 ?_)
        refine j_iconst (v := nI 1) d_Mo_follows_38 (by decide +kernel) ?_
        have e := srch_hit (by omega) hs (show joinAt σ p r from c21)
        exact j_zret d_Mo_follows_39 rfl (by decide +kernel) ⟨rfl, by unfold a2; rw [e]; rfl⟩

set_option maxHeartbeats 4000000 in
set_option maxRecDepth 100000 in
theorem m_follows_t {l : Launch} {D : va_G} {M nx : Nat} {L : Int32} {σ ρ : Sg} {g : Nat → Option va_E} {c : Nat → Nat → Nat} (ic : Pu.Ic c σ) (p : Nat) (hp : p < 8) (hon : σ 0 p 0 = 0) (sv : SV σ p ρ) (hz : ¬ j2 σ p = 0) : jM (G0 l D) m_Mo_follows 2 0 0 [.ref (M + 0), .int (nI p)] (hM D M L σ ρ g, nx) (fun v h => v = some (.int (nI 1)) ∧ h = (hM D M L (a2 σ p) ρ g, nx)) := by
  refine jM.of (by decide +kernel) (Nat.le_of_ble_eq_true rfl) rfl ?_
  have R := ic.1.po.rd p hp

  first | refine j_aload_n d_Mo_follows_0 rfl ?_ | refine j_aload_nq d_Mo_follows_0 rfl ?_ | refine j_aload_nN d_Mo_follows_0 rfl ?_
  refine j_get d_Mo_follows_1 f_Mo_40 (hM_o (by decide)) rfl ?_
  refine j_iload_n d_Mo_follows_4 rfl ?_
  refine j_iald (t := 0) d_Mo_follows_5 rfl (hM_o (by decide)) rfl (by omega) (by decide) ?_
  refine j_iconst (v := nI 1) d_Mo_follows_6 (by decide +kernel) ?_
  refine jn_iadd d_Mo_follows_7 ?_
  refine j_istore_n (lc' := [_, _, _]) d_Mo_follows_8 (by decide) rfl rfl ?_
  exact lp_fol_t ic p hp hon sv hz 7 (σ 11 p 0 + 1) (by omega) (by omega) (by unfold j2; rw [show 6 - (σ 11 p 0 + 1) = 5 - σ 11 p 0 by omega])

set_option maxHeartbeats 4000000 in
set_option maxRecDepth 100000 in
theorem lp_pro_f {l : Launch} {D : va_G} {M nx : Nat} {L : Int32} {σ ρ : Sg} {g : Nat → Option va_E} {c : Nat → Nat → Nat} (ic : Pu.Ic c σ) (p : Nat) (hp : p < 8) (hon : σ 0 p 0 = 0) (sv : SV σ p ρ) : ∀ (m : Nat) (q : Nat), q ≤ σ 34 0 0 → σ 34 0 0 - q < m → srch (gdn σ p) (σ 34 0 0 - q) q = 0 → J (G0 l D) jT m_Mo_proposes 2 (fun v h => v = some (.int (nI 0)) ∧ h = (hM D M L σ ρ g, nx)) 0 0 77 [some (.ref (M + 0)), some (.int (nI p)), some (.int (nI q))] [] (hM D M L σ ρ g, nx) := by
  intro m
  induction m with
  | zero =>
    intros
    exfalso
    omega
  | succ m ih =>
    intro q h1 h2 hs
    have hb := ic.2.1
    have r32 := Pu.rq32 ic.1.bk
    refine j_iload_n d_Mo_proposes_77 rfl ?_
    first | refine j_aload_n d_Mo_proposes_78 rfl ?_ | refine j_aload_nq d_Mo_proposes_78 rfl ?_ | refine j_aload_nN d_Mo_proposes_78 rfl ?_
    refine j_get d_Mo_proposes_79 f_Mo_97 (hM_o (by decide)) rfl ?_
    first | refine nn_icmp_ge (t := 110) d_Mo_proposes_82 (by decide) (by omega) (by omega) (fun c82 => ?_) (fun c82 => ?_) | refine mm_icmp_ge (t := 110) d_Mo_proposes_82 (by decide) (by omega) (by omega) (fun c82 => ?_) (fun c82 => ?_) | refine mn_icmp_ge (t := 110) d_Mo_proposes_82 (by decide) (by omega) (by omega) (fun c82 => ?_) (fun c82 => ?_) | refine nm_icmp_ge (t := 110) d_Mo_proposes_82 (by decide) (by omega) (by omega) (fun c82 => ?_) (fun c82 => ?_) | refine j_icmp_ge (t := 110) d_Mo_proposes_82 (by decide) (fun c82 => ?_) (fun c82 => ?_)
    · refine j_iconst (v := nI 0) d_Mo_proposes_110 (by decide +kernel) ?_
      exact j_zret d_Mo_proposes_111 rfl (by decide +kernel) ⟨rfl, rfl⟩
    · first | refine j_aload_n d_Mo_proposes_85 rfl ?_ | refine j_aload_nq d_Mo_proposes_85 rfl ?_ | refine j_aload_nN d_Mo_proposes_85 rfl ?_
      refine j_iload_n d_Mo_proposes_86 rfl ?_
      refine j_iload_n d_Mo_proposes_87 rfl ?_
      refine j_callV0 (As := [_, _]) G0_good G0_E d_Mo_proposes_88 c_Mo_152 rfl rfl (m_goodn ic p hp q (by omega)) (hM_o (by decide)) rfl rfl (by decide) (Nat.le_of_ble_eq_true rfl) ?_
      rintro _ _ ⟨rfl, rfl⟩
      first | refine c_if_eq (t := 104) d_Mo_proposes_91 (by decide) (fun c91 => ?_) (fun c91 => ?_) | refine n_if_eq (t := 104) d_Mo_proposes_91 (by decide) (by omega) (fun c91 => ?_) (fun c91 => ?_) | refine j_if_eq (t := 104) d_Mo_proposes_91 (by decide) (fun c91 => ?_) (fun c91 => ?_)
      · refine n_iinc (k := 1) (lc' := [_, _, _]) d_Mo_proposes_104 (by decide +kernel) rfl (by decide) rfl rfl ?_
        refine j_goto (t := 77) d_Mo_proposes_107 (by decide) ?_
        exact ih (q + 1) (by omega) (by omega) (srch_go (by omega) hs c91)
      · exfalso; first | exact c91 | omega | (have := srch_hit (by omega) hs c91; omega)

set_option maxHeartbeats 4000000 in
set_option maxRecDepth 100000 in
theorem lp_pro_t {l : Launch} {D : va_G} {M nx : Nat} {L : Int32} {σ ρ : Sg} {g : Nat → Option va_E} {c : Nat → Nat → Nat} (ic : Pu.Ic c σ) (p : Nat) (hp : p < 8) (hon : σ 0 p 0 = 0) (sv : SV σ p ρ) (g3 : g3 σ p) (h15 : σ 15 p 0 = 0) : ∀ (m : Nat) (q : Nat), q ≤ σ 34 0 0 → σ 34 0 0 - q < m → srch (gdn σ p) (σ 34 0 0 - q) q = x3 σ p → J (G0 l D) jT m_Mo_proposes 2 (fun v h => v = some (.int (nI 1)) ∧ h = (hM D M L (a3 σ p) ρ g, nx)) 0 0 77 [some (.ref (M + 0)), some (.int (nI p)), some (.int (nI q))] [] (hM D M L σ ρ g, nx) := by
  intro m
  induction m with
  | zero =>
    intros
    exfalso
    omega
  | succ m ih =>
    intro q h1 h2 hs
    have hb := ic.2.1
    have r32 := Pu.rq32 ic.1.bk
    have h918 := (Pu.ok_Rq ic.1 hb hp).2.2.2.2.2.2.1 (Or.inl g3)
    refine j_iload_n d_Mo_proposes_77 rfl ?_
    first | refine j_aload_n d_Mo_proposes_78 rfl ?_ | refine j_aload_nq d_Mo_proposes_78 rfl ?_ | refine j_aload_nN d_Mo_proposes_78 rfl ?_
    refine j_get d_Mo_proposes_79 f_Mo_97 (hM_o (by decide)) rfl ?_
    first | refine nn_icmp_ge (t := 110) d_Mo_proposes_82 (by decide) (by omega) (by omega) (fun c82 => ?_) (fun c82 => ?_) | refine mm_icmp_ge (t := 110) d_Mo_proposes_82 (by decide) (by omega) (by omega) (fun c82 => ?_) (fun c82 => ?_) | refine mn_icmp_ge (t := 110) d_Mo_proposes_82 (by decide) (by omega) (by omega) (fun c82 => ?_) (fun c82 => ?_) | refine nm_icmp_ge (t := 110) d_Mo_proposes_82 (by decide) (by omega) (by omega) (fun c82 => ?_) (fun c82 => ?_) | refine j_icmp_ge (t := 110) d_Mo_proposes_82 (by decide) (fun c82 => ?_) (fun c82 => ?_)
    · exfalso; first | exact c82 | omega | (rw [show σ 34 0 0 - q = 0 by omega] at hs; exact g3.2.2.2 hs.symm)
    · first | refine j_aload_n d_Mo_proposes_85 rfl ?_ | refine j_aload_nq d_Mo_proposes_85 rfl ?_ | refine j_aload_nN d_Mo_proposes_85 rfl ?_
      refine j_iload_n d_Mo_proposes_86 rfl ?_
      refine j_iload_n d_Mo_proposes_87 rfl ?_
      refine j_callV0 (As := [_, _]) G0_good G0_E d_Mo_proposes_88 c_Mo_152 rfl rfl (m_goodn ic p hp q (by omega)) (hM_o (by decide)) rfl rfl (by decide) (Nat.le_of_ble_eq_true rfl) ?_
      rintro _ _ ⟨rfl, rfl⟩
      first | refine c_if_eq (t := 104) d_Mo_proposes_91 (by decide) (fun c91 => ?_) (fun c91 => ?_) | refine n_if_eq (t := 104) d_Mo_proposes_91 (by decide) (by omega) (fun c91 => ?_) (fun c91 => ?_) | refine j_if_eq (t := 104) d_Mo_proposes_91 (by decide) (fun c91 => ?_) (fun c91 => ?_)
      · refine n_iinc (k := 1) (lc' := [_, _, _]) d_Mo_proposes_104 (by decide +kernel) rfl (by decide) rfl rfl ?_
        refine j_goto (t := 77) d_Mo_proposes_107 (by decide) ?_
        exact ih (q + 1) (by omega) (by omega) (srch_go (by omega) hs c91)
      · first | refine j_aload_n d_Mo_proposes_94 rfl ?_ | refine j_aload_nq d_Mo_proposes_94 rfl ?_ | refine j_aload_nN d_Mo_proposes_94 rfl ?_
        refine j_iload_n d_Mo_proposes_95 rfl ?_
        refine j_iconst (v := nI 0) d_Mo_proposes_96 (by decide +kernel) ?_
        refine j_iload_n d_Mo_proposes_97 rfl ?_
        refine j_iconst (v := mI 0) d_Mo_proposes_98 (by decide +kernel) ?_
        rw [show nI q = mI (q + 1) from (mI_succ q).symm]
        refine j_callV0 (As := [_, _, _, _]) G0_good G0_E d_Mo_proposes_99 c_Mo_166 rfl rfl (m_send hb p hp h918 0 (q + 1) 0 (by decide) (by omega) (by omega)) (hM_o (by decide)) rfl rfl (by decide) (Nat.le_of_ble_eq_true rfl) ?_
        rintro _ _ ⟨rfl, rfl⟩
        refine j_iconst (v := nI 1) d_Mo_proposes_102 (by decide +kernel) ?_
        have e := srch_hit (by omega) hs c91
        have e16 := (ic.1.po.cd p hp).2.2.mp h15
        exact j_zret d_Mo_proposes_103 rfl (by decide +kernel) ⟨rfl, by unfold a3; rw [e, e16]⟩

set_option maxHeartbeats 4000000 in
set_option maxRecDepth 100000 in
theorem m_proposes_f {l : Launch} {D : va_G} {M nx : Nat} {L : Int32} {σ ρ : Sg} {g : Nat → Option va_E} {c : Nat → Nat → Nat} (ic : Pu.Ic c σ) (p : Nat) (hp : p < 8) (hon : σ 0 p 0 = 0) (sv : SV σ p ρ) (hz : ¬ g3 σ p) : jM (G0 l D) m_Mo_proposes 2 0 0 [.ref (M + 0), .int (nI p)] (hM D M L σ ρ g, nx) (fun v h => v = some (.int (nI 0)) ∧ h = (hM D M L σ ρ g, nx)) := by
  refine jM.of (by decide +kernel) (Nat.le_of_ble_eq_true rfl) rfl ?_
  have hb := ic.2.1
  have R := ic.1.po.rd p hp
  have H := ic.1.po.ht p hp
  have b12 := ic.1.po.sp p hp
  have b15 := hb 15 p 0
  have b16 := hb 16 p 0
  have ow := sv_own sv (ic.1.bx.bx p hp hon) (show σ 11 p 0 < 6 by omega)
  have o2 := (sv.2 (σ 11 p 0) (by omega)).1

  first | refine j_aload_n d_Mo_proposes_0 rfl ?_ | refine j_aload_nq d_Mo_proposes_0 rfl ?_ | refine j_aload_nN d_Mo_proposes_0 rfl ?_
  refine j_get d_Mo_proposes_1 f_Mo_43 (hM_o (by decide)) rfl ?_
  refine j_iload_n d_Mo_proposes_4 rfl ?_
  refine j_iald (t := 0) d_Mo_proposes_5 rfl (hM_o (by decide)) rfl (by omega) (by decide) ?_
  first | refine c_if_ne (t := 44) d_Mo_proposes_6 (by decide) (fun c6 => ?_) (fun c6 => ?_) | refine n_if_ne (t := 44) d_Mo_proposes_6 (by decide) (by omega) (fun c6 => ?_) (fun c6 => ?_) | refine j_if_ne (t := 44) d_Mo_proposes_6 (by decide) (fun c6 => ?_) (fun c6 => ?_)
  · refine j_iconst (v := nI 0) d_Mo_proposes_44 (by decide +kernel) ?_
    exact j_zret d_Mo_proposes_45 rfl (by decide +kernel) ⟨rfl, rfl⟩
  · first | refine j_aload_n d_Mo_proposes_9 rfl ?_ | refine j_aload_nq d_Mo_proposes_9 rfl ?_ | refine j_aload_nN d_Mo_proposes_9 rfl ?_
    refine j_get d_Mo_proposes_10 f_Mo_37 (hM_o (by decide)) rfl ?_
    refine j_iload_n d_Mo_proposes_13 rfl ?_
    refine j_iald (t := 0) d_Mo_proposes_14 rfl (hM_o (by decide)) rfl (by omega) (by decide) ?_
    first | refine j_aload_n d_Mo_proposes_15 rfl ?_ | refine j_aload_nq d_Mo_proposes_15 rfl ?_ | refine j_aload_nN d_Mo_proposes_15 rfl ?_
    refine j_get d_Mo_proposes_16 f_Mo_40 (hM_o (by decide)) rfl ?_
    refine j_iload_n d_Mo_proposes_19 rfl ?_
    refine j_iald (t := 0) d_Mo_proposes_20 rfl (hM_o (by decide)) rfl (by omega) (by decide) ?_
    refine jn_iadd d_Mo_proposes_21 ?_
    refine j_iconst (v := nI 4) d_Mo_proposes_22 (by decide +kernel) ?_
    refine jn_irem d_Mo_proposes_23 (by omega) (by decide) (by decide) ?_
    refine j_iload_n d_Mo_proposes_24 rfl ?_
    refine j_iconst (v := nI 4) d_Mo_proposes_25 (by decide +kernel) ?_
    refine jn_irem d_Mo_proposes_26 (by omega) (by decide) (by decide) ?_
    first | refine nn_icmp_ne (t := 44) d_Mo_proposes_27 (by decide) (by omega) (by omega) (fun c27 => ?_) (fun c27 => ?_) | refine mm_icmp_ne (t := 44) d_Mo_proposes_27 (by decide) (by omega) (by omega) (fun c27 => ?_) (fun c27 => ?_) | refine mn_icmp_ne (t := 44) d_Mo_proposes_27 (by decide) (by omega) (by omega) (fun c27 => ?_) (fun c27 => ?_) | refine nm_icmp_ne (t := 44) d_Mo_proposes_27 (by decide) (by omega) (by omega) (fun c27 => ?_) (fun c27 => ?_) | refine j_icmp_ne (t := 44) d_Mo_proposes_27 (by decide) (fun c27 => ?_) (fun c27 => ?_)
    · refine j_iconst (v := nI 0) d_Mo_proposes_44 (by decide +kernel) ?_
      exact j_zret d_Mo_proposes_45 rfl (by decide +kernel) ⟨rfl, rfl⟩
    · first | refine j_aload_n d_Mo_proposes_30 rfl ?_ | refine j_aload_nq d_Mo_proposes_30 rfl ?_ | refine j_aload_nN d_Mo_proposes_30 rfl ?_
      refine j_get d_Mo_proposes_31 f_Mo_90 (hM_o (by decide)) rfl ?_
      first | refine j_aload_n d_Mo_proposes_34 rfl ?_ | refine j_aload_nq d_Mo_proposes_34 rfl ?_ | refine j_aload_nN d_Mo_proposes_34 rfl ?_
      refine j_get d_Mo_proposes_35 f_Mo_40 (hM_o (by decide)) rfl ?_
      refine j_iload_n d_Mo_proposes_38 rfl ?_
      refine j_iald (t := 0) d_Mo_proposes_39 rfl (hM_o (by decide)) rfl (by omega) (by decide) ?_
      refine j_zald (t := 1) d_Mo_proposes_40 rfl (hM_o (by decide)) rfl (by omega) (by decide) ?_
      first | refine c_if_eq (t := 46) d_Mo_proposes_41 (by decide) (fun c41 => ?_) (fun c41 => ?_) | refine n_if_eq (t := 46) d_Mo_proposes_41 (by decide) (by omega) (fun c41 => ?_) (fun c41 => ?_) | refine j_if_eq (t := 46) d_Mo_proposes_41 (by decide) (fun c41 => ?_) (fun c41 => ?_)
      · first | refine j_aload_n d_Mo_proposes_46 rfl ?_ | refine j_aload_nq d_Mo_proposes_46 rfl ?_ | refine j_aload_nN d_Mo_proposes_46 rfl ?_
        refine j_get d_Mo_proposes_47 f_Mo_52 (hM_o (by decide)) rfl ?_
        refine j_iload_n d_Mo_proposes_50 rfl ?_
        refine j_iald (t := 0) d_Mo_proposes_51 rfl (hM_o (by decide)) rfl (by omega) (by decide) ?_
        first | refine m_if_lt (t := 75) d_Mo_proposes_52 (by decide) (by omega) (fun c52 => ?_) (fun c52 => ?_) | refine n_if_lt (t := 75) d_Mo_proposes_52 (by decide) (by omega) (fun c52 => ?_) (fun c52 => ?_) | refine j_if_lt (t := 75) d_Mo_proposes_52 (by decide) (fun c52 => ?_) (fun c52 => ?_)
        · refine j_iconst (v := nI 0) d_Mo_proposes_75 (by decide +kernel) ?_
          refine j_istore_n (lc' := [_, _, _]) d_Mo_proposes_76 (by decide) rfl rfl ?_
          exact lp_pro_f ic p hp hon sv (σ 34 0 0 + 1) 0 (by omega) (by omega) (Classical.byContradiction (fun y => hz ⟨c6, c27, Classical.byContradiction (fun z => ow.mpr z (by omega)), by unfold x3; rw [ifP_t c52]; exact y⟩))
        · exfalso; first | exact c52 | omega | exact hz ⟨c6, c27, Classical.byContradiction (fun z => ow.mpr z (by omega)), by unfold x3; rw [ifP_f c52]; exact c52⟩
      · refine j_iconst (v := nI 0) d_Mo_proposes_44 (by decide +kernel) ?_
        exact j_zret d_Mo_proposes_45 rfl (by decide +kernel) ⟨rfl, rfl⟩

set_option maxHeartbeats 4000000 in
set_option maxRecDepth 100000 in
theorem m_proposes_t {l : Launch} {D : va_G} {M nx : Nat} {L : Int32} {σ ρ : Sg} {g : Nat → Option va_E} {c : Nat → Nat → Nat} (ic : Pu.Ic c σ) (p : Nat) (hp : p < 8) (hon : σ 0 p 0 = 0) (sv : SV σ p ρ) (g3 : g3 σ p) : jM (G0 l D) m_Mo_proposes 2 0 0 [.ref (M + 0), .int (nI p)] (hM D M L σ ρ g, nx) (fun v h => v = some (.int (nI 1)) ∧ h = (hM D M L (a3 σ p) ρ g, nx)) := by
  refine jM.of (by decide +kernel) (Nat.le_of_ble_eq_true rfl) rfl ?_
  have hb := ic.2.1
  have R := ic.1.po.rd p hp
  have H := ic.1.po.ht p hp
  have b12 := ic.1.po.sp p hp
  have b15 := hb 15 p 0
  have b16 := hb 16 p 0
  have ow := sv_own sv (ic.1.bx.bx p hp hon) (show σ 11 p 0 < 6 by omega)
  have o2 := (sv.2 (σ 11 p 0) (by omega)).1
  have h918 := (Pu.ok_Rq ic.1 hb hp).2.2.2.2.2.2.1 (Or.inl g3)

  first | refine j_aload_n d_Mo_proposes_0 rfl ?_ | refine j_aload_nq d_Mo_proposes_0 rfl ?_ | refine j_aload_nN d_Mo_proposes_0 rfl ?_
  refine j_get d_Mo_proposes_1 f_Mo_43 (hM_o (by decide)) rfl ?_
  refine j_iload_n d_Mo_proposes_4 rfl ?_
  refine j_iald (t := 0) d_Mo_proposes_5 rfl (hM_o (by decide)) rfl (by omega) (by decide) ?_
  first | refine c_if_ne (t := 44) d_Mo_proposes_6 (by decide) (fun c6 => ?_) (fun c6 => ?_) | refine n_if_ne (t := 44) d_Mo_proposes_6 (by decide) (by omega) (fun c6 => ?_) (fun c6 => ?_) | refine j_if_ne (t := 44) d_Mo_proposes_6 (by decide) (fun c6 => ?_) (fun c6 => ?_)
  · exfalso; first | exact c6 | omega | exact absurd g3.1 c6 | exact absurd g3.2.1 c6 | exact ow.mp (by omega) g3.2.2.1
  · first | refine j_aload_n d_Mo_proposes_9 rfl ?_ | refine j_aload_nq d_Mo_proposes_9 rfl ?_ | refine j_aload_nN d_Mo_proposes_9 rfl ?_
    refine j_get d_Mo_proposes_10 f_Mo_37 (hM_o (by decide)) rfl ?_
    refine j_iload_n d_Mo_proposes_13 rfl ?_
    refine j_iald (t := 0) d_Mo_proposes_14 rfl (hM_o (by decide)) rfl (by omega) (by decide) ?_
    first | refine j_aload_n d_Mo_proposes_15 rfl ?_ | refine j_aload_nq d_Mo_proposes_15 rfl ?_ | refine j_aload_nN d_Mo_proposes_15 rfl ?_
    refine j_get d_Mo_proposes_16 f_Mo_40 (hM_o (by decide)) rfl ?_
    refine j_iload_n d_Mo_proposes_19 rfl ?_
    refine j_iald (t := 0) d_Mo_proposes_20 rfl (hM_o (by decide)) rfl (by omega) (by decide) ?_
    refine jn_iadd d_Mo_proposes_21 ?_
    refine j_iconst (v := nI 4) d_Mo_proposes_22 (by decide +kernel) ?_
    refine jn_irem d_Mo_proposes_23 (by omega) (by decide) (by decide) ?_
    refine j_iload_n d_Mo_proposes_24 rfl ?_
    refine j_iconst (v := nI 4) d_Mo_proposes_25 (by decide +kernel) ?_
    refine jn_irem d_Mo_proposes_26 (by omega) (by decide) (by decide) ?_
    first | refine nn_icmp_ne (t := 44) d_Mo_proposes_27 (by decide) (by omega) (by omega) (fun c27 => ?_) (fun c27 => ?_) | refine mm_icmp_ne (t := 44) d_Mo_proposes_27 (by decide) (by omega) (by omega) (fun c27 => ?_) (fun c27 => ?_) | refine mn_icmp_ne (t := 44) d_Mo_proposes_27 (by decide) (by omega) (by omega) (fun c27 => ?_) (fun c27 => ?_) | refine nm_icmp_ne (t := 44) d_Mo_proposes_27 (by decide) (by omega) (by omega) (fun c27 => ?_) (fun c27 => ?_) | refine j_icmp_ne (t := 44) d_Mo_proposes_27 (by decide) (fun c27 => ?_) (fun c27 => ?_)
    · exfalso; first | exact c27 | omega | exact absurd g3.1 c27 | exact absurd g3.2.1 c27 | exact ow.mp (by omega) g3.2.2.1
    · first | refine j_aload_n d_Mo_proposes_30 rfl ?_ | refine j_aload_nq d_Mo_proposes_30 rfl ?_ | refine j_aload_nN d_Mo_proposes_30 rfl ?_
      refine j_get d_Mo_proposes_31 f_Mo_90 (hM_o (by decide)) rfl ?_
      first | refine j_aload_n d_Mo_proposes_34 rfl ?_ | refine j_aload_nq d_Mo_proposes_34 rfl ?_ | refine j_aload_nN d_Mo_proposes_34 rfl ?_
      refine j_get d_Mo_proposes_35 f_Mo_40 (hM_o (by decide)) rfl ?_
      refine j_iload_n d_Mo_proposes_38 rfl ?_
      refine j_iald (t := 0) d_Mo_proposes_39 rfl (hM_o (by decide)) rfl (by omega) (by decide) ?_
      refine j_zald (t := 1) d_Mo_proposes_40 rfl (hM_o (by decide)) rfl (by omega) (by decide) ?_
      first | refine c_if_eq (t := 46) d_Mo_proposes_41 (by decide) (fun c41 => ?_) (fun c41 => ?_) | refine n_if_eq (t := 46) d_Mo_proposes_41 (by decide) (by omega) (fun c41 => ?_) (fun c41 => ?_) | refine j_if_eq (t := 46) d_Mo_proposes_41 (by decide) (fun c41 => ?_) (fun c41 => ?_)
      · first | refine j_aload_n d_Mo_proposes_46 rfl ?_ | refine j_aload_nq d_Mo_proposes_46 rfl ?_ | refine j_aload_nN d_Mo_proposes_46 rfl ?_
        refine j_get d_Mo_proposes_47 f_Mo_52 (hM_o (by decide)) rfl ?_
        refine j_iload_n d_Mo_proposes_50 rfl ?_
        refine j_iald (t := 0) d_Mo_proposes_51 rfl (hM_o (by decide)) rfl (by omega) (by decide) ?_
        first | refine m_if_lt (t := 75) d_Mo_proposes_52 (by decide) (by omega) (fun c52 => ?_) (fun c52 => ?_) | refine n_if_lt (t := 75) d_Mo_proposes_52 (by decide) (by omega) (fun c52 => ?_) (fun c52 => ?_) | refine j_if_lt (t := 75) d_Mo_proposes_52 (by decide) (fun c52 => ?_) (fun c52 => ?_)
        · refine j_iconst (v := nI 0) d_Mo_proposes_75 (by decide +kernel) ?_
          refine j_istore_n (lc' := [_, _, _]) d_Mo_proposes_76 (by decide) rfl rfl ?_
          exact lp_pro_t ic p hp hon sv g3 c52 (σ 34 0 0 + 1) 0 (by omega) (by omega) (by unfold x3; rw [ifP_t c52]; rfl)
        · first | refine j_aload_n d_Mo_proposes_55 rfl ?_ | refine j_aload_nq d_Mo_proposes_55 rfl ?_ | refine j_aload_nN d_Mo_proposes_55 rfl ?_
          refine j_iload_n d_Mo_proposes_56 rfl ?_
          refine j_iconst (v := nI 0) d_Mo_proposes_57 (by decide +kernel) ?_
          first | refine j_aload_n d_Mo_proposes_58 rfl ?_ | refine j_aload_nq d_Mo_proposes_58 rfl ?_ | refine j_aload_nN d_Mo_proposes_58 rfl ?_
          refine j_get d_Mo_proposes_59 f_Mo_52 (hM_o (by decide)) rfl ?_
          refine j_iload_n d_Mo_proposes_62 rfl ?_
          refine j_iald (t := 0) d_Mo_proposes_63 rfl (hM_o (by decide)) rfl (by omega) (by decide) ?_
          first | refine j_aload_n d_Mo_proposes_64 rfl ?_ | refine j_aload_nq d_Mo_proposes_64 rfl ?_ | refine j_aload_nN d_Mo_proposes_64 rfl ?_
          refine j_get d_Mo_proposes_65 f_Mo_55 (hM_o (by decide)) rfl ?_
          refine j_iload_n d_Mo_proposes_68 rfl ?_
          refine j_iald (t := 0) d_Mo_proposes_69 rfl (hM_o (by decide)) rfl (by omega) (by decide) ?_
          refine j_callV0 (As := [_, _, _, _]) G0_good G0_E d_Mo_proposes_70 c_Mo_166 rfl rfl (m_send hb p hp h918 0 (σ 15 p 0) (σ 16 p 0) (by decide) (by omega) (by omega)) (hM_o (by decide)) rfl rfl (by decide) (Nat.le_of_ble_eq_true rfl) ?_
          rintro _ _ ⟨rfl, rfl⟩
          refine j_iconst (v := nI 1) d_Mo_proposes_73 (by decide +kernel) ?_
          exact j_zret d_Mo_proposes_74 rfl (by decide +kernel) ⟨rfl, by unfold a3 x3; rw [ifP_f c52]⟩
      · exfalso; first | exact c41 | omega | exact absurd g3.1 c41 | exact absurd g3.2.1 c41 | exact ow.mp (by omega) g3.2.2.1

theorem m_threeM {l : Launch} {D : va_G} {M nx : Nat} {L : Int32} {σ ρ : Sg} {g : Nat → Option va_E} (k c x : Nat) (hk : k < 3) (h0 : ¬ c = 0) (hr : c - 1 < 6) (hx : x < 33) (h16 : ρ 0 0 (198 * k + 33 * (c - 1) + x) < 16) : jM (G0 l D) m_Mo_three 1 0 0 [.ref (M + 0), .int (nI k), .int (mI c), .int (mI x)] (hM D M L σ ρ g, nx) (fun v h => v = some (.int (cI (3 ≤ bc (ρ 0 0 (198 * k + 33 * (c - 1) + x))))) ∧ h = (hM D M L σ ρ g, nx)) := by
  rw [mI_pos h0]
  exact m_three k (c - 1) x hk hr hx h16

set_option maxHeartbeats 4000000 in
set_option maxRecDepth 100000 in
theorem lp_vot {l : Launch} {D : va_G} {M nx : Nat} {L : Int32} {σ ρ : Sg} {g : Nat → Option va_E} {c : Nat → Nat → Nat} (ic : Pu.Ic c σ) (p : Nat) (hp : p < 8) (hon : σ 0 p 0 = 0) (sv : SV σ p ρ) (g4 : g4 σ p) (x5 : Option Value) : J (G0 l D) jT m_Mo_votes 2 (fun v h => v = some (.int (nI 1)) ∧ h = (hM D M L (a4 σ p) ρ g, nx)) 0 0 59 [some (.ref (M + 0)), some (.int (nI p)), some (.int (nI (σ 11 p 0))), some (.int (mI (prp σ p (σ 11 p 0) - 1))), some (.int (mI (prc σ p (σ 11 p 0)))), x5] [] (hM D M L σ ρ g, nx) := by
  have hb := ic.2.1
  have R := ic.1.po.rd p hp
  have b12 := ic.1.po.sp p hp
  have b13 := hb 13 p 0
  have b14 := hb 14 p 0
  have bx := ic.1.bx.bx p hp hon
  obtain ⟨p1, p2, p3⟩ := sv_prp sv bx (show σ 11 p 0 < 6 by omega)
  have b9 := ic.1.bx.b9 p (slt 0 (σ 11 p 0) (ld σ p (σ 11 p 0)))
  have b0 := ic.1.bx.b0 p (slt 0 (σ 11 p 0) (ld σ p (σ 11 p 0)))
  have c9 : prp σ p (σ 11 p 0) ≤ 33 := b9
  have c0 : prc σ p (σ 11 p 0) ≤ 6 := b0
  have h918 := (Pu.ok_Rq ic.1 hb hp).2.2.2.2.2.2.1 (Or.inr (Or.inl g4))
  first | refine j_aload_n d_Mo_votes_59 rfl ?_ | refine j_aload_nq d_Mo_votes_59 rfl ?_ | refine j_aload_nN d_Mo_votes_59 rfl ?_
  refine j_get d_Mo_votes_60 f_Mo_46 (hM_o (by decide)) rfl ?_
  refine j_iload_n d_Mo_votes_63 rfl ?_
  refine j_iald (t := 0) d_Mo_votes_64 rfl (hM_o (by decide)) rfl (by omega) (by decide) ?_
  first | refine m_if_lt (t := 94) d_Mo_votes_65 (by decide) (by omega) (fun c65 => ?_) (fun c65 => ?_) | refine n_if_lt (t := 94) d_Mo_votes_65 (by decide) (by omega) (fun c65 => ?_) (fun c65 => ?_) | refine j_if_lt (t := 94) d_Mo_votes_65 (by decide) (fun c65 => ?_) (fun c65 => ?_)
  · refine j_iconst (v := nI 1) d_Mo_votes_94 (by decide +kernel) ?_
    refine j_goto (t := 99) d_Mo_votes_95 (by decide) ?_
    refine j_istore (lc' := [_, _, _, _, _, _]) d_Mo_votes_99 (by decide) rfl rfl ?_
    first | refine j_aload_n d_Mo_votes_101 rfl ?_ | refine j_aload_nq d_Mo_votes_101 rfl ?_ | refine j_aload_nN d_Mo_votes_101 rfl ?_
    refine j_iload_n d_Mo_votes_102 rfl ?_
    refine j_iconst (v := nI 1) d_Mo_votes_103 (by decide +kernel) ?_
    first | refine j_aload_n d_Mo_votes_104 rfl ?_ | refine j_aload_nq d_Mo_votes_104 rfl ?_ | refine j_aload_nN d_Mo_votes_104 rfl ?_
    refine j_iload_n d_Mo_votes_105 rfl ?_
    refine j_iload_n d_Mo_votes_106 rfl ?_
    refine j_callV0 (As := [_, _]) G0_good G0_E d_Mo_votes_107 c_Mo_152 rfl rfl (m_good ic p hp (prp σ p (σ 11 p 0) - 1) (by omega)) (hM_o (by decide)) rfl rfl (by decide) (Nat.le_of_ble_eq_true rfl) ?_
    rintro _ _ ⟨rfl, rfl⟩
    first | refine c_if_eq (t := 128) d_Mo_votes_110 (by decide) (fun c110 => ?_) (fun c110 => ?_) | refine n_if_eq (t := 128) d_Mo_votes_110 (by decide) (by omega) (fun c110 => ?_) (fun c110 => ?_) | refine j_if_eq (t := 128) d_Mo_votes_110 (by decide) (fun c110 => ?_) (fun c110 => ?_)
    · refine j_iconst (v := mI 0) d_Mo_votes_128 (by decide +kernel) ?_
      refine j_iconst (v := mI 0) d_Mo_votes_129 (by decide +kernel) ?_
      refine j_callV0 (As := [_, _, _, _]) G0_good G0_E d_Mo_votes_130 c_Mo_166 rfl rfl (m_send hb p hp h918 1 (0) 0 (by decide) (by omega) (by omega)) (hM_o (by decide)) rfl rfl (by decide) (Nat.le_of_ble_eq_true rfl) ?_
      rintro _ _ ⟨rfl, rfl⟩
      first | refine j_aload_n d_Mo_votes_133 rfl ?_ | refine j_aload_nq d_Mo_votes_133 rfl ?_ | refine j_aload_nN d_Mo_votes_133 rfl ?_
      refine j_get d_Mo_votes_134 f_Mo_43 (hM_o (by decide)) rfl ?_
      refine j_iload_n d_Mo_votes_137 rfl ?_
      refine j_iconst (v := nI 1) d_Mo_votes_138 (by decide +kernel) ?_
      refine j_iast (t := 0) d_Mo_votes_139 rfl (hM_o (by decide)) rfl (by omega) (by decide) (J.hq o12 ?_)
      refine j_iconst (v := nI 1) d_Mo_votes_140 (by decide +kernel) ?_
      have hx4 : x4 σ p = 0 := by unfold x4; exact ifP_f (fun z => by obtain ⟨z1, z2, z3⟩ := z; exact c110 z1)
      exact j_zret d_Mo_votes_141 rfl (by decide +kernel) ⟨rfl, by unfold a4; rw [hx4]⟩
    · refine j_iload d_Mo_votes_113 rfl ?_
      refine j_iload_n d_Mo_votes_115 rfl ?_
      first | refine nn_icmp_ge (t := 128) d_Mo_votes_116 (by decide) (by omega) (by omega) (fun c116 => ?_) (fun c116 => ?_) | refine mm_icmp_ge (t := 128) d_Mo_votes_116 (by decide) (by omega) (by omega) (fun c116 => ?_) (fun c116 => ?_) | refine mn_icmp_ge (t := 128) d_Mo_votes_116 (by decide) (by omega) (by omega) (fun c116 => ?_) (fun c116 => ?_) | refine nm_icmp_ge (t := 128) d_Mo_votes_116 (by decide) (by omega) (by omega) (fun c116 => ?_) (fun c116 => ?_) | refine j_icmp_ge (t := 128) d_Mo_votes_116 (by decide) (fun c116 => ?_) (fun c116 => ?_)
      · refine j_iconst (v := mI 0) d_Mo_votes_128 (by decide +kernel) ?_
        refine j_iconst (v := mI 0) d_Mo_votes_129 (by decide +kernel) ?_
        refine j_callV0 (As := [_, _, _, _]) G0_good G0_E d_Mo_votes_130 c_Mo_166 rfl rfl (m_send hb p hp h918 1 (0) 0 (by decide) (by omega) (by omega)) (hM_o (by decide)) rfl rfl (by decide) (Nat.le_of_ble_eq_true rfl) ?_
        rintro _ _ ⟨rfl, rfl⟩
        first | refine j_aload_n d_Mo_votes_133 rfl ?_ | refine j_aload_nq d_Mo_votes_133 rfl ?_ | refine j_aload_nN d_Mo_votes_133 rfl ?_
        refine j_get d_Mo_votes_134 f_Mo_43 (hM_o (by decide)) rfl ?_
        refine j_iload_n d_Mo_votes_137 rfl ?_
        refine j_iconst (v := nI 1) d_Mo_votes_138 (by decide +kernel) ?_
        refine j_iast (t := 0) d_Mo_votes_139 rfl (hM_o (by decide)) rfl (by omega) (by decide) (J.hq o12 ?_)
        refine j_iconst (v := nI 1) d_Mo_votes_140 (by decide +kernel) ?_
        have hx4 : x4 σ p = 0 := by unfold x4; exact ifP_f (fun z => by obtain ⟨z1, z2, z3⟩ := z; omega)
        exact j_zret d_Mo_votes_141 rfl (by decide +kernel) ⟨rfl, by unfold a4; rw [hx4]⟩
      · refine j_iload d_Mo_votes_119 rfl ?_
        refine j_if_eq (t := 128) d_Mo_votes_121 (by decide) (fun q => absurd q (by decide +kernel)) (fun _ => ?_)
        refine j_iload_n d_Mo_votes_124 rfl ?_
        refine j_goto (t := 129) d_Mo_votes_125 (by decide) ?_
        refine j_iconst (v := mI 0) d_Mo_votes_129 (by decide +kernel) ?_
        refine j_callV0 (As := [_, _, _, _]) G0_good G0_E d_Mo_votes_130 c_Mo_166 rfl rfl (m_send hb p hp h918 1 (prp σ p (σ 11 p 0) - 1) 0 (by decide) (by omega) (by omega)) (hM_o (by decide)) rfl rfl (by decide) (Nat.le_of_ble_eq_true rfl) ?_
        rintro _ _ ⟨rfl, rfl⟩
        first | refine j_aload_n d_Mo_votes_133 rfl ?_ | refine j_aload_nq d_Mo_votes_133 rfl ?_ | refine j_aload_nN d_Mo_votes_133 rfl ?_
        refine j_get d_Mo_votes_134 f_Mo_43 (hM_o (by decide)) rfl ?_
        refine j_iload_n d_Mo_votes_137 rfl ?_
        refine j_iconst (v := nI 1) d_Mo_votes_138 (by decide +kernel) ?_
        refine j_iast (t := 0) d_Mo_votes_139 rfl (hM_o (by decide)) rfl (by omega) (by decide) (J.hq o12 ?_)
        refine j_iconst (v := nI 1) d_Mo_votes_140 (by decide +kernel) ?_
        have hx4 : x4 σ p = prp σ p (σ 11 p 0) - 1 := by unfold x4; exact ifP_t ⟨c110, by omega, by omega⟩
        exact j_zret d_Mo_votes_141 rfl (by decide +kernel) ⟨rfl, by unfold a4; rw [hx4]⟩
  · first | refine j_aload_n d_Mo_votes_68 rfl ?_ | refine j_aload_nq d_Mo_votes_68 rfl ?_ | refine j_aload_nN d_Mo_votes_68 rfl ?_
    refine j_get d_Mo_votes_69 f_Mo_46 (hM_o (by decide)) rfl ?_
    refine j_iload_n d_Mo_votes_72 rfl ?_
    refine j_iald (t := 0) d_Mo_votes_73 rfl (hM_o (by decide)) rfl (by omega) (by decide) ?_
    refine j_iload_n d_Mo_votes_74 rfl ?_
    first | refine nn_icmp_eq (t := 94) d_Mo_votes_75 (by decide) (by omega) (by omega) (fun c75 => ?_) (fun c75 => ?_) | refine mm_icmp_eq (t := 94) d_Mo_votes_75 (by decide) (by omega) (by omega) (fun c75 => ?_) (fun c75 => ?_) | refine mn_icmp_eq (t := 94) d_Mo_votes_75 (by decide) (by omega) (by omega) (fun c75 => ?_) (fun c75 => ?_) | refine nm_icmp_eq (t := 94) d_Mo_votes_75 (by decide) (by omega) (by omega) (fun c75 => ?_) (fun c75 => ?_) | refine j_icmp_eq (t := 94) d_Mo_votes_75 (by decide) (fun c75 => ?_) (fun c75 => ?_)
    · refine j_iconst (v := nI 1) d_Mo_votes_94 (by decide +kernel) ?_
      refine j_goto (t := 99) d_Mo_votes_95 (by decide) ?_
      refine j_istore (lc' := [_, _, _, _, _, _]) d_Mo_votes_99 (by decide) rfl rfl ?_
      first | refine j_aload_n d_Mo_votes_101 rfl ?_ | refine j_aload_nq d_Mo_votes_101 rfl ?_ | refine j_aload_nN d_Mo_votes_101 rfl ?_
      refine j_iload_n d_Mo_votes_102 rfl ?_
      refine j_iconst (v := nI 1) d_Mo_votes_103 (by decide +kernel) ?_
      first | refine j_aload_n d_Mo_votes_104 rfl ?_ | refine j_aload_nq d_Mo_votes_104 rfl ?_ | refine j_aload_nN d_Mo_votes_104 rfl ?_
      refine j_iload_n d_Mo_votes_105 rfl ?_
      refine j_iload_n d_Mo_votes_106 rfl ?_
      refine j_callV0 (As := [_, _]) G0_good G0_E d_Mo_votes_107 c_Mo_152 rfl rfl (m_good ic p hp (prp σ p (σ 11 p 0) - 1) (by omega)) (hM_o (by decide)) rfl rfl (by decide) (Nat.le_of_ble_eq_true rfl) ?_
      rintro _ _ ⟨rfl, rfl⟩
      first | refine c_if_eq (t := 128) d_Mo_votes_110 (by decide) (fun c110 => ?_) (fun c110 => ?_) | refine n_if_eq (t := 128) d_Mo_votes_110 (by decide) (by omega) (fun c110 => ?_) (fun c110 => ?_) | refine j_if_eq (t := 128) d_Mo_votes_110 (by decide) (fun c110 => ?_) (fun c110 => ?_)
      · refine j_iconst (v := mI 0) d_Mo_votes_128 (by decide +kernel) ?_
        refine j_iconst (v := mI 0) d_Mo_votes_129 (by decide +kernel) ?_
        refine j_callV0 (As := [_, _, _, _]) G0_good G0_E d_Mo_votes_130 c_Mo_166 rfl rfl (m_send hb p hp h918 1 (0) 0 (by decide) (by omega) (by omega)) (hM_o (by decide)) rfl rfl (by decide) (Nat.le_of_ble_eq_true rfl) ?_
        rintro _ _ ⟨rfl, rfl⟩
        first | refine j_aload_n d_Mo_votes_133 rfl ?_ | refine j_aload_nq d_Mo_votes_133 rfl ?_ | refine j_aload_nN d_Mo_votes_133 rfl ?_
        refine j_get d_Mo_votes_134 f_Mo_43 (hM_o (by decide)) rfl ?_
        refine j_iload_n d_Mo_votes_137 rfl ?_
        refine j_iconst (v := nI 1) d_Mo_votes_138 (by decide +kernel) ?_
        refine j_iast (t := 0) d_Mo_votes_139 rfl (hM_o (by decide)) rfl (by omega) (by decide) (J.hq o12 ?_)
        refine j_iconst (v := nI 1) d_Mo_votes_140 (by decide +kernel) ?_
        have hx4 : x4 σ p = 0 := by unfold x4; exact ifP_f (fun z => by obtain ⟨z1, z2, z3⟩ := z; exact c110 z1)
        exact j_zret d_Mo_votes_141 rfl (by decide +kernel) ⟨rfl, by unfold a4; rw [hx4]⟩
      · refine j_iload d_Mo_votes_113 rfl ?_
        refine j_iload_n d_Mo_votes_115 rfl ?_
        first | refine nn_icmp_ge (t := 128) d_Mo_votes_116 (by decide) (by omega) (by omega) (fun c116 => ?_) (fun c116 => ?_) | refine mm_icmp_ge (t := 128) d_Mo_votes_116 (by decide) (by omega) (by omega) (fun c116 => ?_) (fun c116 => ?_) | refine mn_icmp_ge (t := 128) d_Mo_votes_116 (by decide) (by omega) (by omega) (fun c116 => ?_) (fun c116 => ?_) | refine nm_icmp_ge (t := 128) d_Mo_votes_116 (by decide) (by omega) (by omega) (fun c116 => ?_) (fun c116 => ?_) | refine j_icmp_ge (t := 128) d_Mo_votes_116 (by decide) (fun c116 => ?_) (fun c116 => ?_)
        · refine j_iconst (v := mI 0) d_Mo_votes_128 (by decide +kernel) ?_
          refine j_iconst (v := mI 0) d_Mo_votes_129 (by decide +kernel) ?_
          refine j_callV0 (As := [_, _, _, _]) G0_good G0_E d_Mo_votes_130 c_Mo_166 rfl rfl (m_send hb p hp h918 1 (0) 0 (by decide) (by omega) (by omega)) (hM_o (by decide)) rfl rfl (by decide) (Nat.le_of_ble_eq_true rfl) ?_
          rintro _ _ ⟨rfl, rfl⟩
          first | refine j_aload_n d_Mo_votes_133 rfl ?_ | refine j_aload_nq d_Mo_votes_133 rfl ?_ | refine j_aload_nN d_Mo_votes_133 rfl ?_
          refine j_get d_Mo_votes_134 f_Mo_43 (hM_o (by decide)) rfl ?_
          refine j_iload_n d_Mo_votes_137 rfl ?_
          refine j_iconst (v := nI 1) d_Mo_votes_138 (by decide +kernel) ?_
          refine j_iast (t := 0) d_Mo_votes_139 rfl (hM_o (by decide)) rfl (by omega) (by decide) (J.hq o12 ?_)
          refine j_iconst (v := nI 1) d_Mo_votes_140 (by decide +kernel) ?_
          have hx4 : x4 σ p = 0 := by unfold x4; exact ifP_f (fun z => by obtain ⟨z1, z2, z3⟩ := z; omega)
          exact j_zret d_Mo_votes_141 rfl (by decide +kernel) ⟨rfl, by unfold a4; rw [hx4]⟩
        · refine j_iload d_Mo_votes_119 rfl ?_
          refine j_if_eq (t := 128) d_Mo_votes_121 (by decide) (fun q => absurd q (by decide +kernel)) (fun _ => ?_)
          refine j_iload_n d_Mo_votes_124 rfl ?_
          refine j_goto (t := 129) d_Mo_votes_125 (by decide) ?_
          refine j_iconst (v := mI 0) d_Mo_votes_129 (by decide +kernel) ?_
          refine j_callV0 (As := [_, _, _, _]) G0_good G0_E d_Mo_votes_130 c_Mo_166 rfl rfl (m_send hb p hp h918 1 (prp σ p (σ 11 p 0) - 1) 0 (by decide) (by omega) (by omega)) (hM_o (by decide)) rfl rfl (by decide) (Nat.le_of_ble_eq_true rfl) ?_
          rintro _ _ ⟨rfl, rfl⟩
          first | refine j_aload_n d_Mo_votes_133 rfl ?_ | refine j_aload_nq d_Mo_votes_133 rfl ?_ | refine j_aload_nN d_Mo_votes_133 rfl ?_
          refine j_get d_Mo_votes_134 f_Mo_43 (hM_o (by decide)) rfl ?_
          refine j_iload_n d_Mo_votes_137 rfl ?_
          refine j_iconst (v := nI 1) d_Mo_votes_138 (by decide +kernel) ?_
          refine j_iast (t := 0) d_Mo_votes_139 rfl (hM_o (by decide)) rfl (by omega) (by decide) (J.hq o12 ?_)
          refine j_iconst (v := nI 1) d_Mo_votes_140 (by decide +kernel) ?_
          have hx4 : x4 σ p = prp σ p (σ 11 p 0) - 1 := by unfold x4; exact ifP_t ⟨c110, by omega, by omega⟩
          exact j_zret d_Mo_votes_141 rfl (by decide +kernel) ⟨rfl, by unfold a4; rw [hx4]⟩
    · refine j_iload d_Mo_votes_78 rfl ?_
      first | refine m_if_lt (t := 98) d_Mo_votes_80 (by decide) (by omega) (fun c80 => ?_) (fun c80 => ?_) | refine n_if_lt (t := 98) d_Mo_votes_80 (by decide) (by omega) (fun c80 => ?_) (fun c80 => ?_) | refine j_if_lt (t := 98) d_Mo_votes_80 (by decide) (fun c80 => ?_) (fun c80 => ?_)
      · refine j_iconst (v := nI 0) d_Mo_votes_98 (by decide +kernel) ?_
        refine j_istore (lc' := [_, _, _, _, _, _]) d_Mo_votes_99 (by decide) rfl rfl ?_
        first | refine j_aload_n d_Mo_votes_101 rfl ?_ | refine j_aload_nq d_Mo_votes_101 rfl ?_ | refine j_aload_nN d_Mo_votes_101 rfl ?_
        refine j_iload_n d_Mo_votes_102 rfl ?_
        refine j_iconst (v := nI 1) d_Mo_votes_103 (by decide +kernel) ?_
        first | refine j_aload_n d_Mo_votes_104 rfl ?_ | refine j_aload_nq d_Mo_votes_104 rfl ?_ | refine j_aload_nN d_Mo_votes_104 rfl ?_
        refine j_iload_n d_Mo_votes_105 rfl ?_
        refine j_iload_n d_Mo_votes_106 rfl ?_
        refine j_callV0 (As := [_, _]) G0_good G0_E d_Mo_votes_107 c_Mo_152 rfl rfl (m_good ic p hp (prp σ p (σ 11 p 0) - 1) (by omega)) (hM_o (by decide)) rfl rfl (by decide) (Nat.le_of_ble_eq_true rfl) ?_
        rintro _ _ ⟨rfl, rfl⟩
        first | refine c_if_eq (t := 128) d_Mo_votes_110 (by decide) (fun c110 => ?_) (fun c110 => ?_) | refine n_if_eq (t := 128) d_Mo_votes_110 (by decide) (by omega) (fun c110 => ?_) (fun c110 => ?_) | refine j_if_eq (t := 128) d_Mo_votes_110 (by decide) (fun c110 => ?_) (fun c110 => ?_)
        · refine j_iconst (v := mI 0) d_Mo_votes_128 (by decide +kernel) ?_
          refine j_iconst (v := mI 0) d_Mo_votes_129 (by decide +kernel) ?_
          refine j_callV0 (As := [_, _, _, _]) G0_good G0_E d_Mo_votes_130 c_Mo_166 rfl rfl (m_send hb p hp h918 1 (0) 0 (by decide) (by omega) (by omega)) (hM_o (by decide)) rfl rfl (by decide) (Nat.le_of_ble_eq_true rfl) ?_
          rintro _ _ ⟨rfl, rfl⟩
          first | refine j_aload_n d_Mo_votes_133 rfl ?_ | refine j_aload_nq d_Mo_votes_133 rfl ?_ | refine j_aload_nN d_Mo_votes_133 rfl ?_
          refine j_get d_Mo_votes_134 f_Mo_43 (hM_o (by decide)) rfl ?_
          refine j_iload_n d_Mo_votes_137 rfl ?_
          refine j_iconst (v := nI 1) d_Mo_votes_138 (by decide +kernel) ?_
          refine j_iast (t := 0) d_Mo_votes_139 rfl (hM_o (by decide)) rfl (by omega) (by decide) (J.hq o12 ?_)
          refine j_iconst (v := nI 1) d_Mo_votes_140 (by decide +kernel) ?_
          have hx4 : x4 σ p = 0 := by unfold x4; exact ifP_f (fun z => by obtain ⟨z1, z2, z3⟩ := z; exact c110 z1)
          exact j_zret d_Mo_votes_141 rfl (by decide +kernel) ⟨rfl, by unfold a4; rw [hx4]⟩
        · refine j_iload d_Mo_votes_113 rfl ?_
          refine j_iload_n d_Mo_votes_115 rfl ?_
          first | refine nn_icmp_ge (t := 128) d_Mo_votes_116 (by decide) (by omega) (by omega) (fun c116 => ?_) (fun c116 => ?_) | refine mm_icmp_ge (t := 128) d_Mo_votes_116 (by decide) (by omega) (by omega) (fun c116 => ?_) (fun c116 => ?_) | refine mn_icmp_ge (t := 128) d_Mo_votes_116 (by decide) (by omega) (by omega) (fun c116 => ?_) (fun c116 => ?_) | refine nm_icmp_ge (t := 128) d_Mo_votes_116 (by decide) (by omega) (by omega) (fun c116 => ?_) (fun c116 => ?_) | refine j_icmp_ge (t := 128) d_Mo_votes_116 (by decide) (fun c116 => ?_) (fun c116 => ?_)
          · refine j_iconst (v := mI 0) d_Mo_votes_128 (by decide +kernel) ?_
            refine j_iconst (v := mI 0) d_Mo_votes_129 (by decide +kernel) ?_
            refine j_callV0 (As := [_, _, _, _]) G0_good G0_E d_Mo_votes_130 c_Mo_166 rfl rfl (m_send hb p hp h918 1 (0) 0 (by decide) (by omega) (by omega)) (hM_o (by decide)) rfl rfl (by decide) (Nat.le_of_ble_eq_true rfl) ?_
            rintro _ _ ⟨rfl, rfl⟩
            first | refine j_aload_n d_Mo_votes_133 rfl ?_ | refine j_aload_nq d_Mo_votes_133 rfl ?_ | refine j_aload_nN d_Mo_votes_133 rfl ?_
            refine j_get d_Mo_votes_134 f_Mo_43 (hM_o (by decide)) rfl ?_
            refine j_iload_n d_Mo_votes_137 rfl ?_
            refine j_iconst (v := nI 1) d_Mo_votes_138 (by decide +kernel) ?_
            refine j_iast (t := 0) d_Mo_votes_139 rfl (hM_o (by decide)) rfl (by omega) (by decide) (J.hq o12 ?_)
            refine j_iconst (v := nI 1) d_Mo_votes_140 (by decide +kernel) ?_
            have hx4 : x4 σ p = 0 := by unfold x4; exact ifP_f (fun z => by obtain ⟨z1, z2, z3⟩ := z; omega)
            exact j_zret d_Mo_votes_141 rfl (by decide +kernel) ⟨rfl, by unfold a4; rw [hx4]⟩
          · refine j_iload d_Mo_votes_119 rfl ?_
            refine j_if_eq (t := 128) d_Mo_votes_121 (by decide) (fun _ => ?_) (fun q => absurd q (by decide +kernel))
            refine j_iconst (v := mI 0) d_Mo_votes_128 (by decide +kernel) ?_
            refine j_iconst (v := mI 0) d_Mo_votes_129 (by decide +kernel) ?_
            refine j_callV0 (As := [_, _, _, _]) G0_good G0_E d_Mo_votes_130 c_Mo_166 rfl rfl (m_send hb p hp h918 1 (0) 0 (by decide) (by omega) (by omega)) (hM_o (by decide)) rfl rfl (by decide) (Nat.le_of_ble_eq_true rfl) ?_
            rintro _ _ ⟨rfl, rfl⟩
            first | refine j_aload_n d_Mo_votes_133 rfl ?_ | refine j_aload_nq d_Mo_votes_133 rfl ?_ | refine j_aload_nN d_Mo_votes_133 rfl ?_
            refine j_get d_Mo_votes_134 f_Mo_43 (hM_o (by decide)) rfl ?_
            refine j_iload_n d_Mo_votes_137 rfl ?_
            refine j_iconst (v := nI 1) d_Mo_votes_138 (by decide +kernel) ?_
            refine j_iast (t := 0) d_Mo_votes_139 rfl (hM_o (by decide)) rfl (by omega) (by decide) (J.hq o12 ?_)
            refine j_iconst (v := nI 1) d_Mo_votes_140 (by decide +kernel) ?_
            have hx4 : x4 σ p = 0 := by unfold x4; exact ifP_f (fun z => by obtain ⟨z1, z2, z3⟩ := z; omega)
            exact j_zret d_Mo_votes_141 rfl (by decide +kernel) ⟨rfl, by unfold a4; rw [hx4]⟩
      · first | refine j_aload_n d_Mo_votes_83 rfl ?_ | refine j_aload_nq d_Mo_votes_83 rfl ?_ | refine j_aload_nN d_Mo_votes_83 rfl ?_
        refine j_get d_Mo_votes_84 f_Mo_49 (hM_o (by decide)) rfl ?_
        refine j_iload_n d_Mo_votes_87 rfl ?_
        refine j_iald (t := 0) d_Mo_votes_88 rfl (hM_o (by decide)) rfl (by omega) (by decide) ?_
        refine j_iload d_Mo_votes_89 rfl ?_
        first | refine nn_icmp_gt (t := 98) d_Mo_votes_91 (by decide) (by omega) (by omega) (fun c91 => ?_) (fun c91 => ?_) | refine mm_icmp_gt (t := 98) d_Mo_votes_91 (by decide) (by omega) (by omega) (fun c91 => ?_) (fun c91 => ?_) | refine mn_icmp_gt (t := 98) d_Mo_votes_91 (by decide) (by omega) (by omega) (fun c91 => ?_) (fun c91 => ?_) | refine nm_icmp_gt (t := 98) d_Mo_votes_91 (by decide) (by omega) (by omega) (fun c91 => ?_) (fun c91 => ?_) | refine j_icmp_gt (t := 98) d_Mo_votes_91 (by decide) (fun c91 => ?_) (fun c91 => ?_)
        · refine j_iconst (v := nI 0) d_Mo_votes_98 (by decide +kernel) ?_
          refine j_istore (lc' := [_, _, _, _, _, _]) d_Mo_votes_99 (by decide) rfl rfl ?_
          first | refine j_aload_n d_Mo_votes_101 rfl ?_ | refine j_aload_nq d_Mo_votes_101 rfl ?_ | refine j_aload_nN d_Mo_votes_101 rfl ?_
          refine j_iload_n d_Mo_votes_102 rfl ?_
          refine j_iconst (v := nI 1) d_Mo_votes_103 (by decide +kernel) ?_
          first | refine j_aload_n d_Mo_votes_104 rfl ?_ | refine j_aload_nq d_Mo_votes_104 rfl ?_ | refine j_aload_nN d_Mo_votes_104 rfl ?_
          refine j_iload_n d_Mo_votes_105 rfl ?_
          refine j_iload_n d_Mo_votes_106 rfl ?_
          refine j_callV0 (As := [_, _]) G0_good G0_E d_Mo_votes_107 c_Mo_152 rfl rfl (m_good ic p hp (prp σ p (σ 11 p 0) - 1) (by omega)) (hM_o (by decide)) rfl rfl (by decide) (Nat.le_of_ble_eq_true rfl) ?_
          rintro _ _ ⟨rfl, rfl⟩
          first | refine c_if_eq (t := 128) d_Mo_votes_110 (by decide) (fun c110 => ?_) (fun c110 => ?_) | refine n_if_eq (t := 128) d_Mo_votes_110 (by decide) (by omega) (fun c110 => ?_) (fun c110 => ?_) | refine j_if_eq (t := 128) d_Mo_votes_110 (by decide) (fun c110 => ?_) (fun c110 => ?_)
          · refine j_iconst (v := mI 0) d_Mo_votes_128 (by decide +kernel) ?_
            refine j_iconst (v := mI 0) d_Mo_votes_129 (by decide +kernel) ?_
            refine j_callV0 (As := [_, _, _, _]) G0_good G0_E d_Mo_votes_130 c_Mo_166 rfl rfl (m_send hb p hp h918 1 (0) 0 (by decide) (by omega) (by omega)) (hM_o (by decide)) rfl rfl (by decide) (Nat.le_of_ble_eq_true rfl) ?_
            rintro _ _ ⟨rfl, rfl⟩
            first | refine j_aload_n d_Mo_votes_133 rfl ?_ | refine j_aload_nq d_Mo_votes_133 rfl ?_ | refine j_aload_nN d_Mo_votes_133 rfl ?_
            refine j_get d_Mo_votes_134 f_Mo_43 (hM_o (by decide)) rfl ?_
            refine j_iload_n d_Mo_votes_137 rfl ?_
            refine j_iconst (v := nI 1) d_Mo_votes_138 (by decide +kernel) ?_
            refine j_iast (t := 0) d_Mo_votes_139 rfl (hM_o (by decide)) rfl (by omega) (by decide) (J.hq o12 ?_)
            refine j_iconst (v := nI 1) d_Mo_votes_140 (by decide +kernel) ?_
            have hx4 : x4 σ p = 0 := by unfold x4; exact ifP_f (fun z => by obtain ⟨z1, z2, z3⟩ := z; exact c110 z1)
            exact j_zret d_Mo_votes_141 rfl (by decide +kernel) ⟨rfl, by unfold a4; rw [hx4]⟩
          · refine j_iload d_Mo_votes_113 rfl ?_
            refine j_iload_n d_Mo_votes_115 rfl ?_
            first | refine nn_icmp_ge (t := 128) d_Mo_votes_116 (by decide) (by omega) (by omega) (fun c116 => ?_) (fun c116 => ?_) | refine mm_icmp_ge (t := 128) d_Mo_votes_116 (by decide) (by omega) (by omega) (fun c116 => ?_) (fun c116 => ?_) | refine mn_icmp_ge (t := 128) d_Mo_votes_116 (by decide) (by omega) (by omega) (fun c116 => ?_) (fun c116 => ?_) | refine nm_icmp_ge (t := 128) d_Mo_votes_116 (by decide) (by omega) (by omega) (fun c116 => ?_) (fun c116 => ?_) | refine j_icmp_ge (t := 128) d_Mo_votes_116 (by decide) (fun c116 => ?_) (fun c116 => ?_)
            · refine j_iconst (v := mI 0) d_Mo_votes_128 (by decide +kernel) ?_
              refine j_iconst (v := mI 0) d_Mo_votes_129 (by decide +kernel) ?_
              refine j_callV0 (As := [_, _, _, _]) G0_good G0_E d_Mo_votes_130 c_Mo_166 rfl rfl (m_send hb p hp h918 1 (0) 0 (by decide) (by omega) (by omega)) (hM_o (by decide)) rfl rfl (by decide) (Nat.le_of_ble_eq_true rfl) ?_
              rintro _ _ ⟨rfl, rfl⟩
              first | refine j_aload_n d_Mo_votes_133 rfl ?_ | refine j_aload_nq d_Mo_votes_133 rfl ?_ | refine j_aload_nN d_Mo_votes_133 rfl ?_
              refine j_get d_Mo_votes_134 f_Mo_43 (hM_o (by decide)) rfl ?_
              refine j_iload_n d_Mo_votes_137 rfl ?_
              refine j_iconst (v := nI 1) d_Mo_votes_138 (by decide +kernel) ?_
              refine j_iast (t := 0) d_Mo_votes_139 rfl (hM_o (by decide)) rfl (by omega) (by decide) (J.hq o12 ?_)
              refine j_iconst (v := nI 1) d_Mo_votes_140 (by decide +kernel) ?_
              have hx4 : x4 σ p = 0 := by unfold x4; exact ifP_f (fun z => by obtain ⟨z1, z2, z3⟩ := z; omega)
              exact j_zret d_Mo_votes_141 rfl (by decide +kernel) ⟨rfl, by unfold a4; rw [hx4]⟩
            · refine j_iload d_Mo_votes_119 rfl ?_
              refine j_if_eq (t := 128) d_Mo_votes_121 (by decide) (fun _ => ?_) (fun q => absurd q (by decide +kernel))
              refine j_iconst (v := mI 0) d_Mo_votes_128 (by decide +kernel) ?_
              refine j_iconst (v := mI 0) d_Mo_votes_129 (by decide +kernel) ?_
              refine j_callV0 (As := [_, _, _, _]) G0_good G0_E d_Mo_votes_130 c_Mo_166 rfl rfl (m_send hb p hp h918 1 (0) 0 (by decide) (by omega) (by omega)) (hM_o (by decide)) rfl rfl (by decide) (Nat.le_of_ble_eq_true rfl) ?_
              rintro _ _ ⟨rfl, rfl⟩
              first | refine j_aload_n d_Mo_votes_133 rfl ?_ | refine j_aload_nq d_Mo_votes_133 rfl ?_ | refine j_aload_nN d_Mo_votes_133 rfl ?_
              refine j_get d_Mo_votes_134 f_Mo_43 (hM_o (by decide)) rfl ?_
              refine j_iload_n d_Mo_votes_137 rfl ?_
              refine j_iconst (v := nI 1) d_Mo_votes_138 (by decide +kernel) ?_
              refine j_iast (t := 0) d_Mo_votes_139 rfl (hM_o (by decide)) rfl (by omega) (by decide) (J.hq o12 ?_)
              refine j_iconst (v := nI 1) d_Mo_votes_140 (by decide +kernel) ?_
              have hx4 : x4 σ p = 0 := by unfold x4; exact ifP_f (fun z => by obtain ⟨z1, z2, z3⟩ := z; omega)
              exact j_zret d_Mo_votes_141 rfl (by decide +kernel) ⟨rfl, by unfold a4; rw [hx4]⟩
        · refine j_iconst (v := nI 1) d_Mo_votes_94 (by decide +kernel) ?_
          refine j_goto (t := 99) d_Mo_votes_95 (by decide) ?_
          refine j_istore (lc' := [_, _, _, _, _, _]) d_Mo_votes_99 (by decide) rfl rfl ?_
          first | refine j_aload_n d_Mo_votes_101 rfl ?_ | refine j_aload_nq d_Mo_votes_101 rfl ?_ | refine j_aload_nN d_Mo_votes_101 rfl ?_
          refine j_iload_n d_Mo_votes_102 rfl ?_
          refine j_iconst (v := nI 1) d_Mo_votes_103 (by decide +kernel) ?_
          first | refine j_aload_n d_Mo_votes_104 rfl ?_ | refine j_aload_nq d_Mo_votes_104 rfl ?_ | refine j_aload_nN d_Mo_votes_104 rfl ?_
          refine j_iload_n d_Mo_votes_105 rfl ?_
          refine j_iload_n d_Mo_votes_106 rfl ?_
          refine j_callV0 (As := [_, _]) G0_good G0_E d_Mo_votes_107 c_Mo_152 rfl rfl (m_good ic p hp (prp σ p (σ 11 p 0) - 1) (by omega)) (hM_o (by decide)) rfl rfl (by decide) (Nat.le_of_ble_eq_true rfl) ?_
          rintro _ _ ⟨rfl, rfl⟩
          first | refine c_if_eq (t := 128) d_Mo_votes_110 (by decide) (fun c110 => ?_) (fun c110 => ?_) | refine n_if_eq (t := 128) d_Mo_votes_110 (by decide) (by omega) (fun c110 => ?_) (fun c110 => ?_) | refine j_if_eq (t := 128) d_Mo_votes_110 (by decide) (fun c110 => ?_) (fun c110 => ?_)
          · refine j_iconst (v := mI 0) d_Mo_votes_128 (by decide +kernel) ?_
            refine j_iconst (v := mI 0) d_Mo_votes_129 (by decide +kernel) ?_
            refine j_callV0 (As := [_, _, _, _]) G0_good G0_E d_Mo_votes_130 c_Mo_166 rfl rfl (m_send hb p hp h918 1 (0) 0 (by decide) (by omega) (by omega)) (hM_o (by decide)) rfl rfl (by decide) (Nat.le_of_ble_eq_true rfl) ?_
            rintro _ _ ⟨rfl, rfl⟩
            first | refine j_aload_n d_Mo_votes_133 rfl ?_ | refine j_aload_nq d_Mo_votes_133 rfl ?_ | refine j_aload_nN d_Mo_votes_133 rfl ?_
            refine j_get d_Mo_votes_134 f_Mo_43 (hM_o (by decide)) rfl ?_
            refine j_iload_n d_Mo_votes_137 rfl ?_
            refine j_iconst (v := nI 1) d_Mo_votes_138 (by decide +kernel) ?_
            refine j_iast (t := 0) d_Mo_votes_139 rfl (hM_o (by decide)) rfl (by omega) (by decide) (J.hq o12 ?_)
            refine j_iconst (v := nI 1) d_Mo_votes_140 (by decide +kernel) ?_
            have hx4 : x4 σ p = 0 := by unfold x4; exact ifP_f (fun z => by obtain ⟨z1, z2, z3⟩ := z; exact c110 z1)
            exact j_zret d_Mo_votes_141 rfl (by decide +kernel) ⟨rfl, by unfold a4; rw [hx4]⟩
          · refine j_iload d_Mo_votes_113 rfl ?_
            refine j_iload_n d_Mo_votes_115 rfl ?_
            first | refine nn_icmp_ge (t := 128) d_Mo_votes_116 (by decide) (by omega) (by omega) (fun c116 => ?_) (fun c116 => ?_) | refine mm_icmp_ge (t := 128) d_Mo_votes_116 (by decide) (by omega) (by omega) (fun c116 => ?_) (fun c116 => ?_) | refine mn_icmp_ge (t := 128) d_Mo_votes_116 (by decide) (by omega) (by omega) (fun c116 => ?_) (fun c116 => ?_) | refine nm_icmp_ge (t := 128) d_Mo_votes_116 (by decide) (by omega) (by omega) (fun c116 => ?_) (fun c116 => ?_) | refine j_icmp_ge (t := 128) d_Mo_votes_116 (by decide) (fun c116 => ?_) (fun c116 => ?_)
            · refine j_iconst (v := mI 0) d_Mo_votes_128 (by decide +kernel) ?_
              refine j_iconst (v := mI 0) d_Mo_votes_129 (by decide +kernel) ?_
              refine j_callV0 (As := [_, _, _, _]) G0_good G0_E d_Mo_votes_130 c_Mo_166 rfl rfl (m_send hb p hp h918 1 (0) 0 (by decide) (by omega) (by omega)) (hM_o (by decide)) rfl rfl (by decide) (Nat.le_of_ble_eq_true rfl) ?_
              rintro _ _ ⟨rfl, rfl⟩
              first | refine j_aload_n d_Mo_votes_133 rfl ?_ | refine j_aload_nq d_Mo_votes_133 rfl ?_ | refine j_aload_nN d_Mo_votes_133 rfl ?_
              refine j_get d_Mo_votes_134 f_Mo_43 (hM_o (by decide)) rfl ?_
              refine j_iload_n d_Mo_votes_137 rfl ?_
              refine j_iconst (v := nI 1) d_Mo_votes_138 (by decide +kernel) ?_
              refine j_iast (t := 0) d_Mo_votes_139 rfl (hM_o (by decide)) rfl (by omega) (by decide) (J.hq o12 ?_)
              refine j_iconst (v := nI 1) d_Mo_votes_140 (by decide +kernel) ?_
              have hx4 : x4 σ p = 0 := by unfold x4; exact ifP_f (fun z => by obtain ⟨z1, z2, z3⟩ := z; omega)
              exact j_zret d_Mo_votes_141 rfl (by decide +kernel) ⟨rfl, by unfold a4; rw [hx4]⟩
            · refine j_iload d_Mo_votes_119 rfl ?_
              refine j_if_eq (t := 128) d_Mo_votes_121 (by decide) (fun q => absurd q (by decide +kernel)) (fun _ => ?_)
              refine j_iload_n d_Mo_votes_124 rfl ?_
              refine j_goto (t := 129) d_Mo_votes_125 (by decide) ?_
              refine j_iconst (v := mI 0) d_Mo_votes_129 (by decide +kernel) ?_
              refine j_callV0 (As := [_, _, _, _]) G0_good G0_E d_Mo_votes_130 c_Mo_166 rfl rfl (m_send hb p hp h918 1 (prp σ p (σ 11 p 0) - 1) 0 (by decide) (by omega) (by omega)) (hM_o (by decide)) rfl rfl (by decide) (Nat.le_of_ble_eq_true rfl) ?_
              rintro _ _ ⟨rfl, rfl⟩
              first | refine j_aload_n d_Mo_votes_133 rfl ?_ | refine j_aload_nq d_Mo_votes_133 rfl ?_ | refine j_aload_nN d_Mo_votes_133 rfl ?_
              refine j_get d_Mo_votes_134 f_Mo_43 (hM_o (by decide)) rfl ?_
              refine j_iload_n d_Mo_votes_137 rfl ?_
              refine j_iconst (v := nI 1) d_Mo_votes_138 (by decide +kernel) ?_
              refine j_iast (t := 0) d_Mo_votes_139 rfl (hM_o (by decide)) rfl (by omega) (by decide) (J.hq o12 ?_)
              refine j_iconst (v := nI 1) d_Mo_votes_140 (by decide +kernel) ?_
              have hx4 : x4 σ p = prp σ p (σ 11 p 0) - 1 := by unfold x4; exact ifP_t ⟨c110, by omega, by omega⟩
              exact j_zret d_Mo_votes_141 rfl (by decide +kernel) ⟨rfl, by unfold a4; rw [hx4]⟩

set_option maxHeartbeats 4000000 in
set_option maxRecDepth 100000 in
theorem m_votes_f {l : Launch} {D : va_G} {M nx : Nat} {L : Int32} {σ ρ : Sg} {g : Nat → Option va_E} {c : Nat → Nat → Nat} (ic : Pu.Ic c σ) (p : Nat) (hp : p < 8) (hon : σ 0 p 0 = 0) (sv : SV σ p ρ) (hz : ¬ g4 σ p) : jM (G0 l D) m_Mo_votes 2 0 0 [.ref (M + 0), .int (nI p)] (hM D M L σ ρ g, nx) (fun v h => v = some (.int (nI 0)) ∧ h = (hM D M L σ ρ g, nx)) := by
  refine jM.of (by decide +kernel) (Nat.le_of_ble_eq_true rfl) rfl ?_
  have hb := ic.2.1
  have R := ic.1.po.rd p hp
  have b12 := ic.1.po.sp p hp
  have b13 := hb 13 p 0
  have b14 := hb 14 p 0
  have bx := ic.1.bx.bx p hp hon
  obtain ⟨p1, p2, p3⟩ := sv_prp sv bx (show σ 11 p 0 < 6 by omega)
  have b9 := ic.1.bx.b9 p (slt 0 (σ 11 p 0) (ld σ p (σ 11 p 0)))
  have b0 := ic.1.bx.b0 p (slt 0 (σ 11 p 0) (ld σ p (σ 11 p 0)))
  have c9 : prp σ p (σ 11 p 0) ≤ 33 := b9
  have c0 : prc σ p (σ 11 p 0) ≤ 6 := b0
  have q1 : ρ 1 0 (σ 11 p 0) < 33 := by omega

  first | refine j_aload_n d_Mo_votes_0 rfl ?_ | refine j_aload_nq d_Mo_votes_0 rfl ?_ | refine j_aload_nN d_Mo_votes_0 rfl ?_
  refine j_get d_Mo_votes_1 f_Mo_40 (hM_o (by decide)) rfl ?_
  refine j_iload_n d_Mo_votes_4 rfl ?_
  refine j_iald (t := 0) d_Mo_votes_5 rfl (hM_o (by decide)) rfl (by omega) (by decide) ?_
  refine j_istore_n (lc' := [_, _, _, _, _, _]) d_Mo_votes_6 (by decide) rfl rfl ?_
  first | refine j_aload_n d_Mo_votes_7 rfl ?_ | refine j_aload_nq d_Mo_votes_7 rfl ?_ | refine j_aload_nN d_Mo_votes_7 rfl ?_
  refine j_get d_Mo_votes_8 f_Mo_84 (hM_o (by decide)) rfl ?_
  refine j_iload_n d_Mo_votes_11 rfl ?_
  refine j_iald (t := 0) d_Mo_votes_12 rfl (hM_o (by decide)) rfl (by omega) (by decide) ?_
  refine j_istore_n (lc' := [_, _, _, _, _, _]) d_Mo_votes_13 (by decide) rfl rfl ?_
  first | refine j_aload_n d_Mo_votes_14 rfl ?_ | refine j_aload_nq d_Mo_votes_14 rfl ?_ | refine j_aload_nN d_Mo_votes_14 rfl ?_
  refine j_get d_Mo_votes_15 f_Mo_87 (hM_o (by decide)) rfl ?_
  refine j_iload_n d_Mo_votes_18 rfl ?_
  refine j_iald (t := 0) d_Mo_votes_19 rfl (hM_o (by decide)) rfl (by omega) (by decide) ?_
  refine j_istore (lc' := [_, _, _, _, _, _]) d_Mo_votes_20 (by decide) rfl rfl ?_
  first | refine j_aload_n d_Mo_votes_22 rfl ?_ | refine j_aload_nq d_Mo_votes_22 rfl ?_ | refine j_aload_nN d_Mo_votes_22 rfl ?_
  refine j_get d_Mo_votes_23 f_Mo_43 (hM_o (by decide)) rfl ?_
  refine j_iload_n d_Mo_votes_26 rfl ?_
  refine j_iald (t := 0) d_Mo_votes_27 rfl (hM_o (by decide)) rfl (by omega) (by decide) ?_
  first | refine c_if_ne (t := 57) d_Mo_votes_28 (by decide) (fun c28 => ?_) (fun c28 => ?_) | refine n_if_ne (t := 57) d_Mo_votes_28 (by decide) (by omega) (fun c28 => ?_) (fun c28 => ?_) | refine j_if_ne (t := 57) d_Mo_votes_28 (by decide) (fun c28 => ?_) (fun c28 => ?_)
  · refine j_iconst (v := nI 0) d_Mo_votes_57 (by decide +kernel) ?_
    exact j_zret d_Mo_votes_58 rfl (by decide +kernel) ⟨rfl, rfl⟩
  · refine j_iload_n d_Mo_votes_31 rfl ?_
    first | refine m_if_lt (t := 57) d_Mo_votes_32 (by decide) (by omega) (fun c32 => ?_) (fun c32 => ?_) | refine n_if_lt (t := 57) d_Mo_votes_32 (by decide) (by omega) (fun c32 => ?_) (fun c32 => ?_) | refine j_if_lt (t := 57) d_Mo_votes_32 (by decide) (fun c32 => ?_) (fun c32 => ?_)
    · refine j_iconst (v := nI 0) d_Mo_votes_57 (by decide +kernel) ?_
      exact j_zret d_Mo_votes_58 rfl (by decide +kernel) ⟨rfl, rfl⟩
    · have pz : ¬ prp σ p (σ 11 p 0) = 0 := fun z => c32 (p3.mpr z)
      have e2 := p2 pz
      refine j_iload d_Mo_votes_35 rfl ?_
      first | refine m_if_lt (t := 59) d_Mo_votes_37 (by decide) (by omega) (fun c37 => ?_) (fun c37 => ?_) | refine n_if_lt (t := 59) d_Mo_votes_37 (by decide) (by omega) (fun c37 => ?_) (fun c37 => ?_) | refine j_if_lt (t := 59) d_Mo_votes_37 (by decide) (fun c37 => ?_) (fun c37 => ?_)
      · exfalso
        exact hz ⟨c28, pz, Or.inl (by omega)⟩
      · refine j_iload d_Mo_votes_40 rfl ?_
        refine j_iload_n d_Mo_votes_42 rfl ?_
        first | refine nn_icmp_ge (t := 59) d_Mo_votes_43 (by decide) (by omega) (by omega) (fun c43 => ?_) (fun c43 => ?_) | refine mm_icmp_ge (t := 59) d_Mo_votes_43 (by decide) (by omega) (by omega) (fun c43 => ?_) (fun c43 => ?_) | refine mn_icmp_ge (t := 59) d_Mo_votes_43 (by decide) (by omega) (by omega) (fun c43 => ?_) (fun c43 => ?_) | refine nm_icmp_ge (t := 59) d_Mo_votes_43 (by decide) (by omega) (by omega) (fun c43 => ?_) (fun c43 => ?_) | refine j_icmp_ge (t := 59) d_Mo_votes_43 (by decide) (fun c43 => ?_) (fun c43 => ?_)
        · exfalso
          exact hz ⟨c28, pz, Or.inr (Or.inl (by omega))⟩
        · first | refine j_aload_n d_Mo_votes_46 rfl ?_ | refine j_aload_nq d_Mo_votes_46 rfl ?_ | refine j_aload_nN d_Mo_votes_46 rfl ?_
          refine j_iconst (v := nI 1) d_Mo_votes_47 (by decide +kernel) ?_
          refine j_iload d_Mo_votes_48 rfl ?_
          refine j_iload_n d_Mo_votes_50 rfl ?_
          have eb := bc_cq sv bx (k := 1) (r := ρ 2 0 (σ 11 p 0) - 1) (x := ρ 1 0 (σ 11 p 0)) (Or.inl rfl) (by omega) q1
          refine j_callV0 (As := [_, _, _]) G0_good G0_E d_Mo_votes_51 c_Mo_155 rfl rfl (m_threeM 1 (ρ 2 0 (σ 11 p 0)) (ρ 1 0 (σ 11 p 0)) (by decide) c37 (by omega) q1 (sv.1.1 _ (by omega))) (hM_o (by decide)) rfl rfl (by decide) (Nat.le_of_ble_eq_true rfl) ?_
          rintro _ _ ⟨rfl, rfl⟩
          first | refine c_if_ne (t := 59) d_Mo_votes_54 (by decide) (fun c54 => ?_) (fun c54 => ?_) | refine n_if_ne (t := 59) d_Mo_votes_54 (by decide) (by omega) (fun c54 => ?_) (fun c54 => ?_) | refine j_if_ne (t := 59) d_Mo_votes_54 (by decide) (fun c54 => ?_) (fun c54 => ?_)
          · exfalso
            exact hz ⟨c28, pz, Or.inr (Or.inr (by rw [← e2, ← p1, ← eb]; exact c54))⟩
          · refine j_iconst (v := nI 0) d_Mo_votes_57 (by decide +kernel) ?_
            exact j_zret d_Mo_votes_58 rfl (by decide +kernel) ⟨rfl, rfl⟩

set_option maxHeartbeats 4000000 in
set_option maxRecDepth 100000 in
theorem m_votes_t {l : Launch} {D : va_G} {M nx : Nat} {L : Int32} {σ ρ : Sg} {g : Nat → Option va_E} {c : Nat → Nat → Nat} (ic : Pu.Ic c σ) (p : Nat) (hp : p < 8) (hon : σ 0 p 0 = 0) (sv : SV σ p ρ) (g4 : g4 σ p) : jM (G0 l D) m_Mo_votes 2 0 0 [.ref (M + 0), .int (nI p)] (hM D M L σ ρ g, nx) (fun v h => v = some (.int (nI 1)) ∧ h = (hM D M L (a4 σ p) ρ g, nx)) := by
  refine jM.of (by decide +kernel) (Nat.le_of_ble_eq_true rfl) rfl ?_
  have hb := ic.2.1
  have R := ic.1.po.rd p hp
  have b12 := ic.1.po.sp p hp
  have b13 := hb 13 p 0
  have b14 := hb 14 p 0
  have bx := ic.1.bx.bx p hp hon
  obtain ⟨p1, p2, p3⟩ := sv_prp sv bx (show σ 11 p 0 < 6 by omega)
  have b9 := ic.1.bx.b9 p (slt 0 (σ 11 p 0) (ld σ p (σ 11 p 0)))
  have b0 := ic.1.bx.b0 p (slt 0 (σ 11 p 0) (ld σ p (σ 11 p 0)))
  have c9 : prp σ p (σ 11 p 0) ≤ 33 := b9
  have c0 : prc σ p (σ 11 p 0) ≤ 6 := b0
  have q1 : ρ 1 0 (σ 11 p 0) < 33 := by omega

  first | refine j_aload_n d_Mo_votes_0 rfl ?_ | refine j_aload_nq d_Mo_votes_0 rfl ?_ | refine j_aload_nN d_Mo_votes_0 rfl ?_
  refine j_get d_Mo_votes_1 f_Mo_40 (hM_o (by decide)) rfl ?_
  refine j_iload_n d_Mo_votes_4 rfl ?_
  refine j_iald (t := 0) d_Mo_votes_5 rfl (hM_o (by decide)) rfl (by omega) (by decide) ?_
  refine j_istore_n (lc' := [_, _, _, _, _, _]) d_Mo_votes_6 (by decide) rfl rfl ?_
  first | refine j_aload_n d_Mo_votes_7 rfl ?_ | refine j_aload_nq d_Mo_votes_7 rfl ?_ | refine j_aload_nN d_Mo_votes_7 rfl ?_
  refine j_get d_Mo_votes_8 f_Mo_84 (hM_o (by decide)) rfl ?_
  refine j_iload_n d_Mo_votes_11 rfl ?_
  refine j_iald (t := 0) d_Mo_votes_12 rfl (hM_o (by decide)) rfl (by omega) (by decide) ?_
  refine j_istore_n (lc' := [_, _, _, _, _, _]) d_Mo_votes_13 (by decide) rfl rfl ?_
  first | refine j_aload_n d_Mo_votes_14 rfl ?_ | refine j_aload_nq d_Mo_votes_14 rfl ?_ | refine j_aload_nN d_Mo_votes_14 rfl ?_
  refine j_get d_Mo_votes_15 f_Mo_87 (hM_o (by decide)) rfl ?_
  refine j_iload_n d_Mo_votes_18 rfl ?_
  refine j_iald (t := 0) d_Mo_votes_19 rfl (hM_o (by decide)) rfl (by omega) (by decide) ?_
  refine j_istore (lc' := [_, _, _, _, _, _]) d_Mo_votes_20 (by decide) rfl rfl ?_
  first | refine j_aload_n d_Mo_votes_22 rfl ?_ | refine j_aload_nq d_Mo_votes_22 rfl ?_ | refine j_aload_nN d_Mo_votes_22 rfl ?_
  refine j_get d_Mo_votes_23 f_Mo_43 (hM_o (by decide)) rfl ?_
  refine j_iload_n d_Mo_votes_26 rfl ?_
  refine j_iald (t := 0) d_Mo_votes_27 rfl (hM_o (by decide)) rfl (by omega) (by decide) ?_
  first | refine c_if_ne (t := 57) d_Mo_votes_28 (by decide) (fun c28 => ?_) (fun c28 => ?_) | refine n_if_ne (t := 57) d_Mo_votes_28 (by decide) (by omega) (fun c28 => ?_) (fun c28 => ?_) | refine j_if_ne (t := 57) d_Mo_votes_28 (by decide) (fun c28 => ?_) (fun c28 => ?_)
  · exfalso; first | exact c28 | omega | exact absurd g4.1 c28 | exact g4.2.1 (p3.mp c28) | (rcases g4.2.2 with z | z | z <;> first | omega | (rw [← e2, ← p1, ← eb] at z; exact c28 z))
  · refine j_iload_n d_Mo_votes_31 rfl ?_
    first | refine m_if_lt (t := 57) d_Mo_votes_32 (by decide) (by omega) (fun c32 => ?_) (fun c32 => ?_) | refine n_if_lt (t := 57) d_Mo_votes_32 (by decide) (by omega) (fun c32 => ?_) (fun c32 => ?_) | refine j_if_lt (t := 57) d_Mo_votes_32 (by decide) (fun c32 => ?_) (fun c32 => ?_)
    · exfalso; first | exact c32 | omega | exact absurd g4.1 c32 | exact g4.2.1 (p3.mp c32) | (rcases g4.2.2 with z | z | z <;> first | omega | (rw [← e2, ← p1, ← eb] at z; exact c32 z))
    · have e2 := p2 g4.2.1
      refine j_iload d_Mo_votes_35 rfl ?_
      first | refine m_if_lt (t := 59) d_Mo_votes_37 (by decide) (by omega) (fun c37 => ?_) (fun c37 => ?_) | refine n_if_lt (t := 59) d_Mo_votes_37 (by decide) (by omega) (fun c37 => ?_) (fun c37 => ?_) | refine j_if_lt (t := 59) d_Mo_votes_37 (by decide) (fun c37 => ?_) (fun c37 => ?_)
      · rw [e2, p1]
        exact lp_vot ic p hp hon sv g4 _
      · refine j_iload d_Mo_votes_40 rfl ?_
        refine j_iload_n d_Mo_votes_42 rfl ?_
        first | refine nn_icmp_ge (t := 59) d_Mo_votes_43 (by decide) (by omega) (by omega) (fun c43 => ?_) (fun c43 => ?_) | refine mm_icmp_ge (t := 59) d_Mo_votes_43 (by decide) (by omega) (by omega) (fun c43 => ?_) (fun c43 => ?_) | refine mn_icmp_ge (t := 59) d_Mo_votes_43 (by decide) (by omega) (by omega) (fun c43 => ?_) (fun c43 => ?_) | refine nm_icmp_ge (t := 59) d_Mo_votes_43 (by decide) (by omega) (by omega) (fun c43 => ?_) (fun c43 => ?_) | refine j_icmp_ge (t := 59) d_Mo_votes_43 (by decide) (fun c43 => ?_) (fun c43 => ?_)
        · rw [e2, p1]
          exact lp_vot ic p hp hon sv g4 _
        · first | refine j_aload_n d_Mo_votes_46 rfl ?_ | refine j_aload_nq d_Mo_votes_46 rfl ?_ | refine j_aload_nN d_Mo_votes_46 rfl ?_
          refine j_iconst (v := nI 1) d_Mo_votes_47 (by decide +kernel) ?_
          refine j_iload d_Mo_votes_48 rfl ?_
          refine j_iload_n d_Mo_votes_50 rfl ?_
          have eb := bc_cq sv bx (k := 1) (r := ρ 2 0 (σ 11 p 0) - 1) (x := ρ 1 0 (σ 11 p 0)) (Or.inl rfl) (by omega) q1
          refine j_callV0 (As := [_, _, _]) G0_good G0_E d_Mo_votes_51 c_Mo_155 rfl rfl (m_threeM 1 (ρ 2 0 (σ 11 p 0)) (ρ 1 0 (σ 11 p 0)) (by decide) c37 (by omega) q1 (sv.1.1 _ (by omega))) (hM_o (by decide)) rfl rfl (by decide) (Nat.le_of_ble_eq_true rfl) ?_
          rintro _ _ ⟨rfl, rfl⟩
          first | refine c_if_ne (t := 59) d_Mo_votes_54 (by decide) (fun c54 => ?_) (fun c54 => ?_) | refine n_if_ne (t := 59) d_Mo_votes_54 (by decide) (by omega) (fun c54 => ?_) (fun c54 => ?_) | refine j_if_ne (t := 59) d_Mo_votes_54 (by decide) (fun c54 => ?_) (fun c54 => ?_)
          · rw [e2, p1]
            exact lp_vot ic p hp hon sv g4 _
          · exfalso; first | exact c54 | omega | exact absurd g4.1 c54 | exact g4.2.1 (p3.mp c54) | (rcases g4.2.2 with z | z | z <;> first | omega | (rw [← e2, ← p1, ← eb] at z; exact c54 z))

set_option maxHeartbeats 4000000 in
set_option maxRecDepth 100000 in
theorem m_accepts_f {l : Launch} {D : va_G} {M nx : Nat} {L : Int32} {σ ρ : Sg} {g : Nat → Option va_E} {c : Nat → Nat → Nat} (ic : Pu.Ic c σ) (p : Nat) (hp : p < 8) (hon : σ 0 p 0 = 0) (sv : SV σ p ρ) (hz : ¬ g5 σ p) : jM (G0 l D) m_Mo_accepts 2 0 0 [.ref (M + 0), .int (nI p)] (hM D M L σ ρ g, nx) (fun v h => v = some (.int (nI 0)) ∧ h = (hM D M L σ ρ g, nx)) := by
  refine jM.of (by decide +kernel) (Nat.le_of_ble_eq_true rfl) rfl ?_
  have hb := ic.2.1
  have R := ic.1.po.rd p hp
  have b12 := ic.1.po.sp p hp
  have b13 := hb 13 p 0
  have b14 := hb 14 p 0
  have bx := ic.1.bx.bx p hp hon
  obtain ⟨p1, p2, p3⟩ := sv_prp sv bx (show σ 11 p 0 < 6 by omega)
  have b9 := ic.1.bx.b9 p (slt 0 (σ 11 p 0) (ld σ p (σ 11 p 0)))
  have b0 := ic.1.bx.b0 p (slt 0 (σ 11 p 0) (ld σ p (σ 11 p 0)))
  have c9 : prp σ p (σ 11 p 0) ≤ 33 := b9
  have c0 : prc σ p (σ 11 p 0) ≤ 6 := b0
  have q1 : ρ 1 0 (σ 11 p 0) < 33 := by omega
  have b15 := hb 15 p 0
  have b16 := hb 16 p 0
  have cd := ic.1.po.cd p hp
  have eb := bc_cq sv bx (k := 1) (r := σ 11 p 0) (x := ρ 1 0 (σ 11 p 0)) (Or.inl rfl) (by omega) q1
  have hg5 : g5 σ p ↔ (¬ σ 12 p 0 = 0 ∧ ¬ σ 16 p 0 = σ 11 p 0 + 1 ∧ gd σ p (ρ 1 0 (σ 11 p 0)) ∧ 3 ≤ bc (ρ 0 0 (198 * 1 + 33 * σ 11 p 0 + ρ 1 0 (σ 11 p 0)))) := by
    rw [eb, p1]
    unfold g5
    exact ⟨fun z => ⟨z.1, z.2.1, z.2.2.2⟩, fun z => ⟨z.1, z.2.1, fun e => z.2.2.1.1 (by omega), z.2.2⟩⟩

  first | refine j_aload_n d_Mo_accepts_0 rfl ?_ | refine j_aload_nq d_Mo_accepts_0 rfl ?_ | refine j_aload_nN d_Mo_accepts_0 rfl ?_
  refine j_get d_Mo_accepts_1 f_Mo_40 (hM_o (by decide)) rfl ?_
  refine j_iload_n d_Mo_accepts_4 rfl ?_
  refine j_iald (t := 0) d_Mo_accepts_5 rfl (hM_o (by decide)) rfl (by omega) (by decide) ?_
  refine j_istore_n (lc' := [_, _, _, _]) d_Mo_accepts_6 (by decide) rfl rfl ?_
  first | refine j_aload_n d_Mo_accepts_7 rfl ?_ | refine j_aload_nq d_Mo_accepts_7 rfl ?_ | refine j_aload_nN d_Mo_accepts_7 rfl ?_
  refine j_get d_Mo_accepts_8 f_Mo_84 (hM_o (by decide)) rfl ?_
  refine j_iload_n d_Mo_accepts_11 rfl ?_
  refine j_iald (t := 0) d_Mo_accepts_12 rfl (hM_o (by decide)) rfl (by omega) (by decide) ?_
  refine j_istore_n (lc' := [_, _, _, _]) d_Mo_accepts_13 (by decide) rfl rfl ?_
  first | refine j_aload_n d_Mo_accepts_14 rfl ?_ | refine j_aload_nq d_Mo_accepts_14 rfl ?_ | refine j_aload_nN d_Mo_accepts_14 rfl ?_
  refine j_get d_Mo_accepts_15 f_Mo_43 (hM_o (by decide)) rfl ?_
  refine j_iload_n d_Mo_accepts_18 rfl ?_
  refine j_iald (t := 0) d_Mo_accepts_19 rfl (hM_o (by decide)) rfl (by omega) (by decide) ?_
  first | refine c_if_eq (t := 61) d_Mo_accepts_20 (by decide) (fun c20 => ?_) (fun c20 => ?_) | refine n_if_eq (t := 61) d_Mo_accepts_20 (by decide) (by omega) (fun c20 => ?_) (fun c20 => ?_) | refine j_if_eq (t := 61) d_Mo_accepts_20 (by decide) (fun c20 => ?_) (fun c20 => ?_)
  · refine j_iconst (v := nI 0) d_Mo_accepts_61 (by decide +kernel) ?_
    exact j_zret d_Mo_accepts_62 rfl (by decide +kernel) ⟨rfl, rfl⟩
  · first | refine j_aload_n d_Mo_accepts_23 rfl ?_ | refine j_aload_nq d_Mo_accepts_23 rfl ?_ | refine j_aload_nN d_Mo_accepts_23 rfl ?_
    refine j_get d_Mo_accepts_24 f_Mo_52 (hM_o (by decide)) rfl ?_
    refine j_iload_n d_Mo_accepts_27 rfl ?_
    refine j_iald (t := 0) d_Mo_accepts_28 rfl (hM_o (by decide)) rfl (by omega) (by decide) ?_
    first | refine m_if_lt (t := 42) d_Mo_accepts_29 (by decide) (by omega) (fun c29 => ?_) (fun c29 => ?_) | refine n_if_lt (t := 42) d_Mo_accepts_29 (by decide) (by omega) (fun c29 => ?_) (fun c29 => ?_) | refine j_if_lt (t := 42) d_Mo_accepts_29 (by decide) (fun c29 => ?_) (fun c29 => ?_)
    · first | refine j_aload_n d_Mo_accepts_42 rfl ?_ | refine j_aload_nq d_Mo_accepts_42 rfl ?_ | refine j_aload_nN d_Mo_accepts_42 rfl ?_
      refine j_iload_n d_Mo_accepts_43 rfl ?_
      refine j_iload_n d_Mo_accepts_44 rfl ?_
      refine j_callV0 (As := [_, _]) G0_good G0_E d_Mo_accepts_45 c_Mo_152 rfl rfl (m_good ic p hp (ρ 1 0 (σ 11 p 0)) (by omega)) (hM_o (by decide)) rfl rfl (by decide) (Nat.le_of_ble_eq_true rfl) ?_
      rintro _ _ ⟨rfl, rfl⟩
      first | refine c_if_eq (t := 61) d_Mo_accepts_48 (by decide) (fun c48 => ?_) (fun c48 => ?_) | refine n_if_eq (t := 61) d_Mo_accepts_48 (by decide) (by omega) (fun c48 => ?_) (fun c48 => ?_) | refine j_if_eq (t := 61) d_Mo_accepts_48 (by decide) (fun c48 => ?_) (fun c48 => ?_)
      · refine j_iconst (v := nI 0) d_Mo_accepts_61 (by decide +kernel) ?_
        exact j_zret d_Mo_accepts_62 rfl (by decide +kernel) ⟨rfl, rfl⟩
      · first | refine j_aload_n d_Mo_accepts_51 rfl ?_ | refine j_aload_nq d_Mo_accepts_51 rfl ?_ | refine j_aload_nN d_Mo_accepts_51 rfl ?_
        refine j_iconst (v := nI 1) d_Mo_accepts_52 (by decide +kernel) ?_
        refine j_iload_n d_Mo_accepts_53 rfl ?_
        refine j_iload_n d_Mo_accepts_54 rfl ?_
        refine j_callV0 (As := [_, _, _]) G0_good G0_E d_Mo_accepts_55 c_Mo_155 rfl rfl (m_three 1 (σ 11 p 0) (ρ 1 0 (σ 11 p 0)) (by decide) (by omega) q1 (sv.1.1 _ (by omega))) (hM_o (by decide)) rfl rfl (by decide) (Nat.le_of_ble_eq_true rfl) ?_
        rintro _ _ ⟨rfl, rfl⟩
        first | refine c_if_ne (t := 63) d_Mo_accepts_58 (by decide) (fun c58 => ?_) (fun c58 => ?_) | refine n_if_ne (t := 63) d_Mo_accepts_58 (by decide) (by omega) (fun c58 => ?_) (fun c58 => ?_) | refine j_if_ne (t := 63) d_Mo_accepts_58 (by decide) (fun c58 => ?_) (fun c58 => ?_)
        · exfalso
          exact hz (hg5.mpr ⟨c20, by omega, c48, c58⟩)
        · refine j_iconst (v := nI 0) d_Mo_accepts_61 (by decide +kernel) ?_
          exact j_zret d_Mo_accepts_62 rfl (by decide +kernel) ⟨rfl, rfl⟩
    · first | refine j_aload_n d_Mo_accepts_32 rfl ?_ | refine j_aload_nq d_Mo_accepts_32 rfl ?_ | refine j_aload_nN d_Mo_accepts_32 rfl ?_
      refine j_get d_Mo_accepts_33 f_Mo_55 (hM_o (by decide)) rfl ?_
      refine j_iload_n d_Mo_accepts_36 rfl ?_
      refine j_iald (t := 0) d_Mo_accepts_37 rfl (hM_o (by decide)) rfl (by omega) (by decide) ?_
      refine j_iload_n d_Mo_accepts_38 rfl ?_
      first | refine nn_icmp_eq (t := 61) d_Mo_accepts_39 (by decide) (by omega) (by omega) (fun c39 => ?_) (fun c39 => ?_) | refine mm_icmp_eq (t := 61) d_Mo_accepts_39 (by decide) (by omega) (by omega) (fun c39 => ?_) (fun c39 => ?_) | refine mn_icmp_eq (t := 61) d_Mo_accepts_39 (by decide) (by omega) (by omega) (fun c39 => ?_) (fun c39 => ?_) | refine nm_icmp_eq (t := 61) d_Mo_accepts_39 (by decide) (by omega) (by omega) (fun c39 => ?_) (fun c39 => ?_) | refine j_icmp_eq (t := 61) d_Mo_accepts_39 (by decide) (fun c39 => ?_) (fun c39 => ?_)
      · refine j_iconst (v := nI 0) d_Mo_accepts_61 (by decide +kernel) ?_
        exact j_zret d_Mo_accepts_62 rfl (by decide +kernel) ⟨rfl, rfl⟩
      · first | refine j_aload_n d_Mo_accepts_42 rfl ?_ | refine j_aload_nq d_Mo_accepts_42 rfl ?_ | refine j_aload_nN d_Mo_accepts_42 rfl ?_
        refine j_iload_n d_Mo_accepts_43 rfl ?_
        refine j_iload_n d_Mo_accepts_44 rfl ?_
        refine j_callV0 (As := [_, _]) G0_good G0_E d_Mo_accepts_45 c_Mo_152 rfl rfl (m_good ic p hp (ρ 1 0 (σ 11 p 0)) (by omega)) (hM_o (by decide)) rfl rfl (by decide) (Nat.le_of_ble_eq_true rfl) ?_
        rintro _ _ ⟨rfl, rfl⟩
        first | refine c_if_eq (t := 61) d_Mo_accepts_48 (by decide) (fun c48 => ?_) (fun c48 => ?_) | refine n_if_eq (t := 61) d_Mo_accepts_48 (by decide) (by omega) (fun c48 => ?_) (fun c48 => ?_) | refine j_if_eq (t := 61) d_Mo_accepts_48 (by decide) (fun c48 => ?_) (fun c48 => ?_)
        · refine j_iconst (v := nI 0) d_Mo_accepts_61 (by decide +kernel) ?_
          exact j_zret d_Mo_accepts_62 rfl (by decide +kernel) ⟨rfl, rfl⟩
        · first | refine j_aload_n d_Mo_accepts_51 rfl ?_ | refine j_aload_nq d_Mo_accepts_51 rfl ?_ | refine j_aload_nN d_Mo_accepts_51 rfl ?_
          refine j_iconst (v := nI 1) d_Mo_accepts_52 (by decide +kernel) ?_
          refine j_iload_n d_Mo_accepts_53 rfl ?_
          refine j_iload_n d_Mo_accepts_54 rfl ?_
          refine j_callV0 (As := [_, _, _]) G0_good G0_E d_Mo_accepts_55 c_Mo_155 rfl rfl (m_three 1 (σ 11 p 0) (ρ 1 0 (σ 11 p 0)) (by decide) (by omega) q1 (sv.1.1 _ (by omega))) (hM_o (by decide)) rfl rfl (by decide) (Nat.le_of_ble_eq_true rfl) ?_
          rintro _ _ ⟨rfl, rfl⟩
          first | refine c_if_ne (t := 63) d_Mo_accepts_58 (by decide) (fun c58 => ?_) (fun c58 => ?_) | refine n_if_ne (t := 63) d_Mo_accepts_58 (by decide) (by omega) (fun c58 => ?_) (fun c58 => ?_) | refine j_if_ne (t := 63) d_Mo_accepts_58 (by decide) (fun c58 => ?_) (fun c58 => ?_)
          · exfalso
            exact hz (hg5.mpr ⟨c20, by omega, c48, c58⟩)
          · refine j_iconst (v := nI 0) d_Mo_accepts_61 (by decide +kernel) ?_
            exact j_zret d_Mo_accepts_62 rfl (by decide +kernel) ⟨rfl, rfl⟩

set_option maxHeartbeats 4000000 in
set_option maxRecDepth 100000 in
theorem m_accepts_c {l : Launch} {D : va_G} {M nx : Nat} {L : Int32} {σ ρ : Sg} {g : Nat → Option va_E} {c : Nat → Nat → Nat} (ic : Pu.Ic c σ) (p : Nat) (hp : p < 8) (hon : σ 0 p 0 = 0) (sv : SV σ p ρ) (y5 : g5 σ p) (h12 : ¬ σ 12 p 0 = 1) : jM (G0 l D) m_Mo_accepts 2 0 0 [.ref (M + 0), .int (nI p)] (hM D M L σ ρ g, nx) (fun v h => v = some (.int (nI 1)) ∧ h = (hM D M L (c5 σ p) ρ g, nx)) := by
  refine jM.of (by decide +kernel) (Nat.le_of_ble_eq_true rfl) rfl ?_
  have hb := ic.2.1
  have R := ic.1.po.rd p hp
  have b12 := ic.1.po.sp p hp
  have b13 := hb 13 p 0
  have b14 := hb 14 p 0
  have bx := ic.1.bx.bx p hp hon
  obtain ⟨p1, p2, p3⟩ := sv_prp sv bx (show σ 11 p 0 < 6 by omega)
  have b9 := ic.1.bx.b9 p (slt 0 (σ 11 p 0) (ld σ p (σ 11 p 0)))
  have b0 := ic.1.bx.b0 p (slt 0 (σ 11 p 0) (ld σ p (σ 11 p 0)))
  have c9 : prp σ p (σ 11 p 0) ≤ 33 := b9
  have c0 : prc σ p (σ 11 p 0) ≤ 6 := b0
  have q1 : ρ 1 0 (σ 11 p 0) < 33 := by omega
  have b15 := hb 15 p 0
  have b16 := hb 16 p 0
  have cd := ic.1.po.cd p hp
  have eb := bc_cq sv bx (k := 1) (r := σ 11 p 0) (x := ρ 1 0 (σ 11 p 0)) (Or.inl rfl) (by omega) q1
  have hg5 : g5 σ p ↔ (¬ σ 12 p 0 = 0 ∧ ¬ σ 16 p 0 = σ 11 p 0 + 1 ∧ gd σ p (ρ 1 0 (σ 11 p 0)) ∧ 3 ≤ bc (ρ 0 0 (198 * 1 + 33 * σ 11 p 0 + ρ 1 0 (σ 11 p 0)))) := by
    rw [eb, p1]
    unfold g5
    exact ⟨fun z => ⟨z.1, z.2.1, z.2.2.2⟩, fun z => ⟨z.1, z.2.1, fun e => z.2.2.1.1 (by omega), z.2.2⟩⟩
  have h5 := hg5.mp y5

  first | refine j_aload_n d_Mo_accepts_0 rfl ?_ | refine j_aload_nq d_Mo_accepts_0 rfl ?_ | refine j_aload_nN d_Mo_accepts_0 rfl ?_
  refine j_get d_Mo_accepts_1 f_Mo_40 (hM_o (by decide)) rfl ?_
  refine j_iload_n d_Mo_accepts_4 rfl ?_
  refine j_iald (t := 0) d_Mo_accepts_5 rfl (hM_o (by decide)) rfl (by omega) (by decide) ?_
  refine j_istore_n (lc' := [_, _, _, _]) d_Mo_accepts_6 (by decide) rfl rfl ?_
  first | refine j_aload_n d_Mo_accepts_7 rfl ?_ | refine j_aload_nq d_Mo_accepts_7 rfl ?_ | refine j_aload_nN d_Mo_accepts_7 rfl ?_
  refine j_get d_Mo_accepts_8 f_Mo_84 (hM_o (by decide)) rfl ?_
  refine j_iload_n d_Mo_accepts_11 rfl ?_
  refine j_iald (t := 0) d_Mo_accepts_12 rfl (hM_o (by decide)) rfl (by omega) (by decide) ?_
  refine j_istore_n (lc' := [_, _, _, _]) d_Mo_accepts_13 (by decide) rfl rfl ?_
  first | refine j_aload_n d_Mo_accepts_14 rfl ?_ | refine j_aload_nq d_Mo_accepts_14 rfl ?_ | refine j_aload_nN d_Mo_accepts_14 rfl ?_
  refine j_get d_Mo_accepts_15 f_Mo_43 (hM_o (by decide)) rfl ?_
  refine j_iload_n d_Mo_accepts_18 rfl ?_
  refine j_iald (t := 0) d_Mo_accepts_19 rfl (hM_o (by decide)) rfl (by omega) (by decide) ?_
  first | refine c_if_eq (t := 61) d_Mo_accepts_20 (by decide) (fun c20 => ?_) (fun c20 => ?_) | refine n_if_eq (t := 61) d_Mo_accepts_20 (by decide) (by omega) (fun c20 => ?_) (fun c20 => ?_) | refine j_if_eq (t := 61) d_Mo_accepts_20 (by decide) (fun c20 => ?_) (fun c20 => ?_)
  · exfalso; first | exact c20 | omega | exact h5.1 c20 | exact h5.2.1 c20 | exact c20 h5.2.2.1 | exact c20 h5.2.2.2
  · first | refine j_aload_n d_Mo_accepts_23 rfl ?_ | refine j_aload_nq d_Mo_accepts_23 rfl ?_ | refine j_aload_nN d_Mo_accepts_23 rfl ?_
    refine j_get d_Mo_accepts_24 f_Mo_52 (hM_o (by decide)) rfl ?_
    refine j_iload_n d_Mo_accepts_27 rfl ?_
    refine j_iald (t := 0) d_Mo_accepts_28 rfl (hM_o (by decide)) rfl (by omega) (by decide) ?_
    first | refine m_if_lt (t := 42) d_Mo_accepts_29 (by decide) (by omega) (fun c29 => ?_) (fun c29 => ?_) | refine n_if_lt (t := 42) d_Mo_accepts_29 (by decide) (by omega) (fun c29 => ?_) (fun c29 => ?_) | refine j_if_lt (t := 42) d_Mo_accepts_29 (by decide) (fun c29 => ?_) (fun c29 => ?_)
    · first | refine j_aload_n d_Mo_accepts_42 rfl ?_ | refine j_aload_nq d_Mo_accepts_42 rfl ?_ | refine j_aload_nN d_Mo_accepts_42 rfl ?_
      refine j_iload_n d_Mo_accepts_43 rfl ?_
      refine j_iload_n d_Mo_accepts_44 rfl ?_
      refine j_callV0 (As := [_, _]) G0_good G0_E d_Mo_accepts_45 c_Mo_152 rfl rfl (m_good ic p hp (ρ 1 0 (σ 11 p 0)) (by omega)) (hM_o (by decide)) rfl rfl (by decide) (Nat.le_of_ble_eq_true rfl) ?_
      rintro _ _ ⟨rfl, rfl⟩
      first | refine c_if_eq (t := 61) d_Mo_accepts_48 (by decide) (fun c48 => ?_) (fun c48 => ?_) | refine n_if_eq (t := 61) d_Mo_accepts_48 (by decide) (by omega) (fun c48 => ?_) (fun c48 => ?_) | refine j_if_eq (t := 61) d_Mo_accepts_48 (by decide) (fun c48 => ?_) (fun c48 => ?_)
      · exfalso; first | exact c48 | omega | exact h5.1 c48 | exact h5.2.1 c48 | exact c48 h5.2.2.1 | exact c48 h5.2.2.2
      · first | refine j_aload_n d_Mo_accepts_51 rfl ?_ | refine j_aload_nq d_Mo_accepts_51 rfl ?_ | refine j_aload_nN d_Mo_accepts_51 rfl ?_
        refine j_iconst (v := nI 1) d_Mo_accepts_52 (by decide +kernel) ?_
        refine j_iload_n d_Mo_accepts_53 rfl ?_
        refine j_iload_n d_Mo_accepts_54 rfl ?_
        refine j_callV0 (As := [_, _, _]) G0_good G0_E d_Mo_accepts_55 c_Mo_155 rfl rfl (m_three 1 (σ 11 p 0) (ρ 1 0 (σ 11 p 0)) (by decide) (by omega) q1 (sv.1.1 _ (by omega))) (hM_o (by decide)) rfl rfl (by decide) (Nat.le_of_ble_eq_true rfl) ?_
        rintro _ _ ⟨rfl, rfl⟩
        first | refine c_if_ne (t := 63) d_Mo_accepts_58 (by decide) (fun c58 => ?_) (fun c58 => ?_) | refine n_if_ne (t := 63) d_Mo_accepts_58 (by decide) (by omega) (fun c58 => ?_) (fun c58 => ?_) | refine j_if_ne (t := 63) d_Mo_accepts_58 (by decide) (fun c58 => ?_) (fun c58 => ?_)
        · first | refine j_aload_n d_Mo_accepts_63 rfl ?_ | refine j_aload_nq d_Mo_accepts_63 rfl ?_ | refine j_aload_nN d_Mo_accepts_63 rfl ?_
          refine j_get d_Mo_accepts_64 f_Mo_52 (hM_o (by decide)) rfl ?_
          refine j_iload_n d_Mo_accepts_67 rfl ?_
          refine j_iload_n d_Mo_accepts_68 rfl ?_
          refine j_iast (t := 0) d_Mo_accepts_69 rfl (hM_o (by decide)) rfl (by omega) (by decide) (J.hq o15 ?_)
          first | refine j_aload_n d_Mo_accepts_70 rfl ?_ | refine j_aload_nq d_Mo_accepts_70 rfl ?_ | refine j_aload_nN d_Mo_accepts_70 rfl ?_
          refine j_get d_Mo_accepts_71 f_Mo_55 (hM_o (by decide)) rfl ?_
          refine j_iload_n d_Mo_accepts_74 rfl ?_
          refine j_iload_n d_Mo_accepts_75 rfl ?_
          refine j_iast (t := 0) d_Mo_accepts_76 rfl (hM_o (by decide)) rfl (by omega) (by decide) (J.hq o16n ?_)
          rw [p1]
          have hst : U (U σ 15 p 0 (prp σ p (σ 11 p 0) - 1)) 16 p 0 (σ 11 p 0 + 1) 12 p 0 = σ 12 p 0 := by rw [U_ne (by decide), U_ne (by decide)]
          first | refine j_aload_n d_Mo_accepts_77 rfl ?_ | refine j_aload_nq d_Mo_accepts_77 rfl ?_ | refine j_aload_nN d_Mo_accepts_77 rfl ?_
          refine j_get d_Mo_accepts_78 f_Mo_43 (hM_o (by decide)) rfl ?_
          refine j_iload_n d_Mo_accepts_81 rfl ?_
          refine j_iald (t := 0) d_Mo_accepts_82 rfl (hM_o (by decide)) rfl (by omega) (by decide) ?_
          refine j_iconst (v := nI 1) d_Mo_accepts_83 (by decide +kernel) ?_
          first | refine nn_icmp_ne (t := 116) d_Mo_accepts_84 (by decide) (by omega) (by omega) (fun c84 => ?_) (fun c84 => ?_) | refine mm_icmp_ne (t := 116) d_Mo_accepts_84 (by decide) (by omega) (by omega) (fun c84 => ?_) (fun c84 => ?_) | refine mn_icmp_ne (t := 116) d_Mo_accepts_84 (by decide) (by omega) (by omega) (fun c84 => ?_) (fun c84 => ?_) | refine nm_icmp_ne (t := 116) d_Mo_accepts_84 (by decide) (by omega) (by omega) (fun c84 => ?_) (fun c84 => ?_) | refine j_icmp_ne (t := 116) d_Mo_accepts_84 (by decide) (fun c84 => ?_) (fun c84 => ?_)
          · refine j_iconst (v := nI 1) d_Mo_accepts_116 (by decide +kernel) ?_
            exact j_zret d_Mo_accepts_117 rfl (by decide +kernel) ⟨rfl, rfl⟩
          · exfalso; first | exact c84 | omega | exact h5.1 c84 | exact h5.2.1 c84 | exact c84 h5.2.2.1 | exact c84 h5.2.2.2
        · exfalso; first | exact c58 | omega | exact h5.1 c58 | exact h5.2.1 c58 | exact c58 h5.2.2.1 | exact c58 h5.2.2.2
    · first | refine j_aload_n d_Mo_accepts_32 rfl ?_ | refine j_aload_nq d_Mo_accepts_32 rfl ?_ | refine j_aload_nN d_Mo_accepts_32 rfl ?_
      refine j_get d_Mo_accepts_33 f_Mo_55 (hM_o (by decide)) rfl ?_
      refine j_iload_n d_Mo_accepts_36 rfl ?_
      refine j_iald (t := 0) d_Mo_accepts_37 rfl (hM_o (by decide)) rfl (by omega) (by decide) ?_
      refine j_iload_n d_Mo_accepts_38 rfl ?_
      first | refine nn_icmp_eq (t := 61) d_Mo_accepts_39 (by decide) (by omega) (by omega) (fun c39 => ?_) (fun c39 => ?_) | refine mm_icmp_eq (t := 61) d_Mo_accepts_39 (by decide) (by omega) (by omega) (fun c39 => ?_) (fun c39 => ?_) | refine mn_icmp_eq (t := 61) d_Mo_accepts_39 (by decide) (by omega) (by omega) (fun c39 => ?_) (fun c39 => ?_) | refine nm_icmp_eq (t := 61) d_Mo_accepts_39 (by decide) (by omega) (by omega) (fun c39 => ?_) (fun c39 => ?_) | refine j_icmp_eq (t := 61) d_Mo_accepts_39 (by decide) (fun c39 => ?_) (fun c39 => ?_)
      · exfalso; first | exact c39 | omega | exact h5.1 c39 | exact h5.2.1 c39 | exact c39 h5.2.2.1 | exact c39 h5.2.2.2
      · first | refine j_aload_n d_Mo_accepts_42 rfl ?_ | refine j_aload_nq d_Mo_accepts_42 rfl ?_ | refine j_aload_nN d_Mo_accepts_42 rfl ?_
        refine j_iload_n d_Mo_accepts_43 rfl ?_
        refine j_iload_n d_Mo_accepts_44 rfl ?_
        refine j_callV0 (As := [_, _]) G0_good G0_E d_Mo_accepts_45 c_Mo_152 rfl rfl (m_good ic p hp (ρ 1 0 (σ 11 p 0)) (by omega)) (hM_o (by decide)) rfl rfl (by decide) (Nat.le_of_ble_eq_true rfl) ?_
        rintro _ _ ⟨rfl, rfl⟩
        first | refine c_if_eq (t := 61) d_Mo_accepts_48 (by decide) (fun c48 => ?_) (fun c48 => ?_) | refine n_if_eq (t := 61) d_Mo_accepts_48 (by decide) (by omega) (fun c48 => ?_) (fun c48 => ?_) | refine j_if_eq (t := 61) d_Mo_accepts_48 (by decide) (fun c48 => ?_) (fun c48 => ?_)
        · exfalso; first | exact c48 | omega | exact h5.1 c48 | exact h5.2.1 c48 | exact c48 h5.2.2.1 | exact c48 h5.2.2.2
        · first | refine j_aload_n d_Mo_accepts_51 rfl ?_ | refine j_aload_nq d_Mo_accepts_51 rfl ?_ | refine j_aload_nN d_Mo_accepts_51 rfl ?_
          refine j_iconst (v := nI 1) d_Mo_accepts_52 (by decide +kernel) ?_
          refine j_iload_n d_Mo_accepts_53 rfl ?_
          refine j_iload_n d_Mo_accepts_54 rfl ?_
          refine j_callV0 (As := [_, _, _]) G0_good G0_E d_Mo_accepts_55 c_Mo_155 rfl rfl (m_three 1 (σ 11 p 0) (ρ 1 0 (σ 11 p 0)) (by decide) (by omega) q1 (sv.1.1 _ (by omega))) (hM_o (by decide)) rfl rfl (by decide) (Nat.le_of_ble_eq_true rfl) ?_
          rintro _ _ ⟨rfl, rfl⟩
          first | refine c_if_ne (t := 63) d_Mo_accepts_58 (by decide) (fun c58 => ?_) (fun c58 => ?_) | refine n_if_ne (t := 63) d_Mo_accepts_58 (by decide) (by omega) (fun c58 => ?_) (fun c58 => ?_) | refine j_if_ne (t := 63) d_Mo_accepts_58 (by decide) (fun c58 => ?_) (fun c58 => ?_)
          · first | refine j_aload_n d_Mo_accepts_63 rfl ?_ | refine j_aload_nq d_Mo_accepts_63 rfl ?_ | refine j_aload_nN d_Mo_accepts_63 rfl ?_
            refine j_get d_Mo_accepts_64 f_Mo_52 (hM_o (by decide)) rfl ?_
            refine j_iload_n d_Mo_accepts_67 rfl ?_
            refine j_iload_n d_Mo_accepts_68 rfl ?_
            refine j_iast (t := 0) d_Mo_accepts_69 rfl (hM_o (by decide)) rfl (by omega) (by decide) (J.hq o15 ?_)
            first | refine j_aload_n d_Mo_accepts_70 rfl ?_ | refine j_aload_nq d_Mo_accepts_70 rfl ?_ | refine j_aload_nN d_Mo_accepts_70 rfl ?_
            refine j_get d_Mo_accepts_71 f_Mo_55 (hM_o (by decide)) rfl ?_
            refine j_iload_n d_Mo_accepts_74 rfl ?_
            refine j_iload_n d_Mo_accepts_75 rfl ?_
            refine j_iast (t := 0) d_Mo_accepts_76 rfl (hM_o (by decide)) rfl (by omega) (by decide) (J.hq o16n ?_)
            rw [p1]
            have hst : U (U σ 15 p 0 (prp σ p (σ 11 p 0) - 1)) 16 p 0 (σ 11 p 0 + 1) 12 p 0 = σ 12 p 0 := by rw [U_ne (by decide), U_ne (by decide)]
            first | refine j_aload_n d_Mo_accepts_77 rfl ?_ | refine j_aload_nq d_Mo_accepts_77 rfl ?_ | refine j_aload_nN d_Mo_accepts_77 rfl ?_
            refine j_get d_Mo_accepts_78 f_Mo_43 (hM_o (by decide)) rfl ?_
            refine j_iload_n d_Mo_accepts_81 rfl ?_
            refine j_iald (t := 0) d_Mo_accepts_82 rfl (hM_o (by decide)) rfl (by omega) (by decide) ?_
            refine j_iconst (v := nI 1) d_Mo_accepts_83 (by decide +kernel) ?_
            first | refine nn_icmp_ne (t := 116) d_Mo_accepts_84 (by decide) (by omega) (by omega) (fun c84 => ?_) (fun c84 => ?_) | refine mm_icmp_ne (t := 116) d_Mo_accepts_84 (by decide) (by omega) (by omega) (fun c84 => ?_) (fun c84 => ?_) | refine mn_icmp_ne (t := 116) d_Mo_accepts_84 (by decide) (by omega) (by omega) (fun c84 => ?_) (fun c84 => ?_) | refine nm_icmp_ne (t := 116) d_Mo_accepts_84 (by decide) (by omega) (by omega) (fun c84 => ?_) (fun c84 => ?_) | refine j_icmp_ne (t := 116) d_Mo_accepts_84 (by decide) (fun c84 => ?_) (fun c84 => ?_)
            · refine j_iconst (v := nI 1) d_Mo_accepts_116 (by decide +kernel) ?_
              exact j_zret d_Mo_accepts_117 rfl (by decide +kernel) ⟨rfl, rfl⟩
            · exfalso; first | exact c84 | omega | exact h5.1 c84 | exact h5.2.1 c84 | exact c84 h5.2.2.1 | exact c84 h5.2.2.2
          · exfalso; first | exact c58 | omega | exact h5.1 c58 | exact h5.2.1 c58 | exact c58 h5.2.2.1 | exact c58 h5.2.2.2

set_option maxHeartbeats 4000000 in
set_option maxRecDepth 100000 in
theorem m_accepts_s {l : Launch} {D : va_G} {M nx : Nat} {L : Int32} {σ ρ : Sg} {g : Nat → Option va_E} {c : Nat → Nat → Nat} (ic : Pu.Ic c σ) (p : Nat) (hp : p < 8) (hon : σ 0 p 0 = 0) (sv : SV σ p ρ) (y5 : g5 σ p) (h12 : σ 12 p 0 = 1) : jM (G0 l D) m_Mo_accepts 2 0 0 [.ref (M + 0), .int (nI p)] (hM D M L σ ρ g, nx) (fun v h => v = some (.int (nI 1)) ∧ h = (hM D M L (s5 σ p) ρ g, nx)) := by
  refine jM.of (by decide +kernel) (Nat.le_of_ble_eq_true rfl) rfl ?_
  have hb := ic.2.1
  have R := ic.1.po.rd p hp
  have b12 := ic.1.po.sp p hp
  have b13 := hb 13 p 0
  have b14 := hb 14 p 0
  have bx := ic.1.bx.bx p hp hon
  obtain ⟨p1, p2, p3⟩ := sv_prp sv bx (show σ 11 p 0 < 6 by omega)
  have b9 := ic.1.bx.b9 p (slt 0 (σ 11 p 0) (ld σ p (σ 11 p 0)))
  have b0 := ic.1.bx.b0 p (slt 0 (σ 11 p 0) (ld σ p (σ 11 p 0)))
  have c9 : prp σ p (σ 11 p 0) ≤ 33 := b9
  have c0 : prc σ p (σ 11 p 0) ≤ 6 := b0
  have q1 : ρ 1 0 (σ 11 p 0) < 33 := by omega
  have b15 := hb 15 p 0
  have b16 := hb 16 p 0
  have cd := ic.1.po.cd p hp
  have eb := bc_cq sv bx (k := 1) (r := σ 11 p 0) (x := ρ 1 0 (σ 11 p 0)) (Or.inl rfl) (by omega) q1
  have hg5 : g5 σ p ↔ (¬ σ 12 p 0 = 0 ∧ ¬ σ 16 p 0 = σ 11 p 0 + 1 ∧ gd σ p (ρ 1 0 (σ 11 p 0)) ∧ 3 ≤ bc (ρ 0 0 (198 * 1 + 33 * σ 11 p 0 + ρ 1 0 (σ 11 p 0)))) := by
    rw [eb, p1]
    unfold g5
    exact ⟨fun z => ⟨z.1, z.2.1, z.2.2.2⟩, fun z => ⟨z.1, z.2.1, fun e => z.2.2.1.1 (by omega), z.2.2⟩⟩
  have h5 := hg5.mp y5
  have hbk : bd (k5 σ p) := Pu.bd_U (Pu.bd_U (Pu.bd_U (Pu.bd_U hb (by omega)) (by omega)) (by omega)) (by omega)
  have h918 : k5 σ p 20 (p / 4) 0 < 918 := by rw [Pu.k5_ne (by omega)]; exact (Pu.ok_Rq ic.1 hb hp).2.2.2.2.2.2.1 (Or.inr (Or.inr (Or.inl ⟨y5, h12⟩)))

  first | refine j_aload_n d_Mo_accepts_0 rfl ?_ | refine j_aload_nq d_Mo_accepts_0 rfl ?_ | refine j_aload_nN d_Mo_accepts_0 rfl ?_
  refine j_get d_Mo_accepts_1 f_Mo_40 (hM_o (by decide)) rfl ?_
  refine j_iload_n d_Mo_accepts_4 rfl ?_
  refine j_iald (t := 0) d_Mo_accepts_5 rfl (hM_o (by decide)) rfl (by omega) (by decide) ?_
  refine j_istore_n (lc' := [_, _, _, _]) d_Mo_accepts_6 (by decide) rfl rfl ?_
  first | refine j_aload_n d_Mo_accepts_7 rfl ?_ | refine j_aload_nq d_Mo_accepts_7 rfl ?_ | refine j_aload_nN d_Mo_accepts_7 rfl ?_
  refine j_get d_Mo_accepts_8 f_Mo_84 (hM_o (by decide)) rfl ?_
  refine j_iload_n d_Mo_accepts_11 rfl ?_
  refine j_iald (t := 0) d_Mo_accepts_12 rfl (hM_o (by decide)) rfl (by omega) (by decide) ?_
  refine j_istore_n (lc' := [_, _, _, _]) d_Mo_accepts_13 (by decide) rfl rfl ?_
  first | refine j_aload_n d_Mo_accepts_14 rfl ?_ | refine j_aload_nq d_Mo_accepts_14 rfl ?_ | refine j_aload_nN d_Mo_accepts_14 rfl ?_
  refine j_get d_Mo_accepts_15 f_Mo_43 (hM_o (by decide)) rfl ?_
  refine j_iload_n d_Mo_accepts_18 rfl ?_
  refine j_iald (t := 0) d_Mo_accepts_19 rfl (hM_o (by decide)) rfl (by omega) (by decide) ?_
  first | refine c_if_eq (t := 61) d_Mo_accepts_20 (by decide) (fun c20 => ?_) (fun c20 => ?_) | refine n_if_eq (t := 61) d_Mo_accepts_20 (by decide) (by omega) (fun c20 => ?_) (fun c20 => ?_) | refine j_if_eq (t := 61) d_Mo_accepts_20 (by decide) (fun c20 => ?_) (fun c20 => ?_)
  · exfalso; first | exact c20 | omega | exact h5.1 c20 | exact h5.2.1 c20 | exact c20 h5.2.2.1 | exact c20 h5.2.2.2
  · first | refine j_aload_n d_Mo_accepts_23 rfl ?_ | refine j_aload_nq d_Mo_accepts_23 rfl ?_ | refine j_aload_nN d_Mo_accepts_23 rfl ?_
    refine j_get d_Mo_accepts_24 f_Mo_52 (hM_o (by decide)) rfl ?_
    refine j_iload_n d_Mo_accepts_27 rfl ?_
    refine j_iald (t := 0) d_Mo_accepts_28 rfl (hM_o (by decide)) rfl (by omega) (by decide) ?_
    first | refine m_if_lt (t := 42) d_Mo_accepts_29 (by decide) (by omega) (fun c29 => ?_) (fun c29 => ?_) | refine n_if_lt (t := 42) d_Mo_accepts_29 (by decide) (by omega) (fun c29 => ?_) (fun c29 => ?_) | refine j_if_lt (t := 42) d_Mo_accepts_29 (by decide) (fun c29 => ?_) (fun c29 => ?_)
    · first | refine j_aload_n d_Mo_accepts_42 rfl ?_ | refine j_aload_nq d_Mo_accepts_42 rfl ?_ | refine j_aload_nN d_Mo_accepts_42 rfl ?_
      refine j_iload_n d_Mo_accepts_43 rfl ?_
      refine j_iload_n d_Mo_accepts_44 rfl ?_
      refine j_callV0 (As := [_, _]) G0_good G0_E d_Mo_accepts_45 c_Mo_152 rfl rfl (m_good ic p hp (ρ 1 0 (σ 11 p 0)) (by omega)) (hM_o (by decide)) rfl rfl (by decide) (Nat.le_of_ble_eq_true rfl) ?_
      rintro _ _ ⟨rfl, rfl⟩
      first | refine c_if_eq (t := 61) d_Mo_accepts_48 (by decide) (fun c48 => ?_) (fun c48 => ?_) | refine n_if_eq (t := 61) d_Mo_accepts_48 (by decide) (by omega) (fun c48 => ?_) (fun c48 => ?_) | refine j_if_eq (t := 61) d_Mo_accepts_48 (by decide) (fun c48 => ?_) (fun c48 => ?_)
      · exfalso; first | exact c48 | omega | exact h5.1 c48 | exact h5.2.1 c48 | exact c48 h5.2.2.1 | exact c48 h5.2.2.2
      · first | refine j_aload_n d_Mo_accepts_51 rfl ?_ | refine j_aload_nq d_Mo_accepts_51 rfl ?_ | refine j_aload_nN d_Mo_accepts_51 rfl ?_
        refine j_iconst (v := nI 1) d_Mo_accepts_52 (by decide +kernel) ?_
        refine j_iload_n d_Mo_accepts_53 rfl ?_
        refine j_iload_n d_Mo_accepts_54 rfl ?_
        refine j_callV0 (As := [_, _, _]) G0_good G0_E d_Mo_accepts_55 c_Mo_155 rfl rfl (m_three 1 (σ 11 p 0) (ρ 1 0 (σ 11 p 0)) (by decide) (by omega) q1 (sv.1.1 _ (by omega))) (hM_o (by decide)) rfl rfl (by decide) (Nat.le_of_ble_eq_true rfl) ?_
        rintro _ _ ⟨rfl, rfl⟩
        first | refine c_if_ne (t := 63) d_Mo_accepts_58 (by decide) (fun c58 => ?_) (fun c58 => ?_) | refine n_if_ne (t := 63) d_Mo_accepts_58 (by decide) (by omega) (fun c58 => ?_) (fun c58 => ?_) | refine j_if_ne (t := 63) d_Mo_accepts_58 (by decide) (fun c58 => ?_) (fun c58 => ?_)
        · first | refine j_aload_n d_Mo_accepts_63 rfl ?_ | refine j_aload_nq d_Mo_accepts_63 rfl ?_ | refine j_aload_nN d_Mo_accepts_63 rfl ?_
          refine j_get d_Mo_accepts_64 f_Mo_52 (hM_o (by decide)) rfl ?_
          refine j_iload_n d_Mo_accepts_67 rfl ?_
          refine j_iload_n d_Mo_accepts_68 rfl ?_
          refine j_iast (t := 0) d_Mo_accepts_69 rfl (hM_o (by decide)) rfl (by omega) (by decide) (J.hq o15 ?_)
          first | refine j_aload_n d_Mo_accepts_70 rfl ?_ | refine j_aload_nq d_Mo_accepts_70 rfl ?_ | refine j_aload_nN d_Mo_accepts_70 rfl ?_
          refine j_get d_Mo_accepts_71 f_Mo_55 (hM_o (by decide)) rfl ?_
          refine j_iload_n d_Mo_accepts_74 rfl ?_
          refine j_iload_n d_Mo_accepts_75 rfl ?_
          refine j_iast (t := 0) d_Mo_accepts_76 rfl (hM_o (by decide)) rfl (by omega) (by decide) (J.hq o16n ?_)
          rw [p1]
          have hst : U (U σ 15 p 0 (prp σ p (σ 11 p 0) - 1)) 16 p 0 (σ 11 p 0 + 1) 12 p 0 = σ 12 p 0 := by rw [U_ne (by decide), U_ne (by decide)]
          first | refine j_aload_n d_Mo_accepts_77 rfl ?_ | refine j_aload_nq d_Mo_accepts_77 rfl ?_ | refine j_aload_nN d_Mo_accepts_77 rfl ?_
          refine j_get d_Mo_accepts_78 f_Mo_43 (hM_o (by decide)) rfl ?_
          refine j_iload_n d_Mo_accepts_81 rfl ?_
          refine j_iald (t := 0) d_Mo_accepts_82 rfl (hM_o (by decide)) rfl (by omega) (by decide) ?_
          refine j_iconst (v := nI 1) d_Mo_accepts_83 (by decide +kernel) ?_
          first | refine nn_icmp_ne (t := 116) d_Mo_accepts_84 (by decide) (by omega) (by omega) (fun c84 => ?_) (fun c84 => ?_) | refine mm_icmp_ne (t := 116) d_Mo_accepts_84 (by decide) (by omega) (by omega) (fun c84 => ?_) (fun c84 => ?_) | refine mn_icmp_ne (t := 116) d_Mo_accepts_84 (by decide) (by omega) (by omega) (fun c84 => ?_) (fun c84 => ?_) | refine nm_icmp_ne (t := 116) d_Mo_accepts_84 (by decide) (by omega) (by omega) (fun c84 => ?_) (fun c84 => ?_) | refine j_icmp_ne (t := 116) d_Mo_accepts_84 (by decide) (fun c84 => ?_) (fun c84 => ?_)
          · exfalso; first | exact c84 | omega | exact h5.1 c84 | exact h5.2.1 c84 | exact c84 h5.2.2.1 | exact c84 h5.2.2.2
          · first | refine j_aload_n d_Mo_accepts_87 rfl ?_ | refine j_aload_nq d_Mo_accepts_87 rfl ?_ | refine j_aload_nN d_Mo_accepts_87 rfl ?_
            refine j_get d_Mo_accepts_88 f_Mo_46 (hM_o (by decide)) rfl ?_
            refine j_iload_n d_Mo_accepts_91 rfl ?_
            refine j_iload_n d_Mo_accepts_92 rfl ?_
            refine j_iast (t := 0) d_Mo_accepts_93 rfl (hM_o (by decide)) rfl (by omega) (by decide) (J.hq o13 ?_)
            first | refine j_aload_n d_Mo_accepts_94 rfl ?_ | refine j_aload_nq d_Mo_accepts_94 rfl ?_ | refine j_aload_nN d_Mo_accepts_94 rfl ?_
            refine j_get d_Mo_accepts_95 f_Mo_49 (hM_o (by decide)) rfl ?_
            refine j_iload_n d_Mo_accepts_98 rfl ?_
            refine j_iload_n d_Mo_accepts_99 rfl ?_
            refine j_iast (t := 0) d_Mo_accepts_100 rfl (hM_o (by decide)) rfl (by omega) (by decide) (J.hq o14n ?_)
            first | refine j_aload_n d_Mo_accepts_101 rfl ?_ | refine j_aload_nq d_Mo_accepts_101 rfl ?_ | refine j_aload_nN d_Mo_accepts_101 rfl ?_
            refine j_iload_n d_Mo_accepts_102 rfl ?_
            refine j_iconst (v := nI 2) d_Mo_accepts_103 (by decide +kernel) ?_
            refine j_iload_n d_Mo_accepts_104 rfl ?_
            refine j_iconst (v := mI 0) d_Mo_accepts_105 (by decide +kernel) ?_
            refine j_callV0 (As := [_, _, _, _]) G0_good G0_E d_Mo_accepts_106 c_Mo_166 rfl rfl (m_send hbk p hp h918 2 (prp σ p (σ 11 p 0) - 1) 0 (by decide) (by omega) (by omega)) (hM_o (by decide)) rfl rfl (by decide) (Nat.le_of_ble_eq_true rfl) ?_
            rintro _ _ ⟨rfl, rfl⟩
            first | refine j_aload_n d_Mo_accepts_109 rfl ?_ | refine j_aload_nq d_Mo_accepts_109 rfl ?_ | refine j_aload_nN d_Mo_accepts_109 rfl ?_
            refine j_get d_Mo_accepts_110 f_Mo_43 (hM_o (by decide)) rfl ?_
            refine j_iload_n d_Mo_accepts_113 rfl ?_
            refine j_iconst (v := nI 2) d_Mo_accepts_114 (by decide +kernel) ?_
            refine j_iast (t := 0) d_Mo_accepts_115 rfl (hM_o (by decide)) rfl (by omega) (by decide) (J.hq o12 ?_)
            refine j_iconst (v := nI 1) d_Mo_accepts_116 (by decide +kernel) ?_
            exact j_zret d_Mo_accepts_117 rfl (by decide +kernel) ⟨rfl, rfl⟩
        · exfalso; first | exact c58 | omega | exact h5.1 c58 | exact h5.2.1 c58 | exact c58 h5.2.2.1 | exact c58 h5.2.2.2
    · first | refine j_aload_n d_Mo_accepts_32 rfl ?_ | refine j_aload_nq d_Mo_accepts_32 rfl ?_ | refine j_aload_nN d_Mo_accepts_32 rfl ?_
      refine j_get d_Mo_accepts_33 f_Mo_55 (hM_o (by decide)) rfl ?_
      refine j_iload_n d_Mo_accepts_36 rfl ?_
      refine j_iald (t := 0) d_Mo_accepts_37 rfl (hM_o (by decide)) rfl (by omega) (by decide) ?_
      refine j_iload_n d_Mo_accepts_38 rfl ?_
      first | refine nn_icmp_eq (t := 61) d_Mo_accepts_39 (by decide) (by omega) (by omega) (fun c39 => ?_) (fun c39 => ?_) | refine mm_icmp_eq (t := 61) d_Mo_accepts_39 (by decide) (by omega) (by omega) (fun c39 => ?_) (fun c39 => ?_) | refine mn_icmp_eq (t := 61) d_Mo_accepts_39 (by decide) (by omega) (by omega) (fun c39 => ?_) (fun c39 => ?_) | refine nm_icmp_eq (t := 61) d_Mo_accepts_39 (by decide) (by omega) (by omega) (fun c39 => ?_) (fun c39 => ?_) | refine j_icmp_eq (t := 61) d_Mo_accepts_39 (by decide) (fun c39 => ?_) (fun c39 => ?_)
      · exfalso; first | exact c39 | omega | exact h5.1 c39 | exact h5.2.1 c39 | exact c39 h5.2.2.1 | exact c39 h5.2.2.2
      · first | refine j_aload_n d_Mo_accepts_42 rfl ?_ | refine j_aload_nq d_Mo_accepts_42 rfl ?_ | refine j_aload_nN d_Mo_accepts_42 rfl ?_
        refine j_iload_n d_Mo_accepts_43 rfl ?_
        refine j_iload_n d_Mo_accepts_44 rfl ?_
        refine j_callV0 (As := [_, _]) G0_good G0_E d_Mo_accepts_45 c_Mo_152 rfl rfl (m_good ic p hp (ρ 1 0 (σ 11 p 0)) (by omega)) (hM_o (by decide)) rfl rfl (by decide) (Nat.le_of_ble_eq_true rfl) ?_
        rintro _ _ ⟨rfl, rfl⟩
        first | refine c_if_eq (t := 61) d_Mo_accepts_48 (by decide) (fun c48 => ?_) (fun c48 => ?_) | refine n_if_eq (t := 61) d_Mo_accepts_48 (by decide) (by omega) (fun c48 => ?_) (fun c48 => ?_) | refine j_if_eq (t := 61) d_Mo_accepts_48 (by decide) (fun c48 => ?_) (fun c48 => ?_)
        · exfalso; first | exact c48 | omega | exact h5.1 c48 | exact h5.2.1 c48 | exact c48 h5.2.2.1 | exact c48 h5.2.2.2
        · first | refine j_aload_n d_Mo_accepts_51 rfl ?_ | refine j_aload_nq d_Mo_accepts_51 rfl ?_ | refine j_aload_nN d_Mo_accepts_51 rfl ?_
          refine j_iconst (v := nI 1) d_Mo_accepts_52 (by decide +kernel) ?_
          refine j_iload_n d_Mo_accepts_53 rfl ?_
          refine j_iload_n d_Mo_accepts_54 rfl ?_
          refine j_callV0 (As := [_, _, _]) G0_good G0_E d_Mo_accepts_55 c_Mo_155 rfl rfl (m_three 1 (σ 11 p 0) (ρ 1 0 (σ 11 p 0)) (by decide) (by omega) q1 (sv.1.1 _ (by omega))) (hM_o (by decide)) rfl rfl (by decide) (Nat.le_of_ble_eq_true rfl) ?_
          rintro _ _ ⟨rfl, rfl⟩
          first | refine c_if_ne (t := 63) d_Mo_accepts_58 (by decide) (fun c58 => ?_) (fun c58 => ?_) | refine n_if_ne (t := 63) d_Mo_accepts_58 (by decide) (by omega) (fun c58 => ?_) (fun c58 => ?_) | refine j_if_ne (t := 63) d_Mo_accepts_58 (by decide) (fun c58 => ?_) (fun c58 => ?_)
          · first | refine j_aload_n d_Mo_accepts_63 rfl ?_ | refine j_aload_nq d_Mo_accepts_63 rfl ?_ | refine j_aload_nN d_Mo_accepts_63 rfl ?_
            refine j_get d_Mo_accepts_64 f_Mo_52 (hM_o (by decide)) rfl ?_
            refine j_iload_n d_Mo_accepts_67 rfl ?_
            refine j_iload_n d_Mo_accepts_68 rfl ?_
            refine j_iast (t := 0) d_Mo_accepts_69 rfl (hM_o (by decide)) rfl (by omega) (by decide) (J.hq o15 ?_)
            first | refine j_aload_n d_Mo_accepts_70 rfl ?_ | refine j_aload_nq d_Mo_accepts_70 rfl ?_ | refine j_aload_nN d_Mo_accepts_70 rfl ?_
            refine j_get d_Mo_accepts_71 f_Mo_55 (hM_o (by decide)) rfl ?_
            refine j_iload_n d_Mo_accepts_74 rfl ?_
            refine j_iload_n d_Mo_accepts_75 rfl ?_
            refine j_iast (t := 0) d_Mo_accepts_76 rfl (hM_o (by decide)) rfl (by omega) (by decide) (J.hq o16n ?_)
            rw [p1]
            have hst : U (U σ 15 p 0 (prp σ p (σ 11 p 0) - 1)) 16 p 0 (σ 11 p 0 + 1) 12 p 0 = σ 12 p 0 := by rw [U_ne (by decide), U_ne (by decide)]
            first | refine j_aload_n d_Mo_accepts_77 rfl ?_ | refine j_aload_nq d_Mo_accepts_77 rfl ?_ | refine j_aload_nN d_Mo_accepts_77 rfl ?_
            refine j_get d_Mo_accepts_78 f_Mo_43 (hM_o (by decide)) rfl ?_
            refine j_iload_n d_Mo_accepts_81 rfl ?_
            refine j_iald (t := 0) d_Mo_accepts_82 rfl (hM_o (by decide)) rfl (by omega) (by decide) ?_
            refine j_iconst (v := nI 1) d_Mo_accepts_83 (by decide +kernel) ?_
            first | refine nn_icmp_ne (t := 116) d_Mo_accepts_84 (by decide) (by omega) (by omega) (fun c84 => ?_) (fun c84 => ?_) | refine mm_icmp_ne (t := 116) d_Mo_accepts_84 (by decide) (by omega) (by omega) (fun c84 => ?_) (fun c84 => ?_) | refine mn_icmp_ne (t := 116) d_Mo_accepts_84 (by decide) (by omega) (by omega) (fun c84 => ?_) (fun c84 => ?_) | refine nm_icmp_ne (t := 116) d_Mo_accepts_84 (by decide) (by omega) (by omega) (fun c84 => ?_) (fun c84 => ?_) | refine j_icmp_ne (t := 116) d_Mo_accepts_84 (by decide) (fun c84 => ?_) (fun c84 => ?_)
            · exfalso; first | exact c84 | omega | exact h5.1 c84 | exact h5.2.1 c84 | exact c84 h5.2.2.1 | exact c84 h5.2.2.2
            · first | refine j_aload_n d_Mo_accepts_87 rfl ?_ | refine j_aload_nq d_Mo_accepts_87 rfl ?_ | refine j_aload_nN d_Mo_accepts_87 rfl ?_
              refine j_get d_Mo_accepts_88 f_Mo_46 (hM_o (by decide)) rfl ?_
              refine j_iload_n d_Mo_accepts_91 rfl ?_
              refine j_iload_n d_Mo_accepts_92 rfl ?_
              refine j_iast (t := 0) d_Mo_accepts_93 rfl (hM_o (by decide)) rfl (by omega) (by decide) (J.hq o13 ?_)
              first | refine j_aload_n d_Mo_accepts_94 rfl ?_ | refine j_aload_nq d_Mo_accepts_94 rfl ?_ | refine j_aload_nN d_Mo_accepts_94 rfl ?_
              refine j_get d_Mo_accepts_95 f_Mo_49 (hM_o (by decide)) rfl ?_
              refine j_iload_n d_Mo_accepts_98 rfl ?_
              refine j_iload_n d_Mo_accepts_99 rfl ?_
              refine j_iast (t := 0) d_Mo_accepts_100 rfl (hM_o (by decide)) rfl (by omega) (by decide) (J.hq o14n ?_)
              first | refine j_aload_n d_Mo_accepts_101 rfl ?_ | refine j_aload_nq d_Mo_accepts_101 rfl ?_ | refine j_aload_nN d_Mo_accepts_101 rfl ?_
              refine j_iload_n d_Mo_accepts_102 rfl ?_
              refine j_iconst (v := nI 2) d_Mo_accepts_103 (by decide +kernel) ?_
              refine j_iload_n d_Mo_accepts_104 rfl ?_
              refine j_iconst (v := mI 0) d_Mo_accepts_105 (by decide +kernel) ?_
              refine j_callV0 (As := [_, _, _, _]) G0_good G0_E d_Mo_accepts_106 c_Mo_166 rfl rfl (m_send hbk p hp h918 2 (prp σ p (σ 11 p 0) - 1) 0 (by decide) (by omega) (by omega)) (hM_o (by decide)) rfl rfl (by decide) (Nat.le_of_ble_eq_true rfl) ?_
              rintro _ _ ⟨rfl, rfl⟩
              first | refine j_aload_n d_Mo_accepts_109 rfl ?_ | refine j_aload_nq d_Mo_accepts_109 rfl ?_ | refine j_aload_nN d_Mo_accepts_109 rfl ?_
              refine j_get d_Mo_accepts_110 f_Mo_43 (hM_o (by decide)) rfl ?_
              refine j_iload_n d_Mo_accepts_113 rfl ?_
              refine j_iconst (v := nI 2) d_Mo_accepts_114 (by decide +kernel) ?_
              refine j_iast (t := 0) d_Mo_accepts_115 rfl (hM_o (by decide)) rfl (by omega) (by decide) (J.hq o12 ?_)
              refine j_iconst (v := nI 1) d_Mo_accepts_116 (by decide +kernel) ?_
              exact j_zret d_Mo_accepts_117 rfl (by decide +kernel) ⟨rfl, rfl⟩
          · exfalso; first | exact c58 | omega | exact h5.1 c58 | exact h5.2.1 c58 | exact c58 h5.2.2.1 | exact c58 h5.2.2.2

set_option maxHeartbeats 4000000 in
set_option maxRecDepth 100000 in
theorem m_skips_f {l : Launch} {D : va_G} {M nx : Nat} {L : Int32} {σ ρ : Sg} {g : Nat → Option va_E} {c : Nat → Nat → Nat} (ic : Pu.Ic c σ) (p : Nat) (hp : p < 8) (hon : σ 0 p 0 = 0) (sv : SV σ p ρ) (hz : ¬ g6 σ p) : jM (G0 l D) m_Mo_skips 2 0 0 [.ref (M + 0), .int (nI p)] (hM D M L σ ρ g, nx) (fun v h => v = some (.int (nI 0)) ∧ h = (hM D M L σ ρ g, nx)) := by
  refine jM.of (by decide +kernel) (Nat.le_of_ble_eq_true rfl) rfl ?_
  have hb := ic.2.1
  have R := ic.1.po.rd p hp
  have b12 := ic.1.po.sp p hp
  have bx := ic.1.bx.bx p hp hon
  have eb := bc_cq sv bx (k := 1) (r := σ 11 p 0) (x := 0) (Or.inl rfl) (by omega) (by omega)

  first | refine j_aload_n d_Mo_skips_0 rfl ?_ | refine j_aload_nq d_Mo_skips_0 rfl ?_ | refine j_aload_nN d_Mo_skips_0 rfl ?_
  refine j_get d_Mo_skips_1 f_Mo_43 (hM_o (by decide)) rfl ?_
  refine j_iload_n d_Mo_skips_4 rfl ?_
  refine j_iald (t := 0) d_Mo_skips_5 rfl (hM_o (by decide)) rfl (by omega) (by decide) ?_
  refine j_iconst (v := nI 1) d_Mo_skips_6 (by decide +kernel) ?_
  first | refine nn_icmp_ne (t := 25) d_Mo_skips_7 (by decide) (by omega) (by omega) (fun c7 => ?_) (fun c7 => ?_) | refine mm_icmp_ne (t := 25) d_Mo_skips_7 (by decide) (by omega) (by omega) (fun c7 => ?_) (fun c7 => ?_) | refine mn_icmp_ne (t := 25) d_Mo_skips_7 (by decide) (by omega) (by omega) (fun c7 => ?_) (fun c7 => ?_) | refine nm_icmp_ne (t := 25) d_Mo_skips_7 (by decide) (by omega) (by omega) (fun c7 => ?_) (fun c7 => ?_) | refine j_icmp_ne (t := 25) d_Mo_skips_7 (by decide) (fun c7 => ?_) (fun c7 => ?_)
  · refine j_iconst (v := nI 0) d_Mo_skips_25 (by decide +kernel) ?_
    exact j_zret d_Mo_skips_26 rfl (by decide +kernel) ⟨rfl, rfl⟩
  · first | refine j_aload_n d_Mo_skips_10 rfl ?_ | refine j_aload_nq d_Mo_skips_10 rfl ?_ | refine j_aload_nN d_Mo_skips_10 rfl ?_
    refine j_iconst (v := nI 1) d_Mo_skips_11 (by decide +kernel) ?_
    first | refine j_aload_n d_Mo_skips_12 rfl ?_ | refine j_aload_nq d_Mo_skips_12 rfl ?_ | refine j_aload_nN d_Mo_skips_12 rfl ?_
    refine j_get d_Mo_skips_13 f_Mo_40 (hM_o (by decide)) rfl ?_
    refine j_iload_n d_Mo_skips_16 rfl ?_
    refine j_iald (t := 0) d_Mo_skips_17 rfl (hM_o (by decide)) rfl (by omega) (by decide) ?_
    refine j_iconst (v := mI 0) d_Mo_skips_18 (by decide +kernel) ?_
    refine j_callV0 (As := [_, _, _]) G0_good G0_E d_Mo_skips_19 c_Mo_155 rfl rfl (m_three 1 (σ 11 p 0) 0 (by decide) (by omega) (by omega) (sv.1.1 _ (by omega))) (hM_o (by decide)) rfl rfl (by decide) (Nat.le_of_ble_eq_true rfl) ?_
    rintro _ _ ⟨rfl, rfl⟩
    first | refine c_if_ne (t := 27) d_Mo_skips_22 (by decide) (fun c22 => ?_) (fun c22 => ?_) | refine n_if_ne (t := 27) d_Mo_skips_22 (by decide) (by omega) (fun c22 => ?_) (fun c22 => ?_) | refine j_if_ne (t := 27) d_Mo_skips_22 (by decide) (fun c22 => ?_) (fun c22 => ?_)
    · exfalso
      exact hz ⟨c7, by rw [← eb]; exact c22⟩
    · refine j_iconst (v := nI 0) d_Mo_skips_25 (by decide +kernel) ?_
      exact j_zret d_Mo_skips_26 rfl (by decide +kernel) ⟨rfl, rfl⟩

set_option maxHeartbeats 4000000 in
set_option maxRecDepth 100000 in
theorem m_skips_t {l : Launch} {D : va_G} {M nx : Nat} {L : Int32} {σ ρ : Sg} {g : Nat → Option va_E} {c : Nat → Nat → Nat} (ic : Pu.Ic c σ) (p : Nat) (hp : p < 8) (hon : σ 0 p 0 = 0) (sv : SV σ p ρ) (g6 : g6 σ p) : jM (G0 l D) m_Mo_skips 2 0 0 [.ref (M + 0), .int (nI p)] (hM D M L σ ρ g, nx) (fun v h => v = some (.int (nI 1)) ∧ h = (hM D M L (a6 σ p) ρ g, nx)) := by
  refine jM.of (by decide +kernel) (Nat.le_of_ble_eq_true rfl) rfl ?_
  have hb := ic.2.1
  have R := ic.1.po.rd p hp
  have b12 := ic.1.po.sp p hp
  have bx := ic.1.bx.bx p hp hon
  have eb := bc_cq sv bx (k := 1) (r := σ 11 p 0) (x := 0) (Or.inl rfl) (by omega) (by omega)
  have h918 := (Pu.ok_Rq ic.1 hb hp).2.2.2.2.2.2.1 (Or.inr (Or.inr (Or.inr g6)))

  first | refine j_aload_n d_Mo_skips_0 rfl ?_ | refine j_aload_nq d_Mo_skips_0 rfl ?_ | refine j_aload_nN d_Mo_skips_0 rfl ?_
  refine j_get d_Mo_skips_1 f_Mo_43 (hM_o (by decide)) rfl ?_
  refine j_iload_n d_Mo_skips_4 rfl ?_
  refine j_iald (t := 0) d_Mo_skips_5 rfl (hM_o (by decide)) rfl (by omega) (by decide) ?_
  refine j_iconst (v := nI 1) d_Mo_skips_6 (by decide +kernel) ?_
  first | refine nn_icmp_ne (t := 25) d_Mo_skips_7 (by decide) (by omega) (by omega) (fun c7 => ?_) (fun c7 => ?_) | refine mm_icmp_ne (t := 25) d_Mo_skips_7 (by decide) (by omega) (by omega) (fun c7 => ?_) (fun c7 => ?_) | refine mn_icmp_ne (t := 25) d_Mo_skips_7 (by decide) (by omega) (by omega) (fun c7 => ?_) (fun c7 => ?_) | refine nm_icmp_ne (t := 25) d_Mo_skips_7 (by decide) (by omega) (by omega) (fun c7 => ?_) (fun c7 => ?_) | refine j_icmp_ne (t := 25) d_Mo_skips_7 (by decide) (fun c7 => ?_) (fun c7 => ?_)
  · exfalso; first | exact c7 | omega | exact c7 g6.1 | exact c7 (by rw [eb]; exact g6.2)
  · first | refine j_aload_n d_Mo_skips_10 rfl ?_ | refine j_aload_nq d_Mo_skips_10 rfl ?_ | refine j_aload_nN d_Mo_skips_10 rfl ?_
    refine j_iconst (v := nI 1) d_Mo_skips_11 (by decide +kernel) ?_
    first | refine j_aload_n d_Mo_skips_12 rfl ?_ | refine j_aload_nq d_Mo_skips_12 rfl ?_ | refine j_aload_nN d_Mo_skips_12 rfl ?_
    refine j_get d_Mo_skips_13 f_Mo_40 (hM_o (by decide)) rfl ?_
    refine j_iload_n d_Mo_skips_16 rfl ?_
    refine j_iald (t := 0) d_Mo_skips_17 rfl (hM_o (by decide)) rfl (by omega) (by decide) ?_
    refine j_iconst (v := mI 0) d_Mo_skips_18 (by decide +kernel) ?_
    refine j_callV0 (As := [_, _, _]) G0_good G0_E d_Mo_skips_19 c_Mo_155 rfl rfl (m_three 1 (σ 11 p 0) 0 (by decide) (by omega) (by omega) (sv.1.1 _ (by omega))) (hM_o (by decide)) rfl rfl (by decide) (Nat.le_of_ble_eq_true rfl) ?_
    rintro _ _ ⟨rfl, rfl⟩
    first | refine c_if_ne (t := 27) d_Mo_skips_22 (by decide) (fun c22 => ?_) (fun c22 => ?_) | refine n_if_ne (t := 27) d_Mo_skips_22 (by decide) (by omega) (fun c22 => ?_) (fun c22 => ?_) | refine j_if_ne (t := 27) d_Mo_skips_22 (by decide) (fun c22 => ?_) (fun c22 => ?_)
    · first | refine j_aload_n d_Mo_skips_27 rfl ?_ | refine j_aload_nq d_Mo_skips_27 rfl ?_ | refine j_aload_nN d_Mo_skips_27 rfl ?_
      refine j_iload_n d_Mo_skips_28 rfl ?_
      refine j_iconst (v := nI 2) d_Mo_skips_29 (by decide +kernel) ?_
      refine j_iconst (v := mI 0) d_Mo_skips_30 (by decide +kernel) ?_
      refine j_iconst (v := mI 0) d_Mo_skips_31 (by decide +kernel) ?_
      refine j_callV0 (As := [_, _, _, _]) G0_good G0_E d_Mo_skips_32 c_Mo_166 rfl rfl (m_send hb p hp h918 2 0 0 (by decide) (by omega) (by omega)) (hM_o (by decide)) rfl rfl (by decide) (Nat.le_of_ble_eq_true rfl) ?_
      rintro _ _ ⟨rfl, rfl⟩
      first | refine j_aload_n d_Mo_skips_35 rfl ?_ | refine j_aload_nq d_Mo_skips_35 rfl ?_ | refine j_aload_nN d_Mo_skips_35 rfl ?_
      refine j_get d_Mo_skips_36 f_Mo_43 (hM_o (by decide)) rfl ?_
      refine j_iload_n d_Mo_skips_39 rfl ?_
      refine j_iconst (v := nI 2) d_Mo_skips_40 (by decide +kernel) ?_
      refine j_iast (t := 0) d_Mo_skips_41 rfl (hM_o (by decide)) rfl (by omega) (by decide) (J.hq o12 ?_)
      refine j_iconst (v := nI 1) d_Mo_skips_42 (by decide +kernel) ?_
      exact j_zret d_Mo_skips_43 rfl (by decide +kernel) ⟨rfl, rfl⟩
    · exfalso; first | exact c22 | omega | exact c22 g6.1 | exact c22 (by rw [eb]; exact g6.2)
