/-! ShardLedger: flood (g_fl.py) -/
/-- replica p is given message k -/
noncomputable def f1 (σ : Sg) (p k : Nat) : Sg := ifP (can σ p k) (sAct (sTake σ p k) p) σ
noncomputable def n1 (σ : Sg) (p k : Nat) : Nat := ifP (can σ p k) 1 0
/-- the first i replicas of shard s -/
noncomputable def f4 (σ : Sg) (s k : Nat) : Nat → Sg
  | 0 => σ
  | i + 1 => f1 (f4 σ s k i) (4 * s + i) k
noncomputable def n4 (σ : Sg) (s k : Nat) : Nat → Nat
  | 0 => 0
  | i + 1 => n4 σ s k i + n1 (f4 σ s k i) (4 * s + i) k
/-- the messages from k on, at most m of them -/
noncomputable def fp (s : Nat) : Nat → Sg → Nat → Sg
  | 0, σ, _ => σ
  | m + 1, σ, k => ifP (k < σ 20 s 0) (fp s m (f4 σ s k 4) (k + 1)) σ
noncomputable def np (s : Nat) : Nat → Sg → Nat → Nat
  | 0, _, _ => 0
  | m + 1, σ, k => ifP (k < σ 20 s 0) (n4 σ s k 4 + np s m (f4 σ s k 4) (k + 1)) 0
/-- pass after pass, at most m, until one gives nothing -/
noncomputable def ff (s : Nat) : Nat → Sg → Sg
  | 0, σ => σ
  | m + 1, σ => ifP (np s 918 σ 0 = 0) (fp s 918 σ 0) (ff s m (fp s 918 σ 0))
noncomputable def nf (s : Nat) : Nat → Sg → Nat
  | 0, _ => 0
  | m + 1, σ => ifP (np s 918 σ 0 = 0) 0 (np s 918 σ 0 + nf s m (fp s 918 σ 0))
def ends (s : Nat) : Nat → Sg → Prop
  | 0, _ => False
  | m + 1, σ => np s 918 σ 0 = 0 ∨ ends s m (fp s 918 σ 0)
/-- what the invariant says of messages -/
def OkM (I : Sg → Prop) : Prop := (∀ σ s, I σ → s < 2 → σ 20 s 0 ≤ 918) ∧ (∀ σ s k, I σ → s < 2 → k < σ 20 s 0 → σ 27 s k < 16 ∧ σ 21 s k < 3 ∧ σ 24 s k < 6 ∧ σ 22 s k < 4) ∧ ∀ σ p k, I σ → p < 8 → k < σ 20 (p / 4) 0 → can σ p k → I (sTake σ p k)
section FLD
variable {I : Sg → Prop} {mu : Nat → Sg → Nat}
theorem f1_I (ok : OkI I mu) (om : OkM I) {σ : Sg} {p k : Nat} (hp : p < 8) (h : I σ) (hk : k < σ 20 (p / 4) 0) : I (f1 σ p k) := by
  unfold f1
  by_cases c : can σ p k
  · rw [ifP_t c]; exact sAct_I ok hp (om.2.2 σ p k h hp hk c)
  · rw [ifP_f c]; exact h
theorem f1_sS {σ : Sg} {p k : Nat} (hp : p < 8) : sS σ ≤ sS (f1 σ p k) := by
  unfold f1
  by_cases c : can σ p k
  · rw [ifP_t c, ← sS_take (σ := σ) (p := p) (k := k)]; exact sS_act hp
  · rw [ifP_f c]; exact Nat.le_refl _
/-- the counts of messages grow only -/
theorem one_20 {σ σ' : Sg} {p s : Nat} (h : one σ p = some σ') : σ 20 s 0 ≤ σ' 20 s 0 := by
  have snd : ∀ (τ : Sg) (k x y : Nat), τ 20 = σ 20 → σ 20 s 0 ≤ sSend τ p k x y 20 s 0 := fun τ k x y e => by
    rw [sSend_20, e]
    by_cases c : s = p / 4 ∧ 0 = 0
    · rw [if_pos c, c.1]; omega
    · rw [if_neg c]; exact Nat.le_refl _
  unfold one at h
  by_cases h1 : g1 σ p
  · rw [ifP_t h1] at h; cases h
    unfold a1 e7 e4
    rw [clrB_ne (by decide) (by decide), U_ne (by decide), U_ne (by decide), U_ne (by decide), U_ne (by decide), U_ne (by decide), U_ne (by decide), U_ne (by decide), U_ne (by decide), U_ne (by decide), e2_ne (by decide) (by decide) (by decide) (by decide)]
    exact Nat.le_refl _
  rw [ifP_f h1] at h
  by_cases h2 : ¬ j2 σ p = 0
  · rw [ifP_t h2] at h; cases h; unfold a2; rw [U_ne (by decide), U_ne (by decide)]; exact Nat.le_refl _
  rw [ifP_f h2] at h
  by_cases h3 : g3 σ p
  · rw [ifP_t h3] at h; cases h; exact snd σ _ _ _ rfl
  rw [ifP_f h3] at h
  by_cases h4 : g4 σ p
  · rw [ifP_t h4] at h; cases h; unfold a4; rw [U_ne (by decide)]; exact snd σ _ _ _ rfl
  rw [ifP_f h4] at h
  by_cases h5 : g5 σ p
  · rw [ifP_t h5] at h
    by_cases h51 : σ 12 p 0 = 1
    · rw [ifP_t h51] at h; cases h; unfold s5; rw [U_ne (by decide)]; exact snd (k5 σ p) _ _ _ (by unfold k5 c5; rw [U_ne (by decide), U_ne (by decide), U_ne (by decide), U_ne (by decide)])
    · rw [ifP_f h51] at h; cases h; unfold c5; rw [U_ne (by decide), U_ne (by decide)]; exact Nat.le_refl _
  rw [ifP_f h5] at h
  by_cases h6 : g6 σ p
  · rw [ifP_t h6] at h; cases h; unfold a6; rw [U_ne (by decide)]; exact snd σ _ _ _ rfl
  rw [ifP_f h6] at h
  cases h
theorem actF_20 {p s : Nat} : ∀ (m : Nat) (σ : Sg), σ 20 s 0 ≤ actF m σ p 20 s 0
  | 0, σ => Nat.le_refl _
  | m + 1, σ => by
    cases e : one σ p with
    | none => rw [actF_n e]; exact Nat.le_refl _
    | some σ' => rw [actF_s e]; exact Nat.le_trans (one_20 e) (actF_20 m σ')
theorem sAct_20 {σ : Sg} {p s : Nat} : σ 20 s 0 ≤ sAct σ p 20 s 0 := by
  unfold sAct
  by_cases h : ¬ σ 0 p 0 = 0 ∨ ¬ σ 17 p 0 = 0
  · rw [ifP_t h]; exact Nat.le_refl _
  · rw [ifP_f h]; exact actF_20 _ _
theorem sTake_20 {σ : Sg} {p k : Nat} : sTake σ p k 20 = σ 20 := by
  unfold sTake tk2 tk1
  by_cases h : σ 23 (p / 4) k = σ 10 p 0
  · rw [ifP_t h, U_ne (by decide), U_ne (by decide), U_ne (by decide)]
  · rw [ifP_f h, U_ne (by decide)]
theorem f1_20 {σ : Sg} {p k s : Nat} : σ 20 s 0 ≤ f1 σ p k 20 s 0 := by
  unfold f1
  by_cases c : can σ p k
  · rw [ifP_t c]
    have := sAct_20 (σ := sTake σ p k) (p := p) (s := s)
    rw [sTake_20] at this
    exact this
  · rw [ifP_f c]; exact Nat.le_refl _
theorem f4_20 {σ : Sg} {s k s' : Nat} : ∀ i, σ 20 s' 0 ≤ f4 σ s k i 20 s' 0
  | 0 => Nat.le_refl _
  | i + 1 => Nat.le_trans (f4_20 i) f1_20
theorem f4_I (ok : OkI I mu) (om : OkM I) {σ : Sg} {s k : Nat} (hs : s < 2) (h : I σ) (hk : k < σ 20 s 0) : ∀ i, i ≤ 4 → I (f4 σ s k i)
  | 0, _ => h
  | i + 1, hi => f1_I ok om (by omega) (f4_I ok om hs h hk i (by omega)) (by rw [p_div (by omega)]; exact Nat.lt_of_lt_of_le hk (f4_20 i))
theorem f4_sS {σ : Sg} {s k : Nat} (hs : s < 2) : ∀ {a b : Nat}, a ≤ b → b ≤ 4 → sS (f4 σ s k a) ≤ sS (f4 σ s k b)
  | a, 0, h, _ => by rw [Nat.le_zero.mp h]; exact Nat.le_refl _
  | a, b + 1, h, h4 => by
    by_cases e : a = b + 1
    · rw [e]; exact Nat.le_refl _
    · exact Nat.le_trans (f4_sS hs (show a ≤ b by omega) (by omega)) (f1_sS (by omega))
theorem fp_I (ok : OkI I mu) (om : OkM I) {s : Nat} (hs : s < 2) : ∀ (m : Nat) (σ : Sg) (k : Nat), I σ → I (fp s m σ k)
  | 0, σ, k, h => h
  | m + 1, σ, k, h => by
    unfold fp
    by_cases c : k < σ 20 s 0
    · rw [ifP_t c]; exact fp_I ok om hs m _ _ (f4_I ok om hs h c 4 (by omega))
    · rw [ifP_f c]; exact h
theorem fp_sS {s : Nat} (hs : s < 2) : ∀ (m : Nat) (σ : Sg) (k : Nat), sS σ ≤ sS (fp s m σ k)
  | 0, σ, k => Nat.le_refl _
  | m + 1, σ, k => by
    unfold fp
    by_cases c : k < σ 20 s 0
    · rw [ifP_t c]; exact Nat.le_trans (f4_sS hs (Nat.zero_le 4) (by omega)) (fp_sS hs m _ _)
    · rw [ifP_f c]; exact Nat.le_refl _
theorem ff_sS {s : Nat} (hs : s < 2) : ∀ (m : Nat) (σ : Sg), sS σ ≤ sS (ff s m σ)
  | 0, σ => Nat.le_refl _
  | m + 1, σ => by
    unfold ff
    by_cases c : np s 918 σ 0 = 0
    · rw [ifP_t c]; exact fp_sS hs _ _ _
    · rw [ifP_f c]; exact Nat.le_trans (fp_sS hs _ _ _) (ff_sS hs m _)
theorem n4_le {σ : Sg} {s k : Nat} : ∀ i, n4 σ s k i ≤ i
  | 0 => Nat.le_refl _
  | i + 1 => by
    have := n4_le (σ := σ) (s := s) (k := k) i
    unfold n4 n1
    by_cases c : can (f4 σ s k i) (4 * s + i) k
    · rw [ifP_t c]; omega
    · rw [ifP_f c]; omega
theorem np_le {s : Nat} : ∀ (m : Nat) (σ : Sg) (k : Nat), np s m σ k ≤ 4 * m
  | 0, σ, k => Nat.le_refl _
  | m + 1, σ, k => by
    unfold np
    by_cases c : k < σ 20 s 0
    · rw [ifP_t c]
      have h1 := n4_le (σ := σ) (s := s) (k := k) 4
      have h2 := np_le (s := s) m (f4 σ s k 4) (k + 1)
      omega
    · rw [ifP_f c]; omega
end FLD

set_option maxHeartbeats 4000000 in
set_option maxRecDepth 100000 in
theorem lp_fl_i {l : Launch} {D : va_G} {B : Nat} {g : Nat → Option va_E} {I : Sg → Prop} {mu : Nat → Sg → Nat} (ok : OkI I mu) (om : OkM I) {s : Nat} (hs : s < 2) {Q : Option Value → jH → Prop} {σ : Sg} (hi0 : I σ) {k c N : Nat} (hk : k < σ 20 s 0) (x1 x4 x5 : Option Value) (hN : sS (f4 σ s k 4) ≤ N)
    (K : ∀ (κ : Kp) (nx : Nat) (x7 : Option Value), KR B (f4 σ s k 4) κ nx → J (G0 l D) jT m_Sl_flood 7 Q (N - sS (f4 σ s k 4)) (7 * (N - sS (f4 σ s k 4))) 99 [some (.ref (B + 0)), x1, some (.ref (aS B s + 0)), some (.int (nI (c + n4 σ s k 4))), x4, x5, some (.int (nI k)), x7] [] (hC D B (f4 σ s k 4) κ g, nx)) : ∀ (m i c' : Nat) (κ : Kp) (nx : Nat), i ≤ 4 → 4 - i < m → KR B (f4 σ s k i) κ nx → c' = c + n4 σ s k i → J (G0 l D) jT m_Sl_flood 7 Q (N - sS (f4 σ s k i)) (7 * (N - sS (f4 σ s k i))) 62 [some (.ref (B + 0)), x1, some (.ref (aS B s + 0)), some (.int (nI (c'))), x4, x5, some (.int (nI k)), some (.int (nI i))] [] (hC D B (f4 σ s k i) κ g, nx) := by
  intro m
  induction m with
  | zero =>
    intros
    exfalso
    omega
  | succ m ih =>
    intro i c' κ nx h1 h2 kr hcc
    by_cases hc : can (f4 σ s k i) (4 * s + i) k
    · refine j_iload d_Sl_flood_62 rfl ?_
      refine j_iconst (v := nI 4) d_Sl_flood_64 (by decide +kernel) ?_
      first | refine nn_icmp_ge (t := 99) d_Sl_flood_65 (by decide) (by omega) (by omega) (fun c65 => ?_) (fun c65 => ?_) | refine mm_icmp_ge (t := 99) d_Sl_flood_65 (by decide) (by omega) (by omega) (fun c65 => ?_) (fun c65 => ?_) | refine mn_icmp_ge (t := 99) d_Sl_flood_65 (by decide) (by omega) (by omega) (fun c65 => ?_) (fun c65 => ?_) | refine nm_icmp_ge (t := 99) d_Sl_flood_65 (by decide) (by omega) (by omega) (fun c65 => ?_) (fun c65 => ?_) | refine j_icmp_ge (t := 99) d_Sl_flood_65 (by decide) (fun c65 => ?_) (fun c65 => ?_)
      · have e4 : i = 4 := by omega
        subst e4
        rw [hcc]
        exact K κ nx _ kr
      · have hp : 4 * s + i < 8 := by omega
        have hij := f4_I ok om hs hi0 hk i (by omega)
        have hbj := ((ok (4 * s + i) hp).1 _ hij).1
        have h918 := om.1 _ s hij hs
        have hkj : k < f4 σ s k i 20 s 0 := Nat.lt_of_lt_of_le hk (f4_20 i)
        have hms := om.2.1 _ s k hij hs hkj
        have b20 := hbj 20 s 0
        have ed : (4 * s + i) / 4 = s := p_div (by omega)
        obtain ⟨a, ha, hpr, hm, -⟩ := kr.2.2.1 s k hs hkj
        have m1 := f1_sS (σ := f4 σ s k i) (p := 4 * s + i) (k := k) hp
        have m2 := f4_sS (σ := σ) (s := s) (k := k) hs (show i + 1 ≤ 4 by omega) (by omega)
        have e2 : f4 σ s k (i + 1) = f1 (f4 σ s k i) (4 * s + i) k := rfl
        have e3 : n4 σ s k (i + 1) = n4 σ s k i + n1 (f4 σ s k i) (4 * s + i) k := rfl
        rw [e2] at m2
        have e4 : f1 (f4 σ s k i) (4 * s + i) k = sAct (sTake (f4 σ s k i) (4 * s + i) k) (4 * s + i) := by rw [f1, ifP_t hc]
        have e5 : n4 σ s k (i + 1) = n4 σ s k i + 1 := by rw [e3, n1, ifP_t hc]
        rw [e4] at m1 m2 e2
        rw [show N - sS (f4 σ s k i) = (sS (sAct (sTake (f4 σ s k i) (4 * s + i) k) (4 * s + i)) - sS (f4 σ s k i)) + (N - sS (sAct (sTake (f4 σ s k i) (4 * s + i) k) (4 * s + i))) by omega, Nat.mul_add]
        first | refine j_aload_n d_Sl_flood_68 rfl ?_ | refine j_aload_nq d_Sl_flood_68 rfl ?_ | refine j_aload_nN d_Sl_flood_68 rfl ?_
        refine j_get d_Sl_flood_69 f_Sl_89 (hC_s hs (by decide)) rfl ?_
        refine j_iload d_Sl_flood_72 rfl ?_
        refine j_aald (t := 4) d_Sl_flood_74 rfl (hC_s hs (by decide)) rfl c65 (by decide) ?_
        rw [if_pos c65]
        first | refine j_aload_n d_Sl_flood_75 rfl ?_ | refine j_aload_nq d_Sl_flood_75 rfl ?_ | refine j_aload_nN d_Sl_flood_75 rfl ?_
        refine j_get d_Sl_flood_76 f_Sl_72 (hC_s hs (by decide)) rfl ?_
        refine j_iload d_Sl_flood_79 rfl ?_
        refine j_callV0 (As := [_]) G0_good G0_E d_Sl_flood_81 c_Sl_76 rfl rfl (t_Lo_messageAt hs hbj h918 k (by omega)) (hC_s hs (by decide)) rfl rfl (by decide) (Nat.le_of_ble_eq_true rfl) ?_
        rintro _ _ ⟨rfl, rfl⟩
        rw [if_pos hkj, ha]
        refine j_callV (As := [_]) G0_good G0_E d_Sl_flood_84 c_Sl_82 rfl rfl (t_Re_accept_t hp ok hij kr (k := k) (a := a) (by rw [ed]; exact hkj) (by rw [ed]; exact ha) (by rw [ed]; exact hms.1) (by rw [ed]; exact hms.2.1) (by rw [ed]; exact hms.2.2.1) (by rw [ed]; exact hms.2.2.2) hc (om.2.2 _ _ _ hij hp (by rw [ed]; exact hkj) hc)) (hC_p hp (by decide)) rfl rfl (by decide) (Nat.le_of_ble_eq_true rfl) ?_
        rintro _ _ ⟨rfl, κ', nx', rfl, kr', hle⟩
        refine j_if_eq (t := 93) d_Sl_flood_87 (by decide) (fun q => absurd q (by decide +kernel)) (fun _ => ?_)
        refine n_iinc (k := 1) d_Sl_flood_90 (by decide +kernel) rfl (by decide) rfl rfl ?_
        refine n_iinc (k := 1) d_Sl_flood_93 (by decide +kernel) rfl (by decide) rfl rfl ?_
        refine j_goto (t := 62) d_Sl_flood_96 (by decide) ?_
        rw [← e2] at kr' ⊢
        exact ih (i + 1) _ _ _ (by omega) (by omega) kr' (by omega)
    · refine j_iload d_Sl_flood_62 rfl ?_
      refine j_iconst (v := nI 4) d_Sl_flood_64 (by decide +kernel) ?_
      first | refine nn_icmp_ge (t := 99) d_Sl_flood_65 (by decide) (by omega) (by omega) (fun c65 => ?_) (fun c65 => ?_) | refine mm_icmp_ge (t := 99) d_Sl_flood_65 (by decide) (by omega) (by omega) (fun c65 => ?_) (fun c65 => ?_) | refine mn_icmp_ge (t := 99) d_Sl_flood_65 (by decide) (by omega) (by omega) (fun c65 => ?_) (fun c65 => ?_) | refine nm_icmp_ge (t := 99) d_Sl_flood_65 (by decide) (by omega) (by omega) (fun c65 => ?_) (fun c65 => ?_) | refine j_icmp_ge (t := 99) d_Sl_flood_65 (by decide) (fun c65 => ?_) (fun c65 => ?_)
      · have e4 : i = 4 := by omega
        subst e4
        rw [hcc]
        exact K κ nx _ kr
      · have hp : 4 * s + i < 8 := by omega
        have hij := f4_I ok om hs hi0 hk i (by omega)
        have hbj := ((ok (4 * s + i) hp).1 _ hij).1
        have h918 := om.1 _ s hij hs
        have hkj : k < f4 σ s k i 20 s 0 := Nat.lt_of_lt_of_le hk (f4_20 i)
        have hms := om.2.1 _ s k hij hs hkj
        have b20 := hbj 20 s 0
        have ed : (4 * s + i) / 4 = s := p_div (by omega)
        obtain ⟨a, ha, hpr, hm, -⟩ := kr.2.2.1 s k hs hkj
        have m1 := f1_sS (σ := f4 σ s k i) (p := 4 * s + i) (k := k) hp
        have m2 := f4_sS (σ := σ) (s := s) (k := k) hs (show i + 1 ≤ 4 by omega) (by omega)
        have e2 : f4 σ s k (i + 1) = f1 (f4 σ s k i) (4 * s + i) k := rfl
        have e3 : n4 σ s k (i + 1) = n4 σ s k i + n1 (f4 σ s k i) (4 * s + i) k := rfl
        rw [e2] at m2
        have e4 : f1 (f4 σ s k i) (4 * s + i) k = f4 σ s k i := by rw [f1, ifP_f hc]
        have e5 : n4 σ s k (i + 1) = n4 σ s k i := by rw [e3, n1, ifP_f hc, Nat.add_zero]
        rw [e4] at e2
        first | refine j_aload_n d_Sl_flood_68 rfl ?_ | refine j_aload_nq d_Sl_flood_68 rfl ?_ | refine j_aload_nN d_Sl_flood_68 rfl ?_
        refine j_get d_Sl_flood_69 f_Sl_89 (hC_s hs (by decide)) rfl ?_
        refine j_iload d_Sl_flood_72 rfl ?_
        refine j_aald (t := 4) d_Sl_flood_74 rfl (hC_s hs (by decide)) rfl c65 (by decide) ?_
        rw [if_pos c65]
        first | refine j_aload_n d_Sl_flood_75 rfl ?_ | refine j_aload_nq d_Sl_flood_75 rfl ?_ | refine j_aload_nN d_Sl_flood_75 rfl ?_
        refine j_get d_Sl_flood_76 f_Sl_72 (hC_s hs (by decide)) rfl ?_
        refine j_iload d_Sl_flood_79 rfl ?_
        refine j_callV0 (As := [_]) G0_good G0_E d_Sl_flood_81 c_Sl_76 rfl rfl (t_Lo_messageAt hs hbj h918 k (by omega)) (hC_s hs (by decide)) rfl rfl (by decide) (Nat.le_of_ble_eq_true rfl) ?_
        rintro _ _ ⟨rfl, rfl⟩
        rw [if_pos hkj, ha]
        refine j_callV0 (As := [_]) G0_good G0_E d_Sl_flood_84 c_Sl_82 rfl rfl (t_Re_accept_f hp ok hij kr (k := k) (a := a) (by rw [ed]; exact hkj) (by rw [ed]; exact ha) (by rw [ed]; exact hms.1) (by rw [ed]; exact hms.2.1) (by rw [ed]; exact hms.2.2.1) (by rw [ed]; exact hms.2.2.2) hc) (hC_p hp (by decide)) rfl rfl (by decide) (Nat.le_of_ble_eq_true rfl) ?_
        rintro _ _ ⟨rfl, rfl⟩
        refine j_if_eq (t := 93) d_Sl_flood_87 (by decide) (fun _ => ?_) (fun q => absurd q (by decide +kernel))
        refine n_iinc (k := 1) d_Sl_flood_93 (by decide +kernel) rfl (by decide) rfl rfl ?_
        refine j_goto (t := 62) d_Sl_flood_96 (by decide) ?_
        rw [← e2] at kr ⊢
        exact ih (i + 1) _ _ _ (by omega) (by omega) kr (by omega)
