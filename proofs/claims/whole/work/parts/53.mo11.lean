/-! The reference: its constructor (g_mo11.py) -/
theorem Wd_hM {D : va_G} {M : Nat} {L : Int32} {σ ρ : Sg} {C : Nat → va_E} {g : Nat → Option va_E} (h : ∀ o, o < 28 → C (M + o) = ocell D M L σ ρ o) : Wd M C (M + 28) g = hM D M L σ ρ g := by
  funext a
  unfold Wd hM
  by_cases c : M ≤ a ∧ a < M + 28
  · rw [if_pos c, if_pos c, ← h (a - M) (by omega), show M + (a - M) = a by omega]
  · rw [if_neg c, if_neg c]
theorem cu_sw {C : Nat → va_E} {a n : Nat} {x y z : va_E} (h : a ≠ n) : cu (cu (cu C a x) n z) a y = cu (cu C n z) a y := by
  funext b
  unfold cu
  by_cases e : b = a
  · rw [if_pos e, if_pos e]
  · rw [if_neg e, if_neg e, if_neg e]
theorem Wd_put2 {B a n n' : Nat} {C : Nat → va_E} {x y z : va_E} {g : Nat → Option va_E} (h : B ≤ a) (h' : a < n) (hn : a ≠ n') : va_up (Wd B (cu (cu C a x) n' z) n g) a (some y) = Wd B (cu (cu C n' z) a y) n g := by
  rw [Wd_put h h', cu_sw hn]
theorem Wd_put3 {B a n : Nat} {C : Nat → va_E} {x y : va_E} {g : Nat → Option va_E} (h : B ≤ a) (h' : a < n) : va_up (Wd B (cu C a x) n g) a (some y) = Wd B (cu C a y) n g := by
  rw [Wd_put h h', cu_cu]
def ρ00 : Sg := fun f _ _ => if f = 1 ∨ f = 2 then 1 else 0
/-- amounts set below j -/
def ZA (j : Nat) : Sg := fun f a b => if f = 2 then 1 else if f = 4 then (if a = 0 ∧ b < j then 100 else 0) else if 13 ≤ f ∧ f ≤ 16 then 1 else 0
def ZZ (q p n : Nat) : Sg := fun f a b => if f = 2 then 1 else if f = 4 then (if a = 0 ∧ b < 4 then 100 else 0) else if f = 8 then (if (a < p ∨ (a = p ∧ b < n)) ∧ b < 4 ∧ b % 2 = a / 4 then 1 else 0) else if 13 ≤ f ∧ f ≤ 16 then (if a < q ∧ b = 0 then 0 else 1) else 0
theorem ZA_s {j : Nat} : U (ZA j) 4 0 j 100 = ZA (j + 1) := by
  funext f a b
  by_cases e : f = 4
  · subst e
    rw [U_at]
    show (if a = 0 ∧ b = j then 100 else if a = 0 ∧ b < j then 100 else 0) = if a = 0 ∧ b < j + 1 then 100 else 0
    by_cases c : a = 0 ∧ b = j
    · rw [if_pos c, if_pos (by omega)]
    · rw [if_neg c]
      by_cases c2 : a = 0 ∧ b < j
      · rw [if_pos c2, if_pos (by omega)]
      · rw [if_neg c2, if_neg (by omega)]
  · rw [U_ne e]
    unfold ZA
    by_cases e2 : f = 2
    · rw [if_pos e2, if_pos e2]
    · rw [if_neg e2, if_neg e2, if_neg e, if_neg e]
theorem ZA_Z : ZA 4 = ZZ 0 0 0 := by
  funext f a b
  unfold ZA ZZ
  by_cases e2 : f = 2
  · rw [if_pos e2, if_pos e2]
  rw [if_neg e2, if_neg e2]
  by_cases e4 : f = 4
  · rw [if_pos e4, if_pos e4]
  rw [if_neg e4, if_neg e4]
  by_cases e8 : f = 8
  · rw [if_pos e8, if_neg (by omega), if_neg (by omega)]
  rw [if_neg e8]
  by_cases e13 : 13 ≤ f ∧ f ≤ 16
  · rw [if_pos e13, if_pos e13, if_neg (by omega)]
  · rw [if_neg e13, if_neg e13]
theorem ZZ_l {p : Nat} : U (U (U (U (ZZ p p 0) 13 p 0 0) 14 p 0 0) 15 p 0 0) 16 p 0 0 = ZZ (p + 1) p 0 := by
  have key : ∀ f a b, 13 ≤ f → f ≤ 16 → (if a = p ∧ b = 0 then 0 else ZZ p p 0 f a b) = ZZ (p + 1) p 0 f a b := by
    intro f a b h1 h2
    have v : ∀ q, ZZ q p 0 f a b = if a < q ∧ b = 0 then 0 else 1 := fun q => by
      unfold ZZ
      rw [if_neg (by omega), if_neg (by omega), if_neg (by omega), if_pos ⟨h1, h2⟩]
    rw [v, v]
    by_cases c : a = p ∧ b = 0
    · rw [if_pos c, if_pos (by omega)]
    · rw [if_neg c]
      by_cases c2 : a < p ∧ b = 0
      · rw [if_pos c2, if_pos (by omega)]
      · rw [if_neg c2, if_neg (by omega)]
  funext f a b
  by_cases e : f = 16
  · subst e; rw [U_at, U_ne (by decide), U_ne (by decide), U_ne (by decide)]; exact key 16 a b (by decide) (by decide)
  rw [U_ne e]
  by_cases e : f = 15
  · subst e; rw [U_at, U_ne (by decide), U_ne (by decide)]; exact key 15 a b (by decide) (by decide)
  rw [U_ne e]
  by_cases e : f = 14
  · subst e; rw [U_at, U_ne (by decide)]; exact key 14 a b (by decide) (by decide)
  rw [U_ne e]
  by_cases e : f = 13
  · subst e; rw [U_at]; exact key 13 a b (by decide) (by decide)
  rw [U_ne e]
  have n : ¬ (13 ≤ f ∧ f ≤ 16) := by omega
  unfold ZZ
  rw [if_neg n, if_neg n]
theorem ZZ_k {p n v : Nat} (hn : n < 4) (hv : v = if n % 2 = p / 4 then 1 else 0) : U (ZZ (p + 1) p n) 8 p n v = ZZ (p + 1) p (n + 1) := by
  funext f a b
  by_cases e : f = 8
  · subst e
    rw [U_at, hv]
    show (if a = p ∧ b = n then (if n % 2 = p / 4 then 1 else 0) else if (a < p ∨ (a = p ∧ b < n)) ∧ b < 4 ∧ b % 2 = a / 4 then 1 else 0) = if (a < p ∨ (a = p ∧ b < n + 1)) ∧ b < 4 ∧ b % 2 = a / 4 then 1 else 0
    by_cases c : a = p ∧ b = n
    · obtain ⟨rfl, rfl⟩ := c
      rw [if_pos ⟨rfl, rfl⟩]
      by_cases q : b % 2 = a / 4
      · rw [if_pos q, if_pos ⟨by omega, by omega, q⟩]
      · rw [if_neg q, if_neg (fun z => q z.2.2)]
    · rw [if_neg c]
      by_cases c2 : (a < p ∨ (a = p ∧ b < n)) ∧ b < 4 ∧ b % 2 = a / 4
      · rw [if_pos c2, if_pos ⟨by omega, c2.2⟩]
      · rw [if_neg c2, if_neg (fun z => c2 ⟨by omega, z.2⟩)]
  · rw [U_ne e]
    unfold ZZ
    by_cases e2 : f = 2
    · rw [if_pos e2, if_pos e2]
    rw [if_neg e2, if_neg e2]
    by_cases e4 : f = 4
    · rw [if_pos e4, if_pos e4]
    rw [if_neg e4, if_neg e4, if_neg e, if_neg e]
theorem ZZ_e {p : Nat} : ZZ (p + 1) p 4 = ZZ (p + 1) (p + 1) 0 := by
  funext f a b
  unfold ZZ
  by_cases e2 : f = 2
  · rw [if_pos e2, if_pos e2]
  rw [if_neg e2, if_neg e2]
  by_cases e4 : f = 4
  · rw [if_pos e4, if_pos e4]
  rw [if_neg e4, if_neg e4]
  by_cases e8 : f = 8
  · rw [if_pos e8, if_pos e8]
    by_cases c : (a < p ∨ (a = p ∧ b < 4)) ∧ b < 4 ∧ b % 2 = a / 4
    · rw [if_pos c, if_pos ⟨by omega, c.2⟩]
    · rw [if_neg c, if_neg (fun z => c ⟨by omega, z.2⟩)]
  rw [if_neg e8, if_neg e8]
theorem hM_s0 {D : va_G} {M : Nat} {L : Int32} {ρ : Sg} {g : Nat → Option va_E} {c : Nat → Nat → Nat} : hM D M L (ZZ 8 8 0) ρ g = hM D M L (Pu.s0 c) ρ g := by
  refine hM_cgr (fun f hf => ?_)
  have h0 : f ≠ 0 := fun e => by subst e; exact absurd hf (by decide)
  funext a b
  unfold ZZ Pu.s0
  rw [if_neg h0]
  by_cases e2 : f = 2
  · rw [if_pos e2, if_pos e2]
  rw [if_neg e2, if_neg e2]
  by_cases e4 : f = 4
  · rw [if_pos e4, if_pos e4]
  rw [if_neg e4, if_neg e4]
  by_cases e8 : f = 8
  · rw [if_pos e8, if_pos e8]
    by_cases c : b < 4 ∧ b % 2 = a / 4
    · rw [if_pos c, if_pos ⟨by omega, c⟩]
    · rw [if_neg c, if_neg (fun z => c z.2)]
  rw [if_neg e8, if_neg e8]

set_option maxHeartbeats 4000000 in
set_option maxRecDepth 100000 in
theorem lp_mi_n {l : Launch} {D : va_G} {M nx : Nat} {L : Int32} {ρ : Sg} {g : Nat → Option va_E} (c : Nat → Nat → Nat) (p : Nat) (hp : p < 8) (kD : J (G0 l D) jT m_Mo_init 1 (fun v h => v = none ∧ ∃ ρ', h = (hM D M L (Pu.s0 c) ρ' g, nx)) 0 0 327 [some (.ref (M + 0)), some (.int L), some (.int (nI p)), some (.int (nI 4))] [] (hM D M L (ZZ (p + 1) p 4) ρ g, nx)) : ∀ (m : Nat) (n : Nat), n ≤ 4 → 4 - n < m → J (G0 l D) jT m_Mo_init 1 (fun v h => v = none ∧ ∃ ρ', h = (hM D M L (Pu.s0 c) ρ' g, nx)) 0 0 291 [some (.ref (M + 0)), some (.int L), some (.int (nI p)), some (.int (nI n))] [] (hM D M L (ZZ (p + 1) p n) ρ g, nx) := by
  intro m
  induction m with
  | zero =>
    intros
    exfalso
    omega
  | succ m ih =>
    intro n h1 h2
    refine j_iload_n d_Mo_init_291 rfl ?_
    refine j_iconst (v := nI 4) d_Mo_init_292 (by decide +kernel) ?_
    first | refine nn_icmp_ge (t := 327) d_Mo_init_293 (by decide) (by omega) (by omega) (fun c293 => ?_) (fun c293 => ?_) | refine mm_icmp_ge (t := 327) d_Mo_init_293 (by decide) (by omega) (by omega) (fun c293 => ?_) (fun c293 => ?_) | refine mn_icmp_ge (t := 327) d_Mo_init_293 (by decide) (by omega) (by omega) (fun c293 => ?_) (fun c293 => ?_) | refine nm_icmp_ge (t := 327) d_Mo_init_293 (by decide) (by omega) (by omega) (fun c293 => ?_) (fun c293 => ?_) | refine j_icmp_ge (t := 327) d_Mo_init_293 (by decide) (fun c293 => ?_) (fun c293 => ?_)
    · have en : n = 4 := by omega
      subst en
      exact kD
    · first | refine j_aload_n d_Mo_init_296 rfl ?_ | refine j_aload_nq d_Mo_init_296 rfl ?_ | refine j_aload_nN d_Mo_init_296 rfl ?_
      refine j_get d_Mo_init_297 f_Mo_31 (hM_o (by decide)) rfl ?_
      refine j_bipush (v := nI 20) d_Mo_init_300 (by decide +kernel) ?_
      refine j_iload_n d_Mo_init_302 rfl ?_
      refine jn_imul d_Mo_init_303 ?_
      refine j_iload_n d_Mo_init_304 rfl ?_
      refine jn_iadd d_Mo_init_305 ?_
      refine j_iload_n d_Mo_init_306 rfl ?_
      refine j_iconst (v := nI 2) d_Mo_init_307 (by decide +kernel) ?_
      refine jn_irem d_Mo_init_308 (by omega) (by decide) (by decide) ?_
      refine j_iload_n d_Mo_init_309 rfl ?_
      refine j_iconst (v := nI 4) d_Mo_init_310 (by decide +kernel) ?_
      refine jn_idiv d_Mo_init_311 (by omega) (by decide) (by decide) ?_
      first | refine nn_icmp_ne (t := 319) d_Mo_init_312 (by decide) (by omega) (by omega) (fun c312 => ?_) (fun c312 => ?_) | refine mm_icmp_ne (t := 319) d_Mo_init_312 (by decide) (by omega) (by omega) (fun c312 => ?_) (fun c312 => ?_) | refine mn_icmp_ne (t := 319) d_Mo_init_312 (by decide) (by omega) (by omega) (fun c312 => ?_) (fun c312 => ?_) | refine nm_icmp_ne (t := 319) d_Mo_init_312 (by decide) (by omega) (by omega) (fun c312 => ?_) (fun c312 => ?_) | refine j_icmp_ne (t := 319) d_Mo_init_312 (by decide) (fun c312 => ?_) (fun c312 => ?_)
      · refine j_iconst (v := nI 0) d_Mo_init_319 (by decide +kernel) ?_
        refine j_iast (t := 0) d_Mo_init_320 rfl (hM_o (by decide)) rfl (by omega) (by decide) (J.hq (o8 (by omega)) ?_)
        refine n_iinc (k := 1) (lc' := [_, _, _, _]) d_Mo_init_321 (by decide +kernel) rfl (by decide) rfl rfl ?_
        refine j_goto (t := 291) d_Mo_init_324 (by decide) ?_
        rw [ZZ_k (by omega) (by rw [if_neg c312])]
        exact ih (n + 1) (by omega) (by omega)
      · refine j_iconst (v := nI 1) d_Mo_init_315 (by decide +kernel) ?_
        refine j_goto (t := 320) d_Mo_init_316 (by decide) ?_
        refine j_iast (t := 0) d_Mo_init_320 rfl (hM_o (by decide)) rfl (by omega) (by decide) (J.hq (o8 (by omega)) ?_)
        refine n_iinc (k := 1) (lc' := [_, _, _, _]) d_Mo_init_321 (by decide +kernel) rfl (by decide) rfl rfl ?_
        refine j_goto (t := 291) d_Mo_init_324 (by decide) ?_
        rw [ZZ_k (by omega) (by rw [if_pos c312])]
        exact ih (n + 1) (by omega) (by omega)

set_option maxHeartbeats 4000000 in
set_option maxRecDepth 100000 in
theorem lp_mi_327 {l : Launch} {D : va_G} {M nx : Nat} {L : Int32} {ρ : Sg} {g : Nat → Option va_E} (c : Nat → Nat → Nat) (p : Nat) (kN : ∀ x3, J (G0 l D) jT m_Mo_init 1 (fun v h => v = none ∧ ∃ ρ', h = (hM D M L (Pu.s0 c) ρ' g, nx)) 0 0 255 [some (.ref (M + 0)), some (.int L), some (.int (nI (p + 1))), x3] [] (hM D M L (ZZ (p + 1) (p + 1) 0) ρ g, nx)) : J (G0 l D) jT m_Mo_init 1 (fun v h => v = none ∧ ∃ ρ', h = (hM D M L (Pu.s0 c) ρ' g, nx)) 0 0 327 [some (.ref (M + 0)), some (.int L), some (.int (nI p)), some (.int (nI 4))] [] (hM D M L (ZZ (p + 1) p 4) ρ g, nx) := by
  refine n_iinc (k := 1) (lc' := [_, _, _, _]) d_Mo_init_327 (by decide +kernel) rfl (by decide) rfl rfl ?_
  refine j_goto (t := 255) d_Mo_init_330 (by decide) ?_
  rw [ZZ_e]
  exact kN _

set_option maxHeartbeats 4000000 in
set_option maxRecDepth 100000 in
theorem lp_mi_p {l : Launch} {D : va_G} {M nx : Nat} {L : Int32} {ρ : Sg} {g : Nat → Option va_E} (c : Nat → Nat → Nat) : ∀ (m : Nat) (p : Nat) (x3 : Option Value), p ≤ 8 → 8 - p < m → J (G0 l D) jT m_Mo_init 1 (fun v h => v = none ∧ ∃ ρ', h = (hM D M L (Pu.s0 c) ρ' g, nx)) 0 0 255 [some (.ref (M + 0)), some (.int L), some (.int (nI p)), x3] [] (hM D M L (ZZ p p 0) ρ g, nx) := by
  intro m
  induction m with
  | zero =>
    intros
    exfalso
    omega
  | succ m ih =>
    intro p x3 h1 h2
    refine j_iload_n d_Mo_init_255 rfl ?_
    refine j_bipush (v := nI 8) d_Mo_init_256 (by decide +kernel) ?_
    first | refine nn_icmp_ge (t := 333) d_Mo_init_258 (by decide) (by omega) (by omega) (fun c258 => ?_) (fun c258 => ?_) | refine mm_icmp_ge (t := 333) d_Mo_init_258 (by decide) (by omega) (by omega) (fun c258 => ?_) (fun c258 => ?_) | refine mn_icmp_ge (t := 333) d_Mo_init_258 (by decide) (by omega) (by omega) (fun c258 => ?_) (fun c258 => ?_) | refine nm_icmp_ge (t := 333) d_Mo_init_258 (by decide) (by omega) (by omega) (fun c258 => ?_) (fun c258 => ?_) | refine j_icmp_ge (t := 333) d_Mo_init_258 (by decide) (fun c258 => ?_) (fun c258 => ?_)
    · have ep : p = 8 := by omega
      subst ep
      exact j_vret d_Mo_init_333 rfl ⟨rfl, _, by rw [hM_s0]⟩
    · first | refine j_aload_n d_Mo_init_261 rfl ?_ | refine j_aload_nq d_Mo_init_261 rfl ?_ | refine j_aload_nN d_Mo_init_261 rfl ?_
      refine j_get d_Mo_init_262 f_Mo_46 (hM_o (by decide)) rfl ?_
      refine j_iload_n d_Mo_init_265 rfl ?_
      refine j_iconst (v := mI 0) d_Mo_init_266 (by decide +kernel) ?_
      refine j_iast (t := 0) d_Mo_init_267 rfl (hM_o (by decide)) rfl (by omega) (by decide) (J.hq o13 ?_)
      first | refine j_aload_n d_Mo_init_268 rfl ?_ | refine j_aload_nq d_Mo_init_268 rfl ?_ | refine j_aload_nN d_Mo_init_268 rfl ?_
      refine j_get d_Mo_init_269 f_Mo_49 (hM_o (by decide)) rfl ?_
      refine j_iload_n d_Mo_init_272 rfl ?_
      refine j_iconst (v := mI 0) d_Mo_init_273 (by decide +kernel) ?_
      refine j_iast (t := 0) d_Mo_init_274 rfl (hM_o (by decide)) rfl (by omega) (by decide) (J.hq o14 ?_)
      first | refine j_aload_n d_Mo_init_275 rfl ?_ | refine j_aload_nq d_Mo_init_275 rfl ?_ | refine j_aload_nN d_Mo_init_275 rfl ?_
      refine j_get d_Mo_init_276 f_Mo_52 (hM_o (by decide)) rfl ?_
      refine j_iload_n d_Mo_init_279 rfl ?_
      refine j_iconst (v := mI 0) d_Mo_init_280 (by decide +kernel) ?_
      refine j_iast (t := 0) d_Mo_init_281 rfl (hM_o (by decide)) rfl (by omega) (by decide) (J.hq o15 ?_)
      first | refine j_aload_n d_Mo_init_282 rfl ?_ | refine j_aload_nq d_Mo_init_282 rfl ?_ | refine j_aload_nN d_Mo_init_282 rfl ?_
      refine j_get d_Mo_init_283 f_Mo_55 (hM_o (by decide)) rfl ?_
      refine j_iload_n d_Mo_init_286 rfl ?_
      refine j_iconst (v := mI 0) d_Mo_init_287 (by decide +kernel) ?_
      refine j_iast (t := 0) d_Mo_init_288 rfl (hM_o (by decide)) rfl (by omega) (by decide) (J.hq o16 ?_)
      refine j_iconst (v := nI 0) d_Mo_init_289 (by decide +kernel) ?_
      refine j_istore_n (lc' := [_, _, _, _]) d_Mo_init_290 (by decide) rfl rfl ?_
      rw [ZZ_l]
      refine lp_mi_n c p (by omega) ?_ 5 0 (by omega) (by omega)
      exact lp_mi_327 c p (fun x => ih (p + 1) x (by omega) (by omega))

set_option maxHeartbeats 4000000 in
set_option maxRecDepth 100000 in
theorem lp_mi_a {l : Launch} {D : va_G} {M nx : Nat} {L : Int32} {ρ : Sg} {g : Nat → Option va_E} (c : Nat → Nat → Nat) : ∀ (m : Nat) (j : Nat) (x3 : Option Value), j ≤ 4 → 4 - j < m → J (G0 l D) jT m_Mo_init 1 (fun v h => v = none ∧ ∃ ρ', h = (hM D M L (Pu.s0 c) ρ' g, nx)) 0 0 234 [some (.ref (M + 0)), some (.int L), some (.int (nI j)), x3] [] (hM D M L (ZA j) ρ g, nx) := by
  intro m
  induction m with
  | zero =>
    intros
    exfalso
    omega
  | succ m ih =>
    intro j x3 h1 h2
    refine j_iload_n d_Mo_init_234 rfl ?_
    refine j_iconst (v := nI 4) d_Mo_init_235 (by decide +kernel) ?_
    first | refine nn_icmp_ge (t := 253) d_Mo_init_236 (by decide) (by omega) (by omega) (fun c236 => ?_) (fun c236 => ?_) | refine mm_icmp_ge (t := 253) d_Mo_init_236 (by decide) (by omega) (by omega) (fun c236 => ?_) (fun c236 => ?_) | refine mn_icmp_ge (t := 253) d_Mo_init_236 (by decide) (by omega) (by omega) (fun c236 => ?_) (fun c236 => ?_) | refine nm_icmp_ge (t := 253) d_Mo_init_236 (by decide) (by omega) (by omega) (fun c236 => ?_) (fun c236 => ?_) | refine j_icmp_ge (t := 253) d_Mo_init_236 (by decide) (fun c236 => ?_) (fun c236 => ?_)
    · refine j_iconst (v := nI 0) d_Mo_init_253 (by decide +kernel) ?_
      refine j_istore_n (lc' := [_, _, _, _]) d_Mo_init_254 (by decide) rfl rfl ?_
      have ej : j = 4 := by omega
      subst ej
      rw [ZA_Z]
      exact lp_mi_p c 9 0 _ (by omega) (by omega)
    · first | refine j_aload_n d_Mo_init_239 rfl ?_ | refine j_aload_nq d_Mo_init_239 rfl ?_ | refine j_aload_nN d_Mo_init_239 rfl ?_
      refine j_get d_Mo_init_240 f_Mo_19 (hM_o (by decide)) rfl ?_
      refine j_iload_n d_Mo_init_243 rfl ?_
      refine j_bipush (v := nI 100) d_Mo_init_244 (by decide +kernel) ?_
      refine j_iast (t := 0) d_Mo_init_246 rfl (hM_o (by decide)) rfl (by omega) (by decide) (J.hq o4 ?_)
      refine n_iinc (k := 1) (lc' := [_, _, _, _]) d_Mo_init_247 (by decide +kernel) rfl (by decide) rfl rfl ?_
      refine j_goto (t := 234) d_Mo_init_250 (by decide) ?_
      rw [ZA_s]
      exact ih (j + 1) _ (by omega) (by omega)

section CELLS
variable {D : va_G} {M : Nat} {L : Int32}
theorem cells_0 : (.inr (10, [.int L, .int 0, .ref (M + 1), .ref (M + 2), .ref (M + 3), .ref (M + 4), .int 0, .ref (M + 5), .ref (M + 6), .ref (M + 7), .ref (M + 8), .ref (M + 9), .ref (M + 10), .ref (M + 11), .ref (M + 12), .ref (M + 13), .ref (M + 14), .ref (M + 15), .ref (M + 16), .ref (M + 17), .ref (M + 18), .ref (M + 19), .ref (M + 20), .ref (M + 21), .ref (M + 22), .ref (M + 23), .ref (M + 24), .ref (M + 25), .ref (M + 26), .ref (M + 27)]) : va_E) = ocell D M L (ZA 0) ρ00 0 := rfl
theorem cells_1 : (jIA (D.1 20) 8 (fun _ => 0) : va_E) = ocell D M L (ZA 0) ρ00 1 := rfl
theorem cells_2 : (jIA (D.1 20) 8 (fun _ => 0) : va_E) = ocell D M L (ZA 0) ρ00 2 := by
  show _ = jIA (D.1 20) 8 (fun _ => mI 1)
  rw [mI_11]
theorem cells_3 : (jIA (D.1 20) 8 (fun _ => 0) : va_E) = ocell D M L (ZA 0) ρ00 3 := rfl
theorem cells_4 : (jIA (D.1 20) 20 (fun _ => 0) : va_E) = ocell D M L (ZA 0) ρ00 4 := by
  refine congrArg _ ?_
  funext k
  show _ = nI (if 0 = 0 ∧ k < 0 then 100 else 0)
  rw [if_neg (by omega)]; rfl
theorem cells_5 : (jIA (D.1 20) 32 (fun _ => 0) : va_E) = ocell D M L (ZA 0) ρ00 5 := rfl
theorem cells_6 : (jIA (D.1 20) 32 (fun _ => 0) : va_E) = ocell D M L (ZA 0) ρ00 6 := rfl
theorem cells_7 : (jIA (D.1 20) 32 (fun _ => 0) : va_E) = ocell D M L (ZA 0) ρ00 7 := rfl
theorem cells_8 : (jIA (D.1 20) 160 (fun _ => 0) : va_E) = ocell D M L (ZA 0) ρ00 8 := rfl
theorem cells_9 : (jIA (D.1 20) 160 (fun _ => 0) : va_E) = ocell D M L (ZA 0) ρ00 9 := rfl
theorem cells_10 : (jIA (D.1 20) 8 (fun _ => 0) : va_E) = ocell D M L (ZA 0) ρ00 10 := rfl
theorem cells_11 : (jIA (D.1 20) 8 (fun _ => 0) : va_E) = ocell D M L (ZA 0) ρ00 11 := rfl
theorem cells_12 : (jIA (D.1 20) 8 (fun _ => 0) : va_E) = ocell D M L (ZA 0) ρ00 12 := rfl
theorem cells_13 : (jIA (D.1 20) 8 (fun _ => 0) : va_E) = ocell D M L (ZA 0) ρ00 13 := by
  show _ = jIA (D.1 20) 8 (fun _ => mI 1)
  rw [mI_11]
theorem cells_14 : (jIA (D.1 20) 8 (fun _ => 0) : va_E) = ocell D M L (ZA 0) ρ00 14 := by
  show _ = jIA (D.1 20) 8 (fun _ => mI 1)
  rw [mI_11]
theorem cells_15 : (jIA (D.1 20) 8 (fun _ => 0) : va_E) = ocell D M L (ZA 0) ρ00 15 := by
  show _ = jIA (D.1 20) 8 (fun _ => mI 1)
  rw [mI_11]
theorem cells_16 : (jIA (D.1 20) 8 (fun _ => 0) : va_E) = ocell D M L (ZA 0) ρ00 16 := by
  show _ = jIA (D.1 20) 8 (fun _ => mI 1)
  rw [mI_11]
theorem cells_17 : (jIA (D.1 21) 8 (fun _ => 0) : va_E) = ocell D M L (ZA 0) ρ00 17 := rfl
theorem cells_18 : (jIA (D.1 20) 128 (fun _ => 0) : va_E) = ocell D M L (ZA 0) ρ00 18 := rfl
theorem cells_19 : (jIA (D.1 20) 256 (fun _ => 0) : va_E) = ocell D M L (ZA 0) ρ00 19 := rfl
theorem cells_20 : (jIA (D.1 20) 2 (fun _ => 0) : va_E) = ocell D M L (ZA 0) ρ00 20 := rfl
theorem cells_21 : (jLA (D.1 22) 2000 (fun _ => 0) : va_E) = ocell D M L (ZA 0) ρ00 21 := by
  show _ = jLA (D.1 22) 2000 (fun k => nL (codeN (ZA 0) (k / 1000) (k % 1000)))
  have z : ∀ f s k, 17 ≤ f → ZA 0 f s k = 0 := fun f s k h => by unfold ZA; rw [if_neg (by omega), if_neg (by omega), if_neg (by omega)]
  have e : ∀ s k, nL (codeN (ZA 0) s k) = 0 := fun s k => by
    unfold codeN
    rw [z 21 s k (by decide), z 22 s k (by decide), z 23 s k (by decide), z 24 s k (by decide), z 25 s k (by decide), z 26 s k (by decide)]
    rfl
  simp only [e]
theorem cells_22 : (jIA (D.1 20) 2000 (fun _ => 0) : va_E) = ocell D M L (ZA 0) ρ00 22 := rfl
theorem cells_23 : (jIA (D.1 20) 1836 (fun _ => 0) : va_E) = ocell D M L (ZA 0) ρ00 23 := rfl
theorem cells_24 : (jIA (D.1 20) 594 (fun _ => 0) : va_E) = ocell D M L (ZA 0) ρ00 24 := rfl
theorem cells_25 : (jIA (D.1 20) 6 (fun _ => 0) : va_E) = ocell D M L (ZA 0) ρ00 25 := by
  show _ = jIA (D.1 20) 6 (fun _ => mI 1)
  rw [mI_11]
theorem cells_26 : (jIA (D.1 20) 6 (fun _ => 0) : va_E) = ocell D M L (ZA 0) ρ00 26 := by
  show _ = jIA (D.1 20) 6 (fun _ => mI 1)
  rw [mI_11]
theorem cells_27 : (jIA (D.1 21) 6 (fun _ => 0) : va_E) = ocell D M L (ZA 0) ρ00 27 := rfl
end CELLS

set_option maxHeartbeats 4000000 in
set_option maxRecDepth 100000 in
theorem i_Mo {l : Launch} {D : va_G} {M : Nat} {L : Int32} {g : Nat → Option va_E} (c : Nat → Nat → Nat) {C : Nat → va_E} (c0 : C (M + 0) = .inr (10, [.int 0, .int 0, .null, .null, .null, .null, .int 0, .null, .null, .null, .null, .null, .null, .null, .null, .null, .null, .null, .null, .null, .null, .null, .null, .null, .null, .null, .null, .null, .null, .null])) : jM (G0 l D) m_Mo_init 1 27 7358 [.ref (M + 0), .int L] (Wd M C (M + 1) g, M + 1) (fun v h => v = none ∧ ∃ ρ', h = (hM D M L (Pu.s0 c) ρ' g, M + 28)) := by
  refine jM.of (by decide +kernel) (Nat.le_of_ble_eq_true rfl) rfl ?_
  first | refine j_aload_n d_Mo_init_0 rfl ?_ | refine j_aload_nq d_Mo_init_0 rfl ?_ | refine j_aload_nN d_Mo_init_0 rfl ?_
  refine j_objInit d_Mo_init_1 o_Mo_1 o_i o_c (by decide) ?_
  first | refine j_aload_n d_Mo_init_4 rfl ?_ | refine j_aload_nq d_Mo_init_4 rfl ?_ | refine j_aload_nN d_Mo_init_4 rfl ?_
  refine j_bipush (v := nI 8) d_Mo_init_5 (by decide +kernel) ?_
  refine j_newi (t := 0) (N := 8) d_Mo_init_7 rfl r_int rfl (by decide) ?_
  refine J.hq (Wd_new (by omega)) ?_
  refine j_putF d_Mo_init_9 p_Mo_7 rfl (Wd_rd (by omega) (by omega) ((cu_n (by omega)).trans c0)) rfl (by first | rfl | decide +kernel) (Nat.le_of_ble_eq_true rfl) (J.hq (Wd_put (x := .inr (10, [.int 0, .int 0, .ref (M + 1), .null, .null, .null, .int 0, .null, .null, .null, .null, .null, .null, .null, .null, .null, .null, .null, .null, .null, .null, .null, .null, .null, .null, .null, .null, .null, .null, .null])) (by omega) (by omega)) ?_)
  first | refine j_aload_n d_Mo_init_12 rfl ?_ | refine j_aload_nq d_Mo_init_12 rfl ?_ | refine j_aload_nN d_Mo_init_12 rfl ?_
  refine j_bipush (v := nI 8) d_Mo_init_13 (by decide +kernel) ?_
  refine j_newi (t := 0) (N := 8) d_Mo_init_15 rfl r_int rfl (by decide) ?_
  refine J.hq (Wd_new (by omega)) ?_
  refine j_putF d_Mo_init_17 p_Mo_13 rfl (Wd_rd (by omega) (by omega) ((cu_n (by omega)).trans cu_a)) rfl (by first | rfl | decide +kernel) (Nat.le_of_ble_eq_true rfl) (J.hq (Wd_put2 (y := .inr (10, [.int 0, .int 0, .ref (M + 1), .ref (M + 2), .null, .null, .int 0, .null, .null, .null, .null, .null, .null, .null, .null, .null, .null, .null, .null, .null, .null, .null, .null, .null, .null, .null, .null, .null, .null, .null])) (by omega) (by omega) (by omega)) ?_)
  first | refine j_aload_n d_Mo_init_20 rfl ?_ | refine j_aload_nq d_Mo_init_20 rfl ?_ | refine j_aload_nN d_Mo_init_20 rfl ?_
  refine j_bipush (v := nI 8) d_Mo_init_21 (by decide +kernel) ?_
  refine j_newi (t := 0) (N := 8) d_Mo_init_23 rfl r_int rfl (by decide) ?_
  refine J.hq (Wd_new (by omega)) ?_
  refine j_putF d_Mo_init_25 p_Mo_16 rfl (Wd_rd (by omega) (by omega) ((cu_n (by omega)).trans cu_a)) rfl (by first | rfl | decide +kernel) (Nat.le_of_ble_eq_true rfl) (J.hq (Wd_put2 (y := .inr (10, [.int 0, .int 0, .ref (M + 1), .ref (M + 2), .ref (M + 3), .null, .int 0, .null, .null, .null, .null, .null, .null, .null, .null, .null, .null, .null, .null, .null, .null, .null, .null, .null, .null, .null, .null, .null, .null, .null])) (by omega) (by omega) (by omega)) ?_)
  first | refine j_aload_n d_Mo_init_28 rfl ?_ | refine j_aload_nq d_Mo_init_28 rfl ?_ | refine j_aload_nN d_Mo_init_28 rfl ?_
  refine j_bipush (v := nI 20) d_Mo_init_29 (by decide +kernel) ?_
  refine j_newi (t := 0) (N := 20) d_Mo_init_31 rfl r_int rfl (by decide) ?_
  refine J.hq (Wd_new (by omega)) ?_
  refine j_putF d_Mo_init_33 p_Mo_19 rfl (Wd_rd (by omega) (by omega) ((cu_n (by omega)).trans cu_a)) rfl (by first | rfl | decide +kernel) (Nat.le_of_ble_eq_true rfl) (J.hq (Wd_put2 (y := .inr (10, [.int 0, .int 0, .ref (M + 1), .ref (M + 2), .ref (M + 3), .ref (M + 4), .int 0, .null, .null, .null, .null, .null, .null, .null, .null, .null, .null, .null, .null, .null, .null, .null, .null, .null, .null, .null, .null, .null, .null, .null])) (by omega) (by omega) (by omega)) ?_)
  first | refine j_aload_n d_Mo_init_36 rfl ?_ | refine j_aload_nq d_Mo_init_36 rfl ?_ | refine j_aload_nN d_Mo_init_36 rfl ?_
  refine j_bipush (v := nI 32) d_Mo_init_37 (by decide +kernel) ?_
  refine j_newi (t := 0) (N := 32) d_Mo_init_39 rfl r_int rfl (by decide) ?_
  refine J.hq (Wd_new (by omega)) ?_
  refine j_putF d_Mo_init_41 p_Mo_22 rfl (Wd_rd (by omega) (by omega) ((cu_n (by omega)).trans cu_a)) rfl (by first | rfl | decide +kernel) (Nat.le_of_ble_eq_true rfl) (J.hq (Wd_put2 (y := .inr (10, [.int 0, .int 0, .ref (M + 1), .ref (M + 2), .ref (M + 3), .ref (M + 4), .int 0, .ref (M + 5), .null, .null, .null, .null, .null, .null, .null, .null, .null, .null, .null, .null, .null, .null, .null, .null, .null, .null, .null, .null, .null, .null])) (by omega) (by omega) (by omega)) ?_)
  first | refine j_aload_n d_Mo_init_44 rfl ?_ | refine j_aload_nq d_Mo_init_44 rfl ?_ | refine j_aload_nN d_Mo_init_44 rfl ?_
  refine j_bipush (v := nI 32) d_Mo_init_45 (by decide +kernel) ?_
  refine j_newi (t := 0) (N := 32) d_Mo_init_47 rfl r_int rfl (by decide) ?_
  refine J.hq (Wd_new (by omega)) ?_
  refine j_putF d_Mo_init_49 p_Mo_25 rfl (Wd_rd (by omega) (by omega) ((cu_n (by omega)).trans cu_a)) rfl (by first | rfl | decide +kernel) (Nat.le_of_ble_eq_true rfl) (J.hq (Wd_put2 (y := .inr (10, [.int 0, .int 0, .ref (M + 1), .ref (M + 2), .ref (M + 3), .ref (M + 4), .int 0, .ref (M + 5), .ref (M + 6), .null, .null, .null, .null, .null, .null, .null, .null, .null, .null, .null, .null, .null, .null, .null, .null, .null, .null, .null, .null, .null])) (by omega) (by omega) (by omega)) ?_)
  first | refine j_aload_n d_Mo_init_52 rfl ?_ | refine j_aload_nq d_Mo_init_52 rfl ?_ | refine j_aload_nN d_Mo_init_52 rfl ?_
  refine j_bipush (v := nI 32) d_Mo_init_53 (by decide +kernel) ?_
  refine j_newi (t := 0) (N := 32) d_Mo_init_55 rfl r_int rfl (by decide) ?_
  refine J.hq (Wd_new (by omega)) ?_
  refine j_putF d_Mo_init_57 p_Mo_28 rfl (Wd_rd (by omega) (by omega) ((cu_n (by omega)).trans cu_a)) rfl (by first | rfl | decide +kernel) (Nat.le_of_ble_eq_true rfl) (J.hq (Wd_put2 (y := .inr (10, [.int 0, .int 0, .ref (M + 1), .ref (M + 2), .ref (M + 3), .ref (M + 4), .int 0, .ref (M + 5), .ref (M + 6), .ref (M + 7), .null, .null, .null, .null, .null, .null, .null, .null, .null, .null, .null, .null, .null, .null, .null, .null, .null, .null, .null, .null])) (by omega) (by omega) (by omega)) ?_)
  first | refine j_aload_n d_Mo_init_60 rfl ?_ | refine j_aload_nq d_Mo_init_60 rfl ?_ | refine j_aload_nN d_Mo_init_60 rfl ?_
  refine j_sipush (v := nI 160) d_Mo_init_61 (by decide +kernel) ?_
  refine j_newi (t := 0) (N := 160) d_Mo_init_64 rfl r_int rfl (by decide) ?_
  refine J.hq (Wd_new (by omega)) ?_
  refine j_putF d_Mo_init_66 p_Mo_31 rfl (Wd_rd (by omega) (by omega) ((cu_n (by omega)).trans cu_a)) rfl (by first | rfl | decide +kernel) (Nat.le_of_ble_eq_true rfl) (J.hq (Wd_put2 (y := .inr (10, [.int 0, .int 0, .ref (M + 1), .ref (M + 2), .ref (M + 3), .ref (M + 4), .int 0, .ref (M + 5), .ref (M + 6), .ref (M + 7), .ref (M + 8), .null, .null, .null, .null, .null, .null, .null, .null, .null, .null, .null, .null, .null, .null, .null, .null, .null, .null, .null])) (by omega) (by omega) (by omega)) ?_)
  first | refine j_aload_n d_Mo_init_69 rfl ?_ | refine j_aload_nq d_Mo_init_69 rfl ?_ | refine j_aload_nN d_Mo_init_69 rfl ?_
  refine j_sipush (v := nI 160) d_Mo_init_70 (by decide +kernel) ?_
  refine j_newi (t := 0) (N := 160) d_Mo_init_73 rfl r_int rfl (by decide) ?_
  refine J.hq (Wd_new (by omega)) ?_
  refine j_putF d_Mo_init_75 p_Mo_34 rfl (Wd_rd (by omega) (by omega) ((cu_n (by omega)).trans cu_a)) rfl (by first | rfl | decide +kernel) (Nat.le_of_ble_eq_true rfl) (J.hq (Wd_put2 (y := .inr (10, [.int 0, .int 0, .ref (M + 1), .ref (M + 2), .ref (M + 3), .ref (M + 4), .int 0, .ref (M + 5), .ref (M + 6), .ref (M + 7), .ref (M + 8), .ref (M + 9), .null, .null, .null, .null, .null, .null, .null, .null, .null, .null, .null, .null, .null, .null, .null, .null, .null, .null])) (by omega) (by omega) (by omega)) ?_)
  first | refine j_aload_n d_Mo_init_78 rfl ?_ | refine j_aload_nq d_Mo_init_78 rfl ?_ | refine j_aload_nN d_Mo_init_78 rfl ?_
  refine j_bipush (v := nI 8) d_Mo_init_79 (by decide +kernel) ?_
  refine j_newi (t := 0) (N := 8) d_Mo_init_81 rfl r_int rfl (by decide) ?_
  refine J.hq (Wd_new (by omega)) ?_
  refine j_putF d_Mo_init_83 p_Mo_37 rfl (Wd_rd (by omega) (by omega) ((cu_n (by omega)).trans cu_a)) rfl (by first | rfl | decide +kernel) (Nat.le_of_ble_eq_true rfl) (J.hq (Wd_put2 (y := .inr (10, [.int 0, .int 0, .ref (M + 1), .ref (M + 2), .ref (M + 3), .ref (M + 4), .int 0, .ref (M + 5), .ref (M + 6), .ref (M + 7), .ref (M + 8), .ref (M + 9), .ref (M + 10), .null, .null, .null, .null, .null, .null, .null, .null, .null, .null, .null, .null, .null, .null, .null, .null, .null])) (by omega) (by omega) (by omega)) ?_)
  first | refine j_aload_n d_Mo_init_86 rfl ?_ | refine j_aload_nq d_Mo_init_86 rfl ?_ | refine j_aload_nN d_Mo_init_86 rfl ?_
  refine j_bipush (v := nI 8) d_Mo_init_87 (by decide +kernel) ?_
  refine j_newi (t := 0) (N := 8) d_Mo_init_89 rfl r_int rfl (by decide) ?_
  refine J.hq (Wd_new (by omega)) ?_
  refine j_putF d_Mo_init_91 p_Mo_40 rfl (Wd_rd (by omega) (by omega) ((cu_n (by omega)).trans cu_a)) rfl (by first | rfl | decide +kernel) (Nat.le_of_ble_eq_true rfl) (J.hq (Wd_put2 (y := .inr (10, [.int 0, .int 0, .ref (M + 1), .ref (M + 2), .ref (M + 3), .ref (M + 4), .int 0, .ref (M + 5), .ref (M + 6), .ref (M + 7), .ref (M + 8), .ref (M + 9), .ref (M + 10), .ref (M + 11), .null, .null, .null, .null, .null, .null, .null, .null, .null, .null, .null, .null, .null, .null, .null, .null])) (by omega) (by omega) (by omega)) ?_)
  first | refine j_aload_n d_Mo_init_94 rfl ?_ | refine j_aload_nq d_Mo_init_94 rfl ?_ | refine j_aload_nN d_Mo_init_94 rfl ?_
  refine j_bipush (v := nI 8) d_Mo_init_95 (by decide +kernel) ?_
  refine j_newi (t := 0) (N := 8) d_Mo_init_97 rfl r_int rfl (by decide) ?_
  refine J.hq (Wd_new (by omega)) ?_
  refine j_putF d_Mo_init_99 p_Mo_43 rfl (Wd_rd (by omega) (by omega) ((cu_n (by omega)).trans cu_a)) rfl (by first | rfl | decide +kernel) (Nat.le_of_ble_eq_true rfl) (J.hq (Wd_put2 (y := .inr (10, [.int 0, .int 0, .ref (M + 1), .ref (M + 2), .ref (M + 3), .ref (M + 4), .int 0, .ref (M + 5), .ref (M + 6), .ref (M + 7), .ref (M + 8), .ref (M + 9), .ref (M + 10), .ref (M + 11), .ref (M + 12), .null, .null, .null, .null, .null, .null, .null, .null, .null, .null, .null, .null, .null, .null, .null])) (by omega) (by omega) (by omega)) ?_)
  first | refine j_aload_n d_Mo_init_102 rfl ?_ | refine j_aload_nq d_Mo_init_102 rfl ?_ | refine j_aload_nN d_Mo_init_102 rfl ?_
  refine j_bipush (v := nI 8) d_Mo_init_103 (by decide +kernel) ?_
  refine j_newi (t := 0) (N := 8) d_Mo_init_105 rfl r_int rfl (by decide) ?_
  refine J.hq (Wd_new (by omega)) ?_
  refine j_putF d_Mo_init_107 p_Mo_46 rfl (Wd_rd (by omega) (by omega) ((cu_n (by omega)).trans cu_a)) rfl (by first | rfl | decide +kernel) (Nat.le_of_ble_eq_true rfl) (J.hq (Wd_put2 (y := .inr (10, [.int 0, .int 0, .ref (M + 1), .ref (M + 2), .ref (M + 3), .ref (M + 4), .int 0, .ref (M + 5), .ref (M + 6), .ref (M + 7), .ref (M + 8), .ref (M + 9), .ref (M + 10), .ref (M + 11), .ref (M + 12), .ref (M + 13), .null, .null, .null, .null, .null, .null, .null, .null, .null, .null, .null, .null, .null, .null])) (by omega) (by omega) (by omega)) ?_)
  first | refine j_aload_n d_Mo_init_110 rfl ?_ | refine j_aload_nq d_Mo_init_110 rfl ?_ | refine j_aload_nN d_Mo_init_110 rfl ?_
  refine j_bipush (v := nI 8) d_Mo_init_111 (by decide +kernel) ?_
  refine j_newi (t := 0) (N := 8) d_Mo_init_113 rfl r_int rfl (by decide) ?_
  refine J.hq (Wd_new (by omega)) ?_
  refine j_putF d_Mo_init_115 p_Mo_49 rfl (Wd_rd (by omega) (by omega) ((cu_n (by omega)).trans cu_a)) rfl (by first | rfl | decide +kernel) (Nat.le_of_ble_eq_true rfl) (J.hq (Wd_put2 (y := .inr (10, [.int 0, .int 0, .ref (M + 1), .ref (M + 2), .ref (M + 3), .ref (M + 4), .int 0, .ref (M + 5), .ref (M + 6), .ref (M + 7), .ref (M + 8), .ref (M + 9), .ref (M + 10), .ref (M + 11), .ref (M + 12), .ref (M + 13), .ref (M + 14), .null, .null, .null, .null, .null, .null, .null, .null, .null, .null, .null, .null, .null])) (by omega) (by omega) (by omega)) ?_)
  first | refine j_aload_n d_Mo_init_118 rfl ?_ | refine j_aload_nq d_Mo_init_118 rfl ?_ | refine j_aload_nN d_Mo_init_118 rfl ?_
  refine j_bipush (v := nI 8) d_Mo_init_119 (by decide +kernel) ?_
  refine j_newi (t := 0) (N := 8) d_Mo_init_121 rfl r_int rfl (by decide) ?_
  refine J.hq (Wd_new (by omega)) ?_
  refine j_putF d_Mo_init_123 p_Mo_52 rfl (Wd_rd (by omega) (by omega) ((cu_n (by omega)).trans cu_a)) rfl (by first | rfl | decide +kernel) (Nat.le_of_ble_eq_true rfl) (J.hq (Wd_put2 (y := .inr (10, [.int 0, .int 0, .ref (M + 1), .ref (M + 2), .ref (M + 3), .ref (M + 4), .int 0, .ref (M + 5), .ref (M + 6), .ref (M + 7), .ref (M + 8), .ref (M + 9), .ref (M + 10), .ref (M + 11), .ref (M + 12), .ref (M + 13), .ref (M + 14), .ref (M + 15), .null, .null, .null, .null, .null, .null, .null, .null, .null, .null, .null, .null])) (by omega) (by omega) (by omega)) ?_)
  first | refine j_aload_n d_Mo_init_126 rfl ?_ | refine j_aload_nq d_Mo_init_126 rfl ?_ | refine j_aload_nN d_Mo_init_126 rfl ?_
  refine j_bipush (v := nI 8) d_Mo_init_127 (by decide +kernel) ?_
  refine j_newi (t := 0) (N := 8) d_Mo_init_129 rfl r_int rfl (by decide) ?_
  refine J.hq (Wd_new (by omega)) ?_
  refine j_putF d_Mo_init_131 p_Mo_55 rfl (Wd_rd (by omega) (by omega) ((cu_n (by omega)).trans cu_a)) rfl (by first | rfl | decide +kernel) (Nat.le_of_ble_eq_true rfl) (J.hq (Wd_put2 (y := .inr (10, [.int 0, .int 0, .ref (M + 1), .ref (M + 2), .ref (M + 3), .ref (M + 4), .int 0, .ref (M + 5), .ref (M + 6), .ref (M + 7), .ref (M + 8), .ref (M + 9), .ref (M + 10), .ref (M + 11), .ref (M + 12), .ref (M + 13), .ref (M + 14), .ref (M + 15), .ref (M + 16), .null, .null, .null, .null, .null, .null, .null, .null, .null, .null, .null])) (by omega) (by omega) (by omega)) ?_)
  first | refine j_aload_n d_Mo_init_134 rfl ?_ | refine j_aload_nq d_Mo_init_134 rfl ?_ | refine j_aload_nN d_Mo_init_134 rfl ?_
  refine j_bipush (v := nI 8) d_Mo_init_135 (by decide +kernel) ?_
  refine j_newz (t := 1) (N := 8) d_Mo_init_137 rfl r_boolean rfl (by decide) ?_
  refine J.hq (Wd_new (by omega)) ?_
  refine j_putF d_Mo_init_139 p_Mo_58 rfl (Wd_rd (by omega) (by omega) ((cu_n (by omega)).trans cu_a)) rfl (by first | rfl | decide +kernel) (Nat.le_of_ble_eq_true rfl) (J.hq (Wd_put2 (y := .inr (10, [.int 0, .int 0, .ref (M + 1), .ref (M + 2), .ref (M + 3), .ref (M + 4), .int 0, .ref (M + 5), .ref (M + 6), .ref (M + 7), .ref (M + 8), .ref (M + 9), .ref (M + 10), .ref (M + 11), .ref (M + 12), .ref (M + 13), .ref (M + 14), .ref (M + 15), .ref (M + 16), .ref (M + 17), .null, .null, .null, .null, .null, .null, .null, .null, .null, .null])) (by omega) (by omega) (by omega)) ?_)
  first | refine j_aload_n d_Mo_init_142 rfl ?_ | refine j_aload_nq d_Mo_init_142 rfl ?_ | refine j_aload_nN d_Mo_init_142 rfl ?_
  refine j_sipush (v := nI 128) d_Mo_init_143 (by decide +kernel) ?_
  refine j_newi (t := 0) (N := 128) d_Mo_init_146 rfl r_int rfl (by decide) ?_
  refine J.hq (Wd_new (by omega)) ?_
  refine j_putF d_Mo_init_148 p_Mo_62 rfl (Wd_rd (by omega) (by omega) ((cu_n (by omega)).trans cu_a)) rfl (by first | rfl | decide +kernel) (Nat.le_of_ble_eq_true rfl) (J.hq (Wd_put2 (y := .inr (10, [.int 0, .int 0, .ref (M + 1), .ref (M + 2), .ref (M + 3), .ref (M + 4), .int 0, .ref (M + 5), .ref (M + 6), .ref (M + 7), .ref (M + 8), .ref (M + 9), .ref (M + 10), .ref (M + 11), .ref (M + 12), .ref (M + 13), .ref (M + 14), .ref (M + 15), .ref (M + 16), .ref (M + 17), .ref (M + 18), .null, .null, .null, .null, .null, .null, .null, .null, .null])) (by omega) (by omega) (by omega)) ?_)
  first | refine j_aload_n d_Mo_init_151 rfl ?_ | refine j_aload_nq d_Mo_init_151 rfl ?_ | refine j_aload_nN d_Mo_init_151 rfl ?_
  refine j_sipush (v := nI 256) d_Mo_init_152 (by decide +kernel) ?_
  refine j_newi (t := 0) (N := 256) d_Mo_init_155 rfl r_int rfl (by decide) ?_
  refine J.hq (Wd_new (by omega)) ?_
  refine j_putF d_Mo_init_157 p_Mo_65 rfl (Wd_rd (by omega) (by omega) ((cu_n (by omega)).trans cu_a)) rfl (by first | rfl | decide +kernel) (Nat.le_of_ble_eq_true rfl) (J.hq (Wd_put2 (y := .inr (10, [.int 0, .int 0, .ref (M + 1), .ref (M + 2), .ref (M + 3), .ref (M + 4), .int 0, .ref (M + 5), .ref (M + 6), .ref (M + 7), .ref (M + 8), .ref (M + 9), .ref (M + 10), .ref (M + 11), .ref (M + 12), .ref (M + 13), .ref (M + 14), .ref (M + 15), .ref (M + 16), .ref (M + 17), .ref (M + 18), .ref (M + 19), .null, .null, .null, .null, .null, .null, .null, .null])) (by omega) (by omega) (by omega)) ?_)
  first | refine j_aload_n d_Mo_init_160 rfl ?_ | refine j_aload_nq d_Mo_init_160 rfl ?_ | refine j_aload_nN d_Mo_init_160 rfl ?_
  refine j_iconst (v := nI 2) d_Mo_init_161 (by decide +kernel) ?_
  refine j_newi (t := 0) (N := 2) d_Mo_init_162 rfl r_int rfl (by decide) ?_
  refine J.hq (Wd_new (by omega)) ?_
  refine j_putF d_Mo_init_164 p_Mo_68 rfl (Wd_rd (by omega) (by omega) ((cu_n (by omega)).trans cu_a)) rfl (by first | rfl | decide +kernel) (Nat.le_of_ble_eq_true rfl) (J.hq (Wd_put2 (y := .inr (10, [.int 0, .int 0, .ref (M + 1), .ref (M + 2), .ref (M + 3), .ref (M + 4), .int 0, .ref (M + 5), .ref (M + 6), .ref (M + 7), .ref (M + 8), .ref (M + 9), .ref (M + 10), .ref (M + 11), .ref (M + 12), .ref (M + 13), .ref (M + 14), .ref (M + 15), .ref (M + 16), .ref (M + 17), .ref (M + 18), .ref (M + 19), .ref (M + 20), .null, .null, .null, .null, .null, .null, .null])) (by omega) (by omega) (by omega)) ?_)
  first | refine j_aload_n d_Mo_init_167 rfl ?_ | refine j_aload_nq d_Mo_init_167 rfl ?_ | refine j_aload_nN d_Mo_init_167 rfl ?_
  refine j_sipush (v := nI 2000) d_Mo_init_168 (by decide +kernel) ?_
  refine j_newl (t := 2) (N := 2000) d_Mo_init_171 rfl r_long rfl (by decide) ?_
  refine J.hq (Wd_new (by omega)) ?_
  refine j_putF d_Mo_init_173 p_Mo_71 rfl (Wd_rd (by omega) (by omega) ((cu_n (by omega)).trans cu_a)) rfl (by first | rfl | decide +kernel) (Nat.le_of_ble_eq_true rfl) (J.hq (Wd_put2 (y := .inr (10, [.int 0, .int 0, .ref (M + 1), .ref (M + 2), .ref (M + 3), .ref (M + 4), .int 0, .ref (M + 5), .ref (M + 6), .ref (M + 7), .ref (M + 8), .ref (M + 9), .ref (M + 10), .ref (M + 11), .ref (M + 12), .ref (M + 13), .ref (M + 14), .ref (M + 15), .ref (M + 16), .ref (M + 17), .ref (M + 18), .ref (M + 19), .ref (M + 20), .ref (M + 21), .null, .null, .null, .null, .null, .null])) (by omega) (by omega) (by omega)) ?_)
  first | refine j_aload_n d_Mo_init_176 rfl ?_ | refine j_aload_nq d_Mo_init_176 rfl ?_ | refine j_aload_nN d_Mo_init_176 rfl ?_
  refine j_sipush (v := nI 2000) d_Mo_init_177 (by decide +kernel) ?_
  refine j_newi (t := 0) (N := 2000) d_Mo_init_180 rfl r_int rfl (by decide) ?_
  refine J.hq (Wd_new (by omega)) ?_
  refine j_putF d_Mo_init_182 p_Mo_75 rfl (Wd_rd (by omega) (by omega) ((cu_n (by omega)).trans cu_a)) rfl (by first | rfl | decide +kernel) (Nat.le_of_ble_eq_true rfl) (J.hq (Wd_put2 (y := .inr (10, [.int 0, .int 0, .ref (M + 1), .ref (M + 2), .ref (M + 3), .ref (M + 4), .int 0, .ref (M + 5), .ref (M + 6), .ref (M + 7), .ref (M + 8), .ref (M + 9), .ref (M + 10), .ref (M + 11), .ref (M + 12), .ref (M + 13), .ref (M + 14), .ref (M + 15), .ref (M + 16), .ref (M + 17), .ref (M + 18), .ref (M + 19), .ref (M + 20), .ref (M + 21), .ref (M + 22), .null, .null, .null, .null, .null])) (by omega) (by omega) (by omega)) ?_)
  first | refine j_aload_n d_Mo_init_185 rfl ?_ | refine j_aload_nq d_Mo_init_185 rfl ?_ | refine j_aload_nN d_Mo_init_185 rfl ?_
  refine j_sipush (v := nI 1836) d_Mo_init_186 (by decide +kernel) ?_
  refine j_newi (t := 0) (N := 1836) d_Mo_init_189 rfl r_int rfl (by decide) ?_
  refine J.hq (Wd_new (by omega)) ?_
  refine j_putF d_Mo_init_191 p_Mo_78 rfl (Wd_rd (by omega) (by omega) ((cu_n (by omega)).trans cu_a)) rfl (by first | rfl | decide +kernel) (Nat.le_of_ble_eq_true rfl) (J.hq (Wd_put2 (y := .inr (10, [.int 0, .int 0, .ref (M + 1), .ref (M + 2), .ref (M + 3), .ref (M + 4), .int 0, .ref (M + 5), .ref (M + 6), .ref (M + 7), .ref (M + 8), .ref (M + 9), .ref (M + 10), .ref (M + 11), .ref (M + 12), .ref (M + 13), .ref (M + 14), .ref (M + 15), .ref (M + 16), .ref (M + 17), .ref (M + 18), .ref (M + 19), .ref (M + 20), .ref (M + 21), .ref (M + 22), .ref (M + 23), .null, .null, .null, .null])) (by omega) (by omega) (by omega)) ?_)
  first | refine j_aload_n d_Mo_init_194 rfl ?_ | refine j_aload_nq d_Mo_init_194 rfl ?_ | refine j_aload_nN d_Mo_init_194 rfl ?_
  refine j_sipush (v := nI 594) d_Mo_init_195 (by decide +kernel) ?_
  refine j_newi (t := 0) (N := 594) d_Mo_init_198 rfl r_int rfl (by decide) ?_
  refine J.hq (Wd_new (by omega)) ?_
  refine j_putF d_Mo_init_200 p_Mo_81 rfl (Wd_rd (by omega) (by omega) ((cu_n (by omega)).trans cu_a)) rfl (by first | rfl | decide +kernel) (Nat.le_of_ble_eq_true rfl) (J.hq (Wd_put2 (y := .inr (10, [.int 0, .int 0, .ref (M + 1), .ref (M + 2), .ref (M + 3), .ref (M + 4), .int 0, .ref (M + 5), .ref (M + 6), .ref (M + 7), .ref (M + 8), .ref (M + 9), .ref (M + 10), .ref (M + 11), .ref (M + 12), .ref (M + 13), .ref (M + 14), .ref (M + 15), .ref (M + 16), .ref (M + 17), .ref (M + 18), .ref (M + 19), .ref (M + 20), .ref (M + 21), .ref (M + 22), .ref (M + 23), .ref (M + 24), .null, .null, .null])) (by omega) (by omega) (by omega)) ?_)
  first | refine j_aload_n d_Mo_init_203 rfl ?_ | refine j_aload_nq d_Mo_init_203 rfl ?_ | refine j_aload_nN d_Mo_init_203 rfl ?_
  refine j_bipush (v := nI 6) d_Mo_init_204 (by decide +kernel) ?_
  refine j_newi (t := 0) (N := 6) d_Mo_init_206 rfl r_int rfl (by decide) ?_
  refine J.hq (Wd_new (by omega)) ?_
  refine j_putF d_Mo_init_208 p_Mo_84 rfl (Wd_rd (by omega) (by omega) ((cu_n (by omega)).trans cu_a)) rfl (by first | rfl | decide +kernel) (Nat.le_of_ble_eq_true rfl) (J.hq (Wd_put2 (y := .inr (10, [.int 0, .int 0, .ref (M + 1), .ref (M + 2), .ref (M + 3), .ref (M + 4), .int 0, .ref (M + 5), .ref (M + 6), .ref (M + 7), .ref (M + 8), .ref (M + 9), .ref (M + 10), .ref (M + 11), .ref (M + 12), .ref (M + 13), .ref (M + 14), .ref (M + 15), .ref (M + 16), .ref (M + 17), .ref (M + 18), .ref (M + 19), .ref (M + 20), .ref (M + 21), .ref (M + 22), .ref (M + 23), .ref (M + 24), .ref (M + 25), .null, .null])) (by omega) (by omega) (by omega)) ?_)
  first | refine j_aload_n d_Mo_init_211 rfl ?_ | refine j_aload_nq d_Mo_init_211 rfl ?_ | refine j_aload_nN d_Mo_init_211 rfl ?_
  refine j_bipush (v := nI 6) d_Mo_init_212 (by decide +kernel) ?_
  refine j_newi (t := 0) (N := 6) d_Mo_init_214 rfl r_int rfl (by decide) ?_
  refine J.hq (Wd_new (by omega)) ?_
  refine j_putF d_Mo_init_216 p_Mo_87 rfl (Wd_rd (by omega) (by omega) ((cu_n (by omega)).trans cu_a)) rfl (by first | rfl | decide +kernel) (Nat.le_of_ble_eq_true rfl) (J.hq (Wd_put2 (y := .inr (10, [.int 0, .int 0, .ref (M + 1), .ref (M + 2), .ref (M + 3), .ref (M + 4), .int 0, .ref (M + 5), .ref (M + 6), .ref (M + 7), .ref (M + 8), .ref (M + 9), .ref (M + 10), .ref (M + 11), .ref (M + 12), .ref (M + 13), .ref (M + 14), .ref (M + 15), .ref (M + 16), .ref (M + 17), .ref (M + 18), .ref (M + 19), .ref (M + 20), .ref (M + 21), .ref (M + 22), .ref (M + 23), .ref (M + 24), .ref (M + 25), .ref (M + 26), .null])) (by omega) (by omega) (by omega)) ?_)
  first | refine j_aload_n d_Mo_init_219 rfl ?_ | refine j_aload_nq d_Mo_init_219 rfl ?_ | refine j_aload_nN d_Mo_init_219 rfl ?_
  refine j_bipush (v := nI 6) d_Mo_init_220 (by decide +kernel) ?_
  refine j_newz (t := 1) (N := 6) d_Mo_init_222 rfl r_boolean rfl (by decide) ?_
  refine J.hq (Wd_new (by omega)) ?_
  refine j_putF d_Mo_init_224 p_Mo_90 rfl (Wd_rd (by omega) (by omega) ((cu_n (by omega)).trans cu_a)) rfl (by first | rfl | decide +kernel) (Nat.le_of_ble_eq_true rfl) (J.hq (Wd_put2 (y := .inr (10, [.int 0, .int 0, .ref (M + 1), .ref (M + 2), .ref (M + 3), .ref (M + 4), .int 0, .ref (M + 5), .ref (M + 6), .ref (M + 7), .ref (M + 8), .ref (M + 9), .ref (M + 10), .ref (M + 11), .ref (M + 12), .ref (M + 13), .ref (M + 14), .ref (M + 15), .ref (M + 16), .ref (M + 17), .ref (M + 18), .ref (M + 19), .ref (M + 20), .ref (M + 21), .ref (M + 22), .ref (M + 23), .ref (M + 24), .ref (M + 25), .ref (M + 26), .ref (M + 27)])) (by omega) (by omega) (by omega)) ?_)
  first | refine j_aload_n d_Mo_init_227 rfl ?_ | refine j_aload_nq d_Mo_init_227 rfl ?_ | refine j_aload_nN d_Mo_init_227 rfl ?_
  refine j_iload_n d_Mo_init_228 rfl ?_
  refine j_putF d_Mo_init_229 p_Mo_93 rfl (Wd_rd (by omega) (by omega) cu_a) rfl (by first | rfl | decide +kernel) (Nat.le_of_ble_eq_true rfl) (J.hq (Wd_put3 (y := .inr (10, [.int L, .int 0, .ref (M + 1), .ref (M + 2), .ref (M + 3), .ref (M + 4), .int 0, .ref (M + 5), .ref (M + 6), .ref (M + 7), .ref (M + 8), .ref (M + 9), .ref (M + 10), .ref (M + 11), .ref (M + 12), .ref (M + 13), .ref (M + 14), .ref (M + 15), .ref (M + 16), .ref (M + 17), .ref (M + 18), .ref (M + 19), .ref (M + 20), .ref (M + 21), .ref (M + 22), .ref (M + 23), .ref (M + 24), .ref (M + 25), .ref (M + 26), .ref (M + 27)])) (by omega) (by omega)) ?_)
  refine j_iconst (v := nI 0) d_Mo_init_232 (by decide +kernel) ?_
  refine j_istore_n (lc' := [_, _, _, _]) d_Mo_init_233 (by decide) rfl rfl ?_
  refine J.hq (Wd_hM (D := D) (M := M) (g := g) (L := L) (σ := ZA 0) (ρ := ρ00) ?_) ?_
  · intro o ho
    have : o = 0 ∨ o = 1 ∨ o = 2 ∨ o = 3 ∨ o = 4 ∨ o = 5 ∨ o = 6 ∨ o = 7 ∨ o = 8 ∨ o = 9 ∨ o = 10 ∨ o = 11 ∨ o = 12 ∨ o = 13 ∨ o = 14 ∨ o = 15 ∨ o = 16 ∨ o = 17 ∨ o = 18 ∨ o = 19 ∨ o = 20 ∨ o = 21 ∨ o = 22 ∨ o = 23 ∨ o = 24 ∨ o = 25 ∨ o = 26 ∨ o = 27 := by omega
    rcases this with e | e | e | e | e | e | e | e | e | e | e | e | e | e | e | e | e | e | e | e | e | e | e | e | e | e | e | e <;> subst e
    · exact cu_a.trans cells_0
    · exact ((cu_n (by omega)).trans ((cu_n (by omega)).trans ((cu_n (by omega)).trans ((cu_n (by omega)).trans ((cu_n (by omega)).trans ((cu_n (by omega)).trans ((cu_n (by omega)).trans ((cu_n (by omega)).trans ((cu_n (by omega)).trans ((cu_n (by omega)).trans ((cu_n (by omega)).trans ((cu_n (by omega)).trans ((cu_n (by omega)).trans ((cu_n (by omega)).trans ((cu_n (by omega)).trans ((cu_n (by omega)).trans ((cu_n (by omega)).trans ((cu_n (by omega)).trans ((cu_n (by omega)).trans ((cu_n (by omega)).trans ((cu_n (by omega)).trans ((cu_n (by omega)).trans ((cu_n (by omega)).trans ((cu_n (by omega)).trans ((cu_n (by omega)).trans ((cu_n (by omega)).trans ((cu_n (by omega)).trans (cu_a)))))))))))))))))))))))))))).trans cells_1
    · exact ((cu_n (by omega)).trans ((cu_n (by omega)).trans ((cu_n (by omega)).trans ((cu_n (by omega)).trans ((cu_n (by omega)).trans ((cu_n (by omega)).trans ((cu_n (by omega)).trans ((cu_n (by omega)).trans ((cu_n (by omega)).trans ((cu_n (by omega)).trans ((cu_n (by omega)).trans ((cu_n (by omega)).trans ((cu_n (by omega)).trans ((cu_n (by omega)).trans ((cu_n (by omega)).trans ((cu_n (by omega)).trans ((cu_n (by omega)).trans ((cu_n (by omega)).trans ((cu_n (by omega)).trans ((cu_n (by omega)).trans ((cu_n (by omega)).trans ((cu_n (by omega)).trans ((cu_n (by omega)).trans ((cu_n (by omega)).trans ((cu_n (by omega)).trans ((cu_n (by omega)).trans (cu_a))))))))))))))))))))))))))).trans cells_2
    · exact ((cu_n (by omega)).trans ((cu_n (by omega)).trans ((cu_n (by omega)).trans ((cu_n (by omega)).trans ((cu_n (by omega)).trans ((cu_n (by omega)).trans ((cu_n (by omega)).trans ((cu_n (by omega)).trans ((cu_n (by omega)).trans ((cu_n (by omega)).trans ((cu_n (by omega)).trans ((cu_n (by omega)).trans ((cu_n (by omega)).trans ((cu_n (by omega)).trans ((cu_n (by omega)).trans ((cu_n (by omega)).trans ((cu_n (by omega)).trans ((cu_n (by omega)).trans ((cu_n (by omega)).trans ((cu_n (by omega)).trans ((cu_n (by omega)).trans ((cu_n (by omega)).trans ((cu_n (by omega)).trans ((cu_n (by omega)).trans ((cu_n (by omega)).trans (cu_a)))))))))))))))))))))))))).trans cells_3
    · exact ((cu_n (by omega)).trans ((cu_n (by omega)).trans ((cu_n (by omega)).trans ((cu_n (by omega)).trans ((cu_n (by omega)).trans ((cu_n (by omega)).trans ((cu_n (by omega)).trans ((cu_n (by omega)).trans ((cu_n (by omega)).trans ((cu_n (by omega)).trans ((cu_n (by omega)).trans ((cu_n (by omega)).trans ((cu_n (by omega)).trans ((cu_n (by omega)).trans ((cu_n (by omega)).trans ((cu_n (by omega)).trans ((cu_n (by omega)).trans ((cu_n (by omega)).trans ((cu_n (by omega)).trans ((cu_n (by omega)).trans ((cu_n (by omega)).trans ((cu_n (by omega)).trans ((cu_n (by omega)).trans ((cu_n (by omega)).trans (cu_a))))))))))))))))))))))))).trans cells_4
    · exact ((cu_n (by omega)).trans ((cu_n (by omega)).trans ((cu_n (by omega)).trans ((cu_n (by omega)).trans ((cu_n (by omega)).trans ((cu_n (by omega)).trans ((cu_n (by omega)).trans ((cu_n (by omega)).trans ((cu_n (by omega)).trans ((cu_n (by omega)).trans ((cu_n (by omega)).trans ((cu_n (by omega)).trans ((cu_n (by omega)).trans ((cu_n (by omega)).trans ((cu_n (by omega)).trans ((cu_n (by omega)).trans ((cu_n (by omega)).trans ((cu_n (by omega)).trans ((cu_n (by omega)).trans ((cu_n (by omega)).trans ((cu_n (by omega)).trans ((cu_n (by omega)).trans ((cu_n (by omega)).trans (cu_a)))))))))))))))))))))))).trans cells_5
    · exact ((cu_n (by omega)).trans ((cu_n (by omega)).trans ((cu_n (by omega)).trans ((cu_n (by omega)).trans ((cu_n (by omega)).trans ((cu_n (by omega)).trans ((cu_n (by omega)).trans ((cu_n (by omega)).trans ((cu_n (by omega)).trans ((cu_n (by omega)).trans ((cu_n (by omega)).trans ((cu_n (by omega)).trans ((cu_n (by omega)).trans ((cu_n (by omega)).trans ((cu_n (by omega)).trans ((cu_n (by omega)).trans ((cu_n (by omega)).trans ((cu_n (by omega)).trans ((cu_n (by omega)).trans ((cu_n (by omega)).trans ((cu_n (by omega)).trans ((cu_n (by omega)).trans (cu_a))))))))))))))))))))))).trans cells_6
    · exact ((cu_n (by omega)).trans ((cu_n (by omega)).trans ((cu_n (by omega)).trans ((cu_n (by omega)).trans ((cu_n (by omega)).trans ((cu_n (by omega)).trans ((cu_n (by omega)).trans ((cu_n (by omega)).trans ((cu_n (by omega)).trans ((cu_n (by omega)).trans ((cu_n (by omega)).trans ((cu_n (by omega)).trans ((cu_n (by omega)).trans ((cu_n (by omega)).trans ((cu_n (by omega)).trans ((cu_n (by omega)).trans ((cu_n (by omega)).trans ((cu_n (by omega)).trans ((cu_n (by omega)).trans ((cu_n (by omega)).trans ((cu_n (by omega)).trans (cu_a)))))))))))))))))))))).trans cells_7
    · exact ((cu_n (by omega)).trans ((cu_n (by omega)).trans ((cu_n (by omega)).trans ((cu_n (by omega)).trans ((cu_n (by omega)).trans ((cu_n (by omega)).trans ((cu_n (by omega)).trans ((cu_n (by omega)).trans ((cu_n (by omega)).trans ((cu_n (by omega)).trans ((cu_n (by omega)).trans ((cu_n (by omega)).trans ((cu_n (by omega)).trans ((cu_n (by omega)).trans ((cu_n (by omega)).trans ((cu_n (by omega)).trans ((cu_n (by omega)).trans ((cu_n (by omega)).trans ((cu_n (by omega)).trans ((cu_n (by omega)).trans (cu_a))))))))))))))))))))).trans cells_8
    · exact ((cu_n (by omega)).trans ((cu_n (by omega)).trans ((cu_n (by omega)).trans ((cu_n (by omega)).trans ((cu_n (by omega)).trans ((cu_n (by omega)).trans ((cu_n (by omega)).trans ((cu_n (by omega)).trans ((cu_n (by omega)).trans ((cu_n (by omega)).trans ((cu_n (by omega)).trans ((cu_n (by omega)).trans ((cu_n (by omega)).trans ((cu_n (by omega)).trans ((cu_n (by omega)).trans ((cu_n (by omega)).trans ((cu_n (by omega)).trans ((cu_n (by omega)).trans ((cu_n (by omega)).trans (cu_a)))))))))))))))))))).trans cells_9
    · exact ((cu_n (by omega)).trans ((cu_n (by omega)).trans ((cu_n (by omega)).trans ((cu_n (by omega)).trans ((cu_n (by omega)).trans ((cu_n (by omega)).trans ((cu_n (by omega)).trans ((cu_n (by omega)).trans ((cu_n (by omega)).trans ((cu_n (by omega)).trans ((cu_n (by omega)).trans ((cu_n (by omega)).trans ((cu_n (by omega)).trans ((cu_n (by omega)).trans ((cu_n (by omega)).trans ((cu_n (by omega)).trans ((cu_n (by omega)).trans ((cu_n (by omega)).trans (cu_a))))))))))))))))))).trans cells_10
    · exact ((cu_n (by omega)).trans ((cu_n (by omega)).trans ((cu_n (by omega)).trans ((cu_n (by omega)).trans ((cu_n (by omega)).trans ((cu_n (by omega)).trans ((cu_n (by omega)).trans ((cu_n (by omega)).trans ((cu_n (by omega)).trans ((cu_n (by omega)).trans ((cu_n (by omega)).trans ((cu_n (by omega)).trans ((cu_n (by omega)).trans ((cu_n (by omega)).trans ((cu_n (by omega)).trans ((cu_n (by omega)).trans ((cu_n (by omega)).trans (cu_a)))))))))))))))))).trans cells_11
    · exact ((cu_n (by omega)).trans ((cu_n (by omega)).trans ((cu_n (by omega)).trans ((cu_n (by omega)).trans ((cu_n (by omega)).trans ((cu_n (by omega)).trans ((cu_n (by omega)).trans ((cu_n (by omega)).trans ((cu_n (by omega)).trans ((cu_n (by omega)).trans ((cu_n (by omega)).trans ((cu_n (by omega)).trans ((cu_n (by omega)).trans ((cu_n (by omega)).trans ((cu_n (by omega)).trans ((cu_n (by omega)).trans (cu_a))))))))))))))))).trans cells_12
    · exact ((cu_n (by omega)).trans ((cu_n (by omega)).trans ((cu_n (by omega)).trans ((cu_n (by omega)).trans ((cu_n (by omega)).trans ((cu_n (by omega)).trans ((cu_n (by omega)).trans ((cu_n (by omega)).trans ((cu_n (by omega)).trans ((cu_n (by omega)).trans ((cu_n (by omega)).trans ((cu_n (by omega)).trans ((cu_n (by omega)).trans ((cu_n (by omega)).trans ((cu_n (by omega)).trans (cu_a)))))))))))))))).trans cells_13
    · exact ((cu_n (by omega)).trans ((cu_n (by omega)).trans ((cu_n (by omega)).trans ((cu_n (by omega)).trans ((cu_n (by omega)).trans ((cu_n (by omega)).trans ((cu_n (by omega)).trans ((cu_n (by omega)).trans ((cu_n (by omega)).trans ((cu_n (by omega)).trans ((cu_n (by omega)).trans ((cu_n (by omega)).trans ((cu_n (by omega)).trans ((cu_n (by omega)).trans (cu_a))))))))))))))).trans cells_14
    · exact ((cu_n (by omega)).trans ((cu_n (by omega)).trans ((cu_n (by omega)).trans ((cu_n (by omega)).trans ((cu_n (by omega)).trans ((cu_n (by omega)).trans ((cu_n (by omega)).trans ((cu_n (by omega)).trans ((cu_n (by omega)).trans ((cu_n (by omega)).trans ((cu_n (by omega)).trans ((cu_n (by omega)).trans ((cu_n (by omega)).trans (cu_a)))))))))))))).trans cells_15
    · exact ((cu_n (by omega)).trans ((cu_n (by omega)).trans ((cu_n (by omega)).trans ((cu_n (by omega)).trans ((cu_n (by omega)).trans ((cu_n (by omega)).trans ((cu_n (by omega)).trans ((cu_n (by omega)).trans ((cu_n (by omega)).trans ((cu_n (by omega)).trans ((cu_n (by omega)).trans ((cu_n (by omega)).trans (cu_a))))))))))))).trans cells_16
    · exact ((cu_n (by omega)).trans ((cu_n (by omega)).trans ((cu_n (by omega)).trans ((cu_n (by omega)).trans ((cu_n (by omega)).trans ((cu_n (by omega)).trans ((cu_n (by omega)).trans ((cu_n (by omega)).trans ((cu_n (by omega)).trans ((cu_n (by omega)).trans ((cu_n (by omega)).trans (cu_a)))))))))))).trans cells_17
    · exact ((cu_n (by omega)).trans ((cu_n (by omega)).trans ((cu_n (by omega)).trans ((cu_n (by omega)).trans ((cu_n (by omega)).trans ((cu_n (by omega)).trans ((cu_n (by omega)).trans ((cu_n (by omega)).trans ((cu_n (by omega)).trans ((cu_n (by omega)).trans (cu_a))))))))))).trans cells_18
    · exact ((cu_n (by omega)).trans ((cu_n (by omega)).trans ((cu_n (by omega)).trans ((cu_n (by omega)).trans ((cu_n (by omega)).trans ((cu_n (by omega)).trans ((cu_n (by omega)).trans ((cu_n (by omega)).trans ((cu_n (by omega)).trans (cu_a)))))))))).trans cells_19
    · exact ((cu_n (by omega)).trans ((cu_n (by omega)).trans ((cu_n (by omega)).trans ((cu_n (by omega)).trans ((cu_n (by omega)).trans ((cu_n (by omega)).trans ((cu_n (by omega)).trans ((cu_n (by omega)).trans (cu_a))))))))).trans cells_20
    · exact ((cu_n (by omega)).trans ((cu_n (by omega)).trans ((cu_n (by omega)).trans ((cu_n (by omega)).trans ((cu_n (by omega)).trans ((cu_n (by omega)).trans ((cu_n (by omega)).trans (cu_a)))))))).trans cells_21
    · exact ((cu_n (by omega)).trans ((cu_n (by omega)).trans ((cu_n (by omega)).trans ((cu_n (by omega)).trans ((cu_n (by omega)).trans ((cu_n (by omega)).trans (cu_a))))))).trans cells_22
    · exact ((cu_n (by omega)).trans ((cu_n (by omega)).trans ((cu_n (by omega)).trans ((cu_n (by omega)).trans ((cu_n (by omega)).trans (cu_a)))))).trans cells_23
    · exact ((cu_n (by omega)).trans ((cu_n (by omega)).trans ((cu_n (by omega)).trans ((cu_n (by omega)).trans (cu_a))))).trans cells_24
    · exact ((cu_n (by omega)).trans ((cu_n (by omega)).trans ((cu_n (by omega)).trans (cu_a)))).trans cells_25
    · exact ((cu_n (by omega)).trans ((cu_n (by omega)).trans (cu_a))).trans cells_26
    · exact ((cu_n (by omega)).trans (cu_a)).trans cells_27
  · exact lp_mi_a c 5 0 _ (by omega) (by omega)
