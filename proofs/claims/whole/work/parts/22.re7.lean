/-! Replica: taking, lying to it, patience, sleep (g_re7.py) -/
theorem KR_mask {B nx s k a v : Nat} {σ : Sg} {κ : Kp} (kr : KR B σ κ nx) (hs : s < 2) (hk : k < σ 20 s 0) (ha : κ.2.1 s k = some a) (hv : v < 100000) : KR B (U σ 27 s k v) (Kmf κ a 6 v) nx := by
  obtain ⟨k1, k2, k3, k4, k5, k6⟩ := kr
  have n29 : U σ 27 s k v 29 = σ 29 := U_ne (by decide)
  have n30 : U σ 27 s k v 30 = σ 30 := U_ne (by decide)
  have n20 : U σ 27 s k v 20 = σ 20 := U_ne (by decide)
  have emf : ∀ b i, (Kmf κ a 6 v).2.2.2 b i = if b = a ∧ i = 6 then v else κ.2.2.2 b i := by
    intro b i
    by_cases e1 : b = a
    · subst e1
      by_cases e2 : i = 6
      · simp [Kmf, va_up, e2]
      · simp [Kmf, va_up, e2]
    · simp [Kmf, va_up, e1]
  refine ⟨fun q j x y => by rw [n29]; exact k1 q j x y, fun q j b x y z => ?_, fun s' j x y => ?_, fun s1 j1 s2 j2 b x y z w => by rw [n20] at z w; exact k4 s1 j1 s2 j2 b x y z w, k5, fun b i hb => ?_⟩
  · rw [n29, n30, emf, emf, if_neg (fun z => absurd z.2 (by decide)), if_neg (fun z => absurd z.2 (by decide))]
    exact k2 q j b x y z
  · rw [n20] at y
    obtain ⟨b, g1, g2, g3, g4⟩ := k3 s' j x y
    refine ⟨b, g1, g2, g3, fun i hi => ?_⟩
    rw [emf]
    by_cases e : b = a
    · subst e
      obtain ⟨e1, e2⟩ := k4 s' j s k b x hs y hk g1 ha
      subst e1; subst e2
      by_cases e3 : i = 6
      · subst e3
        rw [if_pos ⟨rfl, rfl⟩, show 21 + 6 = 27 from rfl, U_at, if_pos ⟨rfl, rfl⟩]
      · rw [if_neg (fun z => e3 z.2), U_ne (by omega)]
        exact g4 i hi
    · rw [if_neg (fun z => e z.1)]
      by_cases e3 : i = 6
      · subst e3
        rw [show 21 + 6 = 27 from rfl, U_at]
        by_cases e4 : s' = s ∧ j = k
        · obtain ⟨rfl, rfl⟩ := e4
          rw [ha] at g1
          exact absurd (Option.some.inj g1).symm e
        · rw [if_neg e4]; exact g4 6 hi
      · rw [U_ne (by omega)]; exact g4 i hi
  · rw [emf]
    split
    · exact hv
    · exact k6 b i hb
theorem KR_put {B nx p j a x y : Nat} {σ : Sg} {κ : Kp} (kr : KR B σ κ nx) (hpr : κ.2.2.1 a = true) (h4 : κ.2.2.2 a 4 = x) (h5 : κ.2.2.2 a 5 = y) : KR B (U (U σ 29 p j (x + 1)) 30 p j y) (Kib κ p j (some a)) nx := by
  obtain ⟨k1, k2, k3, k4, k5, k6⟩ := kr
  have n29 : ∀ q i, U (U σ 29 p j (x + 1)) 30 p j y 29 q i = if q = p ∧ i = j then x + 1 else σ 29 q i := fun q i => by rw [U_ne (by decide), U_at]
  have n30 : ∀ q i, U (U σ 29 p j (x + 1)) 30 p j y 30 q i = if q = p ∧ i = j then y else σ 30 q i := fun q i => by rw [U_at, U_ne (by decide)]
  have ne : ∀ f, f ≠ 29 → f ≠ 30 → U (U σ 29 p j (x + 1)) 30 p j y f = σ f := fun f e1 e2 => by rw [U_ne e2, U_ne e1]
  have eib : ∀ q i, (Kib κ p j (some a)).1 q i = if q = p ∧ i = j then some a else κ.1 q i := by
    intro q i
    by_cases e1 : q = p
    · subst e1
      by_cases e2 : i = j
      · simp [Kib, va_up, e2]
      · simp [Kib, va_up, e2]
    · simp [Kib, va_up, e1]
  refine ⟨fun q i hq hi => ?_, fun q i b hq hi h => ?_, fun s i hs hi => ?_, fun s1 j1 s2 j2 b x y z w => by rw [ne 20 (by decide) (by decide)] at z w; exact k4 s1 j1 s2 j2 b x y z w, k5, k6⟩
  · rw [eib, n29]
    by_cases e : q = p ∧ i = j
    · rw [if_pos e, if_pos e]; simp
    · rw [if_neg e, if_neg e]; exact k1 q i hq hi
  · rw [eib] at h
    rw [n29, n30]
    by_cases e : q = p ∧ i = j
    · rw [if_pos e] at h
      cases h
      rw [if_pos e, if_pos e]
      exact ⟨hpr, by have := (k5.2 a hpr).1; omega, by show κ.2.2.2 a 4 + 1 = _; rw [h4], h5⟩
    · rw [if_neg e] at h
      rw [if_neg e, if_neg e]
      exact k2 q i b hq hi h
  · rw [ne 20 (by decide) (by decide)] at hi
    obtain ⟨b, z1, z2, z3, z4⟩ := k3 s i hs hi
    exact ⟨b, z1, z2, z3, fun c hc => by rw [ne (21 + c) (by omega) (by omega)]; exact z4 c hc⟩
/-- p takes message k of its shard -/
def tk1 (σ : Sg) (p k : Nat) : Sg := U σ 27 (p / 4) k (tks (σ 27 (p / 4) k) (p % 4))
def tk2 (σ : Sg) (p k : Nat) : Sg := U (U (tk1 σ p k) 29 p (slt (σ 21 (p / 4) k) (σ 24 (p / 4) k) (σ 22 (p / 4) k)) (σ 25 (p / 4) k + 1)) 30 p (slt (σ 21 (p / 4) k) (σ 24 (p / 4) k) (σ 22 (p / 4) k)) (σ 26 (p / 4) k)
noncomputable def sTake (σ : Sg) (p k : Nat) : Sg := ifP (σ 23 (p / 4) k = σ 10 p 0) (tk2 σ p k) (tk1 σ p k)
/-- p is awake and honest -/
def awake (σ : Sg) (p : Nat) : Prop := σ 0 p 0 = 0 ∧ σ 17 p 0 = 0
def can (σ : Sg) (p k : Nat) : Prop := awake σ p ∧ ¬ σ 27 (p / 4) k / 2 ^ (p % 4) % 2 = 1 ∧ σ 23 (p / 4) k ≤ σ 10 p 0
theorem sS_tk1 {σ : Sg} {p k : Nat} : sS (tk1 σ p k) = sS σ := sS_U (by decide)
theorem sS_tk2 {σ : Sg} {p k : Nat} : sS (tk2 σ p k) = sS σ := by unfold tk2; rw [sS_U (by decide), sS_U (by decide), sS_tk1]
theorem sS_take {σ : Sg} {p k : Nat} : sS (sTake σ p k) = sS σ := by
  unfold sTake
  by_cases h : σ 23 (p / 4) k = σ 10 p 0
  · rw [ifP_t h]; exact sS_tk2
  · rw [ifP_f h]; exact sS_tk1
theorem hC_tk1 {D : va_G} {B : Nat} {σ : Sg} {κ : Kp} {g : Nat → Option va_E} {p k : Nat} : hC D B σ κ g = hC D B (tk1 σ p k) κ g := by
  symm
  refine hC_cgr (fun f hf => ?_)
  unfold tk1
  exact U_ne (by rintro rfl; simp [tidx, pidx, sidx] at hf)
theorem hC_tk2 {D : va_G} {B : Nat} {σ : Sg} {κ : Kp} {g : Nat → Option va_E} {p k : Nat} : hC D B σ κ g = hC D B (tk2 σ p k) κ g := by
  symm
  refine hC_cgr (fun f hf => ?_)
  unfold tk2 tk1
  rw [U_ne (by rintro rfl; simp [tidx, pidx, sidx] at hf), U_ne (by rintro rfl; simp [tidx, pidx, sidx] at hf), U_ne (by rintro rfl; simp [tidx, pidx, sidx] at hf)]
theorem tks_lt : ∀ m, m < 16 → ∀ i, i < 4 → tks m i < 16 := by decide +kernel

set_option maxHeartbeats 4000000 in
set_option maxRecDepth 100000 in
theorem t_Re_acceptN {l : Launch} {D : va_G} {B nx : Nat} {σ : Sg} {κ : Kp} {g : Nat → Option va_E} {p : Nat} : jM (G0 l D) m_Re_accept 0 0 0 [.ref (aP B p + 3), .null] (hC D B σ κ g, nx) (fun v h => v = some (.int (nI 0)) ∧ h = (hC D B σ κ g, nx)) := by
  refine jM.of (by decide +kernel) (Nat.le_of_ble_eq_true rfl) rfl ?_
  first | refine j_aload_n d_Re_accept_0 rfl ?_ | refine j_aload_nq d_Re_accept_0 rfl ?_ | refine j_aload_nN d_Re_accept_0 rfl ?_
  refine j_ifnull (r := none) (t := 33) d_Re_accept_1 (by decide) (fun c1 => ?_) (fun x1 c1 => by cases c1)
  · refine j_iconst (v := nI 0) d_Re_accept_33 (by decide +kernel) ?_
    first | exact jc_t d_Re_accept_34 rfl (by omega) rfl | exact jc_f d_Re_accept_34 rfl (by omega) rfl | exact jc_c d_Re_accept_34 rfl Iff.rfl rfl | exact j_zret d_Re_accept_34 rfl (by decide +kernel) ⟨rfl, rfl⟩

set_option maxHeartbeats 4000000 in
set_option maxRecDepth 100000 in
theorem t_Re_accept_f {l : Launch} {D : va_G} {B nx : Nat} {σ : Sg} {κ : Kp} {g : Nat → Option va_E} {p : Nat} (hp : p < 8) {I : Sg → Prop} {mu : Nat → Sg → Nat} (ok : OkI I mu) (hi : I σ) (kr : KR B σ κ nx) {k a : Nat} (hk : k < σ 20 (p / 4) 0) (ha : κ.2.1 (p / 4) k = some a) (h16 : σ 27 (p / 4) k < 16) (hkd : σ 21 (p / 4) k < 3) (hrd : σ 24 (p / 4) k < 6) (hsd : σ 22 (p / 4) k < 4) (h : ¬ can σ p k) : jM (G0 l D) m_Re_accept 2 0 0 [.ref (aP B p + 3), .ref a] (hC D B σ κ g, nx) (fun v h => v = some (.int (nI 0)) ∧ h = (hC D B σ κ g, nx)) := by
  refine jM.of (by decide +kernel) (Nat.le_of_ble_eq_true rfl) rfl ?_
  have hb := ((ok p hp).1 σ hi).1
  have hs : p / 4 < 2 := by omega
  have hi4 : p % 4 < 4 := Nat.mod_lt _ (by decide)
  obtain ⟨a', ea, hpr, hm, em⟩ := kr.2.2.1 (p / 4) k hs hk
  rw [ha] at ea
  cases ea
  have e0 := em 0 (by decide)
  have e1 := em 1 (by decide)
  have e2 := em 2 (by decide)
  have e3 := em 3 (by decide)
  have e4 := em 4 (by decide)
  have e5 := em 5 (by decide)
  have e6 := em 6 (by decide)
  have b10 := hb 10 p 0
  have b23 := hb 23 (p / 4) k
  have bx := kr.2.2.2.2.2 a 2 hpr
  simp only [Nat.add_zero, Nat.reduceAdd] at e0 e1 e2 e3 e4 e5 e6
  first | refine j_aload_n d_Re_accept_0 rfl ?_ | refine j_aload_nq d_Re_accept_0 rfl ?_ | refine j_aload_nN d_Re_accept_0 rfl ?_
  refine j_ifnull (r := some a) (t := 33) d_Re_accept_1 (by decide) (fun c1 => by cases c1) (fun x1 c1 => ?_)
  first | refine j_aload_n d_Re_accept_4 rfl ?_ | refine j_aload_nq d_Re_accept_4 rfl ?_ | refine j_aload_nN d_Re_accept_4 rfl ?_
  refine j_callV0 (As := []) G0_good G0_E d_Re_accept_5 c_Re_55 rfl rfl (t_Re_isIdle hp hb) (hC_p hp (by decide)) rfl rfl (by decide) (Nat.le_of_ble_eq_true rfl) ?_
  rintro _ _ ⟨rfl, rfl⟩
  first | refine c_if_ne (t := 33) d_Re_accept_8 (by decide) (fun c8 => ?_) (fun c8 => ?_) | refine n_if_ne (t := 33) d_Re_accept_8 (by decide) (by omega) (fun c8 => ?_) (fun c8 => ?_) | refine j_if_ne (t := 33) d_Re_accept_8 (by decide) (fun c8 => ?_) (fun c8 => ?_)
  · refine j_iconst (v := nI 0) d_Re_accept_33 (by decide +kernel) ?_
    exact j_zret d_Re_accept_34 rfl (by decide +kernel) ⟨rfl, rfl⟩
  · first | refine j_aload_n d_Re_accept_11 rfl ?_ | refine j_aload_nq d_Re_accept_11 rfl ?_ | refine j_aload_nN d_Re_accept_11 rfl ?_
    first | refine j_aload_n d_Re_accept_12 rfl ?_ | refine j_aload_nq d_Re_accept_12 rfl ?_ | refine j_aload_nN d_Re_accept_12 rfl ?_
    refine j_get d_Re_accept_13 f_Re_36 (hC_p hp (by decide)) rfl ?_
    refine j_callV0 (As := [_]) G0_good G0_E d_Re_accept_16 c_Re_59 rfl rfl (t_Me_isTakenBy hm hpr (p % 4) hi4 (by rw [e6]; exact h16)) (hC_m hm hpr) rfl rfl (by decide) (Nat.le_of_ble_eq_true rfl) ?_
    rintro _ _ ⟨rfl, rfl⟩
    first | refine c_if_ne (t := 33) d_Re_accept_19 (by decide) (fun c19 => ?_) (fun c19 => ?_) | refine n_if_ne (t := 33) d_Re_accept_19 (by decide) (by omega) (fun c19 => ?_) (fun c19 => ?_) | refine j_if_ne (t := 33) d_Re_accept_19 (by decide) (fun c19 => ?_) (fun c19 => ?_)
    · refine j_iconst (v := nI 0) d_Re_accept_33 (by decide +kernel) ?_
      exact j_zret d_Re_accept_34 rfl (by decide +kernel) ⟨rfl, rfl⟩
    · first | refine j_aload_n d_Re_accept_22 rfl ?_ | refine j_aload_nq d_Re_accept_22 rfl ?_ | refine j_aload_nN d_Re_accept_22 rfl ?_
      refine j_get d_Re_accept_23 f_Re_65 (hC_p hp (by decide)) rfl ?_
      first | refine j_aload_n d_Re_accept_26 rfl ?_ | refine j_aload_nq d_Re_accept_26 rfl ?_ | refine j_aload_nN d_Re_accept_26 rfl ?_
      refine j_get d_Re_accept_27 f_Re_68 (hC_m hm hpr) rfl ?_
      first | refine nn_icmp_ge (t := 35) d_Re_accept_30 (by decide) (by omega) (by omega) (fun c30 => ?_) (fun c30 => ?_) | refine mm_icmp_ge (t := 35) d_Re_accept_30 (by decide) (by omega) (by omega) (fun c30 => ?_) (fun c30 => ?_) | refine mn_icmp_ge (t := 35) d_Re_accept_30 (by decide) (by omega) (by omega) (fun c30 => ?_) (fun c30 => ?_) | refine nm_icmp_ge (t := 35) d_Re_accept_30 (by decide) (by omega) (by omega) (fun c30 => ?_) (fun c30 => ?_) | refine j_icmp_ge (t := 35) d_Re_accept_30 (by decide) (fun c30 => ?_) (fun c30 => ?_)
      · exact absurd ⟨⟨by omega, by omega⟩, by rw [e6] at c19; exact c19, by omega⟩ h
      · refine j_iconst (v := nI 0) d_Re_accept_33 (by decide +kernel) ?_
        exact j_zret d_Re_accept_34 rfl (by decide +kernel) ⟨rfl, rfl⟩

set_option maxHeartbeats 4000000 in
set_option maxRecDepth 100000 in
theorem t_Re_accept_t {l : Launch} {D : va_G} {B nx : Nat} {σ : Sg} {κ : Kp} {g : Nat → Option va_E} {p : Nat} (hp : p < 8) {I : Sg → Prop} {mu : Nat → Sg → Nat} (ok : OkI I mu) (hi : I σ) (kr : KR B σ κ nx) {k a : Nat} (hk : k < σ 20 (p / 4) 0) (ha : κ.2.1 (p / 4) k = some a) (h16 : σ 27 (p / 4) k < 16) (hkd : σ 21 (p / 4) k < 3) (hrd : σ 24 (p / 4) k < 6) (hsd : σ 22 (p / 4) k < 4) (h : can σ p k) (hi' : I (sTake σ p k)) : jM (G0 l D) m_Re_accept 6 (sS (sAct (sTake σ p k) p) - sS σ) (7 * (sS (sAct (sTake σ p k) p) - sS σ)) [.ref (aP B p + 3), .ref a] (hC D B σ κ g, nx) (fun v h => v = some (.int (nI 1)) ∧ ∃ κ' nx', h = (hC D B (sAct (sTake σ p k) p) κ' g, nx') ∧ KR B (sAct (sTake σ p k) p) κ' nx' ∧ nx ≤ nx') := by
  refine jM.of (by decide +kernel) (Nat.le_of_ble_eq_true rfl) rfl ?_
  have hb := ((ok p hp).1 σ hi).1
  have hs : p / 4 < 2 := by omega
  have hi4 : p % 4 < 4 := Nat.mod_lt _ (by decide)
  obtain ⟨a', ea, hpr, hm, em⟩ := kr.2.2.1 (p / 4) k hs hk
  rw [ha] at ea
  cases ea
  have e0 := em 0 (by decide)
  have e1 := em 1 (by decide)
  have e2 := em 2 (by decide)
  have e3 := em 3 (by decide)
  have e4 := em 4 (by decide)
  have e5 := em 5 (by decide)
  have e6 := em 6 (by decide)
  have b10 := hb 10 p 0
  have b23 := hb 23 (p / 4) k
  have bx := kr.2.2.2.2.2 a 2 hpr
  simp only [Nat.add_zero, Nat.reduceAdd] at e0 e1 e2 e3 e4 e5 e6
  first | refine j_aload_n d_Re_accept_0 rfl ?_ | refine j_aload_nq d_Re_accept_0 rfl ?_ | refine j_aload_nN d_Re_accept_0 rfl ?_
  refine j_ifnull (r := some a) (t := 33) d_Re_accept_1 (by decide) (fun c1 => by cases c1) (fun x1 c1 => ?_)
  first | refine j_aload_n d_Re_accept_4 rfl ?_ | refine j_aload_nq d_Re_accept_4 rfl ?_ | refine j_aload_nN d_Re_accept_4 rfl ?_
  refine j_callV0 (As := []) G0_good G0_E d_Re_accept_5 c_Re_55 rfl rfl (t_Re_isIdle hp hb) (hC_p hp (by decide)) rfl rfl (by decide) (Nat.le_of_ble_eq_true rfl) ?_
  rintro _ _ ⟨rfl, rfl⟩
  first | refine c_if_ne (t := 33) d_Re_accept_8 (by decide) (fun c8 => ?_) (fun c8 => ?_) | refine n_if_ne (t := 33) d_Re_accept_8 (by decide) (by omega) (fun c8 => ?_) (fun c8 => ?_) | refine j_if_ne (t := 33) d_Re_accept_8 (by decide) (fun c8 => ?_) (fun c8 => ?_)
  · exfalso
    exact c8.elim (fun z => z h.1.1) (fun z => z h.1.2)
  · first | refine j_aload_n d_Re_accept_11 rfl ?_ | refine j_aload_nq d_Re_accept_11 rfl ?_ | refine j_aload_nN d_Re_accept_11 rfl ?_
    first | refine j_aload_n d_Re_accept_12 rfl ?_ | refine j_aload_nq d_Re_accept_12 rfl ?_ | refine j_aload_nN d_Re_accept_12 rfl ?_
    refine j_get d_Re_accept_13 f_Re_36 (hC_p hp (by decide)) rfl ?_
    refine j_callV0 (As := [_]) G0_good G0_E d_Re_accept_16 c_Re_59 rfl rfl (t_Me_isTakenBy hm hpr (p % 4) hi4 (by rw [e6]; exact h16)) (hC_m hm hpr) rfl rfl (by decide) (Nat.le_of_ble_eq_true rfl) ?_
    rintro _ _ ⟨rfl, rfl⟩
    first | refine c_if_ne (t := 33) d_Re_accept_19 (by decide) (fun c19 => ?_) (fun c19 => ?_) | refine n_if_ne (t := 33) d_Re_accept_19 (by decide) (by omega) (fun c19 => ?_) (fun c19 => ?_) | refine j_if_ne (t := 33) d_Re_accept_19 (by decide) (fun c19 => ?_) (fun c19 => ?_)
    · exfalso
      exact h.2.1 (by rw [← e6]; exact c19)
    · first | refine j_aload_n d_Re_accept_22 rfl ?_ | refine j_aload_nq d_Re_accept_22 rfl ?_ | refine j_aload_nN d_Re_accept_22 rfl ?_
      refine j_get d_Re_accept_23 f_Re_65 (hC_p hp (by decide)) rfl ?_
      first | refine j_aload_n d_Re_accept_26 rfl ?_ | refine j_aload_nq d_Re_accept_26 rfl ?_ | refine j_aload_nN d_Re_accept_26 rfl ?_
      refine j_get d_Re_accept_27 f_Re_68 (hC_m hm hpr) rfl ?_
      first | refine nn_icmp_ge (t := 35) d_Re_accept_30 (by decide) (by omega) (by omega) (fun c30 => ?_) (fun c30 => ?_) | refine mm_icmp_ge (t := 35) d_Re_accept_30 (by decide) (by omega) (by omega) (fun c30 => ?_) (fun c30 => ?_) | refine mn_icmp_ge (t := 35) d_Re_accept_30 (by decide) (by omega) (by omega) (fun c30 => ?_) (fun c30 => ?_) | refine nm_icmp_ge (t := 35) d_Re_accept_30 (by decide) (by omega) (by omega) (fun c30 => ?_) (fun c30 => ?_) | refine j_icmp_ge (t := 35) d_Re_accept_30 (by decide) (fun c30 => ?_) (fun c30 => ?_)
      · first | refine j_aload_n d_Re_accept_35 rfl ?_ | refine j_aload_nq d_Re_accept_35 rfl ?_ | refine j_aload_nN d_Re_accept_35 rfl ?_
        first | refine j_aload_n d_Re_accept_36 rfl ?_ | refine j_aload_nq d_Re_accept_36 rfl ?_ | refine j_aload_nN d_Re_accept_36 rfl ?_
        refine j_get d_Re_accept_37 f_Re_36 (hC_p hp (by decide)) rfl ?_
        refine j_callV0 (As := [_]) G0_good G0_E d_Re_accept_40 c_Re_69 rfl rfl (t_Me_setTakenBy hm hpr (p % 4) hi4 (by rw [e6]; exact h16)) (hC_m hm hpr) rfl rfl (by decide) (Nat.le_of_ble_eq_true rfl) ?_
        rintro _ _ ⟨rfl, rfl⟩
        have hpr1 : (Kmf κ a 6 (tks (κ.2.2.2 a 6) (p % 4))).2.2.1 a = true := hpr
        have f0 : (Kmf κ a 6 (tks (κ.2.2.2 a 6) (p % 4))).2.2.2 a 0 = σ 21 (p / 4) k := by rw [← e0]; simp [Kmf, va_up]
        have f1 : (Kmf κ a 6 (tks (κ.2.2.2 a 6) (p % 4))).2.2.2 a 1 = σ 22 (p / 4) k := by rw [← e1]; simp [Kmf, va_up]
        have f2 : (Kmf κ a 6 (tks (κ.2.2.2 a 6) (p % 4))).2.2.2 a 2 = σ 23 (p / 4) k := by rw [← e2]; simp [Kmf, va_up]
        have f3 : (Kmf κ a 6 (tks (κ.2.2.2 a 6) (p % 4))).2.2.2 a 3 = σ 24 (p / 4) k := by rw [← e3]; simp [Kmf, va_up]
        have f4 : (Kmf κ a 6 (tks (κ.2.2.2 a 6) (p % 4))).2.2.2 a 4 = σ 25 (p / 4) k := by rw [← e4]; simp [Kmf, va_up]
        have f5 : (Kmf κ a 6 (tks (κ.2.2.2 a 6) (p % 4))).2.2.2 a 5 = σ 26 (p / 4) k := by rw [← e5]; simp [Kmf, va_up]
        have kr1 : KR B (tk1 σ p k) (Kmf κ a 6 (tks (κ.2.2.2 a 6) (p % 4))) nx := by
          have := KR_mask (v := tks (σ 27 (p / 4) k) (p % 4)) kr hs hk ha (by have := tks_lt _ h16 _ hi4; omega)
          rw [e6]; exact this
        first | refine j_aload_n d_Re_accept_43 rfl ?_ | refine j_aload_nq d_Re_accept_43 rfl ?_ | refine j_aload_nN d_Re_accept_43 rfl ?_
        refine j_get d_Re_accept_44 f_Re_68 (hC_m hm hpr1) rfl ?_
        first | refine j_aload_n d_Re_accept_47 rfl ?_ | refine j_aload_nq d_Re_accept_47 rfl ?_ | refine j_aload_nN d_Re_accept_47 rfl ?_
        refine j_get d_Re_accept_48 f_Re_65 (hC_p hp (by decide)) rfl ?_
        rw [f2]
        first | refine nn_icmp_ne (t := 62) d_Re_accept_51 (by decide) (by omega) (by omega) (fun c51 => ?_) (fun c51 => ?_) | refine mm_icmp_ne (t := 62) d_Re_accept_51 (by decide) (by omega) (by omega) (fun c51 => ?_) (fun c51 => ?_) | refine mn_icmp_ne (t := 62) d_Re_accept_51 (by decide) (by omega) (by omega) (fun c51 => ?_) (fun c51 => ?_) | refine nm_icmp_ne (t := 62) d_Re_accept_51 (by decide) (by omega) (by omega) (fun c51 => ?_) (fun c51 => ?_) | refine j_icmp_ne (t := 62) d_Re_accept_51 (by decide) (fun c51 => ?_) (fun c51 => ?_)
        · have e : sTake σ p k = tk1 σ p k := by rw [sTake, ifP_f c51]
          rw [e] at hi' ⊢
          rw [← sS_tk1 (σ := σ) (p := p) (k := k)]
          refine J.hq (hC_tk1 (p := p) (k := k)) ?_
          first | refine j_aload_n d_Re_accept_62 rfl ?_ | refine j_aload_nq d_Re_accept_62 rfl ?_ | refine j_aload_nN d_Re_accept_62 rfl ?_
          refine j_callV1 (As := []) G0_good G0_E d_Re_accept_63 c_Re_77 rfl rfl (t_Re_act (σ := tk1 σ p k) hp ok (by first | exact hi' | (rw [sTake, ifP_f c51] at hi'; exact hi')) kr1) (hC_p hp (by decide)) rfl rfl (by decide) (Nat.le_of_ble_eq_true rfl) ?_
          rintro _ _ ⟨rfl, κ', nx', rfl, kr', hle⟩
          refine j_iconst (v := nI 1) d_Re_accept_66 (by decide +kernel) ?_
          exact j_zret d_Re_accept_67 rfl (by decide +kernel) ⟨rfl, κ', nx', rfl, kr', hle⟩
        · first | refine j_aload_n d_Re_accept_54 rfl ?_ | refine j_aload_nq d_Re_accept_54 rfl ?_ | refine j_aload_nN d_Re_accept_54 rfl ?_
          refine j_get d_Re_accept_55 f_Re_12 (hC_p hp (by decide)) rfl ?_
          first | refine j_aload_n d_Re_accept_58 rfl ?_ | refine j_aload_nq d_Re_accept_58 rfl ?_ | refine j_aload_nN d_Re_accept_58 rfl ?_
          refine j_callV0 (As := [_]) G0_good G0_E d_Re_accept_59 c_Re_73 rfl rfl (t_In_put hp hm hpr1 (by rw [f0]; exact hkd) (by rw [f3]; exact hrd) (by rw [f1]; exact hsd)) (hC_p hp (by decide)) rfl rfl (by decide) (Nat.le_of_ble_eq_true rfl) ?_
          rintro _ _ ⟨rfl, rfl⟩
          have e : sTake σ p k = tk2 σ p k := by rw [sTake, ifP_t c51]
          rw [e] at hi' ⊢
          rw [← sS_tk2 (σ := σ) (p := p) (k := k)]
          rw [f0, f1, f3]
          have kr2 : KR B (tk2 σ p k) (Kib (Kmf κ a 6 (tks (κ.2.2.2 a 6) (p % 4))) p (slt (σ 21 (p / 4) k) (σ 24 (p / 4) k) (σ 22 (p / 4) k)) (some a)) nx := KR_put kr1 hpr1 f4 f5
          refine J.hq (hC_tk2 (p := p) (k := k)) ?_
          first | refine j_aload_n d_Re_accept_62 rfl ?_ | refine j_aload_nq d_Re_accept_62 rfl ?_ | refine j_aload_nN d_Re_accept_62 rfl ?_
          refine j_callV1 (As := []) G0_good G0_E d_Re_accept_63 c_Re_77 rfl rfl (t_Re_act (σ := tk2 σ p k) hp ok (by first | exact hi' | (rw [sTake, ifP_t c51] at hi'; exact hi')) kr2) (hC_p hp (by decide)) rfl rfl (by decide) (Nat.le_of_ble_eq_true rfl) ?_
          rintro _ _ ⟨rfl, κ', nx', rfl, kr', hle⟩
          refine j_iconst (v := nI 1) d_Re_accept_66 (by decide +kernel) ?_
          exact j_zret d_Re_accept_67 rfl (by decide +kernel) ⟨rfl, κ', nx', rfl, kr', hle⟩
      · exfalso
        have := h.2.2
        omega
