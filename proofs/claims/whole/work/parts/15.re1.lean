/-! Replica: what it reads (g_re1.py) -/
/-- the leader of a round at p's height -/
def ld (σ : Sg) (p r : Nat) : Nat := (σ 10 p 0 + r) % 4
theorem ld_lt {σ : Sg} {p r : Nat} : ld σ p r < 4 := Nat.mod_lt _ (by decide)
/-- request q is good for p -/
def gdn (σ : Sg) (p q : Nat) : Prop := q < σ 34 0 0 ∧ σ 5 0 q = p / 4 ∧ ∀ k, k < σ 10 p 0 → k < 16 → ¬ σ 18 p k = q
def gd (σ : Sg) (p x : Nat) : Prop := ¬ x = 0 ∧ gdn σ p (x - 1)
/-- the first place from r on, within m, with P: one higher; 0 if there is none -/
noncomputable def srch (P : Nat → Prop) : Nat → Nat → Nat
  | 0, _ => 0
  | m + 1, r => ifP (P r) (r + 1) (srch P m (r + 1))
theorem srch_t {P : Nat → Prop} {m r : Nat} (h : P r) : srch P (m + 1) r = r + 1 := by unfold srch; rw [ifP_t h]
theorem srch_f {P : Nat → Prop} {m r : Nat} (h : ¬ P r) : srch P (m + 1) r = srch P m (r + 1) := by
  conv => lhs; unfold srch
  rw [ifP_f h]
theorem srch_spec {P : Nat → Prop} : ∀ {m r x : Nat}, srch P m r = x + 1 → r ≤ x ∧ x < r + m ∧ P x
  | 0, r, x, h => by simp [srch] at h
  | m + 1, r, x, h => by
    by_cases q : P r
    · rw [srch_t q] at h
      have : r = x := by omega
      subst this
      exact ⟨by omega, by omega, q⟩
    · rw [srch_f q] at h
      have := srch_spec h
      exact ⟨by omega, by omega, this.2.2⟩
/-- the proposal of round r: 0 or its request, two higher -/
def prp (σ : Sg) (p r : Nat) : Nat := σ 29 p (slt 0 r (ld σ p r))
def prc (σ : Sg) (p r : Nat) : Nat := σ 30 p (slt 0 r (ld σ p r))
/-- in round r a good request was proposed and sealed by three -/
def sealAt (σ : Sg) (p r : Nat) : Prop := ¬ prp σ p r = 0 ∧ gd σ p (prp σ p r - 1) ∧ 3 ≤ cq σ p 2 r (prp σ p r - 1) 4
/-- what is sealed: 0 or the request, one higher -/
noncomputable def sealed (σ : Sg) (p : Nat) : Nat := ifP (srch (sealAt σ p) 6 0 = 0) 0 (prp σ p (srch (sealAt σ p) 6 0 - 1) - 1)
/-- messages with round r of two senders -/
def joinAt (σ : Sg) (p r : Nat) : Prop := 2 ≤ cs σ p r (ld σ p r) 4
/-- a proposal's votes are here, or none are wanted -/
def backed (σ : Sg) (p x c : Nat) : Prop := c = 0 ∨ σ 11 p 0 + 1 ≤ c ∨ 3 ≤ cq σ p 1 (c - 1) x 4
def welcome (σ : Sg) (p x c : Nat) : Prop := gd σ p x ∧ c < σ 11 p 0 + 1 ∧ (σ 13 p 0 = 0 ∨ σ 13 p 0 = x ∨ (¬ c = 0 ∧ σ 14 p 0 ≤ c))

set_option maxHeartbeats 4000000 in
set_option maxRecDepth 100000 in
theorem t_Re_tell0 {l : Launch} {D : va_G} {B nx : Nat} {σ : Sg} {κ : Kp} {g : Nat → Option va_E} {p : Nat} (hp : p < 8) : jM (G0 l D) m_Re_tell 0 0 0 [.ref (aP B p + 3), .int (nI 0)] (hC D B σ κ g, nx) (fun v h => v = some (.int (nI (σ 10 p 0))) ∧ h = (hC D B σ κ g, nx)) := by
  refine jM.of (by decide +kernel) (Nat.le_of_ble_eq_true rfl) rfl ?_
  refine j_iload_n d_Re_tell_0 rfl ?_
  refine j_tableIn (t := 44) (o := 43) d_Re_tell_1 (by decide +kernel) (by decide +kernel) (by decide +kernel) (by decide) ?_
  first | refine j_aload_n d_Re_tell_44 rfl ?_ | refine j_aload_nq d_Re_tell_44 rfl ?_ | refine j_aload_nN d_Re_tell_44 rfl ?_
  refine j_get d_Re_tell_45 f_Re_65 (hC_p hp (by decide)) rfl ?_
  exact j_iret d_Re_tell_48 rfl ⟨rfl, rfl⟩

set_option maxHeartbeats 4000000 in
set_option maxRecDepth 100000 in
theorem t_Re_tell1 {l : Launch} {D : va_G} {B nx : Nat} {σ : Sg} {κ : Kp} {g : Nat → Option va_E} {p : Nat} (hp : p < 8) : jM (G0 l D) m_Re_tell 0 0 0 [.ref (aP B p + 3), .int (nI 1)] (hC D B σ κ g, nx) (fun v h => v = some (.int (nI (σ 11 p 0))) ∧ h = (hC D B σ κ g, nx)) := by
  refine jM.of (by decide +kernel) (Nat.le_of_ble_eq_true rfl) rfl ?_
  refine j_iload_n d_Re_tell_0 rfl ?_
  refine j_tableIn (t := 49) (o := 48) d_Re_tell_1 (by decide +kernel) (by decide +kernel) (by decide +kernel) (by decide) ?_
  first | refine j_aload_n d_Re_tell_49 rfl ?_ | refine j_aload_nq d_Re_tell_49 rfl ?_ | refine j_aload_nN d_Re_tell_49 rfl ?_
  refine j_get d_Re_tell_50 f_Re_93 (hC_p hp (by decide)) rfl ?_
  exact j_iret d_Re_tell_53 rfl ⟨rfl, rfl⟩

set_option maxHeartbeats 4000000 in
set_option maxRecDepth 100000 in
theorem t_Re_tell2 {l : Launch} {D : va_G} {B nx : Nat} {σ : Sg} {κ : Kp} {g : Nat → Option va_E} {p : Nat} (hp : p < 8) : jM (G0 l D) m_Re_tell 0 0 0 [.ref (aP B p + 3), .int (nI 2)] (hC D B σ κ g, nx) (fun v h => v = some (.int (nI (σ 12 p 0))) ∧ h = (hC D B σ κ g, nx)) := by
  refine jM.of (by decide +kernel) (Nat.le_of_ble_eq_true rfl) rfl ?_
  refine j_iload_n d_Re_tell_0 rfl ?_
  refine j_tableIn (t := 54) (o := 53) d_Re_tell_1 (by decide +kernel) (by decide +kernel) (by decide +kernel) (by decide) ?_
  first | refine j_aload_n d_Re_tell_54 rfl ?_ | refine j_aload_nq d_Re_tell_54 rfl ?_ | refine j_aload_nN d_Re_tell_54 rfl ?_
  refine j_get d_Re_tell_55 f_Re_87 (hC_p hp (by decide)) rfl ?_
  exact j_iret d_Re_tell_58 rfl ⟨rfl, rfl⟩

set_option maxHeartbeats 4000000 in
set_option maxRecDepth 100000 in
theorem t_Re_tell3 {l : Launch} {D : va_G} {B nx : Nat} {σ : Sg} {κ : Kp} {g : Nat → Option va_E} {p : Nat} (hp : p < 8) : jM (G0 l D) m_Re_tell 0 0 0 [.ref (aP B p + 3), .int (nI 3)] (hC D B σ κ g, nx) (fun v h => v = some (.int (mI (σ 13 p 0))) ∧ h = (hC D B σ κ g, nx)) := by
  refine jM.of (by decide +kernel) (Nat.le_of_ble_eq_true rfl) rfl ?_
  refine j_iload_n d_Re_tell_0 rfl ?_
  refine j_tableIn (t := 59) (o := 58) d_Re_tell_1 (by decide +kernel) (by decide +kernel) (by decide +kernel) (by decide) ?_
  first | refine j_aload_n d_Re_tell_59 rfl ?_ | refine j_aload_nq d_Re_tell_59 rfl ?_ | refine j_aload_nN d_Re_tell_59 rfl ?_
  refine j_get d_Re_tell_60 f_Re_21 (hC_p hp (by decide)) rfl ?_
  refine j_get d_Re_tell_63 f_Re_128 (hC_p hp (by decide)) rfl ?_
  exact j_iret d_Re_tell_66 rfl ⟨rfl, rfl⟩

set_option maxHeartbeats 4000000 in
set_option maxRecDepth 100000 in
theorem t_Re_tell4 {l : Launch} {D : va_G} {B nx : Nat} {σ : Sg} {κ : Kp} {g : Nat → Option va_E} {p : Nat} (hp : p < 8) : jM (G0 l D) m_Re_tell 0 0 0 [.ref (aP B p + 3), .int (nI 4)] (hC D B σ κ g, nx) (fun v h => v = some (.int (mI (σ 14 p 0))) ∧ h = (hC D B σ κ g, nx)) := by
  refine jM.of (by decide +kernel) (Nat.le_of_ble_eq_true rfl) rfl ?_
  refine j_iload_n d_Re_tell_0 rfl ?_
  refine j_tableIn (t := 67) (o := 66) d_Re_tell_1 (by decide +kernel) (by decide +kernel) (by decide +kernel) (by decide) ?_
  first | refine j_aload_n d_Re_tell_67 rfl ?_ | refine j_aload_nq d_Re_tell_67 rfl ?_ | refine j_aload_nN d_Re_tell_67 rfl ?_
  refine j_get d_Re_tell_68 f_Re_21 (hC_p hp (by decide)) rfl ?_
  refine j_get d_Re_tell_71 f_Re_131 (hC_p hp (by decide)) rfl ?_
  exact j_iret d_Re_tell_74 rfl ⟨rfl, rfl⟩

set_option maxHeartbeats 4000000 in
set_option maxRecDepth 100000 in
theorem t_Re_tell5 {l : Launch} {D : va_G} {B nx : Nat} {σ : Sg} {κ : Kp} {g : Nat → Option va_E} {p : Nat} (hp : p < 8) : jM (G0 l D) m_Re_tell 0 0 0 [.ref (aP B p + 3), .int (nI 5)] (hC D B σ κ g, nx) (fun v h => v = some (.int (mI (σ 15 p 0))) ∧ h = (hC D B σ κ g, nx)) := by
  refine jM.of (by decide +kernel) (Nat.le_of_ble_eq_true rfl) rfl ?_
  refine j_iload_n d_Re_tell_0 rfl ?_
  refine j_tableIn (t := 75) (o := 74) d_Re_tell_1 (by decide +kernel) (by decide +kernel) (by decide +kernel) (by decide) ?_
  first | refine j_aload_n d_Re_tell_75 rfl ?_ | refine j_aload_nq d_Re_tell_75 rfl ?_ | refine j_aload_nN d_Re_tell_75 rfl ?_
  refine j_get d_Re_tell_76 f_Re_25 (hC_p hp (by decide)) rfl ?_
  refine j_get d_Re_tell_79 f_Re_128 (hC_p hp (by decide)) rfl ?_
  exact j_iret d_Re_tell_82 rfl ⟨rfl, rfl⟩

set_option maxHeartbeats 4000000 in
set_option maxRecDepth 100000 in
theorem t_Re_tell6 {l : Launch} {D : va_G} {B nx : Nat} {σ : Sg} {κ : Kp} {g : Nat → Option va_E} {p : Nat} (hp : p < 8) : jM (G0 l D) m_Re_tell 0 0 0 [.ref (aP B p + 3), .int (nI 6)] (hC D B σ κ g, nx) (fun v h => v = some (.int (mI (σ 16 p 0))) ∧ h = (hC D B σ κ g, nx)) := by
  refine jM.of (by decide +kernel) (Nat.le_of_ble_eq_true rfl) rfl ?_
  refine j_iload_n d_Re_tell_0 rfl ?_
  refine j_tableIn (t := 83) (o := 82) d_Re_tell_1 (by decide +kernel) (by decide +kernel) (by decide +kernel) (by decide) ?_
  first | refine j_aload_n d_Re_tell_83 rfl ?_ | refine j_aload_nq d_Re_tell_83 rfl ?_ | refine j_aload_nN d_Re_tell_83 rfl ?_
  refine j_get d_Re_tell_84 f_Re_25 (hC_p hp (by decide)) rfl ?_
  refine j_get d_Re_tell_87 f_Re_131 (hC_p hp (by decide)) rfl ?_
  exact j_iret d_Re_tell_90 rfl ⟨rfl, rfl⟩

set_option maxHeartbeats 4000000 in
set_option maxRecDepth 100000 in
theorem t_Re_tellO {l : Launch} {D : va_G} {B nx : Nat} {σ : Sg} {κ : Kp} {g : Nat → Option va_E} {p : Nat} (hp : p < 8) (x : Int32) (hout : x.toInt < 0 ∨ 6 < x.toInt) : jM (G0 l D) m_Re_tell 0 0 0 [.ref (aP B p + 3), .int x] (hC D B σ κ g, nx) (fun v h => v = some (.int (-2)) ∧ h = (hC D B σ κ g, nx)) := by
  refine jM.of (by decide +kernel) (Nat.le_of_ble_eq_true rfl) rfl ?_
  refine j_iload_n d_Re_tell_0 rfl ?_
  refine j_tableOut (t := 91) d_Re_tell_1 hout (by decide) ?_
  refine j_bipush (v := (-2)) d_Re_tell_91 (by decide +kernel) ?_
  exact j_iret d_Re_tell_93 rfl ⟨rfl, rfl⟩

set_option maxHeartbeats 4000000 in
set_option maxRecDepth 100000 in
theorem t_Re_executedAt {l : Launch} {D : va_G} {B nx : Nat} {σ : Sg} {κ : Kp} {g : Nat → Option va_E} {p : Nat} (hp : p < 8) (hb : bd σ) (h16 : σ 10 p 0 ≤ 16) (k : Nat) (hk : k < σ 10 p 0) : jM (G0 l D) m_Re_executedAt 0 0 0 [.ref (aP B p + 3), .int (nI k)] (hC D B σ κ g, nx) (fun v h => v = some (.int (nI (σ 18 p k))) ∧ h = (hC D B σ κ g, nx)) := by
  refine jM.of (by decide +kernel) (Nat.le_of_ble_eq_true rfl) rfl ?_
  have b10 := hb 10 p 0
  refine j_iload_n d_Re_executedAt_0 rfl ?_
  first | refine m_if_lt (t := 30) d_Re_executedAt_1 (by decide) (by omega) (fun c1 => ?_) (fun c1 => ?_) | refine n_if_lt (t := 30) d_Re_executedAt_1 (by decide) (by omega) (fun c1 => ?_) (fun c1 => ?_) | refine j_if_lt (t := 30) d_Re_executedAt_1 (by decide) (fun c1 => ?_) (fun c1 => ?_)
  · exfalso; first | exact c1 | omega
  · refine j_iload_n d_Re_executedAt_4 rfl ?_
    first | refine j_aload_n d_Re_executedAt_5 rfl ?_ | refine j_aload_nq d_Re_executedAt_5 rfl ?_ | refine j_aload_nN d_Re_executedAt_5 rfl ?_
    refine j_get d_Re_executedAt_6 f_Re_65 (hC_p hp (by decide)) rfl ?_
    first | refine nn_icmp_ge (t := 30) d_Re_executedAt_9 (by decide) (by omega) (by omega) (fun c9 => ?_) (fun c9 => ?_) | refine mm_icmp_ge (t := 30) d_Re_executedAt_9 (by decide) (by omega) (by omega) (fun c9 => ?_) (fun c9 => ?_) | refine mn_icmp_ge (t := 30) d_Re_executedAt_9 (by decide) (by omega) (by omega) (fun c9 => ?_) (fun c9 => ?_) | refine nm_icmp_ge (t := 30) d_Re_executedAt_9 (by decide) (by omega) (by omega) (fun c9 => ?_) (fun c9 => ?_) | refine j_icmp_ge (t := 30) d_Re_executedAt_9 (by decide) (fun c9 => ?_) (fun c9 => ?_)
    · exfalso; first | exact c9 | omega
    · refine j_iload_n d_Re_executedAt_12 rfl ?_
      first | refine j_aload_n d_Re_executedAt_13 rfl ?_ | refine j_aload_nq d_Re_executedAt_13 rfl ?_ | refine j_aload_nN d_Re_executedAt_13 rfl ?_
      refine j_get d_Re_executedAt_14 f_Re_28 (hC_p hp (by decide)) rfl ?_
      refine j_alen (t := 0) (v := nI 16) d_Re_executedAt_17 rfl (hC_p hp (by decide)) rfl ?_
      first | refine nn_icmp_ge (t := 30) d_Re_executedAt_18 (by decide) (by omega) (by omega) (fun c18 => ?_) (fun c18 => ?_) | refine mm_icmp_ge (t := 30) d_Re_executedAt_18 (by decide) (by omega) (by omega) (fun c18 => ?_) (fun c18 => ?_) | refine mn_icmp_ge (t := 30) d_Re_executedAt_18 (by decide) (by omega) (by omega) (fun c18 => ?_) (fun c18 => ?_) | refine nm_icmp_ge (t := 30) d_Re_executedAt_18 (by decide) (by omega) (by omega) (fun c18 => ?_) (fun c18 => ?_) | refine j_icmp_ge (t := 30) d_Re_executedAt_18 (by decide) (fun c18 => ?_) (fun c18 => ?_)
      · exfalso; first | exact c18 | omega
      · first | refine j_aload_n d_Re_executedAt_21 rfl ?_ | refine j_aload_nq d_Re_executedAt_21 rfl ?_ | refine j_aload_nN d_Re_executedAt_21 rfl ?_
        refine j_get d_Re_executedAt_22 f_Re_28 (hC_p hp (by decide)) rfl ?_
        refine j_iload_n d_Re_executedAt_25 rfl ?_
        refine j_iald (t := 0) d_Re_executedAt_26 rfl (hC_p hp (by decide)) rfl (by omega) (by decide) ?_
        refine j_goto (t := 31) d_Re_executedAt_27 (by decide) ?_
        exact j_iret d_Re_executedAt_31 rfl ⟨rfl, rfl⟩

set_option maxHeartbeats 4000000 in
set_option maxRecDepth 100000 in
theorem t_Re_executedAtO {l : Launch} {D : va_G} {B nx : Nat} {σ : Sg} {κ : Kp} {g : Nat → Option va_E} {p : Nat} (hp : p < 8) (hb : bd σ) (x : Int32) (hx : ¬ inr x (σ 10 p 0)) : jM (G0 l D) m_Re_executedAt 0 0 0 [.ref (aP B p + 3), .int x] (hC D B σ κ g, nx) (fun v h => v = some (.int (mI 0)) ∧ h = (hC D B σ κ g, nx)) := by
  refine jM.of (by decide +kernel) (Nat.le_of_ble_eq_true rfl) rfl ?_
  have b10 := hb 10 p 0
  refine j_iload_n d_Re_executedAt_0 rfl ?_
  first | refine m_if_lt (t := 30) d_Re_executedAt_1 (by decide) (by omega) (fun c1 => ?_) (fun c1 => ?_) | refine n_if_lt (t := 30) d_Re_executedAt_1 (by decide) (by omega) (fun c1 => ?_) (fun c1 => ?_) | refine j_if_lt (t := 30) d_Re_executedAt_1 (by decide) (fun c1 => ?_) (fun c1 => ?_)
  · refine j_iconst (v := mI 0) d_Re_executedAt_30 (by decide +kernel) ?_
    exact j_iret d_Re_executedAt_31 rfl ⟨rfl, rfl⟩
  · refine j_iload_n d_Re_executedAt_4 rfl ?_
    first | refine j_aload_n d_Re_executedAt_5 rfl ?_ | refine j_aload_nq d_Re_executedAt_5 rfl ?_ | refine j_aload_nN d_Re_executedAt_5 rfl ?_
    refine j_get d_Re_executedAt_6 f_Re_65 (hC_p hp (by decide)) rfl ?_
    first | refine nn_icmp_ge (t := 30) d_Re_executedAt_9 (by decide) (by omega) (by omega) (fun c9 => ?_) (fun c9 => ?_) | refine mm_icmp_ge (t := 30) d_Re_executedAt_9 (by decide) (by omega) (by omega) (fun c9 => ?_) (fun c9 => ?_) | refine mn_icmp_ge (t := 30) d_Re_executedAt_9 (by decide) (by omega) (by omega) (fun c9 => ?_) (fun c9 => ?_) | refine nm_icmp_ge (t := 30) d_Re_executedAt_9 (by decide) (by omega) (by omega) (fun c9 => ?_) (fun c9 => ?_) | refine j_icmp_ge (t := 30) d_Re_executedAt_9 (by decide) (fun c9 => ?_) (fun c9 => ?_)
    · refine j_iconst (v := mI 0) d_Re_executedAt_30 (by decide +kernel) ?_
      exact j_iret d_Re_executedAt_31 rfl ⟨rfl, rfl⟩
    · exact absurd ⟨c1, c9⟩ hx

set_option maxHeartbeats 4000000 in
set_option maxRecDepth 100000 in
theorem t_Re_isIdle {l : Launch} {D : va_G} {B nx : Nat} {σ : Sg} {κ : Kp} {g : Nat → Option va_E} {p : Nat} (hp : p < 8) (hb : bd σ) : jM (G0 l D) m_Re_isIdle 0 0 0 [.ref (aP B p + 3)] (hC D B σ κ g, nx) (fun v h => v = some (.int (cI (¬ σ 0 p 0 = 0 ∨ ¬ σ 17 p 0 = 0))) ∧ h = (hC D B σ κ g, nx)) := by
  refine jM.of (by decide +kernel) (Nat.le_of_ble_eq_true rfl) rfl ?_
  have b0 := hb 0 p 0
  have b17 := hb 17 p 0
  first | refine j_aload_n d_Re_isIdle_0 rfl ?_ | refine j_aload_nq d_Re_isIdle_0 rfl ?_ | refine j_aload_nN d_Re_isIdle_0 rfl ?_
  refine j_get d_Re_isIdle_1 f_Re_39 (hC_p hp (by decide)) rfl ?_
  first | refine c_if_ne (t := 14) d_Re_isIdle_4 (by decide) (fun c4 => ?_) (fun c4 => ?_) | refine n_if_ne (t := 14) d_Re_isIdle_4 (by decide) (by omega) (fun c4 => ?_) (fun c4 => ?_) | refine j_if_ne (t := 14) d_Re_isIdle_4 (by decide) (fun c4 => ?_) (fun c4 => ?_)
  · refine j_iconst (v := nI 1) d_Re_isIdle_14 (by decide +kernel) ?_
    refine j_goto (t := 19) d_Re_isIdle_15 (by decide) ?_
    first | exact jc_t d_Re_isIdle_19 rfl (by omega) rfl | exact jc_f d_Re_isIdle_19 rfl (by omega) rfl | exact jc_c d_Re_isIdle_19 rfl Iff.rfl rfl | exact j_zret d_Re_isIdle_19 rfl (by decide +kernel) ⟨rfl, rfl⟩
  · first | refine j_aload_n d_Re_isIdle_7 rfl ?_ | refine j_aload_nq d_Re_isIdle_7 rfl ?_ | refine j_aload_nN d_Re_isIdle_7 rfl ?_
    refine j_get d_Re_isIdle_8 f_Re_106 (hC_p hp (by decide)) rfl ?_
    first | refine c_if_eq (t := 18) d_Re_isIdle_11 (by decide) (fun c11 => ?_) (fun c11 => ?_) | refine n_if_eq (t := 18) d_Re_isIdle_11 (by decide) (by omega) (fun c11 => ?_) (fun c11 => ?_) | refine j_if_eq (t := 18) d_Re_isIdle_11 (by decide) (fun c11 => ?_) (fun c11 => ?_)
    · refine j_iconst (v := nI 0) d_Re_isIdle_18 (by decide +kernel) ?_
      first | exact jc_t d_Re_isIdle_19 rfl (by omega) rfl | exact jc_f d_Re_isIdle_19 rfl (by omega) rfl | exact jc_c d_Re_isIdle_19 rfl Iff.rfl rfl | exact j_zret d_Re_isIdle_19 rfl (by decide +kernel) ⟨rfl, rfl⟩
    · refine j_iconst (v := nI 1) d_Re_isIdle_14 (by decide +kernel) ?_
      refine j_goto (t := 19) d_Re_isIdle_15 (by decide) ?_
      first | exact jc_t d_Re_isIdle_19 rfl (by omega) rfl | exact jc_f d_Re_isIdle_19 rfl (by omega) rfl | exact jc_c d_Re_isIdle_19 rfl Iff.rfl rfl | exact j_zret d_Re_isIdle_19 rfl (by decide +kernel) ⟨rfl, rfl⟩

set_option maxHeartbeats 4000000 in
set_option maxRecDepth 100000 in
theorem t_Re_leaderOf {l : Launch} {D : va_G} {B nx : Nat} {σ : Sg} {κ : Kp} {g : Nat → Option va_E} {p : Nat} (hp : p < 8) (hb : bd σ) (r : Nat) (hr : r < 100) : jM (G0 l D) m_Re_leaderOf 0 0 0 [.ref (aP B p + 3), .int (nI r)] (hC D B σ κ g, nx) (fun v h => v = some (.int (nI (ld σ p r))) ∧ h = (hC D B σ κ g, nx)) := by
  refine jM.of (by decide +kernel) (Nat.le_of_ble_eq_true rfl) rfl ?_
  have b10 := hb 10 p 0
  first | refine j_aload_n d_Re_leaderOf_0 rfl ?_ | refine j_aload_nq d_Re_leaderOf_0 rfl ?_ | refine j_aload_nN d_Re_leaderOf_0 rfl ?_
  refine j_get d_Re_leaderOf_1 f_Re_65 (hC_p hp (by decide)) rfl ?_
  refine j_iload_n d_Re_leaderOf_4 rfl ?_
  refine jn_iadd d_Re_leaderOf_5 ?_
  refine j_iconst (v := nI 4) d_Re_leaderOf_6 (by decide +kernel) ?_
  refine jn_irem d_Re_leaderOf_7 (by omega) (by decide) (by decide) ?_
  exact j_iret d_Re_leaderOf_8 rfl ⟨rfl, rfl⟩

set_option maxHeartbeats 4000000 in
set_option maxRecDepth 100000 in
theorem t_Re_enterRound {l : Launch} {D : va_G} {B nx : Nat} {σ : Sg} {κ : Kp} {g : Nat → Option va_E} {p : Nat} (hp : p < 8) (r : Nat) : jM (G0 l D) m_Re_enterRound 0 0 0 [.ref (aP B p + 3), .int (nI r)] (hC D B σ κ g, nx) (fun v h => v = none ∧ h = (hC D B (U (U σ 11 p 0 r) 12 p 0 0) κ g, nx)) := by
  refine jM.of (by decide +kernel) (Nat.le_of_ble_eq_true rfl) rfl ?_
  first | refine j_aload_n d_Re_enterRound_0 rfl ?_ | refine j_aload_nq d_Re_enterRound_0 rfl ?_ | refine j_aload_nN d_Re_enterRound_0 rfl ?_
  refine j_iload_n d_Re_enterRound_1 rfl ?_
  refine j_put d_Re_enterRound_2 p_Re_93 (hC_p hp (by decide)) rfl (by first | rfl | decide +kernel) (Nat.le_of_ble_eq_true rfl) (J.hq (w11 hp) ?_)
  first | refine j_aload_n d_Re_enterRound_5 rfl ?_ | refine j_aload_nq d_Re_enterRound_5 rfl ?_ | refine j_aload_nN d_Re_enterRound_5 rfl ?_
  refine j_iconst (v := nI 0) d_Re_enterRound_6 (by decide +kernel) ?_
  refine j_put d_Re_enterRound_7 p_Re_87 (hC_p hp (by decide)) rfl (by first | rfl | decide +kernel) (Nat.le_of_ble_eq_true rfl) (J.hq (w12 hp) ?_)
  exact j_vret d_Re_enterRound_10 rfl ⟨rfl, rfl⟩

set_option maxHeartbeats 4000000 in
set_option maxRecDepth 100000 in
theorem lp_Re_isGood {l : Launch} {D : va_G} {B nx : Nat} {σ : Sg} {κ : Kp} {g : Nat → Option va_E} {p : Nat} (hp : p < 8) (hb : bd σ) (h32 : σ 34 0 0 ≤ 32) (q : Nat) (hq : q < 100000) (h1 : q < σ 34 0 0) (h2 : σ 5 0 q = p / 4) : ∀ (m : Nat) (k : Nat), k ≤ 16 → 16 - k < m → k ≤ σ 10 p 0 → (∀ j, j < k → ¬ σ 18 p j = q) → J (G0 l D) jT m_Re_isGood 1 (fun v h => v = some (.int (cI (gdn σ p q))) ∧ h = (hC D B σ κ g, nx)) 0 0 19 [some (.ref (aP B p + 3)), some (.int (nI q)), some (.int (nI k))] [] (hC D B σ κ g, nx) := by
  intro m
  induction m with
  | zero =>
    intros
    exfalso
    omega
  | succ m ih =>
    intro k k1 k2 k3 hn
    have b10 := hb 10 p 0
    have b18 := hb 18 p k
    refine j_iload_n d_Re_isGood_19 rfl ?_
    first | refine j_aload_n d_Re_isGood_20 rfl ?_ | refine j_aload_nq d_Re_isGood_20 rfl ?_ | refine j_aload_nN d_Re_isGood_20 rfl ?_
    refine j_get d_Re_isGood_21 f_Re_65 (hC_p hp (by decide)) rfl ?_
    first | refine nn_icmp_ge (t := 54) d_Re_isGood_24 (by decide) (by omega) (by omega) (fun c24 => ?_) (fun c24 => ?_) | refine mm_icmp_ge (t := 54) d_Re_isGood_24 (by decide) (by omega) (by omega) (fun c24 => ?_) (fun c24 => ?_) | refine mn_icmp_ge (t := 54) d_Re_isGood_24 (by decide) (by omega) (by omega) (fun c24 => ?_) (fun c24 => ?_) | refine nm_icmp_ge (t := 54) d_Re_isGood_24 (by decide) (by omega) (by omega) (fun c24 => ?_) (fun c24 => ?_) | refine j_icmp_ge (t := 54) d_Re_isGood_24 (by decide) (fun c24 => ?_) (fun c24 => ?_)
    · refine j_iconst (v := nI 1) d_Re_isGood_54 (by decide +kernel) ?_
      exact jc_t d_Re_isGood_55 rfl ⟨h1, h2, fun j hj _ => hn j (by omega)⟩ rfl
    · refine j_iload_n d_Re_isGood_27 rfl ?_
      first | refine j_aload_n d_Re_isGood_28 rfl ?_ | refine j_aload_nq d_Re_isGood_28 rfl ?_ | refine j_aload_nN d_Re_isGood_28 rfl ?_
      refine j_get d_Re_isGood_29 f_Re_28 (hC_p hp (by decide)) rfl ?_
      refine j_alen (t := 0) (v := nI 16) d_Re_isGood_32 rfl (hC_p hp (by decide)) rfl ?_
      first | refine nn_icmp_ge (t := 54) d_Re_isGood_33 (by decide) (by omega) (by omega) (fun c33 => ?_) (fun c33 => ?_) | refine mm_icmp_ge (t := 54) d_Re_isGood_33 (by decide) (by omega) (by omega) (fun c33 => ?_) (fun c33 => ?_) | refine mn_icmp_ge (t := 54) d_Re_isGood_33 (by decide) (by omega) (by omega) (fun c33 => ?_) (fun c33 => ?_) | refine nm_icmp_ge (t := 54) d_Re_isGood_33 (by decide) (by omega) (by omega) (fun c33 => ?_) (fun c33 => ?_) | refine j_icmp_ge (t := 54) d_Re_isGood_33 (by decide) (fun c33 => ?_) (fun c33 => ?_)
      · refine j_iconst (v := nI 1) d_Re_isGood_54 (by decide +kernel) ?_
        exact jc_t d_Re_isGood_55 rfl ⟨h1, h2, fun j _ hj => hn j (by omega)⟩ rfl
      · first | refine j_aload_n d_Re_isGood_36 rfl ?_ | refine j_aload_nq d_Re_isGood_36 rfl ?_ | refine j_aload_nN d_Re_isGood_36 rfl ?_
        refine j_get d_Re_isGood_37 f_Re_28 (hC_p hp (by decide)) rfl ?_
        refine j_iload_n d_Re_isGood_40 rfl ?_
        refine j_iald (t := 0) d_Re_isGood_41 rfl (hC_p hp (by decide)) rfl (by omega) (by decide) ?_
        refine j_iload_n d_Re_isGood_42 rfl ?_
        first | refine nn_icmp_ne (t := 48) d_Re_isGood_43 (by decide) (by omega) (by omega) (fun c43 => ?_) (fun c43 => ?_) | refine mm_icmp_ne (t := 48) d_Re_isGood_43 (by decide) (by omega) (by omega) (fun c43 => ?_) (fun c43 => ?_) | refine mn_icmp_ne (t := 48) d_Re_isGood_43 (by decide) (by omega) (by omega) (fun c43 => ?_) (fun c43 => ?_) | refine nm_icmp_ne (t := 48) d_Re_isGood_43 (by decide) (by omega) (by omega) (fun c43 => ?_) (fun c43 => ?_) | refine j_icmp_ne (t := 48) d_Re_isGood_43 (by decide) (fun c43 => ?_) (fun c43 => ?_)
        · refine n_iinc (k := 1) d_Re_isGood_48 (by decide +kernel) rfl (by decide) rfl rfl ?_
          refine j_goto (t := 19) d_Re_isGood_51 (by decide) ?_
          exact ih (k + 1) (by omega) (by omega) (by omega) (fun j hj => by
            by_cases e : j = k
            · rw [e]; exact c43
            · exact hn j (by omega))
        · refine j_iconst (v := nI 0) d_Re_isGood_46 (by decide +kernel) ?_
          exact jc_f d_Re_isGood_47 rfl (fun z => z.2.2 k c24 c33 c43) rfl

set_option maxHeartbeats 4000000 in
set_option maxRecDepth 100000 in
theorem t_Re_isGood {l : Launch} {D : va_G} {B nx : Nat} {σ : Sg} {κ : Kp} {g : Nat → Option va_E} {p : Nat} (hp : p < 8) (hb : bd σ) (h32 : σ 34 0 0 ≤ 32) (q : Nat) (hq : q < 100000) : jM (G0 l D) m_Re_isGood 1 0 0 [.ref (aP B p + 3), .int (nI q)] (hC D B σ κ g, nx) (fun v h => v = some (.int (cI (gdn σ p q))) ∧ h = (hC D B σ κ g, nx)) := by
  refine jM.of (by decide +kernel) (Nat.le_of_ble_eq_true rfl) rfl ?_
  first | refine j_aload_n d_Re_isGood_0 rfl ?_ | refine j_aload_nq d_Re_isGood_0 rfl ?_ | refine j_aload_nN d_Re_isGood_0 rfl ?_
  refine j_get d_Re_isGood_1 f_Re_43 (hC_p hp (by decide)) rfl ?_
  refine j_iload_n d_Re_isGood_4 rfl ?_
  first | refine j_aload_n d_Re_isGood_5 rfl ?_ | refine j_aload_nq d_Re_isGood_5 rfl ?_ | refine j_aload_nN d_Re_isGood_5 rfl ?_
  refine j_get d_Re_isGood_6 f_Re_32 (hC_p hp (by decide)) rfl ?_
  refine j_callV0 (As := [_, _]) G0_good G0_E d_Re_isGood_9 c_Re_193 rfl rfl (t_Rb_isFor hb h32 q (p / 4) (by omega) (by omega)) (hC_t (by decide)) rfl rfl (by decide) (Nat.le_of_ble_eq_true rfl) ?_
  rintro _ _ ⟨rfl, rfl⟩
  first | refine c_if_ne (t := 17) d_Re_isGood_12 (by decide) (fun c12 => ?_) (fun c12 => ?_) | refine n_if_ne (t := 17) d_Re_isGood_12 (by decide) (by omega) (fun c12 => ?_) (fun c12 => ?_) | refine j_if_ne (t := 17) d_Re_isGood_12 (by decide) (fun c12 => ?_) (fun c12 => ?_)
  · refine j_iconst (v := nI 0) d_Re_isGood_17 (by decide +kernel) ?_
    refine j_istore_n d_Re_isGood_18 (by decide) rfl rfl ?_
    exact lp_Re_isGood hp hb h32 q hq c12.1 c12.2 17 0 (by omega) (by omega) (by omega) (fun j hj => absurd hj (Nat.not_lt_zero _))
  · refine j_iconst (v := nI 0) d_Re_isGood_15 (by decide +kernel) ?_
    exact jc_f d_Re_isGood_16 rfl (fun z => c12 ⟨z.1, z.2.1⟩) rfl

set_option maxHeartbeats 4000000 in
set_option maxRecDepth 100000 in
theorem t_Re_isGoodN {l : Launch} {D : va_G} {B nx : Nat} {σ : Sg} {κ : Kp} {g : Nat → Option va_E} {p : Nat} (hp : p < 8) : jM (G0 l D) m_Re_isGood 1 0 0 [.ref (aP B p + 3), .int (mI 0)] (hC D B σ κ g, nx) (fun v h => v = some (.int (nI 0)) ∧ h = (hC D B σ κ g, nx)) := by
  refine jM.of (by decide +kernel) (Nat.le_of_ble_eq_true rfl) rfl ?_
  first | refine j_aload_n d_Re_isGood_0 rfl ?_ | refine j_aload_nq d_Re_isGood_0 rfl ?_ | refine j_aload_nN d_Re_isGood_0 rfl ?_
  refine j_get d_Re_isGood_1 f_Re_43 (hC_p hp (by decide)) rfl ?_
  refine j_iload_n d_Re_isGood_4 rfl ?_
  first | refine j_aload_n d_Re_isGood_5 rfl ?_ | refine j_aload_nq d_Re_isGood_5 rfl ?_ | refine j_aload_nN d_Re_isGood_5 rfl ?_
  refine j_get d_Re_isGood_6 f_Re_32 (hC_p hp (by decide)) rfl ?_
  refine j_callV0 (As := [_, _]) G0_good G0_E d_Re_isGood_9 c_Re_193 rfl rfl (t_Rb_isForN (p / 4)) (hC_t (by decide)) rfl rfl (by decide) (Nat.le_of_ble_eq_true rfl) ?_
  rintro _ _ ⟨rfl, rfl⟩
  refine n_if_ne (t := 17) d_Re_isGood_12 (by decide) (by decide) (fun c12 => ?_) (fun c12 => ?_)
  · exact absurd rfl c12
  · refine j_iconst (v := nI 0) d_Re_isGood_15 (by decide +kernel) ?_
    exact j_zret d_Re_isGood_16 rfl (by decide +kernel) ⟨rfl, rfl⟩

theorem t_Re_isGoodM {l : Launch} {D : va_G} {B nx : Nat} {σ : Sg} {κ : Kp} {g : Nat → Option va_E} {p : Nat} (hp : p < 8) (hb : bd σ) (h32 : σ 34 0 0 ≤ 32) (x : Nat) (hx : x < 100000) : jM (G0 l D) m_Re_isGood 1 0 0 [.ref (aP B p + 3), .int (mI x)] (hC D B σ κ g, nx) (fun v h => v = some (.int (cI (gd σ p x))) ∧ h = (hC D B σ κ g, nx)) := by
  cases x with
  | zero => rw [cI_f (fun z => z.1 rfl)]; exact t_Re_isGoodN hp
  | succ q =>
    rw [mI_succ, cI_iff (show gd σ p (q + 1) ↔ gdn σ p q from ⟨fun z => z.2, fun z => ⟨Nat.succ_ne_zero q, z⟩⟩)]
    exact t_Re_isGood hp hb h32 q (by omega)

set_option maxHeartbeats 4000000 in
set_option maxRecDepth 100000 in
theorem lp_Re_firstGood {l : Launch} {D : va_G} {B nx : Nat} {σ : Sg} {κ : Kp} {g : Nat → Option va_E} {p : Nat} (hp : p < 8) (hb : bd σ) (h32 : σ 34 0 0 ≤ 32) : ∀ (m : Nat) (i : Nat), i ≤ σ 34 0 0 → σ 34 0 0 - i < m → srch (gdn σ p) (σ 34 0 0) 0 = srch (gdn σ p) (σ 34 0 0 - i) i → J (G0 l D) jT m_Re_firstGood 2 (fun v h => v = some (.int (mI (srch (gdn σ p) (σ 34 0 0) 0))) ∧ h = (hC D B σ κ g, nx)) 0 0 2 [some (.ref (aP B p + 3)), some (.int (nI i))] [] (hC D B σ κ g, nx) := by
  intro m
  induction m with
  | zero =>
    intros
    exfalso
    omega
  | succ m ih =>
    intro i h1 h2 hs
    have b34 := hb 34 0 0
    refine j_iload_n d_Re_firstGood_2 rfl ?_
    first | refine j_aload_n d_Re_firstGood_3 rfl ?_ | refine j_aload_nq d_Re_firstGood_3 rfl ?_ | refine j_aload_nN d_Re_firstGood_3 rfl ?_
    refine j_get d_Re_firstGood_4 f_Re_43 (hC_p hp (by decide)) rfl ?_
    refine j_callV0 (As := []) G0_good G0_E d_Re_firstGood_7 c_Re_196 rfl rfl (t_Rb_count) (hC_t (by decide)) rfl rfl (by decide) (Nat.le_of_ble_eq_true rfl) ?_
    rintro _ _ ⟨rfl, rfl⟩
    first | refine nn_icmp_ge (t := 29) d_Re_firstGood_10 (by decide) (by omega) (by omega) (fun c10 => ?_) (fun c10 => ?_) | refine mm_icmp_ge (t := 29) d_Re_firstGood_10 (by decide) (by omega) (by omega) (fun c10 => ?_) (fun c10 => ?_) | refine mn_icmp_ge (t := 29) d_Re_firstGood_10 (by decide) (by omega) (by omega) (fun c10 => ?_) (fun c10 => ?_) | refine nm_icmp_ge (t := 29) d_Re_firstGood_10 (by decide) (by omega) (by omega) (fun c10 => ?_) (fun c10 => ?_) | refine j_icmp_ge (t := 29) d_Re_firstGood_10 (by decide) (fun c10 => ?_) (fun c10 => ?_)
    · refine j_iconst (v := mI 0) d_Re_firstGood_29 (by decide +kernel) ?_
      exact j_iret d_Re_firstGood_30 rfl ⟨by rw [hs, show σ 34 0 0 - i = 0 by omega]; rfl, rfl⟩
    · first | refine j_aload_n d_Re_firstGood_13 rfl ?_ | refine j_aload_nq d_Re_firstGood_13 rfl ?_ | refine j_aload_nN d_Re_firstGood_13 rfl ?_
      refine j_iload_n d_Re_firstGood_14 rfl ?_
      refine j_callV0 (As := [_]) G0_good G0_E d_Re_firstGood_15 c_Re_163 rfl rfl (t_Re_isGood hp hb h32 i (by omega)) (hC_p hp (by decide)) rfl rfl (by decide) (Nat.le_of_ble_eq_true rfl) ?_
      rintro _ _ ⟨rfl, rfl⟩
      first | refine c_if_eq (t := 23) d_Re_firstGood_18 (by decide) (fun c18 => ?_) (fun c18 => ?_) | refine n_if_eq (t := 23) d_Re_firstGood_18 (by decide) (by omega) (fun c18 => ?_) (fun c18 => ?_) | refine j_if_eq (t := 23) d_Re_firstGood_18 (by decide) (fun c18 => ?_) (fun c18 => ?_)
      · refine n_iinc (k := 1) d_Re_firstGood_23 (by decide +kernel) rfl (by decide) rfl rfl ?_
        refine j_goto (t := 2) d_Re_firstGood_26 (by decide) ?_
        exact ih (i + 1) (by omega) (by omega) (by rw [hs, show σ 34 0 0 - i = (σ 34 0 0 - (i + 1)) + 1 by omega, srch_f c18])
      · refine j_iload_n d_Re_firstGood_21 rfl ?_
        exact j_iret d_Re_firstGood_22 rfl ⟨by rw [hs, show σ 34 0 0 - i = (σ 34 0 0 - (i + 1)) + 1 by omega, srch_t c18, mI_succ], rfl⟩

set_option maxHeartbeats 4000000 in
set_option maxRecDepth 100000 in
theorem t_Re_firstGood {l : Launch} {D : va_G} {B nx : Nat} {σ : Sg} {κ : Kp} {g : Nat → Option va_E} {p : Nat} (hp : p < 8) (hb : bd σ) (h32 : σ 34 0 0 ≤ 32) : jM (G0 l D) m_Re_firstGood 2 0 0 [.ref (aP B p + 3)] (hC D B σ κ g, nx) (fun v h => v = some (.int (mI (srch (gdn σ p) (σ 34 0 0) 0))) ∧ h = (hC D B σ κ g, nx)) := by
  refine jM.of (by decide +kernel) (Nat.le_of_ble_eq_true rfl) rfl ?_
  refine j_iconst (v := nI 0) d_Re_firstGood_0 (by decide +kernel) ?_
  refine j_istore_n d_Re_firstGood_1 (by decide) rfl rfl ?_
  exact lp_Re_firstGood hp hb h32 (σ 34 0 0 + 1) 0 (by omega) (by omega) rfl

set_option maxHeartbeats 4000000 in
set_option maxRecDepth 100000 in
theorem t_Re_isBacked {l : Launch} {D : va_G} {B nx : Nat} {σ : Sg} {κ : Kp} {g : Nat → Option va_E} {p : Nat} (hp : p < 8) (hb : bd σ) (h32 : σ 34 0 0 ≤ 32) (kr : KR B σ κ nx) {a : Nat} (hm : B + 93 ≤ a) (hpr : κ.2.2.1 a = true) (h6 : κ.2.2.2 a 5 ≤ 6) : jM (G0 l D) m_Re_isBacked 3 0 0 [.ref (aP B p + 3), .ref a] (hC D B σ κ g, nx) (fun v h => v = some (.int (cI (backed σ p (κ.2.2.2 a 4) (κ.2.2.2 a 5)))) ∧ h = (hC D B σ κ g, nx)) := by
  refine jM.of (by decide +kernel) (Nat.le_of_ble_eq_true rfl) rfl ?_
  have b11 := hb 11 p 0
  have b4 := kr.2.2.2.2.2 a 4 hpr
  have b5 := kr.2.2.2.2.2 a 5 hpr
  first | refine j_aload_n d_Re_isBacked_0 rfl ?_ | refine j_aload_nq d_Re_isBacked_0 rfl ?_ | refine j_aload_nN d_Re_isBacked_0 rfl ?_
  refine j_get d_Re_isBacked_1 f_Re_190 (hC_m hm hpr) rfl ?_
  refine j_istore_n d_Re_isBacked_4 (by decide) rfl rfl ?_
  refine j_iload_n d_Re_isBacked_5 rfl ?_
  refine j_iconst (v := mI 0) d_Re_isBacked_6 (by decide +kernel) ?_
  first | refine nn_icmp_eq (t := 34) d_Re_isBacked_7 (by decide) (by omega) (by omega) (fun c7 => ?_) (fun c7 => ?_) | refine mm_icmp_eq (t := 34) d_Re_isBacked_7 (by decide) (by omega) (by omega) (fun c7 => ?_) (fun c7 => ?_) | refine mn_icmp_eq (t := 34) d_Re_isBacked_7 (by decide) (by omega) (by omega) (fun c7 => ?_) (fun c7 => ?_) | refine nm_icmp_eq (t := 34) d_Re_isBacked_7 (by decide) (by omega) (by omega) (fun c7 => ?_) (fun c7 => ?_) | refine j_icmp_eq (t := 34) d_Re_isBacked_7 (by decide) (fun c7 => ?_) (fun c7 => ?_)
  · refine j_iconst (v := nI 1) d_Re_isBacked_34 (by decide +kernel) ?_
    refine j_goto (t := 39) d_Re_isBacked_35 (by decide) ?_
    exact jc_t d_Re_isBacked_39 rfl (Or.inl c7) rfl
  · refine j_iload_n d_Re_isBacked_10 rfl ?_
    first | refine j_aload_n d_Re_isBacked_11 rfl ?_ | refine j_aload_nq d_Re_isBacked_11 rfl ?_ | refine j_aload_nN d_Re_isBacked_11 rfl ?_
    refine j_get d_Re_isBacked_12 f_Re_93 (hC_p hp (by decide)) rfl ?_
    first | refine nn_icmp_ge (t := 34) d_Re_isBacked_15 (by decide) (by omega) (by omega) (fun c15 => ?_) (fun c15 => ?_) | refine mm_icmp_ge (t := 34) d_Re_isBacked_15 (by decide) (by omega) (by omega) (fun c15 => ?_) (fun c15 => ?_) | refine mn_icmp_ge (t := 34) d_Re_isBacked_15 (by decide) (by omega) (by omega) (fun c15 => ?_) (fun c15 => ?_) | refine nm_icmp_ge (t := 34) d_Re_isBacked_15 (by decide) (by omega) (by omega) (fun c15 => ?_) (fun c15 => ?_) | refine j_icmp_ge (t := 34) d_Re_isBacked_15 (by decide) (fun c15 => ?_) (fun c15 => ?_)
    · refine j_iconst (v := nI 1) d_Re_isBacked_34 (by decide +kernel) ?_
      refine j_goto (t := 39) d_Re_isBacked_35 (by decide) ?_
      exact jc_t d_Re_isBacked_39 rfl (Or.inr (Or.inl c15)) rfl
    · rw [mI_pos c7]
      first | refine j_aload_n d_Re_isBacked_18 rfl ?_ | refine j_aload_nq d_Re_isBacked_18 rfl ?_ | refine j_aload_nN d_Re_isBacked_18 rfl ?_
      refine j_get d_Re_isBacked_19 f_Re_12 (hC_p hp (by decide)) rfl ?_
      refine j_iconst (v := nI 1) d_Re_isBacked_22 (by decide +kernel) ?_
      refine j_iload_n d_Re_isBacked_23 rfl ?_
      first | refine j_aload_n d_Re_isBacked_24 rfl ?_ | refine j_aload_nq d_Re_isBacked_24 rfl ?_ | refine j_aload_nN d_Re_isBacked_24 rfl ?_
      refine j_get d_Re_isBacked_25 f_Re_162 (hC_m hm hpr) rfl ?_
      refine j_callV0 (As := [_, _, _]) G0_good G0_E d_Re_isBacked_28 c_Re_166 rfl rfl (t_In_hasQuorumFor hp hb kr 1 (κ.2.2.2 a 5 - 1) (κ.2.2.2 a 4) (by decide) (by omega) (by omega)) (hC_p hp (by decide)) rfl rfl (by decide) (Nat.le_of_ble_eq_true rfl) ?_
      rintro _ _ ⟨rfl, rfl⟩
      first | refine c_if_eq (t := 38) d_Re_isBacked_31 (by decide) (fun c31 => ?_) (fun c31 => ?_) | refine n_if_eq (t := 38) d_Re_isBacked_31 (by decide) (by omega) (fun c31 => ?_) (fun c31 => ?_) | refine j_if_eq (t := 38) d_Re_isBacked_31 (by decide) (fun c31 => ?_) (fun c31 => ?_)
      · refine j_iconst (v := nI 0) d_Re_isBacked_38 (by decide +kernel) ?_
        exact jc_f d_Re_isBacked_39 rfl (fun z => z.elim c7 (fun z => z.elim (fun z => absurd z (by omega)) c31)) rfl
      · refine j_iconst (v := nI 1) d_Re_isBacked_34 (by decide +kernel) ?_
        refine j_goto (t := 39) d_Re_isBacked_35 (by decide) ?_
        exact jc_t d_Re_isBacked_39 rfl (Or.inr (Or.inr c31)) rfl

set_option maxHeartbeats 4000000 in
set_option maxRecDepth 100000 in
theorem t_Re_isWelcome {l : Launch} {D : va_G} {B nx : Nat} {σ : Sg} {κ : Kp} {g : Nat → Option va_E} {p : Nat} (hp : p < 8) (hb : bd σ) (h32 : σ 34 0 0 ≤ 32) (kr : KR B σ κ nx) {a : Nat} (hm : B + 93 ≤ a) (hpr : κ.2.2.1 a = true) : jM (G0 l D) m_Re_isWelcome 2 0 0 [.ref (aP B p + 3), .ref a] (hC D B σ κ g, nx) (fun v h => v = some (.int (cI (welcome σ p (κ.2.2.2 a 4) (κ.2.2.2 a 5)))) ∧ h = (hC D B σ κ g, nx)) := by
  refine jM.of (by decide +kernel) (Nat.le_of_ble_eq_true rfl) rfl ?_
  have b11 := hb 11 p 0
  have b13 := hb 13 p 0
  have b14 := hb 14 p 0
  have b4 := kr.2.2.2.2.2 a 4 hpr
  have b5 := kr.2.2.2.2.2 a 5 hpr
  first | refine j_aload_n d_Re_isWelcome_0 rfl ?_ | refine j_aload_nq d_Re_isWelcome_0 rfl ?_ | refine j_aload_nN d_Re_isWelcome_0 rfl ?_
  refine j_get d_Re_isWelcome_1 f_Re_190 (hC_m hm hpr) rfl ?_
  refine j_istore_n d_Re_isWelcome_4 (by decide) rfl rfl ?_
  first | refine j_aload_n d_Re_isWelcome_5 rfl ?_ | refine j_aload_nq d_Re_isWelcome_5 rfl ?_ | refine j_aload_nN d_Re_isWelcome_5 rfl ?_
  first | refine j_aload_n d_Re_isWelcome_6 rfl ?_ | refine j_aload_nq d_Re_isWelcome_6 rfl ?_ | refine j_aload_nN d_Re_isWelcome_6 rfl ?_
  refine j_get d_Re_isWelcome_7 f_Re_162 (hC_m hm hpr) rfl ?_
  refine j_callV0 (As := [_]) G0_good G0_E d_Re_isWelcome_10 c_Re_163 rfl rfl (t_Re_isGoodM hp hb h32 (κ.2.2.2 a 4) (by omega)) (hC_p hp (by decide)) rfl rfl (by decide) (Nat.le_of_ble_eq_true rfl) ?_
  rintro _ _ ⟨rfl, rfl⟩
  first | refine c_if_eq (t := 24) d_Re_isWelcome_13 (by decide) (fun c13 => ?_) (fun c13 => ?_) | refine n_if_eq (t := 24) d_Re_isWelcome_13 (by decide) (by omega) (fun c13 => ?_) (fun c13 => ?_) | refine j_if_eq (t := 24) d_Re_isWelcome_13 (by decide) (fun c13 => ?_) (fun c13 => ?_)
  · refine j_iconst (v := nI 0) d_Re_isWelcome_24 (by decide +kernel) ?_
    exact jc_f d_Re_isWelcome_25 rfl (fun z => c13 z.1) rfl
  · refine j_iload_n d_Re_isWelcome_16 rfl ?_
    first | refine j_aload_n d_Re_isWelcome_17 rfl ?_ | refine j_aload_nq d_Re_isWelcome_17 rfl ?_ | refine j_aload_nN d_Re_isWelcome_17 rfl ?_
    refine j_get d_Re_isWelcome_18 f_Re_93 (hC_p hp (by decide)) rfl ?_
    first | refine nn_icmp_lt (t := 26) d_Re_isWelcome_21 (by decide) (by omega) (by omega) (fun c21 => ?_) (fun c21 => ?_) | refine mm_icmp_lt (t := 26) d_Re_isWelcome_21 (by decide) (by omega) (by omega) (fun c21 => ?_) (fun c21 => ?_) | refine mn_icmp_lt (t := 26) d_Re_isWelcome_21 (by decide) (by omega) (by omega) (fun c21 => ?_) (fun c21 => ?_) | refine nm_icmp_lt (t := 26) d_Re_isWelcome_21 (by decide) (by omega) (by omega) (fun c21 => ?_) (fun c21 => ?_) | refine j_icmp_lt (t := 26) d_Re_isWelcome_21 (by decide) (fun c21 => ?_) (fun c21 => ?_)
    · first | refine j_aload_n d_Re_isWelcome_26 rfl ?_ | refine j_aload_nq d_Re_isWelcome_26 rfl ?_ | refine j_aload_nN d_Re_isWelcome_26 rfl ?_
      refine j_get d_Re_isWelcome_27 f_Re_21 (hC_p hp (by decide)) rfl ?_
      refine j_get d_Re_isWelcome_30 f_Re_128 (hC_p hp (by decide)) rfl ?_
      refine j_iconst (v := mI 0) d_Re_isWelcome_33 (by decide +kernel) ?_
      first | refine nn_icmp_eq (t := 67) d_Re_isWelcome_34 (by decide) (by omega) (by omega) (fun c34 => ?_) (fun c34 => ?_) | refine mm_icmp_eq (t := 67) d_Re_isWelcome_34 (by decide) (by omega) (by omega) (fun c34 => ?_) (fun c34 => ?_) | refine mn_icmp_eq (t := 67) d_Re_isWelcome_34 (by decide) (by omega) (by omega) (fun c34 => ?_) (fun c34 => ?_) | refine nm_icmp_eq (t := 67) d_Re_isWelcome_34 (by decide) (by omega) (by omega) (fun c34 => ?_) (fun c34 => ?_) | refine j_icmp_eq (t := 67) d_Re_isWelcome_34 (by decide) (fun c34 => ?_) (fun c34 => ?_)
      · refine j_iconst (v := nI 1) d_Re_isWelcome_67 (by decide +kernel) ?_
        refine j_goto (t := 72) d_Re_isWelcome_68 (by decide) ?_
        exact jc_t d_Re_isWelcome_72 rfl ⟨c13, c21, Or.inl c34⟩ rfl
      · first | refine j_aload_n d_Re_isWelcome_37 rfl ?_ | refine j_aload_nq d_Re_isWelcome_37 rfl ?_ | refine j_aload_nN d_Re_isWelcome_37 rfl ?_
        refine j_get d_Re_isWelcome_38 f_Re_21 (hC_p hp (by decide)) rfl ?_
        refine j_get d_Re_isWelcome_41 f_Re_128 (hC_p hp (by decide)) rfl ?_
        first | refine j_aload_n d_Re_isWelcome_44 rfl ?_ | refine j_aload_nq d_Re_isWelcome_44 rfl ?_ | refine j_aload_nN d_Re_isWelcome_44 rfl ?_
        refine j_get d_Re_isWelcome_45 f_Re_162 (hC_m hm hpr) rfl ?_
        first | refine nn_icmp_eq (t := 67) d_Re_isWelcome_48 (by decide) (by omega) (by omega) (fun c48 => ?_) (fun c48 => ?_) | refine mm_icmp_eq (t := 67) d_Re_isWelcome_48 (by decide) (by omega) (by omega) (fun c48 => ?_) (fun c48 => ?_) | refine mn_icmp_eq (t := 67) d_Re_isWelcome_48 (by decide) (by omega) (by omega) (fun c48 => ?_) (fun c48 => ?_) | refine nm_icmp_eq (t := 67) d_Re_isWelcome_48 (by decide) (by omega) (by omega) (fun c48 => ?_) (fun c48 => ?_) | refine j_icmp_eq (t := 67) d_Re_isWelcome_48 (by decide) (fun c48 => ?_) (fun c48 => ?_)
        · refine j_iconst (v := nI 1) d_Re_isWelcome_67 (by decide +kernel) ?_
          refine j_goto (t := 72) d_Re_isWelcome_68 (by decide) ?_
          exact jc_t d_Re_isWelcome_72 rfl ⟨c13, c21, Or.inr (Or.inl c48)⟩ rfl
        · refine j_iload_n d_Re_isWelcome_51 rfl ?_
          refine j_iconst (v := mI 0) d_Re_isWelcome_52 (by decide +kernel) ?_
          first | refine nn_icmp_eq (t := 71) d_Re_isWelcome_53 (by decide) (by omega) (by omega) (fun c53 => ?_) (fun c53 => ?_) | refine mm_icmp_eq (t := 71) d_Re_isWelcome_53 (by decide) (by omega) (by omega) (fun c53 => ?_) (fun c53 => ?_) | refine mn_icmp_eq (t := 71) d_Re_isWelcome_53 (by decide) (by omega) (by omega) (fun c53 => ?_) (fun c53 => ?_) | refine nm_icmp_eq (t := 71) d_Re_isWelcome_53 (by decide) (by omega) (by omega) (fun c53 => ?_) (fun c53 => ?_) | refine j_icmp_eq (t := 71) d_Re_isWelcome_53 (by decide) (fun c53 => ?_) (fun c53 => ?_)
          · refine j_iconst (v := nI 0) d_Re_isWelcome_71 (by decide +kernel) ?_
            exact jc_f d_Re_isWelcome_72 rfl (fun z => z.2.2.elim c34 (fun z => z.elim c48 (fun z => z.1 c53))) rfl
          · first | refine j_aload_n d_Re_isWelcome_56 rfl ?_ | refine j_aload_nq d_Re_isWelcome_56 rfl ?_ | refine j_aload_nN d_Re_isWelcome_56 rfl ?_
            refine j_get d_Re_isWelcome_57 f_Re_21 (hC_p hp (by decide)) rfl ?_
            refine j_get d_Re_isWelcome_60 f_Re_131 (hC_p hp (by decide)) rfl ?_
            refine j_iload_n d_Re_isWelcome_63 rfl ?_
            first | refine nn_icmp_gt (t := 71) d_Re_isWelcome_64 (by decide) (by omega) (by omega) (fun c64 => ?_) (fun c64 => ?_) | refine mm_icmp_gt (t := 71) d_Re_isWelcome_64 (by decide) (by omega) (by omega) (fun c64 => ?_) (fun c64 => ?_) | refine mn_icmp_gt (t := 71) d_Re_isWelcome_64 (by decide) (by omega) (by omega) (fun c64 => ?_) (fun c64 => ?_) | refine nm_icmp_gt (t := 71) d_Re_isWelcome_64 (by decide) (by omega) (by omega) (fun c64 => ?_) (fun c64 => ?_) | refine j_icmp_gt (t := 71) d_Re_isWelcome_64 (by decide) (fun c64 => ?_) (fun c64 => ?_)
            · refine j_iconst (v := nI 0) d_Re_isWelcome_71 (by decide +kernel) ?_
              exact jc_f d_Re_isWelcome_72 rfl (fun z => z.2.2.elim c34 (fun z => z.elim c48 (fun z => absurd z.2 (by omega)))) rfl
            · refine j_iconst (v := nI 1) d_Re_isWelcome_67 (by decide +kernel) ?_
              refine j_goto (t := 72) d_Re_isWelcome_68 (by decide) ?_
              exact jc_t d_Re_isWelcome_72 rfl ⟨c13, c21, Or.inr (Or.inr ⟨c53, c64⟩)⟩ rfl
    · refine j_iconst (v := nI 0) d_Re_isWelcome_24 (by decide +kernel) ?_
      exact jc_f d_Re_isWelcome_25 rfl (fun z => absurd z.2.1 (by omega)) rfl

set_option maxHeartbeats 4000000 in
set_option maxRecDepth 100000 in
theorem lp_Re_sealed {l : Launch} {D : va_G} {B nx : Nat} {σ : Sg} {κ : Kp} {g : Nat → Option va_E} {p : Nat} (hp : p < 8) (hb : bd σ) (h32 : σ 34 0 0 ≤ 32) (kr : KR B σ κ nx) : ∀ (m : Nat) (r : Nat) (x2 : Option Value), r ≤ 6 → 6 - r < m → srch (sealAt σ p) 6 0 = srch (sealAt σ p) (6 - r) r → J (G0 l D) jT m_Re_sealedRequest 3 (fun v h => v = some (.int (mI (sealed σ p))) ∧ h = (hC D B σ κ g, nx)) 0 0 2 [some (.ref (aP B p + 3)), some (.int (nI r)), x2] [] (hC D B σ κ g, nx) := by
  intro m
  induction m with
  | zero =>
    intros
    exfalso
    omega
  | succ m ih =>
    intro r x2 h1 h2 hs
    refine j_iload_n d_Re_sealedRequest_2 rfl ?_
    refine j_bipush (v := nI 6) d_Re_sealedRequest_3 (by decide +kernel) ?_
    first | refine nn_icmp_ge (t := 65) d_Re_sealedRequest_5 (by decide) (by omega) (by omega) (fun c5 => ?_) (fun c5 => ?_) | refine mm_icmp_ge (t := 65) d_Re_sealedRequest_5 (by decide) (by omega) (by omega) (fun c5 => ?_) (fun c5 => ?_) | refine mn_icmp_ge (t := 65) d_Re_sealedRequest_5 (by decide) (by omega) (by omega) (fun c5 => ?_) (fun c5 => ?_) | refine nm_icmp_ge (t := 65) d_Re_sealedRequest_5 (by decide) (by omega) (by omega) (fun c5 => ?_) (fun c5 => ?_) | refine j_icmp_ge (t := 65) d_Re_sealedRequest_5 (by decide) (fun c5 => ?_) (fun c5 => ?_)
    · refine j_iconst (v := mI 0) d_Re_sealedRequest_65 (by decide +kernel) ?_
      exact j_iret d_Re_sealedRequest_66 rfl ⟨by rw [sealed, hs, show 6 - r = 0 by omega, ifP_t (show srch (sealAt σ p) 0 r = 0 from rfl)], rfl⟩
    · first | refine j_aload_n d_Re_sealedRequest_8 rfl ?_ | refine j_aload_nq d_Re_sealedRequest_8 rfl ?_ | refine j_aload_nN d_Re_sealedRequest_8 rfl ?_
      refine j_get d_Re_sealedRequest_9 f_Re_12 (hC_p hp (by decide)) rfl ?_
      refine j_iconst (v := nI 0) d_Re_sealedRequest_12 (by decide +kernel) ?_
      refine j_iload_n d_Re_sealedRequest_13 rfl ?_
      first | refine j_aload_n d_Re_sealedRequest_14 rfl ?_ | refine j_aload_nq d_Re_sealedRequest_14 rfl ?_ | refine j_aload_nN d_Re_sealedRequest_14 rfl ?_
      refine j_iload_n d_Re_sealedRequest_15 rfl ?_
      refine j_callV0 (As := [_]) G0_good G0_E d_Re_sealedRequest_16 c_Re_159 rfl rfl (t_Re_leaderOf hp hb r (by omega)) (hC_p hp (by decide)) rfl rfl (by decide) (Nat.le_of_ble_eq_true rfl) ?_
      rintro _ _ ⟨rfl, rfl⟩
      refine j_callV0 (As := [_, _, _]) G0_good G0_E d_Re_sealedRequest_19 c_Re_80 rfl rfl (t_In_find hp 0 r (ld σ p r) (by decide) (by omega) ld_lt) (hC_p hp (by decide)) rfl rfl (by decide) (Nat.le_of_ble_eq_true rfl) ?_
      rintro _ _ ⟨rfl, rfl⟩
      first | refine j_astore_n d_Re_sealedRequest_22 (by decide) rfl rfl ?_ | refine j_astore_nq d_Re_sealedRequest_22 (by decide) rfl rfl ?_ | refine j_astore_nN d_Re_sealedRequest_22 (by decide) rfl rfl ?_
      first | refine j_aload_n d_Re_sealedRequest_23 rfl ?_ | refine j_aload_nq d_Re_sealedRequest_23 rfl ?_ | refine j_aload_nN d_Re_sealedRequest_23 rfl ?_
      refine j_ifnull (t := 59) d_Re_sealedRequest_24 (by decide) (fun c24 => ?_) (fun x24 c24 => ?_)
      · refine n_iinc (k := 1) d_Re_sealedRequest_59 (by decide +kernel) rfl (by decide) rfl rfl ?_
        refine j_goto (t := 2) d_Re_sealedRequest_62 (by decide) ?_
        exact ih (r + 1) _ (by omega) (by omega) (by rw [hs, show 6 - r = (6 - (r + 1)) + 1 by omega, srch_f (fun z => z.1 ((kr.1 p _ hp (slt_lt (by decide) (by omega) ld_lt)).mp c24))])
      · rw [c24]
        obtain ⟨hpr, hm, e4, e5⟩ := kr.2.1 p _ _ hp (slt_lt (by decide) (by omega) ld_lt) c24
        have e4p : prp σ p r = κ.2.2.2 x24 4 + 1 := e4.symm
        have b4 := kr.2.2.2.2.2 _ 4 hpr
        first | refine j_aload_n d_Re_sealedRequest_27 rfl ?_ | refine j_aload_nq d_Re_sealedRequest_27 rfl ?_ | refine j_aload_nN d_Re_sealedRequest_27 rfl ?_
        first | refine j_aload_n d_Re_sealedRequest_28 rfl ?_ | refine j_aload_nq d_Re_sealedRequest_28 rfl ?_ | refine j_aload_nN d_Re_sealedRequest_28 rfl ?_
        refine j_get d_Re_sealedRequest_29 f_Re_162 (hC_m hm hpr) rfl ?_
        refine j_callV0 (As := [_]) G0_good G0_E d_Re_sealedRequest_32 c_Re_163 rfl rfl (t_Re_isGoodM hp hb h32 (κ.2.2.2 x24 4) (by omega)) (hC_p hp (by decide)) rfl rfl (by decide) (Nat.le_of_ble_eq_true rfl) ?_
        rintro _ _ ⟨rfl, rfl⟩
        first | refine c_if_eq (t := 59) d_Re_sealedRequest_35 (by decide) (fun c35 => ?_) (fun c35 => ?_) | refine n_if_eq (t := 59) d_Re_sealedRequest_35 (by decide) (by omega) (fun c35 => ?_) (fun c35 => ?_) | refine j_if_eq (t := 59) d_Re_sealedRequest_35 (by decide) (fun c35 => ?_) (fun c35 => ?_)
        · refine n_iinc (k := 1) d_Re_sealedRequest_59 (by decide +kernel) rfl (by decide) rfl rfl ?_
          refine j_goto (t := 2) d_Re_sealedRequest_62 (by decide) ?_
          exact ih (r + 1) _ (by omega) (by omega) (by rw [hs, show 6 - r = (6 - (r + 1)) + 1 by omega, srch_f (fun z => c35 (by unfold sealAt at z; rw [e4p, Nat.add_sub_cancel] at z; exact z.2.1))])
        · first | refine j_aload_n d_Re_sealedRequest_38 rfl ?_ | refine j_aload_nq d_Re_sealedRequest_38 rfl ?_ | refine j_aload_nN d_Re_sealedRequest_38 rfl ?_
          refine j_get d_Re_sealedRequest_39 f_Re_12 (hC_p hp (by decide)) rfl ?_
          refine j_iconst (v := nI 2) d_Re_sealedRequest_42 (by decide +kernel) ?_
          refine j_iload_n d_Re_sealedRequest_43 rfl ?_
          first | refine j_aload_n d_Re_sealedRequest_44 rfl ?_ | refine j_aload_nq d_Re_sealedRequest_44 rfl ?_ | refine j_aload_nN d_Re_sealedRequest_44 rfl ?_
          refine j_get d_Re_sealedRequest_45 f_Re_162 (hC_m hm hpr) rfl ?_
          refine j_callV0 (As := [_, _, _]) G0_good G0_E d_Re_sealedRequest_48 c_Re_166 rfl rfl (t_In_hasQuorumFor hp hb kr 2 r (κ.2.2.2 x24 4) (by decide) (by omega) (by omega)) (hC_p hp (by decide)) rfl rfl (by decide) (Nat.le_of_ble_eq_true rfl) ?_
          rintro _ _ ⟨rfl, rfl⟩
          first | refine c_if_eq (t := 59) d_Re_sealedRequest_51 (by decide) (fun c51 => ?_) (fun c51 => ?_) | refine n_if_eq (t := 59) d_Re_sealedRequest_51 (by decide) (by omega) (fun c51 => ?_) (fun c51 => ?_) | refine j_if_eq (t := 59) d_Re_sealedRequest_51 (by decide) (fun c51 => ?_) (fun c51 => ?_)
          · refine n_iinc (k := 1) d_Re_sealedRequest_59 (by decide +kernel) rfl (by decide) rfl rfl ?_
            refine j_goto (t := 2) d_Re_sealedRequest_62 (by decide) ?_
            exact ih (r + 1) _ (by omega) (by omega) (by rw [hs, show 6 - r = (6 - (r + 1)) + 1 by omega, srch_f (fun z => c51 (by unfold sealAt at z; rw [e4p, Nat.add_sub_cancel] at z; exact z.2.2))])
          · first | refine j_aload_n d_Re_sealedRequest_54 rfl ?_ | refine j_aload_nq d_Re_sealedRequest_54 rfl ?_ | refine j_aload_nN d_Re_sealedRequest_54 rfl ?_
            refine j_get d_Re_sealedRequest_55 f_Re_162 (hC_m hm hpr) rfl ?_
            have hsa : sealAt σ p r := by
              unfold sealAt
              rw [e4p, Nat.add_sub_cancel]
              exact ⟨Nat.succ_ne_zero _, c35, c51⟩
            exact j_iret d_Re_sealedRequest_58 rfl ⟨by rw [sealed, hs, show 6 - r = (6 - (r + 1)) + 1 by omega, srch_t hsa, ifP_f (Nat.succ_ne_zero r), Nat.add_sub_cancel, e4p, Nat.add_sub_cancel], rfl⟩

set_option maxHeartbeats 4000000 in
set_option maxRecDepth 100000 in
theorem t_Re_sealedRequest {l : Launch} {D : va_G} {B nx : Nat} {σ : Sg} {κ : Kp} {g : Nat → Option va_E} {p : Nat} (hp : p < 8) (hb : bd σ) (h32 : σ 34 0 0 ≤ 32) (kr : KR B σ κ nx) : jM (G0 l D) m_Re_sealedRequest 3 0 0 [.ref (aP B p + 3)] (hC D B σ κ g, nx) (fun v h => v = some (.int (mI (sealed σ p))) ∧ h = (hC D B σ κ g, nx)) := by
  refine jM.of (by decide +kernel) (Nat.le_of_ble_eq_true rfl) rfl ?_
  refine j_iconst (v := nI 0) d_Re_sealedRequest_0 (by decide +kernel) ?_
  refine j_istore_n d_Re_sealedRequest_1 (by decide) rfl rfl ?_
  exact lp_Re_sealed hp hb h32 kr 7 0 _ (by omega) (by omega) rfl
