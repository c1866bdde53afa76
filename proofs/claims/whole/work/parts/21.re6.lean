/-! Replica: what acting keeps; the contract of act (g_re6.py) -/
/-- fields that no rule touches -/
theorem one_keep {σ σ' : Sg} {p f : Nat} (h : one σ p = some σ') (hf : f < 8 ∨ f = 17 ∨ f = 28 ∨ f = 33 ∨ f = 34) : σ' f = σ f := by
  unfold one at h
  by_cases h1 : g1 σ p
  · rw [ifP_t h1] at h; cases h; unfold a1 e7 e4; rw [clrB_ne (by omega) (by omega), U_ne (by omega), U_ne (by omega), U_ne (by omega), U_ne (by omega), U_ne (by omega), U_ne (by omega), U_ne (by omega), U_ne (by omega), U_ne (by omega), e2_ne (by omega) (by omega) (by omega) (by omega)]
  rw [ifP_f h1] at h
  by_cases h2 : ¬ j2 σ p = 0
  · rw [ifP_t h2] at h; cases h; unfold a2; rw [U_ne (by omega), U_ne (by omega)]
  rw [ifP_f h2] at h
  by_cases h3 : g3 σ p
  · rw [ifP_t h3] at h; cases h; unfold a3; rw [sSend_ne (by omega)]
  rw [ifP_f h3] at h
  by_cases h4 : g4 σ p
  · rw [ifP_t h4] at h; cases h; unfold a4; rw [U_ne (by omega), sSend_ne (by omega)]
  rw [ifP_f h4] at h
  by_cases h5 : g5 σ p
  · rw [ifP_t h5] at h
    by_cases h51 : σ 12 p 0 = 1
    · rw [ifP_t h51] at h; cases h; unfold s5 k5 c5; rw [U_ne (by omega), sSend_ne (by omega), U_ne (by omega), U_ne (by omega), U_ne (by omega), U_ne (by omega)]
    · rw [ifP_f h51] at h; cases h; unfold c5; rw [U_ne (by omega), U_ne (by omega)]
  rw [ifP_f h5] at h
  by_cases h6 : g6 σ p
  · rw [ifP_t h6] at h; cases h; unfold a6; rw [U_ne (by omega), sSend_ne (by omega)]
  rw [ifP_f h6] at h
  cases h
theorem sS_one {σ σ' : Sg} {p : Nat} (hp : p < 8) (h : one σ p = some σ') : sS σ ≤ sS σ' := by
  unfold one at h
  by_cases h1 : g1 σ p
  · rw [ifP_t h1] at h; cases h; rw [sS_a1]; omega
  rw [ifP_f h1] at h
  by_cases h2 : ¬ j2 σ p = 0
  · rw [ifP_t h2] at h; cases h; unfold a2; rw [sS_U (by decide), sS_U (by decide)]; omega
  rw [ifP_f h2] at h
  by_cases h3 : g3 σ p
  · rw [ifP_t h3] at h; cases h; unfold a3; rw [sS_send hp]; omega
  rw [ifP_f h3] at h
  by_cases h4 : g4 σ p
  · rw [ifP_t h4] at h; cases h; unfold a4; rw [sS_U (by decide), sS_send hp]; omega
  rw [ifP_f h4] at h
  by_cases h5 : g5 σ p
  · rw [ifP_t h5] at h
    by_cases h51 : σ 12 p 0 = 1
    · rw [ifP_t h51] at h; cases h; unfold s5 k5 c5; rw [sS_U (by decide), sS_send hp, sS_U (by decide), sS_U (by decide), sS_U (by decide), sS_U (by decide)]; omega
    · rw [ifP_f h51] at h; cases h; unfold c5; rw [sS_U (by decide), sS_U (by decide)]; omega
  rw [ifP_f h5] at h
  by_cases h6 : g6 σ p
  · rw [ifP_t h6] at h; cases h; unfold a6; rw [sS_U (by decide), sS_send hp]; omega
  rw [ifP_f h6] at h
  cases h
theorem sS_actF {p : Nat} (hp : p < 8) : ∀ (m : Nat) (σ : Sg), sS σ ≤ sS (actF m σ p)
  | 0, σ => Nat.le_refl _
  | m + 1, σ => by
    cases e : one σ p with
    | none => rw [actF_n e]; exact Nat.le_refl _
    | some σ' => rw [actF_s e]; exact Nat.le_trans (sS_one hp e) (sS_actF hp m σ')
theorem sS_act {p : Nat} {σ : Sg} (hp : p < 8) : sS σ ≤ sS (sAct σ p) := by
  unfold sAct
  by_cases h : ¬ σ 0 p 0 = 0 ∨ ¬ σ 17 p 0 = 0
  · rw [ifP_t h]; exact Nat.le_refl _
  · rw [ifP_f h]; exact sS_actF hp _ _
/-- an invariant that every rule keeps, and a measure that every rule lowers -/
def OkI (I : Sg → Prop) (mu : Nat → Sg → Nat) : Prop := ∀ p, p < 8 → (∀ σ, I σ → Rq σ p) ∧ (∀ σ σ', I σ → σ 0 p 0 = 0 → σ 17 p 0 = 0 → one σ p = some σ' → I σ' ∧ mu p σ' < mu p σ) ∧ ∀ σ, I σ → mu p σ < 3000
theorem actF_I {I : Sg → Prop} {mu : Nat → Sg → Nat} (ok : OkI I mu) {p : Nat} (hp : p < 8) : ∀ (m : Nat) (σ : Sg), I σ → σ 0 p 0 = 0 → σ 17 p 0 = 0 → I (actF m σ p)
  | 0, σ, h, _, _ => h
  | m + 1, σ, h, h0, h17 => by
    cases e : one σ p with
    | none => rw [actF_n e]; exact h
    | some σ' =>
      rw [actF_s e]
      exact actF_I ok hp m σ' ((ok p hp).2.1 σ σ' h h0 h17 e).1 (by rw [one_keep e (by omega)]; exact h0) (by rw [one_keep e (by omega)]; exact h17)
theorem sAct_I {I : Sg → Prop} {mu : Nat → Sg → Nat} (ok : OkI I mu) {p : Nat} (hp : p < 8) {σ : Sg} (h : I σ) : I (sAct σ p) := by
  unfold sAct
  by_cases q : ¬ σ 0 p 0 = 0 ∨ ¬ σ 17 p 0 = 0
  · rw [ifP_t q]; exact h
  · rw [ifP_f q]; exact actF_I ok hp _ σ h (by omega) (by omega)

set_option maxHeartbeats 4000000 in
set_option maxRecDepth 100000 in
theorem t_Re_act {l : Launch} {D : va_G} {B nx : Nat} {σ : Sg} {κ : Kp} {g : Nat → Option va_E} {p : Nat} (hp : p < 8) {I : Sg → Prop} {mu : Nat → Sg → Nat} (ok : OkI I mu) (hi : I σ) (kr : KR B σ κ nx) : jM (G0 l D) m_Re_act 5 (sS (sAct σ p) - sS σ) (7 * (sS (sAct σ p) - sS σ)) [.ref (aP B p + 3)] (hC D B σ κ g, nx) (fun v h => v = none ∧ ∃ κ' nx', h = (hC D B (sAct σ p) κ' g, nx') ∧ KR B (sAct σ p) κ' nx' ∧ nx ≤ nx') := by
  refine jM.of (by decide +kernel) (Nat.le_of_ble_eq_true rfl) rfl ?_
  have hb := ((ok p hp).1 σ hi).1
  by_cases q : ¬ σ 0 p 0 = 0 ∨ ¬ σ 17 p 0 = 0
  · first | refine j_aload_n d_Re_act_0 rfl ?_ | refine j_aload_nq d_Re_act_0 rfl ?_ | refine j_aload_nN d_Re_act_0 rfl ?_
    refine j_callV0 (As := []) G0_good G0_E d_Re_act_1 c_Re_55 rfl rfl (t_Re_isIdle hp hb) (hC_p hp (by decide)) rfl rfl (by decide) (Nat.le_of_ble_eq_true rfl) ?_
    rintro _ _ ⟨rfl, rfl⟩
    first | refine c_if_ne (t := 11) d_Re_act_4 (by decide) (fun c4 => ?_) (fun c4 => ?_) | refine n_if_ne (t := 11) d_Re_act_4 (by decide) (by omega) (fun c4 => ?_) (fun c4 => ?_) | refine j_if_ne (t := 11) d_Re_act_4 (by decide) (fun c4 => ?_) (fun c4 => ?_)
    · refine j_iconst (v := nI 0) d_Re_act_11 (by decide +kernel) ?_
      refine j_istore_n d_Re_act_12 (by decide) rfl rfl ?_
      refine j_iconst (v := nI 0) d_Re_act_13 (by decide +kernel) ?_
      refine j_istore_n d_Re_act_14 (by decide) rfl rfl ?_
      refine j_iload_n d_Re_act_15 rfl ?_
      refine j_if_eq (t := 79) d_Re_act_16 (by decide) (fun _ => ?_) (fun q => absurd q (by decide +kernel))
      exact j_vret d_Re_act_79 rfl ⟨rfl, κ, nx, by rw [sAct, ifP_t q], by rw [sAct, ifP_t q]; exact kr, Nat.le_refl _⟩
    · exact absurd q c4
  · first | refine j_aload_n d_Re_act_0 rfl ?_ | refine j_aload_nq d_Re_act_0 rfl ?_ | refine j_aload_nN d_Re_act_0 rfl ?_
    refine j_callV0 (As := []) G0_good G0_E d_Re_act_1 c_Re_55 rfl rfl (t_Re_isIdle hp hb) (hC_p hp (by decide)) rfl rfl (by decide) (Nat.le_of_ble_eq_true rfl) ?_
    rintro _ _ ⟨rfl, rfl⟩
    first | refine c_if_ne (t := 11) d_Re_act_4 (by decide) (fun c4 => ?_) (fun c4 => ?_) | refine n_if_ne (t := 11) d_Re_act_4 (by decide) (by omega) (fun c4 => ?_) (fun c4 => ?_) | refine j_if_ne (t := 11) d_Re_act_4 (by decide) (fun c4 => ?_) (fun c4 => ?_)
    · exact absurd c4 q
    · refine j_iconst (v := nI 1) d_Re_act_7 (by decide +kernel) ?_
      refine j_goto (t := 12) d_Re_act_8 (by decide) ?_
      refine j_istore_n d_Re_act_12 (by decide) rfl rfl ?_
      refine j_iconst (v := nI 0) d_Re_act_13 (by decide +kernel) ?_
      refine j_istore_n d_Re_act_14 (by decide) rfl rfl ?_
      have e : sAct σ p = actF 3000 σ p := by rw [sAct, ifP_f q]
      rw [e]
      exact lp_Re_act hp (fun σ => I σ ∧ σ 0 p 0 = 0 ∧ σ 17 p 0 = 0) (mu p) (fun σ h => (ok p hp).1 σ h.1) (fun σ σ' h ho => ⟨⟨((ok p hp).2.1 σ σ' h.1 h.2.1 h.2.2 ho).1, by rw [one_keep ho (by omega)]; exact h.2.1, by rw [one_keep ho (by omega)]; exact h.2.2⟩, ((ok p hp).2.1 σ σ' h.1 h.2.1 h.2.2 ho).2⟩) (fun m σ _ => sS_actF hp m σ) 3000 σ κ nx 0 ⟨hi, by omega, by omega⟩ kr ((ok p hp).2.2 σ hi) (by omega)
