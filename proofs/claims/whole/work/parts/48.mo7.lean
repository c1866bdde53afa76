/-! The reference: act, and the calls that change replicas (g_mo7.py) -/
/-- the faulty ones are the liars -/
def FC (L : Int32) (c : Nat → Nat → Nat) : Prop := ∀ τ : Sg, τ 0 = c → FL L τ

set_option maxHeartbeats 4000000 in
set_option maxRecDepth 100000 in
theorem m_one_0 {l : Launch} {D : va_G} {M nx : Nat} {L : Int32} {σ ρ : Sg} {g : Nat → Option va_E} {c : Nat → Nat → Nat} (ic : Pu.Ic c σ) (p : Nat) (hp : p < 8) (hon : σ 0 p 0 = 0) (z1 : sealed σ p = 0) (z2 : j2 σ p = 0) (z3 : ¬ g3 σ p) (z4 : ¬ g4 σ p) (z5 : ¬ g5 σ p) (z6 : ¬ g6 σ p)  : jM (G0 l D) m_Mo_one 3 0 0 [.ref (M + 0), .int (nI p)] (hM D M L σ ρ g, nx) (fun v h => v = some (.int (nI 0)) ∧ ∃ ρ', h = (hM D M L (σ) ρ' g, nx)) := by
  refine jM.of (by decide +kernel) (Nat.le_of_ble_eq_true rfl) rfl ?_
  have hb := ic.2.1
  first | refine j_aload_n d_Mo_one_0 rfl ?_ | refine j_aload_nq d_Mo_one_0 rfl ?_ | refine j_aload_nN d_Mo_one_0 rfl ?_
  refine j_iload_n d_Mo_one_1 rfl ?_
  refine j_callV0 (As := [_]) G0_good G0_E d_Mo_one_2 c_Mo_170 rfl rfl (m_survey hb p hp (Pu.MG_ok (by omega) ic.1) (ic.1.po.ht p hp) ic.1.bx.lb) (hM_o (by decide)) rfl rfl (by decide) (Nat.le_of_ble_eq_true rfl) ?_
  rintro _ _ ⟨rfl, ρ1, rfl, sv⟩
  first | refine j_aload_n d_Mo_one_5 rfl ?_ | refine j_aload_nq d_Mo_one_5 rfl ?_ | refine j_aload_nN d_Mo_one_5 rfl ?_
  refine j_iload_n d_Mo_one_6 rfl ?_
  refine j_callV0 (As := [_]) G0_good G0_E d_Mo_one_7 c_Mo_174 rfl rfl (m_decides_f ic p hp hon sv z1) (hM_o (by decide)) rfl rfl (by decide) (Nat.le_of_ble_eq_true rfl) ?_
  rintro _ _ ⟨rfl, rfl⟩
  refine j_if_ne (t := 53) d_Mo_one_10 (by decide) (fun q => absurd q (by decide +kernel)) (fun _ => ?_)
  first | refine j_aload_n d_Mo_one_13 rfl ?_ | refine j_aload_nq d_Mo_one_13 rfl ?_ | refine j_aload_nN d_Mo_one_13 rfl ?_
  refine j_iload_n d_Mo_one_14 rfl ?_
  refine j_callV0 (As := [_]) G0_good G0_E d_Mo_one_15 c_Mo_177 rfl rfl (m_follows_f ic p hp hon sv z2) (hM_o (by decide)) rfl rfl (by decide) (Nat.le_of_ble_eq_true rfl) ?_
  rintro _ _ ⟨rfl, rfl⟩
  refine j_if_ne (t := 53) d_Mo_one_18 (by decide) (fun q => absurd q (by decide +kernel)) (fun _ => ?_)
  first | refine j_aload_n d_Mo_one_21 rfl ?_ | refine j_aload_nq d_Mo_one_21 rfl ?_ | refine j_aload_nN d_Mo_one_21 rfl ?_
  refine j_iload_n d_Mo_one_22 rfl ?_
  refine j_callV0 (As := [_]) G0_good G0_E d_Mo_one_23 c_Mo_180 rfl rfl (m_proposes_f ic p hp hon sv z3) (hM_o (by decide)) rfl rfl (by decide) (Nat.le_of_ble_eq_true rfl) ?_
  rintro _ _ ⟨rfl, rfl⟩
  refine j_if_ne (t := 53) d_Mo_one_26 (by decide) (fun q => absurd q (by decide +kernel)) (fun _ => ?_)
  first | refine j_aload_n d_Mo_one_29 rfl ?_ | refine j_aload_nq d_Mo_one_29 rfl ?_ | refine j_aload_nN d_Mo_one_29 rfl ?_
  refine j_iload_n d_Mo_one_30 rfl ?_
  refine j_callV0 (As := [_]) G0_good G0_E d_Mo_one_31 c_Mo_183 rfl rfl (m_votes_f ic p hp hon sv z4) (hM_o (by decide)) rfl rfl (by decide) (Nat.le_of_ble_eq_true rfl) ?_
  rintro _ _ ⟨rfl, rfl⟩
  refine j_if_ne (t := 53) d_Mo_one_34 (by decide) (fun q => absurd q (by decide +kernel)) (fun _ => ?_)
  first | refine j_aload_n d_Mo_one_37 rfl ?_ | refine j_aload_nq d_Mo_one_37 rfl ?_ | refine j_aload_nN d_Mo_one_37 rfl ?_
  refine j_iload_n d_Mo_one_38 rfl ?_
  refine j_callV0 (As := [_]) G0_good G0_E d_Mo_one_39 c_Mo_186 rfl rfl (m_accepts_f ic p hp hon sv z5) (hM_o (by decide)) rfl rfl (by decide) (Nat.le_of_ble_eq_true rfl) ?_
  rintro _ _ ⟨rfl, rfl⟩
  refine j_if_ne (t := 53) d_Mo_one_42 (by decide) (fun q => absurd q (by decide +kernel)) (fun _ => ?_)
  first | refine j_aload_n d_Mo_one_45 rfl ?_ | refine j_aload_nq d_Mo_one_45 rfl ?_ | refine j_aload_nN d_Mo_one_45 rfl ?_
  refine j_iload_n d_Mo_one_46 rfl ?_
  refine j_callV0 (As := [_]) G0_good G0_E d_Mo_one_47 c_Mo_189 rfl rfl (m_skips_f ic p hp hon sv z6) (hM_o (by decide)) rfl rfl (by decide) (Nat.le_of_ble_eq_true rfl) ?_
  rintro _ _ ⟨rfl, rfl⟩
  refine j_if_eq (t := 57) d_Mo_one_50 (by decide) (fun _ => ?_) (fun q => absurd q (by decide +kernel))
  refine j_iconst (v := nI 0) d_Mo_one_57 (by decide +kernel) ?_
  exact j_zret d_Mo_one_58 rfl (by decide +kernel) ⟨rfl, _, rfl⟩

set_option maxHeartbeats 4000000 in
set_option maxRecDepth 100000 in
theorem m_one_1 {l : Launch} {D : va_G} {M nx : Nat} {L : Int32} {σ ρ : Sg} {g : Nat → Option va_E} {c : Nat → Nat → Nat} (ic : Pu.Ic c σ) (p : Nat) (hp : p < 8) (hon : σ 0 p 0 = 0)  (y : ¬ sealed σ p = 0) : jM (G0 l D) m_Mo_one 3 0 0 [.ref (M + 0), .int (nI p)] (hM D M L σ ρ g, nx) (fun v h => v = some (.int (nI 1)) ∧ ∃ ρ', h = (hM D M L (a1 σ p) ρ' g, nx)) := by
  refine jM.of (by decide +kernel) (Nat.le_of_ble_eq_true rfl) rfl ?_
  have hb := ic.2.1
  first | refine j_aload_n d_Mo_one_0 rfl ?_ | refine j_aload_nq d_Mo_one_0 rfl ?_ | refine j_aload_nN d_Mo_one_0 rfl ?_
  refine j_iload_n d_Mo_one_1 rfl ?_
  refine j_callV0 (As := [_]) G0_good G0_E d_Mo_one_2 c_Mo_170 rfl rfl (m_survey hb p hp (Pu.MG_ok (by omega) ic.1) (ic.1.po.ht p hp) ic.1.bx.lb) (hM_o (by decide)) rfl rfl (by decide) (Nat.le_of_ble_eq_true rfl) ?_
  rintro _ _ ⟨rfl, ρ1, rfl, sv⟩
  first | refine j_aload_n d_Mo_one_5 rfl ?_ | refine j_aload_nq d_Mo_one_5 rfl ?_ | refine j_aload_nN d_Mo_one_5 rfl ?_
  refine j_iload_n d_Mo_one_6 rfl ?_
  refine j_callV0 (As := [_]) G0_good G0_E d_Mo_one_7 c_Mo_174 rfl rfl (m_decides_t ic p hp hon sv y) (hM_o (by decide)) rfl rfl (by decide) (Nat.le_of_ble_eq_true rfl) ?_
  rintro _ _ ⟨rfl, rfl⟩
  refine j_if_ne (t := 53) d_Mo_one_10 (by decide) (fun _ => ?_) (fun q => absurd q (by decide +kernel))
  refine j_iconst (v := nI 1) d_Mo_one_53 (by decide +kernel) ?_
  refine j_goto (t := 58) d_Mo_one_54 (by decide) ?_
  exact j_zret d_Mo_one_58 rfl (by decide +kernel) ⟨rfl, _, rfl⟩

set_option maxHeartbeats 4000000 in
set_option maxRecDepth 100000 in
theorem m_one_2 {l : Launch} {D : va_G} {M nx : Nat} {L : Int32} {σ ρ : Sg} {g : Nat → Option va_E} {c : Nat → Nat → Nat} (ic : Pu.Ic c σ) (p : Nat) (hp : p < 8) (hon : σ 0 p 0 = 0) (z1 : sealed σ p = 0) (y : ¬ j2 σ p = 0) : jM (G0 l D) m_Mo_one 3 0 0 [.ref (M + 0), .int (nI p)] (hM D M L σ ρ g, nx) (fun v h => v = some (.int (nI 1)) ∧ ∃ ρ', h = (hM D M L (a2 σ p) ρ' g, nx)) := by
  refine jM.of (by decide +kernel) (Nat.le_of_ble_eq_true rfl) rfl ?_
  have hb := ic.2.1
  first | refine j_aload_n d_Mo_one_0 rfl ?_ | refine j_aload_nq d_Mo_one_0 rfl ?_ | refine j_aload_nN d_Mo_one_0 rfl ?_
  refine j_iload_n d_Mo_one_1 rfl ?_
  refine j_callV0 (As := [_]) G0_good G0_E d_Mo_one_2 c_Mo_170 rfl rfl (m_survey hb p hp (Pu.MG_ok (by omega) ic.1) (ic.1.po.ht p hp) ic.1.bx.lb) (hM_o (by decide)) rfl rfl (by decide) (Nat.le_of_ble_eq_true rfl) ?_
  rintro _ _ ⟨rfl, ρ1, rfl, sv⟩
  first | refine j_aload_n d_Mo_one_5 rfl ?_ | refine j_aload_nq d_Mo_one_5 rfl ?_ | refine j_aload_nN d_Mo_one_5 rfl ?_
  refine j_iload_n d_Mo_one_6 rfl ?_
  refine j_callV0 (As := [_]) G0_good G0_E d_Mo_one_7 c_Mo_174 rfl rfl (m_decides_f ic p hp hon sv z1) (hM_o (by decide)) rfl rfl (by decide) (Nat.le_of_ble_eq_true rfl) ?_
  rintro _ _ ⟨rfl, rfl⟩
  refine j_if_ne (t := 53) d_Mo_one_10 (by decide) (fun q => absurd q (by decide +kernel)) (fun _ => ?_)
  first | refine j_aload_n d_Mo_one_13 rfl ?_ | refine j_aload_nq d_Mo_one_13 rfl ?_ | refine j_aload_nN d_Mo_one_13 rfl ?_
  refine j_iload_n d_Mo_one_14 rfl ?_
  refine j_callV0 (As := [_]) G0_good G0_E d_Mo_one_15 c_Mo_177 rfl rfl (m_follows_t ic p hp hon sv y) (hM_o (by decide)) rfl rfl (by decide) (Nat.le_of_ble_eq_true rfl) ?_
  rintro _ _ ⟨rfl, rfl⟩
  refine j_if_ne (t := 53) d_Mo_one_18 (by decide) (fun _ => ?_) (fun q => absurd q (by decide +kernel))
  refine j_iconst (v := nI 1) d_Mo_one_53 (by decide +kernel) ?_
  refine j_goto (t := 58) d_Mo_one_54 (by decide) ?_
  exact j_zret d_Mo_one_58 rfl (by decide +kernel) ⟨rfl, _, rfl⟩

set_option maxHeartbeats 4000000 in
set_option maxRecDepth 100000 in
theorem m_one_3 {l : Launch} {D : va_G} {M nx : Nat} {L : Int32} {σ ρ : Sg} {g : Nat → Option va_E} {c : Nat → Nat → Nat} (ic : Pu.Ic c σ) (p : Nat) (hp : p < 8) (hon : σ 0 p 0 = 0) (z1 : sealed σ p = 0) (z2 : j2 σ p = 0) (y : g3 σ p) : jM (G0 l D) m_Mo_one 3 0 0 [.ref (M + 0), .int (nI p)] (hM D M L σ ρ g, nx) (fun v h => v = some (.int (nI 1)) ∧ ∃ ρ', h = (hM D M L (a3 σ p) ρ' g, nx)) := by
  refine jM.of (by decide +kernel) (Nat.le_of_ble_eq_true rfl) rfl ?_
  have hb := ic.2.1
  first | refine j_aload_n d_Mo_one_0 rfl ?_ | refine j_aload_nq d_Mo_one_0 rfl ?_ | refine j_aload_nN d_Mo_one_0 rfl ?_
  refine j_iload_n d_Mo_one_1 rfl ?_
  refine j_callV0 (As := [_]) G0_good G0_E d_Mo_one_2 c_Mo_170 rfl rfl (m_survey hb p hp (Pu.MG_ok (by omega) ic.1) (ic.1.po.ht p hp) ic.1.bx.lb) (hM_o (by decide)) rfl rfl (by decide) (Nat.le_of_ble_eq_true rfl) ?_
  rintro _ _ ⟨rfl, ρ1, rfl, sv⟩
  first | refine j_aload_n d_Mo_one_5 rfl ?_ | refine j_aload_nq d_Mo_one_5 rfl ?_ | refine j_aload_nN d_Mo_one_5 rfl ?_
  refine j_iload_n d_Mo_one_6 rfl ?_
  refine j_callV0 (As := [_]) G0_good G0_E d_Mo_one_7 c_Mo_174 rfl rfl (m_decides_f ic p hp hon sv z1) (hM_o (by decide)) rfl rfl (by decide) (Nat.le_of_ble_eq_true rfl) ?_
  rintro _ _ ⟨rfl, rfl⟩
  refine j_if_ne (t := 53) d_Mo_one_10 (by decide) (fun q => absurd q (by decide +kernel)) (fun _ => ?_)
  first | refine j_aload_n d_Mo_one_13 rfl ?_ | refine j_aload_nq d_Mo_one_13 rfl ?_ | refine j_aload_nN d_Mo_one_13 rfl ?_
  refine j_iload_n d_Mo_one_14 rfl ?_
  refine j_callV0 (As := [_]) G0_good G0_E d_Mo_one_15 c_Mo_177 rfl rfl (m_follows_f ic p hp hon sv z2) (hM_o (by decide)) rfl rfl (by decide) (Nat.le_of_ble_eq_true rfl) ?_
  rintro _ _ ⟨rfl, rfl⟩
  refine j_if_ne (t := 53) d_Mo_one_18 (by decide) (fun q => absurd q (by decide +kernel)) (fun _ => ?_)
  first | refine j_aload_n d_Mo_one_21 rfl ?_ | refine j_aload_nq d_Mo_one_21 rfl ?_ | refine j_aload_nN d_Mo_one_21 rfl ?_
  refine j_iload_n d_Mo_one_22 rfl ?_
  refine j_callV0 (As := [_]) G0_good G0_E d_Mo_one_23 c_Mo_180 rfl rfl (m_proposes_t ic p hp hon sv y) (hM_o (by decide)) rfl rfl (by decide) (Nat.le_of_ble_eq_true rfl) ?_
  rintro _ _ ⟨rfl, rfl⟩
  refine j_if_ne (t := 53) d_Mo_one_26 (by decide) (fun _ => ?_) (fun q => absurd q (by decide +kernel))
  refine j_iconst (v := nI 1) d_Mo_one_53 (by decide +kernel) ?_
  refine j_goto (t := 58) d_Mo_one_54 (by decide) ?_
  exact j_zret d_Mo_one_58 rfl (by decide +kernel) ⟨rfl, _, rfl⟩

set_option maxHeartbeats 4000000 in
set_option maxRecDepth 100000 in
theorem m_one_4 {l : Launch} {D : va_G} {M nx : Nat} {L : Int32} {σ ρ : Sg} {g : Nat → Option va_E} {c : Nat → Nat → Nat} (ic : Pu.Ic c σ) (p : Nat) (hp : p < 8) (hon : σ 0 p 0 = 0) (z1 : sealed σ p = 0) (z2 : j2 σ p = 0) (z3 : ¬ g3 σ p) (y : g4 σ p) : jM (G0 l D) m_Mo_one 3 0 0 [.ref (M + 0), .int (nI p)] (hM D M L σ ρ g, nx) (fun v h => v = some (.int (nI 1)) ∧ ∃ ρ', h = (hM D M L (a4 σ p) ρ' g, nx)) := by
  refine jM.of (by decide +kernel) (Nat.le_of_ble_eq_true rfl) rfl ?_
  have hb := ic.2.1
  first | refine j_aload_n d_Mo_one_0 rfl ?_ | refine j_aload_nq d_Mo_one_0 rfl ?_ | refine j_aload_nN d_Mo_one_0 rfl ?_
  refine j_iload_n d_Mo_one_1 rfl ?_
  refine j_callV0 (As := [_]) G0_good G0_E d_Mo_one_2 c_Mo_170 rfl rfl (m_survey hb p hp (Pu.MG_ok (by omega) ic.1) (ic.1.po.ht p hp) ic.1.bx.lb) (hM_o (by decide)) rfl rfl (by decide) (Nat.le_of_ble_eq_true rfl) ?_
  rintro _ _ ⟨rfl, ρ1, rfl, sv⟩
  first | refine j_aload_n d_Mo_one_5 rfl ?_ | refine j_aload_nq d_Mo_one_5 rfl ?_ | refine j_aload_nN d_Mo_one_5 rfl ?_
  refine j_iload_n d_Mo_one_6 rfl ?_
  refine j_callV0 (As := [_]) G0_good G0_E d_Mo_one_7 c_Mo_174 rfl rfl (m_decides_f ic p hp hon sv z1) (hM_o (by decide)) rfl rfl (by decide) (Nat.le_of_ble_eq_true rfl) ?_
  rintro _ _ ⟨rfl, rfl⟩
  refine j_if_ne (t := 53) d_Mo_one_10 (by decide) (fun q => absurd q (by decide +kernel)) (fun _ => ?_)
  first | refine j_aload_n d_Mo_one_13 rfl ?_ | refine j_aload_nq d_Mo_one_13 rfl ?_ | refine j_aload_nN d_Mo_one_13 rfl ?_
  refine j_iload_n d_Mo_one_14 rfl ?_
  refine j_callV0 (As := [_]) G0_good G0_E d_Mo_one_15 c_Mo_177 rfl rfl (m_follows_f ic p hp hon sv z2) (hM_o (by decide)) rfl rfl (by decide) (Nat.le_of_ble_eq_true rfl) ?_
  rintro _ _ ⟨rfl, rfl⟩
  refine j_if_ne (t := 53) d_Mo_one_18 (by decide) (fun q => absurd q (by decide +kernel)) (fun _ => ?_)
  first | refine j_aload_n d_Mo_one_21 rfl ?_ | refine j_aload_nq d_Mo_one_21 rfl ?_ | refine j_aload_nN d_Mo_one_21 rfl ?_
  refine j_iload_n d_Mo_one_22 rfl ?_
  refine j_callV0 (As := [_]) G0_good G0_E d_Mo_one_23 c_Mo_180 rfl rfl (m_proposes_f ic p hp hon sv z3) (hM_o (by decide)) rfl rfl (by decide) (Nat.le_of_ble_eq_true rfl) ?_
  rintro _ _ ⟨rfl, rfl⟩
  refine j_if_ne (t := 53) d_Mo_one_26 (by decide) (fun q => absurd q (by decide +kernel)) (fun _ => ?_)
  first | refine j_aload_n d_Mo_one_29 rfl ?_ | refine j_aload_nq d_Mo_one_29 rfl ?_ | refine j_aload_nN d_Mo_one_29 rfl ?_
  refine j_iload_n d_Mo_one_30 rfl ?_
  refine j_callV0 (As := [_]) G0_good G0_E d_Mo_one_31 c_Mo_183 rfl rfl (m_votes_t ic p hp hon sv y) (hM_o (by decide)) rfl rfl (by decide) (Nat.le_of_ble_eq_true rfl) ?_
  rintro _ _ ⟨rfl, rfl⟩
  refine j_if_ne (t := 53) d_Mo_one_34 (by decide) (fun _ => ?_) (fun q => absurd q (by decide +kernel))
  refine j_iconst (v := nI 1) d_Mo_one_53 (by decide +kernel) ?_
  refine j_goto (t := 58) d_Mo_one_54 (by decide) ?_
  exact j_zret d_Mo_one_58 rfl (by decide +kernel) ⟨rfl, _, rfl⟩

set_option maxHeartbeats 4000000 in
set_option maxRecDepth 100000 in
theorem m_one_5s {l : Launch} {D : va_G} {M nx : Nat} {L : Int32} {σ ρ : Sg} {g : Nat → Option va_E} {c : Nat → Nat → Nat} (ic : Pu.Ic c σ) (p : Nat) (hp : p < 8) (hon : σ 0 p 0 = 0) (z1 : sealed σ p = 0) (z2 : j2 σ p = 0) (z3 : ¬ g3 σ p) (z4 : ¬ g4 σ p) (y : g5 σ p) (y1 : σ 12 p 0 = 1) : jM (G0 l D) m_Mo_one 3 0 0 [.ref (M + 0), .int (nI p)] (hM D M L σ ρ g, nx) (fun v h => v = some (.int (nI 1)) ∧ ∃ ρ', h = (hM D M L (s5 σ p) ρ' g, nx)) := by
  refine jM.of (by decide +kernel) (Nat.le_of_ble_eq_true rfl) rfl ?_
  have hb := ic.2.1
  first | refine j_aload_n d_Mo_one_0 rfl ?_ | refine j_aload_nq d_Mo_one_0 rfl ?_ | refine j_aload_nN d_Mo_one_0 rfl ?_
  refine j_iload_n d_Mo_one_1 rfl ?_
  refine j_callV0 (As := [_]) G0_good G0_E d_Mo_one_2 c_Mo_170 rfl rfl (m_survey hb p hp (Pu.MG_ok (by omega) ic.1) (ic.1.po.ht p hp) ic.1.bx.lb) (hM_o (by decide)) rfl rfl (by decide) (Nat.le_of_ble_eq_true rfl) ?_
  rintro _ _ ⟨rfl, ρ1, rfl, sv⟩
  first | refine j_aload_n d_Mo_one_5 rfl ?_ | refine j_aload_nq d_Mo_one_5 rfl ?_ | refine j_aload_nN d_Mo_one_5 rfl ?_
  refine j_iload_n d_Mo_one_6 rfl ?_
  refine j_callV0 (As := [_]) G0_good G0_E d_Mo_one_7 c_Mo_174 rfl rfl (m_decides_f ic p hp hon sv z1) (hM_o (by decide)) rfl rfl (by decide) (Nat.le_of_ble_eq_true rfl) ?_
  rintro _ _ ⟨rfl, rfl⟩
  refine j_if_ne (t := 53) d_Mo_one_10 (by decide) (fun q => absurd q (by decide +kernel)) (fun _ => ?_)
  first | refine j_aload_n d_Mo_one_13 rfl ?_ | refine j_aload_nq d_Mo_one_13 rfl ?_ | refine j_aload_nN d_Mo_one_13 rfl ?_
  refine j_iload_n d_Mo_one_14 rfl ?_
  refine j_callV0 (As := [_]) G0_good G0_E d_Mo_one_15 c_Mo_177 rfl rfl (m_follows_f ic p hp hon sv z2) (hM_o (by decide)) rfl rfl (by decide) (Nat.le_of_ble_eq_true rfl) ?_
  rintro _ _ ⟨rfl, rfl⟩
  refine j_if_ne (t := 53) d_Mo_one_18 (by decide) (fun q => absurd q (by decide +kernel)) (fun _ => ?_)
  first | refine j_aload_n d_Mo_one_21 rfl ?_ | refine j_aload_nq d_Mo_one_21 rfl ?_ | refine j_aload_nN d_Mo_one_21 rfl ?_
  refine j_iload_n d_Mo_one_22 rfl ?_
  refine j_callV0 (As := [_]) G0_good G0_E d_Mo_one_23 c_Mo_180 rfl rfl (m_proposes_f ic p hp hon sv z3) (hM_o (by decide)) rfl rfl (by decide) (Nat.le_of_ble_eq_true rfl) ?_
  rintro _ _ ⟨rfl, rfl⟩
  refine j_if_ne (t := 53) d_Mo_one_26 (by decide) (fun q => absurd q (by decide +kernel)) (fun _ => ?_)
  first | refine j_aload_n d_Mo_one_29 rfl ?_ | refine j_aload_nq d_Mo_one_29 rfl ?_ | refine j_aload_nN d_Mo_one_29 rfl ?_
  refine j_iload_n d_Mo_one_30 rfl ?_
  refine j_callV0 (As := [_]) G0_good G0_E d_Mo_one_31 c_Mo_183 rfl rfl (m_votes_f ic p hp hon sv z4) (hM_o (by decide)) rfl rfl (by decide) (Nat.le_of_ble_eq_true rfl) ?_
  rintro _ _ ⟨rfl, rfl⟩
  refine j_if_ne (t := 53) d_Mo_one_34 (by decide) (fun q => absurd q (by decide +kernel)) (fun _ => ?_)
  first | refine j_aload_n d_Mo_one_37 rfl ?_ | refine j_aload_nq d_Mo_one_37 rfl ?_ | refine j_aload_nN d_Mo_one_37 rfl ?_
  refine j_iload_n d_Mo_one_38 rfl ?_
  refine j_callV0 (As := [_]) G0_good G0_E d_Mo_one_39 c_Mo_186 rfl rfl (m_accepts_s ic p hp hon sv y y1) (hM_o (by decide)) rfl rfl (by decide) (Nat.le_of_ble_eq_true rfl) ?_
  rintro _ _ ⟨rfl, rfl⟩
  refine j_if_ne (t := 53) d_Mo_one_42 (by decide) (fun _ => ?_) (fun q => absurd q (by decide +kernel))
  refine j_iconst (v := nI 1) d_Mo_one_53 (by decide +kernel) ?_
  refine j_goto (t := 58) d_Mo_one_54 (by decide) ?_
  exact j_zret d_Mo_one_58 rfl (by decide +kernel) ⟨rfl, _, rfl⟩

set_option maxHeartbeats 4000000 in
set_option maxRecDepth 100000 in
theorem m_one_5c {l : Launch} {D : va_G} {M nx : Nat} {L : Int32} {σ ρ : Sg} {g : Nat → Option va_E} {c : Nat → Nat → Nat} (ic : Pu.Ic c σ) (p : Nat) (hp : p < 8) (hon : σ 0 p 0 = 0) (z1 : sealed σ p = 0) (z2 : j2 σ p = 0) (z3 : ¬ g3 σ p) (z4 : ¬ g4 σ p) (y : g5 σ p) (y1 : ¬ σ 12 p 0 = 1) : jM (G0 l D) m_Mo_one 3 0 0 [.ref (M + 0), .int (nI p)] (hM D M L σ ρ g, nx) (fun v h => v = some (.int (nI 1)) ∧ ∃ ρ', h = (hM D M L (c5 σ p) ρ' g, nx)) := by
  refine jM.of (by decide +kernel) (Nat.le_of_ble_eq_true rfl) rfl ?_
  have hb := ic.2.1
  first | refine j_aload_n d_Mo_one_0 rfl ?_ | refine j_aload_nq d_Mo_one_0 rfl ?_ | refine j_aload_nN d_Mo_one_0 rfl ?_
  refine j_iload_n d_Mo_one_1 rfl ?_
  refine j_callV0 (As := [_]) G0_good G0_E d_Mo_one_2 c_Mo_170 rfl rfl (m_survey hb p hp (Pu.MG_ok (by omega) ic.1) (ic.1.po.ht p hp) ic.1.bx.lb) (hM_o (by decide)) rfl rfl (by decide) (Nat.le_of_ble_eq_true rfl) ?_
  rintro _ _ ⟨rfl, ρ1, rfl, sv⟩
  first | refine j_aload_n d_Mo_one_5 rfl ?_ | refine j_aload_nq d_Mo_one_5 rfl ?_ | refine j_aload_nN d_Mo_one_5 rfl ?_
  refine j_iload_n d_Mo_one_6 rfl ?_
  refine j_callV0 (As := [_]) G0_good G0_E d_Mo_one_7 c_Mo_174 rfl rfl (m_decides_f ic p hp hon sv z1) (hM_o (by decide)) rfl rfl (by decide) (Nat.le_of_ble_eq_true rfl) ?_
  rintro _ _ ⟨rfl, rfl⟩
  refine j_if_ne (t := 53) d_Mo_one_10 (by decide) (fun q => absurd q (by decide +kernel)) (fun _ => ?_)
  first | refine j_aload_n d_Mo_one_13 rfl ?_ | refine j_aload_nq d_Mo_one_13 rfl ?_ | refine j_aload_nN d_Mo_one_13 rfl ?_
  refine j_iload_n d_Mo_one_14 rfl ?_
  refine j_callV0 (As := [_]) G0_good G0_E d_Mo_one_15 c_Mo_177 rfl rfl (m_follows_f ic p hp hon sv z2) (hM_o (by decide)) rfl rfl (by decide) (Nat.le_of_ble_eq_true rfl) ?_
  rintro _ _ ⟨rfl, rfl⟩
  refine j_if_ne (t := 53) d_Mo_one_18 (by decide) (fun q => absurd q (by decide +kernel)) (fun _ => ?_)
  first | refine j_aload_n d_Mo_one_21 rfl ?_ | refine j_aload_nq d_Mo_one_21 rfl ?_ | refine j_aload_nN d_Mo_one_21 rfl ?_
  refine j_iload_n d_Mo_one_22 rfl ?_
  refine j_callV0 (As := [_]) G0_good G0_E d_Mo_one_23 c_Mo_180 rfl rfl (m_proposes_f ic p hp hon sv z3) (hM_o (by decide)) rfl rfl (by decide) (Nat.le_of_ble_eq_true rfl) ?_
  rintro _ _ ⟨rfl, rfl⟩
  refine j_if_ne (t := 53) d_Mo_one_26 (by decide) (fun q => absurd q (by decide +kernel)) (fun _ => ?_)
  first | refine j_aload_n d_Mo_one_29 rfl ?_ | refine j_aload_nq d_Mo_one_29 rfl ?_ | refine j_aload_nN d_Mo_one_29 rfl ?_
  refine j_iload_n d_Mo_one_30 rfl ?_
  refine j_callV0 (As := [_]) G0_good G0_E d_Mo_one_31 c_Mo_183 rfl rfl (m_votes_f ic p hp hon sv z4) (hM_o (by decide)) rfl rfl (by decide) (Nat.le_of_ble_eq_true rfl) ?_
  rintro _ _ ⟨rfl, rfl⟩
  refine j_if_ne (t := 53) d_Mo_one_34 (by decide) (fun q => absurd q (by decide +kernel)) (fun _ => ?_)
  first | refine j_aload_n d_Mo_one_37 rfl ?_ | refine j_aload_nq d_Mo_one_37 rfl ?_ | refine j_aload_nN d_Mo_one_37 rfl ?_
  refine j_iload_n d_Mo_one_38 rfl ?_
  refine j_callV0 (As := [_]) G0_good G0_E d_Mo_one_39 c_Mo_186 rfl rfl (m_accepts_c ic p hp hon sv y y1) (hM_o (by decide)) rfl rfl (by decide) (Nat.le_of_ble_eq_true rfl) ?_
  rintro _ _ ⟨rfl, rfl⟩
  refine j_if_ne (t := 53) d_Mo_one_42 (by decide) (fun _ => ?_) (fun q => absurd q (by decide +kernel))
  refine j_iconst (v := nI 1) d_Mo_one_53 (by decide +kernel) ?_
  refine j_goto (t := 58) d_Mo_one_54 (by decide) ?_
  exact j_zret d_Mo_one_58 rfl (by decide +kernel) ⟨rfl, _, rfl⟩

set_option maxHeartbeats 4000000 in
set_option maxRecDepth 100000 in
theorem m_one_6 {l : Launch} {D : va_G} {M nx : Nat} {L : Int32} {σ ρ : Sg} {g : Nat → Option va_E} {c : Nat → Nat → Nat} (ic : Pu.Ic c σ) (p : Nat) (hp : p < 8) (hon : σ 0 p 0 = 0) (z1 : sealed σ p = 0) (z2 : j2 σ p = 0) (z3 : ¬ g3 σ p) (z4 : ¬ g4 σ p) (z5 : ¬ g5 σ p) (y : g6 σ p) : jM (G0 l D) m_Mo_one 3 0 0 [.ref (M + 0), .int (nI p)] (hM D M L σ ρ g, nx) (fun v h => v = some (.int (nI 1)) ∧ ∃ ρ', h = (hM D M L (a6 σ p) ρ' g, nx)) := by
  refine jM.of (by decide +kernel) (Nat.le_of_ble_eq_true rfl) rfl ?_
  have hb := ic.2.1
  first | refine j_aload_n d_Mo_one_0 rfl ?_ | refine j_aload_nq d_Mo_one_0 rfl ?_ | refine j_aload_nN d_Mo_one_0 rfl ?_
  refine j_iload_n d_Mo_one_1 rfl ?_
  refine j_callV0 (As := [_]) G0_good G0_E d_Mo_one_2 c_Mo_170 rfl rfl (m_survey hb p hp (Pu.MG_ok (by omega) ic.1) (ic.1.po.ht p hp) ic.1.bx.lb) (hM_o (by decide)) rfl rfl (by decide) (Nat.le_of_ble_eq_true rfl) ?_
  rintro _ _ ⟨rfl, ρ1, rfl, sv⟩
  first | refine j_aload_n d_Mo_one_5 rfl ?_ | refine j_aload_nq d_Mo_one_5 rfl ?_ | refine j_aload_nN d_Mo_one_5 rfl ?_
  refine j_iload_n d_Mo_one_6 rfl ?_
  refine j_callV0 (As := [_]) G0_good G0_E d_Mo_one_7 c_Mo_174 rfl rfl (m_decides_f ic p hp hon sv z1) (hM_o (by decide)) rfl rfl (by decide) (Nat.le_of_ble_eq_true rfl) ?_
  rintro _ _ ⟨rfl, rfl⟩
  refine j_if_ne (t := 53) d_Mo_one_10 (by decide) (fun q => absurd q (by decide +kernel)) (fun _ => ?_)
  first | refine j_aload_n d_Mo_one_13 rfl ?_ | refine j_aload_nq d_Mo_one_13 rfl ?_ | refine j_aload_nN d_Mo_one_13 rfl ?_
  refine j_iload_n d_Mo_one_14 rfl ?_
  refine j_callV0 (As := [_]) G0_good G0_E d_Mo_one_15 c_Mo_177 rfl rfl (m_follows_f ic p hp hon sv z2) (hM_o (by decide)) rfl rfl (by decide) (Nat.le_of_ble_eq_true rfl) ?_
  rintro _ _ ⟨rfl, rfl⟩
  refine j_if_ne (t := 53) d_Mo_one_18 (by decide) (fun q => absurd q (by decide +kernel)) (fun _ => ?_)
  first | refine j_aload_n d_Mo_one_21 rfl ?_ | refine j_aload_nq d_Mo_one_21 rfl ?_ | refine j_aload_nN d_Mo_one_21 rfl ?_
  refine j_iload_n d_Mo_one_22 rfl ?_
  refine j_callV0 (As := [_]) G0_good G0_E d_Mo_one_23 c_Mo_180 rfl rfl (m_proposes_f ic p hp hon sv z3) (hM_o (by decide)) rfl rfl (by decide) (Nat.le_of_ble_eq_true rfl) ?_
  rintro _ _ ⟨rfl, rfl⟩
  refine j_if_ne (t := 53) d_Mo_one_26 (by decide) (fun q => absurd q (by decide +kernel)) (fun _ => ?_)
  first | refine j_aload_n d_Mo_one_29 rfl ?_ | refine j_aload_nq d_Mo_one_29 rfl ?_ | refine j_aload_nN d_Mo_one_29 rfl ?_
  refine j_iload_n d_Mo_one_30 rfl ?_
  refine j_callV0 (As := [_]) G0_good G0_E d_Mo_one_31 c_Mo_183 rfl rfl (m_votes_f ic p hp hon sv z4) (hM_o (by decide)) rfl rfl (by decide) (Nat.le_of_ble_eq_true rfl) ?_
  rintro _ _ ⟨rfl, rfl⟩
  refine j_if_ne (t := 53) d_Mo_one_34 (by decide) (fun q => absurd q (by decide +kernel)) (fun _ => ?_)
  first | refine j_aload_n d_Mo_one_37 rfl ?_ | refine j_aload_nq d_Mo_one_37 rfl ?_ | refine j_aload_nN d_Mo_one_37 rfl ?_
  refine j_iload_n d_Mo_one_38 rfl ?_
  refine j_callV0 (As := [_]) G0_good G0_E d_Mo_one_39 c_Mo_186 rfl rfl (m_accepts_f ic p hp hon sv z5) (hM_o (by decide)) rfl rfl (by decide) (Nat.le_of_ble_eq_true rfl) ?_
  rintro _ _ ⟨rfl, rfl⟩
  refine j_if_ne (t := 53) d_Mo_one_42 (by decide) (fun q => absurd q (by decide +kernel)) (fun _ => ?_)
  first | refine j_aload_n d_Mo_one_45 rfl ?_ | refine j_aload_nq d_Mo_one_45 rfl ?_ | refine j_aload_nN d_Mo_one_45 rfl ?_
  refine j_iload_n d_Mo_one_46 rfl ?_
  refine j_callV0 (As := [_]) G0_good G0_E d_Mo_one_47 c_Mo_189 rfl rfl (m_skips_t ic p hp hon sv y) (hM_o (by decide)) rfl rfl (by decide) (Nat.le_of_ble_eq_true rfl) ?_
  rintro _ _ ⟨rfl, rfl⟩
  refine j_if_eq (t := 57) d_Mo_one_50 (by decide) (fun q => absurd q (by decide +kernel)) (fun _ => ?_)
  refine j_iconst (v := nI 1) d_Mo_one_53 (by decide +kernel) ?_
  refine j_goto (t := 58) d_Mo_one_54 (by decide) ?_
  exact j_zret d_Mo_one_58 rfl (by decide +kernel) ⟨rfl, _, rfl⟩

theorem m_one_n {l : Launch} {D : va_G} {M nx : Nat} {L : Int32} {σ ρ : Sg} {g : Nat → Option va_E} {c : Nat → Nat → Nat} (ic : Pu.Ic c σ) (p : Nat) (hp : p < 8) (hon : σ 0 p 0 = 0) (h : one σ p = none) : jM (G0 l D) m_Mo_one 3 0 0 [.ref (M + 0), .int (nI p)] (hM D M L σ ρ g, nx) (fun v h => v = some (.int (nI 0)) ∧ ∃ ρ', h = (hM D M L (σ) ρ' g, nx)) := by
  unfold one at h
  by_cases h1 : g1 σ p
  · rw [ifP_t h1] at h; cases h
  rw [ifP_f h1] at h
  have z1 : sealed σ p = 0 := Classical.byContradiction (fun z => h1 ⟨z, Pu.seal16 hp ic.1 z⟩)
  by_cases h2 : ¬ j2 σ p = 0
  · rw [ifP_t h2] at h; cases h
  rw [ifP_f h2] at h
  by_cases h3 : g3 σ p
  · rw [ifP_t h3] at h; cases h
  rw [ifP_f h3] at h
  by_cases h4 : g4 σ p
  · rw [ifP_t h4] at h; cases h
  rw [ifP_f h4] at h
  by_cases h5 : g5 σ p
  · rw [ifP_t h5] at h; cases h
  rw [ifP_f h5] at h
  by_cases h6 : g6 σ p
  · rw [ifP_t h6] at h; cases h
  exact m_one_0 ic p hp hon z1 (Classical.not_not.mp h2) h3 h4 h5 h6
theorem m_one_s {l : Launch} {D : va_G} {M nx : Nat} {L : Int32} {σ ρ : Sg} {g : Nat → Option va_E} {c : Nat → Nat → Nat} (ic : Pu.Ic c σ) (p : Nat) (hp : p < 8) (hon : σ 0 p 0 = 0) {σ' : Sg} (h : one σ p = some σ') : jM (G0 l D) m_Mo_one 3 0 0 [.ref (M + 0), .int (nI p)] (hM D M L σ ρ g, nx) (fun v h => v = some (.int (nI 1)) ∧ ∃ ρ', h = (hM D M L (σ') ρ' g, nx)) := by
  unfold one at h
  by_cases h1 : g1 σ p
  · rw [ifP_t h1] at h; cases h; exact m_one_1 ic p hp hon h1.1
  rw [ifP_f h1] at h
  have z1 : sealed σ p = 0 := Classical.byContradiction (fun z => h1 ⟨z, Pu.seal16 hp ic.1 z⟩)
  by_cases h2 : ¬ j2 σ p = 0
  · rw [ifP_t h2] at h; cases h; exact m_one_2 ic p hp hon z1 h2
  rw [ifP_f h2] at h
  have z2 := Classical.not_not.mp h2
  by_cases h3 : g3 σ p
  · rw [ifP_t h3] at h; cases h; exact m_one_3 ic p hp hon z1 z2 h3
  rw [ifP_f h3] at h
  by_cases h4 : g4 σ p
  · rw [ifP_t h4] at h; cases h; exact m_one_4 ic p hp hon z1 z2 h3 h4
  rw [ifP_f h4] at h
  by_cases h5 : g5 σ p
  · rw [ifP_t h5] at h
    by_cases h12 : σ 12 p 0 = 1
    · rw [ifP_t h12] at h; cases h; exact m_one_5s ic p hp hon z1 z2 h3 h4 h5 h12
    · rw [ifP_f h12] at h; cases h; exact m_one_5c ic p hp hon z1 z2 h3 h4 h5 h12
  rw [ifP_f h5] at h
  by_cases h6 : g6 σ p
  · rw [ifP_t h6] at h; cases h; exact m_one_6 ic p hp hon z1 z2 h3 h4 h5 h6
  rw [ifP_f h6] at h; cases h

set_option maxHeartbeats 4000000 in
set_option maxRecDepth 100000 in
theorem lp_act_n {l : Launch} {D : va_G} {M nx : Nat} {L : Int32} {σ ρ : Sg} {g : Nat → Option va_E} {c : Nat → Nat → Nat} (ic : Pu.Ic c σ) (p : Nat) (hp : p < 8) (hon : σ 0 p 0 = 0) (h : one σ p = none) : J (G0 l D) jT m_Mo_act 4 (fun v h => v = none ∧ ∃ ρ', h = (hM D M L (σ) ρ' g, nx)) 0 0 23 [some (.ref (M + 0)), some (.int (nI p)), some (.int (nI 1))] [] (hM D M L σ ρ g, nx) := by
  refine j_iload_n d_Mo_act_23 rfl ?_
  first | refine c_if_eq (t := 36) d_Mo_act_24 (by decide) (fun c24 => ?_) (fun c24 => ?_) | refine n_if_eq (t := 36) d_Mo_act_24 (by decide) (by omega) (fun c24 => ?_) (fun c24 => ?_) | refine j_if_eq (t := 36) d_Mo_act_24 (by decide) (fun c24 => ?_) (fun c24 => ?_)
  · exfalso; first | exact c24 | omega
  · first | refine j_aload_n d_Mo_act_27 rfl ?_ | refine j_aload_nq d_Mo_act_27 rfl ?_ | refine j_aload_nN d_Mo_act_27 rfl ?_
    refine j_iload_n d_Mo_act_28 rfl ?_
    refine j_callV0 (As := [_]) G0_good G0_E d_Mo_act_29 c_Mo_195 rfl rfl (m_one_n ic p hp hon h) (hM_o (by decide)) rfl rfl (by decide) (Nat.le_of_ble_eq_true rfl) ?_
    rintro _ _ ⟨rfl, ρ', rfl⟩
    refine j_istore_n (lc' := [_, _, _]) d_Mo_act_32 (by decide) rfl rfl ?_
    refine j_goto (t := 23) d_Mo_act_33 (by decide) ?_
    refine j_iload_n d_Mo_act_23 rfl ?_
    refine j_if_eq (t := 36) d_Mo_act_24 (by decide) (fun _ => ?_) (fun q => absurd q (by decide +kernel))
    exact j_vret d_Mo_act_36 rfl ⟨rfl, _, rfl⟩

set_option maxHeartbeats 4000000 in
set_option maxRecDepth 100000 in
theorem lp_act_s {l : Launch} {D : va_G} {M nx : Nat} {L : Int32} {σ ρ : Sg} {g : Nat → Option va_E} {c : Nat → Nat → Nat} (ic : Pu.Ic c σ) (p : Nat) (hp : p < 8) (hon : σ 0 p 0 = 0) {σ' : Sg} (h : one σ p = some σ') {Q : Option Value → jH → Prop} (hn : ∀ ρ', J (G0 l D) jT m_Mo_act 4 Q 0 0 23 [some (.ref (M + 0)), some (.int (nI p)), some (.int (nI 1))] [] (hM D M L σ' ρ' g, nx)) : J (G0 l D) jT m_Mo_act 4 Q 0 0 23 [some (.ref (M + 0)), some (.int (nI p)), some (.int (nI 1))] [] (hM D M L σ ρ g, nx) := by
  refine j_iload_n d_Mo_act_23 rfl ?_
  first | refine c_if_eq (t := 36) d_Mo_act_24 (by decide) (fun c24 => ?_) (fun c24 => ?_) | refine n_if_eq (t := 36) d_Mo_act_24 (by decide) (by omega) (fun c24 => ?_) (fun c24 => ?_) | refine j_if_eq (t := 36) d_Mo_act_24 (by decide) (fun c24 => ?_) (fun c24 => ?_)
  · exfalso; first | exact c24 | omega
  · first | refine j_aload_n d_Mo_act_27 rfl ?_ | refine j_aload_nq d_Mo_act_27 rfl ?_ | refine j_aload_nN d_Mo_act_27 rfl ?_
    refine j_iload_n d_Mo_act_28 rfl ?_
    refine j_callV0 (As := [_]) G0_good G0_E d_Mo_act_29 c_Mo_195 rfl rfl (m_one_s ic p hp hon h) (hM_o (by decide)) rfl rfl (by decide) (Nat.le_of_ble_eq_true rfl) ?_
    rintro _ _ ⟨rfl, ρ', rfl⟩
    refine j_istore_n (lc' := [_, _, _]) d_Mo_act_32 (by decide) rfl rfl ?_
    refine j_goto (t := 23) d_Mo_act_33 (by decide) ?_
    exact hn _

theorem lp_act {l : Launch} {D : va_G} {M nx : Nat} {L : Int32} {g : Nat → Option va_E} {c : Nat → Nat → Nat} (p : Nat) (hp : p < 8) : ∀ (m : Nat) (σ ρ : Sg), Pu.Ic c σ → σ 0 p 0 = 0 → σ 17 p 0 = 0 → Pu.mu p σ < m → J (G0 l D) jT m_Mo_act 4 (fun v h => v = none ∧ ∃ ρ', h = (hM D M L (actF m σ p) ρ' g, nx)) 0 0 23 [some (.ref (M + 0)), some (.int (nI p)), some (.int (nI 1))] [] (hM D M L σ ρ g, nx)
  | 0, σ, ρ, _, _, _, h => by omega
  | m + 1, σ, ρ, ic, h0, h17, h => by
    cases e : one σ p with
    | none => rw [actF_n e]; exact lp_act_n ic p hp h0 e
    | some σ' =>
      rw [actF_s e]
      have := ((Pu.okI c) p hp).2.1 σ σ' ic h0 h17 e
      exact lp_act_s ic p hp h0 e (fun ρ' => lp_act p hp m σ' ρ' this.1 (by rw [one_keep e (by omega)]; exact h0) (by rw [one_keep e (by omega)]; exact h17) (by omega))

set_option maxHeartbeats 4000000 in
set_option maxRecDepth 100000 in
theorem m_act {l : Launch} {D : va_G} {M nx : Nat} {L : Int32} {σ ρ : Sg} {g : Nat → Option va_E} {c : Nat → Nat → Nat} (ic : Pu.Ic c σ) (p : Nat) (hp : p < 8) (fc : FC L c) : jM (G0 l D) m_Mo_act 4 0 0 [.ref (M + 0), .int (nI p)] (hM D M L σ ρ g, nx) (fun v h => v = none ∧ ∃ ρ', h = (hM D M L (sAct σ p) ρ' g, nx)) := by
  refine jM.of (by decide +kernel) (Nat.le_of_ble_eq_true rfl) rfl ?_
  have b17 := ic.2.1 17 p 0
  first | refine j_aload_n d_Mo_act_0 rfl ?_ | refine j_aload_nq d_Mo_act_0 rfl ?_ | refine j_aload_nN d_Mo_act_0 rfl ?_
  refine j_iload_n d_Mo_act_1 rfl ?_
  refine j_callV0 (As := [_]) G0_good G0_E d_Mo_act_2 c_Mo_192 rfl rfl (m_faulty (fc σ ic.2.2) p hp) (hM_o (by decide)) rfl rfl (by decide) (Nat.le_of_ble_eq_true rfl) ?_
  rintro _ _ ⟨rfl, rfl⟩
  first | refine c_if_ne (t := 21) d_Mo_act_5 (by decide) (fun c5 => ?_) (fun c5 => ?_) | refine n_if_ne (t := 21) d_Mo_act_5 (by decide) (by omega) (fun c5 => ?_) (fun c5 => ?_) | refine j_if_ne (t := 21) d_Mo_act_5 (by decide) (fun c5 => ?_) (fun c5 => ?_)
  · refine j_iconst (v := nI 0) d_Mo_act_21 (by decide +kernel) ?_
    refine j_istore_n (lc' := [_, _, _]) d_Mo_act_22 (by decide) rfl rfl ?_
    refine j_iload_n d_Mo_act_23 rfl ?_
    refine j_if_eq (t := 36) d_Mo_act_24 (by decide) (fun _ => ?_) (fun q => absurd q (by decide +kernel))
    exact j_vret d_Mo_act_36 rfl ⟨rfl, _, by rw [show sAct σ p = σ from by unfold sAct; exact ifP_t (by omega)]⟩
  · first | refine j_aload_n d_Mo_act_8 rfl ?_ | refine j_aload_nq d_Mo_act_8 rfl ?_ | refine j_aload_nN d_Mo_act_8 rfl ?_
    refine j_get d_Mo_act_9 f_Mo_58 (hM_o (by decide)) rfl ?_
    refine j_iload_n d_Mo_act_12 rfl ?_
    refine j_zald (t := 1) d_Mo_act_13 rfl (hM_o (by decide)) rfl (by omega) (by decide) ?_
    first | refine c_if_ne (t := 21) d_Mo_act_14 (by decide) (fun c14 => ?_) (fun c14 => ?_) | refine n_if_ne (t := 21) d_Mo_act_14 (by decide) (by omega) (fun c14 => ?_) (fun c14 => ?_) | refine j_if_ne (t := 21) d_Mo_act_14 (by decide) (fun c14 => ?_) (fun c14 => ?_)
    · refine j_iconst (v := nI 0) d_Mo_act_21 (by decide +kernel) ?_
      refine j_istore_n (lc' := [_, _, _]) d_Mo_act_22 (by decide) rfl rfl ?_
      refine j_iload_n d_Mo_act_23 rfl ?_
      refine j_if_eq (t := 36) d_Mo_act_24 (by decide) (fun _ => ?_) (fun q => absurd q (by decide +kernel))
      exact j_vret d_Mo_act_36 rfl ⟨rfl, _, by rw [show sAct σ p = σ from by unfold sAct; exact ifP_t (by omega)]⟩
    · refine j_iconst (v := nI 1) d_Mo_act_17 (by decide +kernel) ?_
      refine j_goto (t := 22) d_Mo_act_18 (by decide) ?_
      refine j_istore_n (lc' := [_, _, _]) d_Mo_act_22 (by decide) rfl rfl ?_
      have ea : sAct σ p = actF 3000 σ p := by unfold sAct; exact ifP_f (by omega)
      rw [ea]
      exact lp_act p hp 3000 σ _ ic (by omega) (by omega) (by have := Pu.mu_le (p := p) (σ := σ); omega)

set_option maxHeartbeats 4000000 in
set_option maxRecDepth 100000 in
theorem lp_allAct {l : Launch} {D : va_G} {M nx : Nat} {L : Int32} {σ : Sg} {g : Nat → Option va_E} {c : Nat → Nat → Nat} (ic : Pu.Ic c σ) (fc : FC L c) : ∀ (m : Nat) (p : Nat) (ρ : Sg), p ≤ 8 → 8 - p < m → J (G0 l D) jT m_Mo_allAct 5 (fun v h => v = none ∧ ∃ ρ', h = (hM D M L (allF 8 σ) ρ' g, nx)) 0 0 2 [some (.ref (M + 0)), some (.int (nI p))] [] (hM D M L (allF p σ) ρ g, nx) := by
  intro m
  induction m with
  | zero =>
    intros
    exfalso
    omega
  | succ m ih =>
    intro p ρ h1 h2
    refine j_iload_n d_Mo_allAct_2 rfl ?_
    refine j_bipush (v := nI 8) d_Mo_allAct_3 (by decide +kernel) ?_
    first | refine nn_icmp_ge (t := 19) d_Mo_allAct_5 (by decide) (by omega) (by omega) (fun c5 => ?_) (fun c5 => ?_) | refine mm_icmp_ge (t := 19) d_Mo_allAct_5 (by decide) (by omega) (by omega) (fun c5 => ?_) (fun c5 => ?_) | refine mn_icmp_ge (t := 19) d_Mo_allAct_5 (by decide) (by omega) (by omega) (fun c5 => ?_) (fun c5 => ?_) | refine nm_icmp_ge (t := 19) d_Mo_allAct_5 (by decide) (by omega) (by omega) (fun c5 => ?_) (fun c5 => ?_) | refine j_icmp_ge (t := 19) d_Mo_allAct_5 (by decide) (fun c5 => ?_) (fun c5 => ?_)
    · have e8 : p = 8 := by omega
      subst e8
      exact j_vret d_Mo_allAct_19 rfl ⟨rfl, _, rfl⟩
    · first | refine j_aload_n d_Mo_allAct_8 rfl ?_ | refine j_aload_nq d_Mo_allAct_8 rfl ?_ | refine j_aload_nN d_Mo_allAct_8 rfl ?_
      refine j_iload_n d_Mo_allAct_9 rfl ?_
      refine j_callV0 (As := [_]) G0_good G0_E d_Mo_allAct_10 c_Mo_198 rfl rfl (m_act (allF_I (Pu.okI c) ic p (by omega)) p (by omega) fc) (hM_o (by decide)) rfl rfl (by decide) (Nat.le_of_ble_eq_true rfl) ?_
      rintro _ _ ⟨rfl, ρ', rfl⟩
      refine n_iinc (k := 1) (lc' := [_, _]) d_Mo_allAct_13 (by decide +kernel) rfl (by decide) rfl rfl ?_
      refine j_goto (t := 2) d_Mo_allAct_16 (by decide) ?_
      exact ih (p + 1) _ (by omega) (by omega)

set_option maxHeartbeats 4000000 in
set_option maxRecDepth 100000 in
theorem m_allAct {l : Launch} {D : va_G} {M nx : Nat} {L : Int32} {σ ρ : Sg} {g : Nat → Option va_E} {c : Nat → Nat → Nat} (ic : Pu.Ic c σ) (fc : FC L c) : jM (G0 l D) m_Mo_allAct 5 0 0 [.ref (M + 0)] (hM D M L σ ρ g, nx) (fun v h => v = none ∧ ∃ ρ', h = (hM D M L (allF 8 σ) ρ' g, nx)) := by
  refine jM.of (by decide +kernel) (Nat.le_of_ble_eq_true rfl) rfl ?_
  refine j_iconst (v := nI 0) d_Mo_allAct_0 (by decide +kernel) ?_
  refine j_istore_n (lc' := [_, _]) d_Mo_allAct_1 (by decide) rfl rfl ?_
  exact lp_allAct ic fc 9 0 _ (by omega) (by omega)

set_option maxHeartbeats 4000000 in
set_option maxRecDepth 100000 in
theorem m_can {l : Launch} {D : va_G} {M nx : Nat} {L : Int32} {σ ρ : Sg} {g : Nat → Option va_E} {c : Nat → Nat → Nat} (ic : Pu.Ic c σ) (fc : FC L c) (s i k : Nat) (hs : s < 2) (hi : i < 4) (hk : k < σ 20 s 0) : jM (G0 l D) m_Mo_can 1 0 0 [.ref (M + 0), .int (nI s), .int (nI k), .int (nI i)] (hM D M L σ ρ g, nx) (fun v h => v = some (.int (cI (can σ (4 * s + i) k))) ∧ h = (hM D M L σ ρ g, nx)) := by
  refine jM.of (by decide +kernel) (Nat.le_of_ble_eq_true rfl) rfl ?_
  have hb := ic.2.1
  have mg := Pu.MG_ok hs ic.1
  have mb := mg.mb hk
  have h918 := mg.1
  have h16 := (mg.2 k hk).2.2.2.2.2.2
  have b23 := (mg.2 k hk).2.2.1
  have b17 := hb 17 (4 * s + i) 0
  have b10 := hb 10 (4 * s + i) 0
  have hcn : can σ (4 * s + i) k ↔ (σ 0 (4 * s + i) 0 = 0 ∧ σ 17 (4 * s + i) 0 = 0 ∧ σ 27 s k / 2 ^ i % 2 = 0 ∧ σ 23 s k ≤ σ 10 (4 * s + i) 0) := by
    unfold can awake
    rw [show (4 * s + i) / 4 = s by omega, show (4 * s + i) % 4 = i by omega]
    omega

  refine j_iconst (v := nI 4) d_Mo_can_0 (by decide +kernel) ?_
  refine j_iload_n d_Mo_can_1 rfl ?_
  refine jn_imul d_Mo_can_2 ?_
  refine j_iload_n d_Mo_can_3 rfl ?_
  refine jn_iadd d_Mo_can_4 ?_
  refine j_istore (lc' := [_, _, _, _, _, _, _]) d_Mo_can_5 (by decide) rfl rfl ?_
  first | refine j_aload_n d_Mo_can_7 rfl ?_ | refine j_aload_nq d_Mo_can_7 rfl ?_ | refine j_aload_nN d_Mo_can_7 rfl ?_
  refine j_get d_Mo_can_8 f_Mo_71 (hM_o (by decide)) rfl ?_
  refine j_sipush (v := nI 1000) d_Mo_can_11 (by decide +kernel) ?_
  refine j_iload_n d_Mo_can_14 rfl ?_
  refine jn_imul d_Mo_can_15 ?_
  refine j_iload_n d_Mo_can_16 rfl ?_
  refine jn_iadd d_Mo_can_17 ?_
  refine o_lld (t := 2) d_Mo_can_18 rfl (hM_o (by decide)) rfl (by omega) (by omega) ?_
  refine j_lstore (lc' := [_, _, _, _, _, _, _]) d_Mo_can_19 (by decide) rfl rfl ?_
  first | refine j_aload_n d_Mo_can_21 rfl ?_ | refine j_aload_nq d_Mo_can_21 rfl ?_ | refine j_aload_nN d_Mo_can_21 rfl ?_
  refine j_iload d_Mo_can_22 rfl ?_
  refine j_callV0 (As := [_]) G0_good G0_E d_Mo_can_24 c_Mo_192 rfl rfl (m_faulty (fc σ ic.2.2) (4 * s + i) (by omega)) (hM_o (by decide)) rfl rfl (by decide) (Nat.le_of_ble_eq_true rfl) ?_
  rintro _ _ ⟨rfl, rfl⟩
  first | refine c_if_ne (t := 79) d_Mo_can_27 (by decide) (fun c27 => ?_) (fun c27 => ?_) | refine n_if_ne (t := 79) d_Mo_can_27 (by decide) (by omega) (fun c27 => ?_) (fun c27 => ?_) | refine j_if_ne (t := 79) d_Mo_can_27 (by decide) (fun c27 => ?_) (fun c27 => ?_)
  · refine j_iconst (v := nI 0) d_Mo_can_79 (by decide +kernel) ?_
    exact jc_f d_Mo_can_80 rfl (fun z => c27 (hcn.1 z).1) rfl
  · first | refine j_aload_n d_Mo_can_30 rfl ?_ | refine j_aload_nq d_Mo_can_30 rfl ?_ | refine j_aload_nN d_Mo_can_30 rfl ?_
    refine j_get d_Mo_can_31 f_Mo_58 (hM_o (by decide)) rfl ?_
    refine j_iload d_Mo_can_34 rfl ?_
    refine j_zald (t := 1) d_Mo_can_36 rfl (hM_o (by decide)) rfl (by omega) (by decide) ?_
    first | refine c_if_ne (t := 79) d_Mo_can_37 (by decide) (fun c37 => ?_) (fun c37 => ?_) | refine n_if_ne (t := 79) d_Mo_can_37 (by decide) (by omega) (fun c37 => ?_) (fun c37 => ?_) | refine j_if_ne (t := 79) d_Mo_can_37 (by decide) (fun c37 => ?_) (fun c37 => ?_)
    · refine j_iconst (v := nI 0) d_Mo_can_79 (by decide +kernel) ?_
      exact jc_f d_Mo_can_80 rfl (fun z => by have := hcn.1 z; omega) rfl
    · first | refine j_aload_n d_Mo_can_40 rfl ?_ | refine j_aload_nq d_Mo_can_40 rfl ?_ | refine j_aload_nN d_Mo_can_40 rfl ?_
      refine j_get d_Mo_can_41 f_Mo_75 (hM_o (by decide)) rfl ?_
      refine j_sipush (v := nI 1000) d_Mo_can_44 (by decide +kernel) ?_
      refine j_iload_n d_Mo_can_47 rfl ?_
      refine jn_imul d_Mo_can_48 ?_
      refine j_iload_n d_Mo_can_49 rfl ?_
      refine jn_iadd d_Mo_can_50 ?_
      refine o_fld (t := 0) (w := 1000) d_Mo_can_51 rfl (hM_o (by decide)) rfl (by omega) (by omega) (by decide) ?_
      refine j_iload_n d_Mo_can_52 rfl ?_
      refine j_ishr d_Mo_can_53 ?_
      refine j_iconst (v := nI 1) d_Mo_can_54 (by decide +kernel) ?_
      refine j_iand d_Mo_can_55 ?_
      rw [tk_bit _ h16 _ hi]
      have hbit : σ 27 s k / 2 ^ i % 2 < 2 := Nat.mod_lt _ (by decide)
      first | refine c_if_ne (t := 79) d_Mo_can_56 (by decide) (fun c56 => ?_) (fun c56 => ?_) | refine n_if_ne (t := 79) d_Mo_can_56 (by decide) (by omega) (fun c56 => ?_) (fun c56 => ?_) | refine j_if_ne (t := 79) d_Mo_can_56 (by decide) (fun c56 => ?_) (fun c56 => ?_)
      · refine j_iconst (v := nI 0) d_Mo_can_79 (by decide +kernel) ?_
        exact jc_f d_Mo_can_80 rfl (fun z => by have := hcn.1 z; omega) rfl
      · first | refine j_aload_n d_Mo_can_59 rfl ?_ | refine j_aload_nq d_Mo_can_59 rfl ?_ | refine j_aload_nN d_Mo_can_59 rfl ?_
        refine j_get d_Mo_can_60 f_Mo_37 (hM_o (by decide)) rfl ?_
        refine j_iload d_Mo_can_63 rfl ?_
        refine j_iald (t := 0) d_Mo_can_65 rfl (hM_o (by decide)) rfl (by omega) (by decide) ?_
        refine j_lload d_Mo_can_66 rfl ?_
        refine j_iconst (v := nI 2) d_Mo_can_68 (by decide +kernel) ?_
        refine j_callS0 (As := [_, _]) G0_good G0_E d_Mo_can_69 c_Mo_137 rfl rfl rfl (m_part2 mb) (by decide) (Nat.le_of_ble_eq_true rfl) ?_
        rintro _ _ ⟨rfl, rfl⟩
        first | refine nn_icmp_lt (t := 79) d_Mo_can_72 (by decide) (by omega) (by omega) (fun c72 => ?_) (fun c72 => ?_) | refine mm_icmp_lt (t := 79) d_Mo_can_72 (by decide) (by omega) (by omega) (fun c72 => ?_) (fun c72 => ?_) | refine mn_icmp_lt (t := 79) d_Mo_can_72 (by decide) (by omega) (by omega) (fun c72 => ?_) (fun c72 => ?_) | refine nm_icmp_lt (t := 79) d_Mo_can_72 (by decide) (by omega) (by omega) (fun c72 => ?_) (fun c72 => ?_) | refine j_icmp_lt (t := 79) d_Mo_can_72 (by decide) (fun c72 => ?_) (fun c72 => ?_)
        · refine j_iconst (v := nI 0) d_Mo_can_79 (by decide +kernel) ?_
          exact jc_f d_Mo_can_80 rfl (fun z => by have := hcn.1 z; omega) rfl
        · refine j_iconst (v := nI 1) d_Mo_can_75 (by decide +kernel) ?_
          refine j_goto (t := 80) d_Mo_can_76 (by decide) ?_
          exact jc_t d_Mo_can_80 rfl (hcn.2 ⟨Classical.not_not.mp c27, by omega, by omega, by omega⟩) rfl

theorem hM_take {D : va_G} {M : Nat} {L : Int32} {σ ρ : Sg} {g : Nat → Option va_E} {s i k : Nat} (hi : i < 4) : hM D M L (U σ 27 s k (tks (σ 27 s k) i)) ρ g = hM D M L (sTake σ (4 * s + i) k) ρ g := by
  refine hM_cgr (fun f hf => ?_)
  have h29 : f ≠ 29 := fun e => by subst e; exact absurd hf (by decide)
  have h30 : f ≠ 30 := fun e => by subst e; exact absurd hf (by decide)
  unfold sTake tk2 tk1
  rw [show (4 * s + i) / 4 = s by omega, show (4 * s + i) % 4 = i by omega]
  by_cases c : σ 23 s k = σ 10 (4 * s + i) 0
  · rw [ifP_t c, U_ne h30, U_ne h29]
  · rw [ifP_f c]

set_option maxHeartbeats 4000000 in
set_option maxRecDepth 100000 in
theorem m_take {l : Launch} {D : va_G} {M nx : Nat} {L : Int32} {σ ρ : Sg} {g : Nat → Option va_E} {c : Nat → Nat → Nat} (ic : Pu.Ic c σ) (fc : FC L c) (s i k : Nat) (hs : s < 2) (hi : i < 4) (hk : k < σ 20 s 0) (cn : can σ (4 * s + i) k) : jM (G0 l D) m_Mo_take 5 0 0 [.ref (M + 0), .int (nI s), .int (nI k), .int (nI i)] (hM D M L σ ρ g, nx) (fun v h => v = none ∧ ∃ ρ', h = (hM D M L (sAct (sTake σ (4 * s + i) k) (4 * s + i)) ρ' g, nx)) := by
  refine jM.of (by decide +kernel) (Nat.le_of_ble_eq_true rfl) rfl ?_
  have hb := ic.2.1
  have mg := Pu.MG_ok hs ic.1
  have mb := mg.mb hk
  have h918 := mg.1
  have h16 := (mg.2 k hk).2.2.2.2.2.2
  have b23 := (mg.2 k hk).2.2.1
  have b17 := hb 17 (4 * s + i) 0
  have b10 := hb 10 (4 * s + i) 0
  have hcn : can σ (4 * s + i) k ↔ (σ 0 (4 * s + i) 0 = 0 ∧ σ 17 (4 * s + i) 0 = 0 ∧ σ 27 s k / 2 ^ i % 2 = 0 ∧ σ 23 s k ≤ σ 10 (4 * s + i) 0) := by
    unfold can awake
    rw [show (4 * s + i) / 4 = s by omega, show (4 * s + i) % 4 = i by omega]
    omega

  first | refine j_aload_n d_Mo_take_0 rfl ?_ | refine j_aload_nq d_Mo_take_0 rfl ?_ | refine j_aload_nN d_Mo_take_0 rfl ?_
  refine j_get d_Mo_take_1 f_Mo_75 (hM_o (by decide)) rfl ?_
  refine j_sipush (v := nI 1000) d_Mo_take_4 (by decide +kernel) ?_
  refine j_iload_n d_Mo_take_7 rfl ?_
  refine jn_imul d_Mo_take_8 ?_
  refine j_iload_n d_Mo_take_9 rfl ?_
  refine jn_iadd d_Mo_take_10 ?_
  first | refine j_aload_n d_Mo_take_11 rfl ?_ | refine j_aload_nq d_Mo_take_11 rfl ?_ | refine j_aload_nN d_Mo_take_11 rfl ?_
  refine j_get d_Mo_take_12 f_Mo_75 (hM_o (by decide)) rfl ?_
  refine j_sipush (v := nI 1000) d_Mo_take_15 (by decide +kernel) ?_
  refine j_iload_n d_Mo_take_18 rfl ?_
  refine jn_imul d_Mo_take_19 ?_
  refine j_iload_n d_Mo_take_20 rfl ?_
  refine jn_iadd d_Mo_take_21 ?_
  refine o_fld (t := 0) (w := 1000) d_Mo_take_22 rfl (hM_o (by decide)) rfl (by omega) (by omega) (by decide) ?_
  refine j_iconst (v := nI 1) d_Mo_take_23 (by decide +kernel) ?_
  refine j_iload_n d_Mo_take_24 rfl ?_
  refine j_ishl d_Mo_take_25 ?_
  refine j_ior d_Mo_take_26 ?_
  rw [tk_or _ h16 _ hi]
  refine j_iast (t := 0) d_Mo_take_27 rfl (hM_o (by decide)) rfl (by omega) (by decide) (J.hq (o27 (by omega)) ?_)
  rw [hM_take hi]
  first | refine j_aload_n d_Mo_take_28 rfl ?_ | refine j_aload_nq d_Mo_take_28 rfl ?_ | refine j_aload_nN d_Mo_take_28 rfl ?_
  refine j_iconst (v := nI 4) d_Mo_take_29 (by decide +kernel) ?_
  refine j_iload_n d_Mo_take_30 rfl ?_
  refine jn_imul d_Mo_take_31 ?_
  refine j_iload_n d_Mo_take_32 rfl ?_
  refine jn_iadd d_Mo_take_33 ?_
  refine j_callV0 (As := [_]) G0_good G0_E d_Mo_take_34 c_Mo_198 rfl rfl (m_act ((Pu.okM c).2.2 σ (4 * s + i) k ic (by omega) (by rw [show (4 * s + i) / 4 = s by omega]; exact hk) cn) (4 * s + i) (by omega) fc) (hM_o (by decide)) rfl rfl (by decide) (Nat.le_of_ble_eq_true rfl) ?_
  rintro _ _ ⟨rfl, ρ', rfl⟩
  exact j_vret d_Mo_take_37 rfl ⟨rfl, _, rfl⟩

set_option maxHeartbeats 4000000 in
set_option maxRecDepth 100000 in
theorem m_deliver_O1 {l : Launch} {D : va_G} {M nx : Nat} {L : Int32} {σ ρ : Sg} {g : Nat → Option va_E} (x k y : Int32) (hx : ¬ inr x 2) : jM (G0 l D) m_Mo_deliver 1 0 0 [.ref (M + 0), .int x, .int k, .int y] (hM D M L σ ρ g, nx) (fun v h => v = some (.int (nI 0)) ∧ h = (hM D M L σ ρ g, nx)) := by
  refine jM.of (by decide +kernel) (Nat.le_of_ble_eq_true rfl) rfl ?_
  refine j_iload_n d_Mo_deliver_0 rfl ?_
  refine j_iconst (v := nI 2) d_Mo_deliver_1 (by decide +kernel) ?_
  refine j_callS0 (As := [_, _]) G0_good G0_E d_Mo_deliver_2 c_Mo_103 rfl rfl rfl (m_out x 2) (by decide) (Nat.le_of_ble_eq_true rfl) ?_
  rintro _ _ ⟨rfl, rfl⟩
  first | refine c_if_ne (t := 16) d_Mo_deliver_5 (by decide) (fun c5 => ?_) (fun c5 => ?_) | refine n_if_ne (t := 16) d_Mo_deliver_5 (by decide) (by omega) (fun c5 => ?_) (fun c5 => ?_) | refine j_if_ne (t := 16) d_Mo_deliver_5 (by decide) (fun c5 => ?_) (fun c5 => ?_)
  · refine j_iconst (v := nI 0) d_Mo_deliver_16 (by decide +kernel) ?_
    exact j_zret d_Mo_deliver_17 rfl (by decide +kernel) ⟨rfl, rfl⟩
  · exfalso; first | exact c5 | omega | exact c5 hx

set_option maxHeartbeats 4000000 in
set_option maxRecDepth 100000 in
theorem m_deliver_O2 {l : Launch} {D : va_G} {M nx : Nat} {L : Int32} {σ ρ : Sg} {g : Nat → Option va_E} (s : Nat) (hs : s < 2) (k y : Int32) (hy : ¬ inr y 4) : jM (G0 l D) m_Mo_deliver 1 0 0 [.ref (M + 0), .int (nI s), .int k, .int y] (hM D M L σ ρ g, nx) (fun v h => v = some (.int (nI 0)) ∧ h = (hM D M L σ ρ g, nx)) := by
  refine jM.of (by decide +kernel) (Nat.le_of_ble_eq_true rfl) rfl ?_
  refine j_iload_n d_Mo_deliver_0 rfl ?_
  refine j_iconst (v := nI 2) d_Mo_deliver_1 (by decide +kernel) ?_
  refine j_callS0 (As := [_, _]) G0_good G0_E d_Mo_deliver_2 c_Mo_103 rfl rfl rfl (m_out (nI s) 2) (by decide) (Nat.le_of_ble_eq_true rfl) ?_
  rintro _ _ ⟨rfl, rfl⟩
  first | refine c_if_ne (t := 16) d_Mo_deliver_5 (by decide) (fun c5 => ?_) (fun c5 => ?_) | refine n_if_ne (t := 16) d_Mo_deliver_5 (by decide) (by omega) (fun c5 => ?_) (fun c5 => ?_) | refine j_if_ne (t := 16) d_Mo_deliver_5 (by decide) (fun c5 => ?_) (fun c5 => ?_)
  · exfalso; first | exact c5 | omega | exact c5 (inr_nI (by decide) hs) | exact c5 hy
  · refine j_iload_n d_Mo_deliver_8 rfl ?_
    refine j_iconst (v := nI 4) d_Mo_deliver_9 (by decide +kernel) ?_
    refine j_callS0 (As := [_, _]) G0_good G0_E d_Mo_deliver_10 c_Mo_103 rfl rfl rfl (m_out y 4) (by decide) (Nat.le_of_ble_eq_true rfl) ?_
    rintro _ _ ⟨rfl, rfl⟩
    first | refine c_if_eq (t := 18) d_Mo_deliver_13 (by decide) (fun c13 => ?_) (fun c13 => ?_) | refine n_if_eq (t := 18) d_Mo_deliver_13 (by decide) (by omega) (fun c13 => ?_) (fun c13 => ?_) | refine j_if_eq (t := 18) d_Mo_deliver_13 (by decide) (fun c13 => ?_) (fun c13 => ?_)
    · exfalso; first | exact c13 | omega | exact c13 (inr_nI (by decide) hs) | exact c13 hy
    · refine j_iconst (v := nI 0) d_Mo_deliver_16 (by decide +kernel) ?_
      exact j_zret d_Mo_deliver_17 rfl (by decide +kernel) ⟨rfl, rfl⟩

set_option maxHeartbeats 4000000 in
set_option maxRecDepth 100000 in
theorem m_deliver_o {l : Launch} {D : va_G} {M nx : Nat} {L : Int32} {σ ρ : Sg} {g : Nat → Option va_E} (hb : bd σ) (s i : Nat) (hs : s < 2) (hi : i < 4) (k : Int32) (hk : ¬ inr k (σ 20 s 0)) : jM (G0 l D) m_Mo_deliver 1 0 0 [.ref (M + 0), .int (nI s), .int k, .int (nI i)] (hM D M L σ ρ g, nx) (fun v h => v = some (.int (nI 0)) ∧ h = (hM D M L σ ρ g, nx)) := by
  refine jM.of (by decide +kernel) (Nat.le_of_ble_eq_true rfl) rfl ?_
  refine j_iload_n d_Mo_deliver_0 rfl ?_
  refine j_iconst (v := nI 2) d_Mo_deliver_1 (by decide +kernel) ?_
  refine j_callS0 (As := [_, _]) G0_good G0_E d_Mo_deliver_2 c_Mo_103 rfl rfl rfl (m_out (nI s) 2) (by decide) (Nat.le_of_ble_eq_true rfl) ?_
  rintro _ _ ⟨rfl, rfl⟩
  first | refine c_if_ne (t := 16) d_Mo_deliver_5 (by decide) (fun c5 => ?_) (fun c5 => ?_) | refine n_if_ne (t := 16) d_Mo_deliver_5 (by decide) (by omega) (fun c5 => ?_) (fun c5 => ?_) | refine j_if_ne (t := 16) d_Mo_deliver_5 (by decide) (fun c5 => ?_) (fun c5 => ?_)
  · exfalso; first | exact c5 | omega | exact c5 (inr_nI (by decide) hs) | exact c5 (inr_nI (by decide) hi) | exact c5 hk
  · refine j_iload_n d_Mo_deliver_8 rfl ?_
    refine j_iconst (v := nI 4) d_Mo_deliver_9 (by decide +kernel) ?_
    refine j_callS0 (As := [_, _]) G0_good G0_E d_Mo_deliver_10 c_Mo_103 rfl rfl rfl (m_out (nI i) 4) (by decide) (Nat.le_of_ble_eq_true rfl) ?_
    rintro _ _ ⟨rfl, rfl⟩
    first | refine c_if_eq (t := 18) d_Mo_deliver_13 (by decide) (fun c13 => ?_) (fun c13 => ?_) | refine n_if_eq (t := 18) d_Mo_deliver_13 (by decide) (by omega) (fun c13 => ?_) (fun c13 => ?_) | refine j_if_eq (t := 18) d_Mo_deliver_13 (by decide) (fun c13 => ?_) (fun c13 => ?_)
    · refine j_iload_n d_Mo_deliver_18 rfl ?_
      first | refine j_aload_n d_Mo_deliver_19 rfl ?_ | refine j_aload_nq d_Mo_deliver_19 rfl ?_ | refine j_aload_nN d_Mo_deliver_19 rfl ?_
      refine j_get d_Mo_deliver_20 f_Mo_68 (hM_o (by decide)) rfl ?_
      refine j_iload_n d_Mo_deliver_23 rfl ?_
      refine j_iald (t := 0) d_Mo_deliver_24 rfl (hM_o (by decide)) rfl (by omega) (by decide) ?_
      refine j_callS0 (As := [_, _]) G0_good G0_E d_Mo_deliver_25 c_Mo_103 rfl rfl rfl (m_out k (σ 20 s 0)) (by decide) (Nat.le_of_ble_eq_true rfl) ?_
      rintro _ _ ⟨rfl, rfl⟩
      first | refine c_if_ne (t := 41) d_Mo_deliver_28 (by decide) (fun c28 => ?_) (fun c28 => ?_) | refine n_if_ne (t := 41) d_Mo_deliver_28 (by decide) (by omega) (fun c28 => ?_) (fun c28 => ?_) | refine j_if_ne (t := 41) d_Mo_deliver_28 (by decide) (fun c28 => ?_) (fun c28 => ?_)
      · refine j_iconst (v := nI 0) d_Mo_deliver_41 (by decide +kernel) ?_
        exact j_zret d_Mo_deliver_42 rfl (by decide +kernel) ⟨rfl, rfl⟩
      · exfalso; first | exact c28 | omega | exact c28 (inr_nI (by decide) hs) | exact c28 (inr_nI (by decide) hi) | exact c28 hk
    · exfalso; first | exact c13 | omega | exact c13 (inr_nI (by decide) hs) | exact c13 (inr_nI (by decide) hi) | exact c13 hk

set_option maxHeartbeats 4000000 in
set_option maxRecDepth 100000 in
theorem m_deliver_f {l : Launch} {D : va_G} {M nx : Nat} {L : Int32} {σ ρ : Sg} {g : Nat → Option va_E} {c : Nat → Nat → Nat} (ic : Pu.Ic c σ) (fc : FC L c) (s i k : Nat) (hs : s < 2) (hi : i < 4) (hk : k < σ 20 s 0) (h : ¬ can σ (4 * s + i) k) : jM (G0 l D) m_Mo_deliver 2 0 0 [.ref (M + 0), .int (nI s), .int (nI k), .int (nI i)] (hM D M L σ ρ g, nx) (fun v h => v = some (.int (nI 0)) ∧ h = (hM D M L σ ρ g, nx)) := by
  refine jM.of (by decide +kernel) (Nat.le_of_ble_eq_true rfl) rfl ?_
  have h918 := (Pu.MG_ok hs ic.1).1

  refine j_iload_n d_Mo_deliver_0 rfl ?_
  refine j_iconst (v := nI 2) d_Mo_deliver_1 (by decide +kernel) ?_
  refine j_callS0 (As := [_, _]) G0_good G0_E d_Mo_deliver_2 c_Mo_103 rfl rfl rfl (m_out (nI s) 2) (by decide) (Nat.le_of_ble_eq_true rfl) ?_
  rintro _ _ ⟨rfl, rfl⟩
  first | refine c_if_ne (t := 16) d_Mo_deliver_5 (by decide) (fun c5 => ?_) (fun c5 => ?_) | refine n_if_ne (t := 16) d_Mo_deliver_5 (by decide) (by omega) (fun c5 => ?_) (fun c5 => ?_) | refine j_if_ne (t := 16) d_Mo_deliver_5 (by decide) (fun c5 => ?_) (fun c5 => ?_)
  · exfalso; first | exact c5 | omega | exact c5 (inr_nI (by decide) hs) | exact c5 (inr_nI (by decide) hi) | exact c5 (inr_nI (by omega) hk) | exact h c5
  · refine j_iload_n d_Mo_deliver_8 rfl ?_
    refine j_iconst (v := nI 4) d_Mo_deliver_9 (by decide +kernel) ?_
    refine j_callS0 (As := [_, _]) G0_good G0_E d_Mo_deliver_10 c_Mo_103 rfl rfl rfl (m_out (nI i) 4) (by decide) (Nat.le_of_ble_eq_true rfl) ?_
    rintro _ _ ⟨rfl, rfl⟩
    first | refine c_if_eq (t := 18) d_Mo_deliver_13 (by decide) (fun c13 => ?_) (fun c13 => ?_) | refine n_if_eq (t := 18) d_Mo_deliver_13 (by decide) (by omega) (fun c13 => ?_) (fun c13 => ?_) | refine j_if_eq (t := 18) d_Mo_deliver_13 (by decide) (fun c13 => ?_) (fun c13 => ?_)
    · refine j_iload_n d_Mo_deliver_18 rfl ?_
      first | refine j_aload_n d_Mo_deliver_19 rfl ?_ | refine j_aload_nq d_Mo_deliver_19 rfl ?_ | refine j_aload_nN d_Mo_deliver_19 rfl ?_
      refine j_get d_Mo_deliver_20 f_Mo_68 (hM_o (by decide)) rfl ?_
      refine j_iload_n d_Mo_deliver_23 rfl ?_
      refine j_iald (t := 0) d_Mo_deliver_24 rfl (hM_o (by decide)) rfl (by omega) (by decide) ?_
      refine j_callS0 (As := [_, _]) G0_good G0_E d_Mo_deliver_25 c_Mo_103 rfl rfl rfl (m_out (nI k) (σ 20 s 0)) (by decide) (Nat.le_of_ble_eq_true rfl) ?_
      rintro _ _ ⟨rfl, rfl⟩
      first | refine c_if_ne (t := 41) d_Mo_deliver_28 (by decide) (fun c28 => ?_) (fun c28 => ?_) | refine n_if_ne (t := 41) d_Mo_deliver_28 (by decide) (by omega) (fun c28 => ?_) (fun c28 => ?_) | refine j_if_ne (t := 41) d_Mo_deliver_28 (by decide) (fun c28 => ?_) (fun c28 => ?_)
      · exfalso; first | exact c28 | omega | exact c28 (inr_nI (by decide) hs) | exact c28 (inr_nI (by decide) hi) | exact c28 (inr_nI (by omega) hk) | exact h c28
      · first | refine j_aload_n d_Mo_deliver_31 rfl ?_ | refine j_aload_nq d_Mo_deliver_31 rfl ?_ | refine j_aload_nN d_Mo_deliver_31 rfl ?_
        refine j_iload_n d_Mo_deliver_32 rfl ?_
        refine j_iload_n d_Mo_deliver_33 rfl ?_
        refine j_iload_n d_Mo_deliver_34 rfl ?_
        refine j_callV0 (As := [_, _, _]) G0_good G0_E d_Mo_deliver_35 c_Mo_201 rfl rfl (m_can ic fc s i k hs hi hk) (hM_o (by decide)) rfl rfl (by decide) (Nat.le_of_ble_eq_true rfl) ?_
        rintro _ _ ⟨rfl, rfl⟩
        first | refine c_if_ne (t := 43) d_Mo_deliver_38 (by decide) (fun c38 => ?_) (fun c38 => ?_) | refine n_if_ne (t := 43) d_Mo_deliver_38 (by decide) (by omega) (fun c38 => ?_) (fun c38 => ?_) | refine j_if_ne (t := 43) d_Mo_deliver_38 (by decide) (fun c38 => ?_) (fun c38 => ?_)
        · exfalso; first | exact c38 | omega | exact c38 (inr_nI (by decide) hs) | exact c38 (inr_nI (by decide) hi) | exact c38 (inr_nI (by omega) hk) | exact h c38
        · refine j_iconst (v := nI 0) d_Mo_deliver_41 (by decide +kernel) ?_
          exact j_zret d_Mo_deliver_42 rfl (by decide +kernel) ⟨rfl, rfl⟩
    · exfalso; first | exact c13 | omega | exact c13 (inr_nI (by decide) hs) | exact c13 (inr_nI (by decide) hi) | exact c13 (inr_nI (by omega) hk) | exact h c13

set_option maxHeartbeats 4000000 in
set_option maxRecDepth 100000 in
theorem m_deliver_t {l : Launch} {D : va_G} {M nx : Nat} {L : Int32} {σ ρ : Sg} {g : Nat → Option va_E} {c : Nat → Nat → Nat} (ic : Pu.Ic c σ) (fc : FC L c) (s i k : Nat) (hs : s < 2) (hi : i < 4) (hk : k < σ 20 s 0) (h : can σ (4 * s + i) k) : jM (G0 l D) m_Mo_deliver 6 0 0 [.ref (M + 0), .int (nI s), .int (nI k), .int (nI i)] (hM D M L σ ρ g, nx) (fun v h => v = some (.int (nI 1)) ∧ ∃ ρ', h = (hM D M L (sAct (sTake σ (4 * s + i) k) (4 * s + i)) ρ' g, nx)) := by
  refine jM.of (by decide +kernel) (Nat.le_of_ble_eq_true rfl) rfl ?_
  have h918 := (Pu.MG_ok hs ic.1).1

  refine j_iload_n d_Mo_deliver_0 rfl ?_
  refine j_iconst (v := nI 2) d_Mo_deliver_1 (by decide +kernel) ?_
  refine j_callS0 (As := [_, _]) G0_good G0_E d_Mo_deliver_2 c_Mo_103 rfl rfl rfl (m_out (nI s) 2) (by decide) (Nat.le_of_ble_eq_true rfl) ?_
  rintro _ _ ⟨rfl, rfl⟩
  first | refine c_if_ne (t := 16) d_Mo_deliver_5 (by decide) (fun c5 => ?_) (fun c5 => ?_) | refine n_if_ne (t := 16) d_Mo_deliver_5 (by decide) (by omega) (fun c5 => ?_) (fun c5 => ?_) | refine j_if_ne (t := 16) d_Mo_deliver_5 (by decide) (fun c5 => ?_) (fun c5 => ?_)
  · exfalso; first | exact c5 | omega | exact c5 (inr_nI (by decide) hs) | exact c5 (inr_nI (by decide) hi) | exact c5 (inr_nI (by omega) hk) | exact c5 h
  · refine j_iload_n d_Mo_deliver_8 rfl ?_
    refine j_iconst (v := nI 4) d_Mo_deliver_9 (by decide +kernel) ?_
    refine j_callS0 (As := [_, _]) G0_good G0_E d_Mo_deliver_10 c_Mo_103 rfl rfl rfl (m_out (nI i) 4) (by decide) (Nat.le_of_ble_eq_true rfl) ?_
    rintro _ _ ⟨rfl, rfl⟩
    first | refine c_if_eq (t := 18) d_Mo_deliver_13 (by decide) (fun c13 => ?_) (fun c13 => ?_) | refine n_if_eq (t := 18) d_Mo_deliver_13 (by decide) (by omega) (fun c13 => ?_) (fun c13 => ?_) | refine j_if_eq (t := 18) d_Mo_deliver_13 (by decide) (fun c13 => ?_) (fun c13 => ?_)
    · refine j_iload_n d_Mo_deliver_18 rfl ?_
      first | refine j_aload_n d_Mo_deliver_19 rfl ?_ | refine j_aload_nq d_Mo_deliver_19 rfl ?_ | refine j_aload_nN d_Mo_deliver_19 rfl ?_
      refine j_get d_Mo_deliver_20 f_Mo_68 (hM_o (by decide)) rfl ?_
      refine j_iload_n d_Mo_deliver_23 rfl ?_
      refine j_iald (t := 0) d_Mo_deliver_24 rfl (hM_o (by decide)) rfl (by omega) (by decide) ?_
      refine j_callS0 (As := [_, _]) G0_good G0_E d_Mo_deliver_25 c_Mo_103 rfl rfl rfl (m_out (nI k) (σ 20 s 0)) (by decide) (Nat.le_of_ble_eq_true rfl) ?_
      rintro _ _ ⟨rfl, rfl⟩
      first | refine c_if_ne (t := 41) d_Mo_deliver_28 (by decide) (fun c28 => ?_) (fun c28 => ?_) | refine n_if_ne (t := 41) d_Mo_deliver_28 (by decide) (by omega) (fun c28 => ?_) (fun c28 => ?_) | refine j_if_ne (t := 41) d_Mo_deliver_28 (by decide) (fun c28 => ?_) (fun c28 => ?_)
      · exfalso; first | exact c28 | omega | exact c28 (inr_nI (by decide) hs) | exact c28 (inr_nI (by decide) hi) | exact c28 (inr_nI (by omega) hk) | exact c28 h
      · first | refine j_aload_n d_Mo_deliver_31 rfl ?_ | refine j_aload_nq d_Mo_deliver_31 rfl ?_ | refine j_aload_nN d_Mo_deliver_31 rfl ?_
        refine j_iload_n d_Mo_deliver_32 rfl ?_
        refine j_iload_n d_Mo_deliver_33 rfl ?_
        refine j_iload_n d_Mo_deliver_34 rfl ?_
        refine j_callV0 (As := [_, _, _]) G0_good G0_E d_Mo_deliver_35 c_Mo_201 rfl rfl (m_can ic fc s i k hs hi hk) (hM_o (by decide)) rfl rfl (by decide) (Nat.le_of_ble_eq_true rfl) ?_
        rintro _ _ ⟨rfl, rfl⟩
        first | refine c_if_ne (t := 43) d_Mo_deliver_38 (by decide) (fun c38 => ?_) (fun c38 => ?_) | refine n_if_ne (t := 43) d_Mo_deliver_38 (by decide) (by omega) (fun c38 => ?_) (fun c38 => ?_) | refine j_if_ne (t := 43) d_Mo_deliver_38 (by decide) (fun c38 => ?_) (fun c38 => ?_)
        · first | refine j_aload_n d_Mo_deliver_43 rfl ?_ | refine j_aload_nq d_Mo_deliver_43 rfl ?_ | refine j_aload_nN d_Mo_deliver_43 rfl ?_
          refine j_iload_n d_Mo_deliver_44 rfl ?_
          refine j_iload_n d_Mo_deliver_45 rfl ?_
          refine j_iload_n d_Mo_deliver_46 rfl ?_
          refine j_callV0 (As := [_, _, _]) G0_good G0_E d_Mo_deliver_47 c_Mo_204 rfl rfl (m_take ic fc s i k hs hi hk h) (hM_o (by decide)) rfl rfl (by decide) (Nat.le_of_ble_eq_true rfl) ?_
          rintro _ _ ⟨rfl, ρ', rfl⟩
          refine j_iconst (v := nI 1) d_Mo_deliver_50 (by decide +kernel) ?_
          exact j_zret d_Mo_deliver_51 rfl (by decide +kernel) ⟨rfl, _, rfl⟩
        · exfalso; first | exact c38 | omega | exact c38 (inr_nI (by decide) hs) | exact c38 (inr_nI (by decide) hi) | exact c38 (inr_nI (by omega) hk) | exact c38 h
    · exfalso; first | exact c13 | omega | exact c13 (inr_nI (by decide) hs) | exact c13 (inr_nI (by decide) hi) | exact c13 (inr_nI (by omega) hk) | exact c13 h

theorem o12k {D : va_G} {M : Nat} {L : Int32} {σ ρ : Sg} {g : Nat → Option va_E} {p v : Nat} : va_up (hM D M L σ ρ g) (M + 12) (some (jIA (D.1 20) 8 (upd (fun k => nI (σ 12 k 0)) p (nI v)))) = hM D M L (U σ 12 p 0 v) ρ g := o12

set_option maxHeartbeats 4000000 in
set_option maxRecDepth 100000 in
theorem m_tick_O1 {l : Launch} {D : va_G} {M nx : Nat} {L : Int32} {σ ρ : Sg} {g : Nat → Option va_E} (x y : Int32) (hx : ¬ inr x 2) : jM (G0 l D) m_Mo_tick 1 0 0 [.ref (M + 0), .int x, .int y] (hM D M L σ ρ g, nx) (fun v h => v = some (.int (nI 0)) ∧ h = (hM D M L σ ρ g, nx)) := by
  refine jM.of (by decide +kernel) (Nat.le_of_ble_eq_true rfl) rfl ?_
  refine j_iload_n d_Mo_tick_0 rfl ?_
  refine j_iconst (v := nI 2) d_Mo_tick_1 (by decide +kernel) ?_
  refine j_callS0 (As := [_, _]) G0_good G0_E d_Mo_tick_2 c_Mo_103 rfl rfl rfl (m_out x 2) (by decide) (Nat.le_of_ble_eq_true rfl) ?_
  rintro _ _ ⟨rfl, rfl⟩
  first | refine c_if_ne (t := 16) d_Mo_tick_5 (by decide) (fun c5 => ?_) (fun c5 => ?_) | refine n_if_ne (t := 16) d_Mo_tick_5 (by decide) (by omega) (fun c5 => ?_) (fun c5 => ?_) | refine j_if_ne (t := 16) d_Mo_tick_5 (by decide) (fun c5 => ?_) (fun c5 => ?_)
  · refine j_iconst (v := nI 0) d_Mo_tick_16 (by decide +kernel) ?_
    exact j_zret d_Mo_tick_17 rfl (by decide +kernel) ⟨rfl, rfl⟩
  · exfalso; first | exact c5 | omega | exact c5 hx

set_option maxHeartbeats 4000000 in
set_option maxRecDepth 100000 in
theorem m_tick_O2 {l : Launch} {D : va_G} {M nx : Nat} {L : Int32} {σ ρ : Sg} {g : Nat → Option va_E} (s : Nat) (hs : s < 2) (y : Int32) (hy : ¬ inr y 4) : jM (G0 l D) m_Mo_tick 1 0 0 [.ref (M + 0), .int (nI s), .int y] (hM D M L σ ρ g, nx) (fun v h => v = some (.int (nI 0)) ∧ h = (hM D M L σ ρ g, nx)) := by
  refine jM.of (by decide +kernel) (Nat.le_of_ble_eq_true rfl) rfl ?_
  refine j_iload_n d_Mo_tick_0 rfl ?_
  refine j_iconst (v := nI 2) d_Mo_tick_1 (by decide +kernel) ?_
  refine j_callS0 (As := [_, _]) G0_good G0_E d_Mo_tick_2 c_Mo_103 rfl rfl rfl (m_out (nI s) 2) (by decide) (Nat.le_of_ble_eq_true rfl) ?_
  rintro _ _ ⟨rfl, rfl⟩
  first | refine c_if_ne (t := 16) d_Mo_tick_5 (by decide) (fun c5 => ?_) (fun c5 => ?_) | refine n_if_ne (t := 16) d_Mo_tick_5 (by decide) (by omega) (fun c5 => ?_) (fun c5 => ?_) | refine j_if_ne (t := 16) d_Mo_tick_5 (by decide) (fun c5 => ?_) (fun c5 => ?_)
  · exfalso; first | exact c5 | omega | exact c5 (inr_nI (by decide) hs) | exact c5 hy
  · refine j_iload_n d_Mo_tick_8 rfl ?_
    refine j_iconst (v := nI 4) d_Mo_tick_9 (by decide +kernel) ?_
    refine j_callS0 (As := [_, _]) G0_good G0_E d_Mo_tick_10 c_Mo_103 rfl rfl rfl (m_out y 4) (by decide) (Nat.le_of_ble_eq_true rfl) ?_
    rintro _ _ ⟨rfl, rfl⟩
    first | refine c_if_eq (t := 18) d_Mo_tick_13 (by decide) (fun c13 => ?_) (fun c13 => ?_) | refine n_if_eq (t := 18) d_Mo_tick_13 (by decide) (by omega) (fun c13 => ?_) (fun c13 => ?_) | refine j_if_eq (t := 18) d_Mo_tick_13 (by decide) (fun c13 => ?_) (fun c13 => ?_)
    · exfalso; first | exact c13 | omega | exact c13 (inr_nI (by decide) hs) | exact c13 hy
    · refine j_iconst (v := nI 0) d_Mo_tick_16 (by decide +kernel) ?_
      exact j_zret d_Mo_tick_17 rfl (by decide +kernel) ⟨rfl, rfl⟩

set_option maxHeartbeats 4000000 in
set_option maxRecDepth 100000 in
theorem m_tick_f {l : Launch} {D : va_G} {M nx : Nat} {L : Int32} {σ ρ : Sg} {g : Nat → Option va_E} {c : Nat → Nat → Nat} (ic : Pu.Ic c σ) (fc : FC L c) (s i : Nat) (hs : s < 2) (hi : i < 4) (h : ¬ cT σ (4 * s + i)) : jM (G0 l D) m_Mo_tick 2 0 0 [.ref (M + 0), .int (nI s), .int (nI i)] (hM D M L σ ρ g, nx) (fun v h => v = some (.int (nI 0)) ∧ ∃ ρ', h = (hM D M L σ ρ' g, nx)) := by
  refine jM.of (by decide +kernel) (Nat.le_of_ble_eq_true rfl) rfl ?_
  have hb := ic.2.1
  have hp : 4 * s + i < 8 := by omega
  have b17 := hb 17 (4 * s + i) 0
  have b12 := ic.1.po.sp (4 * s + i) hp
  have R := ic.1.po.rd (4 * s + i) hp
  have mg := Pu.MG_ok (s := (4 * s + i) / 4) (by omega) ic.1
  have ca1 := ca_le (σ := σ) (p := 4 * s + i) (k := 1) (r := σ 11 (4 * s + i) 0) 4
  have ca2 := ca_le (σ := σ) (p := 4 * s + i) (k := 2) (r := σ 11 (4 * s + i) 0) 4

  refine j_iload_n d_Mo_tick_0 rfl ?_
  refine j_iconst (v := nI 2) d_Mo_tick_1 (by decide +kernel) ?_
  refine j_callS0 (As := [_, _]) G0_good G0_E d_Mo_tick_2 c_Mo_103 rfl rfl rfl (m_out (nI s) 2) (by decide) (Nat.le_of_ble_eq_true rfl) ?_
  rintro _ _ ⟨rfl, rfl⟩
  first | refine c_if_ne (t := 16) d_Mo_tick_5 (by decide) (fun c5 => ?_) (fun c5 => ?_) | refine n_if_ne (t := 16) d_Mo_tick_5 (by decide) (by omega) (fun c5 => ?_) (fun c5 => ?_) | refine j_if_ne (t := 16) d_Mo_tick_5 (by decide) (fun c5 => ?_) (fun c5 => ?_)
  · exfalso; first | exact c5 | omega | exact c5 (inr_nI (by decide) hs) | exact c5 (inr_nI (by decide) hi)
  · refine j_iload_n d_Mo_tick_8 rfl ?_
    refine j_iconst (v := nI 4) d_Mo_tick_9 (by decide +kernel) ?_
    refine j_callS0 (As := [_, _]) G0_good G0_E d_Mo_tick_10 c_Mo_103 rfl rfl rfl (m_out (nI i) 4) (by decide) (Nat.le_of_ble_eq_true rfl) ?_
    rintro _ _ ⟨rfl, rfl⟩
    first | refine c_if_eq (t := 18) d_Mo_tick_13 (by decide) (fun c13 => ?_) (fun c13 => ?_) | refine n_if_eq (t := 18) d_Mo_tick_13 (by decide) (by omega) (fun c13 => ?_) (fun c13 => ?_) | refine j_if_eq (t := 18) d_Mo_tick_13 (by decide) (fun c13 => ?_) (fun c13 => ?_)
    · refine j_iconst (v := nI 4) d_Mo_tick_18 (by decide +kernel) ?_
      refine j_iload_n d_Mo_tick_19 rfl ?_
      refine jn_imul d_Mo_tick_20 ?_
      refine j_iload_n d_Mo_tick_21 rfl ?_
      refine jn_iadd d_Mo_tick_22 ?_
      refine j_istore_n (lc' := [_, _, _, _]) d_Mo_tick_23 (by decide) rfl rfl ?_
      first | refine j_aload_n d_Mo_tick_24 rfl ?_ | refine j_aload_nq d_Mo_tick_24 rfl ?_ | refine j_aload_nN d_Mo_tick_24 rfl ?_
      refine j_iload_n d_Mo_tick_25 rfl ?_
      refine j_callV0 (As := [_]) G0_good G0_E d_Mo_tick_26 c_Mo_192 rfl rfl (m_faulty (fc σ ic.2.2) (4 * s + i) hp) (hM_o (by decide)) rfl rfl (by decide) (Nat.le_of_ble_eq_true rfl) ?_
      rintro _ _ ⟨rfl, rfl⟩
      first | refine c_if_ne (t := 41) d_Mo_tick_29 (by decide) (fun c29 => ?_) (fun c29 => ?_) | refine n_if_ne (t := 41) d_Mo_tick_29 (by decide) (by omega) (fun c29 => ?_) (fun c29 => ?_) | refine j_if_ne (t := 41) d_Mo_tick_29 (by decide) (fun c29 => ?_) (fun c29 => ?_)
      · refine j_iconst (v := nI 0) d_Mo_tick_41 (by decide +kernel) ?_
        exact j_zret d_Mo_tick_42 rfl (by decide +kernel) ⟨rfl, _, rfl⟩
      · first | refine j_aload_n d_Mo_tick_32 rfl ?_ | refine j_aload_nq d_Mo_tick_32 rfl ?_ | refine j_aload_nN d_Mo_tick_32 rfl ?_
        refine j_get d_Mo_tick_33 f_Mo_58 (hM_o (by decide)) rfl ?_
        refine j_iload_n d_Mo_tick_36 rfl ?_
        refine j_zald (t := 1) d_Mo_tick_37 rfl (hM_o (by decide)) rfl (by omega) (by decide) ?_
        first | refine c_if_eq (t := 43) d_Mo_tick_38 (by decide) (fun c38 => ?_) (fun c38 => ?_) | refine n_if_eq (t := 43) d_Mo_tick_38 (by decide) (by omega) (fun c38 => ?_) (fun c38 => ?_) | refine j_if_eq (t := 43) d_Mo_tick_38 (by decide) (fun c38 => ?_) (fun c38 => ?_)
        · first | refine j_aload_n d_Mo_tick_43 rfl ?_ | refine j_aload_nq d_Mo_tick_43 rfl ?_ | refine j_aload_nN d_Mo_tick_43 rfl ?_
          refine j_iload_n d_Mo_tick_44 rfl ?_
          refine j_callV0 (As := [_]) G0_good G0_E d_Mo_tick_45 c_Mo_170 rfl rfl (m_survey hb (4 * s + i) hp mg (ic.1.po.ht _ hp) ic.1.bx.lb) (hM_o (by decide)) rfl rfl (by decide) (Nat.le_of_ble_eq_true rfl) ?_
          rintro _ _ ⟨rfl, ρ1, rfl, sv⟩
          first | refine j_aload_n d_Mo_tick_48 rfl ?_ | refine j_aload_nq d_Mo_tick_48 rfl ?_ | refine j_aload_nN d_Mo_tick_48 rfl ?_
          refine j_get d_Mo_tick_49 f_Mo_43 (hM_o (by decide)) rfl ?_
          refine j_iload_n d_Mo_tick_52 rfl ?_
          refine j_iald (t := 0) d_Mo_tick_53 rfl (hM_o (by decide)) rfl (by omega) (by decide) ?_
          first | refine c_if_ne (t := 75) d_Mo_tick_54 (by decide) (fun c54 => ?_) (fun c54 => ?_) | refine n_if_ne (t := 75) d_Mo_tick_54 (by decide) (by omega) (fun c54 => ?_) (fun c54 => ?_) | refine j_if_ne (t := 75) d_Mo_tick_54 (by decide) (fun c54 => ?_) (fun c54 => ?_)
          · first | refine j_aload_n d_Mo_tick_75 rfl ?_ | refine j_aload_nq d_Mo_tick_75 rfl ?_ | refine j_aload_nN d_Mo_tick_75 rfl ?_
            refine j_get d_Mo_tick_76 f_Mo_43 (hM_o (by decide)) rfl ?_
            refine j_iload_n d_Mo_tick_79 rfl ?_
            refine j_iald (t := 0) d_Mo_tick_80 rfl (hM_o (by decide)) rfl (by omega) (by decide) ?_
            refine j_iconst (v := nI 1) d_Mo_tick_81 (by decide +kernel) ?_
            first | refine nn_icmp_ne (t := 120) d_Mo_tick_82 (by decide) (by omega) (by omega) (fun c82 => ?_) (fun c82 => ?_) | refine mm_icmp_ne (t := 120) d_Mo_tick_82 (by decide) (by omega) (by omega) (fun c82 => ?_) (fun c82 => ?_) | refine mn_icmp_ne (t := 120) d_Mo_tick_82 (by decide) (by omega) (by omega) (fun c82 => ?_) (fun c82 => ?_) | refine nm_icmp_ne (t := 120) d_Mo_tick_82 (by decide) (by omega) (by omega) (fun c82 => ?_) (fun c82 => ?_) | refine j_icmp_ne (t := 120) d_Mo_tick_82 (by decide) (fun c82 => ?_) (fun c82 => ?_)
            · first | refine j_aload_n d_Mo_tick_120 rfl ?_ | refine j_aload_nq d_Mo_tick_120 rfl ?_ | refine j_aload_nN d_Mo_tick_120 rfl ?_
              refine j_get d_Mo_tick_121 f_Mo_40 (hM_o (by decide)) rfl ?_
              refine j_iload_n d_Mo_tick_124 rfl ?_
              refine j_iald (t := 0) d_Mo_tick_125 rfl (hM_o (by decide)) rfl (by omega) (by decide) ?_
              refine j_iconst (v := nI 5) d_Mo_tick_126 (by decide +kernel) ?_
              first | refine nn_icmp_eq (t := 145) d_Mo_tick_127 (by decide) (by omega) (by omega) (fun c127 => ?_) (fun c127 => ?_) | refine mm_icmp_eq (t := 145) d_Mo_tick_127 (by decide) (by omega) (by omega) (fun c127 => ?_) (fun c127 => ?_) | refine mn_icmp_eq (t := 145) d_Mo_tick_127 (by decide) (by omega) (by omega) (fun c127 => ?_) (fun c127 => ?_) | refine nm_icmp_eq (t := 145) d_Mo_tick_127 (by decide) (by omega) (by omega) (fun c127 => ?_) (fun c127 => ?_) | refine j_icmp_eq (t := 145) d_Mo_tick_127 (by decide) (fun c127 => ?_) (fun c127 => ?_)
              · refine j_iconst (v := nI 0) d_Mo_tick_145 (by decide +kernel) ?_
                exact j_zret d_Mo_tick_146 rfl (by decide +kernel) ⟨rfl, _, rfl⟩
              · first | refine j_aload_n d_Mo_tick_130 rfl ?_ | refine j_aload_nq d_Mo_tick_130 rfl ?_ | refine j_aload_nN d_Mo_tick_130 rfl ?_
                refine j_iconst (v := nI 2) d_Mo_tick_131 (by decide +kernel) ?_
                first | refine j_aload_n d_Mo_tick_132 rfl ?_ | refine j_aload_nq d_Mo_tick_132 rfl ?_ | refine j_aload_nN d_Mo_tick_132 rfl ?_
                refine j_get d_Mo_tick_133 f_Mo_40 (hM_o (by decide)) rfl ?_
                refine j_iload_n d_Mo_tick_136 rfl ?_
                refine j_iald (t := 0) d_Mo_tick_137 rfl (hM_o (by decide)) rfl (by omega) (by decide) ?_
                refine j_callV0 (As := [_, _]) G0_good G0_E d_Mo_tick_138 c_Mo_208 rfl rfl (m_all sv (ic.1.bx.bx _ hp (Classical.not_not.mp c29)) mg ic.1.bx.lb 2 (σ 11 (4 * s + i) 0) (Or.inr rfl) (by omega)) (hM_o (by decide)) rfl rfl (by decide) (Nat.le_of_ble_eq_true rfl) ?_
                rintro _ _ ⟨rfl, rfl⟩
                refine j_iconst (v := nI 3) d_Mo_tick_141 (by decide +kernel) ?_
                first | refine nn_icmp_ge (t := 147) d_Mo_tick_142 (by decide) (by omega) (by omega) (fun c142 => ?_) (fun c142 => ?_) | refine mm_icmp_ge (t := 147) d_Mo_tick_142 (by decide) (by omega) (by omega) (fun c142 => ?_) (fun c142 => ?_) | refine mn_icmp_ge (t := 147) d_Mo_tick_142 (by decide) (by omega) (by omega) (fun c142 => ?_) (fun c142 => ?_) | refine nm_icmp_ge (t := 147) d_Mo_tick_142 (by decide) (by omega) (by omega) (fun c142 => ?_) (fun c142 => ?_) | refine j_icmp_ge (t := 147) d_Mo_tick_142 (by decide) (fun c142 => ?_) (fun c142 => ?_)
                · exfalso
                  exact h ⟨⟨Classical.not_not.mp c29, by omega⟩, Or.inr (Or.inr ⟨by omega, by omega, by omega⟩)⟩
                · refine j_iconst (v := nI 0) d_Mo_tick_145 (by decide +kernel) ?_
                  exact j_zret d_Mo_tick_146 rfl (by decide +kernel) ⟨rfl, _, rfl⟩
            · first | refine j_aload_n d_Mo_tick_85 rfl ?_ | refine j_aload_nq d_Mo_tick_85 rfl ?_ | refine j_aload_nN d_Mo_tick_85 rfl ?_
              refine j_iconst (v := nI 1) d_Mo_tick_86 (by decide +kernel) ?_
              first | refine j_aload_n d_Mo_tick_87 rfl ?_ | refine j_aload_nq d_Mo_tick_87 rfl ?_ | refine j_aload_nN d_Mo_tick_87 rfl ?_
              refine j_get d_Mo_tick_88 f_Mo_40 (hM_o (by decide)) rfl ?_
              refine j_iload_n d_Mo_tick_91 rfl ?_
              refine j_iald (t := 0) d_Mo_tick_92 rfl (hM_o (by decide)) rfl (by omega) (by decide) ?_
              refine j_callV0 (As := [_, _]) G0_good G0_E d_Mo_tick_93 c_Mo_208 rfl rfl (m_all sv (ic.1.bx.bx _ hp (Classical.not_not.mp c29)) mg ic.1.bx.lb 1 (σ 11 (4 * s + i) 0) (Or.inl rfl) (by omega)) (hM_o (by decide)) rfl rfl (by decide) (Nat.le_of_ble_eq_true rfl) ?_
              rintro _ _ ⟨rfl, rfl⟩
              refine j_iconst (v := nI 3) d_Mo_tick_96 (by decide +kernel) ?_
              first | refine nn_icmp_ge (t := 102) d_Mo_tick_97 (by decide) (by omega) (by omega) (fun c97 => ?_) (fun c97 => ?_) | refine mm_icmp_ge (t := 102) d_Mo_tick_97 (by decide) (by omega) (by omega) (fun c97 => ?_) (fun c97 => ?_) | refine mn_icmp_ge (t := 102) d_Mo_tick_97 (by decide) (by omega) (by omega) (fun c97 => ?_) (fun c97 => ?_) | refine nm_icmp_ge (t := 102) d_Mo_tick_97 (by decide) (by omega) (by omega) (fun c97 => ?_) (fun c97 => ?_) | refine j_icmp_ge (t := 102) d_Mo_tick_97 (by decide) (fun c97 => ?_) (fun c97 => ?_)
              · exfalso
                exact h ⟨⟨Classical.not_not.mp c29, by omega⟩, Or.inr (Or.inl ⟨by omega, by omega⟩)⟩
              · refine j_iconst (v := nI 0) d_Mo_tick_100 (by decide +kernel) ?_
                exact j_zret d_Mo_tick_101 rfl (by decide +kernel) ⟨rfl, _, rfl⟩
          · exfalso
            exact h ⟨⟨Classical.not_not.mp c29, by omega⟩, Or.inl c54⟩
        · refine j_iconst (v := nI 0) d_Mo_tick_41 (by decide +kernel) ?_
          exact j_zret d_Mo_tick_42 rfl (by decide +kernel) ⟨rfl, _, rfl⟩
    · exfalso; first | exact c13 | omega | exact c13 (inr_nI (by decide) hs) | exact c13 (inr_nI (by decide) hi)

set_option maxHeartbeats 4000000 in
set_option maxRecDepth 100000 in
theorem m_tick_0 {l : Launch} {D : va_G} {M nx : Nat} {L : Int32} {σ ρ : Sg} {g : Nat → Option va_E} {c : Nat → Nat → Nat} (ic : Pu.Ic c σ) (fc : FC L c) (s i : Nat) (hs : s < 2) (hi : i < 4) (haw : awake σ (4 * s + i)) (h : σ 12 (4 * s + i) 0 = 0) : jM (G0 l D) m_Mo_tick 5 0 0 [.ref (M + 0), .int (nI s), .int (nI i)] (hM D M L σ ρ g, nx) (fun v h => v = some (.int (nI 1)) ∧ ∃ ρ', h = (hM D M L (sAct (k0 σ (4 * s + i)) (4 * s + i)) ρ' g, nx)) := by
  refine jM.of (by decide +kernel) (Nat.le_of_ble_eq_true rfl) rfl ?_
  have hb := ic.2.1
  have hp : 4 * s + i < 8 := by omega
  have b17 := hb 17 (4 * s + i) 0
  have b12 := ic.1.po.sp (4 * s + i) hp
  have R := ic.1.po.rd (4 * s + i) hp
  have mg := Pu.MG_ok (s := (4 * s + i) / 4) (by omega) ic.1
  have ca1 := ca_le (σ := σ) (p := 4 * s + i) (k := 1) (r := σ 11 (4 * s + i) 0) 4
  have ca2 := ca_le (σ := σ) (p := 4 * s + i) (k := 2) (r := σ 11 (4 * s + i) 0) 4
  have aw2 := haw.2
  obtain ⟨hi2, h918⟩ := Pu.k0_Ic hp ic haw h

  refine j_iload_n d_Mo_tick_0 rfl ?_
  refine j_iconst (v := nI 2) d_Mo_tick_1 (by decide +kernel) ?_
  refine j_callS0 (As := [_, _]) G0_good G0_E d_Mo_tick_2 c_Mo_103 rfl rfl rfl (m_out (nI s) 2) (by decide) (Nat.le_of_ble_eq_true rfl) ?_
  rintro _ _ ⟨rfl, rfl⟩
  first | refine c_if_ne (t := 16) d_Mo_tick_5 (by decide) (fun c5 => ?_) (fun c5 => ?_) | refine n_if_ne (t := 16) d_Mo_tick_5 (by decide) (by omega) (fun c5 => ?_) (fun c5 => ?_) | refine j_if_ne (t := 16) d_Mo_tick_5 (by decide) (fun c5 => ?_) (fun c5 => ?_)
  · exfalso; first | exact c5 | omega | exact c5 (inr_nI (by decide) hs) | exact c5 (inr_nI (by decide) hi) | exact c5 haw.1 | exact c5 haw.2
  · refine j_iload_n d_Mo_tick_8 rfl ?_
    refine j_iconst (v := nI 4) d_Mo_tick_9 (by decide +kernel) ?_
    refine j_callS0 (As := [_, _]) G0_good G0_E d_Mo_tick_10 c_Mo_103 rfl rfl rfl (m_out (nI i) 4) (by decide) (Nat.le_of_ble_eq_true rfl) ?_
    rintro _ _ ⟨rfl, rfl⟩
    first | refine c_if_eq (t := 18) d_Mo_tick_13 (by decide) (fun c13 => ?_) (fun c13 => ?_) | refine n_if_eq (t := 18) d_Mo_tick_13 (by decide) (by omega) (fun c13 => ?_) (fun c13 => ?_) | refine j_if_eq (t := 18) d_Mo_tick_13 (by decide) (fun c13 => ?_) (fun c13 => ?_)
    · refine j_iconst (v := nI 4) d_Mo_tick_18 (by decide +kernel) ?_
      refine j_iload_n d_Mo_tick_19 rfl ?_
      refine jn_imul d_Mo_tick_20 ?_
      refine j_iload_n d_Mo_tick_21 rfl ?_
      refine jn_iadd d_Mo_tick_22 ?_
      refine j_istore_n (lc' := [_, _, _, _]) d_Mo_tick_23 (by decide) rfl rfl ?_
      first | refine j_aload_n d_Mo_tick_24 rfl ?_ | refine j_aload_nq d_Mo_tick_24 rfl ?_ | refine j_aload_nN d_Mo_tick_24 rfl ?_
      refine j_iload_n d_Mo_tick_25 rfl ?_
      refine j_callV0 (As := [_]) G0_good G0_E d_Mo_tick_26 c_Mo_192 rfl rfl (m_faulty (fc σ ic.2.2) (4 * s + i) hp) (hM_o (by decide)) rfl rfl (by decide) (Nat.le_of_ble_eq_true rfl) ?_
      rintro _ _ ⟨rfl, rfl⟩
      first | refine c_if_ne (t := 41) d_Mo_tick_29 (by decide) (fun c29 => ?_) (fun c29 => ?_) | refine n_if_ne (t := 41) d_Mo_tick_29 (by decide) (by omega) (fun c29 => ?_) (fun c29 => ?_) | refine j_if_ne (t := 41) d_Mo_tick_29 (by decide) (fun c29 => ?_) (fun c29 => ?_)
      · exfalso; first | exact c29 | omega | exact c29 (inr_nI (by decide) hs) | exact c29 (inr_nI (by decide) hi) | exact c29 haw.1 | exact c29 haw.2
      · first | refine j_aload_n d_Mo_tick_32 rfl ?_ | refine j_aload_nq d_Mo_tick_32 rfl ?_ | refine j_aload_nN d_Mo_tick_32 rfl ?_
        refine j_get d_Mo_tick_33 f_Mo_58 (hM_o (by decide)) rfl ?_
        refine j_iload_n d_Mo_tick_36 rfl ?_
        refine j_zald (t := 1) d_Mo_tick_37 rfl (hM_o (by decide)) rfl (by omega) (by decide) ?_
        first | refine c_if_eq (t := 43) d_Mo_tick_38 (by decide) (fun c38 => ?_) (fun c38 => ?_) | refine n_if_eq (t := 43) d_Mo_tick_38 (by decide) (by omega) (fun c38 => ?_) (fun c38 => ?_) | refine j_if_eq (t := 43) d_Mo_tick_38 (by decide) (fun c38 => ?_) (fun c38 => ?_)
        · first | refine j_aload_n d_Mo_tick_43 rfl ?_ | refine j_aload_nq d_Mo_tick_43 rfl ?_ | refine j_aload_nN d_Mo_tick_43 rfl ?_
          refine j_iload_n d_Mo_tick_44 rfl ?_
          refine j_callV0 (As := [_]) G0_good G0_E d_Mo_tick_45 c_Mo_170 rfl rfl (m_survey hb (4 * s + i) hp mg (ic.1.po.ht _ hp) ic.1.bx.lb) (hM_o (by decide)) rfl rfl (by decide) (Nat.le_of_ble_eq_true rfl) ?_
          rintro _ _ ⟨rfl, ρ1, rfl, sv⟩
          first | refine j_aload_n d_Mo_tick_48 rfl ?_ | refine j_aload_nq d_Mo_tick_48 rfl ?_ | refine j_aload_nN d_Mo_tick_48 rfl ?_
          refine j_get d_Mo_tick_49 f_Mo_43 (hM_o (by decide)) rfl ?_
          refine j_iload_n d_Mo_tick_52 rfl ?_
          refine j_iald (t := 0) d_Mo_tick_53 rfl (hM_o (by decide)) rfl (by omega) (by decide) ?_
          first | refine c_if_ne (t := 75) d_Mo_tick_54 (by decide) (fun c54 => ?_) (fun c54 => ?_) | refine n_if_ne (t := 75) d_Mo_tick_54 (by decide) (by omega) (fun c54 => ?_) (fun c54 => ?_) | refine j_if_ne (t := 75) d_Mo_tick_54 (by decide) (fun c54 => ?_) (fun c54 => ?_)
          · exfalso; first | exact c54 | omega | exact c54 (inr_nI (by decide) hs) | exact c54 (inr_nI (by decide) hi) | exact c54 haw.1 | exact c54 haw.2
          · first | refine j_aload_n d_Mo_tick_57 rfl ?_ | refine j_aload_nq d_Mo_tick_57 rfl ?_ | refine j_aload_nN d_Mo_tick_57 rfl ?_
            refine j_iload_n d_Mo_tick_58 rfl ?_
            refine j_iconst (v := nI 1) d_Mo_tick_59 (by decide +kernel) ?_
            refine j_iconst (v := mI 0) d_Mo_tick_60 (by decide +kernel) ?_
            refine j_iconst (v := mI 0) d_Mo_tick_61 (by decide +kernel) ?_
            refine j_callV0 (As := [_, _, _, _]) G0_good G0_E d_Mo_tick_62 c_Mo_166 rfl rfl (m_send hb (4 * s + i) hp h918 1 0 0 (by decide) (by omega) (by omega)) (hM_o (by decide)) rfl rfl (by decide) (Nat.le_of_ble_eq_true rfl) ?_
            rintro _ _ ⟨rfl, rfl⟩
            first | refine j_aload_n d_Mo_tick_65 rfl ?_ | refine j_aload_nq d_Mo_tick_65 rfl ?_ | refine j_aload_nN d_Mo_tick_65 rfl ?_
            refine j_get d_Mo_tick_66 f_Mo_43 (hM_o (by decide)) rfl ?_
            refine j_iload_n d_Mo_tick_69 rfl ?_
            refine j_iconst (v := nI 1) d_Mo_tick_70 (by decide +kernel) ?_
            refine j_iast (t := 0) d_Mo_tick_71 rfl (hM_o (by decide)) rfl (by omega) (by decide) (J.hq o12 ?_)
            refine j_goto (t := 164) d_Mo_tick_72 (by decide) ?_
            first | refine j_aload_n d_Mo_tick_164 rfl ?_ | refine j_aload_nq d_Mo_tick_164 rfl ?_ | refine j_aload_nN d_Mo_tick_164 rfl ?_
            refine j_iload_n d_Mo_tick_165 rfl ?_
            refine j_callV0 (As := [_]) G0_good G0_E d_Mo_tick_166 c_Mo_198 rfl rfl (m_act hi2 (4 * s + i) hp fc) (hM_o (by decide)) rfl rfl (by decide) (Nat.le_of_ble_eq_true rfl) ?_
            rintro _ _ ⟨rfl, ρ', rfl⟩
            refine j_iconst (v := nI 1) d_Mo_tick_169 (by decide +kernel) ?_
            exact j_zret d_Mo_tick_170 rfl (by decide +kernel) ⟨rfl, _, rfl⟩
        · exfalso; first | exact c38 | omega | exact c38 (inr_nI (by decide) hs) | exact c38 (inr_nI (by decide) hi) | exact c38 haw.1 | exact c38 haw.2
    · exfalso; first | exact c13 | omega | exact c13 (inr_nI (by decide) hs) | exact c13 (inr_nI (by decide) hi) | exact c13 haw.1 | exact c13 haw.2

set_option maxHeartbeats 4000000 in
set_option maxRecDepth 100000 in
theorem m_tick_1 {l : Launch} {D : va_G} {M nx : Nat} {L : Int32} {σ ρ : Sg} {g : Nat → Option va_E} {c : Nat → Nat → Nat} (ic : Pu.Ic c σ) (fc : FC L c) (s i : Nat) (hs : s < 2) (hi : i < 4) (haw : awake σ (4 * s + i)) (h : σ 12 (4 * s + i) 0 = 1) (h3 : 3 ≤ ca σ (4 * s + i) 1 (σ 11 (4 * s + i) 0) 4) : jM (G0 l D) m_Mo_tick 5 0 0 [.ref (M + 0), .int (nI s), .int (nI i)] (hM D M L σ ρ g, nx) (fun v h => v = some (.int (nI 1)) ∧ ∃ ρ', h = (hM D M L (sAct (k1 σ (4 * s + i)) (4 * s + i)) ρ' g, nx)) := by
  refine jM.of (by decide +kernel) (Nat.le_of_ble_eq_true rfl) rfl ?_
  have hb := ic.2.1
  have hp : 4 * s + i < 8 := by omega
  have b17 := hb 17 (4 * s + i) 0
  have b12 := ic.1.po.sp (4 * s + i) hp
  have R := ic.1.po.rd (4 * s + i) hp
  have mg := Pu.MG_ok (s := (4 * s + i) / 4) (by omega) ic.1
  have ca1 := ca_le (σ := σ) (p := 4 * s + i) (k := 1) (r := σ 11 (4 * s + i) 0) 4
  have ca2 := ca_le (σ := σ) (p := 4 * s + i) (k := 2) (r := σ 11 (4 * s + i) 0) 4
  have aw2 := haw.2
  obtain ⟨hi2, h918⟩ := Pu.k1_Ic hp ic haw h

  refine j_iload_n d_Mo_tick_0 rfl ?_
  refine j_iconst (v := nI 2) d_Mo_tick_1 (by decide +kernel) ?_
  refine j_callS0 (As := [_, _]) G0_good G0_E d_Mo_tick_2 c_Mo_103 rfl rfl rfl (m_out (nI s) 2) (by decide) (Nat.le_of_ble_eq_true rfl) ?_
  rintro _ _ ⟨rfl, rfl⟩
  first | refine c_if_ne (t := 16) d_Mo_tick_5 (by decide) (fun c5 => ?_) (fun c5 => ?_) | refine n_if_ne (t := 16) d_Mo_tick_5 (by decide) (by omega) (fun c5 => ?_) (fun c5 => ?_) | refine j_if_ne (t := 16) d_Mo_tick_5 (by decide) (fun c5 => ?_) (fun c5 => ?_)
  · exfalso; first | exact c5 | omega | exact c5 (inr_nI (by decide) hs) | exact c5 (inr_nI (by decide) hi) | exact c5 haw.1 | exact c5 haw.2
  · refine j_iload_n d_Mo_tick_8 rfl ?_
    refine j_iconst (v := nI 4) d_Mo_tick_9 (by decide +kernel) ?_
    refine j_callS0 (As := [_, _]) G0_good G0_E d_Mo_tick_10 c_Mo_103 rfl rfl rfl (m_out (nI i) 4) (by decide) (Nat.le_of_ble_eq_true rfl) ?_
    rintro _ _ ⟨rfl, rfl⟩
    first | refine c_if_eq (t := 18) d_Mo_tick_13 (by decide) (fun c13 => ?_) (fun c13 => ?_) | refine n_if_eq (t := 18) d_Mo_tick_13 (by decide) (by omega) (fun c13 => ?_) (fun c13 => ?_) | refine j_if_eq (t := 18) d_Mo_tick_13 (by decide) (fun c13 => ?_) (fun c13 => ?_)
    · refine j_iconst (v := nI 4) d_Mo_tick_18 (by decide +kernel) ?_
      refine j_iload_n d_Mo_tick_19 rfl ?_
      refine jn_imul d_Mo_tick_20 ?_
      refine j_iload_n d_Mo_tick_21 rfl ?_
      refine jn_iadd d_Mo_tick_22 ?_
      refine j_istore_n (lc' := [_, _, _, _]) d_Mo_tick_23 (by decide) rfl rfl ?_
      first | refine j_aload_n d_Mo_tick_24 rfl ?_ | refine j_aload_nq d_Mo_tick_24 rfl ?_ | refine j_aload_nN d_Mo_tick_24 rfl ?_
      refine j_iload_n d_Mo_tick_25 rfl ?_
      refine j_callV0 (As := [_]) G0_good G0_E d_Mo_tick_26 c_Mo_192 rfl rfl (m_faulty (fc σ ic.2.2) (4 * s + i) hp) (hM_o (by decide)) rfl rfl (by decide) (Nat.le_of_ble_eq_true rfl) ?_
      rintro _ _ ⟨rfl, rfl⟩
      first | refine c_if_ne (t := 41) d_Mo_tick_29 (by decide) (fun c29 => ?_) (fun c29 => ?_) | refine n_if_ne (t := 41) d_Mo_tick_29 (by decide) (by omega) (fun c29 => ?_) (fun c29 => ?_) | refine j_if_ne (t := 41) d_Mo_tick_29 (by decide) (fun c29 => ?_) (fun c29 => ?_)
      · exfalso; first | exact c29 | omega | exact c29 (inr_nI (by decide) hs) | exact c29 (inr_nI (by decide) hi) | exact c29 haw.1 | exact c29 haw.2
      · first | refine j_aload_n d_Mo_tick_32 rfl ?_ | refine j_aload_nq d_Mo_tick_32 rfl ?_ | refine j_aload_nN d_Mo_tick_32 rfl ?_
        refine j_get d_Mo_tick_33 f_Mo_58 (hM_o (by decide)) rfl ?_
        refine j_iload_n d_Mo_tick_36 rfl ?_
        refine j_zald (t := 1) d_Mo_tick_37 rfl (hM_o (by decide)) rfl (by omega) (by decide) ?_
        first | refine c_if_eq (t := 43) d_Mo_tick_38 (by decide) (fun c38 => ?_) (fun c38 => ?_) | refine n_if_eq (t := 43) d_Mo_tick_38 (by decide) (by omega) (fun c38 => ?_) (fun c38 => ?_) | refine j_if_eq (t := 43) d_Mo_tick_38 (by decide) (fun c38 => ?_) (fun c38 => ?_)
        · first | refine j_aload_n d_Mo_tick_43 rfl ?_ | refine j_aload_nq d_Mo_tick_43 rfl ?_ | refine j_aload_nN d_Mo_tick_43 rfl ?_
          refine j_iload_n d_Mo_tick_44 rfl ?_
          refine j_callV0 (As := [_]) G0_good G0_E d_Mo_tick_45 c_Mo_170 rfl rfl (m_survey hb (4 * s + i) hp mg (ic.1.po.ht _ hp) ic.1.bx.lb) (hM_o (by decide)) rfl rfl (by decide) (Nat.le_of_ble_eq_true rfl) ?_
          rintro _ _ ⟨rfl, ρ1, rfl, sv⟩
          first | refine j_aload_n d_Mo_tick_48 rfl ?_ | refine j_aload_nq d_Mo_tick_48 rfl ?_ | refine j_aload_nN d_Mo_tick_48 rfl ?_
          refine j_get d_Mo_tick_49 f_Mo_43 (hM_o (by decide)) rfl ?_
          refine j_iload_n d_Mo_tick_52 rfl ?_
          refine j_iald (t := 0) d_Mo_tick_53 rfl (hM_o (by decide)) rfl (by omega) (by decide) ?_
          first | refine c_if_ne (t := 75) d_Mo_tick_54 (by decide) (fun c54 => ?_) (fun c54 => ?_) | refine n_if_ne (t := 75) d_Mo_tick_54 (by decide) (by omega) (fun c54 => ?_) (fun c54 => ?_) | refine j_if_ne (t := 75) d_Mo_tick_54 (by decide) (fun c54 => ?_) (fun c54 => ?_)
          · first | refine j_aload_n d_Mo_tick_75 rfl ?_ | refine j_aload_nq d_Mo_tick_75 rfl ?_ | refine j_aload_nN d_Mo_tick_75 rfl ?_
            refine j_get d_Mo_tick_76 f_Mo_43 (hM_o (by decide)) rfl ?_
            refine j_iload_n d_Mo_tick_79 rfl ?_
            refine j_iald (t := 0) d_Mo_tick_80 rfl (hM_o (by decide)) rfl (by omega) (by decide) ?_
            refine j_iconst (v := nI 1) d_Mo_tick_81 (by decide +kernel) ?_
            first | refine nn_icmp_ne (t := 120) d_Mo_tick_82 (by decide) (by omega) (by omega) (fun c82 => ?_) (fun c82 => ?_) | refine mm_icmp_ne (t := 120) d_Mo_tick_82 (by decide) (by omega) (by omega) (fun c82 => ?_) (fun c82 => ?_) | refine mn_icmp_ne (t := 120) d_Mo_tick_82 (by decide) (by omega) (by omega) (fun c82 => ?_) (fun c82 => ?_) | refine nm_icmp_ne (t := 120) d_Mo_tick_82 (by decide) (by omega) (by omega) (fun c82 => ?_) (fun c82 => ?_) | refine j_icmp_ne (t := 120) d_Mo_tick_82 (by decide) (fun c82 => ?_) (fun c82 => ?_)
            · exfalso; first | exact c82 | omega | exact c82 (inr_nI (by decide) hs) | exact c82 (inr_nI (by decide) hi) | exact c82 haw.1 | exact c82 haw.2
            · first | refine j_aload_n d_Mo_tick_85 rfl ?_ | refine j_aload_nq d_Mo_tick_85 rfl ?_ | refine j_aload_nN d_Mo_tick_85 rfl ?_
              refine j_iconst (v := nI 1) d_Mo_tick_86 (by decide +kernel) ?_
              first | refine j_aload_n d_Mo_tick_87 rfl ?_ | refine j_aload_nq d_Mo_tick_87 rfl ?_ | refine j_aload_nN d_Mo_tick_87 rfl ?_
              refine j_get d_Mo_tick_88 f_Mo_40 (hM_o (by decide)) rfl ?_
              refine j_iload_n d_Mo_tick_91 rfl ?_
              refine j_iald (t := 0) d_Mo_tick_92 rfl (hM_o (by decide)) rfl (by omega) (by decide) ?_
              refine j_callV0 (As := [_, _]) G0_good G0_E d_Mo_tick_93 c_Mo_208 rfl rfl (m_all sv (ic.1.bx.bx _ hp (Classical.not_not.mp c29)) mg ic.1.bx.lb 1 (σ 11 (4 * s + i) 0) (Or.inl rfl) (by omega)) (hM_o (by decide)) rfl rfl (by decide) (Nat.le_of_ble_eq_true rfl) ?_
              rintro _ _ ⟨rfl, rfl⟩
              refine j_iconst (v := nI 3) d_Mo_tick_96 (by decide +kernel) ?_
              first | refine nn_icmp_ge (t := 102) d_Mo_tick_97 (by decide) (by omega) (by omega) (fun c97 => ?_) (fun c97 => ?_) | refine mm_icmp_ge (t := 102) d_Mo_tick_97 (by decide) (by omega) (by omega) (fun c97 => ?_) (fun c97 => ?_) | refine mn_icmp_ge (t := 102) d_Mo_tick_97 (by decide) (by omega) (by omega) (fun c97 => ?_) (fun c97 => ?_) | refine nm_icmp_ge (t := 102) d_Mo_tick_97 (by decide) (by omega) (by omega) (fun c97 => ?_) (fun c97 => ?_) | refine j_icmp_ge (t := 102) d_Mo_tick_97 (by decide) (fun c97 => ?_) (fun c97 => ?_)
              · first | refine j_aload_n d_Mo_tick_102 rfl ?_ | refine j_aload_nq d_Mo_tick_102 rfl ?_ | refine j_aload_nN d_Mo_tick_102 rfl ?_
                refine j_iload_n d_Mo_tick_103 rfl ?_
                refine j_iconst (v := nI 2) d_Mo_tick_104 (by decide +kernel) ?_
                refine j_iconst (v := mI 0) d_Mo_tick_105 (by decide +kernel) ?_
                refine j_iconst (v := mI 0) d_Mo_tick_106 (by decide +kernel) ?_
                refine j_callV0 (As := [_, _, _, _]) G0_good G0_E d_Mo_tick_107 c_Mo_166 rfl rfl (m_send hb (4 * s + i) hp h918 2 0 0 (by decide) (by omega) (by omega)) (hM_o (by decide)) rfl rfl (by decide) (Nat.le_of_ble_eq_true rfl) ?_
                rintro _ _ ⟨rfl, rfl⟩
                first | refine j_aload_n d_Mo_tick_110 rfl ?_ | refine j_aload_nq d_Mo_tick_110 rfl ?_ | refine j_aload_nN d_Mo_tick_110 rfl ?_
                refine j_get d_Mo_tick_111 f_Mo_43 (hM_o (by decide)) rfl ?_
                refine j_iload_n d_Mo_tick_114 rfl ?_
                refine j_iconst (v := nI 2) d_Mo_tick_115 (by decide +kernel) ?_
                refine j_iast (t := 0) d_Mo_tick_116 rfl (hM_o (by decide)) rfl (by omega) (by decide) (J.hq o12 ?_)
                refine j_goto (t := 164) d_Mo_tick_117 (by decide) ?_
                first | refine j_aload_n d_Mo_tick_164 rfl ?_ | refine j_aload_nq d_Mo_tick_164 rfl ?_ | refine j_aload_nN d_Mo_tick_164 rfl ?_
                refine j_iload_n d_Mo_tick_165 rfl ?_
                refine j_callV0 (As := [_]) G0_good G0_E d_Mo_tick_166 c_Mo_198 rfl rfl (m_act hi2 (4 * s + i) hp fc) (hM_o (by decide)) rfl rfl (by decide) (Nat.le_of_ble_eq_true rfl) ?_
                rintro _ _ ⟨rfl, ρ', rfl⟩
                refine j_iconst (v := nI 1) d_Mo_tick_169 (by decide +kernel) ?_
                exact j_zret d_Mo_tick_170 rfl (by decide +kernel) ⟨rfl, _, rfl⟩
              · exfalso; first | exact c97 | omega | exact c97 (inr_nI (by decide) hs) | exact c97 (inr_nI (by decide) hi) | exact c97 haw.1 | exact c97 haw.2
          · exfalso; first | exact c54 | omega | exact c54 (inr_nI (by decide) hs) | exact c54 (inr_nI (by decide) hi) | exact c54 haw.1 | exact c54 haw.2
        · exfalso; first | exact c38 | omega | exact c38 (inr_nI (by decide) hs) | exact c38 (inr_nI (by decide) hi) | exact c38 haw.1 | exact c38 haw.2
    · exfalso; first | exact c13 | omega | exact c13 (inr_nI (by decide) hs) | exact c13 (inr_nI (by decide) hi) | exact c13 haw.1 | exact c13 haw.2

set_option maxHeartbeats 4000000 in
set_option maxRecDepth 100000 in
theorem m_tick_2 {l : Launch} {D : va_G} {M nx : Nat} {L : Int32} {σ ρ : Sg} {g : Nat → Option va_E} {c : Nat → Nat → Nat} (ic : Pu.Ic c σ) (fc : FC L c) (s i : Nat) (hs : s < 2) (hi : i < 4) (haw : awake σ (4 * s + i)) (h : σ 12 (4 * s + i) 0 = 2) (h3 : 3 ≤ ca σ (4 * s + i) 2 (σ 11 (4 * s + i) 0) 4) (h5 : σ 11 (4 * s + i) 0 < 5) : jM (G0 l D) m_Mo_tick 5 0 0 [.ref (M + 0), .int (nI s), .int (nI i)] (hM D M L σ ρ g, nx) (fun v h => v = some (.int (nI 1)) ∧ ∃ ρ', h = (hM D M L (sAct (k2 σ (4 * s + i)) (4 * s + i)) ρ' g, nx)) := by
  refine jM.of (by decide +kernel) (Nat.le_of_ble_eq_true rfl) rfl ?_
  have hb := ic.2.1
  have hp : 4 * s + i < 8 := by omega
  have b17 := hb 17 (4 * s + i) 0
  have b12 := ic.1.po.sp (4 * s + i) hp
  have R := ic.1.po.rd (4 * s + i) hp
  have mg := Pu.MG_ok (s := (4 * s + i) / 4) (by omega) ic.1
  have ca1 := ca_le (σ := σ) (p := 4 * s + i) (k := 1) (r := σ 11 (4 * s + i) 0) 4
  have ca2 := ca_le (σ := σ) (p := 4 * s + i) (k := 2) (r := σ 11 (4 * s + i) 0) 4
  have aw2 := haw.2
  have hi2 := Pu.k2_Ic hp ic haw h5

  refine j_iload_n d_Mo_tick_0 rfl ?_
  refine j_iconst (v := nI 2) d_Mo_tick_1 (by decide +kernel) ?_
  refine j_callS0 (As := [_, _]) G0_good G0_E d_Mo_tick_2 c_Mo_103 rfl rfl rfl (m_out (nI s) 2) (by decide) (Nat.le_of_ble_eq_true rfl) ?_
  rintro _ _ ⟨rfl, rfl⟩
  first | refine c_if_ne (t := 16) d_Mo_tick_5 (by decide) (fun c5 => ?_) (fun c5 => ?_) | refine n_if_ne (t := 16) d_Mo_tick_5 (by decide) (by omega) (fun c5 => ?_) (fun c5 => ?_) | refine j_if_ne (t := 16) d_Mo_tick_5 (by decide) (fun c5 => ?_) (fun c5 => ?_)
  · exfalso; first | exact c5 | omega | exact c5 (inr_nI (by decide) hs) | exact c5 (inr_nI (by decide) hi) | exact c5 haw.1 | exact c5 haw.2
  · refine j_iload_n d_Mo_tick_8 rfl ?_
    refine j_iconst (v := nI 4) d_Mo_tick_9 (by decide +kernel) ?_
    refine j_callS0 (As := [_, _]) G0_good G0_E d_Mo_tick_10 c_Mo_103 rfl rfl rfl (m_out (nI i) 4) (by decide) (Nat.le_of_ble_eq_true rfl) ?_
    rintro _ _ ⟨rfl, rfl⟩
    first | refine c_if_eq (t := 18) d_Mo_tick_13 (by decide) (fun c13 => ?_) (fun c13 => ?_) | refine n_if_eq (t := 18) d_Mo_tick_13 (by decide) (by omega) (fun c13 => ?_) (fun c13 => ?_) | refine j_if_eq (t := 18) d_Mo_tick_13 (by decide) (fun c13 => ?_) (fun c13 => ?_)
    · refine j_iconst (v := nI 4) d_Mo_tick_18 (by decide +kernel) ?_
      refine j_iload_n d_Mo_tick_19 rfl ?_
      refine jn_imul d_Mo_tick_20 ?_
      refine j_iload_n d_Mo_tick_21 rfl ?_
      refine jn_iadd d_Mo_tick_22 ?_
      refine j_istore_n (lc' := [_, _, _, _]) d_Mo_tick_23 (by decide) rfl rfl ?_
      first | refine j_aload_n d_Mo_tick_24 rfl ?_ | refine j_aload_nq d_Mo_tick_24 rfl ?_ | refine j_aload_nN d_Mo_tick_24 rfl ?_
      refine j_iload_n d_Mo_tick_25 rfl ?_
      refine j_callV0 (As := [_]) G0_good G0_E d_Mo_tick_26 c_Mo_192 rfl rfl (m_faulty (fc σ ic.2.2) (4 * s + i) hp) (hM_o (by decide)) rfl rfl (by decide) (Nat.le_of_ble_eq_true rfl) ?_
      rintro _ _ ⟨rfl, rfl⟩
      first | refine c_if_ne (t := 41) d_Mo_tick_29 (by decide) (fun c29 => ?_) (fun c29 => ?_) | refine n_if_ne (t := 41) d_Mo_tick_29 (by decide) (by omega) (fun c29 => ?_) (fun c29 => ?_) | refine j_if_ne (t := 41) d_Mo_tick_29 (by decide) (fun c29 => ?_) (fun c29 => ?_)
      · exfalso; first | exact c29 | omega | exact c29 (inr_nI (by decide) hs) | exact c29 (inr_nI (by decide) hi) | exact c29 haw.1 | exact c29 haw.2
      · first | refine j_aload_n d_Mo_tick_32 rfl ?_ | refine j_aload_nq d_Mo_tick_32 rfl ?_ | refine j_aload_nN d_Mo_tick_32 rfl ?_
        refine j_get d_Mo_tick_33 f_Mo_58 (hM_o (by decide)) rfl ?_
        refine j_iload_n d_Mo_tick_36 rfl ?_
        refine j_zald (t := 1) d_Mo_tick_37 rfl (hM_o (by decide)) rfl (by omega) (by decide) ?_
        first | refine c_if_eq (t := 43) d_Mo_tick_38 (by decide) (fun c38 => ?_) (fun c38 => ?_) | refine n_if_eq (t := 43) d_Mo_tick_38 (by decide) (by omega) (fun c38 => ?_) (fun c38 => ?_) | refine j_if_eq (t := 43) d_Mo_tick_38 (by decide) (fun c38 => ?_) (fun c38 => ?_)
        · first | refine j_aload_n d_Mo_tick_43 rfl ?_ | refine j_aload_nq d_Mo_tick_43 rfl ?_ | refine j_aload_nN d_Mo_tick_43 rfl ?_
          refine j_iload_n d_Mo_tick_44 rfl ?_
          refine j_callV0 (As := [_]) G0_good G0_E d_Mo_tick_45 c_Mo_170 rfl rfl (m_survey hb (4 * s + i) hp mg (ic.1.po.ht _ hp) ic.1.bx.lb) (hM_o (by decide)) rfl rfl (by decide) (Nat.le_of_ble_eq_true rfl) ?_
          rintro _ _ ⟨rfl, ρ1, rfl, sv⟩
          first | refine j_aload_n d_Mo_tick_48 rfl ?_ | refine j_aload_nq d_Mo_tick_48 rfl ?_ | refine j_aload_nN d_Mo_tick_48 rfl ?_
          refine j_get d_Mo_tick_49 f_Mo_43 (hM_o (by decide)) rfl ?_
          refine j_iload_n d_Mo_tick_52 rfl ?_
          refine j_iald (t := 0) d_Mo_tick_53 rfl (hM_o (by decide)) rfl (by omega) (by decide) ?_
          first | refine c_if_ne (t := 75) d_Mo_tick_54 (by decide) (fun c54 => ?_) (fun c54 => ?_) | refine n_if_ne (t := 75) d_Mo_tick_54 (by decide) (by omega) (fun c54 => ?_) (fun c54 => ?_) | refine j_if_ne (t := 75) d_Mo_tick_54 (by decide) (fun c54 => ?_) (fun c54 => ?_)
          · first | refine j_aload_n d_Mo_tick_75 rfl ?_ | refine j_aload_nq d_Mo_tick_75 rfl ?_ | refine j_aload_nN d_Mo_tick_75 rfl ?_
            refine j_get d_Mo_tick_76 f_Mo_43 (hM_o (by decide)) rfl ?_
            refine j_iload_n d_Mo_tick_79 rfl ?_
            refine j_iald (t := 0) d_Mo_tick_80 rfl (hM_o (by decide)) rfl (by omega) (by decide) ?_
            refine j_iconst (v := nI 1) d_Mo_tick_81 (by decide +kernel) ?_
            first | refine nn_icmp_ne (t := 120) d_Mo_tick_82 (by decide) (by omega) (by omega) (fun c82 => ?_) (fun c82 => ?_) | refine mm_icmp_ne (t := 120) d_Mo_tick_82 (by decide) (by omega) (by omega) (fun c82 => ?_) (fun c82 => ?_) | refine mn_icmp_ne (t := 120) d_Mo_tick_82 (by decide) (by omega) (by omega) (fun c82 => ?_) (fun c82 => ?_) | refine nm_icmp_ne (t := 120) d_Mo_tick_82 (by decide) (by omega) (by omega) (fun c82 => ?_) (fun c82 => ?_) | refine j_icmp_ne (t := 120) d_Mo_tick_82 (by decide) (fun c82 => ?_) (fun c82 => ?_)
            · first | refine j_aload_n d_Mo_tick_120 rfl ?_ | refine j_aload_nq d_Mo_tick_120 rfl ?_ | refine j_aload_nN d_Mo_tick_120 rfl ?_
              refine j_get d_Mo_tick_121 f_Mo_40 (hM_o (by decide)) rfl ?_
              refine j_iload_n d_Mo_tick_124 rfl ?_
              refine j_iald (t := 0) d_Mo_tick_125 rfl (hM_o (by decide)) rfl (by omega) (by decide) ?_
              refine j_iconst (v := nI 5) d_Mo_tick_126 (by decide +kernel) ?_
              first | refine nn_icmp_eq (t := 145) d_Mo_tick_127 (by decide) (by omega) (by omega) (fun c127 => ?_) (fun c127 => ?_) | refine mm_icmp_eq (t := 145) d_Mo_tick_127 (by decide) (by omega) (by omega) (fun c127 => ?_) (fun c127 => ?_) | refine mn_icmp_eq (t := 145) d_Mo_tick_127 (by decide) (by omega) (by omega) (fun c127 => ?_) (fun c127 => ?_) | refine nm_icmp_eq (t := 145) d_Mo_tick_127 (by decide) (by omega) (by omega) (fun c127 => ?_) (fun c127 => ?_) | refine j_icmp_eq (t := 145) d_Mo_tick_127 (by decide) (fun c127 => ?_) (fun c127 => ?_)
              · exfalso; first | exact c127 | omega | exact c127 (inr_nI (by decide) hs) | exact c127 (inr_nI (by decide) hi) | exact c127 haw.1 | exact c127 haw.2
              · first | refine j_aload_n d_Mo_tick_130 rfl ?_ | refine j_aload_nq d_Mo_tick_130 rfl ?_ | refine j_aload_nN d_Mo_tick_130 rfl ?_
                refine j_iconst (v := nI 2) d_Mo_tick_131 (by decide +kernel) ?_
                first | refine j_aload_n d_Mo_tick_132 rfl ?_ | refine j_aload_nq d_Mo_tick_132 rfl ?_ | refine j_aload_nN d_Mo_tick_132 rfl ?_
                refine j_get d_Mo_tick_133 f_Mo_40 (hM_o (by decide)) rfl ?_
                refine j_iload_n d_Mo_tick_136 rfl ?_
                refine j_iald (t := 0) d_Mo_tick_137 rfl (hM_o (by decide)) rfl (by omega) (by decide) ?_
                refine j_callV0 (As := [_, _]) G0_good G0_E d_Mo_tick_138 c_Mo_208 rfl rfl (m_all sv (ic.1.bx.bx _ hp (Classical.not_not.mp c29)) mg ic.1.bx.lb 2 (σ 11 (4 * s + i) 0) (Or.inr rfl) (by omega)) (hM_o (by decide)) rfl rfl (by decide) (Nat.le_of_ble_eq_true rfl) ?_
                rintro _ _ ⟨rfl, rfl⟩
                refine j_iconst (v := nI 3) d_Mo_tick_141 (by decide +kernel) ?_
                first | refine nn_icmp_ge (t := 147) d_Mo_tick_142 (by decide) (by omega) (by omega) (fun c142 => ?_) (fun c142 => ?_) | refine mm_icmp_ge (t := 147) d_Mo_tick_142 (by decide) (by omega) (by omega) (fun c142 => ?_) (fun c142 => ?_) | refine mn_icmp_ge (t := 147) d_Mo_tick_142 (by decide) (by omega) (by omega) (fun c142 => ?_) (fun c142 => ?_) | refine nm_icmp_ge (t := 147) d_Mo_tick_142 (by decide) (by omega) (by omega) (fun c142 => ?_) (fun c142 => ?_) | refine j_icmp_ge (t := 147) d_Mo_tick_142 (by decide) (fun c142 => ?_) (fun c142 => ?_)
                · first | refine j_aload_n d_Mo_tick_147 rfl ?_ | refine j_aload_nq d_Mo_tick_147 rfl ?_ | refine j_aload_nN d_Mo_tick_147 rfl ?_
                  refine j_get d_Mo_tick_148 f_Mo_40 (hM_o (by decide)) rfl ?_
                  refine j_iload_n d_Mo_tick_151 rfl ?_
                  refine j_dup2 d_Mo_tick_152 rfl rfl ?_
                  refine j_iald (t := 0) d_Mo_tick_153 rfl (hM_o (by decide)) rfl (by omega) (by decide) ?_
                  refine j_iconst (v := nI 1) d_Mo_tick_154 (by decide +kernel) ?_
                  refine jn_iadd d_Mo_tick_155 ?_
                  refine j_iast (t := 0) d_Mo_tick_156 rfl (hM_o (by decide)) rfl (by omega) (by decide) (J.hq o11 ?_)
                  first | refine j_aload_n d_Mo_tick_157 rfl ?_ | refine j_aload_nq d_Mo_tick_157 rfl ?_ | refine j_aload_nN d_Mo_tick_157 rfl ?_
                  refine j_get d_Mo_tick_158 f_Mo_43 (hM_o (by decide)) rfl ?_
                  refine j_iload_n d_Mo_tick_161 rfl ?_
                  refine j_iconst (v := nI 0) d_Mo_tick_162 (by decide +kernel) ?_
                  refine j_iast (t := 0) d_Mo_tick_163 rfl (hM_o (by decide)) rfl (by omega) (by decide) (J.hq o12 ?_)
                  first | refine j_aload_n d_Mo_tick_164 rfl ?_ | refine j_aload_nq d_Mo_tick_164 rfl ?_ | refine j_aload_nN d_Mo_tick_164 rfl ?_
                  refine j_iload_n d_Mo_tick_165 rfl ?_
                  refine j_callV0 (As := [_]) G0_good G0_E d_Mo_tick_166 c_Mo_198 rfl rfl (m_act hi2 (4 * s + i) hp fc) (hM_o (by decide)) rfl rfl (by decide) (Nat.le_of_ble_eq_true rfl) ?_
                  rintro _ _ ⟨rfl, ρ', rfl⟩
                  refine j_iconst (v := nI 1) d_Mo_tick_169 (by decide +kernel) ?_
                  exact j_zret d_Mo_tick_170 rfl (by decide +kernel) ⟨rfl, _, rfl⟩
                · exfalso; first | exact c142 | omega | exact c142 (inr_nI (by decide) hs) | exact c142 (inr_nI (by decide) hi) | exact c142 haw.1 | exact c142 haw.2
            · exfalso; first | exact c82 | omega | exact c82 (inr_nI (by decide) hs) | exact c82 (inr_nI (by decide) hi) | exact c82 haw.1 | exact c82 haw.2
          · exfalso; first | exact c54 | omega | exact c54 (inr_nI (by decide) hs) | exact c54 (inr_nI (by decide) hi) | exact c54 haw.1 | exact c54 haw.2
        · exfalso; first | exact c38 | omega | exact c38 (inr_nI (by decide) hs) | exact c38 (inr_nI (by decide) hi) | exact c38 haw.1 | exact c38 haw.2
    · exfalso; first | exact c13 | omega | exact c13 (inr_nI (by decide) hs) | exact c13 (inr_nI (by decide) hi) | exact c13 haw.1 | exact c13 haw.2

set_option maxHeartbeats 4000000 in
set_option maxRecDepth 100000 in
theorem m_sleep_O1 {l : Launch} {D : va_G} {M nx : Nat} {L : Int32} {σ ρ : Sg} {g : Nat → Option va_E} (x y w : Int32) (hx : ¬ inr x 2) : jM (G0 l D) m_Mo_sleep 1 0 0 [.ref (M + 0), .int x, .int y, .int w] (hM D M L σ ρ g, nx) (fun v h => v = some (.int (nI 0)) ∧ h = (hM D M L σ ρ g, nx)) := by
  refine jM.of (by decide +kernel) (Nat.le_of_ble_eq_true rfl) rfl ?_
  refine j_iload_n d_Mo_sleep_0 rfl ?_
  refine j_iconst (v := nI 2) d_Mo_sleep_1 (by decide +kernel) ?_
  refine j_callS0 (As := [_, _]) G0_good G0_E d_Mo_sleep_2 c_Mo_103 rfl rfl rfl (m_out x 2) (by decide) (Nat.le_of_ble_eq_true rfl) ?_
  rintro _ _ ⟨rfl, rfl⟩
  first | refine c_if_ne (t := 16) d_Mo_sleep_5 (by decide) (fun c5 => ?_) (fun c5 => ?_) | refine n_if_ne (t := 16) d_Mo_sleep_5 (by decide) (by omega) (fun c5 => ?_) (fun c5 => ?_) | refine j_if_ne (t := 16) d_Mo_sleep_5 (by decide) (fun c5 => ?_) (fun c5 => ?_)
  · refine j_iconst (v := nI 0) d_Mo_sleep_16 (by decide +kernel) ?_
    exact j_zret d_Mo_sleep_17 rfl (by decide +kernel) ⟨rfl, rfl⟩
  · exfalso; first | exact c5 | omega | exact c5 hx

set_option maxHeartbeats 4000000 in
set_option maxRecDepth 100000 in
theorem m_sleep_O2 {l : Launch} {D : va_G} {M nx : Nat} {L : Int32} {σ ρ : Sg} {g : Nat → Option va_E} (s : Nat) (hs : s < 2) (y w : Int32) (hy : ¬ inr y 4) : jM (G0 l D) m_Mo_sleep 1 0 0 [.ref (M + 0), .int (nI s), .int y, .int w] (hM D M L σ ρ g, nx) (fun v h => v = some (.int (nI 0)) ∧ h = (hM D M L σ ρ g, nx)) := by
  refine jM.of (by decide +kernel) (Nat.le_of_ble_eq_true rfl) rfl ?_
  refine j_iload_n d_Mo_sleep_0 rfl ?_
  refine j_iconst (v := nI 2) d_Mo_sleep_1 (by decide +kernel) ?_
  refine j_callS0 (As := [_, _]) G0_good G0_E d_Mo_sleep_2 c_Mo_103 rfl rfl rfl (m_out (nI s) 2) (by decide) (Nat.le_of_ble_eq_true rfl) ?_
  rintro _ _ ⟨rfl, rfl⟩
  first | refine c_if_ne (t := 16) d_Mo_sleep_5 (by decide) (fun c5 => ?_) (fun c5 => ?_) | refine n_if_ne (t := 16) d_Mo_sleep_5 (by decide) (by omega) (fun c5 => ?_) (fun c5 => ?_) | refine j_if_ne (t := 16) d_Mo_sleep_5 (by decide) (fun c5 => ?_) (fun c5 => ?_)
  · exfalso; first | exact c5 | omega | exact c5 (inr_nI (by decide) hs) | exact c5 hy
  · refine j_iload_n d_Mo_sleep_8 rfl ?_
    refine j_iconst (v := nI 4) d_Mo_sleep_9 (by decide +kernel) ?_
    refine j_callS0 (As := [_, _]) G0_good G0_E d_Mo_sleep_10 c_Mo_103 rfl rfl rfl (m_out y 4) (by decide) (Nat.le_of_ble_eq_true rfl) ?_
    rintro _ _ ⟨rfl, rfl⟩
    first | refine c_if_eq (t := 18) d_Mo_sleep_13 (by decide) (fun c13 => ?_) (fun c13 => ?_) | refine n_if_eq (t := 18) d_Mo_sleep_13 (by decide) (by omega) (fun c13 => ?_) (fun c13 => ?_) | refine j_if_eq (t := 18) d_Mo_sleep_13 (by decide) (fun c13 => ?_) (fun c13 => ?_)
    · exfalso; first | exact c13 | omega | exact c13 (inr_nI (by decide) hs) | exact c13 hy
    · refine j_iconst (v := nI 0) d_Mo_sleep_16 (by decide +kernel) ?_
      exact j_zret d_Mo_sleep_17 rfl (by decide +kernel) ⟨rfl, rfl⟩

set_option maxHeartbeats 4000000 in
set_option maxRecDepth 100000 in
theorem m_sleep_f {l : Launch} {D : va_G} {M nx : Nat} {L : Int32} {σ ρ : Sg} {g : Nat → Option va_E} {c : Nat → Nat → Nat} (ic : Pu.Ic c σ) (fc : FC L c) (s i : Nat) (hs : s < 2) (hi : i < 4) (b : Nat) (hb2 : b < 2) (h : ¬ canS σ (4 * s + i) b) : jM (G0 l D) m_Mo_sleep 1 0 0 [.ref (M + 0), .int (nI s), .int (nI i), .int (nI b)] (hM D M L σ ρ g, nx) (fun v h => v = some (.int (nI 0)) ∧ h = (hM D M L σ ρ g, nx)) := by
  refine jM.of (by decide +kernel) (Nat.le_of_ble_eq_true rfl) rfl ?_
  have hb := ic.2.1
  have hp : 4 * s + i < 8 := by omega
  have b17 := hb 17 (4 * s + i) 0

  refine j_iload_n d_Mo_sleep_0 rfl ?_
  refine j_iconst (v := nI 2) d_Mo_sleep_1 (by decide +kernel) ?_
  refine j_callS0 (As := [_, _]) G0_good G0_E d_Mo_sleep_2 c_Mo_103 rfl rfl rfl (m_out (nI s) 2) (by decide) (Nat.le_of_ble_eq_true rfl) ?_
  rintro _ _ ⟨rfl, rfl⟩
  first | refine c_if_ne (t := 16) d_Mo_sleep_5 (by decide) (fun c5 => ?_) (fun c5 => ?_) | refine n_if_ne (t := 16) d_Mo_sleep_5 (by decide) (by omega) (fun c5 => ?_) (fun c5 => ?_) | refine j_if_ne (t := 16) d_Mo_sleep_5 (by decide) (fun c5 => ?_) (fun c5 => ?_)
  · exfalso; first | exact c5 | omega | exact c5 (inr_nI (by decide) hs) | exact c5 (inr_nI (by decide) hi)
  · refine j_iload_n d_Mo_sleep_8 rfl ?_
    refine j_iconst (v := nI 4) d_Mo_sleep_9 (by decide +kernel) ?_
    refine j_callS0 (As := [_, _]) G0_good G0_E d_Mo_sleep_10 c_Mo_103 rfl rfl rfl (m_out (nI i) 4) (by decide) (Nat.le_of_ble_eq_true rfl) ?_
    rintro _ _ ⟨rfl, rfl⟩
    first | refine c_if_eq (t := 18) d_Mo_sleep_13 (by decide) (fun c13 => ?_) (fun c13 => ?_) | refine n_if_eq (t := 18) d_Mo_sleep_13 (by decide) (by omega) (fun c13 => ?_) (fun c13 => ?_) | refine j_if_eq (t := 18) d_Mo_sleep_13 (by decide) (fun c13 => ?_) (fun c13 => ?_)
    · refine j_iconst (v := nI 4) d_Mo_sleep_18 (by decide +kernel) ?_
      refine j_iload_n d_Mo_sleep_19 rfl ?_
      refine jn_imul d_Mo_sleep_20 ?_
      refine j_iload_n d_Mo_sleep_21 rfl ?_
      refine jn_iadd d_Mo_sleep_22 ?_
      refine j_istore (lc' := [_, _, _, _, _]) d_Mo_sleep_23 (by decide) rfl rfl ?_
      first | refine j_aload_n d_Mo_sleep_25 rfl ?_ | refine j_aload_nq d_Mo_sleep_25 rfl ?_ | refine j_aload_nN d_Mo_sleep_25 rfl ?_
      refine j_iload d_Mo_sleep_26 rfl ?_
      refine j_callV0 (As := [_]) G0_good G0_E d_Mo_sleep_28 c_Mo_192 rfl rfl (m_faulty (fc σ ic.2.2) (4 * s + i) hp) (hM_o (by decide)) rfl rfl (by decide) (Nat.le_of_ble_eq_true rfl) ?_
      rintro _ _ ⟨rfl, rfl⟩
      first | refine c_if_ne (t := 45) d_Mo_sleep_31 (by decide) (fun c31 => ?_) (fun c31 => ?_) | refine n_if_ne (t := 45) d_Mo_sleep_31 (by decide) (by omega) (fun c31 => ?_) (fun c31 => ?_) | refine j_if_ne (t := 45) d_Mo_sleep_31 (by decide) (fun c31 => ?_) (fun c31 => ?_)
      · refine j_iconst (v := nI 0) d_Mo_sleep_45 (by decide +kernel) ?_
        exact j_zret d_Mo_sleep_46 rfl (by decide +kernel) ⟨rfl, rfl⟩
      · first | refine j_aload_n d_Mo_sleep_34 rfl ?_ | refine j_aload_nq d_Mo_sleep_34 rfl ?_ | refine j_aload_nN d_Mo_sleep_34 rfl ?_
        refine j_get d_Mo_sleep_35 f_Mo_58 (hM_o (by decide)) rfl ?_
        refine j_iload d_Mo_sleep_38 rfl ?_
        refine j_zald (t := 1) d_Mo_sleep_40 rfl (hM_o (by decide)) rfl (by omega) (by decide) ?_
        refine j_iload_n d_Mo_sleep_41 rfl ?_
        first | refine nn_icmp_ne (t := 47) d_Mo_sleep_42 (by decide) (by omega) (by omega) (fun c42 => ?_) (fun c42 => ?_) | refine mm_icmp_ne (t := 47) d_Mo_sleep_42 (by decide) (by omega) (by omega) (fun c42 => ?_) (fun c42 => ?_) | refine mn_icmp_ne (t := 47) d_Mo_sleep_42 (by decide) (by omega) (by omega) (fun c42 => ?_) (fun c42 => ?_) | refine nm_icmp_ne (t := 47) d_Mo_sleep_42 (by decide) (by omega) (by omega) (fun c42 => ?_) (fun c42 => ?_) | refine j_icmp_ne (t := 47) d_Mo_sleep_42 (by decide) (fun c42 => ?_) (fun c42 => ?_)
        · exfalso
          exact h ⟨Classical.not_not.mp c31, c42⟩
        · refine j_iconst (v := nI 0) d_Mo_sleep_45 (by decide +kernel) ?_
          exact j_zret d_Mo_sleep_46 rfl (by decide +kernel) ⟨rfl, rfl⟩
    · exfalso; first | exact c13 | omega | exact c13 (inr_nI (by decide) hs) | exact c13 (inr_nI (by decide) hi)

set_option maxHeartbeats 4000000 in
set_option maxRecDepth 100000 in
theorem m_sleep_t {l : Launch} {D : va_G} {M nx : Nat} {L : Int32} {σ ρ : Sg} {g : Nat → Option va_E} {c : Nat → Nat → Nat} (ic : Pu.Ic c σ) (fc : FC L c) (s i : Nat) (hs : s < 2) (hi : i < 4) (b : Nat) (hb2 : b < 2) (h : canS σ (4 * s + i) b) : jM (G0 l D) m_Mo_sleep 5 0 0 [.ref (M + 0), .int (nI s), .int (nI i), .int (nI b)] (hM D M L σ ρ g, nx) (fun v h => v = some (.int (nI 1)) ∧ ∃ ρ', h = (hM D M L (sAct (sSl σ (4 * s + i) b) (4 * s + i)) ρ' g, nx)) := by
  refine jM.of (by decide +kernel) (Nat.le_of_ble_eq_true rfl) rfl ?_
  have hb := ic.2.1
  have hp : 4 * s + i < 8 := by omega
  have b17 := hb 17 (4 * s + i) 0

  refine j_iload_n d_Mo_sleep_0 rfl ?_
  refine j_iconst (v := nI 2) d_Mo_sleep_1 (by decide +kernel) ?_
  refine j_callS0 (As := [_, _]) G0_good G0_E d_Mo_sleep_2 c_Mo_103 rfl rfl rfl (m_out (nI s) 2) (by decide) (Nat.le_of_ble_eq_true rfl) ?_
  rintro _ _ ⟨rfl, rfl⟩
  first | refine c_if_ne (t := 16) d_Mo_sleep_5 (by decide) (fun c5 => ?_) (fun c5 => ?_) | refine n_if_ne (t := 16) d_Mo_sleep_5 (by decide) (by omega) (fun c5 => ?_) (fun c5 => ?_) | refine j_if_ne (t := 16) d_Mo_sleep_5 (by decide) (fun c5 => ?_) (fun c5 => ?_)
  · exfalso; first | exact c5 | omega | exact c5 (inr_nI (by decide) hs) | exact c5 (inr_nI (by decide) hi) | exact c5 h.1 | exact h.2 c5
  · refine j_iload_n d_Mo_sleep_8 rfl ?_
    refine j_iconst (v := nI 4) d_Mo_sleep_9 (by decide +kernel) ?_
    refine j_callS0 (As := [_, _]) G0_good G0_E d_Mo_sleep_10 c_Mo_103 rfl rfl rfl (m_out (nI i) 4) (by decide) (Nat.le_of_ble_eq_true rfl) ?_
    rintro _ _ ⟨rfl, rfl⟩
    first | refine c_if_eq (t := 18) d_Mo_sleep_13 (by decide) (fun c13 => ?_) (fun c13 => ?_) | refine n_if_eq (t := 18) d_Mo_sleep_13 (by decide) (by omega) (fun c13 => ?_) (fun c13 => ?_) | refine j_if_eq (t := 18) d_Mo_sleep_13 (by decide) (fun c13 => ?_) (fun c13 => ?_)
    · refine j_iconst (v := nI 4) d_Mo_sleep_18 (by decide +kernel) ?_
      refine j_iload_n d_Mo_sleep_19 rfl ?_
      refine jn_imul d_Mo_sleep_20 ?_
      refine j_iload_n d_Mo_sleep_21 rfl ?_
      refine jn_iadd d_Mo_sleep_22 ?_
      refine j_istore (lc' := [_, _, _, _, _]) d_Mo_sleep_23 (by decide) rfl rfl ?_
      first | refine j_aload_n d_Mo_sleep_25 rfl ?_ | refine j_aload_nq d_Mo_sleep_25 rfl ?_ | refine j_aload_nN d_Mo_sleep_25 rfl ?_
      refine j_iload d_Mo_sleep_26 rfl ?_
      refine j_callV0 (As := [_]) G0_good G0_E d_Mo_sleep_28 c_Mo_192 rfl rfl (m_faulty (fc σ ic.2.2) (4 * s + i) hp) (hM_o (by decide)) rfl rfl (by decide) (Nat.le_of_ble_eq_true rfl) ?_
      rintro _ _ ⟨rfl, rfl⟩
      first | refine c_if_ne (t := 45) d_Mo_sleep_31 (by decide) (fun c31 => ?_) (fun c31 => ?_) | refine n_if_ne (t := 45) d_Mo_sleep_31 (by decide) (by omega) (fun c31 => ?_) (fun c31 => ?_) | refine j_if_ne (t := 45) d_Mo_sleep_31 (by decide) (fun c31 => ?_) (fun c31 => ?_)
      · exfalso; first | exact c31 | omega | exact c31 (inr_nI (by decide) hs) | exact c31 (inr_nI (by decide) hi) | exact c31 h.1 | exact h.2 c31
      · first | refine j_aload_n d_Mo_sleep_34 rfl ?_ | refine j_aload_nq d_Mo_sleep_34 rfl ?_ | refine j_aload_nN d_Mo_sleep_34 rfl ?_
        refine j_get d_Mo_sleep_35 f_Mo_58 (hM_o (by decide)) rfl ?_
        refine j_iload d_Mo_sleep_38 rfl ?_
        refine j_zald (t := 1) d_Mo_sleep_40 rfl (hM_o (by decide)) rfl (by omega) (by decide) ?_
        refine j_iload_n d_Mo_sleep_41 rfl ?_
        first | refine nn_icmp_ne (t := 47) d_Mo_sleep_42 (by decide) (by omega) (by omega) (fun c42 => ?_) (fun c42 => ?_) | refine mm_icmp_ne (t := 47) d_Mo_sleep_42 (by decide) (by omega) (by omega) (fun c42 => ?_) (fun c42 => ?_) | refine mn_icmp_ne (t := 47) d_Mo_sleep_42 (by decide) (by omega) (by omega) (fun c42 => ?_) (fun c42 => ?_) | refine nm_icmp_ne (t := 47) d_Mo_sleep_42 (by decide) (by omega) (by omega) (fun c42 => ?_) (fun c42 => ?_) | refine j_icmp_ne (t := 47) d_Mo_sleep_42 (by decide) (fun c42 => ?_) (fun c42 => ?_)
        · first | refine j_aload_n d_Mo_sleep_47 rfl ?_ | refine j_aload_nq d_Mo_sleep_47 rfl ?_ | refine j_aload_nN d_Mo_sleep_47 rfl ?_
          refine j_get d_Mo_sleep_48 f_Mo_58 (hM_o (by decide)) rfl ?_
          refine j_iload d_Mo_sleep_51 rfl ?_
          refine j_iload_n d_Mo_sleep_53 rfl ?_
          refine j_zast (t := 1) d_Mo_sleep_54 rfl (hM_o (by decide)) rfl (by omega) (by decide) (bn _ hb2) (J.hq o17 ?_)
          first | refine j_aload_n d_Mo_sleep_55 rfl ?_ | refine j_aload_nq d_Mo_sleep_55 rfl ?_ | refine j_aload_nN d_Mo_sleep_55 rfl ?_
          refine j_iload d_Mo_sleep_56 rfl ?_
          refine j_callV0 (As := [_]) G0_good G0_E d_Mo_sleep_58 c_Mo_198 rfl rfl (m_act (Pu.sSl_Ic ic hb2) (4 * s + i) hp fc) (hM_o (by decide)) rfl rfl (by decide) (Nat.le_of_ble_eq_true rfl) ?_
          rintro _ _ ⟨rfl, ρ', rfl⟩
          refine j_iconst (v := nI 1) d_Mo_sleep_61 (by decide +kernel) ?_
          exact j_zret d_Mo_sleep_62 rfl (by decide +kernel) ⟨rfl, _, rfl⟩
        · exfalso; first | exact c42 | omega | exact c42 (inr_nI (by decide) hs) | exact c42 (inr_nI (by decide) hi) | exact c42 h.1 | exact h.2 c42
    · exfalso; first | exact c13 | omega | exact c13 (inr_nI (by decide) hs) | exact c13 (inr_nI (by decide) hi) | exact c13 h.1 | exact h.2 c13
