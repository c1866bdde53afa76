/-! The reference: questions (g_mo10.py) -/
set_option maxHeartbeats 4000000 in
set_option maxRecDepth 100000 in
theorem m_messages_O {l : Launch} {D : va_G} {M nx : Nat} {L : Int32} {σ ρ : Sg} {g : Nat → Option va_E} (x : Int32) (hx : ¬ inr x 2) : jM (G0 l D) m_Mo_messages 1 0 0 [.ref (M + 0), .int x] (hM D M L σ ρ g, nx) (fun v h => v = some (.int (mI 0)) ∧ h = (hM D M L σ ρ g, nx)) := by
  refine jM.of (by decide +kernel) (Nat.le_of_ble_eq_true rfl) rfl ?_
  refine j_iload_n d_Mo_messages_0 rfl ?_
  refine j_iconst (v := nI 2) d_Mo_messages_1 (by decide +kernel) ?_
  refine j_callS0 (As := [_, _]) G0_good G0_E d_Mo_messages_2 c_Mo_103 rfl rfl rfl (m_out x 2) (by decide) (Nat.le_of_ble_eq_true rfl) ?_
  rintro _ _ ⟨rfl, rfl⟩
  first | refine c_if_eq (t := 12) d_Mo_messages_5 (by decide) (fun c5 => ?_) (fun c5 => ?_) | refine n_if_eq (t := 12) d_Mo_messages_5 (by decide) (by omega) (fun c5 => ?_) (fun c5 => ?_) | refine j_if_eq (t := 12) d_Mo_messages_5 (by decide) (fun c5 => ?_) (fun c5 => ?_)
  · exfalso; first | exact c5 | omega | exact c5 hx
  · refine j_iconst (v := mI 0) d_Mo_messages_8 (by decide +kernel) ?_
    refine j_goto (t := 18) d_Mo_messages_9 (by decide) ?_
    exact j_iret d_Mo_messages_18 rfl ⟨rfl, rfl⟩

set_option maxHeartbeats 4000000 in
set_option maxRecDepth 100000 in
theorem m_messages_i {l : Launch} {D : va_G} {M nx : Nat} {L : Int32} {σ ρ : Sg} {g : Nat → Option va_E} (s : Nat) (hs : s < 2) : jM (G0 l D) m_Mo_messages 1 0 0 [.ref (M + 0), .int (nI s)] (hM D M L σ ρ g, nx) (fun v h => v = some (.int (nI (σ 20 s 0))) ∧ h = (hM D M L σ ρ g, nx)) := by
  refine jM.of (by decide +kernel) (Nat.le_of_ble_eq_true rfl) rfl ?_
  refine j_iload_n d_Mo_messages_0 rfl ?_
  refine j_iconst (v := nI 2) d_Mo_messages_1 (by decide +kernel) ?_
  refine j_callS0 (As := [_, _]) G0_good G0_E d_Mo_messages_2 c_Mo_103 rfl rfl rfl (m_out (nI s) 2) (by decide) (Nat.le_of_ble_eq_true rfl) ?_
  rintro _ _ ⟨rfl, rfl⟩
  first | refine c_if_eq (t := 12) d_Mo_messages_5 (by decide) (fun c5 => ?_) (fun c5 => ?_) | refine n_if_eq (t := 12) d_Mo_messages_5 (by decide) (by omega) (fun c5 => ?_) (fun c5 => ?_) | refine j_if_eq (t := 12) d_Mo_messages_5 (by decide) (fun c5 => ?_) (fun c5 => ?_)
  · first | refine j_aload_n d_Mo_messages_12 rfl ?_ | refine j_aload_nq d_Mo_messages_12 rfl ?_ | refine j_aload_nN d_Mo_messages_12 rfl ?_
    refine j_get d_Mo_messages_13 f_Mo_68 (hM_o (by decide)) rfl ?_
    refine j_iload_n d_Mo_messages_16 rfl ?_
    refine j_iald (t := 0) d_Mo_messages_17 rfl (hM_o (by decide)) rfl (by omega) (by decide) ?_
    exact j_iret d_Mo_messages_18 rfl ⟨rfl, rfl⟩
  · exfalso; first | exact c5 | omega | exact c5 (inr_nI (by decide) hs)

set_option maxHeartbeats 4000000 in
set_option maxRecDepth 100000 in
theorem m_message_O {l : Launch} {D : va_G} {M nx : Nat} {L : Int32} {σ ρ : Sg} {g : Nat → Option va_E} (x k w : Int32) (hx : ¬ inr x 2) : jM (G0 l D) m_Mo_message 1 0 0 [.ref (M + 0), .int x, .int k, .int w] (hM D M L σ ρ g, nx) (fun v h => v = some (.int (-2)) ∧ h = (hM D M L σ ρ g, nx)) := by
  refine jM.of (by decide +kernel) (Nat.le_of_ble_eq_true rfl) rfl ?_
  refine j_iload_n d_Mo_message_0 rfl ?_
  refine j_iconst (v := nI 2) d_Mo_message_1 (by decide +kernel) ?_
  refine j_callS0 (As := [_, _]) G0_good G0_E d_Mo_message_2 c_Mo_103 rfl rfl rfl (m_out x 2) (by decide) (Nat.le_of_ble_eq_true rfl) ?_
  rintro _ _ ⟨rfl, rfl⟩
  first | refine c_if_ne (t := 17) d_Mo_message_5 (by decide) (fun c5 => ?_) (fun c5 => ?_) | refine n_if_ne (t := 17) d_Mo_message_5 (by decide) (by omega) (fun c5 => ?_) (fun c5 => ?_) | refine j_if_ne (t := 17) d_Mo_message_5 (by decide) (fun c5 => ?_) (fun c5 => ?_)
  · refine j_bipush (v := (-2)) d_Mo_message_17 (by decide +kernel) ?_
    exact j_iret d_Mo_message_19 rfl ⟨rfl, rfl⟩
  · exfalso; first | exact c5 | omega | exact c5 hx

set_option maxHeartbeats 4000000 in
set_option maxRecDepth 100000 in
theorem m_message_W {l : Launch} {D : va_G} {M nx : Nat} {L : Int32} {σ ρ : Sg} {g : Nat → Option va_E} (s : Nat) (hs : s < 2) (k w : Int32) (hw : ¬ inr w 6) : jM (G0 l D) m_Mo_message 1 0 0 [.ref (M + 0), .int (nI s), .int k, .int w] (hM D M L σ ρ g, nx) (fun v h => v = some (.int (-2)) ∧ h = (hM D M L σ ρ g, nx)) := by
  refine jM.of (by decide +kernel) (Nat.le_of_ble_eq_true rfl) rfl ?_
  refine j_iload_n d_Mo_message_0 rfl ?_
  refine j_iconst (v := nI 2) d_Mo_message_1 (by decide +kernel) ?_
  refine j_callS0 (As := [_, _]) G0_good G0_E d_Mo_message_2 c_Mo_103 rfl rfl rfl (m_out (nI s) 2) (by decide) (Nat.le_of_ble_eq_true rfl) ?_
  rintro _ _ ⟨rfl, rfl⟩
  first | refine c_if_ne (t := 17) d_Mo_message_5 (by decide) (fun c5 => ?_) (fun c5 => ?_) | refine n_if_ne (t := 17) d_Mo_message_5 (by decide) (by omega) (fun c5 => ?_) (fun c5 => ?_) | refine j_if_ne (t := 17) d_Mo_message_5 (by decide) (fun c5 => ?_) (fun c5 => ?_)
  · exfalso; first | exact c5 | omega | exact c5 (inr_nI (by decide) hs) | exact c5 hw
  · refine j_iload_n d_Mo_message_8 rfl ?_
    refine j_bipush (v := nI 6) d_Mo_message_9 (by decide +kernel) ?_
    refine j_callS0 (As := [_, _]) G0_good G0_E d_Mo_message_11 c_Mo_103 rfl rfl rfl (m_out w 6) (by decide) (Nat.le_of_ble_eq_true rfl) ?_
    rintro _ _ ⟨rfl, rfl⟩
    first | refine c_if_eq (t := 20) d_Mo_message_14 (by decide) (fun c14 => ?_) (fun c14 => ?_) | refine n_if_eq (t := 20) d_Mo_message_14 (by decide) (by omega) (fun c14 => ?_) (fun c14 => ?_) | refine j_if_eq (t := 20) d_Mo_message_14 (by decide) (fun c14 => ?_) (fun c14 => ?_)
    · exfalso; first | exact c14 | omega | exact c14 (inr_nI (by decide) hs) | exact c14 hw
    · refine j_bipush (v := (-2)) d_Mo_message_17 (by decide +kernel) ?_
      exact j_iret d_Mo_message_19 rfl ⟨rfl, rfl⟩

set_option maxHeartbeats 4000000 in
set_option maxRecDepth 100000 in
theorem m_message_K {l : Launch} {D : va_G} {M nx : Nat} {L : Int32} {σ ρ : Sg} {g : Nat → Option va_E} (s : Nat) (hs : s < 2) (k : Int32) (w : Nat) (hw : w < 6) (hk : ¬ inr k (σ 20 s 0)) : jM (G0 l D) m_Mo_message 1 0 0 [.ref (M + 0), .int (nI s), .int k, .int (nI w)] (hM D M L σ ρ g, nx) (fun v h => v = some (.int (-2)) ∧ h = (hM D M L σ ρ g, nx)) := by
  refine jM.of (by decide +kernel) (Nat.le_of_ble_eq_true rfl) rfl ?_
  refine j_iload_n d_Mo_message_0 rfl ?_
  refine j_iconst (v := nI 2) d_Mo_message_1 (by decide +kernel) ?_
  refine j_callS0 (As := [_, _]) G0_good G0_E d_Mo_message_2 c_Mo_103 rfl rfl rfl (m_out (nI s) 2) (by decide) (Nat.le_of_ble_eq_true rfl) ?_
  rintro _ _ ⟨rfl, rfl⟩
  first | refine c_if_ne (t := 17) d_Mo_message_5 (by decide) (fun c5 => ?_) (fun c5 => ?_) | refine n_if_ne (t := 17) d_Mo_message_5 (by decide) (by omega) (fun c5 => ?_) (fun c5 => ?_) | refine j_if_ne (t := 17) d_Mo_message_5 (by decide) (fun c5 => ?_) (fun c5 => ?_)
  · exfalso; first | exact c5 | omega | exact c5 (inr_nI (by decide) hs) | exact c5 (inr_nI (by decide) hw) | exact c5 hk
  · refine j_iload_n d_Mo_message_8 rfl ?_
    refine j_bipush (v := nI 6) d_Mo_message_9 (by decide +kernel) ?_
    refine j_callS0 (As := [_, _]) G0_good G0_E d_Mo_message_11 c_Mo_103 rfl rfl rfl (m_out (nI w) 6) (by decide) (Nat.le_of_ble_eq_true rfl) ?_
    rintro _ _ ⟨rfl, rfl⟩
    first | refine c_if_eq (t := 20) d_Mo_message_14 (by decide) (fun c14 => ?_) (fun c14 => ?_) | refine n_if_eq (t := 20) d_Mo_message_14 (by decide) (by omega) (fun c14 => ?_) (fun c14 => ?_) | refine j_if_eq (t := 20) d_Mo_message_14 (by decide) (fun c14 => ?_) (fun c14 => ?_)
    · refine j_iload_n d_Mo_message_20 rfl ?_
      first | refine j_aload_n d_Mo_message_21 rfl ?_ | refine j_aload_nq d_Mo_message_21 rfl ?_ | refine j_aload_nN d_Mo_message_21 rfl ?_
      refine j_get d_Mo_message_22 f_Mo_68 (hM_o (by decide)) rfl ?_
      refine j_iload_n d_Mo_message_25 rfl ?_
      refine j_iald (t := 0) d_Mo_message_26 rfl (hM_o (by decide)) rfl (by omega) (by decide) ?_
      refine j_callS0 (As := [_, _]) G0_good G0_E d_Mo_message_27 c_Mo_103 rfl rfl rfl (m_out k (σ 20 s 0)) (by decide) (Nat.le_of_ble_eq_true rfl) ?_
      rintro _ _ ⟨rfl, rfl⟩
      first | refine c_if_eq (t := 36) d_Mo_message_30 (by decide) (fun c30 => ?_) (fun c30 => ?_) | refine n_if_eq (t := 36) d_Mo_message_30 (by decide) (by omega) (fun c30 => ?_) (fun c30 => ?_) | refine j_if_eq (t := 36) d_Mo_message_30 (by decide) (fun c30 => ?_) (fun c30 => ?_)
      · exfalso; first | exact c30 | omega | exact c30 (inr_nI (by decide) hs) | exact c30 (inr_nI (by decide) hw) | exact c30 hk
      · refine j_bipush (v := (-2)) d_Mo_message_33 (by decide +kernel) ?_
        exact j_iret d_Mo_message_35 rfl ⟨rfl, rfl⟩
    · exfalso; first | exact c14 | omega | exact c14 (inr_nI (by decide) hs) | exact c14 (inr_nI (by decide) hw) | exact c14 hk

set_option maxHeartbeats 4000000 in
set_option maxRecDepth 100000 in
theorem m_message_0 {l : Launch} {D : va_G} {M nx : Nat} {L : Int32} {σ ρ : Sg} {g : Nat → Option va_E} {c : Nat → Nat → Nat} (ic : Pu.Ic c σ) (s : Nat) (hs : s < 2) (k : Nat) (hk : k < σ 20 s 0) : jM (G0 l D) m_Mo_message 1 0 0 [.ref (M + 0), .int (nI s), .int (nI k), .int (nI 0)] (hM D M L σ ρ g, nx) (fun v h => v = some (.int (nI (σ 21 s k))) ∧ h = (hM D M L σ ρ g, nx)) := by
  refine jM.of (by decide +kernel) (Nat.le_of_ble_eq_true rfl) rfl ?_
  have mg := Pu.MG_ok hs ic.1
  have mb := mg.mb hk
  have h918 := mg.1

  refine j_iload_n d_Mo_message_0 rfl ?_
  refine j_iconst (v := nI 2) d_Mo_message_1 (by decide +kernel) ?_
  refine j_callS0 (As := [_, _]) G0_good G0_E d_Mo_message_2 c_Mo_103 rfl rfl rfl (m_out (nI s) 2) (by decide) (Nat.le_of_ble_eq_true rfl) ?_
  rintro _ _ ⟨rfl, rfl⟩
  first | refine c_if_ne (t := 17) d_Mo_message_5 (by decide) (fun c5 => ?_) (fun c5 => ?_) | refine n_if_ne (t := 17) d_Mo_message_5 (by decide) (by omega) (fun c5 => ?_) (fun c5 => ?_) | refine j_if_ne (t := 17) d_Mo_message_5 (by decide) (fun c5 => ?_) (fun c5 => ?_)
  · exfalso; first | exact c5 | omega | exact c5 (inr_nI (by decide) hs) | exact c5 (inr_nI (by decide) (show 0 < 6 by decide)) | exact c5 (inr_nI (by omega) hk)
  · refine j_iload_n d_Mo_message_8 rfl ?_
    refine j_bipush (v := nI 6) d_Mo_message_9 (by decide +kernel) ?_
    refine j_callS0 (As := [_, _]) G0_good G0_E d_Mo_message_11 c_Mo_103 rfl rfl rfl (m_out (nI 0) 6) (by decide) (Nat.le_of_ble_eq_true rfl) ?_
    rintro _ _ ⟨rfl, rfl⟩
    first | refine c_if_eq (t := 20) d_Mo_message_14 (by decide) (fun c14 => ?_) (fun c14 => ?_) | refine n_if_eq (t := 20) d_Mo_message_14 (by decide) (by omega) (fun c14 => ?_) (fun c14 => ?_) | refine j_if_eq (t := 20) d_Mo_message_14 (by decide) (fun c14 => ?_) (fun c14 => ?_)
    · refine j_iload_n d_Mo_message_20 rfl ?_
      first | refine j_aload_n d_Mo_message_21 rfl ?_ | refine j_aload_nq d_Mo_message_21 rfl ?_ | refine j_aload_nN d_Mo_message_21 rfl ?_
      refine j_get d_Mo_message_22 f_Mo_68 (hM_o (by decide)) rfl ?_
      refine j_iload_n d_Mo_message_25 rfl ?_
      refine j_iald (t := 0) d_Mo_message_26 rfl (hM_o (by decide)) rfl (by omega) (by decide) ?_
      refine j_callS0 (As := [_, _]) G0_good G0_E d_Mo_message_27 c_Mo_103 rfl rfl rfl (m_out (nI k) (σ 20 s 0)) (by decide) (Nat.le_of_ble_eq_true rfl) ?_
      rintro _ _ ⟨rfl, rfl⟩
      first | refine c_if_eq (t := 36) d_Mo_message_30 (by decide) (fun c30 => ?_) (fun c30 => ?_) | refine n_if_eq (t := 36) d_Mo_message_30 (by decide) (by omega) (fun c30 => ?_) (fun c30 => ?_) | refine j_if_eq (t := 36) d_Mo_message_30 (by decide) (fun c30 => ?_) (fun c30 => ?_)
      · first | refine j_aload_n d_Mo_message_36 rfl ?_ | refine j_aload_nq d_Mo_message_36 rfl ?_ | refine j_aload_nN d_Mo_message_36 rfl ?_
        refine j_get d_Mo_message_37 f_Mo_71 (hM_o (by decide)) rfl ?_
        refine j_sipush (v := nI 1000) d_Mo_message_40 (by decide +kernel) ?_
        refine j_iload_n d_Mo_message_43 rfl ?_
        refine jn_imul d_Mo_message_44 ?_
        refine j_iload_n d_Mo_message_45 rfl ?_
        refine jn_iadd d_Mo_message_46 ?_
        refine o_lld (t := 2) d_Mo_message_47 rfl (hM_o (by decide)) rfl (by omega) (by omega) ?_
        refine j_iload_n d_Mo_message_48 rfl ?_
        refine j_callS0 (As := [_, _]) G0_good G0_E d_Mo_message_49 c_Mo_137 rfl rfl rfl (m_part0 mb) (by decide) (Nat.le_of_ble_eq_true rfl) ?_
        rintro _ _ ⟨rfl, rfl⟩
        refine j_istore (lc' := [_, _, _, _, _]) d_Mo_message_52 (by decide) rfl rfl ?_
        refine j_iload_n d_Mo_message_54 rfl ?_
        refine j_iconst (v := nI 3) d_Mo_message_55 (by decide +kernel) ?_
        first | refine nn_icmp_le (t := 66) d_Mo_message_56 (by decide) (by omega) (by omega) (fun c56 => ?_) (fun c56 => ?_) | refine mm_icmp_le (t := 66) d_Mo_message_56 (by decide) (by omega) (by omega) (fun c56 => ?_) (fun c56 => ?_) | refine mn_icmp_le (t := 66) d_Mo_message_56 (by decide) (by omega) (by omega) (fun c56 => ?_) (fun c56 => ?_) | refine nm_icmp_le (t := 66) d_Mo_message_56 (by decide) (by omega) (by omega) (fun c56 => ?_) (fun c56 => ?_) | refine j_icmp_le (t := 66) d_Mo_message_56 (by decide) (fun c56 => ?_) (fun c56 => ?_)
        · refine j_iload d_Mo_message_66 rfl ?_
          exact j_iret d_Mo_message_68 rfl ⟨rfl, rfl⟩
        · exfalso; first | exact c56 | omega | exact c56 (inr_nI (by decide) hs) | exact c56 (inr_nI (by decide) (show 0 < 6 by decide)) | exact c56 (inr_nI (by omega) hk)
      · exfalso; first | exact c30 | omega | exact c30 (inr_nI (by decide) hs) | exact c30 (inr_nI (by decide) (show 0 < 6 by decide)) | exact c30 (inr_nI (by omega) hk)
    · exfalso; first | exact c14 | omega | exact c14 (inr_nI (by decide) hs) | exact c14 (inr_nI (by decide) (show 0 < 6 by decide)) | exact c14 (inr_nI (by omega) hk)

set_option maxHeartbeats 4000000 in
set_option maxRecDepth 100000 in
theorem m_message_1 {l : Launch} {D : va_G} {M nx : Nat} {L : Int32} {σ ρ : Sg} {g : Nat → Option va_E} {c : Nat → Nat → Nat} (ic : Pu.Ic c σ) (s : Nat) (hs : s < 2) (k : Nat) (hk : k < σ 20 s 0) : jM (G0 l D) m_Mo_message 1 0 0 [.ref (M + 0), .int (nI s), .int (nI k), .int (nI 1)] (hM D M L σ ρ g, nx) (fun v h => v = some (.int (nI (σ 22 s k))) ∧ h = (hM D M L σ ρ g, nx)) := by
  refine jM.of (by decide +kernel) (Nat.le_of_ble_eq_true rfl) rfl ?_
  have mg := Pu.MG_ok hs ic.1
  have mb := mg.mb hk
  have h918 := mg.1

  refine j_iload_n d_Mo_message_0 rfl ?_
  refine j_iconst (v := nI 2) d_Mo_message_1 (by decide +kernel) ?_
  refine j_callS0 (As := [_, _]) G0_good G0_E d_Mo_message_2 c_Mo_103 rfl rfl rfl (m_out (nI s) 2) (by decide) (Nat.le_of_ble_eq_true rfl) ?_
  rintro _ _ ⟨rfl, rfl⟩
  first | refine c_if_ne (t := 17) d_Mo_message_5 (by decide) (fun c5 => ?_) (fun c5 => ?_) | refine n_if_ne (t := 17) d_Mo_message_5 (by decide) (by omega) (fun c5 => ?_) (fun c5 => ?_) | refine j_if_ne (t := 17) d_Mo_message_5 (by decide) (fun c5 => ?_) (fun c5 => ?_)
  · exfalso; first | exact c5 | omega | exact c5 (inr_nI (by decide) hs) | exact c5 (inr_nI (by decide) (show 1 < 6 by decide)) | exact c5 (inr_nI (by omega) hk)
  · refine j_iload_n d_Mo_message_8 rfl ?_
    refine j_bipush (v := nI 6) d_Mo_message_9 (by decide +kernel) ?_
    refine j_callS0 (As := [_, _]) G0_good G0_E d_Mo_message_11 c_Mo_103 rfl rfl rfl (m_out (nI 1) 6) (by decide) (Nat.le_of_ble_eq_true rfl) ?_
    rintro _ _ ⟨rfl, rfl⟩
    first | refine c_if_eq (t := 20) d_Mo_message_14 (by decide) (fun c14 => ?_) (fun c14 => ?_) | refine n_if_eq (t := 20) d_Mo_message_14 (by decide) (by omega) (fun c14 => ?_) (fun c14 => ?_) | refine j_if_eq (t := 20) d_Mo_message_14 (by decide) (fun c14 => ?_) (fun c14 => ?_)
    · refine j_iload_n d_Mo_message_20 rfl ?_
      first | refine j_aload_n d_Mo_message_21 rfl ?_ | refine j_aload_nq d_Mo_message_21 rfl ?_ | refine j_aload_nN d_Mo_message_21 rfl ?_
      refine j_get d_Mo_message_22 f_Mo_68 (hM_o (by decide)) rfl ?_
      refine j_iload_n d_Mo_message_25 rfl ?_
      refine j_iald (t := 0) d_Mo_message_26 rfl (hM_o (by decide)) rfl (by omega) (by decide) ?_
      refine j_callS0 (As := [_, _]) G0_good G0_E d_Mo_message_27 c_Mo_103 rfl rfl rfl (m_out (nI k) (σ 20 s 0)) (by decide) (Nat.le_of_ble_eq_true rfl) ?_
      rintro _ _ ⟨rfl, rfl⟩
      first | refine c_if_eq (t := 36) d_Mo_message_30 (by decide) (fun c30 => ?_) (fun c30 => ?_) | refine n_if_eq (t := 36) d_Mo_message_30 (by decide) (by omega) (fun c30 => ?_) (fun c30 => ?_) | refine j_if_eq (t := 36) d_Mo_message_30 (by decide) (fun c30 => ?_) (fun c30 => ?_)
      · first | refine j_aload_n d_Mo_message_36 rfl ?_ | refine j_aload_nq d_Mo_message_36 rfl ?_ | refine j_aload_nN d_Mo_message_36 rfl ?_
        refine j_get d_Mo_message_37 f_Mo_71 (hM_o (by decide)) rfl ?_
        refine j_sipush (v := nI 1000) d_Mo_message_40 (by decide +kernel) ?_
        refine j_iload_n d_Mo_message_43 rfl ?_
        refine jn_imul d_Mo_message_44 ?_
        refine j_iload_n d_Mo_message_45 rfl ?_
        refine jn_iadd d_Mo_message_46 ?_
        refine o_lld (t := 2) d_Mo_message_47 rfl (hM_o (by decide)) rfl (by omega) (by omega) ?_
        refine j_iload_n d_Mo_message_48 rfl ?_
        refine j_callS0 (As := [_, _]) G0_good G0_E d_Mo_message_49 c_Mo_137 rfl rfl rfl (m_part1 mb) (by decide) (Nat.le_of_ble_eq_true rfl) ?_
        rintro _ _ ⟨rfl, rfl⟩
        refine j_istore (lc' := [_, _, _, _, _]) d_Mo_message_52 (by decide) rfl rfl ?_
        refine j_iload_n d_Mo_message_54 rfl ?_
        refine j_iconst (v := nI 3) d_Mo_message_55 (by decide +kernel) ?_
        first | refine nn_icmp_le (t := 66) d_Mo_message_56 (by decide) (by omega) (by omega) (fun c56 => ?_) (fun c56 => ?_) | refine mm_icmp_le (t := 66) d_Mo_message_56 (by decide) (by omega) (by omega) (fun c56 => ?_) (fun c56 => ?_) | refine mn_icmp_le (t := 66) d_Mo_message_56 (by decide) (by omega) (by omega) (fun c56 => ?_) (fun c56 => ?_) | refine nm_icmp_le (t := 66) d_Mo_message_56 (by decide) (by omega) (by omega) (fun c56 => ?_) (fun c56 => ?_) | refine j_icmp_le (t := 66) d_Mo_message_56 (by decide) (fun c56 => ?_) (fun c56 => ?_)
        · refine j_iload d_Mo_message_66 rfl ?_
          exact j_iret d_Mo_message_68 rfl ⟨rfl, rfl⟩
        · exfalso; first | exact c56 | omega | exact c56 (inr_nI (by decide) hs) | exact c56 (inr_nI (by decide) (show 1 < 6 by decide)) | exact c56 (inr_nI (by omega) hk)
      · exfalso; first | exact c30 | omega | exact c30 (inr_nI (by decide) hs) | exact c30 (inr_nI (by decide) (show 1 < 6 by decide)) | exact c30 (inr_nI (by omega) hk)
    · exfalso; first | exact c14 | omega | exact c14 (inr_nI (by decide) hs) | exact c14 (inr_nI (by decide) (show 1 < 6 by decide)) | exact c14 (inr_nI (by omega) hk)

set_option maxHeartbeats 4000000 in
set_option maxRecDepth 100000 in
theorem m_message_2 {l : Launch} {D : va_G} {M nx : Nat} {L : Int32} {σ ρ : Sg} {g : Nat → Option va_E} {c : Nat → Nat → Nat} (ic : Pu.Ic c σ) (s : Nat) (hs : s < 2) (k : Nat) (hk : k < σ 20 s 0) : jM (G0 l D) m_Mo_message 1 0 0 [.ref (M + 0), .int (nI s), .int (nI k), .int (nI 2)] (hM D M L σ ρ g, nx) (fun v h => v = some (.int (nI (σ 23 s k))) ∧ h = (hM D M L σ ρ g, nx)) := by
  refine jM.of (by decide +kernel) (Nat.le_of_ble_eq_true rfl) rfl ?_
  have mg := Pu.MG_ok hs ic.1
  have mb := mg.mb hk
  have h918 := mg.1

  refine j_iload_n d_Mo_message_0 rfl ?_
  refine j_iconst (v := nI 2) d_Mo_message_1 (by decide +kernel) ?_
  refine j_callS0 (As := [_, _]) G0_good G0_E d_Mo_message_2 c_Mo_103 rfl rfl rfl (m_out (nI s) 2) (by decide) (Nat.le_of_ble_eq_true rfl) ?_
  rintro _ _ ⟨rfl, rfl⟩
  first | refine c_if_ne (t := 17) d_Mo_message_5 (by decide) (fun c5 => ?_) (fun c5 => ?_) | refine n_if_ne (t := 17) d_Mo_message_5 (by decide) (by omega) (fun c5 => ?_) (fun c5 => ?_) | refine j_if_ne (t := 17) d_Mo_message_5 (by decide) (fun c5 => ?_) (fun c5 => ?_)
  · exfalso; first | exact c5 | omega | exact c5 (inr_nI (by decide) hs) | exact c5 (inr_nI (by decide) (show 2 < 6 by decide)) | exact c5 (inr_nI (by omega) hk)
  · refine j_iload_n d_Mo_message_8 rfl ?_
    refine j_bipush (v := nI 6) d_Mo_message_9 (by decide +kernel) ?_
    refine j_callS0 (As := [_, _]) G0_good G0_E d_Mo_message_11 c_Mo_103 rfl rfl rfl (m_out (nI 2) 6) (by decide) (Nat.le_of_ble_eq_true rfl) ?_
    rintro _ _ ⟨rfl, rfl⟩
    first | refine c_if_eq (t := 20) d_Mo_message_14 (by decide) (fun c14 => ?_) (fun c14 => ?_) | refine n_if_eq (t := 20) d_Mo_message_14 (by decide) (by omega) (fun c14 => ?_) (fun c14 => ?_) | refine j_if_eq (t := 20) d_Mo_message_14 (by decide) (fun c14 => ?_) (fun c14 => ?_)
    · refine j_iload_n d_Mo_message_20 rfl ?_
      first | refine j_aload_n d_Mo_message_21 rfl ?_ | refine j_aload_nq d_Mo_message_21 rfl ?_ | refine j_aload_nN d_Mo_message_21 rfl ?_
      refine j_get d_Mo_message_22 f_Mo_68 (hM_o (by decide)) rfl ?_
      refine j_iload_n d_Mo_message_25 rfl ?_
      refine j_iald (t := 0) d_Mo_message_26 rfl (hM_o (by decide)) rfl (by omega) (by decide) ?_
      refine j_callS0 (As := [_, _]) G0_good G0_E d_Mo_message_27 c_Mo_103 rfl rfl rfl (m_out (nI k) (σ 20 s 0)) (by decide) (Nat.le_of_ble_eq_true rfl) ?_
      rintro _ _ ⟨rfl, rfl⟩
      first | refine c_if_eq (t := 36) d_Mo_message_30 (by decide) (fun c30 => ?_) (fun c30 => ?_) | refine n_if_eq (t := 36) d_Mo_message_30 (by decide) (by omega) (fun c30 => ?_) (fun c30 => ?_) | refine j_if_eq (t := 36) d_Mo_message_30 (by decide) (fun c30 => ?_) (fun c30 => ?_)
      · first | refine j_aload_n d_Mo_message_36 rfl ?_ | refine j_aload_nq d_Mo_message_36 rfl ?_ | refine j_aload_nN d_Mo_message_36 rfl ?_
        refine j_get d_Mo_message_37 f_Mo_71 (hM_o (by decide)) rfl ?_
        refine j_sipush (v := nI 1000) d_Mo_message_40 (by decide +kernel) ?_
        refine j_iload_n d_Mo_message_43 rfl ?_
        refine jn_imul d_Mo_message_44 ?_
        refine j_iload_n d_Mo_message_45 rfl ?_
        refine jn_iadd d_Mo_message_46 ?_
        refine o_lld (t := 2) d_Mo_message_47 rfl (hM_o (by decide)) rfl (by omega) (by omega) ?_
        refine j_iload_n d_Mo_message_48 rfl ?_
        refine j_callS0 (As := [_, _]) G0_good G0_E d_Mo_message_49 c_Mo_137 rfl rfl rfl (m_part2 mb) (by decide) (Nat.le_of_ble_eq_true rfl) ?_
        rintro _ _ ⟨rfl, rfl⟩
        refine j_istore (lc' := [_, _, _, _, _]) d_Mo_message_52 (by decide) rfl rfl ?_
        refine j_iload_n d_Mo_message_54 rfl ?_
        refine j_iconst (v := nI 3) d_Mo_message_55 (by decide +kernel) ?_
        first | refine nn_icmp_le (t := 66) d_Mo_message_56 (by decide) (by omega) (by omega) (fun c56 => ?_) (fun c56 => ?_) | refine mm_icmp_le (t := 66) d_Mo_message_56 (by decide) (by omega) (by omega) (fun c56 => ?_) (fun c56 => ?_) | refine mn_icmp_le (t := 66) d_Mo_message_56 (by decide) (by omega) (by omega) (fun c56 => ?_) (fun c56 => ?_) | refine nm_icmp_le (t := 66) d_Mo_message_56 (by decide) (by omega) (by omega) (fun c56 => ?_) (fun c56 => ?_) | refine j_icmp_le (t := 66) d_Mo_message_56 (by decide) (fun c56 => ?_) (fun c56 => ?_)
        · refine j_iload d_Mo_message_66 rfl ?_
          exact j_iret d_Mo_message_68 rfl ⟨rfl, rfl⟩
        · exfalso; first | exact c56 | omega | exact c56 (inr_nI (by decide) hs) | exact c56 (inr_nI (by decide) (show 2 < 6 by decide)) | exact c56 (inr_nI (by omega) hk)
      · exfalso; first | exact c30 | omega | exact c30 (inr_nI (by decide) hs) | exact c30 (inr_nI (by decide) (show 2 < 6 by decide)) | exact c30 (inr_nI (by omega) hk)
    · exfalso; first | exact c14 | omega | exact c14 (inr_nI (by decide) hs) | exact c14 (inr_nI (by decide) (show 2 < 6 by decide)) | exact c14 (inr_nI (by omega) hk)

set_option maxHeartbeats 4000000 in
set_option maxRecDepth 100000 in
theorem m_message_3 {l : Launch} {D : va_G} {M nx : Nat} {L : Int32} {σ ρ : Sg} {g : Nat → Option va_E} {c : Nat → Nat → Nat} (ic : Pu.Ic c σ) (s : Nat) (hs : s < 2) (k : Nat) (hk : k < σ 20 s 0) : jM (G0 l D) m_Mo_message 1 0 0 [.ref (M + 0), .int (nI s), .int (nI k), .int (nI 3)] (hM D M L σ ρ g, nx) (fun v h => v = some (.int (nI (σ 24 s k))) ∧ h = (hM D M L σ ρ g, nx)) := by
  refine jM.of (by decide +kernel) (Nat.le_of_ble_eq_true rfl) rfl ?_
  have mg := Pu.MG_ok hs ic.1
  have mb := mg.mb hk
  have h918 := mg.1

  refine j_iload_n d_Mo_message_0 rfl ?_
  refine j_iconst (v := nI 2) d_Mo_message_1 (by decide +kernel) ?_
  refine j_callS0 (As := [_, _]) G0_good G0_E d_Mo_message_2 c_Mo_103 rfl rfl rfl (m_out (nI s) 2) (by decide) (Nat.le_of_ble_eq_true rfl) ?_
  rintro _ _ ⟨rfl, rfl⟩
  first | refine c_if_ne (t := 17) d_Mo_message_5 (by decide) (fun c5 => ?_) (fun c5 => ?_) | refine n_if_ne (t := 17) d_Mo_message_5 (by decide) (by omega) (fun c5 => ?_) (fun c5 => ?_) | refine j_if_ne (t := 17) d_Mo_message_5 (by decide) (fun c5 => ?_) (fun c5 => ?_)
  · exfalso; first | exact c5 | omega | exact c5 (inr_nI (by decide) hs) | exact c5 (inr_nI (by decide) (show 3 < 6 by decide)) | exact c5 (inr_nI (by omega) hk)
  · refine j_iload_n d_Mo_message_8 rfl ?_
    refine j_bipush (v := nI 6) d_Mo_message_9 (by decide +kernel) ?_
    refine j_callS0 (As := [_, _]) G0_good G0_E d_Mo_message_11 c_Mo_103 rfl rfl rfl (m_out (nI 3) 6) (by decide) (Nat.le_of_ble_eq_true rfl) ?_
    rintro _ _ ⟨rfl, rfl⟩
    first | refine c_if_eq (t := 20) d_Mo_message_14 (by decide) (fun c14 => ?_) (fun c14 => ?_) | refine n_if_eq (t := 20) d_Mo_message_14 (by decide) (by omega) (fun c14 => ?_) (fun c14 => ?_) | refine j_if_eq (t := 20) d_Mo_message_14 (by decide) (fun c14 => ?_) (fun c14 => ?_)
    · refine j_iload_n d_Mo_message_20 rfl ?_
      first | refine j_aload_n d_Mo_message_21 rfl ?_ | refine j_aload_nq d_Mo_message_21 rfl ?_ | refine j_aload_nN d_Mo_message_21 rfl ?_
      refine j_get d_Mo_message_22 f_Mo_68 (hM_o (by decide)) rfl ?_
      refine j_iload_n d_Mo_message_25 rfl ?_
      refine j_iald (t := 0) d_Mo_message_26 rfl (hM_o (by decide)) rfl (by omega) (by decide) ?_
      refine j_callS0 (As := [_, _]) G0_good G0_E d_Mo_message_27 c_Mo_103 rfl rfl rfl (m_out (nI k) (σ 20 s 0)) (by decide) (Nat.le_of_ble_eq_true rfl) ?_
      rintro _ _ ⟨rfl, rfl⟩
      first | refine c_if_eq (t := 36) d_Mo_message_30 (by decide) (fun c30 => ?_) (fun c30 => ?_) | refine n_if_eq (t := 36) d_Mo_message_30 (by decide) (by omega) (fun c30 => ?_) (fun c30 => ?_) | refine j_if_eq (t := 36) d_Mo_message_30 (by decide) (fun c30 => ?_) (fun c30 => ?_)
      · first | refine j_aload_n d_Mo_message_36 rfl ?_ | refine j_aload_nq d_Mo_message_36 rfl ?_ | refine j_aload_nN d_Mo_message_36 rfl ?_
        refine j_get d_Mo_message_37 f_Mo_71 (hM_o (by decide)) rfl ?_
        refine j_sipush (v := nI 1000) d_Mo_message_40 (by decide +kernel) ?_
        refine j_iload_n d_Mo_message_43 rfl ?_
        refine jn_imul d_Mo_message_44 ?_
        refine j_iload_n d_Mo_message_45 rfl ?_
        refine jn_iadd d_Mo_message_46 ?_
        refine o_lld (t := 2) d_Mo_message_47 rfl (hM_o (by decide)) rfl (by omega) (by omega) ?_
        refine j_iload_n d_Mo_message_48 rfl ?_
        refine j_callS0 (As := [_, _]) G0_good G0_E d_Mo_message_49 c_Mo_137 rfl rfl rfl (m_part3 mb) (by decide) (Nat.le_of_ble_eq_true rfl) ?_
        rintro _ _ ⟨rfl, rfl⟩
        refine j_istore (lc' := [_, _, _, _, _]) d_Mo_message_52 (by decide) rfl rfl ?_
        refine j_iload_n d_Mo_message_54 rfl ?_
        refine j_iconst (v := nI 3) d_Mo_message_55 (by decide +kernel) ?_
        first | refine nn_icmp_le (t := 66) d_Mo_message_56 (by decide) (by omega) (by omega) (fun c56 => ?_) (fun c56 => ?_) | refine mm_icmp_le (t := 66) d_Mo_message_56 (by decide) (by omega) (by omega) (fun c56 => ?_) (fun c56 => ?_) | refine mn_icmp_le (t := 66) d_Mo_message_56 (by decide) (by omega) (by omega) (fun c56 => ?_) (fun c56 => ?_) | refine nm_icmp_le (t := 66) d_Mo_message_56 (by decide) (by omega) (by omega) (fun c56 => ?_) (fun c56 => ?_) | refine j_icmp_le (t := 66) d_Mo_message_56 (by decide) (fun c56 => ?_) (fun c56 => ?_)
        · refine j_iload d_Mo_message_66 rfl ?_
          exact j_iret d_Mo_message_68 rfl ⟨rfl, rfl⟩
        · exfalso; first | exact c56 | omega | exact c56 (inr_nI (by decide) hs) | exact c56 (inr_nI (by decide) (show 3 < 6 by decide)) | exact c56 (inr_nI (by omega) hk)
      · exfalso; first | exact c30 | omega | exact c30 (inr_nI (by decide) hs) | exact c30 (inr_nI (by decide) (show 3 < 6 by decide)) | exact c30 (inr_nI (by omega) hk)
    · exfalso; first | exact c14 | omega | exact c14 (inr_nI (by decide) hs) | exact c14 (inr_nI (by decide) (show 3 < 6 by decide)) | exact c14 (inr_nI (by omega) hk)

set_option maxHeartbeats 4000000 in
set_option maxRecDepth 100000 in
theorem m_message_4 {l : Launch} {D : va_G} {M nx : Nat} {L : Int32} {σ ρ : Sg} {g : Nat → Option va_E} {c : Nat → Nat → Nat} (ic : Pu.Ic c σ) (s : Nat) (hs : s < 2) (k : Nat) (hk : k < σ 20 s 0) : jM (G0 l D) m_Mo_message 1 0 0 [.ref (M + 0), .int (nI s), .int (nI k), .int (nI 4)] (hM D M L σ ρ g, nx) (fun v h => v = some (.int (mI (σ 25 s k))) ∧ h = (hM D M L σ ρ g, nx)) := by
  refine jM.of (by decide +kernel) (Nat.le_of_ble_eq_true rfl) rfl ?_
  have mg := Pu.MG_ok hs ic.1
  have mb := mg.mb hk
  have h918 := mg.1

  refine j_iload_n d_Mo_message_0 rfl ?_
  refine j_iconst (v := nI 2) d_Mo_message_1 (by decide +kernel) ?_
  refine j_callS0 (As := [_, _]) G0_good G0_E d_Mo_message_2 c_Mo_103 rfl rfl rfl (m_out (nI s) 2) (by decide) (Nat.le_of_ble_eq_true rfl) ?_
  rintro _ _ ⟨rfl, rfl⟩
  first | refine c_if_ne (t := 17) d_Mo_message_5 (by decide) (fun c5 => ?_) (fun c5 => ?_) | refine n_if_ne (t := 17) d_Mo_message_5 (by decide) (by omega) (fun c5 => ?_) (fun c5 => ?_) | refine j_if_ne (t := 17) d_Mo_message_5 (by decide) (fun c5 => ?_) (fun c5 => ?_)
  · exfalso; first | exact c5 | omega | exact c5 (inr_nI (by decide) hs) | exact c5 (inr_nI (by decide) (show 4 < 6 by decide)) | exact c5 (inr_nI (by omega) hk)
  · refine j_iload_n d_Mo_message_8 rfl ?_
    refine j_bipush (v := nI 6) d_Mo_message_9 (by decide +kernel) ?_
    refine j_callS0 (As := [_, _]) G0_good G0_E d_Mo_message_11 c_Mo_103 rfl rfl rfl (m_out (nI 4) 6) (by decide) (Nat.le_of_ble_eq_true rfl) ?_
    rintro _ _ ⟨rfl, rfl⟩
    first | refine c_if_eq (t := 20) d_Mo_message_14 (by decide) (fun c14 => ?_) (fun c14 => ?_) | refine n_if_eq (t := 20) d_Mo_message_14 (by decide) (by omega) (fun c14 => ?_) (fun c14 => ?_) | refine j_if_eq (t := 20) d_Mo_message_14 (by decide) (fun c14 => ?_) (fun c14 => ?_)
    · refine j_iload_n d_Mo_message_20 rfl ?_
      first | refine j_aload_n d_Mo_message_21 rfl ?_ | refine j_aload_nq d_Mo_message_21 rfl ?_ | refine j_aload_nN d_Mo_message_21 rfl ?_
      refine j_get d_Mo_message_22 f_Mo_68 (hM_o (by decide)) rfl ?_
      refine j_iload_n d_Mo_message_25 rfl ?_
      refine j_iald (t := 0) d_Mo_message_26 rfl (hM_o (by decide)) rfl (by omega) (by decide) ?_
      refine j_callS0 (As := [_, _]) G0_good G0_E d_Mo_message_27 c_Mo_103 rfl rfl rfl (m_out (nI k) (σ 20 s 0)) (by decide) (Nat.le_of_ble_eq_true rfl) ?_
      rintro _ _ ⟨rfl, rfl⟩
      first | refine c_if_eq (t := 36) d_Mo_message_30 (by decide) (fun c30 => ?_) (fun c30 => ?_) | refine n_if_eq (t := 36) d_Mo_message_30 (by decide) (by omega) (fun c30 => ?_) (fun c30 => ?_) | refine j_if_eq (t := 36) d_Mo_message_30 (by decide) (fun c30 => ?_) (fun c30 => ?_)
      · first | refine j_aload_n d_Mo_message_36 rfl ?_ | refine j_aload_nq d_Mo_message_36 rfl ?_ | refine j_aload_nN d_Mo_message_36 rfl ?_
        refine j_get d_Mo_message_37 f_Mo_71 (hM_o (by decide)) rfl ?_
        refine j_sipush (v := nI 1000) d_Mo_message_40 (by decide +kernel) ?_
        refine j_iload_n d_Mo_message_43 rfl ?_
        refine jn_imul d_Mo_message_44 ?_
        refine j_iload_n d_Mo_message_45 rfl ?_
        refine jn_iadd d_Mo_message_46 ?_
        refine o_lld (t := 2) d_Mo_message_47 rfl (hM_o (by decide)) rfl (by omega) (by omega) ?_
        refine j_iload_n d_Mo_message_48 rfl ?_
        refine j_callS0 (As := [_, _]) G0_good G0_E d_Mo_message_49 c_Mo_137 rfl rfl rfl (m_part4 mb) (by decide) (Nat.le_of_ble_eq_true rfl) ?_
        rintro _ _ ⟨rfl, rfl⟩
        refine j_istore (lc' := [_, _, _, _, _]) d_Mo_message_52 (by decide) rfl rfl ?_
        refine j_iload_n d_Mo_message_54 rfl ?_
        refine j_iconst (v := nI 3) d_Mo_message_55 (by decide +kernel) ?_
        first | refine nn_icmp_le (t := 66) d_Mo_message_56 (by decide) (by omega) (by omega) (fun c56 => ?_) (fun c56 => ?_) | refine mm_icmp_le (t := 66) d_Mo_message_56 (by decide) (by omega) (by omega) (fun c56 => ?_) (fun c56 => ?_) | refine mn_icmp_le (t := 66) d_Mo_message_56 (by decide) (by omega) (by omega) (fun c56 => ?_) (fun c56 => ?_) | refine nm_icmp_le (t := 66) d_Mo_message_56 (by decide) (by omega) (by omega) (fun c56 => ?_) (fun c56 => ?_) | refine j_icmp_le (t := 66) d_Mo_message_56 (by decide) (fun c56 => ?_) (fun c56 => ?_)
        · exfalso; first | exact c56 | omega | exact c56 (inr_nI (by decide) hs) | exact c56 (inr_nI (by decide) (show 4 < 6 by decide)) | exact c56 (inr_nI (by omega) hk)
        · refine j_iload d_Mo_message_59 rfl ?_
          refine j_iconst (v := nI 1) d_Mo_message_61 (by decide +kernel) ?_
          refine j_isub d_Mo_message_62 ?_
          rw [nI_sub1]
          refine j_goto (t := 68) d_Mo_message_63 (by decide) ?_
          exact j_iret d_Mo_message_68 rfl ⟨rfl, rfl⟩
      · exfalso; first | exact c30 | omega | exact c30 (inr_nI (by decide) hs) | exact c30 (inr_nI (by decide) (show 4 < 6 by decide)) | exact c30 (inr_nI (by omega) hk)
    · exfalso; first | exact c14 | omega | exact c14 (inr_nI (by decide) hs) | exact c14 (inr_nI (by decide) (show 4 < 6 by decide)) | exact c14 (inr_nI (by omega) hk)

set_option maxHeartbeats 4000000 in
set_option maxRecDepth 100000 in
theorem m_message_5 {l : Launch} {D : va_G} {M nx : Nat} {L : Int32} {σ ρ : Sg} {g : Nat → Option va_E} {c : Nat → Nat → Nat} (ic : Pu.Ic c σ) (s : Nat) (hs : s < 2) (k : Nat) (hk : k < σ 20 s 0) : jM (G0 l D) m_Mo_message 1 0 0 [.ref (M + 0), .int (nI s), .int (nI k), .int (nI 5)] (hM D M L σ ρ g, nx) (fun v h => v = some (.int (mI (σ 26 s k))) ∧ h = (hM D M L σ ρ g, nx)) := by
  refine jM.of (by decide +kernel) (Nat.le_of_ble_eq_true rfl) rfl ?_
  have mg := Pu.MG_ok hs ic.1
  have mb := mg.mb hk
  have h918 := mg.1

  refine j_iload_n d_Mo_message_0 rfl ?_
  refine j_iconst (v := nI 2) d_Mo_message_1 (by decide +kernel) ?_
  refine j_callS0 (As := [_, _]) G0_good G0_E d_Mo_message_2 c_Mo_103 rfl rfl rfl (m_out (nI s) 2) (by decide) (Nat.le_of_ble_eq_true rfl) ?_
  rintro _ _ ⟨rfl, rfl⟩
  first | refine c_if_ne (t := 17) d_Mo_message_5 (by decide) (fun c5 => ?_) (fun c5 => ?_) | refine n_if_ne (t := 17) d_Mo_message_5 (by decide) (by omega) (fun c5 => ?_) (fun c5 => ?_) | refine j_if_ne (t := 17) d_Mo_message_5 (by decide) (fun c5 => ?_) (fun c5 => ?_)
  · exfalso; first | exact c5 | omega | exact c5 (inr_nI (by decide) hs) | exact c5 (inr_nI (by decide) (show 5 < 6 by decide)) | exact c5 (inr_nI (by omega) hk)
  · refine j_iload_n d_Mo_message_8 rfl ?_
    refine j_bipush (v := nI 6) d_Mo_message_9 (by decide +kernel) ?_
    refine j_callS0 (As := [_, _]) G0_good G0_E d_Mo_message_11 c_Mo_103 rfl rfl rfl (m_out (nI 5) 6) (by decide) (Nat.le_of_ble_eq_true rfl) ?_
    rintro _ _ ⟨rfl, rfl⟩
    first | refine c_if_eq (t := 20) d_Mo_message_14 (by decide) (fun c14 => ?_) (fun c14 => ?_) | refine n_if_eq (t := 20) d_Mo_message_14 (by decide) (by omega) (fun c14 => ?_) (fun c14 => ?_) | refine j_if_eq (t := 20) d_Mo_message_14 (by decide) (fun c14 => ?_) (fun c14 => ?_)
    · refine j_iload_n d_Mo_message_20 rfl ?_
      first | refine j_aload_n d_Mo_message_21 rfl ?_ | refine j_aload_nq d_Mo_message_21 rfl ?_ | refine j_aload_nN d_Mo_message_21 rfl ?_
      refine j_get d_Mo_message_22 f_Mo_68 (hM_o (by decide)) rfl ?_
      refine j_iload_n d_Mo_message_25 rfl ?_
      refine j_iald (t := 0) d_Mo_message_26 rfl (hM_o (by decide)) rfl (by omega) (by decide) ?_
      refine j_callS0 (As := [_, _]) G0_good G0_E d_Mo_message_27 c_Mo_103 rfl rfl rfl (m_out (nI k) (σ 20 s 0)) (by decide) (Nat.le_of_ble_eq_true rfl) ?_
      rintro _ _ ⟨rfl, rfl⟩
      first | refine c_if_eq (t := 36) d_Mo_message_30 (by decide) (fun c30 => ?_) (fun c30 => ?_) | refine n_if_eq (t := 36) d_Mo_message_30 (by decide) (by omega) (fun c30 => ?_) (fun c30 => ?_) | refine j_if_eq (t := 36) d_Mo_message_30 (by decide) (fun c30 => ?_) (fun c30 => ?_)
      · first | refine j_aload_n d_Mo_message_36 rfl ?_ | refine j_aload_nq d_Mo_message_36 rfl ?_ | refine j_aload_nN d_Mo_message_36 rfl ?_
        refine j_get d_Mo_message_37 f_Mo_71 (hM_o (by decide)) rfl ?_
        refine j_sipush (v := nI 1000) d_Mo_message_40 (by decide +kernel) ?_
        refine j_iload_n d_Mo_message_43 rfl ?_
        refine jn_imul d_Mo_message_44 ?_
        refine j_iload_n d_Mo_message_45 rfl ?_
        refine jn_iadd d_Mo_message_46 ?_
        refine o_lld (t := 2) d_Mo_message_47 rfl (hM_o (by decide)) rfl (by omega) (by omega) ?_
        refine j_iload_n d_Mo_message_48 rfl ?_
        refine j_callS0 (As := [_, _]) G0_good G0_E d_Mo_message_49 c_Mo_137 rfl rfl rfl (m_part5 mb) (by decide) (Nat.le_of_ble_eq_true rfl) ?_
        rintro _ _ ⟨rfl, rfl⟩
        refine j_istore (lc' := [_, _, _, _, _]) d_Mo_message_52 (by decide) rfl rfl ?_
        refine j_iload_n d_Mo_message_54 rfl ?_
        refine j_iconst (v := nI 3) d_Mo_message_55 (by decide +kernel) ?_
        first | refine nn_icmp_le (t := 66) d_Mo_message_56 (by decide) (by omega) (by omega) (fun c56 => ?_) (fun c56 => ?_) | refine mm_icmp_le (t := 66) d_Mo_message_56 (by decide) (by omega) (by omega) (fun c56 => ?_) (fun c56 => ?_) | refine mn_icmp_le (t := 66) d_Mo_message_56 (by decide) (by omega) (by omega) (fun c56 => ?_) (fun c56 => ?_) | refine nm_icmp_le (t := 66) d_Mo_message_56 (by decide) (by omega) (by omega) (fun c56 => ?_) (fun c56 => ?_) | refine j_icmp_le (t := 66) d_Mo_message_56 (by decide) (fun c56 => ?_) (fun c56 => ?_)
        · exfalso; first | exact c56 | omega | exact c56 (inr_nI (by decide) hs) | exact c56 (inr_nI (by decide) (show 5 < 6 by decide)) | exact c56 (inr_nI (by omega) hk)
        · refine j_iload d_Mo_message_59 rfl ?_
          refine j_iconst (v := nI 1) d_Mo_message_61 (by decide +kernel) ?_
          refine j_isub d_Mo_message_62 ?_
          rw [nI_sub1]
          refine j_goto (t := 68) d_Mo_message_63 (by decide) ?_
          exact j_iret d_Mo_message_68 rfl ⟨rfl, rfl⟩
      · exfalso; first | exact c30 | omega | exact c30 (inr_nI (by decide) hs) | exact c30 (inr_nI (by decide) (show 5 < 6 by decide)) | exact c30 (inr_nI (by omega) hk)
    · exfalso; first | exact c14 | omega | exact c14 (inr_nI (by decide) hs) | exact c14 (inr_nI (by decide) (show 5 < 6 by decide)) | exact c14 (inr_nI (by omega) hk)

set_option maxHeartbeats 4000000 in
set_option maxRecDepth 100000 in
theorem m_replica_O1 {l : Launch} {D : va_G} {M nx : Nat} {L : Int32} {σ ρ : Sg} {g : Nat → Option va_E} (x y : Int32) (hx : ¬ inr x 2) (w : Int32) : jM (G0 l D) m_Mo_replica 1 0 0 [.ref (M + 0), .int x, .int y, .int w] (hM D M L σ ρ g, nx) (fun v h => v = some (.int (-2)) ∧ h = (hM D M L σ ρ g, nx)) := by
  refine jM.of (by decide +kernel) (Nat.le_of_ble_eq_true rfl) rfl ?_
  refine j_iload_n d_Mo_replica_0 rfl ?_
  refine j_iconst (v := nI 2) d_Mo_replica_1 (by decide +kernel) ?_
  refine j_callS0 (As := [_, _]) G0_good G0_E d_Mo_replica_2 c_Mo_103 rfl rfl rfl (m_out x 2) (by decide) (Nat.le_of_ble_eq_true rfl) ?_
  rintro _ _ ⟨rfl, rfl⟩
  first | refine c_if_ne (t := 16) d_Mo_replica_5 (by decide) (fun c5 => ?_) (fun c5 => ?_) | refine n_if_ne (t := 16) d_Mo_replica_5 (by decide) (by omega) (fun c5 => ?_) (fun c5 => ?_) | refine j_if_ne (t := 16) d_Mo_replica_5 (by decide) (fun c5 => ?_) (fun c5 => ?_)
  · refine j_bipush (v := (-2)) d_Mo_replica_16 (by decide +kernel) ?_
    exact j_iret d_Mo_replica_18 rfl ⟨rfl, rfl⟩
  · exfalso; first | exact c5 | omega | exact c5 hx

set_option maxHeartbeats 4000000 in
set_option maxRecDepth 100000 in
theorem m_replica_O2 {l : Launch} {D : va_G} {M nx : Nat} {L : Int32} {σ ρ : Sg} {g : Nat → Option va_E} (s : Nat) (hs : s < 2) (y : Int32) (hy : ¬ inr y 4) (w : Int32) : jM (G0 l D) m_Mo_replica 1 0 0 [.ref (M + 0), .int (nI s), .int y, .int w] (hM D M L σ ρ g, nx) (fun v h => v = some (.int (-2)) ∧ h = (hM D M L σ ρ g, nx)) := by
  refine jM.of (by decide +kernel) (Nat.le_of_ble_eq_true rfl) rfl ?_
  refine j_iload_n d_Mo_replica_0 rfl ?_
  refine j_iconst (v := nI 2) d_Mo_replica_1 (by decide +kernel) ?_
  refine j_callS0 (As := [_, _]) G0_good G0_E d_Mo_replica_2 c_Mo_103 rfl rfl rfl (m_out (nI s) 2) (by decide) (Nat.le_of_ble_eq_true rfl) ?_
  rintro _ _ ⟨rfl, rfl⟩
  first | refine c_if_ne (t := 16) d_Mo_replica_5 (by decide) (fun c5 => ?_) (fun c5 => ?_) | refine n_if_ne (t := 16) d_Mo_replica_5 (by decide) (by omega) (fun c5 => ?_) (fun c5 => ?_) | refine j_if_ne (t := 16) d_Mo_replica_5 (by decide) (fun c5 => ?_) (fun c5 => ?_)
  · exfalso; first | exact c5 | omega | exact c5 (inr_nI (by decide) hs) | exact c5 hy
  · refine j_iload_n d_Mo_replica_8 rfl ?_
    refine j_iconst (v := nI 4) d_Mo_replica_9 (by decide +kernel) ?_
    refine j_callS0 (As := [_, _]) G0_good G0_E d_Mo_replica_10 c_Mo_103 rfl rfl rfl (m_out y 4) (by decide) (Nat.le_of_ble_eq_true rfl) ?_
    rintro _ _ ⟨rfl, rfl⟩
    first | refine c_if_eq (t := 19) d_Mo_replica_13 (by decide) (fun c13 => ?_) (fun c13 => ?_) | refine n_if_eq (t := 19) d_Mo_replica_13 (by decide) (by omega) (fun c13 => ?_) (fun c13 => ?_) | refine j_if_eq (t := 19) d_Mo_replica_13 (by decide) (fun c13 => ?_) (fun c13 => ?_)
    · exfalso; first | exact c13 | omega | exact c13 (inr_nI (by decide) hs) | exact c13 hy
    · refine j_bipush (v := (-2)) d_Mo_replica_16 (by decide +kernel) ?_
      exact j_iret d_Mo_replica_18 rfl ⟨rfl, rfl⟩

set_option maxHeartbeats 4000000 in
set_option maxRecDepth 100000 in
theorem m_replica_0 {l : Launch} {D : va_G} {M nx : Nat} {L : Int32} {σ ρ : Sg} {g : Nat → Option va_E} (s i : Nat) (hs : s < 2) (hi : i < 4) : jM (G0 l D) m_Mo_replica 1 0 0 [.ref (M + 0), .int (nI s), .int (nI i), .int (nI 0)] (hM D M L σ ρ g, nx) (fun v h => v = some (.int (nI (σ 10 (4 * s + i) 0))) ∧ h = (hM D M L σ ρ g, nx)) := by
  refine jM.of (by decide +kernel) (Nat.le_of_ble_eq_true rfl) rfl ?_
  refine j_iload_n d_Mo_replica_0 rfl ?_
  refine j_iconst (v := nI 2) d_Mo_replica_1 (by decide +kernel) ?_
  refine j_callS0 (As := [_, _]) G0_good G0_E d_Mo_replica_2 c_Mo_103 rfl rfl rfl (m_out (nI s) 2) (by decide) (Nat.le_of_ble_eq_true rfl) ?_
  rintro _ _ ⟨rfl, rfl⟩
  first | refine c_if_ne (t := 16) d_Mo_replica_5 (by decide) (fun c5 => ?_) (fun c5 => ?_) | refine n_if_ne (t := 16) d_Mo_replica_5 (by decide) (by omega) (fun c5 => ?_) (fun c5 => ?_) | refine j_if_ne (t := 16) d_Mo_replica_5 (by decide) (fun c5 => ?_) (fun c5 => ?_)
  · exfalso; first | exact c5 | omega | exact c5 (inr_nI (by decide) hs) | exact c5 (inr_nI (by decide) hi)
  · refine j_iload_n d_Mo_replica_8 rfl ?_
    refine j_iconst (v := nI 4) d_Mo_replica_9 (by decide +kernel) ?_
    refine j_callS0 (As := [_, _]) G0_good G0_E d_Mo_replica_10 c_Mo_103 rfl rfl rfl (m_out (nI i) 4) (by decide) (Nat.le_of_ble_eq_true rfl) ?_
    rintro _ _ ⟨rfl, rfl⟩
    first | refine c_if_eq (t := 19) d_Mo_replica_13 (by decide) (fun c13 => ?_) (fun c13 => ?_) | refine n_if_eq (t := 19) d_Mo_replica_13 (by decide) (by omega) (fun c13 => ?_) (fun c13 => ?_) | refine j_if_eq (t := 19) d_Mo_replica_13 (by decide) (fun c13 => ?_) (fun c13 => ?_)
    · refine j_iconst (v := nI 4) d_Mo_replica_19 (by decide +kernel) ?_
      refine j_iload_n d_Mo_replica_20 rfl ?_
      refine jn_imul d_Mo_replica_21 ?_
      refine j_iload_n d_Mo_replica_22 rfl ?_
      refine jn_iadd d_Mo_replica_23 ?_
      refine j_istore (lc' := [_, _, _, _, _]) d_Mo_replica_24 (by decide) rfl rfl ?_
      refine j_iload_n d_Mo_replica_26 rfl ?_
      refine j_tableIn (t := 68) (o := 41) d_Mo_replica_27 (by decide +kernel) (by decide +kernel) (by decide +kernel) (by decide) ?_
      first | refine j_aload_n d_Mo_replica_68 rfl ?_ | refine j_aload_nq d_Mo_replica_68 rfl ?_ | refine j_aload_nN d_Mo_replica_68 rfl ?_
      refine j_get d_Mo_replica_69 f_Mo_37 (hM_o (by decide)) rfl ?_
      refine j_iload d_Mo_replica_72 rfl ?_
      refine j_iald (t := 0) d_Mo_replica_74 rfl (hM_o (by decide)) rfl (by omega) (by decide) ?_
      exact j_iret d_Mo_replica_75 rfl ⟨rfl, rfl⟩
    · exfalso; first | exact c13 | omega | exact c13 (inr_nI (by decide) hs) | exact c13 (inr_nI (by decide) hi)

set_option maxHeartbeats 4000000 in
set_option maxRecDepth 100000 in
theorem m_replica_1 {l : Launch} {D : va_G} {M nx : Nat} {L : Int32} {σ ρ : Sg} {g : Nat → Option va_E} (s i : Nat) (hs : s < 2) (hi : i < 4) : jM (G0 l D) m_Mo_replica 1 0 0 [.ref (M + 0), .int (nI s), .int (nI i), .int (nI 1)] (hM D M L σ ρ g, nx) (fun v h => v = some (.int (nI (σ 11 (4 * s + i) 0))) ∧ h = (hM D M L σ ρ g, nx)) := by
  refine jM.of (by decide +kernel) (Nat.le_of_ble_eq_true rfl) rfl ?_
  refine j_iload_n d_Mo_replica_0 rfl ?_
  refine j_iconst (v := nI 2) d_Mo_replica_1 (by decide +kernel) ?_
  refine j_callS0 (As := [_, _]) G0_good G0_E d_Mo_replica_2 c_Mo_103 rfl rfl rfl (m_out (nI s) 2) (by decide) (Nat.le_of_ble_eq_true rfl) ?_
  rintro _ _ ⟨rfl, rfl⟩
  first | refine c_if_ne (t := 16) d_Mo_replica_5 (by decide) (fun c5 => ?_) (fun c5 => ?_) | refine n_if_ne (t := 16) d_Mo_replica_5 (by decide) (by omega) (fun c5 => ?_) (fun c5 => ?_) | refine j_if_ne (t := 16) d_Mo_replica_5 (by decide) (fun c5 => ?_) (fun c5 => ?_)
  · exfalso; first | exact c5 | omega | exact c5 (inr_nI (by decide) hs) | exact c5 (inr_nI (by decide) hi)
  · refine j_iload_n d_Mo_replica_8 rfl ?_
    refine j_iconst (v := nI 4) d_Mo_replica_9 (by decide +kernel) ?_
    refine j_callS0 (As := [_, _]) G0_good G0_E d_Mo_replica_10 c_Mo_103 rfl rfl rfl (m_out (nI i) 4) (by decide) (Nat.le_of_ble_eq_true rfl) ?_
    rintro _ _ ⟨rfl, rfl⟩
    first | refine c_if_eq (t := 19) d_Mo_replica_13 (by decide) (fun c13 => ?_) (fun c13 => ?_) | refine n_if_eq (t := 19) d_Mo_replica_13 (by decide) (by omega) (fun c13 => ?_) (fun c13 => ?_) | refine j_if_eq (t := 19) d_Mo_replica_13 (by decide) (fun c13 => ?_) (fun c13 => ?_)
    · refine j_iconst (v := nI 4) d_Mo_replica_19 (by decide +kernel) ?_
      refine j_iload_n d_Mo_replica_20 rfl ?_
      refine jn_imul d_Mo_replica_21 ?_
      refine j_iload_n d_Mo_replica_22 rfl ?_
      refine jn_iadd d_Mo_replica_23 ?_
      refine j_istore (lc' := [_, _, _, _, _]) d_Mo_replica_24 (by decide) rfl rfl ?_
      refine j_iload_n d_Mo_replica_26 rfl ?_
      refine j_tableIn (t := 76) (o := 49) d_Mo_replica_27 (by decide +kernel) (by decide +kernel) (by decide +kernel) (by decide) ?_
      first | refine j_aload_n d_Mo_replica_76 rfl ?_ | refine j_aload_nq d_Mo_replica_76 rfl ?_ | refine j_aload_nN d_Mo_replica_76 rfl ?_
      refine j_get d_Mo_replica_77 f_Mo_40 (hM_o (by decide)) rfl ?_
      refine j_iload d_Mo_replica_80 rfl ?_
      refine j_iald (t := 0) d_Mo_replica_82 rfl (hM_o (by decide)) rfl (by omega) (by decide) ?_
      exact j_iret d_Mo_replica_83 rfl ⟨rfl, rfl⟩
    · exfalso; first | exact c13 | omega | exact c13 (inr_nI (by decide) hs) | exact c13 (inr_nI (by decide) hi)

set_option maxHeartbeats 4000000 in
set_option maxRecDepth 100000 in
theorem m_replica_2 {l : Launch} {D : va_G} {M nx : Nat} {L : Int32} {σ ρ : Sg} {g : Nat → Option va_E} (s i : Nat) (hs : s < 2) (hi : i < 4) : jM (G0 l D) m_Mo_replica 1 0 0 [.ref (M + 0), .int (nI s), .int (nI i), .int (nI 2)] (hM D M L σ ρ g, nx) (fun v h => v = some (.int (nI (σ 12 (4 * s + i) 0))) ∧ h = (hM D M L σ ρ g, nx)) := by
  refine jM.of (by decide +kernel) (Nat.le_of_ble_eq_true rfl) rfl ?_
  refine j_iload_n d_Mo_replica_0 rfl ?_
  refine j_iconst (v := nI 2) d_Mo_replica_1 (by decide +kernel) ?_
  refine j_callS0 (As := [_, _]) G0_good G0_E d_Mo_replica_2 c_Mo_103 rfl rfl rfl (m_out (nI s) 2) (by decide) (Nat.le_of_ble_eq_true rfl) ?_
  rintro _ _ ⟨rfl, rfl⟩
  first | refine c_if_ne (t := 16) d_Mo_replica_5 (by decide) (fun c5 => ?_) (fun c5 => ?_) | refine n_if_ne (t := 16) d_Mo_replica_5 (by decide) (by omega) (fun c5 => ?_) (fun c5 => ?_) | refine j_if_ne (t := 16) d_Mo_replica_5 (by decide) (fun c5 => ?_) (fun c5 => ?_)
  · exfalso; first | exact c5 | omega | exact c5 (inr_nI (by decide) hs) | exact c5 (inr_nI (by decide) hi)
  · refine j_iload_n d_Mo_replica_8 rfl ?_
    refine j_iconst (v := nI 4) d_Mo_replica_9 (by decide +kernel) ?_
    refine j_callS0 (As := [_, _]) G0_good G0_E d_Mo_replica_10 c_Mo_103 rfl rfl rfl (m_out (nI i) 4) (by decide) (Nat.le_of_ble_eq_true rfl) ?_
    rintro _ _ ⟨rfl, rfl⟩
    first | refine c_if_eq (t := 19) d_Mo_replica_13 (by decide) (fun c13 => ?_) (fun c13 => ?_) | refine n_if_eq (t := 19) d_Mo_replica_13 (by decide) (by omega) (fun c13 => ?_) (fun c13 => ?_) | refine j_if_eq (t := 19) d_Mo_replica_13 (by decide) (fun c13 => ?_) (fun c13 => ?_)
    · refine j_iconst (v := nI 4) d_Mo_replica_19 (by decide +kernel) ?_
      refine j_iload_n d_Mo_replica_20 rfl ?_
      refine jn_imul d_Mo_replica_21 ?_
      refine j_iload_n d_Mo_replica_22 rfl ?_
      refine jn_iadd d_Mo_replica_23 ?_
      refine j_istore (lc' := [_, _, _, _, _]) d_Mo_replica_24 (by decide) rfl rfl ?_
      refine j_iload_n d_Mo_replica_26 rfl ?_
      refine j_tableIn (t := 84) (o := 57) d_Mo_replica_27 (by decide +kernel) (by decide +kernel) (by decide +kernel) (by decide) ?_
      first | refine j_aload_n d_Mo_replica_84 rfl ?_ | refine j_aload_nq d_Mo_replica_84 rfl ?_ | refine j_aload_nN d_Mo_replica_84 rfl ?_
      refine j_get d_Mo_replica_85 f_Mo_43 (hM_o (by decide)) rfl ?_
      refine j_iload d_Mo_replica_88 rfl ?_
      refine j_iald (t := 0) d_Mo_replica_90 rfl (hM_o (by decide)) rfl (by omega) (by decide) ?_
      exact j_iret d_Mo_replica_91 rfl ⟨rfl, rfl⟩
    · exfalso; first | exact c13 | omega | exact c13 (inr_nI (by decide) hs) | exact c13 (inr_nI (by decide) hi)

set_option maxHeartbeats 4000000 in
set_option maxRecDepth 100000 in
theorem m_replica_3 {l : Launch} {D : va_G} {M nx : Nat} {L : Int32} {σ ρ : Sg} {g : Nat → Option va_E} (s i : Nat) (hs : s < 2) (hi : i < 4) : jM (G0 l D) m_Mo_replica 1 0 0 [.ref (M + 0), .int (nI s), .int (nI i), .int (nI 3)] (hM D M L σ ρ g, nx) (fun v h => v = some (.int (mI (σ 13 (4 * s + i) 0))) ∧ h = (hM D M L σ ρ g, nx)) := by
  refine jM.of (by decide +kernel) (Nat.le_of_ble_eq_true rfl) rfl ?_
  refine j_iload_n d_Mo_replica_0 rfl ?_
  refine j_iconst (v := nI 2) d_Mo_replica_1 (by decide +kernel) ?_
  refine j_callS0 (As := [_, _]) G0_good G0_E d_Mo_replica_2 c_Mo_103 rfl rfl rfl (m_out (nI s) 2) (by decide) (Nat.le_of_ble_eq_true rfl) ?_
  rintro _ _ ⟨rfl, rfl⟩
  first | refine c_if_ne (t := 16) d_Mo_replica_5 (by decide) (fun c5 => ?_) (fun c5 => ?_) | refine n_if_ne (t := 16) d_Mo_replica_5 (by decide) (by omega) (fun c5 => ?_) (fun c5 => ?_) | refine j_if_ne (t := 16) d_Mo_replica_5 (by decide) (fun c5 => ?_) (fun c5 => ?_)
  · exfalso; first | exact c5 | omega | exact c5 (inr_nI (by decide) hs) | exact c5 (inr_nI (by decide) hi)
  · refine j_iload_n d_Mo_replica_8 rfl ?_
    refine j_iconst (v := nI 4) d_Mo_replica_9 (by decide +kernel) ?_
    refine j_callS0 (As := [_, _]) G0_good G0_E d_Mo_replica_10 c_Mo_103 rfl rfl rfl (m_out (nI i) 4) (by decide) (Nat.le_of_ble_eq_true rfl) ?_
    rintro _ _ ⟨rfl, rfl⟩
    first | refine c_if_eq (t := 19) d_Mo_replica_13 (by decide) (fun c13 => ?_) (fun c13 => ?_) | refine n_if_eq (t := 19) d_Mo_replica_13 (by decide) (by omega) (fun c13 => ?_) (fun c13 => ?_) | refine j_if_eq (t := 19) d_Mo_replica_13 (by decide) (fun c13 => ?_) (fun c13 => ?_)
    · refine j_iconst (v := nI 4) d_Mo_replica_19 (by decide +kernel) ?_
      refine j_iload_n d_Mo_replica_20 rfl ?_
      refine jn_imul d_Mo_replica_21 ?_
      refine j_iload_n d_Mo_replica_22 rfl ?_
      refine jn_iadd d_Mo_replica_23 ?_
      refine j_istore (lc' := [_, _, _, _, _]) d_Mo_replica_24 (by decide) rfl rfl ?_
      refine j_iload_n d_Mo_replica_26 rfl ?_
      refine j_tableIn (t := 92) (o := 65) d_Mo_replica_27 (by decide +kernel) (by decide +kernel) (by decide +kernel) (by decide) ?_
      first | refine j_aload_n d_Mo_replica_92 rfl ?_ | refine j_aload_nq d_Mo_replica_92 rfl ?_ | refine j_aload_nN d_Mo_replica_92 rfl ?_
      refine j_get d_Mo_replica_93 f_Mo_46 (hM_o (by decide)) rfl ?_
      refine j_iload d_Mo_replica_96 rfl ?_
      refine j_iald (t := 0) d_Mo_replica_98 rfl (hM_o (by decide)) rfl (by omega) (by decide) ?_
      exact j_iret d_Mo_replica_99 rfl ⟨rfl, rfl⟩
    · exfalso; first | exact c13 | omega | exact c13 (inr_nI (by decide) hs) | exact c13 (inr_nI (by decide) hi)

set_option maxHeartbeats 4000000 in
set_option maxRecDepth 100000 in
theorem m_replica_4 {l : Launch} {D : va_G} {M nx : Nat} {L : Int32} {σ ρ : Sg} {g : Nat → Option va_E} (s i : Nat) (hs : s < 2) (hi : i < 4) : jM (G0 l D) m_Mo_replica 1 0 0 [.ref (M + 0), .int (nI s), .int (nI i), .int (nI 4)] (hM D M L σ ρ g, nx) (fun v h => v = some (.int (mI (σ 14 (4 * s + i) 0))) ∧ h = (hM D M L σ ρ g, nx)) := by
  refine jM.of (by decide +kernel) (Nat.le_of_ble_eq_true rfl) rfl ?_
  refine j_iload_n d_Mo_replica_0 rfl ?_
  refine j_iconst (v := nI 2) d_Mo_replica_1 (by decide +kernel) ?_
  refine j_callS0 (As := [_, _]) G0_good G0_E d_Mo_replica_2 c_Mo_103 rfl rfl rfl (m_out (nI s) 2) (by decide) (Nat.le_of_ble_eq_true rfl) ?_
  rintro _ _ ⟨rfl, rfl⟩
  first | refine c_if_ne (t := 16) d_Mo_replica_5 (by decide) (fun c5 => ?_) (fun c5 => ?_) | refine n_if_ne (t := 16) d_Mo_replica_5 (by decide) (by omega) (fun c5 => ?_) (fun c5 => ?_) | refine j_if_ne (t := 16) d_Mo_replica_5 (by decide) (fun c5 => ?_) (fun c5 => ?_)
  · exfalso; first | exact c5 | omega | exact c5 (inr_nI (by decide) hs) | exact c5 (inr_nI (by decide) hi)
  · refine j_iload_n d_Mo_replica_8 rfl ?_
    refine j_iconst (v := nI 4) d_Mo_replica_9 (by decide +kernel) ?_
    refine j_callS0 (As := [_, _]) G0_good G0_E d_Mo_replica_10 c_Mo_103 rfl rfl rfl (m_out (nI i) 4) (by decide) (Nat.le_of_ble_eq_true rfl) ?_
    rintro _ _ ⟨rfl, rfl⟩
    first | refine c_if_eq (t := 19) d_Mo_replica_13 (by decide) (fun c13 => ?_) (fun c13 => ?_) | refine n_if_eq (t := 19) d_Mo_replica_13 (by decide) (by omega) (fun c13 => ?_) (fun c13 => ?_) | refine j_if_eq (t := 19) d_Mo_replica_13 (by decide) (fun c13 => ?_) (fun c13 => ?_)
    · refine j_iconst (v := nI 4) d_Mo_replica_19 (by decide +kernel) ?_
      refine j_iload_n d_Mo_replica_20 rfl ?_
      refine jn_imul d_Mo_replica_21 ?_
      refine j_iload_n d_Mo_replica_22 rfl ?_
      refine jn_iadd d_Mo_replica_23 ?_
      refine j_istore (lc' := [_, _, _, _, _]) d_Mo_replica_24 (by decide) rfl rfl ?_
      refine j_iload_n d_Mo_replica_26 rfl ?_
      refine j_tableIn (t := 100) (o := 73) d_Mo_replica_27 (by decide +kernel) (by decide +kernel) (by decide +kernel) (by decide) ?_
      first | refine j_aload_n d_Mo_replica_100 rfl ?_ | refine j_aload_nq d_Mo_replica_100 rfl ?_ | refine j_aload_nN d_Mo_replica_100 rfl ?_
      refine j_get d_Mo_replica_101 f_Mo_49 (hM_o (by decide)) rfl ?_
      refine j_iload d_Mo_replica_104 rfl ?_
      refine j_iald (t := 0) d_Mo_replica_106 rfl (hM_o (by decide)) rfl (by omega) (by decide) ?_
      exact j_iret d_Mo_replica_107 rfl ⟨rfl, rfl⟩
    · exfalso; first | exact c13 | omega | exact c13 (inr_nI (by decide) hs) | exact c13 (inr_nI (by decide) hi)

set_option maxHeartbeats 4000000 in
set_option maxRecDepth 100000 in
theorem m_replica_5 {l : Launch} {D : va_G} {M nx : Nat} {L : Int32} {σ ρ : Sg} {g : Nat → Option va_E} (s i : Nat) (hs : s < 2) (hi : i < 4) : jM (G0 l D) m_Mo_replica 1 0 0 [.ref (M + 0), .int (nI s), .int (nI i), .int (nI 5)] (hM D M L σ ρ g, nx) (fun v h => v = some (.int (mI (σ 15 (4 * s + i) 0))) ∧ h = (hM D M L σ ρ g, nx)) := by
  refine jM.of (by decide +kernel) (Nat.le_of_ble_eq_true rfl) rfl ?_
  refine j_iload_n d_Mo_replica_0 rfl ?_
  refine j_iconst (v := nI 2) d_Mo_replica_1 (by decide +kernel) ?_
  refine j_callS0 (As := [_, _]) G0_good G0_E d_Mo_replica_2 c_Mo_103 rfl rfl rfl (m_out (nI s) 2) (by decide) (Nat.le_of_ble_eq_true rfl) ?_
  rintro _ _ ⟨rfl, rfl⟩
  first | refine c_if_ne (t := 16) d_Mo_replica_5 (by decide) (fun c5 => ?_) (fun c5 => ?_) | refine n_if_ne (t := 16) d_Mo_replica_5 (by decide) (by omega) (fun c5 => ?_) (fun c5 => ?_) | refine j_if_ne (t := 16) d_Mo_replica_5 (by decide) (fun c5 => ?_) (fun c5 => ?_)
  · exfalso; first | exact c5 | omega | exact c5 (inr_nI (by decide) hs) | exact c5 (inr_nI (by decide) hi)
  · refine j_iload_n d_Mo_replica_8 rfl ?_
    refine j_iconst (v := nI 4) d_Mo_replica_9 (by decide +kernel) ?_
    refine j_callS0 (As := [_, _]) G0_good G0_E d_Mo_replica_10 c_Mo_103 rfl rfl rfl (m_out (nI i) 4) (by decide) (Nat.le_of_ble_eq_true rfl) ?_
    rintro _ _ ⟨rfl, rfl⟩
    first | refine c_if_eq (t := 19) d_Mo_replica_13 (by decide) (fun c13 => ?_) (fun c13 => ?_) | refine n_if_eq (t := 19) d_Mo_replica_13 (by decide) (by omega) (fun c13 => ?_) (fun c13 => ?_) | refine j_if_eq (t := 19) d_Mo_replica_13 (by decide) (fun c13 => ?_) (fun c13 => ?_)
    · refine j_iconst (v := nI 4) d_Mo_replica_19 (by decide +kernel) ?_
      refine j_iload_n d_Mo_replica_20 rfl ?_
      refine jn_imul d_Mo_replica_21 ?_
      refine j_iload_n d_Mo_replica_22 rfl ?_
      refine jn_iadd d_Mo_replica_23 ?_
      refine j_istore (lc' := [_, _, _, _, _]) d_Mo_replica_24 (by decide) rfl rfl ?_
      refine j_iload_n d_Mo_replica_26 rfl ?_
      refine j_tableIn (t := 108) (o := 81) d_Mo_replica_27 (by decide +kernel) (by decide +kernel) (by decide +kernel) (by decide) ?_
      first | refine j_aload_n d_Mo_replica_108 rfl ?_ | refine j_aload_nq d_Mo_replica_108 rfl ?_ | refine j_aload_nN d_Mo_replica_108 rfl ?_
      refine j_get d_Mo_replica_109 f_Mo_52 (hM_o (by decide)) rfl ?_
      refine j_iload d_Mo_replica_112 rfl ?_
      refine j_iald (t := 0) d_Mo_replica_114 rfl (hM_o (by decide)) rfl (by omega) (by decide) ?_
      exact j_iret d_Mo_replica_115 rfl ⟨rfl, rfl⟩
    · exfalso; first | exact c13 | omega | exact c13 (inr_nI (by decide) hs) | exact c13 (inr_nI (by decide) hi)

set_option maxHeartbeats 4000000 in
set_option maxRecDepth 100000 in
theorem m_replica_6 {l : Launch} {D : va_G} {M nx : Nat} {L : Int32} {σ ρ : Sg} {g : Nat → Option va_E} (s i : Nat) (hs : s < 2) (hi : i < 4) : jM (G0 l D) m_Mo_replica 1 0 0 [.ref (M + 0), .int (nI s), .int (nI i), .int (nI 6)] (hM D M L σ ρ g, nx) (fun v h => v = some (.int (mI (σ 16 (4 * s + i) 0))) ∧ h = (hM D M L σ ρ g, nx)) := by
  refine jM.of (by decide +kernel) (Nat.le_of_ble_eq_true rfl) rfl ?_
  refine j_iload_n d_Mo_replica_0 rfl ?_
  refine j_iconst (v := nI 2) d_Mo_replica_1 (by decide +kernel) ?_
  refine j_callS0 (As := [_, _]) G0_good G0_E d_Mo_replica_2 c_Mo_103 rfl rfl rfl (m_out (nI s) 2) (by decide) (Nat.le_of_ble_eq_true rfl) ?_
  rintro _ _ ⟨rfl, rfl⟩
  first | refine c_if_ne (t := 16) d_Mo_replica_5 (by decide) (fun c5 => ?_) (fun c5 => ?_) | refine n_if_ne (t := 16) d_Mo_replica_5 (by decide) (by omega) (fun c5 => ?_) (fun c5 => ?_) | refine j_if_ne (t := 16) d_Mo_replica_5 (by decide) (fun c5 => ?_) (fun c5 => ?_)
  · exfalso; first | exact c5 | omega | exact c5 (inr_nI (by decide) hs) | exact c5 (inr_nI (by decide) hi)
  · refine j_iload_n d_Mo_replica_8 rfl ?_
    refine j_iconst (v := nI 4) d_Mo_replica_9 (by decide +kernel) ?_
    refine j_callS0 (As := [_, _]) G0_good G0_E d_Mo_replica_10 c_Mo_103 rfl rfl rfl (m_out (nI i) 4) (by decide) (Nat.le_of_ble_eq_true rfl) ?_
    rintro _ _ ⟨rfl, rfl⟩
    first | refine c_if_eq (t := 19) d_Mo_replica_13 (by decide) (fun c13 => ?_) (fun c13 => ?_) | refine n_if_eq (t := 19) d_Mo_replica_13 (by decide) (by omega) (fun c13 => ?_) (fun c13 => ?_) | refine j_if_eq (t := 19) d_Mo_replica_13 (by decide) (fun c13 => ?_) (fun c13 => ?_)
    · refine j_iconst (v := nI 4) d_Mo_replica_19 (by decide +kernel) ?_
      refine j_iload_n d_Mo_replica_20 rfl ?_
      refine jn_imul d_Mo_replica_21 ?_
      refine j_iload_n d_Mo_replica_22 rfl ?_
      refine jn_iadd d_Mo_replica_23 ?_
      refine j_istore (lc' := [_, _, _, _, _]) d_Mo_replica_24 (by decide) rfl rfl ?_
      refine j_iload_n d_Mo_replica_26 rfl ?_
      refine j_tableIn (t := 116) (o := 89) d_Mo_replica_27 (by decide +kernel) (by decide +kernel) (by decide +kernel) (by decide) ?_
      first | refine j_aload_n d_Mo_replica_116 rfl ?_ | refine j_aload_nq d_Mo_replica_116 rfl ?_ | refine j_aload_nN d_Mo_replica_116 rfl ?_
      refine j_get d_Mo_replica_117 f_Mo_55 (hM_o (by decide)) rfl ?_
      refine j_iload d_Mo_replica_120 rfl ?_
      refine j_iald (t := 0) d_Mo_replica_122 rfl (hM_o (by decide)) rfl (by omega) (by decide) ?_
      exact j_iret d_Mo_replica_123 rfl ⟨rfl, rfl⟩
    · exfalso; first | exact c13 | omega | exact c13 (inr_nI (by decide) hs) | exact c13 (inr_nI (by decide) hi)

set_option maxHeartbeats 4000000 in
set_option maxRecDepth 100000 in
theorem m_replica_O {l : Launch} {D : va_G} {M nx : Nat} {L : Int32} {σ ρ : Sg} {g : Nat → Option va_E} (s i : Nat) (hs : s < 2) (hi : i < 4) (w : Int32) (hout : w.toInt < 0 ∨ 6 < w.toInt) : jM (G0 l D) m_Mo_replica 1 0 0 [.ref (M + 0), .int (nI s), .int (nI i), .int w] (hM D M L σ ρ g, nx) (fun v h => v = some (.int (-2)) ∧ h = (hM D M L σ ρ g, nx)) := by
  refine jM.of (by decide +kernel) (Nat.le_of_ble_eq_true rfl) rfl ?_
  refine j_iload_n d_Mo_replica_0 rfl ?_
  refine j_iconst (v := nI 2) d_Mo_replica_1 (by decide +kernel) ?_
  refine j_callS0 (As := [_, _]) G0_good G0_E d_Mo_replica_2 c_Mo_103 rfl rfl rfl (m_out (nI s) 2) (by decide) (Nat.le_of_ble_eq_true rfl) ?_
  rintro _ _ ⟨rfl, rfl⟩
  first | refine c_if_ne (t := 16) d_Mo_replica_5 (by decide) (fun c5 => ?_) (fun c5 => ?_) | refine n_if_ne (t := 16) d_Mo_replica_5 (by decide) (by omega) (fun c5 => ?_) (fun c5 => ?_) | refine j_if_ne (t := 16) d_Mo_replica_5 (by decide) (fun c5 => ?_) (fun c5 => ?_)
  · exfalso; first | exact c5 | omega | exact c5 (inr_nI (by decide) hs) | exact c5 (inr_nI (by decide) hi)
  · refine j_iload_n d_Mo_replica_8 rfl ?_
    refine j_iconst (v := nI 4) d_Mo_replica_9 (by decide +kernel) ?_
    refine j_callS0 (As := [_, _]) G0_good G0_E d_Mo_replica_10 c_Mo_103 rfl rfl rfl (m_out (nI i) 4) (by decide) (Nat.le_of_ble_eq_true rfl) ?_
    rintro _ _ ⟨rfl, rfl⟩
    first | refine c_if_eq (t := 19) d_Mo_replica_13 (by decide) (fun c13 => ?_) (fun c13 => ?_) | refine n_if_eq (t := 19) d_Mo_replica_13 (by decide) (by omega) (fun c13 => ?_) (fun c13 => ?_) | refine j_if_eq (t := 19) d_Mo_replica_13 (by decide) (fun c13 => ?_) (fun c13 => ?_)
    · refine j_iconst (v := nI 4) d_Mo_replica_19 (by decide +kernel) ?_
      refine j_iload_n d_Mo_replica_20 rfl ?_
      refine jn_imul d_Mo_replica_21 ?_
      refine j_iload_n d_Mo_replica_22 rfl ?_
      refine jn_iadd d_Mo_replica_23 ?_
      refine j_istore (lc' := [_, _, _, _, _]) d_Mo_replica_24 (by decide) rfl rfl ?_
      refine j_iload_n d_Mo_replica_26 rfl ?_
      refine j_tableOut (t := 124) d_Mo_replica_27 hout (by decide) ?_
      refine j_bipush (v := (-2)) d_Mo_replica_124 (by decide +kernel) ?_
      exact j_iret d_Mo_replica_126 rfl ⟨rfl, rfl⟩
    · exfalso; first | exact c13 | omega | exact c13 (inr_nI (by decide) hs) | exact c13 (inr_nI (by decide) hi)

set_option maxHeartbeats 4000000 in
set_option maxRecDepth 100000 in
theorem m_executed_O1 {l : Launch} {D : va_G} {M nx : Nat} {L : Int32} {σ ρ : Sg} {g : Nat → Option va_E} (x y : Int32) (hx : ¬ inr x 2) (w : Int32) : jM (G0 l D) m_Mo_executed 1 0 0 [.ref (M + 0), .int x, .int y, .int w] (hM D M L σ ρ g, nx) (fun v h => v = some (.int (mI 0)) ∧ h = (hM D M L σ ρ g, nx)) := by
  refine jM.of (by decide +kernel) (Nat.le_of_ble_eq_true rfl) rfl ?_
  refine j_iload_n d_Mo_executed_0 rfl ?_
  refine j_iconst (v := nI 2) d_Mo_executed_1 (by decide +kernel) ?_
  refine j_callS0 (As := [_, _]) G0_good G0_E d_Mo_executed_2 c_Mo_103 rfl rfl rfl (m_out x 2) (by decide) (Nat.le_of_ble_eq_true rfl) ?_
  rintro _ _ ⟨rfl, rfl⟩
  first | refine c_if_ne (t := 16) d_Mo_executed_5 (by decide) (fun c5 => ?_) (fun c5 => ?_) | refine n_if_ne (t := 16) d_Mo_executed_5 (by decide) (by omega) (fun c5 => ?_) (fun c5 => ?_) | refine j_if_ne (t := 16) d_Mo_executed_5 (by decide) (fun c5 => ?_) (fun c5 => ?_)
  · refine j_iconst (v := mI 0) d_Mo_executed_16 (by decide +kernel) ?_
    exact j_iret d_Mo_executed_17 rfl ⟨rfl, rfl⟩
  · exfalso; first | exact c5 | omega | exact c5 hx

set_option maxHeartbeats 4000000 in
set_option maxRecDepth 100000 in
theorem m_executed_O2 {l : Launch} {D : va_G} {M nx : Nat} {L : Int32} {σ ρ : Sg} {g : Nat → Option va_E} (s : Nat) (hs : s < 2) (y : Int32) (hy : ¬ inr y 4) (w : Int32) : jM (G0 l D) m_Mo_executed 1 0 0 [.ref (M + 0), .int (nI s), .int y, .int w] (hM D M L σ ρ g, nx) (fun v h => v = some (.int (mI 0)) ∧ h = (hM D M L σ ρ g, nx)) := by
  refine jM.of (by decide +kernel) (Nat.le_of_ble_eq_true rfl) rfl ?_
  refine j_iload_n d_Mo_executed_0 rfl ?_
  refine j_iconst (v := nI 2) d_Mo_executed_1 (by decide +kernel) ?_
  refine j_callS0 (As := [_, _]) G0_good G0_E d_Mo_executed_2 c_Mo_103 rfl rfl rfl (m_out (nI s) 2) (by decide) (Nat.le_of_ble_eq_true rfl) ?_
  rintro _ _ ⟨rfl, rfl⟩
  first | refine c_if_ne (t := 16) d_Mo_executed_5 (by decide) (fun c5 => ?_) (fun c5 => ?_) | refine n_if_ne (t := 16) d_Mo_executed_5 (by decide) (by omega) (fun c5 => ?_) (fun c5 => ?_) | refine j_if_ne (t := 16) d_Mo_executed_5 (by decide) (fun c5 => ?_) (fun c5 => ?_)
  · exfalso; first | exact c5 | omega | exact c5 (inr_nI (by decide) hs) | exact c5 hy
  · refine j_iload_n d_Mo_executed_8 rfl ?_
    refine j_iconst (v := nI 4) d_Mo_executed_9 (by decide +kernel) ?_
    refine j_callS0 (As := [_, _]) G0_good G0_E d_Mo_executed_10 c_Mo_103 rfl rfl rfl (m_out y 4) (by decide) (Nat.le_of_ble_eq_true rfl) ?_
    rintro _ _ ⟨rfl, rfl⟩
    first | refine c_if_eq (t := 18) d_Mo_executed_13 (by decide) (fun c13 => ?_) (fun c13 => ?_) | refine n_if_eq (t := 18) d_Mo_executed_13 (by decide) (by omega) (fun c13 => ?_) (fun c13 => ?_) | refine j_if_eq (t := 18) d_Mo_executed_13 (by decide) (fun c13 => ?_) (fun c13 => ?_)
    · exfalso; first | exact c13 | omega | exact c13 (inr_nI (by decide) hs) | exact c13 hy
    · refine j_iconst (v := mI 0) d_Mo_executed_16 (by decide +kernel) ?_
      exact j_iret d_Mo_executed_17 rfl ⟨rfl, rfl⟩

set_option maxHeartbeats 4000000 in
set_option maxRecDepth 100000 in
theorem m_executed_i {l : Launch} {D : va_G} {M nx : Nat} {L : Int32} {σ ρ : Sg} {g : Nat → Option va_E} (s i : Nat) (hs : s < 2) (hi : i < 4) (hb : bd σ) (h16 : σ 10 (4 * s + i) 0 ≤ 16) (k : Nat) (hk : k < σ 10 (4 * s + i) 0) : jM (G0 l D) m_Mo_executed 1 0 0 [.ref (M + 0), .int (nI s), .int (nI i), .int (nI k)] (hM D M L σ ρ g, nx) (fun v h => v = some (.int (nI (σ 18 (4 * s + i) k))) ∧ h = (hM D M L σ ρ g, nx)) := by
  refine jM.of (by decide +kernel) (Nat.le_of_ble_eq_true rfl) rfl ?_
  refine j_iload_n d_Mo_executed_0 rfl ?_
  refine j_iconst (v := nI 2) d_Mo_executed_1 (by decide +kernel) ?_
  refine j_callS0 (As := [_, _]) G0_good G0_E d_Mo_executed_2 c_Mo_103 rfl rfl rfl (m_out (nI s) 2) (by decide) (Nat.le_of_ble_eq_true rfl) ?_
  rintro _ _ ⟨rfl, rfl⟩
  first | refine c_if_ne (t := 16) d_Mo_executed_5 (by decide) (fun c5 => ?_) (fun c5 => ?_) | refine n_if_ne (t := 16) d_Mo_executed_5 (by decide) (by omega) (fun c5 => ?_) (fun c5 => ?_) | refine j_if_ne (t := 16) d_Mo_executed_5 (by decide) (fun c5 => ?_) (fun c5 => ?_)
  · exfalso; first | exact c5 | omega | exact c5 (inr_nI (by decide) hs) | exact c5 (inr_nI (by decide) hi) | exact c5 (inr_nI (by omega) hk)
  · refine j_iload_n d_Mo_executed_8 rfl ?_
    refine j_iconst (v := nI 4) d_Mo_executed_9 (by decide +kernel) ?_
    refine j_callS0 (As := [_, _]) G0_good G0_E d_Mo_executed_10 c_Mo_103 rfl rfl rfl (m_out (nI i) 4) (by decide) (Nat.le_of_ble_eq_true rfl) ?_
    rintro _ _ ⟨rfl, rfl⟩
    first | refine c_if_eq (t := 18) d_Mo_executed_13 (by decide) (fun c13 => ?_) (fun c13 => ?_) | refine n_if_eq (t := 18) d_Mo_executed_13 (by decide) (by omega) (fun c13 => ?_) (fun c13 => ?_) | refine j_if_eq (t := 18) d_Mo_executed_13 (by decide) (fun c13 => ?_) (fun c13 => ?_)
    · refine j_iconst (v := nI 4) d_Mo_executed_18 (by decide +kernel) ?_
      refine j_iload_n d_Mo_executed_19 rfl ?_
      refine jn_imul d_Mo_executed_20 ?_
      refine j_iload_n d_Mo_executed_21 rfl ?_
      refine jn_iadd d_Mo_executed_22 ?_
      refine j_istore (lc' := [_, _, _, _, _]) d_Mo_executed_23 (by decide) rfl rfl ?_
      refine j_iload_n d_Mo_executed_25 rfl ?_
      first | refine j_aload_n d_Mo_executed_26 rfl ?_ | refine j_aload_nq d_Mo_executed_26 rfl ?_ | refine j_aload_nN d_Mo_executed_26 rfl ?_
      refine j_get d_Mo_executed_27 f_Mo_37 (hM_o (by decide)) rfl ?_
      refine j_iload d_Mo_executed_30 rfl ?_
      refine j_iald (t := 0) d_Mo_executed_32 rfl (hM_o (by decide)) rfl (by omega) (by decide) ?_
      refine j_callS0 (As := [_, _]) G0_good G0_E d_Mo_executed_33 c_Mo_103 rfl rfl rfl (m_out (nI k) (σ 10 (4 * s + i) 0)) (by decide) (Nat.le_of_ble_eq_true rfl) ?_
      rintro _ _ ⟨rfl, rfl⟩
      first | refine c_if_eq (t := 43) d_Mo_executed_36 (by decide) (fun c36 => ?_) (fun c36 => ?_) | refine n_if_eq (t := 43) d_Mo_executed_36 (by decide) (by omega) (fun c36 => ?_) (fun c36 => ?_) | refine j_if_eq (t := 43) d_Mo_executed_36 (by decide) (fun c36 => ?_) (fun c36 => ?_)
      · first | refine j_aload_n d_Mo_executed_43 rfl ?_ | refine j_aload_nq d_Mo_executed_43 rfl ?_ | refine j_aload_nN d_Mo_executed_43 rfl ?_
        refine j_get d_Mo_executed_44 f_Mo_62 (hM_o (by decide)) rfl ?_
        refine j_bipush (v := nI 16) d_Mo_executed_47 (by decide +kernel) ?_
        refine j_iload d_Mo_executed_49 rfl ?_
        refine jn_imul d_Mo_executed_51 ?_
        refine j_iload_n d_Mo_executed_52 rfl ?_
        refine jn_iadd d_Mo_executed_53 ?_
        refine o_fld (t := 0) (w := 16) d_Mo_executed_54 rfl (hM_o (by decide)) rfl (by omega) (by omega) (by decide) ?_
        exact j_iret d_Mo_executed_55 rfl ⟨rfl, rfl⟩
      · exfalso; first | exact c36 | omega | exact c36 (inr_nI (by decide) hs) | exact c36 (inr_nI (by decide) hi) | exact c36 (inr_nI (by omega) hk)
    · exfalso; first | exact c13 | omega | exact c13 (inr_nI (by decide) hs) | exact c13 (inr_nI (by decide) hi) | exact c13 (inr_nI (by omega) hk)

set_option maxHeartbeats 4000000 in
set_option maxRecDepth 100000 in
theorem m_executed_o {l : Launch} {D : va_G} {M nx : Nat} {L : Int32} {σ ρ : Sg} {g : Nat → Option va_E} (s i : Nat) (hs : s < 2) (hi : i < 4) (w : Int32) (hw : ¬ inr w (σ 10 (4 * s + i) 0)) : jM (G0 l D) m_Mo_executed 1 0 0 [.ref (M + 0), .int (nI s), .int (nI i), .int w] (hM D M L σ ρ g, nx) (fun v h => v = some (.int (mI 0)) ∧ h = (hM D M L σ ρ g, nx)) := by
  refine jM.of (by decide +kernel) (Nat.le_of_ble_eq_true rfl) rfl ?_
  refine j_iload_n d_Mo_executed_0 rfl ?_
  refine j_iconst (v := nI 2) d_Mo_executed_1 (by decide +kernel) ?_
  refine j_callS0 (As := [_, _]) G0_good G0_E d_Mo_executed_2 c_Mo_103 rfl rfl rfl (m_out (nI s) 2) (by decide) (Nat.le_of_ble_eq_true rfl) ?_
  rintro _ _ ⟨rfl, rfl⟩
  first | refine c_if_ne (t := 16) d_Mo_executed_5 (by decide) (fun c5 => ?_) (fun c5 => ?_) | refine n_if_ne (t := 16) d_Mo_executed_5 (by decide) (by omega) (fun c5 => ?_) (fun c5 => ?_) | refine j_if_ne (t := 16) d_Mo_executed_5 (by decide) (fun c5 => ?_) (fun c5 => ?_)
  · exfalso; first | exact c5 | omega | exact c5 (inr_nI (by decide) hs) | exact c5 (inr_nI (by decide) hi) | exact c5 hw
  · refine j_iload_n d_Mo_executed_8 rfl ?_
    refine j_iconst (v := nI 4) d_Mo_executed_9 (by decide +kernel) ?_
    refine j_callS0 (As := [_, _]) G0_good G0_E d_Mo_executed_10 c_Mo_103 rfl rfl rfl (m_out (nI i) 4) (by decide) (Nat.le_of_ble_eq_true rfl) ?_
    rintro _ _ ⟨rfl, rfl⟩
    first | refine c_if_eq (t := 18) d_Mo_executed_13 (by decide) (fun c13 => ?_) (fun c13 => ?_) | refine n_if_eq (t := 18) d_Mo_executed_13 (by decide) (by omega) (fun c13 => ?_) (fun c13 => ?_) | refine j_if_eq (t := 18) d_Mo_executed_13 (by decide) (fun c13 => ?_) (fun c13 => ?_)
    · refine j_iconst (v := nI 4) d_Mo_executed_18 (by decide +kernel) ?_
      refine j_iload_n d_Mo_executed_19 rfl ?_
      refine jn_imul d_Mo_executed_20 ?_
      refine j_iload_n d_Mo_executed_21 rfl ?_
      refine jn_iadd d_Mo_executed_22 ?_
      refine j_istore (lc' := [_, _, _, _, _]) d_Mo_executed_23 (by decide) rfl rfl ?_
      refine j_iload_n d_Mo_executed_25 rfl ?_
      first | refine j_aload_n d_Mo_executed_26 rfl ?_ | refine j_aload_nq d_Mo_executed_26 rfl ?_ | refine j_aload_nN d_Mo_executed_26 rfl ?_
      refine j_get d_Mo_executed_27 f_Mo_37 (hM_o (by decide)) rfl ?_
      refine j_iload d_Mo_executed_30 rfl ?_
      refine j_iald (t := 0) d_Mo_executed_32 rfl (hM_o (by decide)) rfl (by omega) (by decide) ?_
      refine j_callS0 (As := [_, _]) G0_good G0_E d_Mo_executed_33 c_Mo_103 rfl rfl rfl (m_out w (σ 10 (4 * s + i) 0)) (by decide) (Nat.le_of_ble_eq_true rfl) ?_
      rintro _ _ ⟨rfl, rfl⟩
      first | refine c_if_eq (t := 43) d_Mo_executed_36 (by decide) (fun c36 => ?_) (fun c36 => ?_) | refine n_if_eq (t := 43) d_Mo_executed_36 (by decide) (by omega) (fun c36 => ?_) (fun c36 => ?_) | refine j_if_eq (t := 43) d_Mo_executed_36 (by decide) (fun c36 => ?_) (fun c36 => ?_)
      · exfalso; first | exact c36 | omega | exact c36 (inr_nI (by decide) hs) | exact c36 (inr_nI (by decide) hi) | exact c36 hw
      · refine j_iconst (v := mI 0) d_Mo_executed_39 (by decide +kernel) ?_
        refine j_goto (t := 55) d_Mo_executed_40 (by decide) ?_
        exact j_iret d_Mo_executed_55 rfl ⟨rfl, rfl⟩
    · exfalso; first | exact c13 | omega | exact c13 (inr_nI (by decide) hs) | exact c13 (inr_nI (by decide) hi) | exact c13 hw

set_option maxHeartbeats 4000000 in
set_option maxRecDepth 100000 in
theorem m_output_O1 {l : Launch} {D : va_G} {M nx : Nat} {L : Int32} {σ ρ : Sg} {g : Nat → Option va_E} (x y : Int32) (hx : ¬ inr x 2) (w : Int32) : jM (G0 l D) m_Mo_output 1 0 0 [.ref (M + 0), .int x, .int y, .int w] (hM D M L σ ρ g, nx) (fun v h => v = some (.int (mI 0)) ∧ h = (hM D M L σ ρ g, nx)) := by
  refine jM.of (by decide +kernel) (Nat.le_of_ble_eq_true rfl) rfl ?_
  refine j_iload_n d_Mo_output_0 rfl ?_
  refine j_iconst (v := nI 2) d_Mo_output_1 (by decide +kernel) ?_
  refine j_callS0 (As := [_, _]) G0_good G0_E d_Mo_output_2 c_Mo_103 rfl rfl rfl (m_out x 2) (by decide) (Nat.le_of_ble_eq_true rfl) ?_
  rintro _ _ ⟨rfl, rfl⟩
  first | refine c_if_ne (t := 32) d_Mo_output_5 (by decide) (fun c5 => ?_) (fun c5 => ?_) | refine n_if_ne (t := 32) d_Mo_output_5 (by decide) (by omega) (fun c5 => ?_) (fun c5 => ?_) | refine j_if_ne (t := 32) d_Mo_output_5 (by decide) (fun c5 => ?_) (fun c5 => ?_)
  · refine j_iconst (v := mI 0) d_Mo_output_32 (by decide +kernel) ?_
    refine j_goto (t := 51) d_Mo_output_33 (by decide) ?_
    exact j_iret d_Mo_output_51 rfl ⟨rfl, rfl⟩
  · exfalso; first | exact c5 | omega | exact c5 hx

set_option maxHeartbeats 4000000 in
set_option maxRecDepth 100000 in
theorem m_output_O2 {l : Launch} {D : va_G} {M nx : Nat} {L : Int32} {σ ρ : Sg} {g : Nat → Option va_E} (s : Nat) (hs : s < 2) (y : Int32) (hy : ¬ inr y 4) (w : Int32) : jM (G0 l D) m_Mo_output 1 0 0 [.ref (M + 0), .int (nI s), .int y, .int w] (hM D M L σ ρ g, nx) (fun v h => v = some (.int (mI 0)) ∧ h = (hM D M L σ ρ g, nx)) := by
  refine jM.of (by decide +kernel) (Nat.le_of_ble_eq_true rfl) rfl ?_
  refine j_iload_n d_Mo_output_0 rfl ?_
  refine j_iconst (v := nI 2) d_Mo_output_1 (by decide +kernel) ?_
  refine j_callS0 (As := [_, _]) G0_good G0_E d_Mo_output_2 c_Mo_103 rfl rfl rfl (m_out (nI s) 2) (by decide) (Nat.le_of_ble_eq_true rfl) ?_
  rintro _ _ ⟨rfl, rfl⟩
  first | refine c_if_ne (t := 32) d_Mo_output_5 (by decide) (fun c5 => ?_) (fun c5 => ?_) | refine n_if_ne (t := 32) d_Mo_output_5 (by decide) (by omega) (fun c5 => ?_) (fun c5 => ?_) | refine j_if_ne (t := 32) d_Mo_output_5 (by decide) (fun c5 => ?_) (fun c5 => ?_)
  · exfalso; first | exact c5 | omega | exact c5 (inr_nI (by decide) hs) | exact c5 hy
  · refine j_iload_n d_Mo_output_8 rfl ?_
    refine j_iconst (v := nI 4) d_Mo_output_9 (by decide +kernel) ?_
    refine j_callS0 (As := [_, _]) G0_good G0_E d_Mo_output_10 c_Mo_103 rfl rfl rfl (m_out y 4) (by decide) (Nat.le_of_ble_eq_true rfl) ?_
    rintro _ _ ⟨rfl, rfl⟩
    first | refine c_if_ne (t := 32) d_Mo_output_13 (by decide) (fun c13 => ?_) (fun c13 => ?_) | refine n_if_ne (t := 32) d_Mo_output_13 (by decide) (by omega) (fun c13 => ?_) (fun c13 => ?_) | refine j_if_ne (t := 32) d_Mo_output_13 (by decide) (fun c13 => ?_) (fun c13 => ?_)
    · refine j_iconst (v := mI 0) d_Mo_output_32 (by decide +kernel) ?_
      refine j_goto (t := 51) d_Mo_output_33 (by decide) ?_
      exact j_iret d_Mo_output_51 rfl ⟨rfl, rfl⟩
    · exfalso; first | exact c13 | omega | exact c13 (inr_nI (by decide) hs) | exact c13 hy

set_option maxHeartbeats 4000000 in
set_option maxRecDepth 100000 in
theorem m_output_i {l : Launch} {D : va_G} {M nx : Nat} {L : Int32} {σ ρ : Sg} {g : Nat → Option va_E} (s i : Nat) (hs : s < 2) (hi : i < 4) (n : Nat) (hn : n < 20) : jM (G0 l D) m_Mo_output 1 0 0 [.ref (M + 0), .int (nI s), .int (nI i), .int (nI n)] (hM D M L σ ρ g, nx) (fun v h => v = some (.int (if n % 2 = (4 * s + i) / 4 then nI (σ 8 (4 * s + i) n) else mI 0)) ∧ h = (hM D M L σ ρ g, nx)) := by
  refine jM.of (by decide +kernel) (Nat.le_of_ble_eq_true rfl) rfl ?_
  refine j_iload_n d_Mo_output_0 rfl ?_
  refine j_iconst (v := nI 2) d_Mo_output_1 (by decide +kernel) ?_
  refine j_callS0 (As := [_, _]) G0_good G0_E d_Mo_output_2 c_Mo_103 rfl rfl rfl (m_out (nI s) 2) (by decide) (Nat.le_of_ble_eq_true rfl) ?_
  rintro _ _ ⟨rfl, rfl⟩
  first | refine c_if_ne (t := 32) d_Mo_output_5 (by decide) (fun c5 => ?_) (fun c5 => ?_) | refine n_if_ne (t := 32) d_Mo_output_5 (by decide) (by omega) (fun c5 => ?_) (fun c5 => ?_) | refine j_if_ne (t := 32) d_Mo_output_5 (by decide) (fun c5 => ?_) (fun c5 => ?_)
  · exfalso; first | exact c5 | omega | exact c5 (inr_nI (by decide) hs) | exact c5 (inr_nI (by decide) hi) | exact c5 (inr_nI (by decide) hn)
  · refine j_iload_n d_Mo_output_8 rfl ?_
    refine j_iconst (v := nI 4) d_Mo_output_9 (by decide +kernel) ?_
    refine j_callS0 (As := [_, _]) G0_good G0_E d_Mo_output_10 c_Mo_103 rfl rfl rfl (m_out (nI i) 4) (by decide) (Nat.le_of_ble_eq_true rfl) ?_
    rintro _ _ ⟨rfl, rfl⟩
    first | refine c_if_ne (t := 32) d_Mo_output_13 (by decide) (fun c13 => ?_) (fun c13 => ?_) | refine n_if_ne (t := 32) d_Mo_output_13 (by decide) (by omega) (fun c13 => ?_) (fun c13 => ?_) | refine j_if_ne (t := 32) d_Mo_output_13 (by decide) (fun c13 => ?_) (fun c13 => ?_)
    · exfalso; first | exact c13 | omega | exact c13 (inr_nI (by decide) hs) | exact c13 (inr_nI (by decide) hi) | exact c13 (inr_nI (by decide) hn)
    · refine j_iload_n d_Mo_output_16 rfl ?_
      refine j_bipush (v := nI 20) d_Mo_output_17 (by decide +kernel) ?_
      refine j_callS0 (As := [_, _]) G0_good G0_E d_Mo_output_19 c_Mo_103 rfl rfl rfl (m_out (nI n) 20) (by decide) (Nat.le_of_ble_eq_true rfl) ?_
      rintro _ _ ⟨rfl, rfl⟩
      first | refine c_if_ne (t := 32) d_Mo_output_22 (by decide) (fun c22 => ?_) (fun c22 => ?_) | refine n_if_ne (t := 32) d_Mo_output_22 (by decide) (by omega) (fun c22 => ?_) (fun c22 => ?_) | refine j_if_ne (t := 32) d_Mo_output_22 (by decide) (fun c22 => ?_) (fun c22 => ?_)
      · exfalso; first | exact c22 | omega | exact c22 (inr_nI (by decide) hs) | exact c22 (inr_nI (by decide) hi) | exact c22 (inr_nI (by decide) hn)
      · refine j_iload_n d_Mo_output_25 rfl ?_
        refine j_iconst (v := nI 2) d_Mo_output_26 (by decide +kernel) ?_
        refine jn_irem d_Mo_output_27 (by omega) (by decide) (by decide) ?_
        refine j_iload_n d_Mo_output_28 rfl ?_
        first | refine nn_icmp_eq (t := 36) d_Mo_output_29 (by decide) (by omega) (by omega) (fun c29 => ?_) (fun c29 => ?_) | refine mm_icmp_eq (t := 36) d_Mo_output_29 (by decide) (by omega) (by omega) (fun c29 => ?_) (fun c29 => ?_) | refine mn_icmp_eq (t := 36) d_Mo_output_29 (by decide) (by omega) (by omega) (fun c29 => ?_) (fun c29 => ?_) | refine nm_icmp_eq (t := 36) d_Mo_output_29 (by decide) (by omega) (by omega) (fun c29 => ?_) (fun c29 => ?_) | refine j_icmp_eq (t := 36) d_Mo_output_29 (by decide) (fun c29 => ?_) (fun c29 => ?_)
        · first | refine j_aload_n d_Mo_output_36 rfl ?_ | refine j_aload_nq d_Mo_output_36 rfl ?_ | refine j_aload_nN d_Mo_output_36 rfl ?_
          refine j_get d_Mo_output_37 f_Mo_31 (hM_o (by decide)) rfl ?_
          refine j_bipush (v := nI 20) d_Mo_output_40 (by decide +kernel) ?_
          refine j_iconst (v := nI 4) d_Mo_output_42 (by decide +kernel) ?_
          refine j_iload_n d_Mo_output_43 rfl ?_
          refine jn_imul d_Mo_output_44 ?_
          refine j_iload_n d_Mo_output_45 rfl ?_
          refine jn_iadd d_Mo_output_46 ?_
          refine jn_imul d_Mo_output_47 ?_
          refine j_iload_n d_Mo_output_48 rfl ?_
          refine jn_iadd d_Mo_output_49 ?_
          refine o_fld (t := 0) (w := 20) d_Mo_output_50 rfl (hM_o (by decide)) rfl (by omega) (by omega) (by decide) ?_
          exact j_iret d_Mo_output_51 rfl ⟨by rw [if_pos (by omega)], rfl⟩
        · refine j_iconst (v := mI 0) d_Mo_output_32 (by decide +kernel) ?_
          refine j_goto (t := 51) d_Mo_output_33 (by decide) ?_
          exact j_iret d_Mo_output_51 rfl ⟨by rw [if_neg (by omega)], rfl⟩

set_option maxHeartbeats 4000000 in
set_option maxRecDepth 100000 in
theorem m_output_o {l : Launch} {D : va_G} {M nx : Nat} {L : Int32} {σ ρ : Sg} {g : Nat → Option va_E} (s i : Nat) (hs : s < 2) (hi : i < 4) (w : Int32) (hw : ¬ inr w 20) : jM (G0 l D) m_Mo_output 1 0 0 [.ref (M + 0), .int (nI s), .int (nI i), .int w] (hM D M L σ ρ g, nx) (fun v h => v = some (.int (mI 0)) ∧ h = (hM D M L σ ρ g, nx)) := by
  refine jM.of (by decide +kernel) (Nat.le_of_ble_eq_true rfl) rfl ?_
  refine j_iload_n d_Mo_output_0 rfl ?_
  refine j_iconst (v := nI 2) d_Mo_output_1 (by decide +kernel) ?_
  refine j_callS0 (As := [_, _]) G0_good G0_E d_Mo_output_2 c_Mo_103 rfl rfl rfl (m_out (nI s) 2) (by decide) (Nat.le_of_ble_eq_true rfl) ?_
  rintro _ _ ⟨rfl, rfl⟩
  first | refine c_if_ne (t := 32) d_Mo_output_5 (by decide) (fun c5 => ?_) (fun c5 => ?_) | refine n_if_ne (t := 32) d_Mo_output_5 (by decide) (by omega) (fun c5 => ?_) (fun c5 => ?_) | refine j_if_ne (t := 32) d_Mo_output_5 (by decide) (fun c5 => ?_) (fun c5 => ?_)
  · exfalso; first | exact c5 | omega | exact c5 (inr_nI (by decide) hs) | exact c5 (inr_nI (by decide) hi) | exact c5 hw
  · refine j_iload_n d_Mo_output_8 rfl ?_
    refine j_iconst (v := nI 4) d_Mo_output_9 (by decide +kernel) ?_
    refine j_callS0 (As := [_, _]) G0_good G0_E d_Mo_output_10 c_Mo_103 rfl rfl rfl (m_out (nI i) 4) (by decide) (Nat.le_of_ble_eq_true rfl) ?_
    rintro _ _ ⟨rfl, rfl⟩
    first | refine c_if_ne (t := 32) d_Mo_output_13 (by decide) (fun c13 => ?_) (fun c13 => ?_) | refine n_if_ne (t := 32) d_Mo_output_13 (by decide) (by omega) (fun c13 => ?_) (fun c13 => ?_) | refine j_if_ne (t := 32) d_Mo_output_13 (by decide) (fun c13 => ?_) (fun c13 => ?_)
    · exfalso; first | exact c13 | omega | exact c13 (inr_nI (by decide) hs) | exact c13 (inr_nI (by decide) hi) | exact c13 hw
    · refine j_iload_n d_Mo_output_16 rfl ?_
      refine j_bipush (v := nI 20) d_Mo_output_17 (by decide +kernel) ?_
      refine j_callS0 (As := [_, _]) G0_good G0_E d_Mo_output_19 c_Mo_103 rfl rfl rfl (m_out w 20) (by decide) (Nat.le_of_ble_eq_true rfl) ?_
      rintro _ _ ⟨rfl, rfl⟩
      first | refine c_if_ne (t := 32) d_Mo_output_22 (by decide) (fun c22 => ?_) (fun c22 => ?_) | refine n_if_ne (t := 32) d_Mo_output_22 (by decide) (by omega) (fun c22 => ?_) (fun c22 => ?_) | refine j_if_ne (t := 32) d_Mo_output_22 (by decide) (fun c22 => ?_) (fun c22 => ?_)
      · refine j_iconst (v := mI 0) d_Mo_output_32 (by decide +kernel) ?_
        refine j_goto (t := 51) d_Mo_output_33 (by decide) ?_
        exact j_iret d_Mo_output_51 rfl ⟨rfl, rfl⟩
      · exfalso; first | exact c22 | omega | exact c22 (inr_nI (by decide) hs) | exact c22 (inr_nI (by decide) hi) | exact c22 hw

set_option maxHeartbeats 4000000 in
set_option maxRecDepth 100000 in
theorem m_value_O1 {l : Launch} {D : va_G} {M nx : Nat} {L : Int32} {σ ρ : Sg} {g : Nat → Option va_E} (x y : Int32) (hx : ¬ inr x 2) : jM (G0 l D) m_Mo_value 1 0 0 [.ref (M + 0), .int x, .int y] (hM D M L σ ρ g, nx) (fun v h => v = some (.int (mI 0)) ∧ h = (hM D M L σ ρ g, nx)) := by
  refine jM.of (by decide +kernel) (Nat.le_of_ble_eq_true rfl) rfl ?_
  refine j_iload_n d_Mo_value_0 rfl ?_
  refine j_iconst (v := nI 2) d_Mo_value_1 (by decide +kernel) ?_
  refine j_callS0 (As := [_, _]) G0_good G0_E d_Mo_value_2 c_Mo_103 rfl rfl rfl (m_out x 2) (by decide) (Nat.le_of_ble_eq_true rfl) ?_
  rintro _ _ ⟨rfl, rfl⟩
  first | refine c_if_ne (t := 16) d_Mo_value_5 (by decide) (fun c5 => ?_) (fun c5 => ?_) | refine n_if_ne (t := 16) d_Mo_value_5 (by decide) (by omega) (fun c5 => ?_) (fun c5 => ?_) | refine j_if_ne (t := 16) d_Mo_value_5 (by decide) (fun c5 => ?_) (fun c5 => ?_)
  · refine j_iconst (v := mI 0) d_Mo_value_16 (by decide +kernel) ?_
    exact j_iret d_Mo_value_17 rfl ⟨rfl, rfl⟩
  · exfalso; first | exact c5 | omega | exact c5 hx

set_option maxHeartbeats 4000000 in
set_option maxRecDepth 100000 in
theorem m_value_O2 {l : Launch} {D : va_G} {M nx : Nat} {L : Int32} {σ ρ : Sg} {g : Nat → Option va_E} (s : Nat) (hs : s < 2) (y : Int32) (hy : ¬ inr y 4) : jM (G0 l D) m_Mo_value 1 0 0 [.ref (M + 0), .int (nI s), .int y] (hM D M L σ ρ g, nx) (fun v h => v = some (.int (mI 0)) ∧ h = (hM D M L σ ρ g, nx)) := by
  refine jM.of (by decide +kernel) (Nat.le_of_ble_eq_true rfl) rfl ?_
  refine j_iload_n d_Mo_value_0 rfl ?_
  refine j_iconst (v := nI 2) d_Mo_value_1 (by decide +kernel) ?_
  refine j_callS0 (As := [_, _]) G0_good G0_E d_Mo_value_2 c_Mo_103 rfl rfl rfl (m_out (nI s) 2) (by decide) (Nat.le_of_ble_eq_true rfl) ?_
  rintro _ _ ⟨rfl, rfl⟩
  first | refine c_if_ne (t := 16) d_Mo_value_5 (by decide) (fun c5 => ?_) (fun c5 => ?_) | refine n_if_ne (t := 16) d_Mo_value_5 (by decide) (by omega) (fun c5 => ?_) (fun c5 => ?_) | refine j_if_ne (t := 16) d_Mo_value_5 (by decide) (fun c5 => ?_) (fun c5 => ?_)
  · exfalso; first | exact c5 | omega | exact c5 (inr_nI (by decide) hs) | exact c5 hy
  · refine j_iload_n d_Mo_value_8 rfl ?_
    refine j_iconst (v := nI 4) d_Mo_value_9 (by decide +kernel) ?_
    refine j_callS0 (As := [_, _]) G0_good G0_E d_Mo_value_10 c_Mo_103 rfl rfl rfl (m_out y 4) (by decide) (Nat.le_of_ble_eq_true rfl) ?_
    rintro _ _ ⟨rfl, rfl⟩
    first | refine c_if_eq (t := 18) d_Mo_value_13 (by decide) (fun c13 => ?_) (fun c13 => ?_) | refine n_if_eq (t := 18) d_Mo_value_13 (by decide) (by omega) (fun c13 => ?_) (fun c13 => ?_) | refine j_if_eq (t := 18) d_Mo_value_13 (by decide) (fun c13 => ?_) (fun c13 => ?_)
    · exfalso; first | exact c13 | omega | exact c13 (inr_nI (by decide) hs) | exact c13 hy
    · refine j_iconst (v := mI 0) d_Mo_value_16 (by decide +kernel) ?_
      exact j_iret d_Mo_value_17 rfl ⟨rfl, rfl⟩

set_option maxHeartbeats 4000000 in
set_option maxRecDepth 100000 in
theorem lp_mvalue {l : Launch} {D : va_G} {M nx : Nat} {L : Int32} {σ ρ : Sg} {g : Nat → Option va_E} (s i : Nat) (hs : s < 2) (hi : i < 4) (hb : bd σ) : ∀ (m : Nat) (j S : Nat) (x5 : Option Value), j ≤ 10 → 10 - j < m → S = wsum σ (4 * s + i) j → J (G0 l D) jT m_Mo_value 1 (fun v h => v = some (.int (nI (wsum σ (4 * s + i) 10))) ∧ h = (hM D M L σ ρ g, nx)) 0 0 23 [some (.ref (M + 0)), some (.int (nI s)), some (.int (nI i)), some (.int (nI S)), some (.int (nI (s + 2 * j))), x5] [] (hM D M L σ ρ g, nx) := by
  intro m
  induction m with
  | zero =>
    intros
    exfalso
    omega
  | succ m ih =>
    intro j S x5 h1 h2 hS
    have d4 : (4 * s + i) / 4 = s := by omega
    have b8 := hb 8 (4 * s + i) (s + 2 * j)
    refine j_iload d_Mo_value_23 rfl ?_
    refine j_bipush (v := nI 20) d_Mo_value_25 (by decide +kernel) ?_
    first | refine nn_icmp_ge (t := 80) d_Mo_value_27 (by decide) (by omega) (by omega) (fun c27 => ?_) (fun c27 => ?_) | refine mm_icmp_ge (t := 80) d_Mo_value_27 (by decide) (by omega) (by omega) (fun c27 => ?_) (fun c27 => ?_) | refine mn_icmp_ge (t := 80) d_Mo_value_27 (by decide) (by omega) (by omega) (fun c27 => ?_) (fun c27 => ?_) | refine nm_icmp_ge (t := 80) d_Mo_value_27 (by decide) (by omega) (by omega) (fun c27 => ?_) (fun c27 => ?_) | refine j_icmp_ge (t := 80) d_Mo_value_27 (by decide) (fun c27 => ?_) (fun c27 => ?_)
    · refine j_iload_n d_Mo_value_80 rfl ?_
      have ej : j = 10 := by omega
      subst ej
      exact j_iret d_Mo_value_81 rfl ⟨by rw [hS], rfl⟩
    · first | refine j_aload_n d_Mo_value_30 rfl ?_ | refine j_aload_nq d_Mo_value_30 rfl ?_ | refine j_aload_nN d_Mo_value_30 rfl ?_
      refine j_get d_Mo_value_31 f_Mo_31 (hM_o (by decide)) rfl ?_
      refine j_bipush (v := nI 20) d_Mo_value_34 (by decide +kernel) ?_
      refine j_iconst (v := nI 4) d_Mo_value_36 (by decide +kernel) ?_
      refine j_iload_n d_Mo_value_37 rfl ?_
      refine jn_imul d_Mo_value_38 ?_
      refine j_iload_n d_Mo_value_39 rfl ?_
      refine jn_iadd d_Mo_value_40 ?_
      refine jn_imul d_Mo_value_41 ?_
      refine j_iload d_Mo_value_42 rfl ?_
      refine jn_iadd d_Mo_value_44 ?_
      refine o_fld (t := 0) (w := 20) d_Mo_value_45 rfl (hM_o (by decide)) rfl (by omega) (by omega) (by decide) ?_
      refine j_istore (lc' := [_, _, _, _, _, _]) d_Mo_value_46 (by decide) rfl rfl ?_
      refine j_iload d_Mo_value_48 rfl ?_
      refine j_iconst (v := nI 1) d_Mo_value_50 (by decide +kernel) ?_
      first | refine nn_icmp_eq (t := 60) d_Mo_value_51 (by decide) (by omega) (by omega) (fun c51 => ?_) (fun c51 => ?_) | refine mm_icmp_eq (t := 60) d_Mo_value_51 (by decide) (by omega) (by omega) (fun c51 => ?_) (fun c51 => ?_) | refine mn_icmp_eq (t := 60) d_Mo_value_51 (by decide) (by omega) (by omega) (fun c51 => ?_) (fun c51 => ?_) | refine nm_icmp_eq (t := 60) d_Mo_value_51 (by decide) (by omega) (by omega) (fun c51 => ?_) (fun c51 => ?_) | refine j_icmp_eq (t := 60) d_Mo_value_51 (by decide) (fun c51 => ?_) (fun c51 => ?_)
      · refine j_iload_n d_Mo_value_60 rfl ?_
        first | refine j_aload_n d_Mo_value_61 rfl ?_ | refine j_aload_nq d_Mo_value_61 rfl ?_ | refine j_aload_nN d_Mo_value_61 rfl ?_
        refine j_get d_Mo_value_62 f_Mo_19 (hM_o (by decide)) rfl ?_
        refine j_iload d_Mo_value_65 rfl ?_
        refine j_iald (t := 0) d_Mo_value_67 rfl (hM_o (by decide)) rfl (by omega) (by decide) ?_
        refine jn_iadd d_Mo_value_68 ?_
        refine j_goto (t := 73) d_Mo_value_69 (by decide) ?_
        refine j_istore_n (lc' := [_, _, _, _, _, _]) d_Mo_value_73 (by decide) rfl rfl ?_
        refine n_iinc (k := 2) (lc' := [_, _, _, _, _, _]) d_Mo_value_74 (by decide +kernel) rfl (by decide) rfl rfl ?_
        refine j_goto (t := 23) d_Mo_value_77 (by decide) ?_
        exact ih (j + 1) _ _ (by omega) (by omega) (by show _ = wsum σ (4 * s + i) j + (if σ 8 (4 * s + i) ((4 * s + i) / 4 + 2 * j) = 1 ∨ σ 8 (4 * s + i) ((4 * s + i) / 4 + 2 * j) = 2 then σ 4 0 ((4 * s + i) / 4 + 2 * j) else 0); rw [d4, if_pos (by omega), hS])
      · refine j_iload d_Mo_value_54 rfl ?_
        refine j_iconst (v := nI 2) d_Mo_value_56 (by decide +kernel) ?_
        first | refine nn_icmp_ne (t := 72) d_Mo_value_57 (by decide) (by omega) (by omega) (fun c57 => ?_) (fun c57 => ?_) | refine mm_icmp_ne (t := 72) d_Mo_value_57 (by decide) (by omega) (by omega) (fun c57 => ?_) (fun c57 => ?_) | refine mn_icmp_ne (t := 72) d_Mo_value_57 (by decide) (by omega) (by omega) (fun c57 => ?_) (fun c57 => ?_) | refine nm_icmp_ne (t := 72) d_Mo_value_57 (by decide) (by omega) (by omega) (fun c57 => ?_) (fun c57 => ?_) | refine j_icmp_ne (t := 72) d_Mo_value_57 (by decide) (fun c57 => ?_) (fun c57 => ?_)
        · refine j_iload_n d_Mo_value_72 rfl ?_
          refine j_istore_n (lc' := [_, _, _, _, _, _]) d_Mo_value_73 (by decide) rfl rfl ?_
          refine n_iinc (k := 2) (lc' := [_, _, _, _, _, _]) d_Mo_value_74 (by decide +kernel) rfl (by decide) rfl rfl ?_
          refine j_goto (t := 23) d_Mo_value_77 (by decide) ?_
          exact ih (j + 1) _ _ (by omega) (by omega) (by show _ = wsum σ (4 * s + i) j + (if σ 8 (4 * s + i) ((4 * s + i) / 4 + 2 * j) = 1 ∨ σ 8 (4 * s + i) ((4 * s + i) / 4 + 2 * j) = 2 then σ 4 0 ((4 * s + i) / 4 + 2 * j) else 0); rw [d4, if_neg (by omega), Nat.add_zero, hS])
        · refine j_iload_n d_Mo_value_60 rfl ?_
          first | refine j_aload_n d_Mo_value_61 rfl ?_ | refine j_aload_nq d_Mo_value_61 rfl ?_ | refine j_aload_nN d_Mo_value_61 rfl ?_
          refine j_get d_Mo_value_62 f_Mo_19 (hM_o (by decide)) rfl ?_
          refine j_iload d_Mo_value_65 rfl ?_
          refine j_iald (t := 0) d_Mo_value_67 rfl (hM_o (by decide)) rfl (by omega) (by decide) ?_
          refine jn_iadd d_Mo_value_68 ?_
          refine j_goto (t := 73) d_Mo_value_69 (by decide) ?_
          refine j_istore_n (lc' := [_, _, _, _, _, _]) d_Mo_value_73 (by decide) rfl rfl ?_
          refine n_iinc (k := 2) (lc' := [_, _, _, _, _, _]) d_Mo_value_74 (by decide +kernel) rfl (by decide) rfl rfl ?_
          refine j_goto (t := 23) d_Mo_value_77 (by decide) ?_
          exact ih (j + 1) _ _ (by omega) (by omega) (by show _ = wsum σ (4 * s + i) j + (if σ 8 (4 * s + i) ((4 * s + i) / 4 + 2 * j) = 1 ∨ σ 8 (4 * s + i) ((4 * s + i) / 4 + 2 * j) = 2 then σ 4 0 ((4 * s + i) / 4 + 2 * j) else 0); rw [d4, if_pos (by omega), hS])

set_option maxHeartbeats 4000000 in
set_option maxRecDepth 100000 in
theorem m_value_i {l : Launch} {D : va_G} {M nx : Nat} {L : Int32} {σ ρ : Sg} {g : Nat → Option va_E} (s i : Nat) (hs : s < 2) (hi : i < 4) (hb : bd σ) : jM (G0 l D) m_Mo_value 1 0 0 [.ref (M + 0), .int (nI s), .int (nI i)] (hM D M L σ ρ g, nx) (fun v h => v = some (.int (nI (wsum σ (4 * s + i) 10))) ∧ h = (hM D M L σ ρ g, nx)) := by
  refine jM.of (by decide +kernel) (Nat.le_of_ble_eq_true rfl) rfl ?_
  refine j_iload_n d_Mo_value_0 rfl ?_
  refine j_iconst (v := nI 2) d_Mo_value_1 (by decide +kernel) ?_
  refine j_callS0 (As := [_, _]) G0_good G0_E d_Mo_value_2 c_Mo_103 rfl rfl rfl (m_out (nI s) 2) (by decide) (Nat.le_of_ble_eq_true rfl) ?_
  rintro _ _ ⟨rfl, rfl⟩
  first | refine c_if_ne (t := 16) d_Mo_value_5 (by decide) (fun c5 => ?_) (fun c5 => ?_) | refine n_if_ne (t := 16) d_Mo_value_5 (by decide) (by omega) (fun c5 => ?_) (fun c5 => ?_) | refine j_if_ne (t := 16) d_Mo_value_5 (by decide) (fun c5 => ?_) (fun c5 => ?_)
  · exfalso; first | exact c5 | omega | exact c5 (inr_nI (by decide) hs) | exact c5 (inr_nI (by decide) hi)
  · refine j_iload_n d_Mo_value_8 rfl ?_
    refine j_iconst (v := nI 4) d_Mo_value_9 (by decide +kernel) ?_
    refine j_callS0 (As := [_, _]) G0_good G0_E d_Mo_value_10 c_Mo_103 rfl rfl rfl (m_out (nI i) 4) (by decide) (Nat.le_of_ble_eq_true rfl) ?_
    rintro _ _ ⟨rfl, rfl⟩
    first | refine c_if_eq (t := 18) d_Mo_value_13 (by decide) (fun c13 => ?_) (fun c13 => ?_) | refine n_if_eq (t := 18) d_Mo_value_13 (by decide) (by omega) (fun c13 => ?_) (fun c13 => ?_) | refine j_if_eq (t := 18) d_Mo_value_13 (by decide) (fun c13 => ?_) (fun c13 => ?_)
    · refine j_iconst (v := nI 0) d_Mo_value_18 (by decide +kernel) ?_
      refine j_istore_n (lc' := [_, _, _, _, _, _]) d_Mo_value_19 (by decide) rfl rfl ?_
      refine j_iload_n d_Mo_value_20 rfl ?_
      refine j_istore (lc' := [_, _, _, _, _, _]) d_Mo_value_21 (by decide) rfl rfl ?_
      exact lp_mvalue s i hs hi hb 11 0 0 _ (by omega) (by omega) rfl
    · exfalso; first | exact c13 | omega | exact c13 (inr_nI (by decide) hs) | exact c13 (inr_nI (by decide) hi)

set_option maxHeartbeats 4000000 in
set_option maxRecDepth 100000 in
theorem m_requests {l : Launch} {D : va_G} {M nx : Nat} {L : Int32} {σ ρ : Sg} {g : Nat → Option va_E} : jM (G0 l D) m_Mo_requests 0 0 0 [.ref (M + 0)] (hM D M L σ ρ g, nx) (fun v h => v = some (.int (nI (σ 34 0 0))) ∧ h = (hM D M L σ ρ g, nx)) := by
  refine jM.of (by decide +kernel) (Nat.le_of_ble_eq_true rfl) rfl ?_
  first | refine j_aload_n d_Mo_requests_0 rfl ?_ | refine j_aload_nq d_Mo_requests_0 rfl ?_ | refine j_aload_nN d_Mo_requests_0 rfl ?_
  refine j_get d_Mo_requests_1 f_Mo_97 (hM_o (by decide)) rfl ?_
  exact j_iret d_Mo_requests_4 rfl ⟨rfl, rfl⟩

set_option maxHeartbeats 4000000 in
set_option maxRecDepth 100000 in
theorem m_request_Q {l : Launch} {D : va_G} {M nx : Nat} {L : Int32} {σ ρ : Sg} {g : Nat → Option va_E} (q w : Int32) (hq : ¬ inr q (σ 34 0 0)) : jM (G0 l D) m_Mo_request 1 0 0 [.ref (M + 0), .int q, .int w] (hM D M L σ ρ g, nx) (fun v h => v = some (.int (-2)) ∧ h = (hM D M L σ ρ g, nx)) := by
  refine jM.of (by decide +kernel) (Nat.le_of_ble_eq_true rfl) rfl ?_
  refine j_iload_n d_Mo_request_0 rfl ?_
  first | refine j_aload_n d_Mo_request_1 rfl ?_ | refine j_aload_nq d_Mo_request_1 rfl ?_ | refine j_aload_nN d_Mo_request_1 rfl ?_
  refine j_get d_Mo_request_2 f_Mo_97 (hM_o (by decide)) rfl ?_
  refine j_callS0 (As := [_, _]) G0_good G0_E d_Mo_request_5 c_Mo_103 rfl rfl rfl (m_out q (σ 34 0 0)) (by decide) (Nat.le_of_ble_eq_true rfl) ?_
  rintro _ _ ⟨rfl, rfl⟩
  first | refine c_if_ne (t := 19) d_Mo_request_8 (by decide) (fun c8 => ?_) (fun c8 => ?_) | refine n_if_ne (t := 19) d_Mo_request_8 (by decide) (by omega) (fun c8 => ?_) (fun c8 => ?_) | refine j_if_ne (t := 19) d_Mo_request_8 (by decide) (fun c8 => ?_) (fun c8 => ?_)
  · refine j_bipush (v := (-2)) d_Mo_request_19 (by decide +kernel) ?_
    exact j_iret d_Mo_request_21 rfl ⟨rfl, rfl⟩
  · exfalso; first | exact c8 | omega | exact c8 hq

set_option maxHeartbeats 4000000 in
set_option maxRecDepth 100000 in
theorem m_request_O {l : Launch} {D : va_G} {M nx : Nat} {L : Int32} {σ ρ : Sg} {g : Nat → Option va_E} (hb : bd σ) (q : Nat) (hq : q < σ 34 0 0) (w : Int32) (hw : ¬ inr w 4) : jM (G0 l D) m_Mo_request 1 0 0 [.ref (M + 0), .int (nI q), .int w] (hM D M L σ ρ g, nx) (fun v h => v = some (.int (-2)) ∧ h = (hM D M L σ ρ g, nx)) := by
  refine jM.of (by decide +kernel) (Nat.le_of_ble_eq_true rfl) rfl ?_
  have b34 := hb 34 0 0

  refine j_iload_n d_Mo_request_0 rfl ?_
  first | refine j_aload_n d_Mo_request_1 rfl ?_ | refine j_aload_nq d_Mo_request_1 rfl ?_ | refine j_aload_nN d_Mo_request_1 rfl ?_
  refine j_get d_Mo_request_2 f_Mo_97 (hM_o (by decide)) rfl ?_
  refine j_callS0 (As := [_, _]) G0_good G0_E d_Mo_request_5 c_Mo_103 rfl rfl rfl (m_out (nI q) (σ 34 0 0)) (by decide) (Nat.le_of_ble_eq_true rfl) ?_
  rintro _ _ ⟨rfl, rfl⟩
  first | refine c_if_ne (t := 19) d_Mo_request_8 (by decide) (fun c8 => ?_) (fun c8 => ?_) | refine n_if_ne (t := 19) d_Mo_request_8 (by decide) (by omega) (fun c8 => ?_) (fun c8 => ?_) | refine j_if_ne (t := 19) d_Mo_request_8 (by decide) (fun c8 => ?_) (fun c8 => ?_)
  · exfalso; first | exact c8 | omega | exact c8 (inr_nI (by omega) hq) | exact c8 hw
  · refine j_iload_n d_Mo_request_11 rfl ?_
    refine j_iconst (v := nI 4) d_Mo_request_12 (by decide +kernel) ?_
    refine j_callS0 (As := [_, _]) G0_good G0_E d_Mo_request_13 c_Mo_103 rfl rfl rfl (m_out w 4) (by decide) (Nat.le_of_ble_eq_true rfl) ?_
    rintro _ _ ⟨rfl, rfl⟩
    first | refine c_if_eq (t := 22) d_Mo_request_16 (by decide) (fun c16 => ?_) (fun c16 => ?_) | refine n_if_eq (t := 22) d_Mo_request_16 (by decide) (by omega) (fun c16 => ?_) (fun c16 => ?_) | refine j_if_eq (t := 22) d_Mo_request_16 (by decide) (fun c16 => ?_) (fun c16 => ?_)
    · exfalso; first | exact c16 | omega | exact c16 (inr_nI (by omega) hq) | exact c16 hw
    · refine j_bipush (v := (-2)) d_Mo_request_19 (by decide +kernel) ?_
      exact j_iret d_Mo_request_21 rfl ⟨rfl, rfl⟩

set_option maxHeartbeats 4000000 in
set_option maxRecDepth 100000 in
theorem m_request_0 {l : Launch} {D : va_G} {M nx : Nat} {L : Int32} {σ ρ : Sg} {g : Nat → Option va_E} {c : Nat → Nat → Nat} (ic : Pu.Ic c σ) (q : Nat) (hq : q < σ 34 0 0) : jM (G0 l D) m_Mo_request 1 0 0 [.ref (M + 0), .int (nI q), .int (nI 0)] (hM D M L σ ρ g, nx) (fun v h => v = some (.int (nI (σ 5 0 q))) ∧ h = (hM D M L σ ρ g, nx)) := by
  refine jM.of (by decide +kernel) (Nat.le_of_ble_eq_true rfl) rfl ?_
  have r32 := Pu.rq32 ic.1.bk

  refine j_iload_n d_Mo_request_0 rfl ?_
  first | refine j_aload_n d_Mo_request_1 rfl ?_ | refine j_aload_nq d_Mo_request_1 rfl ?_ | refine j_aload_nN d_Mo_request_1 rfl ?_
  refine j_get d_Mo_request_2 f_Mo_97 (hM_o (by decide)) rfl ?_
  refine j_callS0 (As := [_, _]) G0_good G0_E d_Mo_request_5 c_Mo_103 rfl rfl rfl (m_out (nI q) (σ 34 0 0)) (by decide) (Nat.le_of_ble_eq_true rfl) ?_
  rintro _ _ ⟨rfl, rfl⟩
  first | refine c_if_ne (t := 19) d_Mo_request_8 (by decide) (fun c8 => ?_) (fun c8 => ?_) | refine n_if_ne (t := 19) d_Mo_request_8 (by decide) (by omega) (fun c8 => ?_) (fun c8 => ?_) | refine j_if_ne (t := 19) d_Mo_request_8 (by decide) (fun c8 => ?_) (fun c8 => ?_)
  · exfalso; first | exact c8 | omega | exact c8 (inr_nI (by omega) hq) | exact c8 (inr_nI (by decide) (show 0 < 4 by decide))
  · refine j_iload_n d_Mo_request_11 rfl ?_
    refine j_iconst (v := nI 4) d_Mo_request_12 (by decide +kernel) ?_
    refine j_callS0 (As := [_, _]) G0_good G0_E d_Mo_request_13 c_Mo_103 rfl rfl rfl (m_out (nI 0) 4) (by decide) (Nat.le_of_ble_eq_true rfl) ?_
    rintro _ _ ⟨rfl, rfl⟩
    first | refine c_if_eq (t := 22) d_Mo_request_16 (by decide) (fun c16 => ?_) (fun c16 => ?_) | refine n_if_eq (t := 22) d_Mo_request_16 (by decide) (by omega) (fun c16 => ?_) (fun c16 => ?_) | refine j_if_eq (t := 22) d_Mo_request_16 (by decide) (fun c16 => ?_) (fun c16 => ?_)
    · refine j_iload_n d_Mo_request_22 rfl ?_
      first | refine c_if_ne (t := 35) d_Mo_request_23 (by decide) (fun c23 => ?_) (fun c23 => ?_) | refine n_if_ne (t := 35) d_Mo_request_23 (by decide) (by omega) (fun c23 => ?_) (fun c23 => ?_) | refine j_if_ne (t := 35) d_Mo_request_23 (by decide) (fun c23 => ?_) (fun c23 => ?_)
      · exfalso; first | exact c23 | omega | exact c23 (inr_nI (by omega) hq) | exact c23 (inr_nI (by decide) (show 0 < 4 by decide))
      · first | refine j_aload_n d_Mo_request_26 rfl ?_ | refine j_aload_nq d_Mo_request_26 rfl ?_ | refine j_aload_nN d_Mo_request_26 rfl ?_
        refine j_get d_Mo_request_27 f_Mo_22 (hM_o (by decide)) rfl ?_
        refine j_iload_n d_Mo_request_30 rfl ?_
        refine j_iald (t := 0) d_Mo_request_31 rfl (hM_o (by decide)) rfl (by omega) (by decide) ?_
        refine j_goto (t := 68) d_Mo_request_32 (by decide) ?_
        exact j_iret d_Mo_request_68 rfl ⟨rfl, rfl⟩
    · exfalso; first | exact c16 | omega | exact c16 (inr_nI (by omega) hq) | exact c16 (inr_nI (by decide) (show 0 < 4 by decide))

set_option maxHeartbeats 4000000 in
set_option maxRecDepth 100000 in
theorem m_request_1 {l : Launch} {D : va_G} {M nx : Nat} {L : Int32} {σ ρ : Sg} {g : Nat → Option va_E} {c : Nat → Nat → Nat} (ic : Pu.Ic c σ) (q : Nat) (hq : q < σ 34 0 0) : jM (G0 l D) m_Mo_request 1 0 0 [.ref (M + 0), .int (nI q), .int (nI 1)] (hM D M L σ ρ g, nx) (fun v h => v = some (.int (nI (σ 6 0 q))) ∧ h = (hM D M L σ ρ g, nx)) := by
  refine jM.of (by decide +kernel) (Nat.le_of_ble_eq_true rfl) rfl ?_
  have r32 := Pu.rq32 ic.1.bk

  refine j_iload_n d_Mo_request_0 rfl ?_
  first | refine j_aload_n d_Mo_request_1 rfl ?_ | refine j_aload_nq d_Mo_request_1 rfl ?_ | refine j_aload_nN d_Mo_request_1 rfl ?_
  refine j_get d_Mo_request_2 f_Mo_97 (hM_o (by decide)) rfl ?_
  refine j_callS0 (As := [_, _]) G0_good G0_E d_Mo_request_5 c_Mo_103 rfl rfl rfl (m_out (nI q) (σ 34 0 0)) (by decide) (Nat.le_of_ble_eq_true rfl) ?_
  rintro _ _ ⟨rfl, rfl⟩
  first | refine c_if_ne (t := 19) d_Mo_request_8 (by decide) (fun c8 => ?_) (fun c8 => ?_) | refine n_if_ne (t := 19) d_Mo_request_8 (by decide) (by omega) (fun c8 => ?_) (fun c8 => ?_) | refine j_if_ne (t := 19) d_Mo_request_8 (by decide) (fun c8 => ?_) (fun c8 => ?_)
  · exfalso; first | exact c8 | omega | exact c8 (inr_nI (by omega) hq) | exact c8 (inr_nI (by decide) (show 1 < 4 by decide))
  · refine j_iload_n d_Mo_request_11 rfl ?_
    refine j_iconst (v := nI 4) d_Mo_request_12 (by decide +kernel) ?_
    refine j_callS0 (As := [_, _]) G0_good G0_E d_Mo_request_13 c_Mo_103 rfl rfl rfl (m_out (nI 1) 4) (by decide) (Nat.le_of_ble_eq_true rfl) ?_
    rintro _ _ ⟨rfl, rfl⟩
    first | refine c_if_eq (t := 22) d_Mo_request_16 (by decide) (fun c16 => ?_) (fun c16 => ?_) | refine n_if_eq (t := 22) d_Mo_request_16 (by decide) (by omega) (fun c16 => ?_) (fun c16 => ?_) | refine j_if_eq (t := 22) d_Mo_request_16 (by decide) (fun c16 => ?_) (fun c16 => ?_)
    · refine j_iload_n d_Mo_request_22 rfl ?_
      first | refine c_if_ne (t := 35) d_Mo_request_23 (by decide) (fun c23 => ?_) (fun c23 => ?_) | refine n_if_ne (t := 35) d_Mo_request_23 (by decide) (by omega) (fun c23 => ?_) (fun c23 => ?_) | refine j_if_ne (t := 35) d_Mo_request_23 (by decide) (fun c23 => ?_) (fun c23 => ?_)
      · refine j_iload_n d_Mo_request_35 rfl ?_
        refine j_iconst (v := nI 1) d_Mo_request_36 (by decide +kernel) ?_
        first | refine nn_icmp_ne (t := 49) d_Mo_request_37 (by decide) (by omega) (by omega) (fun c37 => ?_) (fun c37 => ?_) | refine mm_icmp_ne (t := 49) d_Mo_request_37 (by decide) (by omega) (by omega) (fun c37 => ?_) (fun c37 => ?_) | refine mn_icmp_ne (t := 49) d_Mo_request_37 (by decide) (by omega) (by omega) (fun c37 => ?_) (fun c37 => ?_) | refine nm_icmp_ne (t := 49) d_Mo_request_37 (by decide) (by omega) (by omega) (fun c37 => ?_) (fun c37 => ?_) | refine j_icmp_ne (t := 49) d_Mo_request_37 (by decide) (fun c37 => ?_) (fun c37 => ?_)
        · exfalso; first | exact c37 | omega | exact c37 (inr_nI (by omega) hq) | exact c37 (inr_nI (by decide) (show 1 < 4 by decide))
        · first | refine j_aload_n d_Mo_request_40 rfl ?_ | refine j_aload_nq d_Mo_request_40 rfl ?_ | refine j_aload_nN d_Mo_request_40 rfl ?_
          refine j_get d_Mo_request_41 f_Mo_25 (hM_o (by decide)) rfl ?_
          refine j_iload_n d_Mo_request_44 rfl ?_
          refine j_iald (t := 0) d_Mo_request_45 rfl (hM_o (by decide)) rfl (by omega) (by decide) ?_
          refine j_goto (t := 68) d_Mo_request_46 (by decide) ?_
          exact j_iret d_Mo_request_68 rfl ⟨rfl, rfl⟩
      · exfalso; first | exact c23 | omega | exact c23 (inr_nI (by omega) hq) | exact c23 (inr_nI (by decide) (show 1 < 4 by decide))
    · exfalso; first | exact c16 | omega | exact c16 (inr_nI (by omega) hq) | exact c16 (inr_nI (by decide) (show 1 < 4 by decide))

set_option maxHeartbeats 4000000 in
set_option maxRecDepth 100000 in
theorem m_request_2 {l : Launch} {D : va_G} {M nx : Nat} {L : Int32} {σ ρ : Sg} {g : Nat → Option va_E} {c : Nat → Nat → Nat} (ic : Pu.Ic c σ) (q : Nat) (hq : q < σ 34 0 0) : jM (G0 l D) m_Mo_request 1 0 0 [.ref (M + 0), .int (nI q), .int (nI 2)] (hM D M L σ ρ g, nx) (fun v h => v = some (.int (nI (σ 7 0 q))) ∧ h = (hM D M L σ ρ g, nx)) := by
  refine jM.of (by decide +kernel) (Nat.le_of_ble_eq_true rfl) rfl ?_
  have r32 := Pu.rq32 ic.1.bk

  refine j_iload_n d_Mo_request_0 rfl ?_
  first | refine j_aload_n d_Mo_request_1 rfl ?_ | refine j_aload_nq d_Mo_request_1 rfl ?_ | refine j_aload_nN d_Mo_request_1 rfl ?_
  refine j_get d_Mo_request_2 f_Mo_97 (hM_o (by decide)) rfl ?_
  refine j_callS0 (As := [_, _]) G0_good G0_E d_Mo_request_5 c_Mo_103 rfl rfl rfl (m_out (nI q) (σ 34 0 0)) (by decide) (Nat.le_of_ble_eq_true rfl) ?_
  rintro _ _ ⟨rfl, rfl⟩
  first | refine c_if_ne (t := 19) d_Mo_request_8 (by decide) (fun c8 => ?_) (fun c8 => ?_) | refine n_if_ne (t := 19) d_Mo_request_8 (by decide) (by omega) (fun c8 => ?_) (fun c8 => ?_) | refine j_if_ne (t := 19) d_Mo_request_8 (by decide) (fun c8 => ?_) (fun c8 => ?_)
  · exfalso; first | exact c8 | omega | exact c8 (inr_nI (by omega) hq) | exact c8 (inr_nI (by decide) (show 2 < 4 by decide))
  · refine j_iload_n d_Mo_request_11 rfl ?_
    refine j_iconst (v := nI 4) d_Mo_request_12 (by decide +kernel) ?_
    refine j_callS0 (As := [_, _]) G0_good G0_E d_Mo_request_13 c_Mo_103 rfl rfl rfl (m_out (nI 2) 4) (by decide) (Nat.le_of_ble_eq_true rfl) ?_
    rintro _ _ ⟨rfl, rfl⟩
    first | refine c_if_eq (t := 22) d_Mo_request_16 (by decide) (fun c16 => ?_) (fun c16 => ?_) | refine n_if_eq (t := 22) d_Mo_request_16 (by decide) (by omega) (fun c16 => ?_) (fun c16 => ?_) | refine j_if_eq (t := 22) d_Mo_request_16 (by decide) (fun c16 => ?_) (fun c16 => ?_)
    · refine j_iload_n d_Mo_request_22 rfl ?_
      first | refine c_if_ne (t := 35) d_Mo_request_23 (by decide) (fun c23 => ?_) (fun c23 => ?_) | refine n_if_ne (t := 35) d_Mo_request_23 (by decide) (by omega) (fun c23 => ?_) (fun c23 => ?_) | refine j_if_ne (t := 35) d_Mo_request_23 (by decide) (fun c23 => ?_) (fun c23 => ?_)
      · refine j_iload_n d_Mo_request_35 rfl ?_
        refine j_iconst (v := nI 1) d_Mo_request_36 (by decide +kernel) ?_
        first | refine nn_icmp_ne (t := 49) d_Mo_request_37 (by decide) (by omega) (by omega) (fun c37 => ?_) (fun c37 => ?_) | refine mm_icmp_ne (t := 49) d_Mo_request_37 (by decide) (by omega) (by omega) (fun c37 => ?_) (fun c37 => ?_) | refine mn_icmp_ne (t := 49) d_Mo_request_37 (by decide) (by omega) (by omega) (fun c37 => ?_) (fun c37 => ?_) | refine nm_icmp_ne (t := 49) d_Mo_request_37 (by decide) (by omega) (by omega) (fun c37 => ?_) (fun c37 => ?_) | refine j_icmp_ne (t := 49) d_Mo_request_37 (by decide) (fun c37 => ?_) (fun c37 => ?_)
        · refine j_iload_n d_Mo_request_49 rfl ?_
          refine j_iconst (v := nI 2) d_Mo_request_50 (by decide +kernel) ?_
          first | refine nn_icmp_ne (t := 63) d_Mo_request_51 (by decide) (by omega) (by omega) (fun c51 => ?_) (fun c51 => ?_) | refine mm_icmp_ne (t := 63) d_Mo_request_51 (by decide) (by omega) (by omega) (fun c51 => ?_) (fun c51 => ?_) | refine mn_icmp_ne (t := 63) d_Mo_request_51 (by decide) (by omega) (by omega) (fun c51 => ?_) (fun c51 => ?_) | refine nm_icmp_ne (t := 63) d_Mo_request_51 (by decide) (by omega) (by omega) (fun c51 => ?_) (fun c51 => ?_) | refine j_icmp_ne (t := 63) d_Mo_request_51 (by decide) (fun c51 => ?_) (fun c51 => ?_)
          · exfalso; first | exact c51 | omega | exact c51 (inr_nI (by omega) hq) | exact c51 (inr_nI (by decide) (show 2 < 4 by decide))
          · first | refine j_aload_n d_Mo_request_54 rfl ?_ | refine j_aload_nq d_Mo_request_54 rfl ?_ | refine j_aload_nN d_Mo_request_54 rfl ?_
            refine j_get d_Mo_request_55 f_Mo_28 (hM_o (by decide)) rfl ?_
            refine j_iload_n d_Mo_request_58 rfl ?_
            refine j_iald (t := 0) d_Mo_request_59 rfl (hM_o (by decide)) rfl (by omega) (by decide) ?_
            refine j_goto (t := 68) d_Mo_request_60 (by decide) ?_
            exact j_iret d_Mo_request_68 rfl ⟨rfl, rfl⟩
        · exfalso; first | exact c37 | omega | exact c37 (inr_nI (by omega) hq) | exact c37 (inr_nI (by decide) (show 2 < 4 by decide))
      · exfalso; first | exact c23 | omega | exact c23 (inr_nI (by omega) hq) | exact c23 (inr_nI (by decide) (show 2 < 4 by decide))
    · exfalso; first | exact c16 | omega | exact c16 (inr_nI (by omega) hq) | exact c16 (inr_nI (by decide) (show 2 < 4 by decide))

set_option maxHeartbeats 4000000 in
set_option maxRecDepth 100000 in
theorem m_request_3 {l : Launch} {D : va_G} {M nx : Nat} {L : Int32} {σ ρ : Sg} {g : Nat → Option va_E} {c : Nat → Nat → Nat} (ic : Pu.Ic c σ) (q : Nat) (hq : q < σ 34 0 0) : jM (G0 l D) m_Mo_request 1 0 0 [.ref (M + 0), .int (nI q), .int (nI 3)] (hM D M L σ ρ g, nx) (fun v h => v = some (.int (nI (ans σ q))) ∧ h = (hM D M L σ ρ g, nx)) := by
  refine jM.of (by decide +kernel) (Nat.le_of_ble_eq_true rfl) rfl ?_
  have r32 := Pu.rq32 ic.1.bk

  refine j_iload_n d_Mo_request_0 rfl ?_
  first | refine j_aload_n d_Mo_request_1 rfl ?_ | refine j_aload_nq d_Mo_request_1 rfl ?_ | refine j_aload_nN d_Mo_request_1 rfl ?_
  refine j_get d_Mo_request_2 f_Mo_97 (hM_o (by decide)) rfl ?_
  refine j_callS0 (As := [_, _]) G0_good G0_E d_Mo_request_5 c_Mo_103 rfl rfl rfl (m_out (nI q) (σ 34 0 0)) (by decide) (Nat.le_of_ble_eq_true rfl) ?_
  rintro _ _ ⟨rfl, rfl⟩
  first | refine c_if_ne (t := 19) d_Mo_request_8 (by decide) (fun c8 => ?_) (fun c8 => ?_) | refine n_if_ne (t := 19) d_Mo_request_8 (by decide) (by omega) (fun c8 => ?_) (fun c8 => ?_) | refine j_if_ne (t := 19) d_Mo_request_8 (by decide) (fun c8 => ?_) (fun c8 => ?_)
  · exfalso; first | exact c8 | omega | exact c8 (inr_nI (by omega) hq) | exact c8 (inr_nI (by decide) (show 3 < 4 by decide))
  · refine j_iload_n d_Mo_request_11 rfl ?_
    refine j_iconst (v := nI 4) d_Mo_request_12 (by decide +kernel) ?_
    refine j_callS0 (As := [_, _]) G0_good G0_E d_Mo_request_13 c_Mo_103 rfl rfl rfl (m_out (nI 3) 4) (by decide) (Nat.le_of_ble_eq_true rfl) ?_
    rintro _ _ ⟨rfl, rfl⟩
    first | refine c_if_eq (t := 22) d_Mo_request_16 (by decide) (fun c16 => ?_) (fun c16 => ?_) | refine n_if_eq (t := 22) d_Mo_request_16 (by decide) (by omega) (fun c16 => ?_) (fun c16 => ?_) | refine j_if_eq (t := 22) d_Mo_request_16 (by decide) (fun c16 => ?_) (fun c16 => ?_)
    · refine j_iload_n d_Mo_request_22 rfl ?_
      first | refine c_if_ne (t := 35) d_Mo_request_23 (by decide) (fun c23 => ?_) (fun c23 => ?_) | refine n_if_ne (t := 35) d_Mo_request_23 (by decide) (by omega) (fun c23 => ?_) (fun c23 => ?_) | refine j_if_ne (t := 35) d_Mo_request_23 (by decide) (fun c23 => ?_) (fun c23 => ?_)
      · refine j_iload_n d_Mo_request_35 rfl ?_
        refine j_iconst (v := nI 1) d_Mo_request_36 (by decide +kernel) ?_
        first | refine nn_icmp_ne (t := 49) d_Mo_request_37 (by decide) (by omega) (by omega) (fun c37 => ?_) (fun c37 => ?_) | refine mm_icmp_ne (t := 49) d_Mo_request_37 (by decide) (by omega) (by omega) (fun c37 => ?_) (fun c37 => ?_) | refine mn_icmp_ne (t := 49) d_Mo_request_37 (by decide) (by omega) (by omega) (fun c37 => ?_) (fun c37 => ?_) | refine nm_icmp_ne (t := 49) d_Mo_request_37 (by decide) (by omega) (by omega) (fun c37 => ?_) (fun c37 => ?_) | refine j_icmp_ne (t := 49) d_Mo_request_37 (by decide) (fun c37 => ?_) (fun c37 => ?_)
        · refine j_iload_n d_Mo_request_49 rfl ?_
          refine j_iconst (v := nI 2) d_Mo_request_50 (by decide +kernel) ?_
          first | refine nn_icmp_ne (t := 63) d_Mo_request_51 (by decide) (by omega) (by omega) (fun c51 => ?_) (fun c51 => ?_) | refine mm_icmp_ne (t := 63) d_Mo_request_51 (by decide) (by omega) (by omega) (fun c51 => ?_) (fun c51 => ?_) | refine mn_icmp_ne (t := 63) d_Mo_request_51 (by decide) (by omega) (by omega) (fun c51 => ?_) (fun c51 => ?_) | refine nm_icmp_ne (t := 63) d_Mo_request_51 (by decide) (by omega) (by omega) (fun c51 => ?_) (fun c51 => ?_) | refine j_icmp_ne (t := 63) d_Mo_request_51 (by decide) (fun c51 => ?_) (fun c51 => ?_)
          · first | refine j_aload_n d_Mo_request_63 rfl ?_ | refine j_aload_nq d_Mo_request_63 rfl ?_ | refine j_aload_nN d_Mo_request_63 rfl ?_
            refine j_iload_n d_Mo_request_64 rfl ?_
            refine j_callV0 (As := [_]) G0_good G0_E d_Mo_request_65 c_Mo_121 rfl rfl (m_answer ic q hq) (hM_o (by decide)) rfl rfl (by decide) (Nat.le_of_ble_eq_true rfl) ?_
            rintro _ _ ⟨rfl, rfl⟩
            exact j_iret d_Mo_request_68 rfl ⟨rfl, rfl⟩
          · exfalso; first | exact c51 | omega | exact c51 (inr_nI (by omega) hq) | exact c51 (inr_nI (by decide) (show 3 < 4 by decide))
        · exfalso; first | exact c37 | omega | exact c37 (inr_nI (by omega) hq) | exact c37 (inr_nI (by decide) (show 3 < 4 by decide))
      · exfalso; first | exact c23 | omega | exact c23 (inr_nI (by omega) hq) | exact c23 (inr_nI (by decide) (show 3 < 4 by decide))
    · exfalso; first | exact c16 | omega | exact c16 (inr_nI (by omega) hq) | exact c16 (inr_nI (by decide) (show 3 < 4 by decide))

set_option maxHeartbeats 4000000 in
set_option maxRecDepth 100000 in
theorem m_transaction_o {l : Launch} {D : va_G} {M nx : Nat} {L : Int32} {σ ρ : Sg} {g : Nat → Option va_E} (t : Int32) (ht : ¬ inr t (σ 33 0 0)) : jM (G0 l D) m_Mo_transaction 1 0 0 [.ref (M + 0), .int t] (hM D M L σ ρ g, nx) (fun v h => v = some (.int (mI 0)) ∧ h = (hM D M L σ ρ g, nx)) := by
  refine jM.of (by decide +kernel) (Nat.le_of_ble_eq_true rfl) rfl ?_
  refine j_iload_n d_Mo_transaction_0 rfl ?_
  first | refine j_aload_n d_Mo_transaction_1 rfl ?_ | refine j_aload_nq d_Mo_transaction_1 rfl ?_ | refine j_aload_nN d_Mo_transaction_1 rfl ?_
  refine j_get d_Mo_transaction_2 f_Mo_100 (hM_o (by decide)) rfl ?_
  refine j_callS0 (As := [_, _]) G0_good G0_E d_Mo_transaction_5 c_Mo_103 rfl rfl rfl (m_out t (σ 33 0 0)) (by decide) (Nat.le_of_ble_eq_true rfl) ?_
  rintro _ _ ⟨rfl, rfl⟩
  first | refine c_if_eq (t := 15) d_Mo_transaction_8 (by decide) (fun c8 => ?_) (fun c8 => ?_) | refine n_if_eq (t := 15) d_Mo_transaction_8 (by decide) (by omega) (fun c8 => ?_) (fun c8 => ?_) | refine j_if_eq (t := 15) d_Mo_transaction_8 (by decide) (fun c8 => ?_) (fun c8 => ?_)
  · exfalso; first | exact c8 | omega | exact c8 ht
  · refine j_iconst (v := mI 0) d_Mo_transaction_11 (by decide +kernel) ?_
    refine j_goto (t := 21) d_Mo_transaction_12 (by decide) ?_
    exact j_iret d_Mo_transaction_21 rfl ⟨rfl, rfl⟩

set_option maxHeartbeats 4000000 in
set_option maxRecDepth 100000 in
theorem m_transaction_i {l : Launch} {D : va_G} {M nx : Nat} {L : Int32} {σ ρ : Sg} {g : Nat → Option va_E} (h8 : σ 33 0 0 ≤ 8) (t : Nat) (ht : t < σ 33 0 0) : jM (G0 l D) m_Mo_transaction 1 0 0 [.ref (M + 0), .int (nI t)] (hM D M L σ ρ g, nx) (fun v h => v = some (.int (nI (σ 3 0 t))) ∧ h = (hM D M L σ ρ g, nx)) := by
  refine jM.of (by decide +kernel) (Nat.le_of_ble_eq_true rfl) rfl ?_
  refine j_iload_n d_Mo_transaction_0 rfl ?_
  first | refine j_aload_n d_Mo_transaction_1 rfl ?_ | refine j_aload_nq d_Mo_transaction_1 rfl ?_ | refine j_aload_nN d_Mo_transaction_1 rfl ?_
  refine j_get d_Mo_transaction_2 f_Mo_100 (hM_o (by decide)) rfl ?_
  refine j_callS0 (As := [_, _]) G0_good G0_E d_Mo_transaction_5 c_Mo_103 rfl rfl rfl (m_out (nI t) (σ 33 0 0)) (by decide) (Nat.le_of_ble_eq_true rfl) ?_
  rintro _ _ ⟨rfl, rfl⟩
  first | refine c_if_eq (t := 15) d_Mo_transaction_8 (by decide) (fun c8 => ?_) (fun c8 => ?_) | refine n_if_eq (t := 15) d_Mo_transaction_8 (by decide) (by omega) (fun c8 => ?_) (fun c8 => ?_) | refine j_if_eq (t := 15) d_Mo_transaction_8 (by decide) (fun c8 => ?_) (fun c8 => ?_)
  · first | refine j_aload_n d_Mo_transaction_15 rfl ?_ | refine j_aload_nq d_Mo_transaction_15 rfl ?_ | refine j_aload_nN d_Mo_transaction_15 rfl ?_
    refine j_get d_Mo_transaction_16 f_Mo_16 (hM_o (by decide)) rfl ?_
    refine j_iload_n d_Mo_transaction_19 rfl ?_
    refine j_iald (t := 0) d_Mo_transaction_20 rfl (hM_o (by decide)) rfl (by omega) (by decide) ?_
    exact j_iret d_Mo_transaction_21 rfl ⟨rfl, rfl⟩
  · exfalso; first | exact c8 | omega | exact c8 (inr_nI (by omega) ht)
