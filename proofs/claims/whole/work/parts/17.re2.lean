/-! Replica: sending, and the rules (g_re2.py) -/
section JN2
variable {G : jG} {Z : State → (Nat → Prop) → Prop} {u : jMt} {d n sn pc : Nat} {Q : Option Value → jH → Prop} {lc : List (Option Value)} {st : List Value} {h : jH}
theorem j_callI0 {i np d1 b : Nat} {w : jMt} {As rest : List Value} {Q1 : Option Value → jH → Prop} (hg : jGood G) (hE : jE G) (hd : jd u pc (.invokespecial i) 3) (hc : jCI G u.1.cls i w np) (hst : st = As.reverse ++ .ref b :: rest) (hn : As.length = np) (hM : jM G w d1 0 0 (.ref b :: As) h Q1) (hdd : d1 + 1 ≤ d) (hrest : (rest.map fun v => v.category).sum ≤ 8)
    (kk : ∀ v h', Q1 v h' → J G Z u d Q n sn (pc + 3) lc (v.toList ++ rest) h') : J G Z u d Q n sn pc lc st h := by
  have := j_callI (n := n) (sn := sn) hg hE hd hc hst hn hM hdd hrest kk
  simpa using this
/-- a call that makes n1 cells, after which none are made -/
theorem j_callV1 {i np d1 n1 s1 b ci : Nat} {w : jMt} {As rest : List Value} {Q1 : Option Value → jH → Prop} {vs : List Value} {r : vw_C} (hg : jGood G) (hE : jE G) (hd : jd u pc (.invokevirtual i) 3) (hc : jCV G u.1.cls i w np) (hst : st = As.reverse ++ .ref b :: rest) (hn : As.length = np) (hM : jM G w d1 n1 s1 (.ref b :: As) h Q1) (hb : h.1 b = some (.inr (ci, vs))) (hr : G.2.2.1[ci]? = some r) (hrc : r.1 = w.1.cls) (hdd : d1 + 1 ≤ d) (hrest : (rest.map fun v => v.category).sum ≤ 8)
    (kk : ∀ v h', Q1 v h' → J G Z u d Q 0 0 (pc + 3) lc (v.toList ++ rest) h') : J G Z u d Q n1 s1 pc lc st h := by
  have := j_callV (n := 0) (sn := 0) hg hE hd hc hst hn hM hb hr hrc hdd hrest kk
  simpa using this
end JN2
theorem vu_at {f : Nat → Option va_E} {a : Nat} {x : va_E} : va_up f a (some x) a = some x := by simp [va_up]
theorem vu_p {D : va_G} {B nx : Nat} {σ : Sg} {κ : Kp} {g : Nat → Option va_E} {p c : Nat} {x : va_E} (hp : p < 8) (hnx : B + 93 ≤ nx) (hc : c < 9) : va_up (hC D B σ κ g) nx (some x) (aP B p + c) = some (pcell D B σ κ p c) := by
  have h1 := aP_lt (B := B) hp
  rw [va_up, if_neg (by omega)]
  exact hC_p hp hc

def Kclr (κ : Kp) (p i : Nat) : Kp := (va_up κ.1 p (fun j => if j < i then none else κ.1 p j), κ.2)
theorem Kclr_0 {κ : Kp} {p : Nat} : Kclr κ p 0 = κ := by
  unfold Kclr
  congr 1
  funext q
  by_cases h : q = p
  · subst h; simp [va_up]
  · simp [va_up, h]
theorem Kclr_s {κ : Kp} {p i : Nat} : Kib (Kclr κ p i) p i none = Kclr κ p (i + 1) := by
  unfold Kclr Kib
  simp only
  congr 1
  funext q
  by_cases h : q = p
  · subst h
    simp only [va_up, if_true]
    funext j
    by_cases h2 : j = i
    · subst h2; simp [va_up]
    · by_cases h3 : j < i
      · simp [va_up, h2, h3, Nat.lt_succ_of_lt h3]
      · have : ¬ j < i + 1 := by omega
        simp [va_up, h2, h3, this]
  · simp [va_up, h]

set_option maxHeartbeats 4000000 in
set_option maxRecDepth 100000 in
theorem lp_In_clear {l : Launch} {D : va_G} {B nx : Nat} {σ : Sg} {κ : Kp} {g : Nat → Option va_E} {p : Nat} (hp : p < 8) : ∀ (m : Nat) (i : Nat), i ≤ 72 → 72 - i < m → J (G0 l D) jT m_In_clear 0 (fun v h => v = none ∧ h = (hC D B (σ) (Kclr κ p 72) g, nx)) 0 0 2 [some (.ref (aP B p + 4)), some (.int (nI i))] [] (hC D B σ (Kclr κ p i) g, nx) := by
  intro m
  induction m with
  | zero =>
    intros
    exfalso
    omega
  | succ m ih =>
    intro i h1 h2
    refine j_iload_n d_In_clear_2 rfl ?_
    first | refine j_aload_n d_In_clear_3 rfl ?_ | refine j_aload_nq d_In_clear_3 rfl ?_ | refine j_aload_nN d_In_clear_3 rfl ?_
    refine j_get d_In_clear_4 f_In_11 (hC_p hp (by decide)) rfl ?_
    refine j_alen (t := 3) (v := nI 72) d_In_clear_7 rfl (hC_p hp (by decide)) rfl ?_
    first | refine nn_icmp_ge (t := 24) d_In_clear_8 (by decide) (by omega) (by omega) (fun c8 => ?_) (fun c8 => ?_) | refine mm_icmp_ge (t := 24) d_In_clear_8 (by decide) (by omega) (by omega) (fun c8 => ?_) (fun c8 => ?_) | refine mn_icmp_ge (t := 24) d_In_clear_8 (by decide) (by omega) (by omega) (fun c8 => ?_) (fun c8 => ?_) | refine nm_icmp_ge (t := 24) d_In_clear_8 (by decide) (by omega) (by omega) (fun c8 => ?_) (fun c8 => ?_) | refine j_icmp_ge (t := 24) d_In_clear_8 (by decide) (fun c8 => ?_) (fun c8 => ?_)
    · have hi : i = 72 := by omega
      subst hi
      exact j_vret d_In_clear_24 rfl ⟨rfl, rfl⟩
    · first | refine j_aload_n d_In_clear_11 rfl ?_ | refine j_aload_nq d_In_clear_11 rfl ?_ | refine j_aload_nN d_In_clear_11 rfl ?_
      refine j_get d_In_clear_12 f_In_11 (hC_p hp (by decide)) rfl ?_
      refine j_iload_n d_In_clear_15 rfl ?_
      refine j_null d_In_clear_16 ?_
      refine j_aastN (t := 3) d_In_clear_17 rfl (hC_p hp (by decide)) rfl (by omega) (by decide) (J.hq (hC_wib hp) ?_)
      rw [Kclr_s]
      refine n_iinc (k := 1) d_In_clear_18 (by decide +kernel) rfl (by decide) rfl rfl ?_
      refine j_goto (t := 2) d_In_clear_21 (by decide) ?_
      exact ih (i + 1) (by omega) (by omega)

set_option maxHeartbeats 4000000 in
set_option maxRecDepth 100000 in
theorem t_In_clear {l : Launch} {D : va_G} {B nx : Nat} {σ : Sg} {κ : Kp} {g : Nat → Option va_E} {p : Nat} (hp : p < 8) : jM (G0 l D) m_In_clear 0 0 0 [.ref (aP B p + 4)] (hC D B σ κ g, nx) (fun v h => v = none ∧ h = (hC D B (σ) (Kclr κ p 72) g, nx)) := by
  refine jM.of (by decide +kernel) (Nat.le_of_ble_eq_true rfl) rfl ?_
  refine j_iconst (v := nI 0) d_In_clear_0 (by decide +kernel) ?_
  refine j_istore_n d_In_clear_1 (by decide) rfl rfl ?_
  have := lp_In_clear (l := l) (D := D) (B := B) (nx := nx) (σ := σ) (κ := κ) (g := g) hp 73 0 (by omega) (by omega)
  rw [Kclr_0] at this
  exact this

set_option maxHeartbeats 4000000 in
set_option maxRecDepth 100000 in
theorem t_Re_send {l : Launch} {D : va_G} {B nx : Nat} {σ : Sg} {κ : Kp} {g : Nat → Option va_E} {p : Nat} (hp : p < 8) (hb : bd σ) (hnx : B + 93 ≤ nx) (h918 : σ 20 (p / 4) 0 < 918) (hr : σ 11 p 0 < 6) (k x y : Nat) (hk : k < 3) : jM (G0 l D) m_Re_send 2 1 7 [.ref (aP B p + 3), .int (nI k), .int (mI x), .int (mI y)] (hC D B σ κ g, nx) (fun v h => v = none ∧ h = (hC D B (sSend σ p k x y) (Ksend σ κ nx p k x y) g, nx + 1)) := by
  refine jM.of (by decide +kernel) (Nat.le_of_ble_eq_true rfl) rfl ?_
  have hi : p % 4 < 4 := Nat.mod_lt _ (by decide)
  have hs : p / 4 < 2 := by omega
  have hpr1 : (Knew κ nx (msgF k (p % 4) (σ 10 p 0) (σ 11 p 0) x y (2 ^ (p % 4)))).2.2.1 nx = true := by simp [Knew, va_up]
  have hpr2 : (Klg (Knew κ nx (msgF k (p % 4) (σ 10 p 0) (σ 11 p 0) x y (2 ^ (p % 4)))) (p / 4) (σ 20 (p / 4) 0) (some nx)).2.2.1 nx = true := by simp [Klg, Knew, va_up]
  have e0 : (Klg (Knew κ nx (msgF k (p % 4) (σ 10 p 0) (σ 11 p 0) x y (2 ^ (p % 4)))) (p / 4) (σ 20 (p / 4) 0) (some nx)).2.2.2 nx = msgF k (p % 4) (σ 10 p 0) (σ 11 p 0) x y (2 ^ (p % 4)) := by simp [Klg, Knew, va_up]
  refine j_new d_Re_send_0 n_Re_60 ?_
  refine j_dup d_Re_send_3 rfl ?_
  refine j_iload_n d_Re_send_4 rfl ?_
  first | refine j_aload_n d_Re_send_5 rfl ?_ | refine j_aload_nq d_Re_send_5 rfl ?_ | refine j_aload_nN d_Re_send_5 rfl ?_
  refine j_get d_Re_send_6 f_Re_36 (vu_p hp hnx (by decide)) rfl ?_
  first | refine j_aload_n d_Re_send_9 rfl ?_ | refine j_aload_nq d_Re_send_9 rfl ?_ | refine j_aload_nN d_Re_send_9 rfl ?_
  refine j_get d_Re_send_10 f_Re_65 (vu_p hp hnx (by decide)) rfl ?_
  first | refine j_aload_n d_Re_send_13 rfl ?_ | refine j_aload_nq d_Re_send_13 rfl ?_ | refine j_aload_nN d_Re_send_13 rfl ?_
  refine j_get d_Re_send_14 f_Re_93 (vu_p hp hnx (by decide)) rfl ?_
  refine j_iload_n d_Re_send_17 rfl ?_
  refine j_iload_n d_Re_send_18 rfl ?_
  refine j_callI0 (As := [_, _, _, _, _, _]) G0_good G0_E d_Re_send_19 c_Re_84 rfl rfl (t_Me_init vu_at k (p % 4) (σ 10 p 0) (σ 11 p 0) x y hi) (by decide) (Nat.le_of_ble_eq_true rfl) ?_
  rintro _ _ ⟨rfl, rfl⟩
  refine J.hq (vu_vu.trans (hC_new (m := msgF k (p % 4) (σ 10 p 0) (σ 11 p 0) x y (2 ^ (p % 4))) hnx)) ?_
  first | refine j_astore d_Re_send_22 (by decide) rfl rfl ?_ | refine j_astoreq d_Re_send_22 (by decide) rfl rfl ?_ | refine j_astoreN d_Re_send_22 (by decide) rfl rfl ?_
  first | refine j_aload_n d_Re_send_24 rfl ?_ | refine j_aload_nq d_Re_send_24 rfl ?_ | refine j_aload_nN d_Re_send_24 rfl ?_
  refine j_get d_Re_send_25 f_Re_47 (hC_p hp (by decide)) rfl ?_
  first | refine j_aload d_Re_send_28 rfl ?_ | refine j_aloadq d_Re_send_28 rfl ?_ | refine j_aloadN d_Re_send_28 rfl ?_
  refine j_callV0 (As := [_]) G0_good G0_E d_Re_send_30 c_Re_199 rfl rfl (t_Lo_add hs hb h918 hnx hpr1) (hC_s hs (by decide)) rfl rfl (by decide) (Nat.le_of_ble_eq_true rfl) ?_
  rintro _ _ ⟨rfl, rfl⟩
  first | refine j_aload_n d_Re_send_33 rfl ?_ | refine j_aload_nq d_Re_send_33 rfl ?_ | refine j_aload_nN d_Re_send_33 rfl ?_
  refine j_get d_Re_send_34 f_Re_12 (hC_p hp (by decide)) rfl ?_
  first | refine j_aload d_Re_send_37 rfl ?_ | refine j_aloadq d_Re_send_37 rfl ?_ | refine j_aloadN d_Re_send_37 rfl ?_
  refine j_callV0 (As := [_]) G0_good G0_E d_Re_send_39 c_Re_73 rfl rfl (t_In_put hp hnx hpr2 (by rw [e0]; exact hk) (by rw [e0]; exact hr) (by rw [e0]; exact hi)) (hC_p hp (by decide)) rfl rfl (by decide) (Nat.le_of_ble_eq_true rfl) ?_
  rintro _ _ ⟨rfl, rfl⟩
  exact j_vret d_Re_send_42 rfl ⟨rfl, by rw [e0, hC_send (k := k) (x := x) (y := y)]; rfl⟩

set_option maxHeartbeats 4000000 in
set_option maxRecDepth 100000 in
theorem t_Re_sendVote {l : Launch} {D : va_G} {B nx : Nat} {σ : Sg} {κ : Kp} {g : Nat → Option va_E} {p : Nat} (hp : p < 8) (hb : bd σ) (hnx : B + 93 ≤ nx) (h918 : σ 20 (p / 4) 0 < 918) (hr : σ 11 p 0 < 6) (x : Nat) : jM (G0 l D) m_Re_sendVote 3 1 7 [.ref (aP B p + 3), .int (mI x)] (hC D B σ κ g, nx) (fun v h => v = none ∧ h = (hC D B (U (sSend σ p 1 x 0) 12 p 0 1) (Ksend σ κ nx p 1 x 0) g, nx + 1)) := by
  refine jM.of (by decide +kernel) (Nat.le_of_ble_eq_true rfl) rfl ?_
  first | refine j_aload_n d_Re_sendVote_0 rfl ?_ | refine j_aload_nq d_Re_sendVote_0 rfl ?_ | refine j_aload_nN d_Re_sendVote_0 rfl ?_
  refine j_iconst (v := nI 1) d_Re_sendVote_1 (by decide +kernel) ?_
  refine j_iload_n d_Re_sendVote_2 rfl ?_
  refine j_iconst (v := mI 0) d_Re_sendVote_3 (by decide +kernel) ?_
  refine j_callV1 (As := [_, _, _]) G0_good G0_E d_Re_sendVote_4 c_Re_176 rfl rfl (t_Re_send hp hb hnx h918 hr 1 x 0 (by decide)) (hC_p hp (by decide)) rfl rfl (by decide) (Nat.le_of_ble_eq_true rfl) ?_
  rintro _ _ ⟨rfl, rfl⟩
  first | refine j_aload_n d_Re_sendVote_7 rfl ?_ | refine j_aload_nq d_Re_sendVote_7 rfl ?_ | refine j_aload_nN d_Re_sendVote_7 rfl ?_
  refine j_iconst (v := nI 1) d_Re_sendVote_8 (by decide +kernel) ?_
  refine j_put d_Re_sendVote_9 p_Re_87 (hC_p hp (by decide)) rfl (by first | rfl | decide +kernel) (Nat.le_of_ble_eq_true rfl) (J.hq (w12 hp) ?_)
  exact j_vret d_Re_sendVote_12 rfl ⟨rfl, rfl⟩

set_option maxHeartbeats 4000000 in
set_option maxRecDepth 100000 in
theorem t_Re_sendSeal {l : Launch} {D : va_G} {B nx : Nat} {σ : Sg} {κ : Kp} {g : Nat → Option va_E} {p : Nat} (hp : p < 8) (hb : bd σ) (hnx : B + 93 ≤ nx) (h918 : σ 20 (p / 4) 0 < 918) (hr : σ 11 p 0 < 6) (x : Nat) : jM (G0 l D) m_Re_sendSeal 3 1 7 [.ref (aP B p + 3), .int (mI x)] (hC D B σ κ g, nx) (fun v h => v = none ∧ h = (hC D B (U (sSend σ p 2 x 0) 12 p 0 2) (Ksend σ κ nx p 2 x 0) g, nx + 1)) := by
  refine jM.of (by decide +kernel) (Nat.le_of_ble_eq_true rfl) rfl ?_
  first | refine j_aload_n d_Re_sendSeal_0 rfl ?_ | refine j_aload_nq d_Re_sendSeal_0 rfl ?_ | refine j_aload_nN d_Re_sendSeal_0 rfl ?_
  refine j_iconst (v := nI 2) d_Re_sendSeal_1 (by decide +kernel) ?_
  refine j_iload_n d_Re_sendSeal_2 rfl ?_
  refine j_iconst (v := mI 0) d_Re_sendSeal_3 (by decide +kernel) ?_
  refine j_callV1 (As := [_, _, _]) G0_good G0_E d_Re_sendSeal_4 c_Re_176 rfl rfl (t_Re_send hp hb hnx h918 hr 2 x 0 (by decide)) (hC_p hp (by decide)) rfl rfl (by decide) (Nat.le_of_ble_eq_true rfl) ?_
  rintro _ _ ⟨rfl, rfl⟩
  first | refine j_aload_n d_Re_sendSeal_7 rfl ?_ | refine j_aload_nq d_Re_sendSeal_7 rfl ?_ | refine j_aload_nN d_Re_sendSeal_7 rfl ?_
  refine j_iconst (v := nI 2) d_Re_sendSeal_8 (by decide +kernel) ?_
  refine j_put d_Re_sendSeal_9 p_Re_87 (hC_p hp (by decide)) rfl (by first | rfl | decide +kernel) (Nat.le_of_ble_eq_true rfl) (J.hq (w12 hp) ?_)
  exact j_vret d_Re_sendSeal_12 rfl ⟨rfl, rfl⟩
