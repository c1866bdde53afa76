/-! The class's constructors (g_ini.py): a world that grows: cells C from B up to n, the rest g. -/
def Wd (B : Nat) (C : Nat → va_E) (n : Nat) (g : Nat → Option va_E) : Nat → Option va_E := fun a => if B ≤ a ∧ a < n then some (C a) else g a
def cu (C : Nat → va_E) (a : Nat) (x : va_E) : Nat → va_E := fun b => if b = a then x else C b
section WW
variable {B n a b : Nat} {C : Nat → va_E} {x y : va_E} {g : Nat → Option va_E}
theorem cu_a : cu C a x a = x := if_pos rfl
theorem cu_n (h : b ≠ a) : cu C a x b = C b := if_neg h
theorem cu_cu : cu (cu C a x) a y = cu C a y := by
  funext b
  unfold cu
  by_cases h : b = a
  · rw [if_pos h, if_pos h]
  · rw [if_neg h, if_neg h, if_neg h]
theorem Wd_rd (h : B ≤ a) (h' : a < n) (e : C a = x) : Wd B C n g a = some x := by
  unfold Wd; rw [if_pos ⟨h, h'⟩, e]
theorem Wd_new (h : B ≤ n) : va_up (Wd B C n g) n (some x) = Wd B (cu C n x) (n + 1) g := by
  funext b
  unfold va_up Wd cu
  by_cases e : b = n
  · subst e; rw [if_pos rfl, if_pos ⟨h, by omega⟩, if_pos rfl]
  · rw [if_neg e]
    by_cases c : B ≤ b ∧ b < n
    · rw [if_pos c, if_pos ⟨c.1, by omega⟩, if_neg e]
    · rw [if_neg c, if_neg (by omega)]
theorem Wd_put (h : B ≤ a) (h' : a < n) : va_up (Wd B C n g) a (some x) = Wd B (cu C a x) n g := by
  funext b
  unfold va_up Wd cu
  by_cases e : b = a
  · subst e; rw [if_pos rfl, if_pos ⟨h, h'⟩, if_pos rfl]
  · rw [if_neg e]
    by_cases c : B ≤ b ∧ b < n
    · rw [if_pos c, if_pos c, if_neg e]
    · rw [if_neg c, if_neg c]
end WW

set_option maxHeartbeats 4000000 in
set_option maxRecDepth 100000 in
theorem i_Ch {l : Launch} {D : va_G} {B n a : Nat} {C : Nat → va_E} {g : Nat → Option va_E} (hB : B ≤ a) (ha : a < n) (c0 : C a = .inr (0, [.int 0, .int 0])) : jM (G0 l D) m_Ch_init 1 0 0 [.ref a] (Wd B C n g, n) (fun v h => v = none ∧ h = (Wd B (cu C a (.inr (0, [.int (mI 0), .int (mI 0)]))) (n) g, n)) := by
  refine jM.of (by decide +kernel) (Nat.le_of_ble_eq_true rfl) rfl ?_
  first | refine j_aload_n d_Ch_init_0 rfl ?_ | refine j_aload_nq d_Ch_init_0 rfl ?_ | refine j_aload_nN d_Ch_init_0 rfl ?_
  refine j_objInit d_Ch_init_1 o_Ch_3 o_i o_c (by decide) ?_
  first | refine j_aload_n d_Ch_init_4 rfl ?_ | refine j_aload_nq d_Ch_init_4 rfl ?_ | refine j_aload_nN d_Ch_init_4 rfl ?_
  refine j_iconst (v := mI 0) d_Ch_init_5 (by decide +kernel) ?_
  refine j_put d_Ch_init_6 p_Ch_9 (Wd_rd (by omega) (by omega) c0) rfl (by first | rfl | decide +kernel) (Nat.le_of_ble_eq_true rfl) (J.hq (Wd_put (by omega) (by omega)) ?_)
  first | refine j_aload_n d_Ch_init_9 rfl ?_ | refine j_aload_nq d_Ch_init_9 rfl ?_ | refine j_aload_nN d_Ch_init_9 rfl ?_
  refine j_iconst (v := mI 0) d_Ch_init_10 (by decide +kernel) ?_
  refine j_put d_Ch_init_11 p_Ch_15 (Wd_rd (by omega) (by omega) cu_a) rfl (by first | rfl | decide +kernel) (Nat.le_of_ble_eq_true rfl) (J.hq (Wd_put (by omega) (by omega)) ?_)
  exact j_vret d_Ch_init_14 rfl ⟨rfl, by rw [cu_cu]; rfl⟩

set_option maxHeartbeats 4000000 in
set_option maxRecDepth 100000 in
theorem i_In {l : Launch} {D : va_G} {B n a : Nat} {C : Nat → va_E} {g : Nat → Option va_E} (hB : B ≤ a) (ha : a < n) (c0 : C a = .inr (2, [.null])) : jM (G0 l D) m_In_init 1 1 72 [.ref a] (Wd B C n g, n) (fun v h => v = none ∧ h = (Wd B (cu (cu C n (jRA (D.1 23) 72 (fun _ => none))) a (.inr (2, [.ref n]))) (n + 1) g, n + 1)) := by
  refine jM.of (by decide +kernel) (Nat.le_of_ble_eq_true rfl) rfl ?_
  first | refine j_aload_n d_In_init_0 rfl ?_ | refine j_aload_nq d_In_init_0 rfl ?_ | refine j_aload_nN d_In_init_0 rfl ?_
  refine j_objInit d_In_init_1 o_In_3 o_i o_c (by decide) ?_
  first | refine j_aload_n d_In_init_4 rfl ?_ | refine j_aload_nq d_In_init_4 rfl ?_ | refine j_aload_nN d_In_init_4 rfl ?_
  refine j_bipush (v := nI 72) d_In_init_5 (by decide +kernel) ?_
  refine j_newq (t := 3) (N := 72) d_In_init_7 rfl a_In_9 (fun s h => h.2.2.2.2.2.1) rfl (by decide) ?_
  refine J.hq (Wd_new (by omega)) ?_
  refine j_putF d_In_init_10 p_In_11 rfl (Wd_rd (by omega) (by omega) ((cu_n (by omega)).trans c0)) rfl (by first | rfl | decide +kernel) (Nat.le_of_ble_eq_true rfl) (J.hq (Wd_put (by omega) (by omega)) ?_)
  exact j_vret d_In_init_13 rfl ⟨rfl, rfl⟩

set_option maxHeartbeats 4000000 in
set_option maxRecDepth 100000 in
theorem i_Lo {l : Launch} {D : va_G} {B n a : Nat} {C : Nat → va_E} {g : Nat → Option va_E} (hB : B ≤ a) (ha : a < n) (c0 : C a = .inr (4, [.null, .int 0])) : jM (G0 l D) m_Lo_init 1 1 918 [.ref a] (Wd B C n g, n) (fun v h => v = none ∧ h = (Wd B (cu (cu C n (jRA (D.1 23) 918 (fun _ => none))) a (.inr (4, [.ref n, .int 0]))) (n + 1) g, n + 1)) := by
  refine jM.of (by decide +kernel) (Nat.le_of_ble_eq_true rfl) rfl ?_
  first | refine j_aload_n d_Lo_init_0 rfl ?_ | refine j_aload_nq d_Lo_init_0 rfl ?_ | refine j_aload_nN d_Lo_init_0 rfl ?_
  refine j_objInit d_Lo_init_1 o_Lo_3 o_i o_c (by decide) ?_
  first | refine j_aload_n d_Lo_init_4 rfl ?_ | refine j_aload_nq d_Lo_init_4 rfl ?_ | refine j_aload_nN d_Lo_init_4 rfl ?_
  refine j_sipush (v := nI 918) d_Lo_init_5 (by decide +kernel) ?_
  refine j_newq (t := 3) (N := 918) d_Lo_init_8 rfl a_Lo_9 (fun s h => h.2.2.2.2.2.1) rfl (by decide) ?_
  refine J.hq (Wd_new (by omega)) ?_
  refine j_putF d_Lo_init_11 p_Lo_11 rfl (Wd_rd (by omega) (by omega) ((cu_n (by omega)).trans c0)) rfl (by first | rfl | decide +kernel) (Nat.le_of_ble_eq_true rfl) (J.hq (Wd_put (by omega) (by omega)) ?_)
  exact j_vret d_Lo_init_14 rfl ⟨rfl, rfl⟩

theorem bf2 : ∀ b, b < 2 → fits .boolean (.int (nI b)) = true := by
  intro b h
  have : b = 0 ∨ b = 1 := by omega
  rcases this with e | e <;> subst e <;> rfl
/-- old cells but a stay -/
def KP (C C' : Nat → va_E) (a n : Nat) : Prop := ∀ b, b < n → b ≠ a → C' b = C b

set_option maxHeartbeats 4000000 in
set_option maxRecDepth 100000 in
theorem i_Rb {l : Launch} {D : va_G} {B n a : Nat} {C : Nat → va_E} {g : Nat → Option va_E} (hB : B ≤ a) (ha : a < n) (c0 : C a = .inr (6, [.null, .null, .null, .null, .null, .int 0])) : jM (G0 l D) m_Rb_init 1 5 160 [.ref a] (Wd B C n g, n) (fun v h => v = none ∧ ∃ C', h = (Wd B C' (n + 5) g, n + 5) ∧ KP C C' a n ∧ C' (a) = .inr (6, [.ref n, .ref (n + 1), .ref (n + 2), .ref (n + 3), .ref (n + 4), .int 0]) ∧ C' (n) = jIA (D.1 20) 32 (fun _ => 0) ∧ C' (n + 1) = jIA (D.1 20) 32 (fun _ => 0) ∧ C' (n + 2) = jIA (D.1 20) 32 (fun _ => 0) ∧ C' (n + 3) = jIA (D.1 20) 32 (fun _ => 0) ∧ C' (n + 4) = jIA (D.1 20) 32 (fun _ => 0)) := by
  refine jM.of (by decide +kernel) (Nat.le_of_ble_eq_true rfl) rfl ?_
  first | refine j_aload_n d_Rb_init_0 rfl ?_ | refine j_aload_nq d_Rb_init_0 rfl ?_ | refine j_aload_nN d_Rb_init_0 rfl ?_
  refine j_objInit d_Rb_init_1 o_Rb_3 o_i o_c (by decide) ?_
  first | refine j_aload_n d_Rb_init_4 rfl ?_ | refine j_aload_nq d_Rb_init_4 rfl ?_ | refine j_aload_nN d_Rb_init_4 rfl ?_
  refine j_bipush (v := nI 32) d_Rb_init_5 (by decide +kernel) ?_
  refine j_newi (t := 0) (N := 32) d_Rb_init_7 rfl r_int rfl (by decide) ?_
  refine J.hq (Wd_new (by omega)) ?_
  refine j_putF d_Rb_init_9 p_Rb_9 rfl (Wd_rd (by omega) (by omega) ((cu_n (by omega)).trans c0)) rfl (by first | rfl | decide +kernel) (Nat.le_of_ble_eq_true rfl) (J.hq (Wd_put (by omega) (by omega)) ?_)
  first | refine j_aload_n d_Rb_init_12 rfl ?_ | refine j_aload_nq d_Rb_init_12 rfl ?_ | refine j_aload_nN d_Rb_init_12 rfl ?_
  refine j_bipush (v := nI 32) d_Rb_init_13 (by decide +kernel) ?_
  refine j_newi (t := 0) (N := 32) d_Rb_init_15 rfl r_int rfl (by decide) ?_
  refine J.hq (Wd_new (by omega)) ?_
  refine j_putF d_Rb_init_17 p_Rb_15 rfl (Wd_rd (by omega) (by omega) ((cu_n (by omega)).trans cu_a)) rfl (by first | rfl | decide +kernel) (Nat.le_of_ble_eq_true rfl) (J.hq (Wd_put (by omega) (by omega)) ?_)
  first | refine j_aload_n d_Rb_init_20 rfl ?_ | refine j_aload_nq d_Rb_init_20 rfl ?_ | refine j_aload_nN d_Rb_init_20 rfl ?_
  refine j_bipush (v := nI 32) d_Rb_init_21 (by decide +kernel) ?_
  refine j_newi (t := 0) (N := 32) d_Rb_init_23 rfl r_int rfl (by decide) ?_
  refine J.hq (Wd_new (by omega)) ?_
  refine j_putF d_Rb_init_25 p_Rb_18 rfl (Wd_rd (by omega) (by omega) ((cu_n (by omega)).trans cu_a)) rfl (by first | rfl | decide +kernel) (Nat.le_of_ble_eq_true rfl) (J.hq (Wd_put (by omega) (by omega)) ?_)
  first | refine j_aload_n d_Rb_init_28 rfl ?_ | refine j_aload_nq d_Rb_init_28 rfl ?_ | refine j_aload_nN d_Rb_init_28 rfl ?_
  refine j_bipush (v := nI 32) d_Rb_init_29 (by decide +kernel) ?_
  refine j_newi (t := 0) (N := 32) d_Rb_init_31 rfl r_int rfl (by decide) ?_
  refine J.hq (Wd_new (by omega)) ?_
  refine j_putF d_Rb_init_33 p_Rb_21 rfl (Wd_rd (by omega) (by omega) ((cu_n (by omega)).trans cu_a)) rfl (by first | rfl | decide +kernel) (Nat.le_of_ble_eq_true rfl) (J.hq (Wd_put (by omega) (by omega)) ?_)
  first | refine j_aload_n d_Rb_init_36 rfl ?_ | refine j_aload_nq d_Rb_init_36 rfl ?_ | refine j_aload_nN d_Rb_init_36 rfl ?_
  refine j_bipush (v := nI 32) d_Rb_init_37 (by decide +kernel) ?_
  refine j_newi (t := 0) (N := 32) d_Rb_init_39 rfl r_int rfl (by decide) ?_
  refine J.hq (Wd_new (by omega)) ?_
  refine j_putF d_Rb_init_41 p_Rb_24 rfl (Wd_rd (by omega) (by omega) ((cu_n (by omega)).trans cu_a)) rfl (by first | rfl | decide +kernel) (Nat.le_of_ble_eq_true rfl) (J.hq (Wd_put (by omega) (by omega)) ?_)
  exact j_vret d_Rb_init_44 rfl ⟨rfl, _, rfl, fun b h1 h2 => by repeat rw [cu_n (by omega)], by repeat (first | exact cu_a | rw [cu_n (by omega)]), by repeat (first | exact cu_a | rw [cu_n (by omega)]), by repeat (first | exact cu_a | rw [cu_n (by omega)]), by repeat (first | exact cu_a | rw [cu_n (by omega)]), by repeat (first | exact cu_a | rw [cu_n (by omega)]), by repeat (first | exact cu_a | rw [cu_n (by omega)])⟩

theorem up_am {j : Nat} : upd (fun k => nI (if k < j then 100 else 0)) j (nI 100) = fun k => nI (if k < j + 1 then 100 else 0) := by
  funext k
  show (if k = j then nI 100 else nI (if k < j then 100 else 0)) = nI (if k < j + 1 then 100 else 0)
  by_cases e : k = j
  · rw [if_pos e, if_pos (by omega)]
  · rw [if_neg e]
    by_cases c : k < j
    · rw [if_pos c, if_pos (by omega)]
    · rw [if_neg c, if_neg (by omega)]
theorem z_am {j : Nat} (h : j = 0) : (fun _ : Nat => (0 : Int32)) = fun k => nI (if k < j then 100 else 0) := by
  funext k; rw [if_neg (by omega)]; rfl

set_option maxHeartbeats 4000000 in
set_option maxRecDepth 100000 in
theorem lp_Tb {l : Launch} {D : va_G} {B n a : Nat} {g : Nat → Option va_E} (hB : B ≤ a) (ha : a < n) (hn : a + 5 ≤ n) : ∀ (m : Nat) (j : Nat) (C : Nat → va_E), j ≤ 4 → 4 - j < m → C a = .inr (8, [.ref (n - 4), .ref (n - 3), .ref (n - 2), .ref (n - 1), .int 0]) → C (n - 1) = jIA (D.1 20) 20 (fun k => nI (if k < j then 100 else 0)) → J (G0 l D) jT m_Tb_init 1 (fun v h => v = none ∧ ∃ C', h = (Wd B C' n g, n) ∧ (∀ b, b ≠ n - 1 → C' b = C b) ∧ C' (n - 1) = jIA (D.1 20) 20 (fun k => nI (if k < 4 then 100 else 0))) 0 0 38 [some (.ref a), some (.int (nI j))] [] (Wd B C n g, n) := by
  intro m
  induction m with
  | zero =>
    intros
    exfalso
    omega
  | succ m ih =>
    intro j C h1 h2 hc hd
    refine j_iload_n d_Tb_init_38 rfl ?_
    refine j_iconst (v := nI 4) d_Tb_init_39 (by decide +kernel) ?_
    first | refine nn_icmp_ge (t := 57) d_Tb_init_40 (by decide) (by omega) (by omega) (fun c40 => ?_) (fun c40 => ?_) | refine mm_icmp_ge (t := 57) d_Tb_init_40 (by decide) (by omega) (by omega) (fun c40 => ?_) (fun c40 => ?_) | refine mn_icmp_ge (t := 57) d_Tb_init_40 (by decide) (by omega) (by omega) (fun c40 => ?_) (fun c40 => ?_) | refine nm_icmp_ge (t := 57) d_Tb_init_40 (by decide) (by omega) (by omega) (fun c40 => ?_) (fun c40 => ?_) | refine j_icmp_ge (t := 57) d_Tb_init_40 (by decide) (fun c40 => ?_) (fun c40 => ?_)
    · have ej : j = 4 := by omega
      subst ej
      exact j_vret d_Tb_init_57 rfl ⟨rfl, _, rfl, fun _ _ => rfl, hd⟩
    · first | refine j_aload_n d_Tb_init_43 rfl ?_ | refine j_aload_nq d_Tb_init_43 rfl ?_ | refine j_aload_nN d_Tb_init_43 rfl ?_
      refine j_get d_Tb_init_44 f_Tb_21 (Wd_rd (by omega) (by omega) hc) rfl ?_
      refine j_iload_n d_Tb_init_47 rfl ?_
      refine j_bipush (v := nI 100) d_Tb_init_48 (by decide +kernel) ?_
      refine j_iast (t := 0) d_Tb_init_50 rfl (Wd_rd (by omega) (by omega) hd) rfl (by omega) (by decide) (J.hq (Wd_put (by omega) (by omega)) ?_)
      refine n_iinc (k := 1) d_Tb_init_51 (by decide +kernel) rfl (by decide) rfl rfl ?_
      refine j_goto (t := 38) d_Tb_init_54 (by decide) ?_
      refine J.post ?_ (ih (j + 1) _ (by omega) (by omega) ((cu_n (by omega)).trans hc) (cu_a.trans (congrArg _ up_am)))
      rintro v h ⟨rfl, C', rfl, k1, k2⟩
      exact ⟨rfl, C', rfl, fun b hb => (k1 b hb).trans (cu_n hb), k2⟩

set_option maxHeartbeats 4000000 in
set_option maxRecDepth 100000 in
theorem i_Tb {l : Launch} {D : va_G} {B n a : Nat} {C : Nat → va_E} {g : Nat → Option va_E} (hB : B ≤ a) (ha : a < n) (c0 : C a = .inr (8, [.null, .null, .null, .null, .int 0])) : jM (G0 l D) m_Tb_init 1 4 44 [.ref a] (Wd B C n g, n) (fun v h => v = none ∧ ∃ C', h = (Wd B C' (n + 4) g, n + 4) ∧ KP C C' a n ∧ C' (a) = .inr (8, [.ref n, .ref (n + 1), .ref (n + 2), .ref (n + 3), .int 0]) ∧ C' (n) = jIA (D.1 20) 8 (fun _ => 0) ∧ C' (n + 1) = jIA (D.1 20) 8 (fun _ => 0) ∧ C' (n + 2) = jIA (D.1 20) 8 (fun _ => 0) ∧ C' (n + 3) = jIA (D.1 20) 20 (fun k => nI (if k < 4 then 100 else 0))) := by
  refine jM.of (by decide +kernel) (Nat.le_of_ble_eq_true rfl) rfl ?_
  first | refine j_aload_n d_Tb_init_0 rfl ?_ | refine j_aload_nq d_Tb_init_0 rfl ?_ | refine j_aload_nN d_Tb_init_0 rfl ?_
  refine j_objInit d_Tb_init_1 o_Tb_3 o_i o_c (by decide) ?_
  first | refine j_aload_n d_Tb_init_4 rfl ?_ | refine j_aload_nq d_Tb_init_4 rfl ?_ | refine j_aload_nN d_Tb_init_4 rfl ?_
  refine j_bipush (v := nI 8) d_Tb_init_5 (by decide +kernel) ?_
  refine j_newi (t := 0) (N := 8) d_Tb_init_7 rfl r_int rfl (by decide) ?_
  refine J.hq (Wd_new (by omega)) ?_
  refine j_putF d_Tb_init_9 p_Tb_9 rfl (Wd_rd (by omega) (by omega) ((cu_n (by omega)).trans c0)) rfl (by first | rfl | decide +kernel) (Nat.le_of_ble_eq_true rfl) (J.hq (Wd_put (by omega) (by omega)) ?_)
  first | refine j_aload_n d_Tb_init_12 rfl ?_ | refine j_aload_nq d_Tb_init_12 rfl ?_ | refine j_aload_nN d_Tb_init_12 rfl ?_
  refine j_bipush (v := nI 8) d_Tb_init_13 (by decide +kernel) ?_
  refine j_newi (t := 0) (N := 8) d_Tb_init_15 rfl r_int rfl (by decide) ?_
  refine J.hq (Wd_new (by omega)) ?_
  refine j_putF d_Tb_init_17 p_Tb_15 rfl (Wd_rd (by omega) (by omega) ((cu_n (by omega)).trans cu_a)) rfl (by first | rfl | decide +kernel) (Nat.le_of_ble_eq_true rfl) (J.hq (Wd_put (by omega) (by omega)) ?_)
  first | refine j_aload_n d_Tb_init_20 rfl ?_ | refine j_aload_nq d_Tb_init_20 rfl ?_ | refine j_aload_nN d_Tb_init_20 rfl ?_
  refine j_bipush (v := nI 8) d_Tb_init_21 (by decide +kernel) ?_
  refine j_newi (t := 0) (N := 8) d_Tb_init_23 rfl r_int rfl (by decide) ?_
  refine J.hq (Wd_new (by omega)) ?_
  refine j_putF d_Tb_init_25 p_Tb_18 rfl (Wd_rd (by omega) (by omega) ((cu_n (by omega)).trans cu_a)) rfl (by first | rfl | decide +kernel) (Nat.le_of_ble_eq_true rfl) (J.hq (Wd_put (by omega) (by omega)) ?_)
  first | refine j_aload_n d_Tb_init_28 rfl ?_ | refine j_aload_nq d_Tb_init_28 rfl ?_ | refine j_aload_nN d_Tb_init_28 rfl ?_
  refine j_bipush (v := nI 20) d_Tb_init_29 (by decide +kernel) ?_
  refine j_newi (t := 0) (N := 20) d_Tb_init_31 rfl r_int rfl (by decide) ?_
  refine J.hq (Wd_new (by omega)) ?_
  refine j_putF d_Tb_init_33 p_Tb_21 rfl (Wd_rd (by omega) (by omega) ((cu_n (by omega)).trans cu_a)) rfl (by first | rfl | decide +kernel) (Nat.le_of_ble_eq_true rfl) (J.hq (Wd_put (by omega) (by omega)) ?_)
  refine j_iconst (v := nI 0) d_Tb_init_36 (by decide +kernel) ?_
  refine j_istore_n d_Tb_init_37 (by decide) rfl rfl ?_
  refine J.post ?_ (lp_Tb (n := n + 1 + 1 + 1 + 1) (by omega) (by omega) (by omega) 5 0 _ (by omega) (by omega) cu_a (((cu_n (by omega)).trans cu_a).trans (congrArg _ (z_am rfl))))
  rintro v h ⟨rfl, C', rfl, k1, k2⟩
  exact ⟨rfl, C', rfl, fun b h1 h2 => by rw [k1 b (by omega)]; repeat rw [cu_n (by omega)], by rw [k1 _ (by omega)]; exact cu_a, by rw [k1 _ (by omega)]; repeat (first | exact cu_a | rw [cu_n (by omega)]), by rw [k1 _ (by omega)]; repeat (first | exact cu_a | rw [cu_n (by omega)]), by rw [k1 _ (by omega)]; repeat (first | exact cu_a | rw [cu_n (by omega)]), k2⟩

theorem up_hs {s j : Nat} (h : j % 2 = s) : upd (fun k => nI (if k < j ∧ k % 2 = s then 1 else 0)) j (nI 1) = fun k => nI (if k < j + 2 ∧ k % 2 = s then 1 else 0) := by
  funext k
  show (if k = j then nI 1 else nI (if k < j ∧ k % 2 = s then 1 else 0)) = nI (if k < j + 2 ∧ k % 2 = s then 1 else 0)
  by_cases e : k = j
  · rw [if_pos e, if_pos (by omega)]
  · rw [if_neg e]
    by_cases c : k < j ∧ k % 2 = s
    · rw [if_pos c, if_pos (by omega)]
    · rw [if_neg c, if_neg (by omega)]
theorem z_hs {s : Nat} (h : s < 2) : (fun _ : Nat => (0 : Int32)) = fun k => nI (if k < s ∧ k % 2 = s then 1 else 0) := by
  funext k; rw [if_neg (by omega)]; rfl
theorem e_hs {s j : Nat} (h : s < 2) (h4 : 4 ≤ j) (h5 : j ≤ s + 4) (hj : j % 2 = s) : (fun k => nI (if k < j ∧ k % 2 = s then 1 else 0)) = fun k => nI (if k < 4 ∧ k % 2 = s then 1 else 0) := by
  funext k
  by_cases c : k < 4 ∧ k % 2 = s
  · rw [if_pos c, if_pos (by omega)]
  · rw [if_neg c, if_neg (by omega)]

set_option maxHeartbeats 4000000 in
set_option maxRecDepth 100000 in
theorem lp_Ho {l : Launch} {D : va_G} {B n a : Nat} {g : Nat → Option va_E} (hB : B ≤ a) (ha : a < n) (s t : Nat) (hs : s < 2) (hn : a + 3 ≤ n) : ∀ (m : Nat) (j : Nat) (C : Nat → va_E), j ≤ s + 4 → j % 2 = s → s + 4 - j < 2 * m → C a = .inr (1, [.int (nI s), .ref t, .ref (n - 2), .ref (n - 1)]) → C (n - 2) = jIA (D.1 20) 20 (fun k => nI (if k < j ∧ k % 2 = s then 1 else 0)) → J (G0 l D) jT m_Ho_init 1 (fun v h => v = none ∧ ∃ C', h = (Wd B C' n g, n) ∧ (∀ b, b ≠ n - 2 → C' b = C b) ∧ C' (n - 2) = jIA (D.1 20) 20 (fun k => nI (if k < 4 ∧ k % 2 = s then 1 else 0))) 0 0 32 [some (.ref a), some (.int (nI s)), some (.ref t), some (.int (nI j))] [] (Wd B C n g, n) := by
  intro m
  induction m with
  | zero =>
    intros
    exfalso
    omega
  | succ m ih =>
    intro j C h1 hj h2 hc hd
    refine j_iload_n d_Ho_init_32 rfl ?_
    refine j_iconst (v := nI 4) d_Ho_init_33 (by decide +kernel) ?_
    first | refine nn_icmp_ge (t := 50) d_Ho_init_34 (by decide) (by omega) (by omega) (fun c34 => ?_) (fun c34 => ?_) | refine mm_icmp_ge (t := 50) d_Ho_init_34 (by decide) (by omega) (by omega) (fun c34 => ?_) (fun c34 => ?_) | refine mn_icmp_ge (t := 50) d_Ho_init_34 (by decide) (by omega) (by omega) (fun c34 => ?_) (fun c34 => ?_) | refine nm_icmp_ge (t := 50) d_Ho_init_34 (by decide) (by omega) (by omega) (fun c34 => ?_) (fun c34 => ?_) | refine j_icmp_ge (t := 50) d_Ho_init_34 (by decide) (fun c34 => ?_) (fun c34 => ?_)
    · exact j_vret d_Ho_init_50 rfl ⟨rfl, _, rfl, fun _ _ => rfl, hd.trans (congrArg _ (e_hs hs c34 h1 hj))⟩
    · first | refine j_aload_n d_Ho_init_37 rfl ?_ | refine j_aload_nq d_Ho_init_37 rfl ?_ | refine j_aload_nN d_Ho_init_37 rfl ?_
      refine j_get d_Ho_init_38 f_Ho_9 (Wd_rd (by omega) (by omega) hc) rfl ?_
      refine j_iload_n d_Ho_init_41 rfl ?_
      refine j_iconst (v := nI 1) d_Ho_init_42 (by decide +kernel) ?_
      refine j_iast (t := 0) d_Ho_init_43 rfl (Wd_rd (by omega) (by omega) hd) rfl (by omega) (by decide) (J.hq (Wd_put (by omega) (by omega)) ?_)
      refine n_iinc (k := 2) d_Ho_init_44 (by decide +kernel) rfl (by decide) rfl rfl ?_
      refine j_goto (t := 32) d_Ho_init_47 (by decide) ?_
      refine J.post ?_ (ih (j + 2) _ (by omega) (by omega) (by omega) ((cu_n (by omega)).trans hc) (cu_a.trans (congrArg _ (up_hs hj))))
      rintro v h ⟨rfl, C', rfl, k1, k2⟩
      exact ⟨rfl, C', rfl, fun b hb => (k1 b hb).trans (cu_n hb), k2⟩

set_option maxHeartbeats 4000000 in
set_option maxRecDepth 100000 in
theorem i_Ho {l : Launch} {D : va_G} {B n a : Nat} {C : Nat → va_E} {g : Nat → Option va_E} (hB : B ≤ a) (ha : a < n) (s t : Nat) (hs : s < 2) (c0 : C a = .inr (1, [.int 0, .null, .null, .null])) : jM (G0 l D) m_Ho_init 1 2 40 [.ref a, .int (nI s), .ref t] (Wd B C n g, n) (fun v h => v = none ∧ ∃ C', h = (Wd B C' (n + 2) g, n + 2) ∧ KP C C' a n ∧ C' (a) = .inr (1, [.int (nI s), .ref t, .ref n, .ref (n + 1)]) ∧ C' (n) = jIA (D.1 20) 20 (fun k => nI (if k < 4 ∧ k % 2 = s then 1 else 0)) ∧ C' (n + 1) = jIA (D.1 20) 20 (fun _ => 0)) := by
  refine jM.of (by decide +kernel) (Nat.le_of_ble_eq_true rfl) rfl ?_
  first | refine j_aload_n d_Ho_init_0 rfl ?_ | refine j_aload_nq d_Ho_init_0 rfl ?_ | refine j_aload_nN d_Ho_init_0 rfl ?_
  refine j_objInit d_Ho_init_1 o_Ho_3 o_i o_c (by decide) ?_
  first | refine j_aload_n d_Ho_init_4 rfl ?_ | refine j_aload_nq d_Ho_init_4 rfl ?_ | refine j_aload_nN d_Ho_init_4 rfl ?_
  refine j_bipush (v := nI 20) d_Ho_init_5 (by decide +kernel) ?_
  refine j_newi (t := 0) (N := 20) d_Ho_init_7 rfl r_int rfl (by decide) ?_
  refine J.hq (Wd_new (by omega)) ?_
  refine j_putF d_Ho_init_9 p_Ho_9 rfl (Wd_rd (by omega) (by omega) ((cu_n (by omega)).trans c0)) rfl (by first | rfl | decide +kernel) (Nat.le_of_ble_eq_true rfl) (J.hq (Wd_put (by omega) (by omega)) ?_)
  first | refine j_aload_n d_Ho_init_12 rfl ?_ | refine j_aload_nq d_Ho_init_12 rfl ?_ | refine j_aload_nN d_Ho_init_12 rfl ?_
  refine j_bipush (v := nI 20) d_Ho_init_13 (by decide +kernel) ?_
  refine j_newi (t := 0) (N := 20) d_Ho_init_15 rfl r_int rfl (by decide) ?_
  refine J.hq (Wd_new (by omega)) ?_
  refine j_putF d_Ho_init_17 p_Ho_15 rfl (Wd_rd (by omega) (by omega) ((cu_n (by omega)).trans cu_a)) rfl (by first | rfl | decide +kernel) (Nat.le_of_ble_eq_true rfl) (J.hq (Wd_put (by omega) (by omega)) ?_)
  first | refine j_aload_n d_Ho_init_20 rfl ?_ | refine j_aload_nq d_Ho_init_20 rfl ?_ | refine j_aload_nN d_Ho_init_20 rfl ?_
  refine j_iload_n d_Ho_init_21 rfl ?_
  refine j_putF d_Ho_init_22 p_Ho_18 rfl (Wd_rd (by omega) (by omega) cu_a) rfl (by first | rfl | decide +kernel) (Nat.le_of_ble_eq_true rfl) (J.hq (Wd_put (by omega) (by omega)) ?_)
  first | refine j_aload_n d_Ho_init_25 rfl ?_ | refine j_aload_nq d_Ho_init_25 rfl ?_ | refine j_aload_nN d_Ho_init_25 rfl ?_
  first | refine j_aload_n d_Ho_init_26 rfl ?_ | refine j_aload_nq d_Ho_init_26 rfl ?_ | refine j_aload_nN d_Ho_init_26 rfl ?_
  refine j_putF d_Ho_init_27 p_Ho_22 rfl (Wd_rd (by omega) (by omega) cu_a) rfl (by first | rfl | decide +kernel) (Nat.le_of_ble_eq_true rfl) (J.hq (Wd_put (by omega) (by omega)) ?_)
  refine j_iload_n d_Ho_init_30 rfl ?_
  refine j_istore_n d_Ho_init_31 (by decide) rfl rfl ?_
  refine J.post ?_ (lp_Ho (n := n + 1 + 1) (by omega) (by omega) s t hs (by omega) 4 s _ (by omega) (by omega) (by omega) cu_a ((by repeat (first | exact cu_a | rw [cu_n (by omega)]) : _ = jIA (D.1 20) 20 (fun _ => 0)).trans (congrArg _ (z_hs hs))))
  rintro v h ⟨rfl, C', rfl, k1, k2⟩
  exact ⟨rfl, C', rfl, fun b h1 h2 => by rw [k1 b (by omega)]; repeat rw [cu_n (by omega)], by rw [k1 _ (by omega)]; exact cu_a, k2, by rw [k1 _ (by omega)]; repeat (first | exact cu_a | rw [cu_n (by omega)])⟩

set_option maxHeartbeats 4000000 in
set_option maxRecDepth 100000 in
theorem i_Re {l : Launch} {D : va_G} {B n a : Nat} {C : Nat → va_E} {g : Nat → Option va_E} (hB : B ≤ a) (ha : a < n) (s i fl rq lo ho : Nat) (h2 : fl < 2) (c0 : C a = .inr (5, [.int 0, .int 0, .int 0, .null, .null, .null, .null, .null, .null, .null, .int 0, .int 0, .int 0, .int 0])) : jM (G0 l D) m_Re_init 2 5 93 [.ref a, .int (nI s), .int (nI i), .int (nI fl), .ref rq, .ref lo, .ref ho] (Wd B C n g, n) (fun v h => v = none ∧ ∃ C', h = (Wd B C' (n + 5) g, n + 5) ∧ KP C C' a n ∧ C' (a) = .inr (5, [.int (nI s), .int (nI i), .int (nI fl), .ref rq, .ref lo, .ref ho, .ref n, .ref (n + 2), .ref (n + 3), .ref (n + 4), .int 0, .int 0, .int 0, .int 0]) ∧ C' (n) = .inr (2, [.ref (n + 1)]) ∧ C' (n + 1) = jRA (D.1 23) 72 (fun _ => none) ∧ C' (n + 2) = .inr (0, [.int (mI 0), .int (mI 0)]) ∧ C' (n + 3) = .inr (0, [.int (mI 0), .int (mI 0)]) ∧ C' (n + 4) = jIA (D.1 20) 16 (fun _ => 0)) := by
  refine jM.of (by decide +kernel) (Nat.le_of_ble_eq_true rfl) rfl ?_
  first | refine j_aload_n d_Re_init_0 rfl ?_ | refine j_aload_nq d_Re_init_0 rfl ?_ | refine j_aload_nN d_Re_init_0 rfl ?_
  refine j_objInit d_Re_init_1 o_Re_3 o_i o_c (by decide) ?_
  first | refine j_aload_n d_Re_init_4 rfl ?_ | refine j_aload_nq d_Re_init_4 rfl ?_ | refine j_aload_nN d_Re_init_4 rfl ?_
  refine j_new d_Re_init_5 n_Re_9 ?_
  refine J.hq (Wd_new (by omega)) ?_
  refine j_dup d_Re_init_8 rfl ?_
  refine J.more (n := 1 + 3) (sn := 72 + 20) (by decide) (by decide) ?_
  refine j_callN (As := []) G0_good G0_E d_Re_init_9 c_Re_11 rfl rfl (i_In (by omega) (by omega) cu_a) (by decide) (Nat.le_of_ble_eq_true rfl) ?_
  rintro _ _ ⟨rfl, rfl⟩
  refine j_putF d_Re_init_12 p_Re_12 rfl (Wd_rd (by omega) (by omega) ((cu_n (by omega)).trans ((cu_n (by omega)).trans ((cu_n (by omega)).trans (c0))))) rfl (by first | rfl | decide +kernel) (Nat.le_of_ble_eq_true rfl) (J.hq (Wd_put (by omega) (by omega)) ?_)
  first | refine j_aload_n d_Re_init_15 rfl ?_ | refine j_aload_nq d_Re_init_15 rfl ?_ | refine j_aload_nN d_Re_init_15 rfl ?_
  refine j_new d_Re_init_16 n_Re_18 ?_
  refine J.hq (Wd_new (by omega)) ?_
  refine j_dup d_Re_init_19 rfl ?_
  refine J.more (n := 0 + 2) (sn := 0 + 18) (by decide) (by decide) ?_
  refine j_callN (As := []) G0_good G0_E d_Re_init_20 c_Re_20 rfl rfl (i_Ch (by omega) (by omega) cu_a) (by decide) (Nat.le_of_ble_eq_true rfl) ?_
  rintro _ _ ⟨rfl, rfl⟩
  refine j_putF d_Re_init_23 p_Re_21 rfl (Wd_rd (by omega) (by omega) ((cu_n (by omega)).trans ((cu_n (by omega)).trans (cu_a)))) rfl (by first | rfl | decide +kernel) (Nat.le_of_ble_eq_true rfl) (J.hq (Wd_put (by omega) (by omega)) ?_)
  first | refine j_aload_n d_Re_init_26 rfl ?_ | refine j_aload_nq d_Re_init_26 rfl ?_ | refine j_aload_nN d_Re_init_26 rfl ?_
  refine j_new d_Re_init_27 n_Re_18 ?_
  refine J.hq (Wd_new (by omega)) ?_
  refine j_dup d_Re_init_30 rfl ?_
  refine J.more (n := 0 + 1) (sn := 0 + 16) (by decide) (by decide) ?_
  refine j_callN (As := []) G0_good G0_E d_Re_init_31 c_Re_20 rfl rfl (i_Ch (by omega) (by omega) cu_a) (by decide) (Nat.le_of_ble_eq_true rfl) ?_
  rintro _ _ ⟨rfl, rfl⟩
  refine j_putF d_Re_init_34 p_Re_25 rfl (Wd_rd (by omega) (by omega) ((cu_n (by omega)).trans ((cu_n (by omega)).trans (cu_a)))) rfl (by first | rfl | decide +kernel) (Nat.le_of_ble_eq_true rfl) (J.hq (Wd_put (by omega) (by omega)) ?_)
  first | refine j_aload_n d_Re_init_37 rfl ?_ | refine j_aload_nq d_Re_init_37 rfl ?_ | refine j_aload_nN d_Re_init_37 rfl ?_
  refine j_bipush (v := nI 16) d_Re_init_38 (by decide +kernel) ?_
  refine j_newi (t := 0) (N := 16) d_Re_init_40 rfl r_int rfl (by decide) ?_
  refine J.hq (Wd_new (by omega)) ?_
  refine j_putF d_Re_init_42 p_Re_28 rfl (Wd_rd (by omega) (by omega) ((cu_n (by omega)).trans (cu_a))) rfl (by first | rfl | decide +kernel) (Nat.le_of_ble_eq_true rfl) (J.hq (Wd_put (by omega) (by omega)) ?_)
  first | refine j_aload_n d_Re_init_45 rfl ?_ | refine j_aload_nq d_Re_init_45 rfl ?_ | refine j_aload_nN d_Re_init_45 rfl ?_
  refine j_iload_n d_Re_init_46 rfl ?_
  refine j_putF d_Re_init_47 p_Re_32 rfl (Wd_rd (by omega) (by omega) cu_a) rfl (by first | rfl | decide +kernel) (Nat.le_of_ble_eq_true rfl) (J.hq (Wd_put (by omega) (by omega)) ?_)
  first | refine j_aload_n d_Re_init_50 rfl ?_ | refine j_aload_nq d_Re_init_50 rfl ?_ | refine j_aload_nN d_Re_init_50 rfl ?_
  refine j_iload_n d_Re_init_51 rfl ?_
  refine j_putF d_Re_init_52 p_Re_36 rfl (Wd_rd (by omega) (by omega) cu_a) rfl (by first | rfl | decide +kernel) (Nat.le_of_ble_eq_true rfl) (J.hq (Wd_put (by omega) (by omega)) ?_)
  first | refine j_aload_n d_Re_init_55 rfl ?_ | refine j_aload_nq d_Re_init_55 rfl ?_ | refine j_aload_nN d_Re_init_55 rfl ?_
  refine j_iload_n d_Re_init_56 rfl ?_
  refine j_putF d_Re_init_57 p_Re_39 rfl (Wd_rd (by omega) (by omega) cu_a) (bn _ h2) (bf2 _ h2) (Nat.le_of_ble_eq_true rfl) (J.hq (Wd_put (by omega) (by omega)) ?_)
  first | refine j_aload_n d_Re_init_60 rfl ?_ | refine j_aload_nq d_Re_init_60 rfl ?_ | refine j_aload_nN d_Re_init_60 rfl ?_
  first | refine j_aload d_Re_init_61 rfl ?_ | refine j_aloadq d_Re_init_61 rfl ?_ | refine j_aloadN d_Re_init_61 rfl ?_
  refine j_putF d_Re_init_63 p_Re_43 rfl (Wd_rd (by omega) (by omega) cu_a) rfl (by first | rfl | decide +kernel) (Nat.le_of_ble_eq_true rfl) (J.hq (Wd_put (by omega) (by omega)) ?_)
  first | refine j_aload_n d_Re_init_66 rfl ?_ | refine j_aload_nq d_Re_init_66 rfl ?_ | refine j_aload_nN d_Re_init_66 rfl ?_
  first | refine j_aload d_Re_init_67 rfl ?_ | refine j_aloadq d_Re_init_67 rfl ?_ | refine j_aloadN d_Re_init_67 rfl ?_
  refine j_putF d_Re_init_69 p_Re_47 rfl (Wd_rd (by omega) (by omega) cu_a) rfl (by first | rfl | decide +kernel) (Nat.le_of_ble_eq_true rfl) (J.hq (Wd_put (by omega) (by omega)) ?_)
  first | refine j_aload_n d_Re_init_72 rfl ?_ | refine j_aload_nq d_Re_init_72 rfl ?_ | refine j_aload_nN d_Re_init_72 rfl ?_
  first | refine j_aload d_Re_init_73 rfl ?_ | refine j_aloadq d_Re_init_73 rfl ?_ | refine j_aloadN d_Re_init_73 rfl ?_
  refine j_putF d_Re_init_75 p_Re_51 rfl (Wd_rd (by omega) (by omega) cu_a) rfl (by first | rfl | decide +kernel) (Nat.le_of_ble_eq_true rfl) (J.hq (Wd_put (by omega) (by omega)) ?_)
  exact j_vret d_Re_init_78 rfl ⟨rfl, _, rfl, fun b h1 h2 => by repeat rw [cu_n (by omega)], by repeat (first | exact cu_a | rw [cu_n (by omega)]), by repeat (first | exact cu_a | rw [cu_n (by omega)]), by repeat (first | exact cu_a | rw [cu_n (by omega)]), by repeat (first | exact cu_a | rw [cu_n (by omega)]), by repeat (first | exact cu_a | rw [cu_n (by omega)]), by repeat (first | exact cu_a | rw [cu_n (by omega)])⟩

/-- no message is there -/
def κ0 : Kp := (fun _ _ => none, fun _ _ => none, fun _ => false, fun _ _ => 0)
theorem nI_00 : nI 0 = 0 := rfl
theorem mI_11 : mI 1 = 0 := by rw [mI_succ]; rfl
section PC0
variable {D : va_G} {B s i : Nat} {c : Nat → Nat → Nat}
theorem aP_si (hi : i < 4) : aP B (4 * s + i) = aS B s + 4 + 9 * i := by
  unfold aP aS
  rw [show (4 * s + i) / 4 = s by omega, show (4 * s + i) % 4 = i by omega]; omega
theorem pc_0 (hi : i < 4) : pcell D B (Pu.s0 c) κ0 (4 * s + i) 0 = .inr (1, [.int (nI s), .ref (B + 1), .ref (aS B s + 4 + 9 * i + 1), .ref (aS B s + 4 + 9 * i + 2)]) := by
  show (.inr (1, [.int (nI ((4 * s + i) / 4)), .ref (B + 1), .ref (aP B (4 * s + i) + 1), .ref (aP B (4 * s + i) + 2)]) : va_E) = _
  rw [aP_si hi, show (4 * s + i) / 4 = s by omega]
theorem pc_1 (hi : i < 4) : pcell D B (Pu.s0 c) κ0 (4 * s + i) 1 = jIA (D.1 20) 20 (fun k => nI (if k < 4 ∧ k % 2 = s then 1 else 0)) := by
  show jIA (D.1 20) 20 (fun k => nI (if k < 4 ∧ k % 2 = (4 * s + i) / 4 then 1 else 0)) = _
  rw [show (4 * s + i) / 4 = s by omega]
theorem pc_2 : pcell D B (Pu.s0 c) κ0 (4 * s + i) 2 = jIA (D.1 20) 20 (fun _ => 0) := rfl
theorem pc_3 (hi : i < 4) : pcell D B (Pu.s0 c) κ0 (4 * s + i) 3 = .inr (5, [.int (nI s), .int (nI i), .int (nI (c (4 * s + i) 0)), .ref (B + 6), .ref (aS B s + 1), .ref (aS B s + 4 + 9 * i), .ref (aS B s + 4 + 9 * i + 4), .ref (aS B s + 4 + 9 * i + 6), .ref (aS B s + 4 + 9 * i + 7), .ref (aS B s + 4 + 9 * i + 8), .int 0, .int 0, .int 0, .int 0]) := by
  show (.inr (5, [.int (nI ((4 * s + i) / 4)), .int (nI ((4 * s + i) % 4)), .int (nI (c (4 * s + i) 0)), .ref (B + 6), .ref (aS B ((4 * s + i) / 4) + 1), .ref (aP B (4 * s + i) + 0), .ref (aP B (4 * s + i) + 4), .ref (aP B (4 * s + i) + 6), .ref (aP B (4 * s + i) + 7), .ref (aP B (4 * s + i) + 8), .int 0, .int 0, .int 0, .int 0]) : va_E) = _
  rw [aP_si hi, show (4 * s + i) / 4 = s by omega, show (4 * s + i) % 4 = i by omega]
  rfl
theorem pc_4 (hi : i < 4) : pcell D B (Pu.s0 c) κ0 (4 * s + i) 4 = .inr (2, [.ref (aS B s + 4 + 9 * i + 5)]) := by
  show (.inr (2, [.ref (aP B (4 * s + i) + 5)]) : va_E) = _
  rw [aP_si hi]
theorem pc_5 : pcell D B (Pu.s0 c) κ0 (4 * s + i) 5 = jRA (D.1 23) 72 (fun _ => none) := rfl
theorem pc_6 (hs : s < 2) (hi : i < 4) : pcell D B (Pu.s0 c) κ0 (4 * s + i) 6 = .inr (0, [.int (mI 0), .int (mI 0)]) := by
  show (.inr (0, [.int (mI (Pu.s0 c 13 (4 * s + i) 0)), .int (mI (Pu.s0 c 14 (4 * s + i) 0))]) : va_E) = _
  rw [Pu.s0_m (f := 13) (by omega) (by omega) (by omega), Pu.s0_m (f := 14) (by omega) (by omega) (by omega)]
theorem pc_7 (hs : s < 2) (hi : i < 4) : pcell D B (Pu.s0 c) κ0 (4 * s + i) 7 = .inr (0, [.int (mI 0), .int (mI 0)]) := by
  show (.inr (0, [.int (mI (Pu.s0 c 15 (4 * s + i) 0)), .int (mI (Pu.s0 c 16 (4 * s + i) 0))]) : va_E) = _
  rw [Pu.s0_m (f := 15) (by omega) (by omega) (by omega), Pu.s0_m (f := 16) (by omega) (by omega) (by omega)]
theorem pc_8 : pcell D B (Pu.s0 c) κ0 (4 * s + i) 8 = jIA (D.1 20) 16 (fun _ => 0) := rfl
end PC0
/-- the first i replicas of shard s stand -/
def RS0 (D : va_G) (B s : Nat) (c : Nat → Nat → Nat) (C : Nat → va_E) (i : Nat) : Prop := ∀ i', i' < i → ∀ k, k < 9 → C (aS B s + 4 + 9 * i' + k) = pcell D B (Pu.s0 c) κ0 (4 * s + i') k
theorem RS0_s {D : va_G} {B s i : Nat} {c : Nat → Nat → Nat} {C C' : Nat → va_E} (h : RS0 D B s c C i) (hk : ∀ b, b < aS B s + 4 + 9 * i → aS B s + 4 ≤ b → C' b = C b) (hn : ∀ k, k < 9 → C' (aS B s + 4 + 9 * i + k) = pcell D B (Pu.s0 c) κ0 (4 * s + i) k) : RS0 D B s c C' (i + 1) := by
  intro i' hi' k hk'
  by_cases e : i' = i
  · subst e; exact hn k hk'
  · rw [hk _ (by omega) (by omega)]; exact h i' (by omega) k hk'
theorem lt9 {P : Nat → Prop} (h0 : P 0) (h1 : P 1) (h2 : P 2) (h3 : P 3) (h4 : P 4) (h5 : P 5) (h6 : P 6) (h7 : P 7) (h8 : P 8) : ∀ k, k < 9 → P k := by
  intro k hk
  have : k = 0 ∨ k = 1 ∨ k = 2 ∨ k = 3 ∨ k = 4 ∨ k = 5 ∨ k = 6 ∨ k = 7 ∨ k = 8 := by omega
  rcases this with e | e | e | e | e | e | e | e | e <;> subst e <;> assumption

theorem ra_s {B s i : Nat} {cA : ClassId} : jRA cA 4 (va_up (fun k => if k < i then some (aS B s + 4 + 9 * k + 3) else none) i (some (aS B s + 4 + 9 * i + 3))) = jRA cA 4 (fun k => if k < i + 1 then some (aS B s + 4 + 9 * k + 3) else none) := by
  refine congrArg _ ?_
  funext k
  show (if k = i then some (aS B s + 4 + 9 * i + 3) else if k < i then some (aS B s + 4 + 9 * k + 3) else none) = if k < i + 1 then some (aS B s + 4 + 9 * k + 3) else none
  by_cases e : k = i
  · subst e; rw [if_pos rfl, if_pos (by omega)]
  · rw [if_neg e]
    by_cases l : k < i
    · rw [if_pos l, if_pos (by omega)]
    · rw [if_neg l, if_neg (by omega)]

set_option maxHeartbeats 4000000 in
set_option maxRecDepth 100000 in
theorem lp_Sh {l : Launch} {D : va_G} {B : Nat} {g : Nat → Option va_E} (s fl : Nat) (hs : s < 2) (hfl : fl < 2) (c : Nat → Nat → Nat) (hc : ∀ i, i < 4 → c (4 * s + i) 0 = if i = 3 then fl else 0) : ∀ (m : Nat) (i : Nat) (C : Nat → va_E) (x7 : Option Value), i ≤ 4 → 4 - i < m → C (aS B s) = .inr (7, [.null, .ref (aS B s + 3)]) → C (aS B s + 1) = .inr (4, [.ref (aS B s + 2), .int 0]) → C (aS B s + 2) = jRA (D.1 23) 918 (fun _ => none) → C (aS B s + 3) = jRA (D.1 24) 4 (fun k => if k < i then some (aS B s + 4 + 9 * k + 3) else none) → RS0 D B s c C i → J (G0 l D) jT m_Sh_init 3 (fun v h => v = none ∧ ∃ C', h = (Wd B C' (aS B s + 40) g, aS B s + 40) ∧ (∀ b, b < aS B s → C' b = C b) ∧ C' (aS B s) = .inr (7, [.ref (aS B s + 1), .ref (aS B s + 3)]) ∧ C' (aS B s + 1) = .inr (4, [.ref (aS B s + 2), .int 0]) ∧ C' (aS B s + 2) = jRA (D.1 23) 918 (fun _ => none) ∧ C' (aS B s + 3) = jRA (D.1 24) 4 (fun k => if k < 4 then some (aS B s + 4 + 9 * k + 3) else none) ∧ RS0 D B s c C' 4) (9 * (4 - i)) (151 * (4 - i)) 24 [some (.ref (aS B s)), some (.int (nI s)), some (.int (nI fl)), some (.ref (B + 6)), some (.ref (B + 1)), some (.ref (aS B s + 1)), some (.int (nI i)), x7] [] (Wd B C (aS B s + 4 + 9 * i) g, aS B s + 4 + 9 * i) := by
  intro m
  induction m with
  | zero =>
    intros
    exfalso
    omega
  | succ m ih =>
    intro i C x7 h1 h2 s0 s1 s2 s3 s4
    have hB : B ≤ aS B s := by unfold aS; omega
    refine j_iload d_Sh_init_24 rfl ?_
    refine j_iconst (v := nI 4) d_Sh_init_26 (by decide +kernel) ?_
    first | refine nn_icmp_ge (t := 85) d_Sh_init_27 (by decide) (by omega) (by omega) (fun c27 => ?_) (fun c27 => ?_) | refine mm_icmp_ge (t := 85) d_Sh_init_27 (by decide) (by omega) (by omega) (fun c27 => ?_) (fun c27 => ?_) | refine mn_icmp_ge (t := 85) d_Sh_init_27 (by decide) (by omega) (by omega) (fun c27 => ?_) (fun c27 => ?_) | refine nm_icmp_ge (t := 85) d_Sh_init_27 (by decide) (by omega) (by omega) (fun c27 => ?_) (fun c27 => ?_) | refine j_icmp_ge (t := 85) d_Sh_init_27 (by decide) (fun c27 => ?_) (fun c27 => ?_)
    · first | refine j_aload_n d_Sh_init_85 rfl ?_ | refine j_aload_nq d_Sh_init_85 rfl ?_ | refine j_aload_nN d_Sh_init_85 rfl ?_
      first | refine j_aload d_Sh_init_86 rfl ?_ | refine j_aloadq d_Sh_init_86 rfl ?_ | refine j_aloadN d_Sh_init_86 rfl ?_
      refine j_putF d_Sh_init_88 p_Sh_28 rfl (Wd_rd (by unfold aS; omega) (by omega) s0) rfl (by first | rfl | decide +kernel) (Nat.le_of_ble_eq_true rfl) (J.hq (Wd_put (by unfold aS; omega) (by omega)) ?_)
      have ei : i = 4 := by omega
      subst ei
      exact j_vret d_Sh_init_91 rfl ⟨rfl, _, rfl, fun b h => cu_n (by omega), cu_a, (cu_n (by omega)).trans s1, (cu_n (by omega)).trans s2, (cu_n (by omega)).trans s3, fun i' h k hk => (cu_n (by omega)).trans (s4 i' h k hk)⟩
    · refine J.more (n := 9 * (4 - (i + 1)) + 5 + 1 + 2 + 1) (sn := 151 * (4 - (i + 1)) + 93 + 14 + 40 + 4) (by omega) (by omega) ?_
      refine j_new d_Sh_init_30 n_Sh_20 ?_
      refine J.hq (Wd_new (by omega)) ?_
      refine j_dup d_Sh_init_33 rfl ?_
      refine j_iload_n d_Sh_init_34 rfl ?_
      first | refine j_aload d_Sh_init_35 rfl ?_ | refine j_aloadq d_Sh_init_35 rfl ?_ | refine j_aloadN d_Sh_init_35 rfl ?_
      refine J.more (n := 2 + (9 * (4 - (i + 1)) + 5 + 1)) (sn := 40 + (151 * (4 - (i + 1)) + 93 + 14)) (by omega) (by omega) ?_
      refine j_callI (As := [_, _]) G0_good G0_E d_Sh_init_37 c_Sh_22 rfl rfl (i_Ho (a := aS B s + 4 + 9 * i) (n := aS B s + 4 + 9 * i + 1) (by omega) (by omega) s (B + 1) hs cu_a) (by decide) (Nat.le_of_ble_eq_true rfl) ?_
      rintro _ _ ⟨rfl, C1, rfl, kp1, f0, f1, f2⟩
      first | refine j_astore d_Sh_init_40 (by decide) rfl rfl ?_ | refine j_astoreq d_Sh_init_40 (by decide) rfl rfl ?_ | refine j_astoreN d_Sh_init_40 (by decide) rfl rfl ?_
      first | refine j_aload_n d_Sh_init_42 rfl ?_ | refine j_aload_nq d_Sh_init_42 rfl ?_ | refine j_aload_nN d_Sh_init_42 rfl ?_
      refine j_get d_Sh_init_43 f_Sh_14 (Wd_rd (by unfold aS; omega) (by omega) ((kp1 _ (by omega) (by omega)).trans ((cu_n (by omega)).trans s0))) rfl ?_
      refine j_iload d_Sh_init_46 rfl ?_
      refine j_new d_Sh_init_48 n_Sh_12 ?_
      refine J.hq (Wd_new (by omega)) ?_
      refine j_dup d_Sh_init_51 rfl ?_
      refine j_iload_n d_Sh_init_52 rfl ?_
      refine j_iload d_Sh_init_53 rfl ?_
      refine j_iload_n d_Sh_init_55 rfl ?_
      first | refine c_if_eq (t := 69) d_Sh_init_56 (by decide) (fun c56 => ?_) (fun c56 => ?_) | refine n_if_eq (t := 69) d_Sh_init_56 (by decide) (by omega) (fun c56 => ?_) (fun c56 => ?_) | refine j_if_eq (t := 69) d_Sh_init_56 (by decide) (fun c56 => ?_) (fun c56 => ?_)
      · refine j_iconst (v := nI 0) d_Sh_init_69 (by decide +kernel) ?_
        first | refine j_aload_n d_Sh_init_70 rfl ?_ | refine j_aload_nq d_Sh_init_70 rfl ?_ | refine j_aload_nN d_Sh_init_70 rfl ?_
        first | refine j_aload d_Sh_init_71 rfl ?_ | refine j_aloadq d_Sh_init_71 rfl ?_ | refine j_aloadN d_Sh_init_71 rfl ?_
        first | refine j_aload d_Sh_init_73 rfl ?_ | refine j_aloadq d_Sh_init_73 rfl ?_ | refine j_aloadN d_Sh_init_73 rfl ?_
        refine J.more (n := 5 + 9 * (4 - (i + 1))) (sn := 93 + 151 * (4 - (i + 1))) (by omega) (by omega) ?_
        refine j_callI (As := [_, _, _, _, _, _]) G0_good G0_E d_Sh_init_75 c_Sh_25 rfl rfl (i_Re (a := aS B s + 4 + 9 * i + 3) (n := aS B s + 4 + 9 * i + 4) (by omega) (by omega) s i 0 (B + 6) (aS B s + 1) (aS B s + 4 + 9 * i) (by decide) cu_a) (by decide) (Nat.le_of_ble_eq_true rfl) ?_
        rintro _ _ ⟨rfl, C2, rfl, kp2, g0, g1, g2, g3, g4, g5⟩
        refine j_aast (t := 4) (ci := 5) d_Sh_init_78 rfl (Wd_rd (by unfold aS; omega) (by omega) ((kp2 _ (by omega) (by omega)).trans ((cu_n (by omega)).trans ((kp1 _ (by omega) (by omega)).trans ((cu_n (by omega)).trans s3))))) (Wd_rd (by unfold aS; omega) (by omega) g0) rfl rfl (by omega) (by decide) (J.hq (Wd_put (by unfold aS; omega) (by omega)) ?_)
        refine n_iinc (k := 1) d_Sh_init_79 (by decide +kernel) rfl (by decide) rfl rfl ?_
        refine j_goto (t := 24) d_Sh_init_82 (by decide) ?_
        have hcv : c (4 * s + i) 0 = 0 := by rw [hc i (by omega)]; split <;> omega
        have n1 : ∀ b, b < aS B s + 4 + 9 * i → b ≠ aS B s + 3 → cu C2 (aS B s + 3) (jRA (D.1 24) 4 (va_up (fun k => if k < i then some (aS B s + 4 + 9 * k + 3) else none) i (some (aS B s + 4 + 9 * i + 3)))) b = C b := fun b h1 h2 => by rw [cu_n h2, kp2 b (by omega) (by omega), cu_n (by omega), kp1 b (by omega) (by omega), cu_n (by omega)]
        have hrow : ∀ b, aS B s + 4 + 9 * i ≤ b → cu C2 (aS B s + 3) (jRA (D.1 24) 4 (va_up (fun k => if k < i then some (aS B s + 4 + 9 * k + 3) else none) i (some (aS B s + 4 + 9 * i + 3)))) b = C2 b := fun b h1 => cu_n (by omega)
        refine J.post ?_ (ih (i + 1) _ _ (by omega) (by omega) ?_ ?_ ?_ ?_ ?_)
        · rintro v h ⟨rfl, C', rfl, r1, r2⟩
          exact ⟨rfl, C', rfl, fun b h1 => (r1 b h1).trans (n1 b (by omega) (by omega)), r2⟩
        · rw [n1 _ (by omega) (by omega)]; exact s0
        · rw [n1 _ (by omega) (by omega)]; exact s1
        · rw [n1 _ (by omega) (by omega)]; exact s2
        · rw [cu_a, ra_s]
        · refine RS0_s s4 (fun b h1 h2 => n1 b h1 (by omega)) (lt9 ?_ ?_ ?_ ?_ ?_ ?_ ?_ ?_ ?_)
          · rw [hrow _ (by omega), kp2 _ (by omega) (by omega), cu_n (by omega), pc_0 (by omega)]; exact f0
          · rw [hrow _ (by omega), kp2 _ (by omega) (by omega), cu_n (by omega), pc_1 (by omega)]; exact f1
          · rw [hrow _ (by omega), kp2 _ (by omega) (by omega), cu_n (by omega), pc_2]; exact f2
          · rw [hrow _ (by omega), pc_3 (by omega), hcv]; exact g0
          · rw [hrow _ (by omega), pc_4 (by omega)]; exact g1
          · rw [hrow _ (by omega), pc_5]; exact g2
          · rw [hrow _ (by omega), pc_6 hs (by omega)]; exact g3
          · rw [hrow _ (by omega), pc_7 hs (by omega)]; exact g4
          · rw [hrow _ (by omega), pc_8]; exact g5
      · refine j_iload d_Sh_init_59 rfl ?_
        refine j_iconst (v := nI 3) d_Sh_init_61 (by decide +kernel) ?_
        first | refine nn_icmp_ne (t := 69) d_Sh_init_62 (by decide) (by omega) (by omega) (fun c62 => ?_) (fun c62 => ?_) | refine mm_icmp_ne (t := 69) d_Sh_init_62 (by decide) (by omega) (by omega) (fun c62 => ?_) (fun c62 => ?_) | refine mn_icmp_ne (t := 69) d_Sh_init_62 (by decide) (by omega) (by omega) (fun c62 => ?_) (fun c62 => ?_) | refine nm_icmp_ne (t := 69) d_Sh_init_62 (by decide) (by omega) (by omega) (fun c62 => ?_) (fun c62 => ?_) | refine j_icmp_ne (t := 69) d_Sh_init_62 (by decide) (fun c62 => ?_) (fun c62 => ?_)
        · refine j_iconst (v := nI 0) d_Sh_init_69 (by decide +kernel) ?_
          first | refine j_aload_n d_Sh_init_70 rfl ?_ | refine j_aload_nq d_Sh_init_70 rfl ?_ | refine j_aload_nN d_Sh_init_70 rfl ?_
          first | refine j_aload d_Sh_init_71 rfl ?_ | refine j_aloadq d_Sh_init_71 rfl ?_ | refine j_aloadN d_Sh_init_71 rfl ?_
          first | refine j_aload d_Sh_init_73 rfl ?_ | refine j_aloadq d_Sh_init_73 rfl ?_ | refine j_aloadN d_Sh_init_73 rfl ?_
          refine J.more (n := 5 + 9 * (4 - (i + 1))) (sn := 93 + 151 * (4 - (i + 1))) (by omega) (by omega) ?_
          refine j_callI (As := [_, _, _, _, _, _]) G0_good G0_E d_Sh_init_75 c_Sh_25 rfl rfl (i_Re (a := aS B s + 4 + 9 * i + 3) (n := aS B s + 4 + 9 * i + 4) (by omega) (by omega) s i 0 (B + 6) (aS B s + 1) (aS B s + 4 + 9 * i) (by decide) cu_a) (by decide) (Nat.le_of_ble_eq_true rfl) ?_
          rintro _ _ ⟨rfl, C2, rfl, kp2, g0, g1, g2, g3, g4, g5⟩
          refine j_aast (t := 4) (ci := 5) d_Sh_init_78 rfl (Wd_rd (by unfold aS; omega) (by omega) ((kp2 _ (by omega) (by omega)).trans ((cu_n (by omega)).trans ((kp1 _ (by omega) (by omega)).trans ((cu_n (by omega)).trans s3))))) (Wd_rd (by unfold aS; omega) (by omega) g0) rfl rfl (by omega) (by decide) (J.hq (Wd_put (by unfold aS; omega) (by omega)) ?_)
          refine n_iinc (k := 1) d_Sh_init_79 (by decide +kernel) rfl (by decide) rfl rfl ?_
          refine j_goto (t := 24) d_Sh_init_82 (by decide) ?_
          have hcv : c (4 * s + i) 0 = 0 := by rw [hc i (by omega), if_neg c62]
          have n1 : ∀ b, b < aS B s + 4 + 9 * i → b ≠ aS B s + 3 → cu C2 (aS B s + 3) (jRA (D.1 24) 4 (va_up (fun k => if k < i then some (aS B s + 4 + 9 * k + 3) else none) i (some (aS B s + 4 + 9 * i + 3)))) b = C b := fun b h1 h2 => by rw [cu_n h2, kp2 b (by omega) (by omega), cu_n (by omega), kp1 b (by omega) (by omega), cu_n (by omega)]
          have hrow : ∀ b, aS B s + 4 + 9 * i ≤ b → cu C2 (aS B s + 3) (jRA (D.1 24) 4 (va_up (fun k => if k < i then some (aS B s + 4 + 9 * k + 3) else none) i (some (aS B s + 4 + 9 * i + 3)))) b = C2 b := fun b h1 => cu_n (by omega)
          refine J.post ?_ (ih (i + 1) _ _ (by omega) (by omega) ?_ ?_ ?_ ?_ ?_)
          · rintro v h ⟨rfl, C', rfl, r1, r2⟩
            exact ⟨rfl, C', rfl, fun b h1 => (r1 b h1).trans (n1 b (by omega) (by omega)), r2⟩
          · rw [n1 _ (by omega) (by omega)]; exact s0
          · rw [n1 _ (by omega) (by omega)]; exact s1
          · rw [n1 _ (by omega) (by omega)]; exact s2
          · rw [cu_a, ra_s]
          · refine RS0_s s4 (fun b h1 h2 => n1 b h1 (by omega)) (lt9 ?_ ?_ ?_ ?_ ?_ ?_ ?_ ?_ ?_)
            · rw [hrow _ (by omega), kp2 _ (by omega) (by omega), cu_n (by omega), pc_0 (by omega)]; exact f0
            · rw [hrow _ (by omega), kp2 _ (by omega) (by omega), cu_n (by omega), pc_1 (by omega)]; exact f1
            · rw [hrow _ (by omega), kp2 _ (by omega) (by omega), cu_n (by omega), pc_2]; exact f2
            · rw [hrow _ (by omega), pc_3 (by omega), hcv]; exact g0
            · rw [hrow _ (by omega), pc_4 (by omega)]; exact g1
            · rw [hrow _ (by omega), pc_5]; exact g2
            · rw [hrow _ (by omega), pc_6 hs (by omega)]; exact g3
            · rw [hrow _ (by omega), pc_7 hs (by omega)]; exact g4
            · rw [hrow _ (by omega), pc_8]; exact g5
        · refine j_iconst (v := nI 1) d_Sh_init_65 (by decide +kernel) ?_
          refine j_goto (t := 70) d_Sh_init_66 (by decide) ?_
          first | refine j_aload_n d_Sh_init_70 rfl ?_ | refine j_aload_nq d_Sh_init_70 rfl ?_ | refine j_aload_nN d_Sh_init_70 rfl ?_
          first | refine j_aload d_Sh_init_71 rfl ?_ | refine j_aloadq d_Sh_init_71 rfl ?_ | refine j_aloadN d_Sh_init_71 rfl ?_
          first | refine j_aload d_Sh_init_73 rfl ?_ | refine j_aloadq d_Sh_init_73 rfl ?_ | refine j_aloadN d_Sh_init_73 rfl ?_
          refine J.more (n := 5 + 9 * (4 - (i + 1))) (sn := 93 + 151 * (4 - (i + 1))) (by omega) (by omega) ?_
          refine j_callI (As := [_, _, _, _, _, _]) G0_good G0_E d_Sh_init_75 c_Sh_25 rfl rfl (i_Re (a := aS B s + 4 + 9 * i + 3) (n := aS B s + 4 + 9 * i + 4) (by omega) (by omega) s i 1 (B + 6) (aS B s + 1) (aS B s + 4 + 9 * i) (by decide) cu_a) (by decide) (Nat.le_of_ble_eq_true rfl) ?_
          rintro _ _ ⟨rfl, C2, rfl, kp2, g0, g1, g2, g3, g4, g5⟩
          refine j_aast (t := 4) (ci := 5) d_Sh_init_78 rfl (Wd_rd (by unfold aS; omega) (by omega) ((kp2 _ (by omega) (by omega)).trans ((cu_n (by omega)).trans ((kp1 _ (by omega) (by omega)).trans ((cu_n (by omega)).trans s3))))) (Wd_rd (by unfold aS; omega) (by omega) g0) rfl rfl (by omega) (by decide) (J.hq (Wd_put (by unfold aS; omega) (by omega)) ?_)
          refine n_iinc (k := 1) d_Sh_init_79 (by decide +kernel) rfl (by decide) rfl rfl ?_
          refine j_goto (t := 24) d_Sh_init_82 (by decide) ?_
          have hcv : c (4 * s + i) 0 = 1 := by rw [hc i (by omega), if_pos c62]; omega
          have n1 : ∀ b, b < aS B s + 4 + 9 * i → b ≠ aS B s + 3 → cu C2 (aS B s + 3) (jRA (D.1 24) 4 (va_up (fun k => if k < i then some (aS B s + 4 + 9 * k + 3) else none) i (some (aS B s + 4 + 9 * i + 3)))) b = C b := fun b h1 h2 => by rw [cu_n h2, kp2 b (by omega) (by omega), cu_n (by omega), kp1 b (by omega) (by omega), cu_n (by omega)]
          have hrow : ∀ b, aS B s + 4 + 9 * i ≤ b → cu C2 (aS B s + 3) (jRA (D.1 24) 4 (va_up (fun k => if k < i then some (aS B s + 4 + 9 * k + 3) else none) i (some (aS B s + 4 + 9 * i + 3)))) b = C2 b := fun b h1 => cu_n (by omega)
          refine J.post ?_ (ih (i + 1) _ _ (by omega) (by omega) ?_ ?_ ?_ ?_ ?_)
          · rintro v h ⟨rfl, C', rfl, r1, r2⟩
            exact ⟨rfl, C', rfl, fun b h1 => (r1 b h1).trans (n1 b (by omega) (by omega)), r2⟩
          · rw [n1 _ (by omega) (by omega)]; exact s0
          · rw [n1 _ (by omega) (by omega)]; exact s1
          · rw [n1 _ (by omega) (by omega)]; exact s2
          · rw [cu_a, ra_s]
          · refine RS0_s s4 (fun b h1 h2 => n1 b h1 (by omega)) (lt9 ?_ ?_ ?_ ?_ ?_ ?_ ?_ ?_ ?_)
            · rw [hrow _ (by omega), kp2 _ (by omega) (by omega), cu_n (by omega), pc_0 (by omega)]; exact f0
            · rw [hrow _ (by omega), kp2 _ (by omega) (by omega), cu_n (by omega), pc_1 (by omega)]; exact f1
            · rw [hrow _ (by omega), kp2 _ (by omega) (by omega), cu_n (by omega), pc_2]; exact f2
            · rw [hrow _ (by omega), pc_3 (by omega), hcv]; exact g0
            · rw [hrow _ (by omega), pc_4 (by omega)]; exact g1
            · rw [hrow _ (by omega), pc_5]; exact g2
            · rw [hrow _ (by omega), pc_6 hs (by omega)]; exact g3
            · rw [hrow _ (by omega), pc_7 hs (by omega)]; exact g4
            · rw [hrow _ (by omega), pc_8]; exact g5

set_option maxHeartbeats 4000000 in
set_option maxRecDepth 100000 in
theorem i_Sh {l : Launch} {D : va_G} {B : Nat} {g : Nat → Option va_E} (s fl : Nat) (hs : s < 2) (hfl : fl < 2) (c : Nat → Nat → Nat) (hc : ∀ i, i < 4 → c (4 * s + i) 0 = if i = 3 then fl else 0) {C : Nat → va_E} (c0 : C (aS B s) = .inr (7, [.null, .null])) : jM (G0 l D) m_Sh_init 3 39 1528 [.ref (aS B s), .int (nI s), .int (nI fl), .ref (B + 6), .ref (B + 1)] (Wd B C (aS B s + 1) g, aS B s + 1) (fun v h => v = none ∧ ∃ C', h = (Wd B C' (aS B s + 40) g, aS B s + 40) ∧ (∀ b, b < aS B s → C' b = C b) ∧ C' (aS B s) = .inr (7, [.ref (aS B s + 1), .ref (aS B s + 3)]) ∧ C' (aS B s + 1) = .inr (4, [.ref (aS B s + 2), .int 0]) ∧ C' (aS B s + 2) = jRA (D.1 23) 918 (fun _ => none) ∧ C' (aS B s + 3) = jRA (D.1 24) 4 (fun k => if k < 4 then some (aS B s + 4 + 9 * k + 3) else none) ∧ RS0 D B s c C' 4) := by
  refine jM.of (by decide +kernel) (Nat.le_of_ble_eq_true rfl) rfl ?_
  have hB : B ≤ aS B s := by unfold aS; omega

  first | refine j_aload_n d_Sh_init_0 rfl ?_ | refine j_aload_nq d_Sh_init_0 rfl ?_ | refine j_aload_nN d_Sh_init_0 rfl ?_
  refine j_objInit d_Sh_init_1 o_Sh_3 o_i o_c (by decide) ?_
  refine j_new d_Sh_init_4 n_Sh_9 ?_
  refine J.hq (Wd_new (by omega)) ?_
  refine j_dup d_Sh_init_7 rfl ?_
  refine J.more (n := 1 + 37) (sn := 918 + 608) (by omega) (by omega) ?_
  refine j_callN (As := []) G0_good G0_E d_Sh_init_8 c_Sh_11 rfl rfl (i_Lo (a := aS B s + 1) (n := aS B s + 2) (by omega) (by omega) cu_a) (by decide) (Nat.le_of_ble_eq_true rfl) ?_
  rintro _ _ ⟨rfl, rfl⟩
  first | refine j_astore d_Sh_init_11 (by decide) rfl rfl ?_ | refine j_astoreq d_Sh_init_11 (by decide) rfl rfl ?_ | refine j_astoreN d_Sh_init_11 (by decide) rfl rfl ?_
  first | refine j_aload_n d_Sh_init_13 rfl ?_ | refine j_aload_nq d_Sh_init_13 rfl ?_ | refine j_aload_nN d_Sh_init_13 rfl ?_
  refine j_iconst (v := nI 4) d_Sh_init_14 (by decide +kernel) ?_
  refine j_newq (t := 4) (N := 4) d_Sh_init_15 rfl a_Sh_12 (fun s h => h.2.2.2.2.2.2) rfl (by decide) ?_
  refine J.hq (Wd_new (by omega)) ?_
  refine j_putF d_Sh_init_18 p_Sh_14 rfl (Wd_rd (by omega) (by omega) ((cu_n (by omega)).trans ((cu_n (by omega)).trans ((cu_n (by omega)).trans ((cu_n (by omega)).trans (c0)))))) rfl (by first | rfl | decide +kernel) (Nat.le_of_ble_eq_true rfl) (J.hq (Wd_put (by omega) (by omega)) ?_)
  refine j_iconst (v := nI 0) d_Sh_init_21 (by decide +kernel) ?_
  refine j_istore d_Sh_init_22 (by decide) rfl rfl ?_
  refine J.post ?_ (lp_Sh s fl hs hfl c hc 5 0 _ _ (by omega) (by omega) cu_a ?_ ?_ ?_ (fun i' h => by omega))
  · rintro v h ⟨rfl, C', rfl, r1, r2⟩
    exact ⟨rfl, C', rfl, fun b h1 => by rw [r1 b h1]; repeat rw [cu_n (by omega)], r2⟩
  · repeat (first | exact cu_a | rw [cu_n (by omega)])
  · repeat (first | exact cu_a | rw [cu_n (by omega)])
  · rw [cu_n (by omega), cu_a]; rfl

/-- the faulty ones of L -/
def cL (L : Int32) : Nat → Nat → Nat := fun p b => if b = 0 ∧ p < 8 ∧ p % 4 = 3 ∧ (L >>> (nI (p / 4) &&& 31)) &&& nI 1 = nI 1 then 1 else 0
theorem cL_lt (L : Int32) (p b : Nat) : cL L p b < 2 := by unfold cL; split <;> omega
theorem cL_3 (L : Int32) (p : Nat) (h : ¬ cL L p 0 = 0) : p % 4 = 3 := by
  unfold cL at h
  by_cases q : 0 = 0 ∧ p < 8 ∧ p % 4 = 3 ∧ (L >>> (nI (p / 4) &&& 31)) &&& nI 1 = nI 1
  · exact q.2.2.1
  · rw [if_neg q] at h; exact absurd rfl h
theorem cL_i {L : Int32} {s i fl : Nat} (hs : s < 2) (hi : i < 4) (h : fl = if (L >>> (nI s &&& 31)) &&& nI 1 = nI 1 then 1 else 0) : cL L (4 * s + i) 0 = if i = 3 then fl else 0 := by
  unfold cL
  rw [show (4 * s + i) / 4 = s by omega, show (4 * s + i) % 4 = i by omega, h]
  by_cases e : i = 3
  · rw [if_pos e]
    by_cases q : (L >>> (nI s &&& 31)) &&& nI 1 = nI 1
    · rw [if_pos ⟨rfl, by omega, e, q⟩, if_pos q]
    · rw [if_neg (fun z => q z.2.2.2), if_neg q]
  · rw [if_neg e, if_neg (fun z => e z.2.2.1)]
theorem Wd_hC {D : va_G} {B : Nat} {σ : Sg} {C : Nat → va_E} {g : Nat → Option va_E} (h1 : ∀ o, o < 13 → C (B + o) = tcell D B σ o) (h2 : ∀ s j, s < 2 → j < 4 → C (aS B s + j) = scell D B σ κ0 s j) (h3 : ∀ p k, p < 8 → k < 9 → C (aP B p + k) = pcell D B σ κ0 p k) : Wd B C (B + 93) g = hC D B σ κ0 g := by
  funext a
  unfold Wd hC
  by_cases c1 : a < B
  · rw [if_neg (by omega), if_pos c1]
  rw [if_neg c1]
  by_cases c3 : a < B + 93
  · rw [if_pos ⟨by omega, c3⟩]
    by_cases c2 : a < B + 13
    · rw [if_pos c2, ← h1 (a - B) (by omega), show B + (a - B) = a by omega]
    · rw [if_neg c2, if_pos c3]
      by_cases c4 : (a - B - 13) % 40 < 4
      · rw [if_pos c4, ← h2 _ _ (by omega) c4]
        unfold aS
        rw [show B + 13 + 40 * ((a - B - 13) / 40) + (a - B - 13) % 40 = a by omega]
      · rw [if_neg c4, ← h3 _ _ (by omega) (by omega)]
        unfold aP
        refine congrArg _ (congrArg C ?_)
        have e0 : a = B + 13 + (a - B - 13) := by omega
        generalize a - B - 13 = t at *
        have e1 : t = 40 * (t / 40) + t % 40 := (Nat.div_add_mod t 40).symm
        have e4 : t % 40 < 40 := Nat.mod_lt _ (by decide)
        generalize t / 40 = x at *
        generalize t % 40 = y at *
        have e2 : y - 4 = 9 * ((y - 4) / 9) + (y - 4) % 9 := (Nat.div_add_mod (y - 4) 9).symm
        have e3 : (y - 4) / 9 < 4 := by omega
        generalize (y - 4) / 9 = z at *
        generalize (y - 4) % 9 = w at *
        rw [show (4 * x + z) / 4 = x by omega, show (4 * x + z) % 4 = z by omega]
        omega
  · rw [if_neg (by omega), if_neg (by omega), if_neg c3]
    rfl
/-- shards below s stand -/
def SS0 (D : va_G) (B : Nat) (c : Nat → Nat → Nat) (C : Nat → va_E) (s : Nat) : Prop := ∀ s', s' < s → C (aS B s') = .inr (7, [.ref (aS B s' + 1), .ref (aS B s' + 3)]) ∧ C (aS B s' + 1) = .inr (4, [.ref (aS B s' + 2), .int 0]) ∧ C (aS B s' + 2) = jRA (D.1 23) 918 (fun _ => none) ∧ C (aS B s' + 3) = jRA (D.1 24) 4 (fun k => if k < 4 then some (aS B s' + 4 + 9 * k + 3) else none) ∧ RS0 D B s' c C 4
theorem SS0_hC {D : va_G} {B : Nat} {c : Nat → Nat → Nat} {C : Nat → va_E} {g : Nat → Option va_E} (h : SS0 D B c C 2) (t0 : C (B + 0) = .inr (9, [.ref (B + 1), .ref (B + 6), .ref (B + 12)])) (t1 : C (B + 1) = .inr (8, [.ref (B + 2), .ref (B + 3), .ref (B + 4), .ref (B + 5), .int 0])) (t2 : C (B + 2) = jIA (D.1 20) 8 (fun _ => 0)) (t3 : C (B + 3) = jIA (D.1 20) 8 (fun _ => 0)) (t4 : C (B + 4) = jIA (D.1 20) 8 (fun _ => 0)) (t5 : C (B + 5) = jIA (D.1 20) 20 (fun k => nI (if k < 4 then 100 else 0))) (t6 : C (B + 6) = .inr (6, [.ref (B + 7), .ref (B + 8), .ref (B + 9), .ref (B + 10), .ref (B + 11), .int 0])) (t7 : ∀ j, j < 5 → C (B + 7 + j) = jIA (D.1 20) 32 (fun _ => 0)) (t12 : C (B + 12) = jRA (D.1 25) 2 (fun k => if k < 2 then some (aS B k + 0) else none)) : Wd B C (B + 93) g = hC D B (Pu.s0 c) κ0 g := by
  refine Wd_hC ?_ ?_ ?_
  · intro o ho
    have : o = 0 ∨ o = 1 ∨ o = 2 ∨ o = 3 ∨ o = 4 ∨ o = 5 ∨ o = 6 ∨ (7 ≤ o ∧ o < 12) ∨ o = 12 := by omega
    rcases this with e | e | e | e | e | e | e | e | e
    · subst e; exact t0
    · subst e; exact t1
    · subst e; exact t2
    · subst e
      rw [t3]
      show _ = jIA (D.1 20) 8 (fun _ => mI 1)
      rw [mI_11]
    · subst e; exact t4
    · subst e
      rw [t5]
      show _ = jIA (D.1 20) 20 (fun k => nI (if 0 = 0 ∧ k < 4 then 100 else 0))
      simp only [true_and]
    · subst e; exact t6
    · have := t7 (o - 7) (by omega)
      rw [show B + 7 + (o - 7) = B + o by omega] at this
      rw [this]
      have : o = 7 ∨ o = 8 ∨ o = 9 ∨ o = 10 ∨ o = 11 := by omega
      rcases this with e | e | e | e | e <;> subst e <;> rfl
    · subst e; exact t12
  · intro s j hs hj
    obtain ⟨a0, a1, a2, a3, a4⟩ := h s hs
    have : j = 0 ∨ j = 1 ∨ j = 2 ∨ j = 3 := by omega
    rcases this with e | e | e | e <;> subst e
    · exact a0
    · exact a1
    · exact a2
    · rw [a3]
      show _ = jRA (D.1 24) 4 (fun k => if k < 4 then some (aP B (4 * s + k) + 3) else none)
      refine congrArg _ ?_
      funext k
      by_cases l : k < 4
      · rw [if_pos l, if_pos l, aP_si l]
      · rw [if_neg l, if_neg l]
  · intro p k hp hk
    have := (h (p / 4) (by omega)).2.2.2.2 (p % 4) (by omega) k hk
    rw [← aP_si (by omega), show 4 * (p / 4) + p % 4 = p by omega] at this
    exact this
theorem sh_s {B s : Nat} {cA : ClassId} : jRA cA 2 (va_up (fun k => if k < s then some (aS B k + 0) else none) s (some (aS B s))) = jRA cA 2 (fun k => if k < s + 1 then some (aS B k + 0) else none) := by
  refine congrArg _ ?_
  funext k
  show (if k = s then some (aS B s) else if k < s then some (aS B k + 0) else none) = if k < s + 1 then some (aS B k + 0) else none
  by_cases e : k = s
  · subst e; rw [if_pos rfl, if_pos (by omega)]; rfl
  · rw [if_neg e]
    by_cases l : k < s
    · rw [if_pos l, if_pos (by omega)]
    · rw [if_neg l, if_neg (by omega)]

theorem J.hx {G : jG} {Z : State → (Nat → Prop) → Prop} {u : jMt} {d n sn pc : Nat} {Q : Option Value → jH → Prop} {lc : List (Option Value)} {st : List Value} {B m m' : Nat} {C : Nat → va_E} {g : Nat → Option va_E} (e : m = m') (kk : J G Z u d Q n sn pc lc st (Wd B C m' g, m')) : J G Z u d Q n sn pc lc st (Wd B C m g, m) := e ▸ kk

set_option maxHeartbeats 4000000 in
set_option maxRecDepth 100000 in
theorem lp_Sl {l : Launch} {D : va_G} {B : Nat} {g : Nat → Option va_E} (L : Int32) : ∀ (m : Nat) (s : Nat) (C : Nat → va_E), s ≤ 2 → 2 - s < m → C (B + 0) = .inr (9, [.null, .null, .ref (B + 12)]) → C (B + 1) = .inr (8, [.ref (B + 2), .ref (B + 3), .ref (B + 4), .ref (B + 5), .int 0]) → C (B + 2) = jIA (D.1 20) 8 (fun _ => 0) → C (B + 3) = jIA (D.1 20) 8 (fun _ => 0) → C (B + 4) = jIA (D.1 20) 8 (fun _ => 0) → C (B + 5) = jIA (D.1 20) 20 (fun k => nI (if k < 4 then 100 else 0)) → C (B + 6) = .inr (6, [.ref (B + 7), .ref (B + 8), .ref (B + 9), .ref (B + 10), .ref (B + 11), .int 0]) → (∀ j, j < 5 → C (B + 7 + j) = jIA (D.1 20) 32 (fun _ => 0)) → C (B + 12) = jRA (D.1 25) 2 (fun k => if k < s then some (aS B k + 0) else none) → SS0 D B (cL L) C s → J (G0 l D) jT m_Sl_init 4 (fun v h => v = none ∧ h = (hC D B (Pu.s0 (cL L)) κ0 g, B + 93)) (40 * (2 - s)) (1530 * (2 - s)) 31 [some (.ref (B + 0)), some (.int L), some (.ref (B + 1)), some (.ref (B + 6)), some (.int (nI s))] [] (Wd B C (aS B s) g, aS B s) := by
  intro m
  induction m with
  | zero =>
    intros
    exfalso
    omega
  | succ m ih =>
    intro s C h1 h2 t0 t1 t2 t3 t4 t5 t6 t7 t12 t13
    have hB : B + 13 ≤ aS B s := by unfold aS; omega
    refine j_iload d_Sl_init_31 rfl ?_
    refine j_iconst (v := nI 2) d_Sl_init_33 (by decide +kernel) ?_
    first | refine nn_icmp_ge (t := 76) d_Sl_init_34 (by decide) (by omega) (by omega) (fun c34 => ?_) (fun c34 => ?_) | refine mm_icmp_ge (t := 76) d_Sl_init_34 (by decide) (by omega) (by omega) (fun c34 => ?_) (fun c34 => ?_) | refine mn_icmp_ge (t := 76) d_Sl_init_34 (by decide) (by omega) (by omega) (fun c34 => ?_) (fun c34 => ?_) | refine nm_icmp_ge (t := 76) d_Sl_init_34 (by decide) (by omega) (by omega) (fun c34 => ?_) (fun c34 => ?_) | refine j_icmp_ge (t := 76) d_Sl_init_34 (by decide) (fun c34 => ?_) (fun c34 => ?_)
    · first | refine j_aload_n d_Sl_init_76 rfl ?_ | refine j_aload_nq d_Sl_init_76 rfl ?_ | refine j_aload_nN d_Sl_init_76 rfl ?_
      first | refine j_aload_n d_Sl_init_77 rfl ?_ | refine j_aload_nq d_Sl_init_77 rfl ?_ | refine j_aload_nN d_Sl_init_77 rfl ?_
      refine j_putF d_Sl_init_78 p_Sl_24 rfl (Wd_rd (by omega) (by omega) t0) rfl (by first | rfl | decide +kernel) (Nat.le_of_ble_eq_true rfl) (J.hq (Wd_put (by omega) (by omega)) ?_)
      first | refine j_aload_n d_Sl_init_81 rfl ?_ | refine j_aload_nq d_Sl_init_81 rfl ?_ | refine j_aload_nN d_Sl_init_81 rfl ?_
      first | refine j_aload_n d_Sl_init_82 rfl ?_ | refine j_aload_nq d_Sl_init_82 rfl ?_ | refine j_aload_nN d_Sl_init_82 rfl ?_
      refine j_putF d_Sl_init_83 p_Sl_28 rfl (Wd_rd (by omega) (by omega) cu_a) rfl (by first | rfl | decide +kernel) (Nat.le_of_ble_eq_true rfl) (J.hq (Wd_put (by omega) (by omega)) ?_)
      have es : s = 2 := by omega
      subst es
      refine j_vret d_Sl_init_86 rfl ⟨rfl, ?_⟩
      have e93 : aS B 2 = B + 93 := by unfold aS; omega
      rw [e93]
      refine Prod.ext ?_ rfl
      show Wd B (cu (cu C (B + 0) _) (B + 0) _) (B + 93) g = _
      rw [cu_cu]
      have k : ∀ b, b ≠ B + 0 → ∀ x, cu C (B + 0) x b = C b := fun b h x => cu_n h
      refine SS0_hC (fun s' hs' => ?_) cu_a (by rw [k _ (by omega)]; exact t1) (by rw [k _ (by omega)]; exact t2) (by rw [k _ (by omega)]; exact t3) (by rw [k _ (by omega)]; exact t4) (by rw [k _ (by omega)]; exact t5) (by rw [k _ (by omega)]; exact t6) (fun j hj => by rw [k _ (by omega)]; exact t7 j hj) (by rw [k _ (by omega)]; exact t12)
      obtain ⟨y0, y1, y2, y3, y4⟩ := t13 s' hs'
      have hge : B + 13 ≤ aS B s' := by unfold aS; omega
      exact ⟨by rw [k _ (by omega)]; exact y0, by rw [k _ (by omega)]; exact y1, by rw [k _ (by omega)]; exact y2, by rw [k _ (by omega)]; exact y3, fun i' h' q hq => by rw [k _ (by omega)]; exact y4 i' h' q hq⟩
    · refine J.more (n := 40 * (2 - (s + 1)) + 39 + 1) (sn := 1530 * (2 - (s + 1)) + 1528 + 2) (by omega) (by omega) ?_
      first | refine j_aload_n d_Sl_init_37 rfl ?_ | refine j_aload_nq d_Sl_init_37 rfl ?_ | refine j_aload_nN d_Sl_init_37 rfl ?_
      refine j_get d_Sl_init_38 f_Sl_17 (Wd_rd (by omega) (by omega) t0) rfl ?_
      refine j_iload d_Sl_init_41 rfl ?_
      refine j_new d_Sl_init_43 n_Sl_15 ?_
      refine J.hq (Wd_new (by omega)) ?_
      refine j_dup d_Sl_init_46 rfl ?_
      refine j_iload d_Sl_init_47 rfl ?_
      refine j_iload_n d_Sl_init_49 rfl ?_
      refine j_iload d_Sl_init_50 rfl ?_
      refine j_ishr d_Sl_init_52 ?_
      refine j_iconst (v := nI 1) d_Sl_init_53 (by decide +kernel) ?_
      refine j_iand d_Sl_init_54 ?_
      refine j_iconst (v := nI 1) d_Sl_init_55 (by decide +kernel) ?_
      refine j_icmp_ne (t := 63) d_Sl_init_56 (by decide) (fun c56 => ?_) (fun c56 => ?_)
      · refine j_iconst (v := nI 0) d_Sl_init_63 (by decide +kernel) ?_
        first | refine j_aload_n d_Sl_init_64 rfl ?_ | refine j_aload_nq d_Sl_init_64 rfl ?_ | refine j_aload_nN d_Sl_init_64 rfl ?_
        first | refine j_aload_n d_Sl_init_65 rfl ?_ | refine j_aload_nq d_Sl_init_65 rfl ?_ | refine j_aload_nN d_Sl_init_65 rfl ?_
        refine J.more (n := 39 + 40 * (2 - (s + 1))) (sn := 1528 + 1530 * (2 - (s + 1))) (by omega) (by omega) ?_
        refine j_callI (As := [_, _, _, _]) G0_good G0_E d_Sl_init_66 c_Sl_21 rfl rfl (i_Sh (B := B) s 0 (by omega) (by decide) (cL L) (fun i hi => cL_i (by omega) hi (by rw [if_neg c56])) cu_a) (by decide) (Nat.le_of_ble_eq_true rfl) ?_
        rintro _ _ ⟨rfl, C1, rfl, kp1, q0, q1, q2, q3, q4⟩
        refine j_aast (t := 5) (ci := 7) d_Sl_init_69 rfl (Wd_rd (by omega) (by omega) ((kp1 _ (by omega)).trans ((cu_n (by omega)).trans t12))) (Wd_rd (by omega) (by omega) q0) rfl rfl (by omega) (by decide) (J.hq (Wd_put (by omega) (by omega)) ?_)
        refine n_iinc (k := 1) d_Sl_init_70 (by decide +kernel) rfl (by decide) rfl rfl ?_
        refine j_goto (t := 31) d_Sl_init_73 (by decide) ?_
        have n1 : ∀ b, b < aS B s → b ≠ B + 12 → cu C1 (B + 12) (jRA (D.1 25) 2 (va_up (fun k => if k < s then some (aS B k + 0) else none) s (some (aS B s)))) b = C b := fun b h1 h2 => by rw [cu_n h2, kp1 b (by omega), cu_n (by omega)]
        have n2 : ∀ b, aS B s ≤ b → cu C1 (B + 12) (jRA (D.1 25) 2 (va_up (fun k => if k < s then some (aS B k + 0) else none) s (some (aS B s)))) b = C1 b := fun b h1 => cu_n (by omega)
        refine J.hx (show aS B s + 40 = aS B (s + 1) by unfold aS; omega) ?_
        refine ih (s + 1) _ (by omega) (by omega) ?_ ?_ ?_ ?_ ?_ ?_ ?_ ?_ ?_ ?_
        · rw [n1 _ (by omega) (by omega)]; exact t0
        · rw [n1 _ (by omega) (by omega)]; exact t1
        · rw [n1 _ (by omega) (by omega)]; exact t2
        · rw [n1 _ (by omega) (by omega)]; exact t3
        · rw [n1 _ (by omega) (by omega)]; exact t4
        · rw [n1 _ (by omega) (by omega)]; exact t5
        · rw [n1 _ (by omega) (by omega)]; exact t6
        · intro j hj; rw [n1 _ (by omega) (by omega)]; exact t7 j hj
        · rw [cu_a, sh_s]
        · intro s' hs'
          by_cases e : s' = s
          · subst e
            refine ⟨?_, ?_, ?_, ?_, fun i' h' k hk => ?_⟩
            · rw [n2 _ (by omega)]; exact q0
            · rw [n2 _ (by omega)]; exact q1
            · rw [n2 _ (by omega)]; exact q2
            · rw [n2 _ (by omega)]; exact q3
            · rw [n2 _ (by omega)]; exact q4 i' h' k hk
          · have hlt : aS B s' + 40 ≤ aS B s := by unfold aS; omega
            obtain ⟨y0, y1, y2, y3, y4⟩ := t13 s' (by omega)
            have hge : B + 13 ≤ aS B s' := by unfold aS; omega
            refine ⟨?_, ?_, ?_, ?_, fun i' h' k hk => ?_⟩
            · rw [n1 _ (by omega) (by omega)]; exact y0
            · rw [n1 _ (by omega) (by omega)]; exact y1
            · rw [n1 _ (by omega) (by omega)]; exact y2
            · rw [n1 _ (by omega) (by omega)]; exact y3
            · rw [n1 _ (by omega) (by omega)]; exact y4 i' h' k hk
      · refine j_iconst (v := nI 1) d_Sl_init_59 (by decide +kernel) ?_
        refine j_goto (t := 64) d_Sl_init_60 (by decide) ?_
        first | refine j_aload_n d_Sl_init_64 rfl ?_ | refine j_aload_nq d_Sl_init_64 rfl ?_ | refine j_aload_nN d_Sl_init_64 rfl ?_
        first | refine j_aload_n d_Sl_init_65 rfl ?_ | refine j_aload_nq d_Sl_init_65 rfl ?_ | refine j_aload_nN d_Sl_init_65 rfl ?_
        refine J.more (n := 39 + 40 * (2 - (s + 1))) (sn := 1528 + 1530 * (2 - (s + 1))) (by omega) (by omega) ?_
        refine j_callI (As := [_, _, _, _]) G0_good G0_E d_Sl_init_66 c_Sl_21 rfl rfl (i_Sh (B := B) s 1 (by omega) (by decide) (cL L) (fun i hi => cL_i (by omega) hi (by rw [if_pos c56])) cu_a) (by decide) (Nat.le_of_ble_eq_true rfl) ?_
        rintro _ _ ⟨rfl, C1, rfl, kp1, q0, q1, q2, q3, q4⟩
        refine j_aast (t := 5) (ci := 7) d_Sl_init_69 rfl (Wd_rd (by omega) (by omega) ((kp1 _ (by omega)).trans ((cu_n (by omega)).trans t12))) (Wd_rd (by omega) (by omega) q0) rfl rfl (by omega) (by decide) (J.hq (Wd_put (by omega) (by omega)) ?_)
        refine n_iinc (k := 1) d_Sl_init_70 (by decide +kernel) rfl (by decide) rfl rfl ?_
        refine j_goto (t := 31) d_Sl_init_73 (by decide) ?_
        have n1 : ∀ b, b < aS B s → b ≠ B + 12 → cu C1 (B + 12) (jRA (D.1 25) 2 (va_up (fun k => if k < s then some (aS B k + 0) else none) s (some (aS B s)))) b = C b := fun b h1 h2 => by rw [cu_n h2, kp1 b (by omega), cu_n (by omega)]
        have n2 : ∀ b, aS B s ≤ b → cu C1 (B + 12) (jRA (D.1 25) 2 (va_up (fun k => if k < s then some (aS B k + 0) else none) s (some (aS B s)))) b = C1 b := fun b h1 => cu_n (by omega)
        refine J.hx (show aS B s + 40 = aS B (s + 1) by unfold aS; omega) ?_
        refine ih (s + 1) _ (by omega) (by omega) ?_ ?_ ?_ ?_ ?_ ?_ ?_ ?_ ?_ ?_
        · rw [n1 _ (by omega) (by omega)]; exact t0
        · rw [n1 _ (by omega) (by omega)]; exact t1
        · rw [n1 _ (by omega) (by omega)]; exact t2
        · rw [n1 _ (by omega) (by omega)]; exact t3
        · rw [n1 _ (by omega) (by omega)]; exact t4
        · rw [n1 _ (by omega) (by omega)]; exact t5
        · rw [n1 _ (by omega) (by omega)]; exact t6
        · intro j hj; rw [n1 _ (by omega) (by omega)]; exact t7 j hj
        · rw [cu_a, sh_s]
        · intro s' hs'
          by_cases e : s' = s
          · subst e
            refine ⟨?_, ?_, ?_, ?_, fun i' h' k hk => ?_⟩
            · rw [n2 _ (by omega)]; exact q0
            · rw [n2 _ (by omega)]; exact q1
            · rw [n2 _ (by omega)]; exact q2
            · rw [n2 _ (by omega)]; exact q3
            · rw [n2 _ (by omega)]; exact q4 i' h' k hk
          · have hlt : aS B s' + 40 ≤ aS B s := by unfold aS; omega
            obtain ⟨y0, y1, y2, y3, y4⟩ := t13 s' (by omega)
            have hge : B + 13 ≤ aS B s' := by unfold aS; omega
            refine ⟨?_, ?_, ?_, ?_, fun i' h' k hk => ?_⟩
            · rw [n1 _ (by omega) (by omega)]; exact y0
            · rw [n1 _ (by omega) (by omega)]; exact y1
            · rw [n1 _ (by omega) (by omega)]; exact y2
            · rw [n1 _ (by omega) (by omega)]; exact y3
            · rw [n1 _ (by omega) (by omega)]; exact y4 i' h' k hk

set_option maxHeartbeats 4000000 in
set_option maxRecDepth 100000 in
theorem i_Sl {l : Launch} {D : va_G} {B : Nat} {g : Nat → Option va_E} (L : Int32) {C : Nat → va_E} (c0 : C (B + 0) = .inr (9, [.null, .null, .null])) : jM (G0 l D) m_Sl_init 4 92 3277 [.ref (B + 0), .int L] (Wd B C (B + 1) g, B + 1) (fun v h => v = none ∧ h = (hC D B (Pu.s0 (cL L)) κ0 g, B + 93)) := by
  refine jM.of (by decide +kernel) (Nat.le_of_ble_eq_true rfl) rfl ?_
  first | refine j_aload_n d_Sl_init_0 rfl ?_ | refine j_aload_nq d_Sl_init_0 rfl ?_ | refine j_aload_nN d_Sl_init_0 rfl ?_
  refine j_objInit d_Sl_init_1 o_Sl_3 o_i o_c (by decide) ?_
  refine j_new d_Sl_init_4 n_Sl_9 ?_
  refine J.hq (Wd_new (by omega)) ?_
  refine j_dup d_Sl_init_7 rfl ?_
  refine J.more (n := 4 + 87) (sn := 44 + 3228) (by omega) (by omega) ?_
  refine j_callI (As := []) G0_good G0_E d_Sl_init_8 c_Sl_11 rfl rfl (i_Tb (a := B + 1) (n := B + 2) (by omega) (by omega) cu_a) (by decide) (Nat.le_of_ble_eq_true rfl) ?_
  rintro _ _ ⟨rfl, C1, rfl, kp1, f0, f1, f2, f3, f4⟩
  first | refine j_astore_n d_Sl_init_11 (by decide) rfl rfl ?_ | refine j_astore_nq d_Sl_init_11 (by decide) rfl rfl ?_ | refine j_astore_nN d_Sl_init_11 (by decide) rfl rfl ?_
  refine j_new d_Sl_init_12 n_Sl_12 ?_
  refine J.hq (Wd_new (by omega)) ?_
  refine j_dup d_Sl_init_15 rfl ?_
  refine J.more (n := 5 + 81) (sn := 160 + 3062) (by omega) (by omega) ?_
  refine j_callN (As := []) G0_good G0_E d_Sl_init_16 c_Sl_14 rfl rfl (i_Rb (a := B + 6) (n := B + 7) (by omega) (by omega) cu_a) (by decide) (Nat.le_of_ble_eq_true rfl) ?_
  rintro _ _ ⟨rfl, C2, rfl, kp2, g0, g1, g2, g3, g4, g5⟩
  first | refine j_astore_n d_Sl_init_19 (by decide) rfl rfl ?_ | refine j_astore_nq d_Sl_init_19 (by decide) rfl rfl ?_ | refine j_astore_nN d_Sl_init_19 (by decide) rfl rfl ?_
  first | refine j_aload_n d_Sl_init_20 rfl ?_ | refine j_aload_nq d_Sl_init_20 rfl ?_ | refine j_aload_nN d_Sl_init_20 rfl ?_
  refine j_iconst (v := nI 2) d_Sl_init_21 (by decide +kernel) ?_
  refine j_newq (t := 5) (N := 2) d_Sl_init_22 rfl a_Sl_15 (fun s h => h.2.2.2.2.1) rfl (by decide) ?_
  refine J.hq (Wd_new (by omega)) ?_
  refine j_putF d_Sl_init_25 p_Sl_17 rfl (Wd_rd (by omega) (by omega) ((cu_n (by omega)).trans ((kp2 _ (by omega) (by omega)).trans ((cu_n (by omega)).trans ((kp1 _ (by omega) (by omega)).trans ((cu_n (by omega)).trans c0)))))) rfl (by first | rfl | decide +kernel) (Nat.le_of_ble_eq_true rfl) (J.hq (Wd_put (by omega) (by omega)) ?_)
  refine j_iconst (v := nI 0) d_Sl_init_28 (by decide +kernel) ?_
  refine j_istore d_Sl_init_29 (by decide) rfl rfl ?_
  refine J.hx (show B + 13 = aS B 0 from rfl) ?_
  have o2 : ∀ b, b ≠ B + 0 → b ≠ B + 12 → ∀ x, cu (cu C2 (B + 12) (jRA (D.1 25) 2 (fun _ => none))) (B + 0) x b = C2 b := fun b h1 h2 x => by rw [cu_n h1, cu_n h2]
  have o1 : ∀ b, b < B + 6 → C2 b = C1 b := fun b h => by rw [kp2 b (by omega) (by omega), cu_n (by omega)]
  refine lp_Sl L 3 0 _ (by omega) (by omega) cu_a ?_ ?_ ?_ ?_ ?_ ?_ ?_ ?_ (fun s' h => by omega)
  · rw [o2 _ (by omega) (by omega), o1 _ (by omega)]; exact f0
  · rw [o2 _ (by omega) (by omega), o1 _ (by omega)]; exact f1
  · rw [o2 _ (by omega) (by omega), o1 _ (by omega)]; exact f2
  · rw [o2 _ (by omega) (by omega), o1 _ (by omega)]; exact f3
  · rw [o2 _ (by omega) (by omega), o1 _ (by omega)]; exact f4
  · rw [o2 _ (by omega) (by omega)]; exact g0
  · intro j hj
    rw [o2 _ (by omega) (by omega)]
    have : j = 0 ∨ j = 1 ∨ j = 2 ∨ j = 3 ∨ j = 4 := by omega
    rcases this with e | e | e | e | e <;> subst e
    · exact g1
    · exact g2
    · exact g3
    · exact g4
    · exact g5
  · rw [cu_n (by omega), cu_a]; rfl
