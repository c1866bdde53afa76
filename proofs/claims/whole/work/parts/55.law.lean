/-! The law's body (g_law.py) -/
theorem FC_cL (L : Int32) : FC L (cL L) := by
  intro τ h p hp
  rw [h]
  refine ⟨cL_lt L p 0, ?_⟩
  unfold cL lbit
  by_cases q : p % 4 = 3 ∧ (L >>> (nI (p / 4) &&& 31)) &&& nI 1 = nI 1
  · rw [if_pos ⟨rfl, hp, q⟩]; exact ⟨fun _ => q, fun _ => by decide⟩
  · rw [if_neg (fun z => q z.2.2)]; exact ⟨fun z => absurd rfl z, fun z => absurd z q⟩
theorem Wd_1 {B : Nat} {x : va_E} {g : Nat → Option va_E} : va_up g B (some x) = Wd B (fun _ => x) (B + 1) g := by
  funext a
  unfold va_up Wd
  by_cases e : a = B
  · rw [if_pos e, if_pos (by omega)]
  · rw [if_neg e, if_neg (by omega)]
theorem kr_no {B : Nat} {σ : Sg} {κ : Kp} {nx : Nat} (kr : KR B σ κ nx) (a : Nat) (h1 : B + 93 ≤ a) (h2 : a < B + 121) : κ.2.2.1 a = false := by
  cases e : κ.2.2.1 a with
  | false => rfl
  | true => have := (kr.2.2.2.2.1.2 a e).1; omega
theorem KR_0 {B : Nat} {c : Nat → Nat → Nat} {nx : Nat} (h : B + 121 ≤ nx) : KR B (Pu.s0 c) κ0 nx := by
  refine ⟨fun p j _ _ => ⟨fun _ => rfl, fun _ => rfl⟩, fun p j a _ _ z => ?_, fun s k _ hk => ?_, fun s k s' k' a _ _ hk => ?_, ⟨h, fun a z => ?_⟩, fun a i z => ?_⟩
  · cases z
  · rw [Pu.s0_z (by omega) (by omega) (by omega)] at hk; omega
  · rw [Pu.s0_z (by omega) (by omega) (by omega)] at hk; omega
  · cases z
  · cases z
theorem sS_le {c : Nat → Nat → Nat} {σ : Sg} (ic : Pu.Ic c σ) : sS σ ≤ 1836 := by
  have a := Pu.ms918 ic.1.ms (s := 0) (by omega)
  have b := Pu.ms918 ic.1.ms (s := 1) (by omega)
  unfold sS
  omega
theorem and15 (x : Int32) : ∃ k, k < 16 ∧ x &&& nI 15 = nI k := by
  refine ⟨(x &&& nI 15).toInt.toNat, ?_⟩
  have e : (x &&& nI 15).toBitVec = x.toBitVec &&& 15#32 := rfl
  have h : (x.toBitVec &&& 15#32).toNat < 16 := by
    rw [BitVec.toNat_and]
    exact Nat.lt_of_le_of_lt Nat.and_le_right (by decide)
  have h2 : (x &&& nI 15).toInt = ((x.toBitVec &&& 15#32).toNat : Int) := by
    show (x.toBitVec &&& 15#32).toInt = _
    rw [BitVec.toInt_eq_toNat_of_lt (by omega)]
  rw [h2, Int.toNat_natCast]
  refine ⟨h, ?_⟩
  rw [← Int32.toInt_inj, h2, nI_toInt (by omega)]
theorem gt6 {L i : Nat} (hL : L ≤ 3073) (hi : i < 10000) : nI L - nI 6 < nI i ↔ L < i + 6 := by
  by_cases h : 6 ≤ L
  · rw [pk_sub h, Int32.lt_iff_toInt_lt, nI_toInt (by omega), nI_toInt (by omega)]; omega
  · have : L = 0 ∨ L = 1 ∨ L = 2 ∨ L = 3 ∨ L = 4 ∨ L = 5 := by omega
    rcases this with e | e | e | e | e | e <;> subst e
    · rw [Int32.lt_iff_toInt_lt, nI_toInt (by omega), show (nI 0 - nI 6).toInt = -6 by decide +kernel]; omega
    · rw [Int32.lt_iff_toInt_lt, nI_toInt (by omega), show (nI 1 - nI 6).toInt = -5 by decide +kernel]; omega
    · rw [Int32.lt_iff_toInt_lt, nI_toInt (by omega), show (nI 2 - nI 6).toInt = -4 by decide +kernel]; omega
    · rw [Int32.lt_iff_toInt_lt, nI_toInt (by omega), show (nI 3 - nI 6).toInt = -3 by decide +kernel]; omega
    · rw [Int32.lt_iff_toInt_lt, nI_toInt (by omega), show (nI 4 - nI 6).toInt = -2 by decide +kernel]; omega
    · rw [Int32.lt_iff_toInt_lt, nI_toInt (by omega), show (nI 5 - nI 6).toInt = -1 by decide +kernel]; omega
/-- a contract of a method that reads the script -/
def jMs (G : jG) (u : jMt) (d n sn b L : Nat) (xs : Nat → Int32) (av : List Value) (h : jH) (Q : Option Value → jH → Prop) : Prop :=
  Met G.1 u.1 (jws G u) { frames := d, cells := n, slots := sn, locals := 40 * d } (va_Pc av (fun U => (jHold G.2.1 G.2.2.1 h U.heap ∧ va_K G.2.1 G.2.2.1 G.2.2.2.1 U ∧ G.2.2.2.2.2 U) ∧ va_X b L xs U U.heap ∧ b < U.heap.size ∧ ¬ jA h b)) (jQc G Q (jA h)) n sn (jA h)
section JS
variable {G : jG} {u : jMt} {d n sn pc b L : Nat} {xs : Nat → Int32} {Q : Option Value → jH → Prop} {lc : List (Option Value)} {st : List Value} {h : jH}
theorem jMs.of {av : List Value} {lc0 : List (Option Value)} (hy : plainName u.1.cls = true) (hlen : (jent av).length ≤ u.2.2.1) (hlc : jent av ++ List.replicate (u.2.2.1 - (jent av).length) none = lc0) (body : J G (jScr b L xs) u d Q n sn 0 lc0 [] h) : jMs G u d n sn b L xs av h Q := by
  refine Met.ofW (cc := u.2.1) (maxL := u.2.2.1) (ret := u.2.2.2) hy rfl ?_
  intro p e s m args below meth c s₁ B hml hv
  obtain ⟨rfl, ⟨hh, hK, hE⟩, hX⟩ := hv
  have hts := atoms_spec (ws := jws G u) B.pre
  have hl := lv_entry av (n := u.2.2.1) (by rw [← jent_len]; exact hlen)
  rw [lg_entry_eq]
  exact body p e _ s m av.toArray below meth c s.heap [] 0 0 (jA h) n sn _ ⟨B.exec, B.bytes, hml, findClass_of_methodNamed B.named, fun w hw => hts w (List.mem_cons_of_mem _ hw), B.returns, B.notSynchronized, (name_of_methodNamed B.named B.method).1, Nat.le_refl _, Nat.le_refl _, Nat.le_refl _, Nat.le_refl _, hK, fun q hq => Or.inr (by rw [hh.1]; exact hq), hE, hX⟩
    ⟨by omega, by omega, jL.entry hl hlc, hh, va_S.rf, fun q hq => Or.inl hq⟩
theorem js_blind {av : List Value} (hE : jE G) : FrameBlind (va_Pc av (fun U => (jHold G.2.1 G.2.2.1 h U.heap ∧ va_K G.2.1 G.2.2.1 G.2.2.2.1 U ∧ G.2.2.2.2.2 U) ∧ va_X b L xs U U.heap ∧ b < U.heap.size ∧ ¬ jA h b)) := by
  intro a U g mk q
  obtain ⟨q0, ⟨q1, q2, q3⟩, q4, q5, q6⟩ := q
  exact ⟨q0, ⟨q1, va_K.moved (u := U) (U := U.calling g mk a) (Vm.Alike.refl U.vm) q2, hE.2 U g mk a q3⟩, va_X.moved (u := U) (U := U.calling g mk a) (Vm.Alike.refl U.vm) q4, q5, q6⟩
theorem j_callSs {i np d1 n1 s1 : Nat} {w : jMt} {As rest : List Value} {Q1 : Option Value → jH → Prop} (hg : jGood G) (hE : jE G) (hd : jd u pc (.invokestatic i) 3) (hc : jCS G u.1.cls i w np) (hown : w.1.cls = u.1.cls) (hst : st = As.reverse ++ rest) (hn : As.length = np) (hM : jMs G w d1 n1 s1 b L xs As h Q1) (hdd : d1 + 1 ≤ d) (hrest : (rest.map fun v => v.category).sum ≤ 8)
    (kk : ∀ v h', Q1 v h' → J G (jScr b L xs) u d Q n sn (pc + 3) lc (v.toList ++ rest) h') : J G (jScr b L xs) u d Q (n1 + n) (s1 + sn) pc lc st h := by
  intro p e R s m args below meth c H locs cells slots A mc ms ls X Y
  obtain ⟨⟨hl, hini, hcode, hdm, hnl⟩, hstat⟩ := hc
  have hts := X.2.2.2.2.1
  have hK := X.2.2.2.2.2.2.2.2.2.2.2.2.1
  have hfr := X.2.2.2.2.2.2.2.2.1
  have hlo := X.2.2.2.2.2.2.2.2.2.1
  have hmc := X.2.2.2.2.2.2.2.2.2.2.1
  have hms := X.2.2.2.2.2.2.2.2.2.2.2.1
  have hgw : GoodIn G.2.2.2.2.1 (wsS u.1.cls i w.1 (jws G w)) := by
    intro x hx
    unfold wsS at hx
    rcases List.mem_append.mp hx with hx | hx
    · simp only [List.mem_cons, List.not_mem_nil, or_false] at hx
      rcases hx with rfl | rfl | rfl
      · exact ⟨hl, hg _ hl⟩
      · exact ⟨hstat, hg _ hstat⟩
      · rw [← hown]; exact ⟨hini, hg _ hini⟩
    · exact jgood_ws hg hcode x hx
  have cw := cwS (R := R) (own := u.1.cls) (index := i) (ws := jws G w) (rm := { frames := d1, cells := n1, slots := s1, locals := 40 * d1 }) np hts hgw rfl rfl rfl ⟨hown, hdm⟩ ⟨by show d1 + 1 ≤ _; omega, by show 8 + (w.2.2.1 + 11) + 40 * d1 ≤ _; omega⟩
  obtain ⟨z1, z2, z3⟩ := X.2.2.2.2.2.2.2.2.2.2.2.2.2.2.2
  have hb3 : ¬ jA h b := fun z => z3 (jA_in Y.2.2.2.1 Y.2.2.2.2.1 X.2.2.2.2.2.2.2.2.2.2.2.2.2.1 Y.2.2.2.2.2 b z)
  exact j_run (va_runS (As := As) (rest := rest) ⟨X.1, X.2.1, X.2.2.1, X.2.2.2.1, hts⟩ hM cw ⟨js_blind hE, fun U hU hW => ⟨rfl, ⟨by rw [hU]; exact Y.2.2.2.1, va_K.moved hW.alike hK, hE.1 s U hW X.2.2.2.2.2.2.2.2.2.2.2.2.2.2.1⟩, by rw [hU]; exact va_X.moved hW.alike (va_X.kept z1 (Y.2.2.2.2.1.2.1 b z2 z3)), by rw [hU]; exact Nat.lt_of_lt_of_le z2 Y.2.2.2.2.1.1, hb3⟩⟩ rfl hn Y.2.2.1.1 hst (lv_room hrest) hd ⟨by have := Y.1; omega, by have := Y.2.1; omega⟩) X Y kk
theorem j_callSs0 {i np d1 : Nat} {w : jMt} {As rest : List Value} {Q1 : Option Value → jH → Prop} (hg : jGood G) (hE : jE G) (hd : jd u pc (.invokestatic i) 3) (hc : jCS G u.1.cls i w np) (hown : w.1.cls = u.1.cls) (hst : st = As.reverse ++ rest) (hn : As.length = np) (hM : jMs G w d1 0 0 b L xs As h Q1) (hdd : d1 + 1 ≤ d) (hrest : (rest.map fun v => v.category).sum ≤ 8)
    (kk : ∀ v h', Q1 v h' → J G (jScr b L xs) u d Q n sn (pc + 3) lc (v.toList ++ rest) h') : J G (jScr b L xs) u d Q n sn pc lc st h := by
  have := j_callSs (n := n) (sn := sn) hg hE hd hc hown hst hn hM hdd hrest kk
  simpa using this
end JS
/-- the script's first number, or 0 -/
def cv (L : Nat) (xs : Nat → Int32) : Int32 := if 0 < L then xs 0 else 0

set_option maxHeartbeats 4000000 in
set_option maxRecDepth 100000 in
theorem lp_cell {l : Launch} {D : va_G} {b Ls : Nat} {xs : Nat → Int32} {h0 : jH} (hL : Ls ≤ 3073) : J (G0 l D) (jScr b Ls xs) m_La_cell 0 (fun v h => v = some (.int (cv Ls xs)) ∧ h = h0) 0 0 0 [some (.ref b), some (.int (nI 0))] [] h0 := by
  refine j_iload_n d_La_cell_0 rfl ?_
  first | refine j_aload_n d_La_cell_1 rfl ?_ | refine j_aload_nq d_La_cell_1 rfl ?_ | refine j_aload_nN d_La_cell_1 rfl ?_
  refine j_slen d_La_cell_2 ?_
  first | refine nn_icmp_ge (t := 12) d_La_cell_3 (by decide) (by omega) (by omega) (fun c3 => ?_) (fun c3 => ?_) | refine mm_icmp_ge (t := 12) d_La_cell_3 (by decide) (by omega) (by omega) (fun c3 => ?_) (fun c3 => ?_) | refine mn_icmp_ge (t := 12) d_La_cell_3 (by decide) (by omega) (by omega) (fun c3 => ?_) (fun c3 => ?_) | refine nm_icmp_ge (t := 12) d_La_cell_3 (by decide) (by omega) (by omega) (fun c3 => ?_) (fun c3 => ?_) | refine j_icmp_ge (t := 12) d_La_cell_3 (by decide) (fun c3 => ?_) (fun c3 => ?_)
  · refine j_iconst (v := nI 0) d_La_cell_12 (by decide +kernel) ?_
    exact j_iret d_La_cell_13 rfl ⟨by unfold cv; rw [if_neg (by omega)]; rfl, rfl⟩
  · first | refine j_aload_n d_La_cell_6 rfl ?_ | refine j_aload_nq d_La_cell_6 rfl ?_ | refine j_aload_nN d_La_cell_6 rfl ?_
    refine j_iload_n d_La_cell_7 rfl ?_
    refine j_sld d_La_cell_8 rfl (by omega) (by omega) ?_
    refine j_goto (t := 13) d_La_cell_9 (by decide) ?_
    exact j_iret d_La_cell_13 rfl ⟨by unfold cv; rw [if_pos (by omega)], rfl⟩

theorem t_cell {l : Launch} {D : va_G} {b Ls : Nat} {xs : Nat → Int32} {h0 : jH} (hL : Ls ≤ 3073) : jMs (G0 l D) m_La_cell 0 0 0 b Ls xs [.ref b, .int (nI 0)] h0 (fun v h => v = some (.int (cv Ls xs)) ∧ h = h0) :=
  jMs.of (by decide +kernel) (Nat.le_of_ble_eq_true rfl) rfl (lp_cell hL)

set_option maxHeartbeats 4000000 in
set_option maxRecDepth 100000 in
theorem law_0 {l : Launch} {D : va_G} {B b Ls : Nat} {xs : Nat → Int32} {Lw : Int32} {c : Nat → Nat → Nat} {g : Nat → Option va_E} {σ ρ : Sg} {κ : Kp} {nx i : Nat} (fc : FC Lw c) (ic : Pu.Ic c σ) (kr : KR B σ κ nx) (hL : Ls ≤ 3073) (hi : i + 6 ≤ Ls) (hn : ∀ (σ' ρ' : Sg) (κ' : Kp) (nx' : Nat), Pu.Ic c σ' → KR B σ' κ' nx' → J (G0 l D) (jScr b Ls xs) m_La_law 8 (fun v _ => v = some (.int (nI 1))) (1836 - sS σ' + (4000 - (i + 6))) (7 * (1836 - sS σ' + (4000 - (i + 6)))) 694 [some (.ref b), some (.ref (B + 0)), some (.ref (B + 93 + 0)), some (.int (nI i))] [] (hC D B σ' κ' (hM D (B + 93) Lw σ' ρ' g), nx')) : J (G0 l D) (jScr b Ls xs) m_La_law 8 (fun v _ => v = some (.int (nI 1))) (1836 - sS σ + (4000 - i)) (7 * (1836 - sS σ + (4000 - i))) 120 [some (.ref b), some (.ref (B + 0)), some (.ref (B + 93 + 0)), some (.int (nI i))] [] (hC D B σ κ (hM D (B + 93) Lw σ ρ g), nx) := by
  first | refine j_aload_n d_La_law_120 rfl ?_ | refine j_aload_nq d_La_law_120 rfl ?_ | refine j_aload_nN d_La_law_120 rfl ?_
  first | refine j_aload_n d_La_law_121 rfl ?_ | refine j_aload_nq d_La_law_121 rfl ?_ | refine j_aload_nN d_La_law_121 rfl ?_
  refine j_iload_n d_La_law_122 rfl ?_
  refine j_iconst (v := nI 1) d_La_law_123 (by decide +kernel) ?_
  refine jn_iadd d_La_law_124 ?_
  refine j_sld d_La_law_125 rfl (by omega) (by omega) ?_
  first | refine j_aload_n d_La_law_126 rfl ?_ | refine j_aload_nq d_La_law_126 rfl ?_ | refine j_aload_nN d_La_law_126 rfl ?_
  refine j_iload_n d_La_law_127 rfl ?_
  refine j_iconst (v := nI 2) d_La_law_128 (by decide +kernel) ?_
  refine jn_iadd d_La_law_129 ?_
  refine j_sld d_La_law_130 rfl (by omega) (by omega) ?_
  first | refine j_aload_n d_La_law_131 rfl ?_ | refine j_aload_nq d_La_law_131 rfl ?_ | refine j_aload_nN d_La_law_131 rfl ?_
  refine j_iload_n d_La_law_132 rfl ?_
  refine j_iconst (v := nI 3) d_La_law_133 (by decide +kernel) ?_
  refine jn_iadd d_La_law_134 ?_
  refine j_sld d_La_law_135 rfl (by omega) (by omega) ?_
  obtain ⟨r, σ', ic', le, hS, hR⟩ := pr_submit (l := l) (D := D) (B := B) fc ic (xs (i + 1)) (xs (i + 2)) (xs (i + 3))
  have sl := sS_le ic'
  obtain ⟨d1, e1, s1, Q1, hd1, he1, hs1, hM1, hQ1⟩ := hS κ nx (hM D (B + 93) Lw σ ρ g) kr
  refine J.more (n := e1 + (1836 - sS σ' + (4000 - (i + 6)))) (sn := s1 + (7 * (1836 - sS σ' + (4000 - (i + 6))))) (by omega) (by omega) ?_
  refine j_callV (As := [_, _, _]) G0_good G0_E d_La_law_136 c_La_21 rfl rfl hM1 (hC_t (by decide)) rfl rfl (by omega) (Nat.le_of_ble_eq_true rfl) ?_
  rintro v h q
  obtain ⟨rfl, κ', nx', rfl, kr'⟩ := hQ1 v h q
  rw [hC_hM (kr_no kr')]
  first | refine j_aload_n d_La_law_139 rfl ?_ | refine j_aload_nq d_La_law_139 rfl ?_ | refine j_aload_nN d_La_law_139 rfl ?_
  first | refine j_aload_n d_La_law_140 rfl ?_ | refine j_aload_nq d_La_law_140 rfl ?_ | refine j_aload_nN d_La_law_140 rfl ?_
  refine j_iload_n d_La_law_141 rfl ?_
  refine j_iconst (v := nI 1) d_La_law_142 (by decide +kernel) ?_
  refine jn_iadd d_La_law_143 ?_
  refine j_sld d_La_law_144 rfl (by omega) (by omega) ?_
  first | refine j_aload_n d_La_law_145 rfl ?_ | refine j_aload_nq d_La_law_145 rfl ?_ | refine j_aload_nN d_La_law_145 rfl ?_
  refine j_iload_n d_La_law_146 rfl ?_
  refine j_iconst (v := nI 2) d_La_law_147 (by decide +kernel) ?_
  refine jn_iadd d_La_law_148 ?_
  refine j_sld d_La_law_149 rfl (by omega) (by omega) ?_
  first | refine j_aload_n d_La_law_150 rfl ?_ | refine j_aload_nq d_La_law_150 rfl ?_ | refine j_aload_nN d_La_law_150 rfl ?_
  refine j_iload_n d_La_law_151 rfl ?_
  refine j_iconst (v := nI 3) d_La_law_152 (by decide +kernel) ?_
  refine jn_iadd d_La_law_153 ?_
  refine j_sld d_La_law_154 rfl (by omega) (by omega) ?_
  obtain ⟨d2, Q2, hd2, hM2, hQ2⟩ := hR ρ nx' (hC D B σ' κ' g)
  refine j_callV0 (As := [_, _, _]) G0_good G0_E d_La_law_155 c_La_25 rfl rfl hM2 (hM_o (by decide)) rfl rfl (by omega) (Nat.le_of_ble_eq_true rfl) ?_
  rintro v h q
  obtain ⟨rfl, ρ', rfl⟩ := hQ2 v h q
  rw [← hC_hM (kr_no kr')]
  refine j_icmp_eq (t := 694) d_La_law_158 (by decide) (fun c158 => ?_) (fun c158 => ?_)
  · exact hn σ' ρ' κ' nx' ic' kr'
  · exfalso; first | exact c158 | omega | exact c158 rfl | exact c158 c291 | exact c291 c158

set_option maxHeartbeats 4000000 in
set_option maxRecDepth 100000 in
theorem law_1 {l : Launch} {D : va_G} {B b Ls : Nat} {xs : Nat → Int32} {Lw : Int32} {c : Nat → Nat → Nat} {g : Nat → Option va_E} {σ ρ : Sg} {κ : Kp} {nx i : Nat} (fc : FC Lw c) (ic : Pu.Ic c σ) (kr : KR B σ κ nx) (hL : Ls ≤ 3073) (hi : i + 6 ≤ Ls) (hn : ∀ (σ' ρ' : Sg) (κ' : Kp) (nx' : Nat), Pu.Ic c σ' → KR B σ' κ' nx' → J (G0 l D) (jScr b Ls xs) m_La_law 8 (fun v _ => v = some (.int (nI 1))) (1836 - sS σ' + (4000 - (i + 6))) (7 * (1836 - sS σ' + (4000 - (i + 6)))) 694 [some (.ref b), some (.ref (B + 0)), some (.ref (B + 93 + 0)), some (.int (nI i))] [] (hC D B σ' κ' (hM D (B + 93) Lw σ' ρ' g), nx')) : J (G0 l D) (jScr b Ls xs) m_La_law 8 (fun v _ => v = some (.int (nI 1))) (1836 - sS σ + (4000 - i)) (7 * (1836 - sS σ + (4000 - i))) 163 [some (.ref b), some (.ref (B + 0)), some (.ref (B + 93 + 0)), some (.int (nI i))] [] (hC D B σ κ (hM D (B + 93) Lw σ ρ g), nx) := by
  first | refine j_aload_n d_La_law_163 rfl ?_ | refine j_aload_nq d_La_law_163 rfl ?_ | refine j_aload_nN d_La_law_163 rfl ?_
  obtain ⟨r, σ', ic', le, hS, hR⟩ := pr_client (l := l) (D := D) (B := B) fc ic 
  have sl := sS_le ic'
  obtain ⟨d1, e1, s1, Q1, hd1, he1, hs1, hM1, hQ1⟩ := hS κ nx (hM D (B + 93) Lw σ ρ g) kr
  refine J.more (n := e1 + (1836 - sS σ' + (4000 - (i + 6)))) (sn := s1 + (7 * (1836 - sS σ' + (4000 - (i + 6))))) (by omega) (by omega) ?_
  refine j_callV (As := []) G0_good G0_E d_La_law_164 c_La_26 rfl rfl hM1 (hC_t (by decide)) rfl rfl (by omega) (Nat.le_of_ble_eq_true rfl) ?_
  rintro v h q
  obtain ⟨rfl, κ', nx', rfl, kr'⟩ := hQ1 v h q
  rw [hC_hM (kr_no kr')]
  first | refine j_aload_n d_La_law_167 rfl ?_ | refine j_aload_nq d_La_law_167 rfl ?_ | refine j_aload_nN d_La_law_167 rfl ?_
  obtain ⟨d2, Q2, hd2, hM2, hQ2⟩ := hR ρ nx' (hC D B σ' κ' g)
  refine j_callV0 (As := []) G0_good G0_E d_La_law_168 c_La_30 rfl rfl hM2 (hM_o (by decide)) rfl rfl (by omega) (Nat.le_of_ble_eq_true rfl) ?_
  rintro v h q
  obtain ⟨rfl, ρ', rfl⟩ := hQ2 v h q
  rw [← hC_hM (kr_no kr')]
  refine j_icmp_eq (t := 694) d_La_law_171 (by decide) (fun c171 => ?_) (fun c171 => ?_)
  · exact hn σ' ρ' κ' nx' ic' kr'
  · exfalso; first | exact c171 | omega | exact c171 rfl | exact c171 c291 | exact c291 c171

set_option maxHeartbeats 4000000 in
set_option maxRecDepth 100000 in
theorem law_2 {l : Launch} {D : va_G} {B b Ls : Nat} {xs : Nat → Int32} {Lw : Int32} {c : Nat → Nat → Nat} {g : Nat → Option va_E} {σ ρ : Sg} {κ : Kp} {nx i : Nat} (fc : FC Lw c) (ic : Pu.Ic c σ) (kr : KR B σ κ nx) (hL : Ls ≤ 3073) (hi : i + 6 ≤ Ls) (hn : ∀ (σ' ρ' : Sg) (κ' : Kp) (nx' : Nat), Pu.Ic c σ' → KR B σ' κ' nx' → J (G0 l D) (jScr b Ls xs) m_La_law 8 (fun v _ => v = some (.int (nI 1))) (1836 - sS σ' + (4000 - (i + 6))) (7 * (1836 - sS σ' + (4000 - (i + 6)))) 694 [some (.ref b), some (.ref (B + 0)), some (.ref (B + 93 + 0)), some (.int (nI i))] [] (hC D B σ' κ' (hM D (B + 93) Lw σ' ρ' g), nx')) : J (G0 l D) (jScr b Ls xs) m_La_law 8 (fun v _ => v = some (.int (nI 1))) (1836 - sS σ + (4000 - i)) (7 * (1836 - sS σ + (4000 - i))) 176 [some (.ref b), some (.ref (B + 0)), some (.ref (B + 93 + 0)), some (.int (nI i))] [] (hC D B σ κ (hM D (B + 93) Lw σ ρ g), nx) := by
  first | refine j_aload_n d_La_law_176 rfl ?_ | refine j_aload_nq d_La_law_176 rfl ?_ | refine j_aload_nN d_La_law_176 rfl ?_
  first | refine j_aload_n d_La_law_177 rfl ?_ | refine j_aload_nq d_La_law_177 rfl ?_ | refine j_aload_nN d_La_law_177 rfl ?_
  refine j_iload_n d_La_law_178 rfl ?_
  refine j_iconst (v := nI 1) d_La_law_179 (by decide +kernel) ?_
  refine jn_iadd d_La_law_180 ?_
  refine j_sld d_La_law_181 rfl (by omega) (by omega) ?_
  first | refine j_aload_n d_La_law_182 rfl ?_ | refine j_aload_nq d_La_law_182 rfl ?_ | refine j_aload_nN d_La_law_182 rfl ?_
  refine j_iload_n d_La_law_183 rfl ?_
  refine j_iconst (v := nI 2) d_La_law_184 (by decide +kernel) ?_
  refine jn_iadd d_La_law_185 ?_
  refine j_sld d_La_law_186 rfl (by omega) (by omega) ?_
  first | refine j_aload_n d_La_law_187 rfl ?_ | refine j_aload_nq d_La_law_187 rfl ?_ | refine j_aload_nN d_La_law_187 rfl ?_
  refine j_iload_n d_La_law_188 rfl ?_
  refine j_iconst (v := nI 3) d_La_law_189 (by decide +kernel) ?_
  refine jn_iadd d_La_law_190 ?_
  refine j_sld d_La_law_191 rfl (by omega) (by omega) ?_
  obtain ⟨r, σ', ic', le, hS, hR⟩ := pr_deliver (l := l) (D := D) (B := B) fc ic (xs (i + 1)) (xs (i + 2)) (xs (i + 3))
  have sl := sS_le ic'
  obtain ⟨d1, e1, s1, Q1, hd1, he1, hs1, hM1, hQ1⟩ := hS κ nx (hM D (B + 93) Lw σ ρ g) kr
  refine J.more (n := e1 + (1836 - sS σ' + (4000 - (i + 6)))) (sn := s1 + (7 * (1836 - sS σ' + (4000 - (i + 6))))) (by omega) (by omega) ?_
  refine j_callV (As := [_, _, _]) G0_good G0_E d_La_law_192 c_La_31 rfl rfl hM1 (hC_t (by decide)) rfl rfl (by omega) (Nat.le_of_ble_eq_true rfl) ?_
  rintro v h q
  obtain ⟨rfl, κ', nx', rfl, kr'⟩ := hQ1 v h q
  rw [hC_hM (kr_no kr')]
  first | refine j_aload_n d_La_law_195 rfl ?_ | refine j_aload_nq d_La_law_195 rfl ?_ | refine j_aload_nN d_La_law_195 rfl ?_
  first | refine j_aload_n d_La_law_196 rfl ?_ | refine j_aload_nq d_La_law_196 rfl ?_ | refine j_aload_nN d_La_law_196 rfl ?_
  refine j_iload_n d_La_law_197 rfl ?_
  refine j_iconst (v := nI 1) d_La_law_198 (by decide +kernel) ?_
  refine jn_iadd d_La_law_199 ?_
  refine j_sld d_La_law_200 rfl (by omega) (by omega) ?_
  first | refine j_aload_n d_La_law_201 rfl ?_ | refine j_aload_nq d_La_law_201 rfl ?_ | refine j_aload_nN d_La_law_201 rfl ?_
  refine j_iload_n d_La_law_202 rfl ?_
  refine j_iconst (v := nI 2) d_La_law_203 (by decide +kernel) ?_
  refine jn_iadd d_La_law_204 ?_
  refine j_sld d_La_law_205 rfl (by omega) (by omega) ?_
  first | refine j_aload_n d_La_law_206 rfl ?_ | refine j_aload_nq d_La_law_206 rfl ?_ | refine j_aload_nN d_La_law_206 rfl ?_
  refine j_iload_n d_La_law_207 rfl ?_
  refine j_iconst (v := nI 3) d_La_law_208 (by decide +kernel) ?_
  refine jn_iadd d_La_law_209 ?_
  refine j_sld d_La_law_210 rfl (by omega) (by omega) ?_
  obtain ⟨d2, Q2, hd2, hM2, hQ2⟩ := hR ρ nx' (hC D B σ' κ' g)
  refine j_callV0 (As := [_, _, _]) G0_good G0_E d_La_law_211 c_La_35 rfl rfl hM2 (hM_o (by decide)) rfl rfl (by omega) (Nat.le_of_ble_eq_true rfl) ?_
  rintro v h q
  obtain ⟨rfl, ρ', rfl⟩ := hQ2 v h q
  rw [← hC_hM (kr_no kr')]
  refine j_icmp_eq (t := 694) d_La_law_214 (by decide) (fun c214 => ?_) (fun c214 => ?_)
  · exact hn σ' ρ' κ' nx' ic' kr'
  · exfalso; first | exact c214 | omega | exact c214 rfl | exact c214 c291 | exact c291 c214

set_option maxHeartbeats 4000000 in
set_option maxRecDepth 100000 in
theorem law_3 {l : Launch} {D : va_G} {B b Ls : Nat} {xs : Nat → Int32} {Lw : Int32} {c : Nat → Nat → Nat} {g : Nat → Option va_E} {σ ρ : Sg} {κ : Kp} {nx i : Nat} (fc : FC Lw c) (ic : Pu.Ic c σ) (kr : KR B σ κ nx) (hL : Ls ≤ 3073) (hi : i + 6 ≤ Ls) (hn : ∀ (σ' ρ' : Sg) (κ' : Kp) (nx' : Nat), Pu.Ic c σ' → KR B σ' κ' nx' → J (G0 l D) (jScr b Ls xs) m_La_law 8 (fun v _ => v = some (.int (nI 1))) (1836 - sS σ' + (4000 - (i + 6))) (7 * (1836 - sS σ' + (4000 - (i + 6)))) 694 [some (.ref b), some (.ref (B + 0)), some (.ref (B + 93 + 0)), some (.int (nI i))] [] (hC D B σ' κ' (hM D (B + 93) Lw σ' ρ' g), nx')) : J (G0 l D) (jScr b Ls xs) m_La_law 8 (fun v _ => v = some (.int (nI 1))) (1836 - sS σ + (4000 - i)) (7 * (1836 - sS σ + (4000 - i))) 219 [some (.ref b), some (.ref (B + 0)), some (.ref (B + 93 + 0)), some (.int (nI i))] [] (hC D B σ κ (hM D (B + 93) Lw σ ρ g), nx) := by
  first | refine j_aload_n d_La_law_219 rfl ?_ | refine j_aload_nq d_La_law_219 rfl ?_ | refine j_aload_nN d_La_law_219 rfl ?_
  first | refine j_aload_n d_La_law_220 rfl ?_ | refine j_aload_nq d_La_law_220 rfl ?_ | refine j_aload_nN d_La_law_220 rfl ?_
  refine j_iload_n d_La_law_221 rfl ?_
  refine j_iconst (v := nI 1) d_La_law_222 (by decide +kernel) ?_
  refine jn_iadd d_La_law_223 ?_
  refine j_sld d_La_law_224 rfl (by omega) (by omega) ?_
  obtain ⟨r, σ', ic', le, hS, hR⟩ := pr_flood (l := l) (D := D) (B := B) fc ic (xs (i + 1))
  have sl := sS_le ic'
  obtain ⟨d1, e1, s1, Q1, hd1, he1, hs1, hM1, hQ1⟩ := hS κ nx (hM D (B + 93) Lw σ ρ g) kr
  refine J.more (n := e1 + (1836 - sS σ' + (4000 - (i + 6)))) (sn := s1 + (7 * (1836 - sS σ' + (4000 - (i + 6))))) (by omega) (by omega) ?_
  refine j_callV (As := [_]) G0_good G0_E d_La_law_225 c_La_36 rfl rfl hM1 (hC_t (by decide)) rfl rfl (by omega) (Nat.le_of_ble_eq_true rfl) ?_
  rintro v h q
  obtain ⟨rfl, κ', nx', rfl, kr'⟩ := hQ1 v h q
  rw [hC_hM (kr_no kr')]
  first | refine j_aload_n d_La_law_228 rfl ?_ | refine j_aload_nq d_La_law_228 rfl ?_ | refine j_aload_nN d_La_law_228 rfl ?_
  first | refine j_aload_n d_La_law_229 rfl ?_ | refine j_aload_nq d_La_law_229 rfl ?_ | refine j_aload_nN d_La_law_229 rfl ?_
  refine j_iload_n d_La_law_230 rfl ?_
  refine j_iconst (v := nI 1) d_La_law_231 (by decide +kernel) ?_
  refine jn_iadd d_La_law_232 ?_
  refine j_sld d_La_law_233 rfl (by omega) (by omega) ?_
  obtain ⟨d2, Q2, hd2, hM2, hQ2⟩ := hR ρ nx' (hC D B σ' κ' g)
  refine j_callV0 (As := [_]) G0_good G0_E d_La_law_234 c_La_40 rfl rfl hM2 (hM_o (by decide)) rfl rfl (by omega) (Nat.le_of_ble_eq_true rfl) ?_
  rintro v h q
  obtain ⟨rfl, ρ', rfl⟩ := hQ2 v h q
  rw [← hC_hM (kr_no kr')]
  refine j_icmp_eq (t := 694) d_La_law_237 (by decide) (fun c237 => ?_) (fun c237 => ?_)
  · exact hn σ' ρ' κ' nx' ic' kr'
  · exfalso; first | exact c237 | omega | exact c237 rfl | exact c237 c291 | exact c291 c237

set_option maxHeartbeats 4000000 in
set_option maxRecDepth 100000 in
theorem law_4 {l : Launch} {D : va_G} {B b Ls : Nat} {xs : Nat → Int32} {Lw : Int32} {c : Nat → Nat → Nat} {g : Nat → Option va_E} {σ ρ : Sg} {κ : Kp} {nx i : Nat} (fc : FC Lw c) (ic : Pu.Ic c σ) (kr : KR B σ κ nx) (hL : Ls ≤ 3073) (hi : i + 6 ≤ Ls) (hn : ∀ (σ' ρ' : Sg) (κ' : Kp) (nx' : Nat), Pu.Ic c σ' → KR B σ' κ' nx' → J (G0 l D) (jScr b Ls xs) m_La_law 8 (fun v _ => v = some (.int (nI 1))) (1836 - sS σ' + (4000 - (i + 6))) (7 * (1836 - sS σ' + (4000 - (i + 6)))) 694 [some (.ref b), some (.ref (B + 0)), some (.ref (B + 93 + 0)), some (.int (nI i))] [] (hC D B σ' κ' (hM D (B + 93) Lw σ' ρ' g), nx')) : J (G0 l D) (jScr b Ls xs) m_La_law 8 (fun v _ => v = some (.int (nI 1))) (1836 - sS σ + (4000 - i)) (7 * (1836 - sS σ + (4000 - i))) 242 [some (.ref b), some (.ref (B + 0)), some (.ref (B + 93 + 0)), some (.int (nI i))] [] (hC D B σ κ (hM D (B + 93) Lw σ ρ g), nx) := by
  first | refine j_aload_n d_La_law_242 rfl ?_ | refine j_aload_nq d_La_law_242 rfl ?_ | refine j_aload_nN d_La_law_242 rfl ?_
  first | refine j_aload_n d_La_law_243 rfl ?_ | refine j_aload_nq d_La_law_243 rfl ?_ | refine j_aload_nN d_La_law_243 rfl ?_
  refine j_iload_n d_La_law_244 rfl ?_
  refine j_iconst (v := nI 1) d_La_law_245 (by decide +kernel) ?_
  refine jn_iadd d_La_law_246 ?_
  refine j_sld d_La_law_247 rfl (by omega) (by omega) ?_
  first | refine j_aload_n d_La_law_248 rfl ?_ | refine j_aload_nq d_La_law_248 rfl ?_ | refine j_aload_nN d_La_law_248 rfl ?_
  refine j_iload_n d_La_law_249 rfl ?_
  refine j_iconst (v := nI 2) d_La_law_250 (by decide +kernel) ?_
  refine jn_iadd d_La_law_251 ?_
  refine j_sld d_La_law_252 rfl (by omega) (by omega) ?_
  obtain ⟨r, σ', ic', le, hS, hR⟩ := pr_tick (l := l) (D := D) (B := B) fc ic (xs (i + 1)) (xs (i + 2))
  have sl := sS_le ic'
  obtain ⟨d1, e1, s1, Q1, hd1, he1, hs1, hM1, hQ1⟩ := hS κ nx (hM D (B + 93) Lw σ ρ g) kr
  refine J.more (n := e1 + (1836 - sS σ' + (4000 - (i + 6)))) (sn := s1 + (7 * (1836 - sS σ' + (4000 - (i + 6))))) (by omega) (by omega) ?_
  refine j_callV (As := [_, _]) G0_good G0_E d_La_law_253 c_La_41 rfl rfl hM1 (hC_t (by decide)) rfl rfl (by omega) (Nat.le_of_ble_eq_true rfl) ?_
  rintro v h q
  obtain ⟨rfl, κ', nx', rfl, kr'⟩ := hQ1 v h q
  rw [hC_hM (kr_no kr')]
  first | refine j_aload_n d_La_law_256 rfl ?_ | refine j_aload_nq d_La_law_256 rfl ?_ | refine j_aload_nN d_La_law_256 rfl ?_
  first | refine j_aload_n d_La_law_257 rfl ?_ | refine j_aload_nq d_La_law_257 rfl ?_ | refine j_aload_nN d_La_law_257 rfl ?_
  refine j_iload_n d_La_law_258 rfl ?_
  refine j_iconst (v := nI 1) d_La_law_259 (by decide +kernel) ?_
  refine jn_iadd d_La_law_260 ?_
  refine j_sld d_La_law_261 rfl (by omega) (by omega) ?_
  first | refine j_aload_n d_La_law_262 rfl ?_ | refine j_aload_nq d_La_law_262 rfl ?_ | refine j_aload_nN d_La_law_262 rfl ?_
  refine j_iload_n d_La_law_263 rfl ?_
  refine j_iconst (v := nI 2) d_La_law_264 (by decide +kernel) ?_
  refine jn_iadd d_La_law_265 ?_
  refine j_sld d_La_law_266 rfl (by omega) (by omega) ?_
  obtain ⟨d2, Q2, hd2, hM2, hQ2⟩ := hR ρ nx' (hC D B σ' κ' g)
  refine j_callV0 (As := [_, _]) G0_good G0_E d_La_law_267 c_La_45 rfl rfl hM2 (hM_o (by decide)) rfl rfl (by omega) (Nat.le_of_ble_eq_true rfl) ?_
  rintro v h q
  obtain ⟨rfl, ρ', rfl⟩ := hQ2 v h q
  rw [← hC_hM (kr_no kr')]
  refine j_icmp_eq (t := 694) d_La_law_270 (by decide) (fun c270 => ?_) (fun c270 => ?_)
  · exact hn σ' ρ' κ' nx' ic' kr'
  · exfalso; first | exact c270 | omega | exact c270 rfl | exact c270 c291 | exact c291 c270

set_option maxHeartbeats 4000000 in
set_option maxRecDepth 100000 in
theorem law_5 {l : Launch} {D : va_G} {B b Ls : Nat} {xs : Nat → Int32} {Lw : Int32} {c : Nat → Nat → Nat} {g : Nat → Option va_E} {σ ρ : Sg} {κ : Kp} {nx i : Nat} (fc : FC Lw c) (ic : Pu.Ic c σ) (kr : KR B σ κ nx) (hL : Ls ≤ 3073) (hi : i + 6 ≤ Ls) (hn : ∀ (σ' ρ' : Sg) (κ' : Kp) (nx' : Nat), Pu.Ic c σ' → KR B σ' κ' nx' → J (G0 l D) (jScr b Ls xs) m_La_law 8 (fun v _ => v = some (.int (nI 1))) (1836 - sS σ' + (4000 - (i + 6))) (7 * (1836 - sS σ' + (4000 - (i + 6)))) 694 [some (.ref b), some (.ref (B + 0)), some (.ref (B + 93 + 0)), some (.int (nI i))] [] (hC D B σ' κ' (hM D (B + 93) Lw σ' ρ' g), nx')) : J (G0 l D) (jScr b Ls xs) m_La_law 8 (fun v _ => v = some (.int (nI 1))) (1836 - sS σ + (4000 - i)) (7 * (1836 - sS σ + (4000 - i))) 275 [some (.ref b), some (.ref (B + 0)), some (.ref (B + 93 + 0)), some (.int (nI i))] [] (hC D B σ κ (hM D (B + 93) Lw σ ρ g), nx) := by
  first | refine j_aload_n d_La_law_275 rfl ?_ | refine j_aload_nq d_La_law_275 rfl ?_ | refine j_aload_nN d_La_law_275 rfl ?_
  first | refine j_aload_n d_La_law_276 rfl ?_ | refine j_aload_nq d_La_law_276 rfl ?_ | refine j_aload_nN d_La_law_276 rfl ?_
  refine j_iload_n d_La_law_277 rfl ?_
  refine j_iconst (v := nI 1) d_La_law_278 (by decide +kernel) ?_
  refine jn_iadd d_La_law_279 ?_
  refine j_sld d_La_law_280 rfl (by omega) (by omega) ?_
  first | refine j_aload_n d_La_law_281 rfl ?_ | refine j_aload_nq d_La_law_281 rfl ?_ | refine j_aload_nN d_La_law_281 rfl ?_
  refine j_iload_n d_La_law_282 rfl ?_
  refine j_iconst (v := nI 2) d_La_law_283 (by decide +kernel) ?_
  refine jn_iadd d_La_law_284 ?_
  refine j_sld d_La_law_285 rfl (by omega) (by omega) ?_
  first | refine j_aload_n d_La_law_286 rfl ?_ | refine j_aload_nq d_La_law_286 rfl ?_ | refine j_aload_nN d_La_law_286 rfl ?_
  refine j_iload_n d_La_law_287 rfl ?_
  refine j_iconst (v := nI 3) d_La_law_288 (by decide +kernel) ?_
  refine jn_iadd d_La_law_289 ?_
  refine j_sld d_La_law_290 rfl (by omega) (by omega) ?_
  refine j_if_eq (t := 298) d_La_law_291 (by decide) (fun c291 => ?_) (fun c291 => ?_)
  · refine j_iconst (v := nI 0) d_La_law_298 (by decide +kernel) ?_
    obtain ⟨r, σ', ic', le, hS, hR⟩ := pr_sleep (l := l) (D := D) (B := B) fc ic (xs (i + 1)) (xs (i + 2)) 0 (by decide)
    have sl := sS_le ic'
    obtain ⟨d1, e1, s1, Q1, hd1, he1, hs1, hM1, hQ1⟩ := hS κ nx (hM D (B + 93) Lw σ ρ g) kr
    refine J.more (n := e1 + (1836 - sS σ' + (4000 - (i + 6)))) (sn := s1 + (7 * (1836 - sS σ' + (4000 - (i + 6))))) (by omega) (by omega) ?_
    refine j_callV (As := [_, _, _]) G0_good G0_E d_La_law_299 c_La_46 rfl rfl hM1 (hC_t (by decide)) rfl rfl (by omega) (Nat.le_of_ble_eq_true rfl) ?_
    rintro v h q
    obtain ⟨rfl, κ', nx', rfl, kr'⟩ := hQ1 v h q
    rw [hC_hM (kr_no kr')]
    first | refine j_aload_n d_La_law_302 rfl ?_ | refine j_aload_nq d_La_law_302 rfl ?_ | refine j_aload_nN d_La_law_302 rfl ?_
    first | refine j_aload_n d_La_law_303 rfl ?_ | refine j_aload_nq d_La_law_303 rfl ?_ | refine j_aload_nN d_La_law_303 rfl ?_
    refine j_iload_n d_La_law_304 rfl ?_
    refine j_iconst (v := nI 1) d_La_law_305 (by decide +kernel) ?_
    refine jn_iadd d_La_law_306 ?_
    refine j_sld d_La_law_307 rfl (by omega) (by omega) ?_
    first | refine j_aload_n d_La_law_308 rfl ?_ | refine j_aload_nq d_La_law_308 rfl ?_ | refine j_aload_nN d_La_law_308 rfl ?_
    refine j_iload_n d_La_law_309 rfl ?_
    refine j_iconst (v := nI 2) d_La_law_310 (by decide +kernel) ?_
    refine jn_iadd d_La_law_311 ?_
    refine j_sld d_La_law_312 rfl (by omega) (by omega) ?_
    first | refine j_aload_n d_La_law_313 rfl ?_ | refine j_aload_nq d_La_law_313 rfl ?_ | refine j_aload_nN d_La_law_313 rfl ?_
    refine j_iload_n d_La_law_314 rfl ?_
    refine j_iconst (v := nI 3) d_La_law_315 (by decide +kernel) ?_
    refine jn_iadd d_La_law_316 ?_
    refine j_sld d_La_law_317 rfl (by omega) (by omega) ?_
    refine j_if_eq (t := 325) d_La_law_318 (by decide) (fun c318 => ?_) (fun c318 => ?_)
    · refine j_iconst (v := nI 0) d_La_law_325 (by decide +kernel) ?_
      obtain ⟨d2, Q2, hd2, hM2, hQ2⟩ := hR ρ nx' (hC D B σ' κ' g)
      refine j_callV0 (As := [_, _, _]) G0_good G0_E d_La_law_326 c_La_50 rfl rfl hM2 (hM_o (by decide)) rfl rfl (by omega) (Nat.le_of_ble_eq_true rfl) ?_
      rintro v h q
      obtain ⟨rfl, ρ', rfl⟩ := hQ2 v h q
      rw [← hC_hM (kr_no kr')]
      refine j_icmp_eq (t := 694) d_La_law_329 (by decide) (fun c329 => ?_) (fun c329 => ?_)
      · exact hn σ' ρ' κ' nx' ic' kr'
      · exfalso; first | exact c329 | omega | exact c329 rfl | exact c329 c291 | exact c291 c329
    · exfalso; first | exact c318 | omega | exact c318 rfl | exact c318 c291 | exact c291 c318
  · refine j_iconst (v := nI 1) d_La_law_294 (by decide +kernel) ?_
    refine j_goto (t := 299) d_La_law_295 (by decide) ?_
    obtain ⟨r, σ', ic', le, hS, hR⟩ := pr_sleep (l := l) (D := D) (B := B) fc ic (xs (i + 1)) (xs (i + 2)) 1 (by decide)
    have sl := sS_le ic'
    obtain ⟨d1, e1, s1, Q1, hd1, he1, hs1, hM1, hQ1⟩ := hS κ nx (hM D (B + 93) Lw σ ρ g) kr
    refine J.more (n := e1 + (1836 - sS σ' + (4000 - (i + 6)))) (sn := s1 + (7 * (1836 - sS σ' + (4000 - (i + 6))))) (by omega) (by omega) ?_
    refine j_callV (As := [_, _, _]) G0_good G0_E d_La_law_299 c_La_46 rfl rfl hM1 (hC_t (by decide)) rfl rfl (by omega) (Nat.le_of_ble_eq_true rfl) ?_
    rintro v h q
    obtain ⟨rfl, κ', nx', rfl, kr'⟩ := hQ1 v h q
    rw [hC_hM (kr_no kr')]
    first | refine j_aload_n d_La_law_302 rfl ?_ | refine j_aload_nq d_La_law_302 rfl ?_ | refine j_aload_nN d_La_law_302 rfl ?_
    first | refine j_aload_n d_La_law_303 rfl ?_ | refine j_aload_nq d_La_law_303 rfl ?_ | refine j_aload_nN d_La_law_303 rfl ?_
    refine j_iload_n d_La_law_304 rfl ?_
    refine j_iconst (v := nI 1) d_La_law_305 (by decide +kernel) ?_
    refine jn_iadd d_La_law_306 ?_
    refine j_sld d_La_law_307 rfl (by omega) (by omega) ?_
    first | refine j_aload_n d_La_law_308 rfl ?_ | refine j_aload_nq d_La_law_308 rfl ?_ | refine j_aload_nN d_La_law_308 rfl ?_
    refine j_iload_n d_La_law_309 rfl ?_
    refine j_iconst (v := nI 2) d_La_law_310 (by decide +kernel) ?_
    refine jn_iadd d_La_law_311 ?_
    refine j_sld d_La_law_312 rfl (by omega) (by omega) ?_
    first | refine j_aload_n d_La_law_313 rfl ?_ | refine j_aload_nq d_La_law_313 rfl ?_ | refine j_aload_nN d_La_law_313 rfl ?_
    refine j_iload_n d_La_law_314 rfl ?_
    refine j_iconst (v := nI 3) d_La_law_315 (by decide +kernel) ?_
    refine jn_iadd d_La_law_316 ?_
    refine j_sld d_La_law_317 rfl (by omega) (by omega) ?_
    refine j_if_eq (t := 325) d_La_law_318 (by decide) (fun c318 => ?_) (fun c318 => ?_)
    · exfalso; first | exact c318 | omega | exact c318 rfl | exact c318 c291 | exact c291 c318
    · refine j_iconst (v := nI 1) d_La_law_321 (by decide +kernel) ?_
      refine j_goto (t := 326) d_La_law_322 (by decide) ?_
      obtain ⟨d2, Q2, hd2, hM2, hQ2⟩ := hR ρ nx' (hC D B σ' κ' g)
      refine j_callV0 (As := [_, _, _]) G0_good G0_E d_La_law_326 c_La_50 rfl rfl hM2 (hM_o (by decide)) rfl rfl (by omega) (Nat.le_of_ble_eq_true rfl) ?_
      rintro v h q
      obtain ⟨rfl, ρ', rfl⟩ := hQ2 v h q
      rw [← hC_hM (kr_no kr')]
      refine j_icmp_eq (t := 694) d_La_law_329 (by decide) (fun c329 => ?_) (fun c329 => ?_)
      · exact hn σ' ρ' κ' nx' ic' kr'
      · exfalso; first | exact c329 | omega | exact c329 rfl | exact c329 c291 | exact c291 c329

set_option maxHeartbeats 4000000 in
set_option maxRecDepth 100000 in
theorem law_6 {l : Launch} {D : va_G} {B b Ls : Nat} {xs : Nat → Int32} {Lw : Int32} {c : Nat → Nat → Nat} {g : Nat → Option va_E} {σ ρ : Sg} {κ : Kp} {nx i : Nat} (fc : FC Lw c) (ic : Pu.Ic c σ) (kr : KR B σ κ nx) (hL : Ls ≤ 3073) (hi : i + 6 ≤ Ls) (hn : ∀ (σ' ρ' : Sg) (κ' : Kp) (nx' : Nat), Pu.Ic c σ' → KR B σ' κ' nx' → J (G0 l D) (jScr b Ls xs) m_La_law 8 (fun v _ => v = some (.int (nI 1))) (1836 - sS σ' + (4000 - (i + 6))) (7 * (1836 - sS σ' + (4000 - (i + 6)))) 694 [some (.ref b), some (.ref (B + 0)), some (.ref (B + 93 + 0)), some (.int (nI i))] [] (hC D B σ' κ' (hM D (B + 93) Lw σ' ρ' g), nx')) : J (G0 l D) (jScr b Ls xs) m_La_law 8 (fun v _ => v = some (.int (nI 1))) (1836 - sS σ + (4000 - i)) (7 * (1836 - sS σ + (4000 - i))) 334 [some (.ref b), some (.ref (B + 0)), some (.ref (B + 93 + 0)), some (.int (nI i))] [] (hC D B σ κ (hM D (B + 93) Lw σ ρ g), nx) := by
  first | refine j_aload_n d_La_law_334 rfl ?_ | refine j_aload_nq d_La_law_334 rfl ?_ | refine j_aload_nN d_La_law_334 rfl ?_
  first | refine j_aload_n d_La_law_335 rfl ?_ | refine j_aload_nq d_La_law_335 rfl ?_ | refine j_aload_nN d_La_law_335 rfl ?_
  refine j_iload_n d_La_law_336 rfl ?_
  refine j_iconst (v := nI 1) d_La_law_337 (by decide +kernel) ?_
  refine jn_iadd d_La_law_338 ?_
  refine j_sld d_La_law_339 rfl (by omega) (by omega) ?_
  first | refine j_aload_n d_La_law_340 rfl ?_ | refine j_aload_nq d_La_law_340 rfl ?_ | refine j_aload_nN d_La_law_340 rfl ?_
  refine j_iload_n d_La_law_341 rfl ?_
  refine j_iconst (v := nI 2) d_La_law_342 (by decide +kernel) ?_
  refine jn_iadd d_La_law_343 ?_
  refine j_sld d_La_law_344 rfl (by omega) (by omega) ?_
  first | refine j_aload_n d_La_law_345 rfl ?_ | refine j_aload_nq d_La_law_345 rfl ?_ | refine j_aload_nN d_La_law_345 rfl ?_
  refine j_iload_n d_La_law_346 rfl ?_
  refine j_iconst (v := nI 3) d_La_law_347 (by decide +kernel) ?_
  refine jn_iadd d_La_law_348 ?_
  refine j_sld d_La_law_349 rfl (by omega) (by omega) ?_
  first | refine j_aload_n d_La_law_350 rfl ?_ | refine j_aload_nq d_La_law_350 rfl ?_ | refine j_aload_nN d_La_law_350 rfl ?_
  refine j_iload_n d_La_law_351 rfl ?_
  refine j_iconst (v := nI 4) d_La_law_352 (by decide +kernel) ?_
  refine jn_iadd d_La_law_353 ?_
  refine j_sld d_La_law_354 rfl (by omega) (by omega) ?_
  first | refine j_aload_n d_La_law_355 rfl ?_ | refine j_aload_nq d_La_law_355 rfl ?_ | refine j_aload_nN d_La_law_355 rfl ?_
  refine j_iload_n d_La_law_356 rfl ?_
  refine j_iconst (v := nI 5) d_La_law_357 (by decide +kernel) ?_
  refine jn_iadd d_La_law_358 ?_
  refine j_sld d_La_law_359 rfl (by omega) (by omega) ?_
  obtain ⟨r, σ', ic', le, hS, hR⟩ := pr_lie (l := l) (D := D) (B := B) fc ic (xs (i + 1)) (xs (i + 2)) (xs (i + 3)) (xs (i + 4)) (xs (i + 5))
  have sl := sS_le ic'
  obtain ⟨d1, e1, s1, Q1, hd1, he1, hs1, hM1, hQ1⟩ := hS κ nx (hM D (B + 93) Lw σ ρ g) kr
  refine J.more (n := e1 + (1836 - sS σ' + (4000 - (i + 6)))) (sn := s1 + (7 * (1836 - sS σ' + (4000 - (i + 6))))) (by omega) (by omega) ?_
  refine j_callV (As := [_, _, _, _, _]) G0_good G0_E d_La_law_360 c_La_51 rfl rfl hM1 (hC_t (by decide)) rfl rfl (by omega) (Nat.le_of_ble_eq_true rfl) ?_
  rintro v h q
  obtain ⟨rfl, κ', nx', rfl, kr'⟩ := hQ1 v h q
  rw [hC_hM (kr_no kr')]
  first | refine j_aload_n d_La_law_363 rfl ?_ | refine j_aload_nq d_La_law_363 rfl ?_ | refine j_aload_nN d_La_law_363 rfl ?_
  first | refine j_aload_n d_La_law_364 rfl ?_ | refine j_aload_nq d_La_law_364 rfl ?_ | refine j_aload_nN d_La_law_364 rfl ?_
  refine j_iload_n d_La_law_365 rfl ?_
  refine j_iconst (v := nI 1) d_La_law_366 (by decide +kernel) ?_
  refine jn_iadd d_La_law_367 ?_
  refine j_sld d_La_law_368 rfl (by omega) (by omega) ?_
  first | refine j_aload_n d_La_law_369 rfl ?_ | refine j_aload_nq d_La_law_369 rfl ?_ | refine j_aload_nN d_La_law_369 rfl ?_
  refine j_iload_n d_La_law_370 rfl ?_
  refine j_iconst (v := nI 2) d_La_law_371 (by decide +kernel) ?_
  refine jn_iadd d_La_law_372 ?_
  refine j_sld d_La_law_373 rfl (by omega) (by omega) ?_
  first | refine j_aload_n d_La_law_374 rfl ?_ | refine j_aload_nq d_La_law_374 rfl ?_ | refine j_aload_nN d_La_law_374 rfl ?_
  refine j_iload_n d_La_law_375 rfl ?_
  refine j_iconst (v := nI 3) d_La_law_376 (by decide +kernel) ?_
  refine jn_iadd d_La_law_377 ?_
  refine j_sld d_La_law_378 rfl (by omega) (by omega) ?_
  first | refine j_aload_n d_La_law_379 rfl ?_ | refine j_aload_nq d_La_law_379 rfl ?_ | refine j_aload_nN d_La_law_379 rfl ?_
  refine j_iload_n d_La_law_380 rfl ?_
  refine j_iconst (v := nI 4) d_La_law_381 (by decide +kernel) ?_
  refine jn_iadd d_La_law_382 ?_
  refine j_sld d_La_law_383 rfl (by omega) (by omega) ?_
  first | refine j_aload_n d_La_law_384 rfl ?_ | refine j_aload_nq d_La_law_384 rfl ?_ | refine j_aload_nN d_La_law_384 rfl ?_
  refine j_iload_n d_La_law_385 rfl ?_
  refine j_iconst (v := nI 5) d_La_law_386 (by decide +kernel) ?_
  refine jn_iadd d_La_law_387 ?_
  refine j_sld d_La_law_388 rfl (by omega) (by omega) ?_
  obtain ⟨d2, Q2, hd2, hM2, hQ2⟩ := hR ρ nx' (hC D B σ' κ' g)
  refine j_callV0 (As := [_, _, _, _, _]) G0_good G0_E d_La_law_389 c_La_55 rfl rfl hM2 (hM_o (by decide)) rfl rfl (by omega) (Nat.le_of_ble_eq_true rfl) ?_
  rintro v h q
  obtain ⟨rfl, ρ', rfl⟩ := hQ2 v h q
  rw [← hC_hM (kr_no kr')]
  refine j_icmp_eq (t := 694) d_La_law_392 (by decide) (fun c392 => ?_) (fun c392 => ?_)
  · exact hn σ' ρ' κ' nx' ic' kr'
  · exfalso; first | exact c392 | omega | exact c392 rfl | exact c392 c291 | exact c291 c392

set_option maxHeartbeats 4000000 in
set_option maxRecDepth 100000 in
theorem law_7 {l : Launch} {D : va_G} {B b Ls : Nat} {xs : Nat → Int32} {Lw : Int32} {c : Nat → Nat → Nat} {g : Nat → Option va_E} {σ ρ : Sg} {κ : Kp} {nx i : Nat} (fc : FC Lw c) (ic : Pu.Ic c σ) (kr : KR B σ κ nx) (hL : Ls ≤ 3073) (hi : i + 6 ≤ Ls) (hn : ∀ (σ' ρ' : Sg) (κ' : Kp) (nx' : Nat), Pu.Ic c σ' → KR B σ' κ' nx' → J (G0 l D) (jScr b Ls xs) m_La_law 8 (fun v _ => v = some (.int (nI 1))) (1836 - sS σ' + (4000 - (i + 6))) (7 * (1836 - sS σ' + (4000 - (i + 6)))) 694 [some (.ref b), some (.ref (B + 0)), some (.ref (B + 93 + 0)), some (.int (nI i))] [] (hC D B σ' κ' (hM D (B + 93) Lw σ' ρ' g), nx')) : J (G0 l D) (jScr b Ls xs) m_La_law 8 (fun v _ => v = some (.int (nI 1))) (1836 - sS σ + (4000 - i)) (7 * (1836 - sS σ + (4000 - i))) 397 [some (.ref b), some (.ref (B + 0)), some (.ref (B + 93 + 0)), some (.int (nI i))] [] (hC D B σ κ (hM D (B + 93) Lw σ ρ g), nx) := by
  first | refine j_aload_n d_La_law_397 rfl ?_ | refine j_aload_nq d_La_law_397 rfl ?_ | refine j_aload_nN d_La_law_397 rfl ?_
  first | refine j_aload_n d_La_law_398 rfl ?_ | refine j_aload_nq d_La_law_398 rfl ?_ | refine j_aload_nN d_La_law_398 rfl ?_
  refine j_iload_n d_La_law_399 rfl ?_
  refine j_iconst (v := nI 1) d_La_law_400 (by decide +kernel) ?_
  refine jn_iadd d_La_law_401 ?_
  refine j_sld d_La_law_402 rfl (by omega) (by omega) ?_
  obtain ⟨r, σ', ic', le, hS, hR⟩ := pr_messages (l := l) (D := D) (B := B) fc ic (xs (i + 1))
  have sl := sS_le ic'
  obtain ⟨d1, e1, s1, Q1, hd1, he1, hs1, hM1, hQ1⟩ := hS κ nx (hM D (B + 93) Lw σ ρ g) kr
  refine J.more (n := e1 + (1836 - sS σ' + (4000 - (i + 6)))) (sn := s1 + (7 * (1836 - sS σ' + (4000 - (i + 6))))) (by omega) (by omega) ?_
  refine j_callV (As := [_]) G0_good G0_E d_La_law_403 c_La_56 rfl rfl hM1 (hC_t (by decide)) rfl rfl (by omega) (Nat.le_of_ble_eq_true rfl) ?_
  rintro v h q
  obtain ⟨rfl, κ', nx', rfl, kr'⟩ := hQ1 v h q
  rw [hC_hM (kr_no kr')]
  first | refine j_aload_n d_La_law_406 rfl ?_ | refine j_aload_nq d_La_law_406 rfl ?_ | refine j_aload_nN d_La_law_406 rfl ?_
  first | refine j_aload_n d_La_law_407 rfl ?_ | refine j_aload_nq d_La_law_407 rfl ?_ | refine j_aload_nN d_La_law_407 rfl ?_
  refine j_iload_n d_La_law_408 rfl ?_
  refine j_iconst (v := nI 1) d_La_law_409 (by decide +kernel) ?_
  refine jn_iadd d_La_law_410 ?_
  refine j_sld d_La_law_411 rfl (by omega) (by omega) ?_
  obtain ⟨d2, Q2, hd2, hM2, hQ2⟩ := hR ρ nx' (hC D B σ' κ' g)
  refine j_callV0 (As := [_]) G0_good G0_E d_La_law_412 c_La_59 rfl rfl hM2 (hM_o (by decide)) rfl rfl (by omega) (Nat.le_of_ble_eq_true rfl) ?_
  rintro v h q
  obtain ⟨rfl, ρ', rfl⟩ := hQ2 v h q
  rw [← hC_hM (kr_no kr')]
  refine j_icmp_eq (t := 694) d_La_law_415 (by decide) (fun c415 => ?_) (fun c415 => ?_)
  · exact hn σ' ρ' κ' nx' ic' kr'
  · exfalso; first | exact c415 | omega | exact c415 rfl | exact c415 c291 | exact c291 c415

set_option maxHeartbeats 4000000 in
set_option maxRecDepth 100000 in
theorem law_8 {l : Launch} {D : va_G} {B b Ls : Nat} {xs : Nat → Int32} {Lw : Int32} {c : Nat → Nat → Nat} {g : Nat → Option va_E} {σ ρ : Sg} {κ : Kp} {nx i : Nat} (fc : FC Lw c) (ic : Pu.Ic c σ) (kr : KR B σ κ nx) (hL : Ls ≤ 3073) (hi : i + 6 ≤ Ls) (hn : ∀ (σ' ρ' : Sg) (κ' : Kp) (nx' : Nat), Pu.Ic c σ' → KR B σ' κ' nx' → J (G0 l D) (jScr b Ls xs) m_La_law 8 (fun v _ => v = some (.int (nI 1))) (1836 - sS σ' + (4000 - (i + 6))) (7 * (1836 - sS σ' + (4000 - (i + 6)))) 694 [some (.ref b), some (.ref (B + 0)), some (.ref (B + 93 + 0)), some (.int (nI i))] [] (hC D B σ' κ' (hM D (B + 93) Lw σ' ρ' g), nx')) : J (G0 l D) (jScr b Ls xs) m_La_law 8 (fun v _ => v = some (.int (nI 1))) (1836 - sS σ + (4000 - i)) (7 * (1836 - sS σ + (4000 - i))) 420 [some (.ref b), some (.ref (B + 0)), some (.ref (B + 93 + 0)), some (.int (nI i))] [] (hC D B σ κ (hM D (B + 93) Lw σ ρ g), nx) := by
  first | refine j_aload_n d_La_law_420 rfl ?_ | refine j_aload_nq d_La_law_420 rfl ?_ | refine j_aload_nN d_La_law_420 rfl ?_
  first | refine j_aload_n d_La_law_421 rfl ?_ | refine j_aload_nq d_La_law_421 rfl ?_ | refine j_aload_nN d_La_law_421 rfl ?_
  refine j_iload_n d_La_law_422 rfl ?_
  refine j_iconst (v := nI 1) d_La_law_423 (by decide +kernel) ?_
  refine jn_iadd d_La_law_424 ?_
  refine j_sld d_La_law_425 rfl (by omega) (by omega) ?_
  first | refine j_aload_n d_La_law_426 rfl ?_ | refine j_aload_nq d_La_law_426 rfl ?_ | refine j_aload_nN d_La_law_426 rfl ?_
  refine j_iload_n d_La_law_427 rfl ?_
  refine j_iconst (v := nI 2) d_La_law_428 (by decide +kernel) ?_
  refine jn_iadd d_La_law_429 ?_
  refine j_sld d_La_law_430 rfl (by omega) (by omega) ?_
  first | refine j_aload_n d_La_law_431 rfl ?_ | refine j_aload_nq d_La_law_431 rfl ?_ | refine j_aload_nN d_La_law_431 rfl ?_
  refine j_iload_n d_La_law_432 rfl ?_
  refine j_iconst (v := nI 3) d_La_law_433 (by decide +kernel) ?_
  refine jn_iadd d_La_law_434 ?_
  refine j_sld d_La_law_435 rfl (by omega) (by omega) ?_
  obtain ⟨r, σ', ic', le, hS, hR⟩ := pr_message (l := l) (D := D) (B := B) fc ic (xs (i + 1)) (xs (i + 2)) (xs (i + 3))
  have sl := sS_le ic'
  obtain ⟨d1, e1, s1, Q1, hd1, he1, hs1, hM1, hQ1⟩ := hS κ nx (hM D (B + 93) Lw σ ρ g) kr
  refine J.more (n := e1 + (1836 - sS σ' + (4000 - (i + 6)))) (sn := s1 + (7 * (1836 - sS σ' + (4000 - (i + 6))))) (by omega) (by omega) ?_
  refine j_callV (As := [_, _, _]) G0_good G0_E d_La_law_436 c_La_60 rfl rfl hM1 (hC_t (by decide)) rfl rfl (by omega) (Nat.le_of_ble_eq_true rfl) ?_
  rintro v h q
  obtain ⟨rfl, κ', nx', rfl, kr'⟩ := hQ1 v h q
  rw [hC_hM (kr_no kr')]
  first | refine j_aload_n d_La_law_439 rfl ?_ | refine j_aload_nq d_La_law_439 rfl ?_ | refine j_aload_nN d_La_law_439 rfl ?_
  first | refine j_aload_n d_La_law_440 rfl ?_ | refine j_aload_nq d_La_law_440 rfl ?_ | refine j_aload_nN d_La_law_440 rfl ?_
  refine j_iload_n d_La_law_441 rfl ?_
  refine j_iconst (v := nI 1) d_La_law_442 (by decide +kernel) ?_
  refine jn_iadd d_La_law_443 ?_
  refine j_sld d_La_law_444 rfl (by omega) (by omega) ?_
  first | refine j_aload_n d_La_law_445 rfl ?_ | refine j_aload_nq d_La_law_445 rfl ?_ | refine j_aload_nN d_La_law_445 rfl ?_
  refine j_iload_n d_La_law_446 rfl ?_
  refine j_iconst (v := nI 2) d_La_law_447 (by decide +kernel) ?_
  refine jn_iadd d_La_law_448 ?_
  refine j_sld d_La_law_449 rfl (by omega) (by omega) ?_
  first | refine j_aload_n d_La_law_450 rfl ?_ | refine j_aload_nq d_La_law_450 rfl ?_ | refine j_aload_nN d_La_law_450 rfl ?_
  refine j_iload_n d_La_law_451 rfl ?_
  refine j_iconst (v := nI 3) d_La_law_452 (by decide +kernel) ?_
  refine jn_iadd d_La_law_453 ?_
  refine j_sld d_La_law_454 rfl (by omega) (by omega) ?_
  obtain ⟨d2, Q2, hd2, hM2, hQ2⟩ := hR ρ nx' (hC D B σ' κ' g)
  refine j_callV0 (As := [_, _, _]) G0_good G0_E d_La_law_455 c_La_63 rfl rfl hM2 (hM_o (by decide)) rfl rfl (by omega) (Nat.le_of_ble_eq_true rfl) ?_
  rintro v h q
  obtain ⟨rfl, ρ', rfl⟩ := hQ2 v h q
  rw [← hC_hM (kr_no kr')]
  refine j_icmp_eq (t := 694) d_La_law_458 (by decide) (fun c458 => ?_) (fun c458 => ?_)
  · exact hn σ' ρ' κ' nx' ic' kr'
  · exfalso; first | exact c458 | omega | exact c458 rfl | exact c458 c291 | exact c291 c458

set_option maxHeartbeats 4000000 in
set_option maxRecDepth 100000 in
theorem law_9 {l : Launch} {D : va_G} {B b Ls : Nat} {xs : Nat → Int32} {Lw : Int32} {c : Nat → Nat → Nat} {g : Nat → Option va_E} {σ ρ : Sg} {κ : Kp} {nx i : Nat} (fc : FC Lw c) (ic : Pu.Ic c σ) (kr : KR B σ κ nx) (hL : Ls ≤ 3073) (hi : i + 6 ≤ Ls) (hn : ∀ (σ' ρ' : Sg) (κ' : Kp) (nx' : Nat), Pu.Ic c σ' → KR B σ' κ' nx' → J (G0 l D) (jScr b Ls xs) m_La_law 8 (fun v _ => v = some (.int (nI 1))) (1836 - sS σ' + (4000 - (i + 6))) (7 * (1836 - sS σ' + (4000 - (i + 6)))) 694 [some (.ref b), some (.ref (B + 0)), some (.ref (B + 93 + 0)), some (.int (nI i))] [] (hC D B σ' κ' (hM D (B + 93) Lw σ' ρ' g), nx')) : J (G0 l D) (jScr b Ls xs) m_La_law 8 (fun v _ => v = some (.int (nI 1))) (1836 - sS σ + (4000 - i)) (7 * (1836 - sS σ + (4000 - i))) 463 [some (.ref b), some (.ref (B + 0)), some (.ref (B + 93 + 0)), some (.int (nI i))] [] (hC D B σ κ (hM D (B + 93) Lw σ ρ g), nx) := by
  first | refine j_aload_n d_La_law_463 rfl ?_ | refine j_aload_nq d_La_law_463 rfl ?_ | refine j_aload_nN d_La_law_463 rfl ?_
  first | refine j_aload_n d_La_law_464 rfl ?_ | refine j_aload_nq d_La_law_464 rfl ?_ | refine j_aload_nN d_La_law_464 rfl ?_
  refine j_iload_n d_La_law_465 rfl ?_
  refine j_iconst (v := nI 1) d_La_law_466 (by decide +kernel) ?_
  refine jn_iadd d_La_law_467 ?_
  refine j_sld d_La_law_468 rfl (by omega) (by omega) ?_
  first | refine j_aload_n d_La_law_469 rfl ?_ | refine j_aload_nq d_La_law_469 rfl ?_ | refine j_aload_nN d_La_law_469 rfl ?_
  refine j_iload_n d_La_law_470 rfl ?_
  refine j_iconst (v := nI 2) d_La_law_471 (by decide +kernel) ?_
  refine jn_iadd d_La_law_472 ?_
  refine j_sld d_La_law_473 rfl (by omega) (by omega) ?_
  first | refine j_aload_n d_La_law_474 rfl ?_ | refine j_aload_nq d_La_law_474 rfl ?_ | refine j_aload_nN d_La_law_474 rfl ?_
  refine j_iload_n d_La_law_475 rfl ?_
  refine j_iconst (v := nI 3) d_La_law_476 (by decide +kernel) ?_
  refine jn_iadd d_La_law_477 ?_
  refine j_sld d_La_law_478 rfl (by omega) (by omega) ?_
  obtain ⟨r, σ', ic', le, hS, hR⟩ := pr_replica (l := l) (D := D) (B := B) fc ic (xs (i + 1)) (xs (i + 2)) (xs (i + 3))
  have sl := sS_le ic'
  obtain ⟨d1, e1, s1, Q1, hd1, he1, hs1, hM1, hQ1⟩ := hS κ nx (hM D (B + 93) Lw σ ρ g) kr
  refine J.more (n := e1 + (1836 - sS σ' + (4000 - (i + 6)))) (sn := s1 + (7 * (1836 - sS σ' + (4000 - (i + 6))))) (by omega) (by omega) ?_
  refine j_callV (As := [_, _, _]) G0_good G0_E d_La_law_479 c_La_64 rfl rfl hM1 (hC_t (by decide)) rfl rfl (by omega) (Nat.le_of_ble_eq_true rfl) ?_
  rintro v h q
  obtain ⟨rfl, κ', nx', rfl, kr'⟩ := hQ1 v h q
  rw [hC_hM (kr_no kr')]
  first | refine j_aload_n d_La_law_482 rfl ?_ | refine j_aload_nq d_La_law_482 rfl ?_ | refine j_aload_nN d_La_law_482 rfl ?_
  first | refine j_aload_n d_La_law_483 rfl ?_ | refine j_aload_nq d_La_law_483 rfl ?_ | refine j_aload_nN d_La_law_483 rfl ?_
  refine j_iload_n d_La_law_484 rfl ?_
  refine j_iconst (v := nI 1) d_La_law_485 (by decide +kernel) ?_
  refine jn_iadd d_La_law_486 ?_
  refine j_sld d_La_law_487 rfl (by omega) (by omega) ?_
  first | refine j_aload_n d_La_law_488 rfl ?_ | refine j_aload_nq d_La_law_488 rfl ?_ | refine j_aload_nN d_La_law_488 rfl ?_
  refine j_iload_n d_La_law_489 rfl ?_
  refine j_iconst (v := nI 2) d_La_law_490 (by decide +kernel) ?_
  refine jn_iadd d_La_law_491 ?_
  refine j_sld d_La_law_492 rfl (by omega) (by omega) ?_
  first | refine j_aload_n d_La_law_493 rfl ?_ | refine j_aload_nq d_La_law_493 rfl ?_ | refine j_aload_nN d_La_law_493 rfl ?_
  refine j_iload_n d_La_law_494 rfl ?_
  refine j_iconst (v := nI 3) d_La_law_495 (by decide +kernel) ?_
  refine jn_iadd d_La_law_496 ?_
  refine j_sld d_La_law_497 rfl (by omega) (by omega) ?_
  obtain ⟨d2, Q2, hd2, hM2, hQ2⟩ := hR ρ nx' (hC D B σ' κ' g)
  refine j_callV0 (As := [_, _, _]) G0_good G0_E d_La_law_498 c_La_67 rfl rfl hM2 (hM_o (by decide)) rfl rfl (by omega) (Nat.le_of_ble_eq_true rfl) ?_
  rintro v h q
  obtain ⟨rfl, ρ', rfl⟩ := hQ2 v h q
  rw [← hC_hM (kr_no kr')]
  refine j_icmp_eq (t := 694) d_La_law_501 (by decide) (fun c501 => ?_) (fun c501 => ?_)
  · exact hn σ' ρ' κ' nx' ic' kr'
  · exfalso; first | exact c501 | omega | exact c501 rfl | exact c501 c291 | exact c291 c501

set_option maxHeartbeats 4000000 in
set_option maxRecDepth 100000 in
theorem law_10 {l : Launch} {D : va_G} {B b Ls : Nat} {xs : Nat → Int32} {Lw : Int32} {c : Nat → Nat → Nat} {g : Nat → Option va_E} {σ ρ : Sg} {κ : Kp} {nx i : Nat} (fc : FC Lw c) (ic : Pu.Ic c σ) (kr : KR B σ κ nx) (hL : Ls ≤ 3073) (hi : i + 6 ≤ Ls) (hn : ∀ (σ' ρ' : Sg) (κ' : Kp) (nx' : Nat), Pu.Ic c σ' → KR B σ' κ' nx' → J (G0 l D) (jScr b Ls xs) m_La_law 8 (fun v _ => v = some (.int (nI 1))) (1836 - sS σ' + (4000 - (i + 6))) (7 * (1836 - sS σ' + (4000 - (i + 6)))) 694 [some (.ref b), some (.ref (B + 0)), some (.ref (B + 93 + 0)), some (.int (nI i))] [] (hC D B σ' κ' (hM D (B + 93) Lw σ' ρ' g), nx')) : J (G0 l D) (jScr b Ls xs) m_La_law 8 (fun v _ => v = some (.int (nI 1))) (1836 - sS σ + (4000 - i)) (7 * (1836 - sS σ + (4000 - i))) 506 [some (.ref b), some (.ref (B + 0)), some (.ref (B + 93 + 0)), some (.int (nI i))] [] (hC D B σ κ (hM D (B + 93) Lw σ ρ g), nx) := by
  first | refine j_aload_n d_La_law_506 rfl ?_ | refine j_aload_nq d_La_law_506 rfl ?_ | refine j_aload_nN d_La_law_506 rfl ?_
  first | refine j_aload_n d_La_law_507 rfl ?_ | refine j_aload_nq d_La_law_507 rfl ?_ | refine j_aload_nN d_La_law_507 rfl ?_
  refine j_iload_n d_La_law_508 rfl ?_
  refine j_iconst (v := nI 1) d_La_law_509 (by decide +kernel) ?_
  refine jn_iadd d_La_law_510 ?_
  refine j_sld d_La_law_511 rfl (by omega) (by omega) ?_
  first | refine j_aload_n d_La_law_512 rfl ?_ | refine j_aload_nq d_La_law_512 rfl ?_ | refine j_aload_nN d_La_law_512 rfl ?_
  refine j_iload_n d_La_law_513 rfl ?_
  refine j_iconst (v := nI 2) d_La_law_514 (by decide +kernel) ?_
  refine jn_iadd d_La_law_515 ?_
  refine j_sld d_La_law_516 rfl (by omega) (by omega) ?_
  first | refine j_aload_n d_La_law_517 rfl ?_ | refine j_aload_nq d_La_law_517 rfl ?_ | refine j_aload_nN d_La_law_517 rfl ?_
  refine j_iload_n d_La_law_518 rfl ?_
  refine j_iconst (v := nI 3) d_La_law_519 (by decide +kernel) ?_
  refine jn_iadd d_La_law_520 ?_
  refine j_sld d_La_law_521 rfl (by omega) (by omega) ?_
  obtain ⟨r, σ', ic', le, hS, hR⟩ := pr_executed (l := l) (D := D) (B := B) fc ic (xs (i + 1)) (xs (i + 2)) (xs (i + 3))
  have sl := sS_le ic'
  obtain ⟨d1, e1, s1, Q1, hd1, he1, hs1, hM1, hQ1⟩ := hS κ nx (hM D (B + 93) Lw σ ρ g) kr
  refine J.more (n := e1 + (1836 - sS σ' + (4000 - (i + 6)))) (sn := s1 + (7 * (1836 - sS σ' + (4000 - (i + 6))))) (by omega) (by omega) ?_
  refine j_callV (As := [_, _, _]) G0_good G0_E d_La_law_522 c_La_68 rfl rfl hM1 (hC_t (by decide)) rfl rfl (by omega) (Nat.le_of_ble_eq_true rfl) ?_
  rintro v h q
  obtain ⟨rfl, κ', nx', rfl, kr'⟩ := hQ1 v h q
  rw [hC_hM (kr_no kr')]
  first | refine j_aload_n d_La_law_525 rfl ?_ | refine j_aload_nq d_La_law_525 rfl ?_ | refine j_aload_nN d_La_law_525 rfl ?_
  first | refine j_aload_n d_La_law_526 rfl ?_ | refine j_aload_nq d_La_law_526 rfl ?_ | refine j_aload_nN d_La_law_526 rfl ?_
  refine j_iload_n d_La_law_527 rfl ?_
  refine j_iconst (v := nI 1) d_La_law_528 (by decide +kernel) ?_
  refine jn_iadd d_La_law_529 ?_
  refine j_sld d_La_law_530 rfl (by omega) (by omega) ?_
  first | refine j_aload_n d_La_law_531 rfl ?_ | refine j_aload_nq d_La_law_531 rfl ?_ | refine j_aload_nN d_La_law_531 rfl ?_
  refine j_iload_n d_La_law_532 rfl ?_
  refine j_iconst (v := nI 2) d_La_law_533 (by decide +kernel) ?_
  refine jn_iadd d_La_law_534 ?_
  refine j_sld d_La_law_535 rfl (by omega) (by omega) ?_
  first | refine j_aload_n d_La_law_536 rfl ?_ | refine j_aload_nq d_La_law_536 rfl ?_ | refine j_aload_nN d_La_law_536 rfl ?_
  refine j_iload_n d_La_law_537 rfl ?_
  refine j_iconst (v := nI 3) d_La_law_538 (by decide +kernel) ?_
  refine jn_iadd d_La_law_539 ?_
  refine j_sld d_La_law_540 rfl (by omega) (by omega) ?_
  obtain ⟨d2, Q2, hd2, hM2, hQ2⟩ := hR ρ nx' (hC D B σ' κ' g)
  refine j_callV0 (As := [_, _, _]) G0_good G0_E d_La_law_541 c_La_71 rfl rfl hM2 (hM_o (by decide)) rfl rfl (by omega) (Nat.le_of_ble_eq_true rfl) ?_
  rintro v h q
  obtain ⟨rfl, ρ', rfl⟩ := hQ2 v h q
  rw [← hC_hM (kr_no kr')]
  refine j_icmp_eq (t := 694) d_La_law_544 (by decide) (fun c544 => ?_) (fun c544 => ?_)
  · exact hn σ' ρ' κ' nx' ic' kr'
  · exfalso; first | exact c544 | omega | exact c544 rfl | exact c544 c291 | exact c291 c544

set_option maxHeartbeats 4000000 in
set_option maxRecDepth 100000 in
theorem law_11 {l : Launch} {D : va_G} {B b Ls : Nat} {xs : Nat → Int32} {Lw : Int32} {c : Nat → Nat → Nat} {g : Nat → Option va_E} {σ ρ : Sg} {κ : Kp} {nx i : Nat} (fc : FC Lw c) (ic : Pu.Ic c σ) (kr : KR B σ κ nx) (hL : Ls ≤ 3073) (hi : i + 6 ≤ Ls) (hn : ∀ (σ' ρ' : Sg) (κ' : Kp) (nx' : Nat), Pu.Ic c σ' → KR B σ' κ' nx' → J (G0 l D) (jScr b Ls xs) m_La_law 8 (fun v _ => v = some (.int (nI 1))) (1836 - sS σ' + (4000 - (i + 6))) (7 * (1836 - sS σ' + (4000 - (i + 6)))) 694 [some (.ref b), some (.ref (B + 0)), some (.ref (B + 93 + 0)), some (.int (nI i))] [] (hC D B σ' κ' (hM D (B + 93) Lw σ' ρ' g), nx')) : J (G0 l D) (jScr b Ls xs) m_La_law 8 (fun v _ => v = some (.int (nI 1))) (1836 - sS σ + (4000 - i)) (7 * (1836 - sS σ + (4000 - i))) 549 [some (.ref b), some (.ref (B + 0)), some (.ref (B + 93 + 0)), some (.int (nI i))] [] (hC D B σ κ (hM D (B + 93) Lw σ ρ g), nx) := by
  first | refine j_aload_n d_La_law_549 rfl ?_ | refine j_aload_nq d_La_law_549 rfl ?_ | refine j_aload_nN d_La_law_549 rfl ?_
  first | refine j_aload_n d_La_law_550 rfl ?_ | refine j_aload_nq d_La_law_550 rfl ?_ | refine j_aload_nN d_La_law_550 rfl ?_
  refine j_iload_n d_La_law_551 rfl ?_
  refine j_iconst (v := nI 1) d_La_law_552 (by decide +kernel) ?_
  refine jn_iadd d_La_law_553 ?_
  refine j_sld d_La_law_554 rfl (by omega) (by omega) ?_
  first | refine j_aload_n d_La_law_555 rfl ?_ | refine j_aload_nq d_La_law_555 rfl ?_ | refine j_aload_nN d_La_law_555 rfl ?_
  refine j_iload_n d_La_law_556 rfl ?_
  refine j_iconst (v := nI 2) d_La_law_557 (by decide +kernel) ?_
  refine jn_iadd d_La_law_558 ?_
  refine j_sld d_La_law_559 rfl (by omega) (by omega) ?_
  first | refine j_aload_n d_La_law_560 rfl ?_ | refine j_aload_nq d_La_law_560 rfl ?_ | refine j_aload_nN d_La_law_560 rfl ?_
  refine j_iload_n d_La_law_561 rfl ?_
  refine j_iconst (v := nI 3) d_La_law_562 (by decide +kernel) ?_
  refine jn_iadd d_La_law_563 ?_
  refine j_sld d_La_law_564 rfl (by omega) (by omega) ?_
  obtain ⟨r, σ', ic', le, hS, hR⟩ := pr_output (l := l) (D := D) (B := B) fc ic (xs (i + 1)) (xs (i + 2)) (xs (i + 3))
  have sl := sS_le ic'
  obtain ⟨d1, e1, s1, Q1, hd1, he1, hs1, hM1, hQ1⟩ := hS κ nx (hM D (B + 93) Lw σ ρ g) kr
  refine J.more (n := e1 + (1836 - sS σ' + (4000 - (i + 6)))) (sn := s1 + (7 * (1836 - sS σ' + (4000 - (i + 6))))) (by omega) (by omega) ?_
  refine j_callV (As := [_, _, _]) G0_good G0_E d_La_law_565 c_La_72 rfl rfl hM1 (hC_t (by decide)) rfl rfl (by omega) (Nat.le_of_ble_eq_true rfl) ?_
  rintro v h q
  obtain ⟨rfl, κ', nx', rfl, kr'⟩ := hQ1 v h q
  rw [hC_hM (kr_no kr')]
  first | refine j_aload_n d_La_law_568 rfl ?_ | refine j_aload_nq d_La_law_568 rfl ?_ | refine j_aload_nN d_La_law_568 rfl ?_
  first | refine j_aload_n d_La_law_569 rfl ?_ | refine j_aload_nq d_La_law_569 rfl ?_ | refine j_aload_nN d_La_law_569 rfl ?_
  refine j_iload_n d_La_law_570 rfl ?_
  refine j_iconst (v := nI 1) d_La_law_571 (by decide +kernel) ?_
  refine jn_iadd d_La_law_572 ?_
  refine j_sld d_La_law_573 rfl (by omega) (by omega) ?_
  first | refine j_aload_n d_La_law_574 rfl ?_ | refine j_aload_nq d_La_law_574 rfl ?_ | refine j_aload_nN d_La_law_574 rfl ?_
  refine j_iload_n d_La_law_575 rfl ?_
  refine j_iconst (v := nI 2) d_La_law_576 (by decide +kernel) ?_
  refine jn_iadd d_La_law_577 ?_
  refine j_sld d_La_law_578 rfl (by omega) (by omega) ?_
  first | refine j_aload_n d_La_law_579 rfl ?_ | refine j_aload_nq d_La_law_579 rfl ?_ | refine j_aload_nN d_La_law_579 rfl ?_
  refine j_iload_n d_La_law_580 rfl ?_
  refine j_iconst (v := nI 3) d_La_law_581 (by decide +kernel) ?_
  refine jn_iadd d_La_law_582 ?_
  refine j_sld d_La_law_583 rfl (by omega) (by omega) ?_
  obtain ⟨d2, Q2, hd2, hM2, hQ2⟩ := hR ρ nx' (hC D B σ' κ' g)
  refine j_callV0 (As := [_, _, _]) G0_good G0_E d_La_law_584 c_La_75 rfl rfl hM2 (hM_o (by decide)) rfl rfl (by omega) (Nat.le_of_ble_eq_true rfl) ?_
  rintro v h q
  obtain ⟨rfl, ρ', rfl⟩ := hQ2 v h q
  rw [← hC_hM (kr_no kr')]
  refine j_icmp_eq (t := 694) d_La_law_587 (by decide) (fun c587 => ?_) (fun c587 => ?_)
  · exact hn σ' ρ' κ' nx' ic' kr'
  · exfalso; first | exact c587 | omega | exact c587 rfl | exact c587 c291 | exact c291 c587

set_option maxHeartbeats 4000000 in
set_option maxRecDepth 100000 in
theorem law_12 {l : Launch} {D : va_G} {B b Ls : Nat} {xs : Nat → Int32} {Lw : Int32} {c : Nat → Nat → Nat} {g : Nat → Option va_E} {σ ρ : Sg} {κ : Kp} {nx i : Nat} (fc : FC Lw c) (ic : Pu.Ic c σ) (kr : KR B σ κ nx) (hL : Ls ≤ 3073) (hi : i + 6 ≤ Ls) (hn : ∀ (σ' ρ' : Sg) (κ' : Kp) (nx' : Nat), Pu.Ic c σ' → KR B σ' κ' nx' → J (G0 l D) (jScr b Ls xs) m_La_law 8 (fun v _ => v = some (.int (nI 1))) (1836 - sS σ' + (4000 - (i + 6))) (7 * (1836 - sS σ' + (4000 - (i + 6)))) 694 [some (.ref b), some (.ref (B + 0)), some (.ref (B + 93 + 0)), some (.int (nI i))] [] (hC D B σ' κ' (hM D (B + 93) Lw σ' ρ' g), nx')) : J (G0 l D) (jScr b Ls xs) m_La_law 8 (fun v _ => v = some (.int (nI 1))) (1836 - sS σ + (4000 - i)) (7 * (1836 - sS σ + (4000 - i))) 592 [some (.ref b), some (.ref (B + 0)), some (.ref (B + 93 + 0)), some (.int (nI i))] [] (hC D B σ κ (hM D (B + 93) Lw σ ρ g), nx) := by
  first | refine j_aload_n d_La_law_592 rfl ?_ | refine j_aload_nq d_La_law_592 rfl ?_ | refine j_aload_nN d_La_law_592 rfl ?_
  first | refine j_aload_n d_La_law_593 rfl ?_ | refine j_aload_nq d_La_law_593 rfl ?_ | refine j_aload_nN d_La_law_593 rfl ?_
  refine j_iload_n d_La_law_594 rfl ?_
  refine j_iconst (v := nI 1) d_La_law_595 (by decide +kernel) ?_
  refine jn_iadd d_La_law_596 ?_
  refine j_sld d_La_law_597 rfl (by omega) (by omega) ?_
  first | refine j_aload_n d_La_law_598 rfl ?_ | refine j_aload_nq d_La_law_598 rfl ?_ | refine j_aload_nN d_La_law_598 rfl ?_
  refine j_iload_n d_La_law_599 rfl ?_
  refine j_iconst (v := nI 2) d_La_law_600 (by decide +kernel) ?_
  refine jn_iadd d_La_law_601 ?_
  refine j_sld d_La_law_602 rfl (by omega) (by omega) ?_
  obtain ⟨r, σ', ic', le, hS, hR⟩ := pr_value (l := l) (D := D) (B := B) fc ic (xs (i + 1)) (xs (i + 2))
  have sl := sS_le ic'
  obtain ⟨d1, e1, s1, Q1, hd1, he1, hs1, hM1, hQ1⟩ := hS κ nx (hM D (B + 93) Lw σ ρ g) kr
  refine J.more (n := e1 + (1836 - sS σ' + (4000 - (i + 6)))) (sn := s1 + (7 * (1836 - sS σ' + (4000 - (i + 6))))) (by omega) (by omega) ?_
  refine j_callV (As := [_, _]) G0_good G0_E d_La_law_603 c_La_76 rfl rfl hM1 (hC_t (by decide)) rfl rfl (by omega) (Nat.le_of_ble_eq_true rfl) ?_
  rintro v h q
  obtain ⟨rfl, κ', nx', rfl, kr'⟩ := hQ1 v h q
  rw [hC_hM (kr_no kr')]
  first | refine j_aload_n d_La_law_606 rfl ?_ | refine j_aload_nq d_La_law_606 rfl ?_ | refine j_aload_nN d_La_law_606 rfl ?_
  first | refine j_aload_n d_La_law_607 rfl ?_ | refine j_aload_nq d_La_law_607 rfl ?_ | refine j_aload_nN d_La_law_607 rfl ?_
  refine j_iload_n d_La_law_608 rfl ?_
  refine j_iconst (v := nI 1) d_La_law_609 (by decide +kernel) ?_
  refine jn_iadd d_La_law_610 ?_
  refine j_sld d_La_law_611 rfl (by omega) (by omega) ?_
  first | refine j_aload_n d_La_law_612 rfl ?_ | refine j_aload_nq d_La_law_612 rfl ?_ | refine j_aload_nN d_La_law_612 rfl ?_
  refine j_iload_n d_La_law_613 rfl ?_
  refine j_iconst (v := nI 2) d_La_law_614 (by decide +kernel) ?_
  refine jn_iadd d_La_law_615 ?_
  refine j_sld d_La_law_616 rfl (by omega) (by omega) ?_
  obtain ⟨d2, Q2, hd2, hM2, hQ2⟩ := hR ρ nx' (hC D B σ' κ' g)
  refine j_callV0 (As := [_, _]) G0_good G0_E d_La_law_617 c_La_80 rfl rfl hM2 (hM_o (by decide)) rfl rfl (by omega) (Nat.le_of_ble_eq_true rfl) ?_
  rintro v h q
  obtain ⟨rfl, ρ', rfl⟩ := hQ2 v h q
  rw [← hC_hM (kr_no kr')]
  refine j_icmp_eq (t := 694) d_La_law_620 (by decide) (fun c620 => ?_) (fun c620 => ?_)
  · exact hn σ' ρ' κ' nx' ic' kr'
  · exfalso; first | exact c620 | omega | exact c620 rfl | exact c620 c291 | exact c291 c620

set_option maxHeartbeats 4000000 in
set_option maxRecDepth 100000 in
theorem law_13 {l : Launch} {D : va_G} {B b Ls : Nat} {xs : Nat → Int32} {Lw : Int32} {c : Nat → Nat → Nat} {g : Nat → Option va_E} {σ ρ : Sg} {κ : Kp} {nx i : Nat} (fc : FC Lw c) (ic : Pu.Ic c σ) (kr : KR B σ κ nx) (hL : Ls ≤ 3073) (hi : i + 6 ≤ Ls) (hn : ∀ (σ' ρ' : Sg) (κ' : Kp) (nx' : Nat), Pu.Ic c σ' → KR B σ' κ' nx' → J (G0 l D) (jScr b Ls xs) m_La_law 8 (fun v _ => v = some (.int (nI 1))) (1836 - sS σ' + (4000 - (i + 6))) (7 * (1836 - sS σ' + (4000 - (i + 6)))) 694 [some (.ref b), some (.ref (B + 0)), some (.ref (B + 93 + 0)), some (.int (nI i))] [] (hC D B σ' κ' (hM D (B + 93) Lw σ' ρ' g), nx')) : J (G0 l D) (jScr b Ls xs) m_La_law 8 (fun v _ => v = some (.int (nI 1))) (1836 - sS σ + (4000 - i)) (7 * (1836 - sS σ + (4000 - i))) 625 [some (.ref b), some (.ref (B + 0)), some (.ref (B + 93 + 0)), some (.int (nI i))] [] (hC D B σ κ (hM D (B + 93) Lw σ ρ g), nx) := by
  first | refine j_aload_n d_La_law_625 rfl ?_ | refine j_aload_nq d_La_law_625 rfl ?_ | refine j_aload_nN d_La_law_625 rfl ?_
  obtain ⟨r, σ', ic', le, hS, hR⟩ := pr_requests (l := l) (D := D) (B := B) fc ic 
  have sl := sS_le ic'
  obtain ⟨d1, e1, s1, Q1, hd1, he1, hs1, hM1, hQ1⟩ := hS κ nx (hM D (B + 93) Lw σ ρ g) kr
  refine J.more (n := e1 + (1836 - sS σ' + (4000 - (i + 6)))) (sn := s1 + (7 * (1836 - sS σ' + (4000 - (i + 6))))) (by omega) (by omega) ?_
  refine j_callV (As := []) G0_good G0_E d_La_law_626 c_La_81 rfl rfl hM1 (hC_t (by decide)) rfl rfl (by omega) (Nat.le_of_ble_eq_true rfl) ?_
  rintro v h q
  obtain ⟨rfl, κ', nx', rfl, kr'⟩ := hQ1 v h q
  rw [hC_hM (kr_no kr')]
  first | refine j_aload_n d_La_law_629 rfl ?_ | refine j_aload_nq d_La_law_629 rfl ?_ | refine j_aload_nN d_La_law_629 rfl ?_
  obtain ⟨d2, Q2, hd2, hM2, hQ2⟩ := hR ρ nx' (hC D B σ' κ' g)
  refine j_callV0 (As := []) G0_good G0_E d_La_law_630 c_La_84 rfl rfl hM2 (hM_o (by decide)) rfl rfl (by omega) (Nat.le_of_ble_eq_true rfl) ?_
  rintro v h q
  obtain ⟨rfl, ρ', rfl⟩ := hQ2 v h q
  rw [← hC_hM (kr_no kr')]
  refine j_icmp_eq (t := 694) d_La_law_633 (by decide) (fun c633 => ?_) (fun c633 => ?_)
  · exact hn σ' ρ' κ' nx' ic' kr'
  · exfalso; first | exact c633 | omega | exact c633 rfl | exact c633 c291 | exact c291 c633

set_option maxHeartbeats 4000000 in
set_option maxRecDepth 100000 in
theorem law_14 {l : Launch} {D : va_G} {B b Ls : Nat} {xs : Nat → Int32} {Lw : Int32} {c : Nat → Nat → Nat} {g : Nat → Option va_E} {σ ρ : Sg} {κ : Kp} {nx i : Nat} (fc : FC Lw c) (ic : Pu.Ic c σ) (kr : KR B σ κ nx) (hL : Ls ≤ 3073) (hi : i + 6 ≤ Ls) (hn : ∀ (σ' ρ' : Sg) (κ' : Kp) (nx' : Nat), Pu.Ic c σ' → KR B σ' κ' nx' → J (G0 l D) (jScr b Ls xs) m_La_law 8 (fun v _ => v = some (.int (nI 1))) (1836 - sS σ' + (4000 - (i + 6))) (7 * (1836 - sS σ' + (4000 - (i + 6)))) 694 [some (.ref b), some (.ref (B + 0)), some (.ref (B + 93 + 0)), some (.int (nI i))] [] (hC D B σ' κ' (hM D (B + 93) Lw σ' ρ' g), nx')) : J (G0 l D) (jScr b Ls xs) m_La_law 8 (fun v _ => v = some (.int (nI 1))) (1836 - sS σ + (4000 - i)) (7 * (1836 - sS σ + (4000 - i))) 638 [some (.ref b), some (.ref (B + 0)), some (.ref (B + 93 + 0)), some (.int (nI i))] [] (hC D B σ κ (hM D (B + 93) Lw σ ρ g), nx) := by
  first | refine j_aload_n d_La_law_638 rfl ?_ | refine j_aload_nq d_La_law_638 rfl ?_ | refine j_aload_nN d_La_law_638 rfl ?_
  first | refine j_aload_n d_La_law_639 rfl ?_ | refine j_aload_nq d_La_law_639 rfl ?_ | refine j_aload_nN d_La_law_639 rfl ?_
  refine j_iload_n d_La_law_640 rfl ?_
  refine j_iconst (v := nI 1) d_La_law_641 (by decide +kernel) ?_
  refine jn_iadd d_La_law_642 ?_
  refine j_sld d_La_law_643 rfl (by omega) (by omega) ?_
  first | refine j_aload_n d_La_law_644 rfl ?_ | refine j_aload_nq d_La_law_644 rfl ?_ | refine j_aload_nN d_La_law_644 rfl ?_
  refine j_iload_n d_La_law_645 rfl ?_
  refine j_iconst (v := nI 2) d_La_law_646 (by decide +kernel) ?_
  refine jn_iadd d_La_law_647 ?_
  refine j_sld d_La_law_648 rfl (by omega) (by omega) ?_
  obtain ⟨r, σ', ic', le, hS, hR⟩ := pr_request (l := l) (D := D) (B := B) fc ic (xs (i + 1)) (xs (i + 2))
  have sl := sS_le ic'
  obtain ⟨d1, e1, s1, Q1, hd1, he1, hs1, hM1, hQ1⟩ := hS κ nx (hM D (B + 93) Lw σ ρ g) kr
  refine J.more (n := e1 + (1836 - sS σ' + (4000 - (i + 6)))) (sn := s1 + (7 * (1836 - sS σ' + (4000 - (i + 6))))) (by omega) (by omega) ?_
  refine j_callV (As := [_, _]) G0_good G0_E d_La_law_649 c_La_85 rfl rfl hM1 (hC_t (by decide)) rfl rfl (by omega) (Nat.le_of_ble_eq_true rfl) ?_
  rintro v h q
  obtain ⟨rfl, κ', nx', rfl, kr'⟩ := hQ1 v h q
  rw [hC_hM (kr_no kr')]
  first | refine j_aload_n d_La_law_652 rfl ?_ | refine j_aload_nq d_La_law_652 rfl ?_ | refine j_aload_nN d_La_law_652 rfl ?_
  first | refine j_aload_n d_La_law_653 rfl ?_ | refine j_aload_nq d_La_law_653 rfl ?_ | refine j_aload_nN d_La_law_653 rfl ?_
  refine j_iload_n d_La_law_654 rfl ?_
  refine j_iconst (v := nI 1) d_La_law_655 (by decide +kernel) ?_
  refine jn_iadd d_La_law_656 ?_
  refine j_sld d_La_law_657 rfl (by omega) (by omega) ?_
  first | refine j_aload_n d_La_law_658 rfl ?_ | refine j_aload_nq d_La_law_658 rfl ?_ | refine j_aload_nN d_La_law_658 rfl ?_
  refine j_iload_n d_La_law_659 rfl ?_
  refine j_iconst (v := nI 2) d_La_law_660 (by decide +kernel) ?_
  refine jn_iadd d_La_law_661 ?_
  refine j_sld d_La_law_662 rfl (by omega) (by omega) ?_
  obtain ⟨d2, Q2, hd2, hM2, hQ2⟩ := hR ρ nx' (hC D B σ' κ' g)
  refine j_callV0 (As := [_, _]) G0_good G0_E d_La_law_663 c_La_88 rfl rfl hM2 (hM_o (by decide)) rfl rfl (by omega) (Nat.le_of_ble_eq_true rfl) ?_
  rintro v h q
  obtain ⟨rfl, ρ', rfl⟩ := hQ2 v h q
  rw [← hC_hM (kr_no kr')]
  refine j_icmp_eq (t := 694) d_La_law_666 (by decide) (fun c666 => ?_) (fun c666 => ?_)
  · exact hn σ' ρ' κ' nx' ic' kr'
  · exfalso; first | exact c666 | omega | exact c666 rfl | exact c666 c291 | exact c291 c666

set_option maxHeartbeats 4000000 in
set_option maxRecDepth 100000 in
theorem law_15 {l : Launch} {D : va_G} {B b Ls : Nat} {xs : Nat → Int32} {Lw : Int32} {c : Nat → Nat → Nat} {g : Nat → Option va_E} {σ ρ : Sg} {κ : Kp} {nx i : Nat} (fc : FC Lw c) (ic : Pu.Ic c σ) (kr : KR B σ κ nx) (hL : Ls ≤ 3073) (hi : i + 6 ≤ Ls) (hn : ∀ (σ' ρ' : Sg) (κ' : Kp) (nx' : Nat), Pu.Ic c σ' → KR B σ' κ' nx' → J (G0 l D) (jScr b Ls xs) m_La_law 8 (fun v _ => v = some (.int (nI 1))) (1836 - sS σ' + (4000 - (i + 6))) (7 * (1836 - sS σ' + (4000 - (i + 6)))) 694 [some (.ref b), some (.ref (B + 0)), some (.ref (B + 93 + 0)), some (.int (nI i))] [] (hC D B σ' κ' (hM D (B + 93) Lw σ' ρ' g), nx')) : J (G0 l D) (jScr b Ls xs) m_La_law 8 (fun v _ => v = some (.int (nI 1))) (1836 - sS σ + (4000 - i)) (7 * (1836 - sS σ + (4000 - i))) 671 [some (.ref b), some (.ref (B + 0)), some (.ref (B + 93 + 0)), some (.int (nI i))] [] (hC D B σ κ (hM D (B + 93) Lw σ ρ g), nx) := by
  first | refine j_aload_n d_La_law_671 rfl ?_ | refine j_aload_nq d_La_law_671 rfl ?_ | refine j_aload_nN d_La_law_671 rfl ?_
  first | refine j_aload_n d_La_law_672 rfl ?_ | refine j_aload_nq d_La_law_672 rfl ?_ | refine j_aload_nN d_La_law_672 rfl ?_
  refine j_iload_n d_La_law_673 rfl ?_
  refine j_iconst (v := nI 1) d_La_law_674 (by decide +kernel) ?_
  refine jn_iadd d_La_law_675 ?_
  refine j_sld d_La_law_676 rfl (by omega) (by omega) ?_
  obtain ⟨r, σ', ic', le, hS, hR⟩ := pr_transaction (l := l) (D := D) (B := B) fc ic (xs (i + 1))
  have sl := sS_le ic'
  obtain ⟨d1, e1, s1, Q1, hd1, he1, hs1, hM1, hQ1⟩ := hS κ nx (hM D (B + 93) Lw σ ρ g) kr
  refine J.more (n := e1 + (1836 - sS σ' + (4000 - (i + 6)))) (sn := s1 + (7 * (1836 - sS σ' + (4000 - (i + 6))))) (by omega) (by omega) ?_
  refine j_callV (As := [_]) G0_good G0_E d_La_law_677 c_La_89 rfl rfl hM1 (hC_t (by decide)) rfl rfl (by omega) (Nat.le_of_ble_eq_true rfl) ?_
  rintro v h q
  obtain ⟨rfl, κ', nx', rfl, kr'⟩ := hQ1 v h q
  rw [hC_hM (kr_no kr')]
  first | refine j_aload_n d_La_law_680 rfl ?_ | refine j_aload_nq d_La_law_680 rfl ?_ | refine j_aload_nN d_La_law_680 rfl ?_
  first | refine j_aload_n d_La_law_681 rfl ?_ | refine j_aload_nq d_La_law_681 rfl ?_ | refine j_aload_nN d_La_law_681 rfl ?_
  refine j_iload_n d_La_law_682 rfl ?_
  refine j_iconst (v := nI 1) d_La_law_683 (by decide +kernel) ?_
  refine jn_iadd d_La_law_684 ?_
  refine j_sld d_La_law_685 rfl (by omega) (by omega) ?_
  obtain ⟨d2, Q2, hd2, hM2, hQ2⟩ := hR ρ nx' (hC D B σ' κ' g)
  refine j_callV0 (As := [_]) G0_good G0_E d_La_law_686 c_La_92 rfl rfl hM2 (hM_o (by decide)) rfl rfl (by omega) (Nat.le_of_ble_eq_true rfl) ?_
  rintro v h q
  obtain ⟨rfl, ρ', rfl⟩ := hQ2 v h q
  rw [← hC_hM (kr_no kr')]
  refine j_icmp_eq (t := 694) d_La_law_689 (by decide) (fun c689 => ?_) (fun c689 => ?_)
  · exact hn σ' ρ' κ' nx' ic' kr'
  · exfalso; first | exact c689 | omega | exact c689 rfl | exact c689 c291 | exact c291 c689

set_option maxHeartbeats 4000000 in
set_option maxRecDepth 100000 in
theorem law_694 {l : Launch} {D : va_G} {B b Ls : Nat} {xs : Nat → Int32} {Lw : Int32} {c : Nat → Nat → Nat} {g : Nat → Option va_E} {σ ρ : Sg} {κ : Kp} {nx i : Nat} (hn : J (G0 l D) (jScr b Ls xs) m_La_law 8 (fun v _ => v = some (.int (nI 1))) (1836 - sS σ + (4000 - (i + 6))) (7 * (1836 - sS σ + (4000 - (i + 6)))) 28 [some (.ref b), some (.ref (B + 0)), some (.ref (B + 93 + 0)), some (.int (nI (i + 6)))] [] (hC D B σ κ (hM D (B + 93) Lw σ ρ g), nx)) : J (G0 l D) (jScr b Ls xs) m_La_law 8 (fun v _ => v = some (.int (nI 1))) (1836 - sS σ + (4000 - (i + 6))) (7 * (1836 - sS σ + (4000 - (i + 6)))) 694 [some (.ref b), some (.ref (B + 0)), some (.ref (B + 93 + 0)), some (.int (nI i))] [] (hC D B σ κ (hM D (B + 93) Lw σ ρ g), nx) := by
  refine n_iinc (k := 6) d_La_law_694 (by decide +kernel) rfl (by decide) rfl rfl ?_
  refine j_goto (t := 28) d_La_law_697 (by decide) ?_
  exact hn

set_option maxHeartbeats 4000000 in
set_option maxRecDepth 100000 in
theorem law_loop {l : Launch} {D : va_G} {B b Ls : Nat} {xs : Nat → Int32} {Lw : Int32} {c : Nat → Nat → Nat} {g : Nat → Option va_E} (fc : FC Lw c) (hL : Ls ≤ 3073) : ∀ (m i : Nat) (σ ρ : Sg) (κ : Kp) (nx : Nat), i ≤ 3100 → 4000 - i < m → Pu.Ic c σ → KR B σ κ nx → J (G0 l D) (jScr b Ls xs) m_La_law 8 (fun v _ => v = some (.int (nI 1))) (1836 - sS σ + (4000 - i)) (7 * (1836 - sS σ + (4000 - i))) 28 [some (.ref b), some (.ref (B + 0)), some (.ref (B + 93 + 0)), some (.int (nI i))] [] (hC D B σ κ (hM D (B + 93) Lw σ ρ g), nx) := by
  intro m
  induction m with
  | zero =>
    intros
    exfalso
    omega
  | succ m ih =>
    intro i σ ρ κ nx h1 h2 ic kr
    refine j_iload_n d_La_law_28 rfl ?_
    first | refine j_aload_n d_La_law_29 rfl ?_ | refine j_aload_nq d_La_law_29 rfl ?_ | refine j_aload_nN d_La_law_29 rfl ?_
    refine j_slen d_La_law_30 ?_
    refine j_bipush (v := nI 6) d_La_law_31 (by decide +kernel) ?_
    refine j_isub d_La_law_33 ?_
    refine j_icmp_gt (t := 700) d_La_law_34 (by decide) (fun c34 => ?_) (fun c34 => ?_)
    · refine j_iconst (v := nI 1) d_La_law_700 (by decide +kernel) ?_
      exact j_zret d_La_law_701 rfl (by decide +kernel) rfl
    · have hi6 : i + 6 ≤ Ls := by
        refine Classical.byContradiction (fun z => c34 ((gt6 hL (by omega)).mpr (by omega)))
      first | refine j_aload_n d_La_law_37 rfl ?_ | refine j_aload_nq d_La_law_37 rfl ?_ | refine j_aload_nN d_La_law_37 rfl ?_
      refine j_iload_n d_La_law_38 rfl ?_
      refine j_sld d_La_law_39 rfl (by omega) (by omega) ?_
      refine j_bipush (v := nI 15) d_La_law_40 (by decide +kernel) ?_
      refine j_iand d_La_law_42 ?_
      obtain ⟨k, hk, ek⟩ := and15 (xs i)
      rw [ek]
      have hk16 : k = 0 ∨ k = 1 ∨ k = 2 ∨ k = 3 ∨ k = 4 ∨ k = 5 ∨ k = 6 ∨ k = 7 ∨ k = 8 ∨ k = 9 ∨ k = 10 ∨ k = 11 ∨ k = 12 ∨ k = 13 ∨ k = 14 ∨ k = 15 := by omega
      rcases hk16 with e | e | e | e | e | e | e | e | e | e | e | e | e | e | e | e <;> subst e
      · refine j_tableIn (t := 120) (o := 77) d_La_law_43 (by decide +kernel) (by decide +kernel) (by decide +kernel) (by decide) ?_
        exact law_0 fc ic kr hL hi6 (fun σ' ρ' κ' nx' ic' kr' => law_694 (c := c) (ih (i + 6) σ' ρ' κ' nx' (by omega) (by omega) ic' kr'))
      · refine j_tableIn (t := 163) (o := 120) d_La_law_43 (by decide +kernel) (by decide +kernel) (by decide +kernel) (by decide) ?_
        exact law_1 fc ic kr hL hi6 (fun σ' ρ' κ' nx' ic' kr' => law_694 (c := c) (ih (i + 6) σ' ρ' κ' nx' (by omega) (by omega) ic' kr'))
      · refine j_tableIn (t := 176) (o := 133) d_La_law_43 (by decide +kernel) (by decide +kernel) (by decide +kernel) (by decide) ?_
        exact law_2 fc ic kr hL hi6 (fun σ' ρ' κ' nx' ic' kr' => law_694 (c := c) (ih (i + 6) σ' ρ' κ' nx' (by omega) (by omega) ic' kr'))
      · refine j_tableIn (t := 219) (o := 176) d_La_law_43 (by decide +kernel) (by decide +kernel) (by decide +kernel) (by decide) ?_
        exact law_3 fc ic kr hL hi6 (fun σ' ρ' κ' nx' ic' kr' => law_694 (c := c) (ih (i + 6) σ' ρ' κ' nx' (by omega) (by omega) ic' kr'))
      · refine j_tableIn (t := 242) (o := 199) d_La_law_43 (by decide +kernel) (by decide +kernel) (by decide +kernel) (by decide) ?_
        exact law_4 fc ic kr hL hi6 (fun σ' ρ' κ' nx' ic' kr' => law_694 (c := c) (ih (i + 6) σ' ρ' κ' nx' (by omega) (by omega) ic' kr'))
      · refine j_tableIn (t := 275) (o := 232) d_La_law_43 (by decide +kernel) (by decide +kernel) (by decide +kernel) (by decide) ?_
        exact law_5 fc ic kr hL hi6 (fun σ' ρ' κ' nx' ic' kr' => law_694 (c := c) (ih (i + 6) σ' ρ' κ' nx' (by omega) (by omega) ic' kr'))
      · refine j_tableIn (t := 334) (o := 291) d_La_law_43 (by decide +kernel) (by decide +kernel) (by decide +kernel) (by decide) ?_
        exact law_6 fc ic kr hL hi6 (fun σ' ρ' κ' nx' ic' kr' => law_694 (c := c) (ih (i + 6) σ' ρ' κ' nx' (by omega) (by omega) ic' kr'))
      · refine j_tableIn (t := 397) (o := 354) d_La_law_43 (by decide +kernel) (by decide +kernel) (by decide +kernel) (by decide) ?_
        exact law_7 fc ic kr hL hi6 (fun σ' ρ' κ' nx' ic' kr' => law_694 (c := c) (ih (i + 6) σ' ρ' κ' nx' (by omega) (by omega) ic' kr'))
      · refine j_tableIn (t := 420) (o := 377) d_La_law_43 (by decide +kernel) (by decide +kernel) (by decide +kernel) (by decide) ?_
        exact law_8 fc ic kr hL hi6 (fun σ' ρ' κ' nx' ic' kr' => law_694 (c := c) (ih (i + 6) σ' ρ' κ' nx' (by omega) (by omega) ic' kr'))
      · refine j_tableIn (t := 463) (o := 420) d_La_law_43 (by decide +kernel) (by decide +kernel) (by decide +kernel) (by decide) ?_
        exact law_9 fc ic kr hL hi6 (fun σ' ρ' κ' nx' ic' kr' => law_694 (c := c) (ih (i + 6) σ' ρ' κ' nx' (by omega) (by omega) ic' kr'))
      · refine j_tableIn (t := 506) (o := 463) d_La_law_43 (by decide +kernel) (by decide +kernel) (by decide +kernel) (by decide) ?_
        exact law_10 fc ic kr hL hi6 (fun σ' ρ' κ' nx' ic' kr' => law_694 (c := c) (ih (i + 6) σ' ρ' κ' nx' (by omega) (by omega) ic' kr'))
      · refine j_tableIn (t := 549) (o := 506) d_La_law_43 (by decide +kernel) (by decide +kernel) (by decide +kernel) (by decide) ?_
        exact law_11 fc ic kr hL hi6 (fun σ' ρ' κ' nx' ic' kr' => law_694 (c := c) (ih (i + 6) σ' ρ' κ' nx' (by omega) (by omega) ic' kr'))
      · refine j_tableIn (t := 592) (o := 549) d_La_law_43 (by decide +kernel) (by decide +kernel) (by decide +kernel) (by decide) ?_
        exact law_12 fc ic kr hL hi6 (fun σ' ρ' κ' nx' ic' kr' => law_694 (c := c) (ih (i + 6) σ' ρ' κ' nx' (by omega) (by omega) ic' kr'))
      · refine j_tableIn (t := 625) (o := 582) d_La_law_43 (by decide +kernel) (by decide +kernel) (by decide +kernel) (by decide) ?_
        exact law_13 fc ic kr hL hi6 (fun σ' ρ' κ' nx' ic' kr' => law_694 (c := c) (ih (i + 6) σ' ρ' κ' nx' (by omega) (by omega) ic' kr'))
      · refine j_tableIn (t := 638) (o := 595) d_La_law_43 (by decide +kernel) (by decide +kernel) (by decide +kernel) (by decide) ?_
        exact law_14 fc ic kr hL hi6 (fun σ' ρ' κ' nx' ic' kr' => law_694 (c := c) (ih (i + 6) σ' ρ' κ' nx' (by omega) (by omega) ic' kr'))
      · refine j_tableIn (t := 671) (o := 628) d_La_law_43 (by decide +kernel) (by decide +kernel) (by decide +kernel) (by decide) ?_
        exact law_15 fc ic kr hL hi6 (fun σ' ρ' κ' nx' ic' kr' => law_694 (c := c) (ih (i + 6) σ' ρ' κ' nx' (by omega) (by omega) ic' kr'))

set_option maxHeartbeats 4000000 in
set_option maxRecDepth 100000 in
theorem law_start {l : Launch} {D : va_G} {B b Ls : Nat} {xs : Nat → Int32} (hL : Ls ≤ 3073) : J (G0 l D) (jScr b Ls xs) m_La_law 8 (fun v _ => v = some (.int (nI 1))) 5956 51513 0 [some (.ref b), none, none, none] [] (fun _ => none, B) := by
  refine j_new d_La_law_0 n_La_7 ?_
  refine J.hq Wd_1 ?_
  refine j_dup d_La_law_3 rfl ?_
  first | refine j_aload_n d_La_law_4 rfl ?_ | refine j_aload_nq d_La_law_4 rfl ?_ | refine j_aload_nN d_La_law_4 rfl ?_
  refine j_iconst (v := nI 0) d_La_law_5 (by decide +kernel) ?_
  refine j_callSs0 (As := [_, _]) G0_good G0_E d_La_law_6 c_La_9 rfl rfl rfl (t_cell hL) (by decide) (Nat.le_of_ble_eq_true rfl) ?_
  rintro _ _ ⟨rfl, rfl⟩
  refine J.more (n := 92 + 5863) (sn := 3277 + 48233) (by decide) (by decide) ?_
  refine j_callI (As := [_]) G0_good G0_E d_La_law_9 c_La_15 rfl rfl (i_Sl (cv Ls xs) rfl) (by decide) (Nat.le_of_ble_eq_true rfl) ?_
  rintro _ _ ⟨rfl, rfl⟩
  first | refine j_astore_n d_La_law_12 (by decide) rfl rfl ?_ | refine j_astore_nq d_La_law_12 (by decide) rfl rfl ?_ | refine j_astore_nN d_La_law_12 (by decide) rfl rfl ?_
  refine j_new d_La_law_13 n_La_18 ?_
  refine J.hq Wd_1 ?_
  refine j_dup d_La_law_16 rfl ?_
  first | refine j_aload_n d_La_law_17 rfl ?_ | refine j_aload_nq d_La_law_17 rfl ?_ | refine j_aload_nN d_La_law_17 rfl ?_
  refine j_iconst (v := nI 0) d_La_law_18 (by decide +kernel) ?_
  refine j_callSs0 (As := [_, _]) G0_good G0_E d_La_law_19 c_La_9 rfl rfl rfl (t_cell hL) (by decide) (Nat.le_of_ble_eq_true rfl) ?_
  rintro _ _ ⟨rfl, rfl⟩
  refine J.more (n := 27 + 5835) (sn := 7358 + 40845) (by decide) (by decide) ?_
  refine j_callI (As := [_]) G0_good G0_E d_La_law_22 c_La_20 rfl rfl (i_Mo (M := B + 93) (cL (cv Ls xs)) rfl) (by decide) (Nat.le_of_ble_eq_true rfl) ?_
  rintro _ _ ⟨rfl, ρ, rfl⟩
  rw [← hC_hM (fun a _ _ => rfl)]
  first | refine j_astore_n d_La_law_25 (by decide) rfl rfl ?_ | refine j_astore_nq d_La_law_25 (by decide) rfl rfl ?_ | refine j_astore_nN d_La_law_25 (by decide) rfl rfl ?_
  refine j_iconst (v := nI 1) d_La_law_26 (by decide +kernel) ?_
  refine j_istore_n d_La_law_27 (by decide) rfl rfl ?_
  refine J.more (n := (1836 - sS (Pu.s0 (cL (cv Ls xs))) + (4000 - 1))) (sn := (7 * (1836 - sS (Pu.s0 (cL (cv Ls xs))) + (4000 - 1)))) (by omega) (by omega) ?_
  exact law_loop (FC_cL _) hL 4000 1 _ ρ κ0 _ (by omega) (by omega) (Pu.s0_Ic (cL_lt _) (fun p _ => cL_3 _ p)) (KR_0 (by omega))
