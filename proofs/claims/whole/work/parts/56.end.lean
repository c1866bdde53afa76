/-! THE CLAIM OUT OF ONE WALK OF THE LAW'S BODY. Your part is whole_start (and what it stands on); all else here is the same for every law, but numbers. -/
def R_law : String := "ShardLedgerLaw"
def lw_P (b : Addr) (xs : List Int32) (args : Array Value) (s : State) : Prop := args = #[.ref b] ∧ s.IntsAt b xs ∧ xs.length ≤ 3073 ∧ (Jvm.Cond.and given_1 narrow_1).before args s = true
def lw_Q (_ : Array Value) (s : State) (o : Outcome) (t : State) : Prop := o = .returned (some (.int 1)) ∧ Framed s o t [] 979233 6164550
def lw_Z (below : List Frame) (a : Array Value) (s : State) : State → Prop := fun t => ∃ o, t.status = .running ∧ Ended t below o ∧ lw_Q a s o t
/-- the law's own end, with 1 on the stack, nothing written that was there before, its room as the claim has it -/
theorem lw_ret {p : Program} {l : Launch} {e : Env} {s : State} {m : MethodId} {below : List Frame} {meth : Method} {c : Code} {b : Nat} (hx : p.tables.exec = Jvm.exec) (hb : c.code = code) (hr : meth.sig.returnType = ret) (hlocks : meth.locks = false) {pc : Nat} {H : Heap} {ls : Array Slot} (hdg : decode code pc = .ok (.ireturn, 1)) : W p l e room_1 s m #[Value.ref b] below meth c H [] 979233 6164550 (lw_Z below #[Value.ref b] s) (F0 m pc ls [.int 1]) := by
  intro T hT X
  obtain ⟨fs, hret, hrun, hended, hW, hframe⟩ := X.leave (v := some (.int 1)) (hlocks := hlocks) (fun h => by rw [hr] at h; cases h)
  have hmeth' : T.vm.method? m = some meth := X.method'
  refine ⟨T.setFrames fs, ?_, .returned (some (.int 1)), hrun, hended, rfl, ⟨_, rfl⟩, hW, hframe⟩
  jvm_step X.here [X.here.top, hx, hb, hdg, hmeth', hr, ret, narrow_b1]
  (try refine ⟨rfl, ?_⟩); (try refine ⟨rfl, ?_⟩)
  first | (intro acts; rw [hret _ acts rfl rfl rfl]) | rw [hret _ _ rfl rfl rfl]
  exact Steps.refl _
/-- what holds at the law's entry: the machine, the code, the tables' words (any of lw_tbl by 'hts w (by decide +kernel)'), the script of L ints xs at the cell b, what the Statement gives of the start (any of its parts by flat_of_before) -/
def lw_At (p : Program) (s : State) (m : MethodId) (meth : Method) (c : Code) (b L : Nat) (xs : Nat → Int32) : Prop :=
  p.tables.exec = Jvm.exec ∧ c.code = code ∧ meth.sig.returnType = ret ∧ c.maxLocals = 4 ∧ s.vm.findClass R_law = some m.cls ∧ (∀ w ∈ lw_tbl, w.before #[Value.ref b] s = true) ∧ va_X b L xs s s.heap ∧ b < s.heap.size ∧ meth.locks = false ∧ (Jvm.Cond.and given_1 narrow_1).before #[Value.ref b] s = true
theorem kn_of {l : Launch} {D : va_G} {own : String} {i ci N : Nat} {fs : List Value} {args : Array Value} {s : State} (h : jNf (G0 l D) own i ci N fs) (hts : ∀ w ∈ GW, w.before args s = true) : ∃ p : ClassId × (Nat → Nat), ∀ q, vcl[ci]? = some q → u_Kn s q.1 q.2.1 q.2.2 p.1 p.2 := by
  obtain ⟨C, T, ty, h1, h2, h3, h4, -⟩ := h
  obtain ⟨cC, iS, hk⟩ := u_known hts h2 (hts _ h4)
  refine ⟨(cC, iS), fun q hq => ?_⟩
  have e : (C, T, N) = q := Option.some.inj (h1.symm.trans hq)
  subst e
  exact hk
theorem ar_p {s : State} {args : Array Value} {ty : FieldType} (h : (Cond.arrayClass ty).before args s = true) (hra : ∀ cA, s.vm.findClass ("[" ++ ty.toString) = some cA → va_RA s cA ty) : ∃ cA, ArrOfT s cA ty ∧ va_RA s cA ty := by
  obtain ⟨cA, kA, comp, h1, h2, h3⟩ := Cond.arrayClass_spec h
  exact ⟨cA, fun n z => ⟨fun k h => (by cases h), kA, h2, comp, h3⟩, hra cA h1⟩
theorem ar_o {s : State} {C : String} (h : va_AO C s) : ∃ cA, ArrOfT s cA (.object C) ∧ va_RA s cA (.object C) := by
  obtain ⟨comp, cA, kA, hcomp, hidx, hkA, hkindA, hnameA⟩ := Cond.arrayOver_spec h
  exact ⟨cA, fun n z => ⟨fun k h => (by cases h), kA, hkA, comp, hkindA⟩, ⟨kA, comp, hkA, hkindA, hcomp, hnameA⟩⟩
def atys : List FieldType := [.int, .boolean, .long, .object "ShardLedger$Message", .object "ShardLedger$Replica", .object "ShardLedger$Shard"]
theorem law_K {s : State} {args : Array Value} (hts : ∀ w ∈ GW, w.before args s = true) (hE : E0 s) : ∃ D : va_G, va_K D vcl (vty D) s := by
  have H : ∀ c : Nat, ∃ p : ClassId × (Nat → Nat), ∀ q, vcl[c]? = some q → u_Kn s q.1 q.2.1 q.2.2 p.1 p.2 := by
    intro c
    by_cases h : c < 11
    · have : c = 0 ∨ c = 1 ∨ c = 2 ∨ c = 3 ∨ c = 4 ∨ c = 5 ∨ c = 6 ∨ c = 7 ∨ c = 8 ∨ c = 9 ∨ c = 10 := by omega
      rcases this with e | e | e | e | e | e | e | e | e | e | e <;> subst e
      · exact kn_of (l := launch0) (D := (fun _ => 0, fun _ _ => 0)) n_Re_18 hts
      · exact kn_of (l := launch0) (D := (fun _ => 0, fun _ _ => 0)) n_Sh_20 hts
      · exact kn_of (l := launch0) (D := (fun _ => 0, fun _ _ => 0)) n_Re_9 hts
      · exact kn_of (l := launch0) (D := (fun _ => 0, fun _ _ => 0)) n_Re_60 hts
      · exact kn_of (l := launch0) (D := (fun _ => 0, fun _ _ => 0)) n_Sh_9 hts
      · exact kn_of (l := launch0) (D := (fun _ => 0, fun _ _ => 0)) n_Sh_12 hts
      · exact kn_of (l := launch0) (D := (fun _ => 0, fun _ _ => 0)) n_Sl_12 hts
      · exact kn_of (l := launch0) (D := (fun _ => 0, fun _ _ => 0)) n_Sl_15 hts
      · exact kn_of (l := launch0) (D := (fun _ => 0, fun _ _ => 0)) n_Sl_9 hts
      · exact kn_of (l := launch0) (D := (fun _ => 0, fun _ _ => 0)) n_La_7 hts
      · exact kn_of (l := launch0) (D := (fun _ => 0, fun _ _ => 0)) n_La_18 hts
    · refine ⟨(0, fun _ => 0), fun q hq => ?_⟩
      rw [List.getElem?_eq_none (by show 11 ≤ c; omega)] at hq
      cases hq
  have A : ∀ k : Nat, ∃ cA : ClassId, ∀ ty, atys[k]? = some ty → ArrOfT s cA ty ∧ va_RA s cA ty := by
    intro k
    have pk : ∀ {t : FieldType}, (∃ cA, ArrOfT s cA t ∧ va_RA s cA t) → ∃ cA : ClassId, ∀ ty, some t = some ty → ArrOfT s cA ty ∧ va_RA s cA ty := by
      intro t h
      obtain ⟨cA, h⟩ := h
      exact ⟨cA, fun ty e => by cases e; exact h⟩
    by_cases h : k < 6
    · have : k = 0 ∨ k = 1 ∨ k = 2 ∨ k = 3 ∨ k = 4 ∨ k = 5 := by omega
      rcases this with e | e | e | e | e | e <;> subst e
      · exact pk (ar_p (hts _ r_int) (fun _ h => h))
      · exact pk (ar_p (hts _ r_boolean) (fun _ h => h))
      · exact pk (ar_p (hts _ r_long) (fun _ h => h))
      · exact pk (ar_o hE.2.2.2.2.2.1)
      · exact pk (ar_o hE.2.2.2.2.2.2)
      · exact pk (ar_o hE.2.2.2.2.1)
    · refine ⟨0, fun q hq => ?_⟩
      rw [List.getElem?_eq_none (by show 6 ≤ k; omega)] at hq
      cases hq
  refine ⟨(fun c => if c < 11 then (Classical.choose (H c)).1 else Classical.choose (A (c - 20)), fun c => (Classical.choose (H c)).2), fun c q hq => ?_, fun k q hk => ?_⟩
  · have hc : c < 11 := by
      refine Classical.byContradiction (fun z => ?_)
      rw [List.getElem?_eq_none (by show 11 ≤ c; omega)] at hq
      cases hq
    show u_Kn s q.1 q.2.1 q.2.2 (if c < 11 then (Classical.choose (H c)).1 else Classical.choose (A (c - 20))) _
    rw [if_pos hc]
    exact Classical.choose_spec (H c) q hq
  · have hc : k < 6 := by
      refine Classical.byContradiction (fun z => ?_)
      rw [List.getElem?_eq_none (by show 6 ≤ k; omega)] at hk
      cases hk
    have : k = 0 ∨ k = 1 ∨ k = 2 ∨ k = 3 ∨ k = 4 ∨ k = 5 := by omega
    rcases this with e | e | e | e | e | e <;> subst e <;> cases hk
    · exact Classical.choose_spec (A 0) _ rfl
    · exact Classical.choose_spec (A 1) _ rfl
    · exact Classical.choose_spec (A 2) _ rfl
    · exact Classical.choose_spec (A 3) _ rfl
    · exact Classical.choose_spec (A 4) _ rfl
    · exact Classical.choose_spec (A 5) _ rfl
/-- nothing old was written -/
theorem fr_end {s t : State} {o : Outcome} {L : List Loc} {k n : Nat} (h : FrameEnd s o t L k n) (hL : ∀ q ∈ L, s.heap.size ≤ q.base) (hk : k ≤ 979233) (hn : n ≤ 6164550) : Framed s o t [] 979233 6164550 := by
  obtain ⟨h1, h2, h3, h4, h5, h6, h7, h8⟩ := h
  refine ⟨h1, h2, h3, h4, Nat.le_trans h5 (by omega), h6, Nat.le_trans h7 hn, fun a c hc => ?_⟩
  obtain ⟨c', e1, e2, e3, e4⟩ := h8 a c hc
  refine ⟨c', e1, e2, e3, fun i _ => e4 i (fun z => ?_)⟩
  have := hL _ z
  have lt := (Array.getElem?_eq_some_iff.mp hc).1
  exact absurd this (Nat.not_le.mpr lt)
set_option maxHeartbeats 4000000 in
set_option maxRecDepth 100000 in
theorem whole_start {p : Program} {e : Env} {s : State} {m : MethodId} {below : List Frame} {meth : Method} {c : Code} (l : Launch) {b L : Nat} {xs : Nat → Int32} (hL : L ≤ 3073) (C0 : lw_At p s m meth c b L xs) (hnm : meth.name = m_La_law.1.name) : W p l e room_1 s m #[Value.ref b] below meth c s.heap [] 0 0 (lw_Z below #[Value.ref b] s) (entryFrame m ([Value.ref b] : List Value).toArray 4) := by
  obtain ⟨hx, hb, hr, hml, hown, hts, hX, hbl, hlk, hgv⟩ := C0
  have htg : ∀ w ∈ GW, w.before #[Value.ref b] s = true := fun w hw => hts w (List.mem_filter.mp hw).1
  have hE : E0 s := ⟨va_Nw.of rfl (hts _ (by decide +kernel)), va_Nw.of rfl (hts _ (by decide +kernel)), va_Nw.of rfl (hts _ (by decide +kernel)), va_Nw.of rfl (hts _ (by decide +kernel)), va_AO.of (hts _ (by decide +kernel)), va_AO.of (hts _ (by decide +kernel)), va_AO.of (hts _ (by decide +kernel))⟩
  obtain ⟨D, hK⟩ := law_K htg hE
  have hl := lv_entry [Value.ref b] (n := 4) (by rw [← jent_len]; exact Nat.le_of_ble_eq_true rfl)
  rw [lg_entry_eq]
  intro T hT XX
  obtain ⟨t, a1, o, b1, b2, ⟨⟨v, h2, c1, c2, -⟩, -⟩, Lc, b4, b5⟩ := law_start (l := l) (D := D) (B := s.heap.size) (b := b) (xs := xs) hL p e room_1 s m #[Value.ref b] below meth c s.heap [] 0 0 (fun q => s.heap.size ≤ q) 5956 51513 _ ⟨hx, hb, hml, hown, htg, hr, hlk, hnm, by decide, by decide, by decide, by decide, hK, fun q hq => hq, hE, ⟨hX, hbl, fun z => absurd z (Nat.not_le.mpr hbl)⟩⟩
    ⟨by omega, by omega, jL.entry (r := 3) hl rfl, ⟨rfl, fun a x z => by cases z⟩, va_S.rf, fun q hq => absurd rfl hq⟩ T hT XX
  refine ⟨t, a1, o, b1, b2, ?_, fr_end b4 b5 (by decide) (by decide)⟩
  rw [c1, c2]
  rfl
set_option maxHeartbeats 4000000 in
theorem lw_walk (l : Launch) (b : Addr) (xs : List Int32) : MetFree l x (headSpec (Jvm.Cond.code x code maxLocals ret :: tables_1) room_1) (lw_P b xs) (fun _ _ _ _ _ => True) lw_Q := by
  refine MetFree.of_bodyS (code := code) (maxLocals := maxLocals) (ret := ret) (by decide) ?_ ?_
  · intro args s m h hn
    obtain ⟨meth, c, h1, h2, h3, h4, h5, h6, -, -⟩ := Cond.code_spec hn (atoms_spec (ws := Jvm.Cond.code x code maxLocals ret :: tables_1) h _ List.mem_cons_self)
    exact ⟨meth, c, h1, h2, h3, h4, h5, h6⟩
  · intro p e s m args below meth c s₁ B hml0 hP _
    obtain ⟨rfl, hx, hbd, hgv⟩ := hP
    obtain ⟨scr, harrAt, hlist, hof, hsmall⟩ := hx
    obtain ⟨hcb, hkn, -, -⟩ := State.arrayAt?_spec harrAt
    have hown : s.vm.findClass R_law = some m.cls := findClass_of_methodNamed B.named
    have hts0 : ∀ c ∈ (Jvm.Cond.code x code maxLocals ret :: tables_1), c.before #[Value.ref b] s = true := atoms_spec (ws := Jvm.Cond.code x code maxLocals ret :: tables_1) B.pre
    have hts : ∀ w ∈ lw_tbl, w.before #[Value.ref b] s = true := k2_hts_sels lw_privs (fun w hw => hts0 w (List.mem_cons_of_mem _ hw)) lw_privs_ok
    have hml : c.maxLocals = 4 := B.maxLocals_eq (hts0 _ List.mem_cons_self)
    have X₀ : Stand p l e room_1 s m #[Value.ref b] below meth c s₁ [] 0 0 := Stand.of_body B
    have hh0 : s₁.heap = s.heap := by rw [B.state]; rfl
    have hsz : scr.slots.size = xs.length := by rw [← Array.length_toList, hlist, List.length_map]
    have hval : ∀ j : Nat, j < xs.length → scr.slots[j]? = some (.int (xs.getD j 0)) := fun j hj => by
      rw [← Array.getElem?_toList, hlist]
      simp [hj]
    have hbl : b < s.heap.size := (Array.getElem?_eq_some_iff.mp hcb).1
    have hX : va_X b xs.length (fun j => xs.getD j 0) s s.heap := ⟨scr, hcb, hof, hkn, hsz, hval⟩
    have K : W p l e room_1 s m #[Value.ref b] below meth c s₁.heap [] 0 0 (lw_Z below #[Value.ref b] s) (entryFrame m ([Value.ref b] : List Value).toArray 4) := by
      rw [hh0]
      exact whole_start l hbd ⟨B.exec, B.bytes, B.returns, hml, hown, hts, hX, hbl, B.notSynchronized, hgv⟩ (name_of_methodNamed B.named B.method).1
    obtain ⟨t, a1, o, b1, b2, b3⟩ := K s₁ rfl X₀
    exact ⟨t, o, a1, b1, b2, b3⟩
theorem lw_pre_spec {args : Array Value} {s : State} (h : (Jvm.Cond.and given_1 narrow_1).before args s = true) (hr : rest_1_c.before args s = true) : ∃ (b : Addr) (xs : List Int32), lw_P b xs args s := by
  have hs := flat_of_before _ h
  have hq := flat_of_before _ hr
  have hc : (Cond.count 1).before args s = true := hs _ (by decide +kernel)
  have harr : (Cond.arrayOf (.arg 0) .int).before args s = true := hs _ (by decide +kernel)
  have hle : (Cond.le (.length (.arg 0)) (.int 3073)).before args s = true := hs _ (by decide +kernel)
  have hlen : (Cond.isInt (.length (.arg 0))).before args s = true := hq _ (by decide +kernel)
  have hall : (Cond.all (.arg 0) (.isInt (.elem (.arg 0) (.index 0)))).before args s = true := hq _ (by decide +kernel)
  obtain ⟨b, xs, hb, hx⟩ := State.ints_of_pre rfl harr hlen hall
  have hsm : xs.length < 2 ^ 31 := hx.choose_spec.2.2.2
  have hev : (Term.length (.arg 0)).eval args s none [] s = some (.int xs.length.toInt32) := hx.length_eval hb
  have hv := Cond.le_ints hev (show (Term.int 3073).eval args s none [] s = some (.int 3073) from rfl)
  have hd : xs.length.toInt32 ≤ 3073 := by
    simpa [Cond.before, Cond.holds, hv] using hle
  have hN : xs.length ≤ 3073 := (Int32.ofNat_le_ofNat hsm (by decide)).mp (show Int32.ofNat xs.length ≤ Int32.ofNat 3073 from hd)
  exact ⟨b, xs, Cond.one_arg hc (show args[0]? = some (.ref b) from hb), hx, hN, h⟩
theorem lw_comes (l : Launch) : Comes l x (Jvm.Cond.code x code maxLocals ret :: tables_1) room_1 (fun tb e args s => Calls_1 tb e args s ∧ rest_1 tb e args s ∧ Pre_1 tb e args s)
    (fun _ _ args s o t => lw_Q args s o t) := by
  intro p e ha hc hk s m args below hf hfit hheap happ hpre
  obtain ⟨b, xs, hP⟩ := lw_pre_spec hpre.2.2 hpre.2.1
  obtain ⟨k, o, h1, h2, h3, hQ⟩ := lw_walk l b xs p e ha hc hk s m args below hf ((Spec.applies_iff_loose hf).mp happ).1 hP trivial
  exact ⟨k, o, h1, h2, h3, hQ⟩
theorem lw_frame {s t : State} {o : Outcome} {args : Array Value} (h : Framed s o t [] 979233 6164550) :
    Framed s o t (fieldLocs frame_1_writes args s ++ arrayLocs frame_1_arrays args s ++ staticLocs frame_1_statics s) 979233 6164550 := h
theorem lw_limb (L : Cond) (hL : ∀ (args : Array Value) (s t : State), L.after args s (.returned (some (.int 1))) t = true) :
    ArmFor flags0 classFile x code maxLocals ret World_1 tables_1 room_1 Calls_1 rest_1 Pre_1
      (fun tb e a s o t => postC L tb e a s o t ∧ Framed s o t (fieldLocs frame_1_writes a s ++ arrayLocs frame_1_arrays a s ++ staticLocs frame_1_statics s) 979233 6164550) := by
  intro l _ _ _ p e ha hc hk s m args below hf hfit hheap happ hpre
  obtain ⟨k, o, h1, h2, h3, rfl, hF⟩ := lw_comes l p e ha hc hk s m args below hf hfit hheap happ hpre
  exact ⟨k, _, h1, h2, h3, hL args s _, lw_frame hF⟩
theorem i_vc : Claimed_1_1 ∧ Claimed_1_2 := ⟨lw_limb limb_1_1 (fun args s t => by simp [limb_1_1, Cond.after, Cond.holds, Cond.value]), lw_limb limb_1_2 (fun args s t => Cond.after_iff.mpr (by
  first | (rw [show limb_1_2 = Cond.eq .result (.int 1) from rfl, Cond.eq_ints (x := 1) (y := 1) rfl rfl]; simp; done) | (simp [limb_1_2, Cond.value, Term.eval]; done)))⟩
