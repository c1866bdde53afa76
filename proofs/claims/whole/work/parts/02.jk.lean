/-! My own judgement over the kit's walk: a world is a function from addresses to cells (no list, no frame rule), the machine's names are hidden. -/
abbrev jH : Type := (Nat → Option va_E) × Nat
/-- the heap holds a world; the world's second is the heap's size -/
def jHold (D : va_G) (cl : List vw_C) (h : jH) (H : Heap) : Prop := h.2 = H.size ∧ ∀ (a : Nat) (x : va_E), h.1 a = some x → va_at D cl (a, x) H
/-- what a method may change: its world, and what it makes -/
def jA (h : jH) : Nat → Prop := fun q => h.1 q ≠ none ∨ h.2 ≤ q
/-- a write into one cell -/
abbrev jW (h : jH) (a : Nat) (x : va_E) : jH := (va_up h.1 a (some x), h.2)
/-- a new cell -/
abbrev jN (h : jH) (x : va_E) : jH := (va_up h.1 h.2 (some x), h.2 + 1)
theorem jHold.w {D : va_G} {cl : List vw_C} {h : jH} {H H1 : Heap} {a : Nat} {x : va_E} (hh : jHold D cl h H) (hx : va_at D cl (a, x) H1) (z : H1.size = H.size) (o : ∀ q : Nat, q ≠ a → H1[q]? = H[q]?) : jHold D cl (jW h a x) H1 := by
  refine ⟨hh.1.trans z.symm, fun b y hb => ?_⟩
  simp only [va_up] at hb
  by_cases hba : b = a
  · rw [if_pos hba] at hb
    cases hb
    rw [hba]; exact hx
  · rw [if_neg hba] at hb
    exact (hh.2 b y hb).kept (o b hba)
theorem jHold.n {D : va_G} {cl : List vw_C} {h : jH} {H H1 : Heap} {x : va_E} (hh : jHold D cl h H) (hx : va_at D cl (H.size, x) H1) (z : H1.size = H.size + 1) (o : ∀ q : Nat, q < H.size → H1[q]? = H[q]?) : jHold D cl (jN h x) H1 := by
  refine ⟨by show h.2 + 1 = _; rw [z, hh.1], fun b y hb => ?_⟩
  simp only [va_up] at hb
  by_cases hba : b = h.2
  · rw [if_pos hba] at hb
    cases hb
    rw [hba, hh.1]; exact hx
  · rw [if_neg hba] at hb
    have hl := (hh.2 b y hb).lt
    exact (hh.2 b y hb).kept (o b hl)
/-- the locals, place by place -/
def jL (ls : Array Slot) (nL : Nat) (lc : List (Option Value)) : Prop := ls.size = nL ∧ lv_wf ls ∧ ∀ (i : Nat) (v : Value), lc[i]? = some (some v) → ls[i]? = some (.val v)
def jlist (lc : List (Option Value)) : List (Nat × Value) := (List.range lc.length).filterMap (fun i => match lc[i]? with
  | some (some v) => some (i, v)
  | _ => none)
theorem jlist_mem {lc : List (Option Value)} {q : Nat × Value} : q ∈ jlist lc ↔ lc[q.1]? = some (some q.2) := by
  obtain ⟨i, v⟩ := q
  simp only [jlist, List.mem_filterMap, List.mem_range]
  constructor
  · rintro ⟨j, hj, h⟩
    split at h
    next w hw =>
      cases h
      exact hw
    next => cases h
  · intro h
    refine ⟨i, (List.getElem?_eq_some_iff.mp h).1, ?_⟩
    rw [h]
theorem jL.has {ls : Array Slot} {nL : Nat} {lc : List (Option Value)} (h : jL ls nL lc) : lv_has ls nL (jlist lc) := ⟨h.1, h.2.1, fun q hq => h.2.2 q.1 q.2 (jlist_mem.mp hq)⟩
/-- no long stands just ahead of place i -/
def jok (lc : List (Option Value)) : Nat → Bool
  | 0 => true
  | i + 1 => match lc[i]? with
    | some (some (.long _)) => false
    | some (some (.double _)) => false
    | _ => true
theorem jok_spec {lc : List (Option Value)} {i j : Nat} {w : Value} (h : jok lc i = true) (hj : lc[j]? = some (some w)) (e : j + 1 = i) : ¬ w.category = 2 := by
  subst e
  simp only [jok, hj] at h
  cases w <;> simp_all [Value.category]
/-- a store of a value of one slot -/
theorem jL.store {ls ls' : Array Slot} {nL i : Nat} {lc : List (Option Value)} {v : Value} (hk : jok lc i = true)
    (h : lv_has ls' nL ((i, v) :: (jlist lc).filter (fun q => !(q.1 == i) && !(q.1 + 1 == i && q.2.category == 2)))) (_ : jL ls nL lc) : jL ls' nL (lc.set i (some v)) := by
  refine ⟨h.1, h.2.1, fun j w hj => ?_⟩
  by_cases hji : j = i
  · subst hji
    have hl := (List.getElem?_eq_some_iff.mp hj).1
    rw [List.length_set] at hl
    rw [List.getElem?_set_self hl] at hj
    cases hj
    exact h.2.2 (j, v) List.mem_cons_self
  · rw [List.getElem?_set_ne (Ne.symm hji)] at hj
    refine h.2.2 (j, w) (List.mem_cons_of_mem _ (List.mem_filter.mpr ⟨jlist_mem.mpr hj, ?_⟩))
    by_cases e : j + 1 = i
    · have := jok_spec hk hj e
      simp [hji, this]
    · simp [hji, e]
/-- a store of a long -/
theorem jL.store2 {ls ls' : Array Slot} {nL i : Nat} {lc : List (Option Value)} {v : Value} (hk : jok lc i = true)
    (h : lv_has ls' nL ((i, v) :: (jlist lc).filter (fun q => !(q.1 == i) && (!(q.1 == i + 1) && !(q.1 + 1 == i && q.2.category == 2))))) (_ : jL ls nL lc) : jL ls' nL ((lc.set i (some v)).set (i + 1) none) := by
  refine ⟨h.1, h.2.1, fun j w hj => ?_⟩
  by_cases hj1 : j = i + 1
  · subst hj1
    have hl := (List.getElem?_eq_some_iff.mp hj).1
    rw [List.length_set] at hl
    rw [List.getElem?_set_self hl] at hj
    cases hj
  · rw [List.getElem?_set_ne (Ne.symm hj1)] at hj
    by_cases hji : j = i
    · subst hji
      have hl := (List.getElem?_eq_some_iff.mp hj).1
      rw [List.length_set] at hl
      rw [List.getElem?_set_self hl] at hj
      cases hj
      exact h.2.2 (j, v) List.mem_cons_self
    · rw [List.getElem?_set_ne (Ne.symm hji)] at hj
      refine h.2.2 (j, w) (List.mem_cons_of_mem _ (List.mem_filter.mpr ⟨jlist_mem.mpr hj, ?_⟩))
      by_cases e : j + 1 = i
      · have := jok_spec hk hj e
        simp [hji, hj1, this]
      · simp [hji, hj1, e]
/-- the locals at the beginning -/
def jent : List Value → List (Option Value)
  | [] => []
  | v :: vs => if v.category = 2 then some v :: none :: jent vs else some v :: jent vs
theorem jargs {v : Value} : ∀ (vs : List Value) (k i : Nat), (jent vs)[i]? = some (some v) → (k + i, v) ∈ lv_args k vs
  | [], _, _, h => by simp [jent] at h
  | w :: vs, k, i, h => by
    by_cases hc : w.category = 2
    · simp only [jent, hc, if_true] at h
      simp only [lv_args, hc, if_true]
      match i, h with
      | 0, h =>
        simp only [List.getElem?_cons_zero, Option.some.injEq] at h
        subst h
        exact List.mem_cons_self
      | 1, h => simp at h
      | i + 2, h =>
        simp only [List.getElem?_cons_succ] at h
        have := jargs vs (k + 2) i h
        refine List.mem_cons_of_mem _ ?_
        rw [show k + (i + 2) = k + 2 + i by omega]
        exact this
    · simp only [jent, hc, if_false] at h
      simp only [lv_args, hc, if_false]
      match i, h with
      | 0, h =>
        simp only [List.getElem?_cons_zero, Option.some.injEq] at h
        subst h
        exact List.mem_cons_self
      | i + 1, h =>
        simp only [List.getElem?_cons_succ] at h
        have := jargs vs (k + 1) i h
        refine List.mem_cons_of_mem _ ?_
        rw [show k + (i + 1) = k + 1 + i by omega]
        exact this
theorem jent_len : ∀ vs : List Value, (jent vs).length = (lg_sl vs).length
  | [] => rfl
  | v :: vs => by
    have ih := jent_len vs
    by_cases hc : v.category = 2
    · simp only [jent, hc, if_true, lg_sl, List.flatMap_cons, List.length_append, List.length_cons] at ih ⊢
      rw [ih]; simp; omega
    · simp only [jent, hc, if_false, lg_sl, List.flatMap_cons, List.length_append, List.length_cons] at ih ⊢
      rw [ih]; simp; omega
theorem jL.entry {ls : Array Slot} {nL : Nat} {av : List Value} {lc : List (Option Value)} (h : lv_has ls nL (lv_args 0 av)) {r : Nat} (hl : jent av ++ List.replicate r none = lc) : jL ls nL lc := by
  refine ⟨h.1, h.2.1, fun i v hi => ?_⟩
  subst hl
  have hv : (jent av)[i]? = some (some v) := by
    by_cases hlt : i < (jent av).length
    · rw [List.getElem?_append_left hlt] at hi
      exact hi
    · rw [List.getElem?_append_right (by omega)] at hi
      obtain ⟨hz, e⟩ := List.getElem?_eq_some_iff.mp hi
      simp at e
  have := h.2.2 (0 + i, v) (jargs av 0 i hv)
  simpa using this
/-! the judgement -/
abbrev jG : Type := Launch × va_G × List vw_C × List (ClassId × FieldType) × List Cond × (State → Prop)
abbrev jMt : Type := MethodName × ByteArray × Nat × Option FieldType
/-- what is fixed in a method's run -/
def jX (G : jG) (Z : State → (Nat → Prop) → Prop) (u : jMt) (d : Nat) (p : Program) (R : Room) (s : State) (m : MethodId) (args : Array Value) (meth : Method) (c : Code) (mc ms : Nat) (A : Nat → Prop) : Prop :=
  p.tables.exec = Jvm.exec ∧ c.code = u.2.1 ∧ c.maxLocals = u.2.2.1 ∧ s.vm.findClass u.1.cls = some m.cls ∧ (∀ w ∈ G.2.2.2.2.1, w.before args s = true) ∧ meth.sig.returnType = u.2.2.2 ∧ meth.locks = false ∧ meth.name = u.1.name ∧
  d ≤ R.frames ∧ 40 * d ≤ R.locals ∧ mc ≤ R.cells ∧ ms ≤ R.slots ∧ va_K G.2.1 G.2.2.1 G.2.2.2.1 s ∧ (∀ q, s.heap.size ≤ q → A q) ∧ G.2.2.2.2.2 s ∧ Z s A
/-- what moves -/
def jY (G : jG) (u : jMt) (n sn : Nat) (lc : List (Option Value)) (h : jH) (s : State) (H : Heap) (locs : List Loc) (cells slots : Nat) (A : Nat → Prop) (mc ms : Nat) (ls : Array Slot) : Prop :=
  cells + n ≤ mc ∧ slots + sn ≤ ms ∧ jL ls u.2.2.1 lc ∧ jHold G.2.1 G.2.2.1 h H ∧ va_S A s.heap H locs ∧ ∀ q, h.1 q ≠ none → A q
def jQc (G : jG) (Q : Option Value → jH → Prop) (A : Nat → Prop) : Array Value → State → Outcome → State → Prop := fun _ t0 oc t => (∃ (v : Option Value) (h : jH), oc = .returned v ∧ Q v h ∧ jHold G.2.1 G.2.2.1 h t.heap ∧ ∀ q, h.1 q ≠ none → A q) ∧ va_F A t0 t
/-- from here the method comes to its end, with Q; at most n cells of sn slots come; d calls deep -/
def J (G : jG) (Z : State → (Nat → Prop) → Prop) (u : jMt) (d : Nat) (Q : Option Value → jH → Prop) (n sn pc : Nat) (lc : List (Option Value)) (st : List Value) (h : jH) : Prop :=
  ∀ (p : Program) (e : Env) (R : Room) (s : State) (m : MethodId) (args : Array Value) (below : List Frame) (meth : Method) (c : Code) (H : Heap) (locs : List Loc) (cells slots : Nat) (A : Nat → Prop) (mc ms : Nat) (ls : Array Slot),
    jX G Z u d p R s m args meth c mc ms A → jY G u n sn lc h s H locs cells slots A mc ms ls → W p G.1 e R s m args below meth c H locs cells slots (MQ below (jQc G Q A) args s mc ms A) (F0 m pc ls st)
def jT : State → (Nat → Prop) → Prop := fun _ _ => True
def jws (G : jG) (u : jMt) : List Cond := Cond.code u.1 u.2.1 u.2.2.1 u.2.2.2 :: G.2.2.2.2.1
/-- a method's contract at one start -/
def jM (G : jG) (u : jMt) (d n sn : Nat) (av : List Value) (h : jH) (Q : Option Value → jH → Prop) : Prop :=
  Met G.1 u.1 (jws G u) { frames := d, cells := n, slots := sn, locals := 40 * d } (va_Pc av (fun U => jHold G.2.1 G.2.2.1 h U.heap ∧ va_K G.2.1 G.2.2.1 G.2.2.2.1 U ∧ G.2.2.2.2.2 U)) (jQc G Q (jA h)) n sn (jA h)
def jE (G : jG) : Prop := (∀ s U : State, s.WarmedH U.vm → G.2.2.2.2.2 s → G.2.2.2.2.2 U) ∧ ∀ (U : State) (g : JFrame) (mk : MethodId) (a : Array Value), G.2.2.2.2.2 U → G.2.2.2.2.2 (U.calling g mk a)
section JROWS
variable {G : jG} {Z : State → (Nat → Prop) → Prop} {u : jMt} {d n sn pc : Nat} {Q : Option Value → jH → Prop} {lc : List (Option Value)} {st : List Value} {h : jH}
abbrev jd (u : jMt) (pc : Nat) (i : Instr) (k : Nat) : Prop := decode u.2.1 pc = .ok (i, k)
theorem J.more {n' sn' : Nat} (h1 : n ≤ n') (h2 : sn ≤ sn') (kk : J G Z u d Q n sn pc lc st h) : J G Z u d Q n' sn' pc lc st h := by
  intro p e R s m args below meth c H locs cells slots A mc ms ls X Y
  exact kk p e R s m args below meth c H locs cells slots A mc ms ls X ⟨by have := Y.1; omega, by have := Y.2.1; omega, Y.2.2⟩
theorem J.post {Q' : Option Value → jH → Prop} (hq : ∀ v h, Q v h → Q' v h) (kk : J G Z u d Q n sn pc lc st h) : J G Z u d Q' n sn pc lc st h := by
  intro p e R s m args below meth c H locs cells slots A mc ms ls X Y T hT S
  obtain ⟨t, a, o, b1, b2, ⟨⟨v, h2, c1, c2, c3⟩, c4⟩, b4⟩ := kk p e R s m args below meth c H locs cells slots A mc ms ls X Y T hT S
  exact ⟨t, a, o, b1, b2, ⟨⟨v, h2, c1, hq v h2 c2, c3⟩, c4⟩, b4⟩
theorem j_iconst {k : Int} {v : Int32} (hd : jd u pc (.iconst k) 1) (hv : Int32.ofInt k = v) (kk : J G Z u d Q n sn (pc + 1) lc (.int v :: st) h) : J G Z u d Q n sn pc lc st h := by
  intro p e R s m args below meth c H locs cells slots A mc ms ls X Y
  exact lv_iconst X.1 X.2.1 hd hv (kk p e R s m args below meth c H locs cells slots A mc ms ls X Y)
theorem j_bipush {k : Int} {v : Int32} (hd : jd u pc (.bipush k) 2) (hv : (Int8.ofInt k).toInt32 = v) (kk : J G Z u d Q n sn (pc + 2) lc (.int v :: st) h) : J G Z u d Q n sn pc lc st h := by
  intro p e R s m args below meth c H locs cells slots A mc ms ls X Y
  exact lv_bipush X.1 X.2.1 hd hv (kk p e R s m args below meth c H locs cells slots A mc ms ls X Y)
theorem j_sipush {k : Int} {v : Int32} (hd : jd u pc (.sipush k) 3) (hv : (Int16.ofInt k).toInt32 = v) (kk : J G Z u d Q n sn (pc + 3) lc (.int v :: st) h) : J G Z u d Q n sn pc lc st h := by
  intro p e R s m args below meth c H locs cells slots A mc ms ls X Y
  exact lv_sipush X.1 X.2.1 hd hv (kk p e R s m args below meth c H locs cells slots A mc ms ls X Y)
theorem j_null (hd : jd u pc .aconst_null 1) (kk : J G Z u d Q n sn (pc + 1) lc (.null :: st) h) : J G Z u d Q n sn pc lc st h := by
  intro p e R s m args below meth c H locs cells slots A mc ms ls X Y
  exact lv_null X.1 X.2.1 hd (kk p e R s m args below meth c H locs cells slots A mc ms ls X Y)
theorem j_ldc {i : Nat} {v : Int32} (hd : jd u pc (.ldc i) 2) (hw : Cond.constant u.1.cls i v ∈ G.2.2.2.2.1) (kk : J G Z u d Q n sn (pc + 2) lc (.int v :: st) h) : J G Z u d Q n sn pc lc st h := by
  intro p e R s m args below meth c H locs cells slots A mc ms ls X Y
  exact lv_ldc X.1 X.2.1 X.2.2.2.1 (X.2.2.2.2.1 _ hw) hd (kk p e R s m args below meth c H locs cells slots A mc ms ls X Y)
theorem j_iload_n {k : Fin 4} {x : Int32} (hd : jd u pc (.iload_n k) 1) (hl : lc[(k : Nat)]? = some (some (.int x))) (kk : J G Z u d Q n sn (pc + 1) lc (.int x :: st) h) : J G Z u d Q n sn pc lc st h := by
  intro p e R s m args below meth c H locs cells slots A mc ms ls X Y
  exact lv_iload_n X.1 X.2.1 hd rfl (Y.2.2.1.2.2 _ _ hl) (kk p e R s m args below meth c H locs cells slots A mc ms ls X Y)
theorem j_iload {i : Nat} {x : Int32} (hd : jd u pc (.iload i) 2) (hl : lc[i]? = some (some (.int x))) (kk : J G Z u d Q n sn (pc + 2) lc (.int x :: st) h) : J G Z u d Q n sn pc lc st h := by
  intro p e R s m args below meth c H locs cells slots A mc ms ls X Y
  exact lv_iload X.1 X.2.1 hd (Y.2.2.1.2.2 _ _ hl) (kk p e R s m args below meth c H locs cells slots A mc ms ls X Y)
theorem j_iadd {x y : Int32} (hd : jd u pc .iadd 1) (kk : J G Z u d Q n sn (pc + 1) lc (.int (x + y) :: st) h) : J G Z u d Q n sn pc lc (.int y :: .int x :: st) h := by
  intro p e R s m args below meth c H locs cells slots A mc ms ls X Y
  exact lv_iadd X.1 X.2.1 hd (kk p e R s m args below meth c H locs cells slots A mc ms ls X Y)
theorem j_isub {x y : Int32} (hd : jd u pc .isub 1) (kk : J G Z u d Q n sn (pc + 1) lc (.int (x - y) :: st) h) : J G Z u d Q n sn pc lc (.int y :: .int x :: st) h := by
  intro p e R s m args below meth c H locs cells slots A mc ms ls X Y
  exact lv_isub X.1 X.2.1 hd (kk p e R s m args below meth c H locs cells slots A mc ms ls X Y)
theorem j_imul {x y : Int32} (hd : jd u pc .imul 1) (kk : J G Z u d Q n sn (pc + 1) lc (.int (x * y) :: st) h) : J G Z u d Q n sn pc lc (.int y :: .int x :: st) h := by
  intro p e R s m args below meth c H locs cells slots A mc ms ls X Y
  exact lv_imul X.1 X.2.1 hd (kk p e R s m args below meth c H locs cells slots A mc ms ls X Y)
theorem j_iand {x y : Int32} (hd : jd u pc .iand 1) (kk : J G Z u d Q n sn (pc + 1) lc (.int (x &&& y) :: st) h) : J G Z u d Q n sn pc lc (.int y :: .int x :: st) h := by
  intro p e R s m args below meth c H locs cells slots A mc ms ls X Y
  exact lv_iand X.1 X.2.1 hd (kk p e R s m args below meth c H locs cells slots A mc ms ls X Y)
theorem j_ior {x y : Int32} (hd : jd u pc .ior 1) (kk : J G Z u d Q n sn (pc + 1) lc (.int (x ||| y) :: st) h) : J G Z u d Q n sn pc lc (.int y :: .int x :: st) h := by
  intro p e R s m args below meth c H locs cells slots A mc ms ls X Y
  exact lv_ior X.1 X.2.1 hd (kk p e R s m args below meth c H locs cells slots A mc ms ls X Y)
theorem j_ixor {x y : Int32} (hd : jd u pc .ixor 1) (kk : J G Z u d Q n sn (pc + 1) lc (.int (x ^^^ y) :: st) h) : J G Z u d Q n sn pc lc (.int y :: .int x :: st) h := by
  intro p e R s m args below meth c H locs cells slots A mc ms ls X Y
  exact lv_ixor X.1 X.2.1 hd (kk p e R s m args below meth c H locs cells slots A mc ms ls X Y)
theorem j_idiv {x y : Int32} (hd : jd u pc .idiv 1) (hne : ¬ y = 0) (kk : J G Z u d Q n sn (pc + 1) lc (.int (x / y) :: st) h) : J G Z u d Q n sn pc lc (.int y :: .int x :: st) h := by
  intro p e R s m args below meth c H locs cells slots A mc ms ls X Y
  exact lv_idiv X.1 X.2.1 hd hne (kk p e R s m args below meth c H locs cells slots A mc ms ls X Y)
theorem j_irem {x y : Int32} (hd : jd u pc .irem 1) (hne : ¬ y = 0) (kk : J G Z u d Q n sn (pc + 1) lc (.int (x - x / y * y) :: st) h) : J G Z u d Q n sn pc lc (.int y :: .int x :: st) h := by
  intro p e R s m args below meth c H locs cells slots A mc ms ls X Y
  exact lv_irem X.1 X.2.1 hd hne (kk p e R s m args below meth c H locs cells slots A mc ms ls X Y)
theorem j_ishl {x y : Int32} (hd : jd u pc .ishl 1) (kk : J G Z u d Q n sn (pc + 1) lc (.int (x <<< (y &&& 31)) :: st) h) : J G Z u d Q n sn pc lc (.int y :: .int x :: st) h := by
  intro p e R s m args below meth c H locs cells slots A mc ms ls X Y
  exact lv_ishl X.1 X.2.1 hd (kk p e R s m args below meth c H locs cells slots A mc ms ls X Y)
theorem j_ishr {x y : Int32} (hd : jd u pc .ishr 1) (kk : J G Z u d Q n sn (pc + 1) lc (.int (x >>> (y &&& 31)) :: st) h) : J G Z u d Q n sn pc lc (.int y :: .int x :: st) h := by
  intro p e R s m args below meth c H locs cells slots A mc ms ls X Y
  exact lv_ishr X.1 X.2.1 hd (kk p e R s m args below meth c H locs cells slots A mc ms ls X Y)
theorem j_dup {a : Value} (hd : jd u pc .dup 1) (ha : a.category = 1) (kk : J G Z u d Q n sn (pc + 1) lc (a :: a :: st) h) : J G Z u d Q n sn pc lc (a :: st) h := by
  intro p e R s m args below meth c H locs cells slots A mc ms ls X Y
  exact lv_dup X.1 X.2.1 hd ha (kk p e R s m args below meth c H locs cells slots A mc ms ls X Y)
theorem j_pop {a : Value} (hd : jd u pc .pop 1) (ha : a.category = 1) (kk : J G Z u d Q n sn (pc + 1) lc st h) : J G Z u d Q n sn pc lc (a :: st) h := by
  intro p e R s m args below meth c H locs cells slots A mc ms ls X Y
  exact lv_pop X.1 X.2.1 hd ha (kk p e R s m args below meth c H locs cells slots A mc ms ls X Y)
theorem j_dup2 {a b : Value} (hd : jd u pc .dup2 1) (ha : a.category = 1) (hb : b.category = 1) (kk : J G Z u d Q n sn (pc + 1) lc (a :: b :: a :: b :: st) h) : J G Z u d Q n sn pc lc (a :: b :: st) h := by
  intro p e R s m args below meth c H locs cells slots A mc ms ls X Y
  exact lv_dup2_11 X.1 X.2.1 hd ha hb (kk p e R s m args below meth c H locs cells slots A mc ms ls X Y)
theorem j_dup_x1 {a b : Value} (hd : jd u pc .dup_x1 1) (ha : a.category = 1) (hb : b.category = 1) (kk : J G Z u d Q n sn (pc + 1) lc (a :: b :: a :: st) h) : J G Z u d Q n sn pc lc (a :: b :: st) h := by
  intro p e R s m args below meth c H locs cells slots A mc ms ls X Y
  exact lv_dup_x1 X.1 X.2.1 hd ha hb (kk p e R s m args below meth c H locs cells slots A mc ms ls X Y)
theorem j_goto {o : Int} {t : Nat} (hd : jd u pc (.goto o) 3) (ht : (pc : Int) + o = (t : Int)) (kk : J G Z u d Q n sn t lc st h) : J G Z u d Q n sn pc lc st h := by
  intro p e R s m args below meth c H locs cells slots A mc ms ls X Y
  exact lv_goto X.1 X.2.1 hd ht (kk p e R s m args below meth c H locs cells slots A mc ms ls X Y)
theorem j_lconst {k : Fin 2} {v : Int64} (hd : jd u pc (.lconst k) 1) (hv : Int64.ofNat (k : Nat) = v) (kk : J G Z u d Q n sn (pc + 1) lc (.long v :: st) h) : J G Z u d Q n sn pc lc st h := by
  intro p e R s m args below meth c H locs cells slots A mc ms ls X Y
  exact lv_lconst X.1 X.2.1 hd hv (kk p e R s m args below meth c H locs cells slots A mc ms ls X Y)
theorem j_ldc2 {i : Nat} {v : Int64} (hd : jd u pc (.ldc2_w i) 3) (hw : Cond.constantLong u.1.cls i v ∈ G.2.2.2.2.1) (kk : J G Z u d Q n sn (pc + 3) lc (.long v :: st) h) : J G Z u d Q n sn pc lc st h := by
  intro p e R s m args below meth c H locs cells slots A mc ms ls X Y
  exact lv_ldc2 X.1 X.2.1 X.2.2.2.1 (X.2.2.2.2.1 _ hw) hd (kk p e R s m args below meth c H locs cells slots A mc ms ls X Y)
theorem j_lload_n {k : Fin 4} {x : Int64} (hd : jd u pc (.lload_n k) 1) (hl : lc[(k : Nat)]? = some (some (.long x))) (kk : J G Z u d Q n sn (pc + 1) lc (.long x :: st) h) : J G Z u d Q n sn pc lc st h := by
  intro p e R s m args below meth c H locs cells slots A mc ms ls X Y
  exact lv_lload_n X.1 X.2.1 hd rfl (Y.2.2.1.2.2 _ _ hl) (kk p e R s m args below meth c H locs cells slots A mc ms ls X Y)
theorem j_lload {i : Nat} {x : Int64} (hd : jd u pc (.lload i) 2) (hl : lc[i]? = some (some (.long x))) (kk : J G Z u d Q n sn (pc + 2) lc (.long x :: st) h) : J G Z u d Q n sn pc lc st h := by
  intro p e R s m args below meth c H locs cells slots A mc ms ls X Y
  exact lv_lload X.1 X.2.1 hd (Y.2.2.1.2.2 _ _ hl) (kk p e R s m args below meth c H locs cells slots A mc ms ls X Y)
theorem j_ladd {x y : Int64} (hd : jd u pc .ladd 1) (kk : J G Z u d Q n sn (pc + 1) lc (.long (x + y) :: st) h) : J G Z u d Q n sn pc lc (.long y :: .long x :: st) h := by
  intro p e R s m args below meth c H locs cells slots A mc ms ls X Y
  exact lv_ladd X.1 X.2.1 hd (kk p e R s m args below meth c H locs cells slots A mc ms ls X Y)
theorem j_lmul {x y : Int64} (hd : jd u pc .lmul 1) (kk : J G Z u d Q n sn (pc + 1) lc (.long (x * y) :: st) h) : J G Z u d Q n sn pc lc (.long y :: .long x :: st) h := by
  intro p e R s m args below meth c H locs cells slots A mc ms ls X Y
  exact lv_lmul X.1 X.2.1 hd (kk p e R s m args below meth c H locs cells slots A mc ms ls X Y)
theorem j_ldiv {x y : Int64} (hd : jd u pc .ldiv 1) (hne : ¬ y = 0) (kk : J G Z u d Q n sn (pc + 1) lc (.long (x / y) :: st) h) : J G Z u d Q n sn pc lc (.long y :: .long x :: st) h := by
  intro p e R s m args below meth c H locs cells slots A mc ms ls X Y
  exact lv_ldiv X.1 X.2.1 hd hne (kk p e R s m args below meth c H locs cells slots A mc ms ls X Y)
theorem j_lrem {x y : Int64} (hd : jd u pc .lrem 1) (hne : ¬ y = 0) (kk : J G Z u d Q n sn (pc + 1) lc (.long (x - x / y * y) :: st) h) : J G Z u d Q n sn pc lc (.long y :: .long x :: st) h := by
  intro p e R s m args below meth c H locs cells slots A mc ms ls X Y
  exact lv_lrem X.1 X.2.1 hd hne (kk p e R s m args below meth c H locs cells slots A mc ms ls X Y)
theorem j_i2l {x : Int32} {v : Int64} (hd : jd u pc .i2l 1) (hv : x.toInt64 = v) (kk : J G Z u d Q n sn (pc + 1) lc (.long v :: st) h) : J G Z u d Q n sn pc lc (.int x :: st) h := by
  intro p e R s m args below meth c H locs cells slots A mc ms ls X Y
  exact lv_i2l X.1 X.2.1 hd hv (kk p e R s m args below meth c H locs cells slots A mc ms ls X Y)
theorem j_l2i {x : Int64} {v : Int32} (hd : jd u pc .l2i 1) (hv : x.toInt32 = v) (kk : J G Z u d Q n sn (pc + 1) lc (.int v :: st) h) : J G Z u d Q n sn pc lc (.long x :: st) h := by
  intro p e R s m args below meth c H locs cells slots A mc ms ls X Y
  exact lv_l2i X.1 X.2.1 hd hv (kk p e R s m args below meth c H locs cells slots A mc ms ls X Y)
theorem j_aload_n {k : Fin 4} {x : Nat} (hd : jd u pc (.aload_n k) 1) (hl : lc[(k : Nat)]? = some (some (.ref x))) (kk : J G Z u d Q n sn (pc + 1) lc (.ref x :: st) h) : J G Z u d Q n sn pc lc st h := by
  intro p e R s m args below meth c H locs cells slots A mc ms ls X Y
  exact lv_aload_n X.1 X.2.1 hd rfl (Y.2.2.1.2.2 _ _ hl) (kk p e R s m args below meth c H locs cells slots A mc ms ls X Y)
theorem j_aload {i x : Nat} (hd : jd u pc (.aload i) 2) (hl : lc[i]? = some (some (.ref x))) (kk : J G Z u d Q n sn (pc + 2) lc (.ref x :: st) h) : J G Z u d Q n sn pc lc st h := by
  intro p e R s m args below meth c H locs cells slots A mc ms ls X Y
  exact lv_aload X.1 X.2.1 hd (Y.2.2.1.2.2 _ _ hl) (kk p e R s m args below meth c H locs cells slots A mc ms ls X Y)
theorem j_aload_nN {k : Fin 4} (hd : jd u pc (.aload_n k) 1) (hl : lc[(k : Nat)]? = some (some .null)) (kk : J G Z u d Q n sn (pc + 1) lc (.null :: st) h) : J G Z u d Q n sn pc lc st h := by
  intro p e R s m args below meth c H locs cells slots A mc ms ls X Y
  exact lv_aload_nN X.1 X.2.1 hd rfl (Y.2.2.1.2.2 _ _ hl) (kk p e R s m args below meth c H locs cells slots A mc ms ls X Y)
theorem j_aloadN {i : Nat} (hd : jd u pc (.aload i) 2) (hl : lc[i]? = some (some .null)) (kk : J G Z u d Q n sn (pc + 2) lc (.null :: st) h) : J G Z u d Q n sn pc lc st h := by
  intro p e R s m args below meth c H locs cells slots A mc ms ls X Y
  exact lv_aloadN X.1 X.2.1 hd (Y.2.2.1.2.2 _ _ hl) (kk p e R s m args below meth c H locs cells slots A mc ms ls X Y)
theorem j_lstore_n {k : Fin 4} {x : Int64} (hd : jd u pc (.lstore_n k) 1) (hi : (k : Nat) + 1 < u.2.2.1) (hk : jok lc (k : Nat) = true) {lc' : List (Option Value)} (hl : (lc.set (k : Nat) (some (.long x))).set ((k : Nat) + 1) none = lc') (kk : J G Z u d Q n sn (pc + 1) lc' st h) : J G Z u d Q n sn pc lc ((.long x) :: st) h := by
  intro p e R s m args below meth c H locs cells slots A mc ms ls X Y
  exact lv_lstore_n X.1 X.2.1 hd rfl Y.2.2.1.has hi rfl (fun ls' hl' => kk p e R s m args below meth c H locs cells slots A mc ms ls' X ⟨Y.1, Y.2.1, hl ▸ jL.store2 hk hl' Y.2.2.1, Y.2.2.2⟩)
theorem j_lstore {i : Nat} {x : Int64} (hd : jd u pc (.lstore i) 2) (hi : i + 1 < u.2.2.1) (hk : jok lc i = true) {lc' : List (Option Value)} (hl : (lc.set i (some (.long x))).set (i + 1) none = lc') (kk : J G Z u d Q n sn (pc + 2) lc' st h) : J G Z u d Q n sn pc lc ((.long x) :: st) h := by
  intro p e R s m args below meth c H locs cells slots A mc ms ls X Y
  exact lv_lstore X.1 X.2.1 hd Y.2.2.1.has hi rfl (fun ls' hl' => kk p e R s m args below meth c H locs cells slots A mc ms ls' X ⟨Y.1, Y.2.1, hl ▸ jL.store2 hk hl' Y.2.2.1, Y.2.2.2⟩)
theorem j_istore_n {k : Fin 4} {x : Int32} (hd : jd u pc (.istore_n k) 1) (hi : (k : Nat) < u.2.2.1) (hk : jok lc (k : Nat) = true) {lc' : List (Option Value)} (hl : lc.set (k : Nat) (some (.int x)) = lc') (kk : J G Z u d Q n sn (pc + 1) lc' st h) : J G Z u d Q n sn pc lc ((.int x) :: st) h := by
  intro p e R s m args below meth c H locs cells slots A mc ms ls X Y
  exact lv_istore_n X.1 X.2.1 hd rfl Y.2.2.1.has hi rfl (fun ls' hl' => kk p e R s m args below meth c H locs cells slots A mc ms ls' X ⟨Y.1, Y.2.1, hl ▸ jL.store hk hl' Y.2.2.1, Y.2.2.2⟩)
theorem j_istore {i : Nat} {x : Int32} (hd : jd u pc (.istore i) 2) (hi : i < u.2.2.1) (hk : jok lc i = true) {lc' : List (Option Value)} (hl : lc.set i (some (.int x)) = lc') (kk : J G Z u d Q n sn (pc + 2) lc' st h) : J G Z u d Q n sn pc lc ((.int x) :: st) h := by
  intro p e R s m args below meth c H locs cells slots A mc ms ls X Y
  exact lv_istore X.1 X.2.1 hd Y.2.2.1.has hi rfl (fun ls' hl' => kk p e R s m args below meth c H locs cells slots A mc ms ls' X ⟨Y.1, Y.2.1, hl ▸ jL.store hk hl' Y.2.2.1, Y.2.2.2⟩)
theorem j_astore_n {k : Fin 4} {x : Nat} (hd : jd u pc (.astore_n k) 1) (hi : (k : Nat) < u.2.2.1) (hk : jok lc (k : Nat) = true) {lc' : List (Option Value)} (hl : lc.set (k : Nat) (some (.ref x)) = lc') (kk : J G Z u d Q n sn (pc + 1) lc' st h) : J G Z u d Q n sn pc lc ((.ref x) :: st) h := by
  intro p e R s m args below meth c H locs cells slots A mc ms ls X Y
  exact lv_astore_n X.1 X.2.1 hd rfl Y.2.2.1.has hi rfl (fun ls' hl' => kk p e R s m args below meth c H locs cells slots A mc ms ls' X ⟨Y.1, Y.2.1, hl ▸ jL.store hk hl' Y.2.2.1, Y.2.2.2⟩)
theorem j_astore {i x : Nat} (hd : jd u pc (.astore i) 2) (hi : i < u.2.2.1) (hk : jok lc i = true) {lc' : List (Option Value)} (hl : lc.set i (some (.ref x)) = lc') (kk : J G Z u d Q n sn (pc + 2) lc' st h) : J G Z u d Q n sn pc lc ((.ref x) :: st) h := by
  intro p e R s m args below meth c H locs cells slots A mc ms ls X Y
  exact lv_astore X.1 X.2.1 hd Y.2.2.1.has hi rfl (fun ls' hl' => kk p e R s m args below meth c H locs cells slots A mc ms ls' X ⟨Y.1, Y.2.1, hl ▸ jL.store hk hl' Y.2.2.1, Y.2.2.2⟩)
theorem j_astore_nN {k : Fin 4} (hd : jd u pc (.astore_n k) 1) (hi : (k : Nat) < u.2.2.1) (hk : jok lc (k : Nat) = true) {lc' : List (Option Value)} (hl : lc.set (k : Nat) (some .null) = lc') (kk : J G Z u d Q n sn (pc + 1) lc' st h) : J G Z u d Q n sn pc lc (.null :: st) h := by
  intro p e R s m args below meth c H locs cells slots A mc ms ls X Y
  exact lv_astore_nN X.1 X.2.1 hd rfl Y.2.2.1.has hi rfl (fun ls' hl' => kk p e R s m args below meth c H locs cells slots A mc ms ls' X ⟨Y.1, Y.2.1, hl ▸ jL.store hk hl' Y.2.2.1, Y.2.2.2⟩)
theorem j_astoreN {i : Nat} (hd : jd u pc (.astore i) 2) (hi : i < u.2.2.1) (hk : jok lc i = true) {lc' : List (Option Value)} (hl : lc.set i (some .null) = lc') (kk : J G Z u d Q n sn (pc + 2) lc' st h) : J G Z u d Q n sn pc lc (.null :: st) h := by
  intro p e R s m args below meth c H locs cells slots A mc ms ls X Y
  exact lv_astoreN X.1 X.2.1 hd Y.2.2.1.has hi rfl (fun ls' hl' => kk p e R s m args below meth c H locs cells slots A mc ms ls' X ⟨Y.1, Y.2.1, hl ▸ jL.store hk hl' Y.2.2.1, Y.2.2.2⟩)
theorem j_iinc {i : Nat} {k : Int} {x v : Int32} (hd : jd u pc (.iinc i k) 3) (hx : lc[i]? = some (some (.int x))) (hv : x + Int32.ofInt k = v) (hi : i < u.2.2.1) (hk : jok lc i = true) {lc' : List (Option Value)} (hl : lc.set i (some (.int v)) = lc') (kk : J G Z u d Q n sn (pc + 3) lc' st h) : J G Z u d Q n sn pc lc st h := by
  intro p e R s m args below meth c H locs cells slots A mc ms ls X Y
  obtain ⟨q, hq⟩ := List.getElem?_of_mem (jlist_mem.mpr hx : (i, Value.int x) ∈ jlist lc)
  exact lv_iinc X.1 X.2.1 hd Y.2.2.1.has hq hv hi rfl (fun ls' hl' => kk p e R s m args below meth c H locs cells slots A mc ms ls' X ⟨Y.1, Y.2.1, hl ▸ jL.store hk hl' Y.2.2.1, Y.2.2.2⟩)
theorem j_if_eq {x : Int32} {o : Int} {t : Nat} (hd : jd u pc (.ifCond .eq o) 3) (ht : (pc : Int) + o = (t : Int)) (kt : x = 0 → J G Z u d Q n sn t lc st h) (kf : ¬ x = 0 → J G Z u d Q n sn (pc + 3) lc st h) : J G Z u d Q n sn pc lc (.int x :: st) h := by
  intro p e R s m args below meth c H locs cells slots A mc ms ls X Y
  exact lv_if_eq X.1 X.2.1 hd ht (fun q => kt q p e R s m args below meth c H locs cells slots A mc ms ls X Y) (fun q => kf q p e R s m args below meth c H locs cells slots A mc ms ls X Y)
theorem j_if_ne {x : Int32} {o : Int} {t : Nat} (hd : jd u pc (.ifCond .ne o) 3) (ht : (pc : Int) + o = (t : Int)) (kt : ¬ x = 0 → J G Z u d Q n sn t lc st h) (kf : x = 0 → J G Z u d Q n sn (pc + 3) lc st h) : J G Z u d Q n sn pc lc (.int x :: st) h := by
  intro p e R s m args below meth c H locs cells slots A mc ms ls X Y
  exact lv_if_ne X.1 X.2.1 hd ht (fun q => kt q p e R s m args below meth c H locs cells slots A mc ms ls X Y) (fun q => kf q p e R s m args below meth c H locs cells slots A mc ms ls X Y)
theorem j_if_lt {x : Int32} {o : Int} {t : Nat} (hd : jd u pc (.ifCond .lt o) 3) (ht : (pc : Int) + o = (t : Int)) (kt : x < 0 → J G Z u d Q n sn t lc st h) (kf : ¬ x < 0 → J G Z u d Q n sn (pc + 3) lc st h) : J G Z u d Q n sn pc lc (.int x :: st) h := by
  intro p e R s m args below meth c H locs cells slots A mc ms ls X Y
  exact lv_if_lt X.1 X.2.1 hd ht (fun q => kt q p e R s m args below meth c H locs cells slots A mc ms ls X Y) (fun q => kf q p e R s m args below meth c H locs cells slots A mc ms ls X Y)
theorem j_if_ge {x : Int32} {o : Int} {t : Nat} (hd : jd u pc (.ifCond .ge o) 3) (ht : (pc : Int) + o = (t : Int)) (kt : 0 ≤ x → J G Z u d Q n sn t lc st h) (kf : ¬ 0 ≤ x → J G Z u d Q n sn (pc + 3) lc st h) : J G Z u d Q n sn pc lc (.int x :: st) h := by
  intro p e R s m args below meth c H locs cells slots A mc ms ls X Y
  exact lv_if_ge X.1 X.2.1 hd ht (fun q => kt q p e R s m args below meth c H locs cells slots A mc ms ls X Y) (fun q => kf q p e R s m args below meth c H locs cells slots A mc ms ls X Y)
theorem j_if_gt {x : Int32} {o : Int} {t : Nat} (hd : jd u pc (.ifCond .gt o) 3) (ht : (pc : Int) + o = (t : Int)) (kt : 0 < x → J G Z u d Q n sn t lc st h) (kf : ¬ 0 < x → J G Z u d Q n sn (pc + 3) lc st h) : J G Z u d Q n sn pc lc (.int x :: st) h := by
  intro p e R s m args below meth c H locs cells slots A mc ms ls X Y
  exact lv_if_gt X.1 X.2.1 hd ht (fun q => kt q p e R s m args below meth c H locs cells slots A mc ms ls X Y) (fun q => kf q p e R s m args below meth c H locs cells slots A mc ms ls X Y)
theorem j_if_le {x : Int32} {o : Int} {t : Nat} (hd : jd u pc (.ifCond .le o) 3) (ht : (pc : Int) + o = (t : Int)) (kt : x ≤ 0 → J G Z u d Q n sn t lc st h) (kf : ¬ x ≤ 0 → J G Z u d Q n sn (pc + 3) lc st h) : J G Z u d Q n sn pc lc (.int x :: st) h := by
  intro p e R s m args below meth c H locs cells slots A mc ms ls X Y
  exact lv_if_le X.1 X.2.1 hd ht (fun q => kt q p e R s m args below meth c H locs cells slots A mc ms ls X Y) (fun q => kf q p e R s m args below meth c H locs cells slots A mc ms ls X Y)
theorem j_icmp_eq {x y : Int32} {o : Int} {t : Nat} (hd : jd u pc (.if_icmp .eq o) 3) (ht : (pc : Int) + o = (t : Int)) (kt : x = y → J G Z u d Q n sn t lc st h) (kf : ¬ x = y → J G Z u d Q n sn (pc + 3) lc st h) : J G Z u d Q n sn pc lc (.int y :: .int x :: st) h := by
  intro p e R s m args below meth c H locs cells slots A mc ms ls X Y
  exact lv_icmp_eq X.1 X.2.1 hd ht (fun q => kt q p e R s m args below meth c H locs cells slots A mc ms ls X Y) (fun q => kf q p e R s m args below meth c H locs cells slots A mc ms ls X Y)
theorem j_icmp_ne {x y : Int32} {o : Int} {t : Nat} (hd : jd u pc (.if_icmp .ne o) 3) (ht : (pc : Int) + o = (t : Int)) (kt : ¬ x = y → J G Z u d Q n sn t lc st h) (kf : x = y → J G Z u d Q n sn (pc + 3) lc st h) : J G Z u d Q n sn pc lc (.int y :: .int x :: st) h := by
  intro p e R s m args below meth c H locs cells slots A mc ms ls X Y
  exact lv_icmp_ne X.1 X.2.1 hd ht (fun q => kt q p e R s m args below meth c H locs cells slots A mc ms ls X Y) (fun q => kf q p e R s m args below meth c H locs cells slots A mc ms ls X Y)
theorem j_icmp_lt {x y : Int32} {o : Int} {t : Nat} (hd : jd u pc (.if_icmp .lt o) 3) (ht : (pc : Int) + o = (t : Int)) (kt : x < y → J G Z u d Q n sn t lc st h) (kf : ¬ x < y → J G Z u d Q n sn (pc + 3) lc st h) : J G Z u d Q n sn pc lc (.int y :: .int x :: st) h := by
  intro p e R s m args below meth c H locs cells slots A mc ms ls X Y
  exact lv_icmp_lt X.1 X.2.1 hd ht (fun q => kt q p e R s m args below meth c H locs cells slots A mc ms ls X Y) (fun q => kf q p e R s m args below meth c H locs cells slots A mc ms ls X Y)
theorem j_icmp_ge {x y : Int32} {o : Int} {t : Nat} (hd : jd u pc (.if_icmp .ge o) 3) (ht : (pc : Int) + o = (t : Int)) (kt : y ≤ x → J G Z u d Q n sn t lc st h) (kf : ¬ y ≤ x → J G Z u d Q n sn (pc + 3) lc st h) : J G Z u d Q n sn pc lc (.int y :: .int x :: st) h := by
  intro p e R s m args below meth c H locs cells slots A mc ms ls X Y
  exact lv_icmp_ge X.1 X.2.1 hd ht (fun q => kt q p e R s m args below meth c H locs cells slots A mc ms ls X Y) (fun q => kf q p e R s m args below meth c H locs cells slots A mc ms ls X Y)
theorem j_icmp_gt {x y : Int32} {o : Int} {t : Nat} (hd : jd u pc (.if_icmp .gt o) 3) (ht : (pc : Int) + o = (t : Int)) (kt : y < x → J G Z u d Q n sn t lc st h) (kf : ¬ y < x → J G Z u d Q n sn (pc + 3) lc st h) : J G Z u d Q n sn pc lc (.int y :: .int x :: st) h := by
  intro p e R s m args below meth c H locs cells slots A mc ms ls X Y
  exact lv_icmp_gt X.1 X.2.1 hd ht (fun q => kt q p e R s m args below meth c H locs cells slots A mc ms ls X Y) (fun q => kf q p e R s m args below meth c H locs cells slots A mc ms ls X Y)
theorem j_icmp_le {x y : Int32} {o : Int} {t : Nat} (hd : jd u pc (.if_icmp .le o) 3) (ht : (pc : Int) + o = (t : Int)) (kt : x ≤ y → J G Z u d Q n sn t lc st h) (kf : ¬ x ≤ y → J G Z u d Q n sn (pc + 3) lc st h) : J G Z u d Q n sn pc lc (.int y :: .int x :: st) h := by
  intro p e R s m args below meth c H locs cells slots A mc ms ls X Y
  exact lv_icmp_le X.1 X.2.1 hd ht (fun q => kt q p e R s m args below meth c H locs cells slots A mc ms ls X Y) (fun q => kf q p e R s m args below meth c H locs cells slots A mc ms ls X Y)
theorem j_ifnonnull {r : Option Nat} {o : Int} {t : Nat} (hd : jd u pc (.ifnonnull o) 3) (ht : (pc : Int) + o = (t : Int)) (kt : ∀ x, r = some x → J G Z u d Q n sn t lc st h) (kf : r = none → J G Z u d Q n sn (pc + 3) lc st h) : J G Z u d Q n sn pc lc (va_rf r :: st) h := by
  intro p e R s m args below meth c H locs cells slots A mc ms ls X Y
  cases r with
  | none => exact lv_ifnonnullN X.1 X.2.1 hd (kf rfl p e R s m args below meth c H locs cells slots A mc ms ls X Y)
  | some x => exact lv_ifnonnull X.1 X.2.1 hd ht (kt x rfl p e R s m args below meth c H locs cells slots A mc ms ls X Y)
theorem j_ifnull {r : Option Nat} {o : Int} {t : Nat} (hd : jd u pc (.ifnull o) 3) (ht : (pc : Int) + o = (t : Int)) (kt : r = none → J G Z u d Q n sn t lc st h) (kf : ∀ x, r = some x → J G Z u d Q n sn (pc + 3) lc st h) : J G Z u d Q n sn pc lc (va_rf r :: st) h := by
  intro p e R s m args below meth c H locs cells slots A mc ms ls X Y
  cases r with
  | none => exact lv_ifnullN X.1 X.2.1 hd ht (kt rfl p e R s m args below meth c H locs cells slots A mc ms ls X Y)
  | some x => exact lv_ifnull X.1 X.2.1 hd (kf x rfl p e R s m args below meth c H locs cells slots A mc ms ls X Y)
theorem j_aload_nq {k : Fin 4} {r : Option Nat} (hd : jd u pc (.aload_n k) 1) (hl : lc[(k : Nat)]? = some (some (va_rf r))) (kk : J G Z u d Q n sn (pc + 1) lc (va_rf r :: st) h) : J G Z u d Q n sn pc lc st h := by
  cases r with
  | none => exact j_aload_nN hd hl kk
  | some x => exact j_aload_n hd hl kk
theorem j_aloadq {i : Nat} {r : Option Nat} (hd : jd u pc (.aload i) 2) (hl : lc[i]? = some (some (va_rf r))) (kk : J G Z u d Q n sn (pc + 2) lc (va_rf r :: st) h) : J G Z u d Q n sn pc lc st h := by
  cases r with
  | none => exact j_aloadN hd hl kk
  | some x => exact j_aload hd hl kk
theorem j_astore_nq {k : Fin 4} {r : Option Nat} (hd : jd u pc (.astore_n k) 1) (hi : (k : Nat) < u.2.2.1) (hk : jok lc (k : Nat) = true) {lc' : List (Option Value)} (hl : lc.set (k : Nat) (some (va_rf r)) = lc') (kk : J G Z u d Q n sn (pc + 1) lc' st h) : J G Z u d Q n sn pc lc (va_rf r :: st) h := by
  cases r with
  | none => exact j_astore_nN hd hi hk hl kk
  | some x => exact j_astore_n hd hi hk hl kk
theorem j_astoreq {i : Nat} {r : Option Nat} (hd : jd u pc (.astore i) 2) (hi : i < u.2.2.1) (hk : jok lc i = true) {lc' : List (Option Value)} (hl : lc.set i (some (va_rf r)) = lc') (kk : J G Z u d Q n sn (pc + 2) lc' st h) : J G Z u d Q n sn pc lc (va_rf r :: st) h := by
  cases r with
  | none => exact j_astoreN hd hi hk hl kk
  | some x => exact j_astore hd hi hk hl kk
/-! switches -/
theorem j_tableIn {dflt lo hi : Int} {offs : Array Int} {k : Nat} {x : Int32} {o : Int} {t : Nat} (hd : jd u pc (.tableswitch dflt lo hi offs) k) (h1 : ¬ x.toInt < lo) (h2 : ¬ hi < x.toInt) (ho : offs[(x.toInt - lo).toNat]? = some o) (ht : (pc : Int) + o = (t : Int)) (kk : J G Z u d Q n sn t lc st h) : J G Z u d Q n sn pc lc (.int x :: st) h := by
  intro p e R s m args below meth c H locs cells slots A mc ms ls X Y
  exact lv_tableIn X.1 X.2.1 hd h1 h2 ho ht (kk p e R s m args below meth c H locs cells slots A mc ms ls X Y)
theorem j_tableOut {dflt lo hi : Int} {offs : Array Int} {k : Nat} {x : Int32} {t : Nat} (hd : jd u pc (.tableswitch dflt lo hi offs) k) (h1 : x.toInt < lo ∨ hi < x.toInt) (ht : (pc : Int) + dflt = (t : Int)) (kk : J G Z u d Q n sn t lc st h) : J G Z u d Q n sn pc lc (.int x :: st) h := by
  intro p e R s m args below meth c H locs cells slots A mc ms ls X Y
  exact lv_tableOut X.1 X.2.1 hd h1 ht (kk p e R s m args below meth c H locs cells slots A mc ms ls X Y)
theorem j_lookup {dflt : Int} {ps : Array (Int × Int)} {k : Nat} {x : Int32} {o : Int} {t : Nat} (hd : jd u pc (.lookupswitch dflt ps) k) (hp : (ps.toList.zip (ps.toList.drop 1)).all (fun (a, next) => a.1 < next.1) = true) (ho : Op.lookupswitch.offset ps.toList dflt x.toInt = o) (ht : (pc : Int) + o = (t : Int)) (kk : J G Z u d Q n sn t lc st h) : J G Z u d Q n sn pc lc (.int x :: st) h := by
  intro p e R s m args below meth c H locs cells slots A mc ms ls X Y
  exact lv_lookup X.1 X.2.1 hd hp ho ht (kk p e R s m args below meth c H locs cells slots A mc ms ls X Y)
/-! fields -/
def jF (G : jG) (own : String) (i ci k : Nat) : Prop := ∃ (C : String) (T : u_T) (N : Nat), G.2.2.1[ci]? = some (C, T, N) ∧ k < N ∧ (∀ w ∈ u_ws C T N, w ∈ G.2.2.2.2.1) ∧ Cond.fieldLink own i (T k).1 (T k).2.1 (T k).2.2.1 ∈ G.2.2.2.2.1
def jPf (G : jG) (own : String) (i ci k : Nat) (ty : FieldType) (fin : Bool) : Prop := ∃ (C : String) (T : u_T) (N : Nat) (ty0 : Nat → FieldType), G.2.2.1[ci]? = some (C, T, N) ∧ k < N ∧ (∀ w ∈ u_ws C T N, w ∈ G.2.2.2.2.1) ∧ Cond.fieldLink own i (T k).1 (T k).2.1 (T k).2.2.1 ∈ G.2.2.2.2.1 ∧
  (∀ j, j < N → parseFieldDescriptor (T j).2.2.1 = some (ty0 j)) ∧ (∀ a, a < N → ∀ b, b < N → a ≠ b → (T a).2.1 ≠ (T b).2.1) ∧ (T k).2.2.2 = fin ∧ parseFieldDescriptor (T k).2.2.1 = some ty ∧ (T k).1 = own
theorem jHold.P {D : va_G} {cl : List vw_C} {h : jH} {H : Heap} {a : Nat} {x : va_E} (hh : jHold D cl h H) (hx : h.1 a = some x) : va_P D cl [(a, x)] H := by
  intro k q hk
  cases k with
  | zero =>
    simp only [List.getElem?_cons_zero, Option.some.injEq] at hk
    subst hk
    exact hh.2 a x hx
  | succ k => simp at hk
theorem jdom_w {h : jH} {a : Nat} {x : va_E} {A : Nat → Prop} (hA : ∀ q, h.1 q ≠ none → A q) (ha : A a) : ∀ q, (jW h a x).1 q ≠ none → A q := by
  intro q hq
  simp only [va_up] at hq
  by_cases hqa : q = a
  · rw [hqa]; exact ha
  · rw [if_neg hqa] at hq
    exact hA q hq
theorem jdom_n {h : jH} {x : va_E} {A : Nat → Prop} (hA : ∀ q, h.1 q ≠ none → A q) (ha : A h.2) : ∀ q, (jN h x).1 q ≠ none → A q := by
  intro q hq
  simp only [va_up] at hq
  by_cases hqa : q = h.2
  · rw [hqa]; exact ha
  · rw [if_neg hqa] at hq
    exact hA q hq
theorem j_get {i ci k a : Nat} {fs : List Value} {v : Value} (hd : jd u pc (.getfield i) 3) (hf : jF G u.1.cls i ci k) (hr : h.1 a = some (.inr (ci, fs))) (hv : fs[k]? = some v) (kk : J G Z u d Q n sn (pc + 3) lc (v :: st) h) : J G Z u d Q n sn pc lc (.ref a :: st) h := by
  intro p e R s m args below meth c H locs cells slots A mc ms ls X Y
  obtain ⟨C, T, N, hc, hk, hin, hlw⟩ := hf
  exact va_get (D := G.2.1) (ci := ci) (v := v) (C := C) (T := T) (N := N) X.1 X.2.1 X.2.2.2.2.1 hin X.2.2.2.1 X.2.2.2.2.2.2.2.2.2.2.2.2.1 (Y.2.2.2.1.P hr) 0 rfl hc k hk (X.2.2.2.2.1 _ hlw) (fun _ h9 => h9) hv hd (kk p e R s m args below meth c H locs cells slots A mc ms ls X Y)
theorem j_put {i ci k a : Nat} {fs : List Value} {v : Value} {ty : FieldType} (hd : jd u pc (.putfield i) 3) (hp : jPf G u.1.cls i ci k ty false) (hr : h.1 a = some (.inr (ci, fs))) (hn : narrow ty v = v) (hf : fits ty v = true) (hl : k < fs.length) (kk : J G Z u d Q n sn (pc + 3) lc st (jW h a (.inr (ci, fs.set k v)))) : J G Z u d Q n sn pc lc (v :: .ref a :: st) h := by
  intro p e R s m args below meth c H locs cells slots A mc ms ls X Y
  obtain ⟨C, T, N, ty0, hc, hk, hin, hlw, hty, hnm, hfin, hd0, -⟩ := hp
  have X0 := X
  obtain ⟨hx, hb, hml, hown, hts, hrt, hlk, hnme, hfr, hlo, hmc, hms, hK, hA, hE, hZ⟩ := X
  obtain ⟨y1, y2, y3, y4, y5, y6⟩ := Y
  have hap := va_apart (own := u.1.cls) hts hin ty0 hty hnm hK hc
  obtain ⟨r, h1, cell, q1, q2, q3, q4⟩ := y4.2 a _ hr
  have hr' : r = (C, T, N) := Option.some.inj (h1.symm.trans hc)
  subst hr'
  obtain ⟨hS, hfc, kC, hkC, hkind⟩ := hK.1 ci _ hc
  obtain ⟨cf, kf, fi, f, hi, hsl⟩ := hS k hk
  have hlay := hts _ (hin _ (u_in_lay hk))
  unfold u_lay at hlay
  rw [if_neg (by rw [hfin]; decide)] at hlay
  have hst := (u_facts hfc hkC (u_lays hts hin hk) hi).1
  have h6 := u_store hfc hkC hkind hlay hi hd0 hn hf
  refine W.putK hx hb (f := f) ⟨hown, hts _ hlw, ⟨_, _, _, hi⟩, hst⟩ (by rw [q2]; exact h6) q1 q3 (by rw [hsl]; exact k2_hasslot (q4 k hk)) rfl rfl hd fun H' e1 e2 e3 => ?_
  have ha : A a := y6 a (by rw [hr]; simp)
  rw [hsl] at e1
  exact kk p e R s m args below meth c H' _ cells slots A mc ms ls X0 ⟨y1, y2, y3, y4.w ⟨_, hc, t_OB.to (V := updV (vp_V fs) k v) ⟨_, e1, q2, q3, t_set q4 hap hk v⟩ (fun j _ => vp_updV_set hl v j)⟩ e2 e3, y5.put e2 e3 ha, jdom_w y6 ha⟩
theorem j_putF {i ci k a : Nat} {fs : List Value} {v : Value} {ty : FieldType} (hd : jd u pc (.putfield i) 3) (hp : jPf G u.1.cls i ci k ty true) (hin0 : u.1.name = "<init>") (hr : h.1 a = some (.inr (ci, fs))) (hn : narrow ty v = v) (hf : fits ty v = true) (hl : k < fs.length) (kk : J G Z u d Q n sn (pc + 3) lc st (jW h a (.inr (ci, fs.set k v)))) : J G Z u d Q n sn pc lc (v :: .ref a :: st) h := by
  intro p e R s m args below meth c H locs cells slots A mc ms ls X Y
  obtain ⟨C, T, N, ty0, hc, hk, hin, hlw, hty, hnm, hfin, hd0, hdecl⟩ := hp
  have X0 := X
  obtain ⟨hx, hb, hml, hown, hts, hrt, hlk, hnme, hfr, hlo, hmc, hms, hK, hA, hE, hZ⟩ := X
  obtain ⟨y1, y2, y3, y4, y5, y6⟩ := Y
  have hap := va_apart (own := u.1.cls) hts hin ty0 hty hnm hK hc
  obtain ⟨r, h1, cell, q1, q2, q3, q4⟩ := y4.2 a _ hr
  have hr' : r = (C, T, N) := Option.some.inj (h1.symm.trans hc)
  subst hr'
  obtain ⟨hS, hfc, kC, hkC, hkind⟩ := hK.1 ci _ hc
  obtain ⟨cf, kf, fi, f, hi, hsl⟩ := hS k hk
  have hlay := hts _ (hin _ (u_in_lay hk))
  unfold u_lay at hlay
  rw [if_pos hfin] at hlay
  have hst := (u_facts hfc hkC (u_lays hts hin hk) hi).1
  have hcf : m.cls = cf := by
    obtain ⟨_, _, c', _, _, _, -, -, hf', -, -, -, hown2, -⟩ := Cond.laysFinal_spec hlay
    have e1 : c' = cf := by have := hi.symm.trans hf'; simp at this; exact this.1.symm
    rw [hdecl] at hown2
    rw [← e1]; exact Option.some.inj (hown.symm.trans hown2)
  have h6 := u_fits hfc hkC hkind (Or.inr hlay) hi hd0 hn hf
  refine W.putFinK hx hb hown (hts _ hlw) hi hst hcf (hnme.trans hin0) (by rw [q2]; exact h6) q1 q3 (by rw [hsl]; exact k2_hasslot (q4 k hk)) rfl rfl hd fun H' e1 e2 e3 => ?_
  have ha : A a := y6 a (by rw [hr]; simp)
  rw [hsl] at e1
  exact kk p e R s m args below meth c H' _ cells slots A mc ms ls X0 ⟨y1, y2, y3, y4.w ⟨_, hc, t_OB.to (V := updV (vp_V fs) k v) ⟨_, e1, q2, q3, t_set q4 hap hk v⟩ (fun j _ => vp_updV_set hl v j)⟩ e2 e3, y5.put e2 e3 ha, jdom_w y6 ha⟩
/-! arrays -/
abbrev jIA (c : ClassId) (N : Nat) (f : Nat → Int32) : va_E := .inl (c, N, .inl f)
abbrev jRA (c : ClassId) (N : Nat) (f : Nat → Option Nat) : va_E := .inl (c, N, .inr (.inr (.inr (.inr f))))
theorem j_iald {a t N j : Nat} {cA : ClassId} {f : Nat → Int32} {x : Int32} (hd : jd u pc .iaload 1) (ht : G.2.2.2.1[t]? = some (cA, .int)) (hr : h.1 a = some (jIA cA N f)) (hx : x = nI j) (hj : j < N) (hN : N < 2 ^ 31) (kk : J G Z u d Q n sn (pc + 1) lc (.int (f j) :: st) h) : J G Z u d Q n sn pc lc (.int x :: .ref a :: st) h := by
  intro p e R s m args below meth c H locs cells slots A mc ms ls X Y
  subst hx
  have hk := kk p e R s m args below meth c H locs cells slots A mc ms ls X Y
  rw [← nI_clamp (show j < 2 ^ 31 by omega)] at hk
  exact va_iald X.1 X.2.1 X.2.2.2.2.2.2.2.2.2.2.2.2.1 (Y.2.2.2.1.P hr) 0 t rfl ht (vp_in_nI hj hN) hd hk
theorem j_iast {a t N j : Nat} {cA : ClassId} {f : Nat → Int32} {x y : Int32} (hd : jd u pc .iastore 1) (ht : G.2.2.2.1[t]? = some (cA, .int)) (hr : h.1 a = some (jIA cA N f)) (hx : x = nI j) (hj : j < N) (hN : N < 2 ^ 31) (kk : J G Z u d Q n sn (pc + 1) lc st (jW h a (jIA cA N (upd f j y)))) : J G Z u d Q n sn pc lc (.int y :: .int x :: .ref a :: st) h := by
  intro p e R s m args below meth c H locs cells slots A mc ms ls X Y
  subst hx
  obtain ⟨y1, y2, y3, y4, y5, y6⟩ := Y
  have ha : A a := y6 a (by rw [hr]; simp)
  have hin := vp_in_nI hj hN
  have hcl := nI_clamp (show j < 2 ^ 31 by omega)
  refine W.iast X.1 X.2.1 (y4.2 a _ hr) ((X.2.2.2.2.2.2.2.2.2.2.2.2.1.2 t _ ht).1 N (fun j => .int (f j))) (fun q => by cases q) (by show ¬ (nI j < 0 ∨ (arrV _ _ _).slots.size ≤ _); rw [arrV_size]; exact hin) rfl rfl hd fun H1 e1 z oq => ?_
  refine kk p e R s m args below meth c H1 _ cells slots A mc ms ls X ⟨y1, y2, y3, y4.w ?_ z oq, y5.put z oq ha, jdom_w y6 ha⟩
  show H1[a]? = some (vp_cell _ _)
  rw [e1]
  rw [vp_cell_i, vp_cell_i, arrV_store, hcl]
  congr 2
  funext q
  by_cases hq : q = j
  · subst hq
    simp [updV, upd]
  · simp [updV, upd, hq]
theorem j_alen {a t : Nat} {cA : ClassId} {x : vp_A} {ty : FieldType} {v : Int32} (hd : jd u pc .arraylength 1) (ht : G.2.2.2.1[t]? = some (cA, ty)) (hr : h.1 a = some (.inl (cA, x))) (hv : Int32.ofNat x.1 = v) (kk : J G Z u d Q n sn (pc + 1) lc (.int v :: st) h) : J G Z u d Q n sn pc lc (.ref a :: st) h := by
  intro p e R s m args below meth c H locs cells slots A mc ms ls X Y
  exact va_alen X.1 X.2.1 X.2.2.2.2.2.2.2.2.2.2.2.2.1 (Y.2.2.2.1.P hr) 0 t rfl ht hv hd (kk p e R s m args below meth c H locs cells slots A mc ms ls X Y)
theorem j_aald {a t N j : Nat} {cA : ClassId} {C : String} {f : Nat → Option Nat} {x : Int32} (hd : jd u pc .aaload 1) (ht : G.2.2.2.1[t]? = some (cA, .object C)) (hr : h.1 a = some (jRA cA N f)) (hx : x = nI j) (hj : j < N) (hN : N < 2 ^ 31) (kk : J G Z u d Q n sn (pc + 1) lc (va_rf (f j) :: st) h) : J G Z u d Q n sn pc lc (.int x :: .ref a :: st) h := by
  intro p e R s m args below meth c H locs cells slots A mc ms ls X Y
  subst hx
  have hk := kk p e R s m args below meth c H locs cells slots A mc ms ls X Y
  rw [← nI_clamp (show j < 2 ^ 31 by omega)] at hk
  exact va_aldq X.1 X.2.1 X.2.2.2.2.2.2.2.2.2.2.2.2.1 (Y.2.2.2.1.P hr) 0 t rfl ht (vp_in_nI hj hN) hd hk
theorem j_aast {a t N j v ci : Nat} {cA : ClassId} {r : vw_C} {vs : List Value} {f : Nat → Option Nat} {x : Int32} (hd : jd u pc .aastore 1) (ht : G.2.2.2.1[t]? = some (cA, .object r.1)) (hr : h.1 a = some (jRA cA N f)) (hv : h.1 v = some (.inr (ci, vs))) (hc : G.2.2.1[ci]? = some r) (hx : x = nI j) (hj : j < N) (hN : N < 2 ^ 31) (kk : J G Z u d Q n sn (pc + 1) lc st (jW h a (jRA cA N (va_up f j (some v))))) : J G Z u d Q n sn pc lc (.ref v :: .int x :: .ref a :: st) h := by
  intro p e R s m args below meth c H locs cells slots A mc ms ls X Y
  subst hx
  obtain ⟨y1, y2, y3, y4, y5, y6⟩ := Y
  have ha : A a := y6 a (by rw [hr]; simp)
  have hK := X.2.2.2.2.2.2.2.2.2.2.2.2.1
  have hcl' := nI_clamp (show j < 2 ^ 31 by omega)
  have h0 : ¬ nI j < 0 := nI_pos (by omega)
  obtain ⟨r', hr', cellV, g1, g2, g3, -⟩ := y4.2 v _ hv
  have hcls := (hK.1 ci r hc).2
  obtain ⟨kA, comp, k1, k2, k3, -⟩ := (hK.2 t _ ht).2
  have hcomp : comp = G.2.1.1 ci := Option.some.inj (k3.symm.trans hcls.1)
  subst hcomp
  obtain ⟨kC, hkC, -⟩ := hcls.2
  refine W.aast X.1 X.2.1 (y4.2 a _ hr) (fun q h => by cases h) (fun h => by cases h) k1 k2 rfl hkC ⟨h0, by show _ < (arrV _ _ _).slots.size; rw [arrV_size, hcl']; exact hj⟩ g1 (fun q h => by rw [g3] at h; cases h) (by rw [g2]; exact hkC) (by rw [g2]; exact va_assign hcls) rfl rfl hd fun H1 e1 z oq => ?_
  refine kk p e R s m args below meth c H1 _ cells slots A mc ms ls X ⟨y1, y2, y3, y4.w ?_ z oq, y5.put z oq ha, jdom_w y6 ha⟩
  show H1[a]? = some (vp_cell _ _)
  rw [e1]
  rw [vp_cell_q, vp_cell_q, arrV_store, hcl']
  congr 2
  funext q
  by_cases hq : q = j
  · subst hq
    simp [updV, va_up, va_rf]
  · simp [updV, va_up, hq]
theorem j_aastN {a t N j : Nat} {cA : ClassId} {C : String} {f : Nat → Option Nat} {x : Int32} (hd : jd u pc .aastore 1) (ht : G.2.2.2.1[t]? = some (cA, .object C)) (hr : h.1 a = some (jRA cA N f)) (hx : x = nI j) (hj : j < N) (hN : N < 2 ^ 31) (kk : J G Z u d Q n sn (pc + 1) lc st (jW h a (jRA cA N (va_up f j none)))) : J G Z u d Q n sn pc lc (.null :: .int x :: .ref a :: st) h := by
  intro p e R s m args below meth c H locs cells slots A mc ms ls X Y
  subst hx
  obtain ⟨y1, y2, y3, y4, y5, y6⟩ := Y
  have ha : A a := y6 a (by rw [hr]; simp)
  have hin := vp_in_nI hj hN
  have hcl' := nI_clamp (show j < 2 ^ 31 by omega)
  refine va_WaastN (C := C) X.1 X.2.1 (y4.2 a _ hr) ((X.2.2.2.2.2.2.2.2.2.2.2.2.1.2 t _ ht).1 N (fun j => va_rf (f j))) (fun q => by cases q) (by show ¬ (nI j < 0 ∨ (arrV _ _ _).slots.size ≤ _); rw [arrV_size]; exact hin) rfl rfl hd fun H1 e1 z oq => ?_
  refine kk p e R s m args below meth c H1 _ cells slots A mc ms ls X ⟨y1, y2, y3, y4.w ?_ z oq, y5.put z oq ha, jdom_w y6 ha⟩
  show H1[a]? = some (vp_cell _ _)
  rw [e1]
  rw [vp_cell_q, vp_cell_q, arrV_store, hcl']
  congr 2
  funext q
  by_cases hq : q = j
  · subst hq
    simp [updV, va_up, va_rf]
  · simp [updV, va_up, hq]
abbrev jLA (c : ClassId) (N : Nat) (f : Nat → Int64) : va_E := .inl (c, N, .inr (.inl f))
theorem j_lald {a t N j : Nat} {cA : ClassId} {f : Nat → Int64} {x : Int32} (hd : jd u pc .laload 1) (ht : G.2.2.2.1[t]? = some (cA, .long)) (hr : h.1 a = some (jLA cA N f)) (hx : x = nI j) (hj : j < N) (hN : N < 2 ^ 31) (kk : J G Z u d Q n sn (pc + 1) lc (.long (f j) :: st) h) : J G Z u d Q n sn pc lc (.int x :: .ref a :: st) h := by
  intro p e R s m args below meth c H locs cells slots A mc ms ls X Y
  subst hx
  have hk := kk p e R s m args below meth c H locs cells slots A mc ms ls X Y
  rw [← nI_clamp (show j < 2 ^ 31 by omega)] at hk
  exact va_lald X.1 X.2.1 X.2.2.2.2.2.2.2.2.2.2.2.2.1 (Y.2.2.2.1.P hr) 0 t rfl ht (vp_in_nI hj hN) hd hk
theorem j_last {a t N j : Nat} {cA : ClassId} {f : Nat → Int64} {x : Int32} {y : Int64} (hd : jd u pc .lastore 1) (ht : G.2.2.2.1[t]? = some (cA, .long)) (hr : h.1 a = some (jLA cA N f)) (hx : x = nI j) (hj : j < N) (hN : N < 2 ^ 31) (kk : J G Z u d Q n sn (pc + 1) lc st (jW h a (jLA cA N (vp_updL f j y)))) : J G Z u d Q n sn pc lc (.long y :: .int x :: .ref a :: st) h := by
  intro p e R s m args below meth c H locs cells slots A mc ms ls X Y
  subst hx
  obtain ⟨y1, y2, y3, y4, y5, y6⟩ := Y
  have ha : A a := y6 a (by rw [hr]; simp)
  have hin := vp_in_nI hj hN
  have hcl := nI_clamp (show j < 2 ^ 31 by omega)
  refine W.last X.1 X.2.1 (y4.2 a _ hr) ((X.2.2.2.2.2.2.2.2.2.2.2.2.1.2 t _ ht).1 N (fun j => .long (f j))) (fun q => by cases q) (by show ¬ (nI j < 0 ∨ (arrV _ _ _).slots.size ≤ _); rw [arrV_size]; exact hin) rfl rfl hd fun H1 e1 z oq => ?_
  refine kk p e R s m args below meth c H1 _ cells slots A mc ms ls X ⟨y1, y2, y3, y4.w ?_ z oq, y5.put z oq ha, jdom_w y6 ha⟩
  show H1[a]? = some (vp_cell _ _)
  rw [e1]
  rw [vp_cell_l, vp_cell_l, arrV_store, hcl]
  congr 2
  funext q
  by_cases hq : q = j
  · subst hq
    simp [updV, vp_updL]
  · simp [updV, vp_updL, hq]
theorem j_zald {a t N j : Nat} {cA : ClassId} {f : Nat → Int32} {x : Int32} (hd : jd u pc .baload 1) (ht : G.2.2.2.1[t]? = some (cA, .boolean)) (hr : h.1 a = some (jIA cA N f)) (hx : x = nI j) (hj : j < N) (hN : N < 2 ^ 31) (kk : J G Z u d Q n sn (pc + 1) lc (.int (f j) :: st) h) : J G Z u d Q n sn pc lc (.int x :: .ref a :: st) h := by
  intro p e R s m args below meth c H locs cells slots A mc ms ls X Y
  subst hx
  have hk := kk p e R s m args below meth c H locs cells slots A mc ms ls X Y
  rw [← nI_clamp (show j < 2 ^ 31 by omega)] at hk
  exact va_zald X.1 X.2.1 X.2.2.2.2.2.2.2.2.2.2.2.2.1 (Y.2.2.2.1.P hr) 0 t rfl ht (vp_in_nI hj hN) hd hk
theorem j_zast {a t N j : Nat} {cA : ClassId} {f : Nat → Int32} {x y : Int32} (hd : jd u pc .bastore 1) (ht : G.2.2.2.1[t]? = some (cA, .boolean)) (hr : h.1 a = some (jIA cA N f)) (hx : x = nI j) (hj : j < N) (hN : N < 2 ^ 31) (hy : narrow .boolean (.int y) = .int y) (kk : J G Z u d Q n sn (pc + 1) lc st (jW h a (jIA cA N (upd f j y)))) : J G Z u d Q n sn pc lc (.int y :: .int x :: .ref a :: st) h := by
  intro p e R s m args below meth c H locs cells slots A mc ms ls X Y
  subst hx
  obtain ⟨y1, y2, y3, y4, y5, y6⟩ := Y
  have ha : A a := y6 a (by rw [hr]; simp)
  have hin := vp_in_nI hj hN
  have hcl := nI_clamp (show j < 2 ^ 31 by omega)
  refine W.zast X.1 X.2.1 (y4.2 a _ hr) ((X.2.2.2.2.2.2.2.2.2.2.2.2.1.2 t _ ht).1 N (fun j => .int (f j))) (fun q => by cases q) (by show ¬ (nI j < 0 ∨ (arrV _ _ _).slots.size ≤ _); rw [arrV_size]; exact hin) rfl rfl hd fun H1 e1 z oq => ?_
  refine kk p e R s m args below meth c H1 _ cells slots A mc ms ls X ⟨y1, y2, y3, y4.w ?_ z oq, y5.put z oq ha, jdom_w y6 ha⟩
  show H1[a]? = some (vp_cell _ _)
  rw [e1, hy]
  rw [vp_cell_i, vp_cell_i, arrV_store, hcl]
  congr 2
  funext q
  by_cases hq : q = j
  · subst hq
    simp [updV, upd]
  · simp [updV, upd, hq]
/-! new cells -/
def jNf (G : jG) (own : String) (i ci N : Nat) (fs : List Value) : Prop := ∃ (C : String) (T : u_T) (ty : Nat → FieldType), G.2.2.1[ci]? = some (C, T, N) ∧ (∀ w ∈ u_ws C T N, w ∈ G.2.2.2.2.1) ∧ Cond.classLink own i C ∈ G.2.2.2.2.1 ∧ Cond.instantiable C N ∈ G.2.2.2.2.1 ∧ Cond.initialized C ∈ G.2.2.2.2.1 ∧ (∀ j, j < N → parseFieldDescriptor (T j).2.2.1 = some (ty j)) ∧ ∀ j, j < N → defaultValue (ty j) = vp_V fs j
theorem jS_n {A : Nat → Prop} {H0 H H1 : Heap} {locs : List Loc} (hS : va_S A H0 H locs) (z : H1.size = H.size + 1) (o : ∀ q : Nat, q < H.size → H1[q]? = H[q]?) : va_S A H0 H1 locs :=
  ⟨Nat.le_trans hS.1 (by omega), fun x h1 h2 => (o x (Nat.lt_of_lt_of_le h1 hS.1)).trans (hS.2.1 x h1 h2), hS.2.2⟩
theorem j_new {i ci N : Nat} {fs : List Value} (hd : jd u pc (.new i) 3) (hf : jNf G u.1.cls i ci N fs) (kk : J G Z u d Q n sn (pc + 3) lc (.ref h.2 :: st) (jN h (.inr (ci, fs)))) : J G Z u d Q (n + 1) (sn + N) pc lc st h := by
  intro p e R s m args below meth c H locs cells slots A mc ms ls X Y
  obtain ⟨C, T, ty, hc, hin, hcl, hinst, hini, hty, hfs⟩ := hf
  have X0 := X
  obtain ⟨hx, hb, hml, hown, hts, hrt, hlk, hnme, hfr, hlo, hmc, hms, hK, hA, hE, hZ⟩ := X
  obtain ⟨y1, y2, y3, y4, y5, y6⟩ := Y
  have hKn := hK.1 ci _ hc
  refine W.newcK hx hb hown (hts _ hcl) (hts _ hinst) (hts _ hini) rfl hd (by omega) (by omega) hKn.2.1 rfl fun H1 kC hkC e1 z1 o1 => ?_
  have hz : h.2 = H.size := y4.1
  rw [← hz]
  exact kk p e R s m args below meth c H1 locs (cells + 1) (slots + N) A mc ms ls X0 ⟨by omega, by omega, y3, y4.n ⟨_, hc, (u_born ty hts hin hKn hkC e1 hty).to hfs⟩ z1 o1, jS_n y5 z1 o1, jdom_n y6 (hA _ (by rw [hz]; exact y5.1))⟩
theorem j_newi {t N : Nat} {cA : ClassId} {x : Int32} (hd : jd u pc (.newarray .int) 2) (ht : G.2.2.2.1[t]? = some (cA, .int)) (hw : Cond.arrayClass .int ∈ G.2.2.2.2.1) (hx : x = nI N) (hN : N < 100000) (kk : J G Z u d Q n sn (pc + 2) lc (.ref h.2 :: st) (jN h (jIA cA N (fun _ => 0)))) : J G Z u d Q (n + 1) (sn + N) pc lc (.int x :: st) h := by
  intro p e R s m args below meth c H locs cells slots A mc ms ls X Y
  subst hx
  have X0 := X
  obtain ⟨hx, hb, hml, hown, hts, hrt, hlk, hnme, hfr, hlo, hmc, hms, hK, hA, hE, hZ⟩ := X
  obtain ⟨y1, y2, y3, y4, y5, y6⟩ := Y
  have hz : h.2 = H.size := y4.1
  refine va_newaK (atype := .int) (N := N) hx hb (hts _ hw) rfl hd rfl (nI_pos (by omega)) (nI_clamp (by omega)) (by show N * 4 ≤ _; omega) (by omega) (by omega) rfl fun H1 cA' e1 z1 o1 hAr hNm => ?_
  have hcA : cA' = cA := Option.some.inj (hNm.symm.trans (hK.2 t _ ht).2)
  subst hcA
  rw [← hz]
  exact kk p e R s m args below meth c H1 locs (cells + 1) (slots + N) A mc ms ls X0 ⟨by omega, by omega, y3, y4.n e1 z1 o1, jS_n y5 z1 o1, jdom_n y6 (hA _ (by rw [hz]; exact y5.1))⟩
theorem j_newz {t N : Nat} {cA : ClassId} {x : Int32} (hd : jd u pc (.newarray .boolean) 2) (ht : G.2.2.2.1[t]? = some (cA, .boolean)) (hw : Cond.arrayClass .boolean ∈ G.2.2.2.2.1) (hx : x = nI N) (hN : N < 100000) (kk : J G Z u d Q n sn (pc + 2) lc (.ref h.2 :: st) (jN h (jIA cA N (fun _ => 0)))) : J G Z u d Q (n + 1) (sn + N) pc lc (.int x :: st) h := by
  intro p e R s m args below meth c H locs cells slots A mc ms ls X Y
  subst hx
  have X0 := X
  obtain ⟨hx, hb, hml, hown, hts, hrt, hlk, hnme, hfr, hlo, hmc, hms, hK, hA, hE, hZ⟩ := X
  obtain ⟨y1, y2, y3, y4, y5, y6⟩ := Y
  have hz : h.2 = H.size := y4.1
  refine va_newaK (atype := .boolean) (N := N) hx hb (hts _ hw) rfl hd rfl (nI_pos (by omega)) (nI_clamp (by omega)) (by show N * 1 ≤ _; omega) (by omega) (by omega) rfl fun H1 cA' e1 z1 o1 hAr hNm => ?_
  have hcA : cA' = cA := Option.some.inj (hNm.symm.trans (hK.2 t _ ht).2)
  subst hcA
  rw [← hz]
  exact kk p e R s m args below meth c H1 locs (cells + 1) (slots + N) A mc ms ls X0 ⟨by omega, by omega, y3, y4.n e1 z1 o1, jS_n y5 z1 o1, jdom_n y6 (hA _ (by rw [hz]; exact y5.1))⟩
theorem j_newl {t N : Nat} {cA : ClassId} {x : Int32} (hd : jd u pc (.newarray .long) 2) (ht : G.2.2.2.1[t]? = some (cA, .long)) (hw : Cond.arrayClass .long ∈ G.2.2.2.2.1) (hx : x = nI N) (hN : N < 100000) (kk : J G Z u d Q n sn (pc + 2) lc (.ref h.2 :: st) (jN h (jLA cA N (fun _ => 0)))) : J G Z u d Q (n + 1) (sn + N) pc lc (.int x :: st) h := by
  intro p e R s m args below meth c H locs cells slots A mc ms ls X Y
  subst hx
  have X0 := X
  obtain ⟨hx, hb, hml, hown, hts, hrt, hlk, hnme, hfr, hlo, hmc, hms, hK, hA, hE, hZ⟩ := X
  obtain ⟨y1, y2, y3, y4, y5, y6⟩ := Y
  have hz : h.2 = H.size := y4.1
  refine va_newaK (atype := .long) (N := N) hx hb (hts _ hw) rfl hd rfl (nI_pos (by omega)) (nI_clamp (by omega)) (by show N * 8 ≤ _; omega) (by omega) (by omega) rfl fun H1 cA' e1 z1 o1 hAr hNm => ?_
  have hcA : cA' = cA := Option.some.inj (hNm.symm.trans (hK.2 t _ ht).2)
  subst hcA
  rw [← hz]
  exact kk p e R s m args below meth c H1 locs (cells + 1) (slots + N) A mc ms ls X0 ⟨by omega, by omega, y3, y4.n e1 z1 o1, jS_n y5 z1 o1, jdom_n y6 (hA _ (by rw [hz]; exact y5.1))⟩
theorem j_newq {i t N : Nat} {cA : ClassId} {C : String} {x : Int32} (hd : jd u pc (.anewarray i) 3) (ht : G.2.2.2.1[t]? = some (cA, .object C)) (hw : Cond.classLink u.1.cls i C ∈ G.2.2.2.2.1) (ho : ∀ s, G.2.2.2.2.2 s → va_AO C s) (hx : x = nI N) (hN : N < 100000) (kk : J G Z u d Q n sn (pc + 3) lc (.ref h.2 :: st) (jN h (jRA cA N (fun _ => none)))) : J G Z u d Q (n + 1) (sn + N) pc lc (.int x :: st) h := by
  intro p e R s m args below meth c H locs cells slots A mc ms ls X Y
  subst hx
  have X0 := X
  obtain ⟨hx, hb, hml, hown, hts, hrt, hlk, hnme, hfr, hlo, hmc, hms, hK, hA, hE, hZ⟩ := X
  obtain ⟨y1, y2, y3, y4, y5, y6⟩ := Y
  have hz : h.2 = H.size := y4.1
  have hcl : (nI N).toNatClampNeg = N := nI_clamp (by omega)
  refine W.anew hx hb hown (hts _ hw) (va_AO.use (ho s hE)) rfl hd rfl (nI_pos (by omega)) (by rw [hcl]; omega) (by omega) (by rw [hcl]; omega) fun cA' kA comp f1 f2 f3 f4 => ?_
  rw [hcl]
  generalize hH1 : H.push ({ cls := cA', slots := Array.replicate N .null, vm := .none } : Cell) = H1
  have z1 : H1.size = H.size + 1 := by rw [← hH1, Array.size_push]
  have e1 : H1[H.size]? = some (arrV cA' N (fun _ => .null)) := by rw [← hH1, Array.getElem?_push_size, ← arrV_new]
  have o1 : ∀ q : Nat, q < H.size → H1[q]? = H[q]? := fun q hq => by rw [← hH1, Array.getElem?_push, if_neg (Nat.ne_of_lt hq)]
  obtain ⟨kA', comp', k1, k2, k3, k4⟩ := (hK.2 t _ ht).2
  have hcA : cA' = cA := Option.some.inj (f1.symm.trans k4)
  subst hcA
  rw [← hz]
  exact kk p e R s m args below meth c H1 locs (cells + 1) (slots + N) A mc ms ls X0 ⟨by omega, by omega, y3, y4.n e1 z1 o1, jS_n y5 z1 o1, jdom_n y6 (hA _ (by rw [hz]; exact y5.1))⟩
/-! the end -/
theorem j_iret {v : Int32} (hd : jd u pc .ireturn 1) (hr : u.2.2.2 = some .int) (hq : Q (some (.int v)) h) : J G Z u d Q n sn pc lc [.int v] h := by
  intro p e R s m args below meth c H locs cells slots A mc ms ls X Y
  obtain ⟨y1, y2, y3, y4, y5, y6⟩ := Y
  refine W.widen (k := mc) (n := ms) (by omega) (by omega) ?_
  exact W.iret (v := v) X.1 X.2.1 (X.2.2.2.2.2.1.trans hr) (fun t ht hW => ⟨⟨_, h, rfl, hq, by rw [ht]; exact y4, y6⟩, y5.F ht⟩) y5.2.2 hd X.2.2.2.2.2.2.1
theorem j_zret {v : Int32} (hd : jd u pc .ireturn 1) (hr : u.2.2.2 = some .boolean) (hv : narrow .boolean (.int v) = .int v) (hq : Q (some (.int v)) h) : J G Z u d Q n sn pc lc [.int v] h := by
  intro p e R s m args below meth c H locs cells slots A mc ms ls X Y
  obtain ⟨y1, y2, y3, y4, y5, y6⟩ := Y
  refine W.widen (k := mc) (n := ms) (by omega) (by omega) ?_
  exact W.zret (v := v) X.1 X.2.1 (X.2.2.2.2.2.1.trans hr) hv (fun t ht hW => ⟨⟨_, h, rfl, hq, by rw [ht]; exact y4, y6⟩, y5.F ht⟩) y5.2.2 hd X.2.2.2.2.2.2.1
theorem j_vret (hd : jd u pc .return_ 1) (hr : u.2.2.2 = none) (hq : Q none h) : J G Z u d Q n sn pc lc [] h := by
  intro p e R s m args below meth c H locs cells slots A mc ms ls X Y
  obtain ⟨y1, y2, y3, y4, y5, y6⟩ := Y
  refine W.widen (k := mc) (n := ms) (by omega) (by omega) ?_
  exact W.vret X.1 X.2.1 (X.2.2.2.2.2.1.trans hr) (fun t ht hW => ⟨⟨_, h, rfl, hq, by rw [ht]; exact y4, y6⟩, y5.F ht⟩) y5.2.2 hd X.2.2.2.2.2.2.1
theorem j_aret {r : Option Nat} {C : String} (hd : jd u pc .areturn 1) (hr : u.2.2.2 = some (.object C)) (hq : Q (some (va_rf r)) h) : J G Z u d Q n sn pc lc [va_rf r] h := by
  intro p e R s m args below meth c H locs cells slots A mc ms ls X Y
  obtain ⟨y1, y2, y3, y4, y5, y6⟩ := Y
  refine W.widen (k := mc) (n := ms) (by omega) (by omega) ?_
  exact W.aret (v := va_rf r) X.1 X.2.1 (X.2.2.2.2.2.1.trans hr) (Or.inl ⟨C, rfl⟩) (by cases r with
    | none => exact Or.inl rfl
    | some a => exact Or.inr ⟨a, rfl⟩) (fun t ht hW => ⟨⟨_, h, rfl, hq, by rw [ht]; exact y4, y6⟩, y5.F ht⟩) y5.2.2 hd X.2.2.2.2.2.2.1
/-! calls -/
def jGood (G : jG) : Prop := ∀ w ∈ G.2.2.2.2.1, (w.onTables && w.keeps) = true ∨ ∃ ty, w = .arrayClass ty
def jCm (G : jG) (own : String) (i : Nat) (w : jMt) (np : Nat) : Prop := Cond.methodLink own i w.1 ∈ G.2.2.2.2.1 ∧ Cond.initialized w.1.cls ∈ G.2.2.2.2.1 ∧ Cond.code w.1 w.2.1 w.2.2.1 w.2.2.2 ∈ G.2.2.2.2.1 ∧ (w.1.cls ≠ "java/lang/invoke/MethodHandle" ∧ w.1.cls ≠ "java/lang/invoke/VarHandle" ∧ (parseMethodDescriptor w.1.desc).map (fun d => d.parameters.length) = some np) ∧ w.2.2.1 ≤ 21
def jCV (G : jG) (own : String) (i : Nat) (w : jMt) (np : Nat) : Prop := jCm G own i w np ∧ Cond.instanceMethod w.1 ∈ G.2.2.2.2.1 ∧ Cond.selects w.1.cls w.1 w.1 ∈ G.2.2.2.2.1
def jCS (G : jG) (own : String) (i : Nat) (w : jMt) (np : Nat) : Prop := jCm G own i w np ∧ Cond.static w.1 ∈ G.2.2.2.2.1
def jCI (G : jG) (own : String) (i : Nat) (w : jMt) (np : Nat) : Prop := jCm G own i w np ∧ Cond.instanceMethod w.1 ∈ G.2.2.2.2.1 ∧ w.1.name = "<init>" ∧ w.2.2.2 = none
theorem jgood_ws {w : jMt} (hg : jGood G) (hc : Cond.code w.1 w.2.1 w.2.2.1 w.2.2.2 ∈ G.2.2.2.2.1) : GoodIn G.2.2.2.2.1 (jws G w) := by
  intro x hx
  rcases List.mem_cons.mp hx with rfl | hx
  · exact ⟨hc, hg _ hc⟩
  · exact ⟨hx, hg _ hx⟩
theorem j_blind {av : List Value} {h : jH} (hE : jE G) : FrameBlind (va_Pc av (fun U => jHold G.2.1 G.2.2.1 h U.heap ∧ va_K G.2.1 G.2.2.1 G.2.2.2.1 U ∧ G.2.2.2.2.2 U)) := by
  intro a U g mk q
  obtain ⟨q0, q1, q2, q3⟩ := q
  exact ⟨q0, q1, va_K.moved (u := U) (U := U.calling g mk a) (Vm.Alike.refl U.vm) q2, hE.2 U g mk a q3⟩
theorem jA_in {A : Nat → Prop} {H0 H : Heap} {locs : List Loc} {h : jH} {D : va_G} {cl : List vw_C} (hh : jHold D cl h H) (hS : va_S A H0 H locs) (hA : ∀ q, H0.size ≤ q → A q) (hd : ∀ q, h.1 q ≠ none → A q) : ∀ q, jA h q → A q := by
  intro q hq
  rcases hq with hq | hq
  · exact hd q hq
  · refine hA q (Nat.le_trans hS.1 ?_)
    rw [← hh.1]; exact hq
theorem j_run {p : Program} {e : Env} {R : Room} {s : State} {m : MethodId} {args : Array Value} {below : List Frame} {meth : Method} {c : Code} {H : Heap} {locs : List Loc} {cells slots : Nat} {A : Nat → Prop} {mc ms : Nat} {ls : Array Slot} {n1 s1 : Nat} {Q1 : Option Value → jH → Prop} {a : Array Value} {rest st0 : List Value}
    (hr : va_Run p G.1 e R s m args below meth c H locs cells slots n1 s1 (F0 m pc ls st0) rest (jQc G Q1 (jA h) a) (jA h)) (X : jX G Z u d p R s m args meth c mc ms A) (Y : jY G u (n1 + n) (s1 + sn) lc h s H locs cells slots A mc ms ls)
    (kk : ∀ v h', Q1 v h' → J G Z u d Q n sn (pc + 3) lc (v.toList ++ rest) h') : W p G.1 e R s m args below meth c H locs cells slots (MQ below (jQc G Q A) args s mc ms A) (F0 m pc ls st0) := by
  intro T hT XX
  obtain ⟨v, st₀, t, T', L, h0, X', hL, e1, e2, ⟨⟨v', h', hv, hp, hh, hdm⟩, hz, hk⟩, stp⟩ := hr T hT XX
  cases hv
  rw [h0] at hz hk
  obtain ⟨y1, y2, y3, y4, y5, y6⟩ := Y
  have hAi := jA_in y4 y5 X.2.2.2.2.2.2.2.2.2.2.2.2.2.1 y6
  obtain ⟨t2, a1, b1⟩ := kk v h' hp p e R s m args below meth c T'.heap (locs ++ L) (cells + n1) (slots + s1) A mc ms ls X
    ⟨by omega, by omega, y3, by rw [e1]; exact hh, ⟨Nat.le_trans y5.1 (by rw [e1]; exact hz), fun q h1 h2 => by rw [e1, hk q (Nat.lt_of_lt_of_le h1 y5.1) (fun z => h2 (hAi q z))]; exact y5.2.1 q h1 h2, fun q hq => by
      rcases List.mem_append.mp hq with h | h
      · exact y5.2.2 q h
      · exact hAi _ (hL q h)⟩, fun q hq => hAi q (hdm q hq)⟩ T' rfl X'
  exact ⟨t2, stp t2 a1, b1⟩
theorem j_callV {i np d1 n1 s1 b ci : Nat} {w : jMt} {As rest : List Value} {Q1 : Option Value → jH → Prop} {vs : List Value} {r : vw_C} (hg : jGood G) (hE : jE G) (hd : jd u pc (.invokevirtual i) 3) (hc : jCV G u.1.cls i w np) (hst : st = As.reverse ++ .ref b :: rest) (hn : As.length = np) (hM : jM G w d1 n1 s1 (.ref b :: As) h Q1) (hb : h.1 b = some (.inr (ci, vs))) (hr : G.2.2.1[ci]? = some r) (hrc : r.1 = w.1.cls) (hdd : d1 + 1 ≤ d) (hrest : (rest.map fun v => v.category).sum ≤ 8)
    (kk : ∀ v h', Q1 v h' → J G Z u d Q n sn (pc + 3) lc (v.toList ++ rest) h') : J G Z u d Q (n1 + n) (s1 + sn) pc lc st h := by
  intro p e R s m args below meth c H locs cells slots A mc ms ls X Y
  obtain ⟨⟨hl, hini, hcode, hdm, hnl⟩, hinst, hsel⟩ := hc
  have hts := X.2.2.2.2.1
  have hK := X.2.2.2.2.2.2.2.2.2.2.2.2.1
  have hfr := X.2.2.2.2.2.2.2.2.1
  have hlo := X.2.2.2.2.2.2.2.2.2.1
  have hmc := X.2.2.2.2.2.2.2.2.2.2.1
  have hms := X.2.2.2.2.2.2.2.2.2.2.2.1
  have hgw : GoodIn G.2.2.2.2.1 (wsV u.1.cls i w.1.cls w.1 (jws G w)) := by
    intro x hx
    unfold wsV at hx
    rcases List.mem_append.mp hx with hx | hx
    · simp only [List.mem_cons, List.not_mem_nil, or_false] at hx
      rcases hx with rfl | rfl | rfl | rfl
      · exact ⟨hl, hg _ hl⟩
      · exact ⟨hinst, hg _ hinst⟩
      · exact ⟨hsel, hg _ hsel⟩
      · exact ⟨hini, hg _ hini⟩
    · exact jgood_ws hg hcode x hx
  have cw := cwV (R := R) (C := w.1.cls) (own := u.1.cls) (index := i) (ws := jws G w) (rm := { frames := d1, cells := n1, slots := s1, locals := 40 * d1 }) np hts hgw rfl rfl rfl ⟨rfl, hdm⟩ ⟨by show d1 + 1 ≤ _; omega, by show 8 + (w.2.2.1 + 11) + 40 * d1 ≤ _; omega⟩
  have hrv := va_recv (a := b) (q0 := 0) hK (Y.2.2.2.1.P hb) hr rfl
  rw [hrc] at hrv
  exact j_run (va_runV (As := As) (rest := rest) (b := b) ⟨X.1, X.2.1, X.2.2.1, X.2.2.2.1, hts⟩ hM cw ⟨j_blind hE, hrv, fun U hU hW => ⟨rfl, by rw [hU]; exact Y.2.2.2.1, va_K.moved hW.alike hK, hE.1 s U hW X.2.2.2.2.2.2.2.2.2.2.2.2.2.2.1⟩⟩ rfl hn Y.2.2.1.1 hst (lv_room hrest) hd ⟨by have := Y.1; omega, by have := Y.2.1; omega⟩) X Y kk
theorem j_callS {i np d1 n1 s1 : Nat} {w : jMt} {As rest : List Value} {Q1 : Option Value → jH → Prop} (hg : jGood G) (hE : jE G) (hd : jd u pc (.invokestatic i) 3) (hc : jCS G u.1.cls i w np) (hown : w.1.cls = u.1.cls) (hst : st = As.reverse ++ rest) (hn : As.length = np) (hM : jM G w d1 n1 s1 As h Q1) (hdd : d1 + 1 ≤ d) (hrest : (rest.map fun v => v.category).sum ≤ 8)
    (kk : ∀ v h', Q1 v h' → J G Z u d Q n sn (pc + 3) lc (v.toList ++ rest) h') : J G Z u d Q (n1 + n) (s1 + sn) pc lc st h := by
  intro p e R s m args below meth c H locs cells slots A mc ms ls X Y
  obtain ⟨⟨hl, hini, hcode, hdm, hnl⟩, hstat⟩ := hc
  have hts := X.2.2.2.2.1
  have hK := X.2.2.2.2.2.2.2.2.2.2.2.2.1
  have hfr := X.2.2.2.2.2.2.2.2.1
  have hlo := X.2.2.2.2.2.2.2.2.2.1
  have hmc := X.2.2.2.2.2.2.2.2.2.2.1
  have hms := X.2.2.2.2.2.2.2.2.2.2.2.1
  have hgw : GoodIn G.2.2.2.2.1 (wsS u.1.cls i w.1 (jws G w)) := by
    intro x hx
    unfold wsS at hx
    rcases List.mem_append.mp hx with hx | hx
    · simp only [List.mem_cons, List.not_mem_nil, or_false] at hx
      rcases hx with rfl | rfl | rfl
      · exact ⟨hl, hg _ hl⟩
      · exact ⟨hstat, hg _ hstat⟩
      · rw [← hown]; exact ⟨hini, hg _ hini⟩
    · exact jgood_ws hg hcode x hx
  have cw := cwS (R := R) (own := u.1.cls) (index := i) (ws := jws G w) (rm := { frames := d1, cells := n1, slots := s1, locals := 40 * d1 }) np hts hgw rfl rfl rfl ⟨hown, hdm⟩ ⟨by show d1 + 1 ≤ _; omega, by show 8 + (w.2.2.1 + 11) + 40 * d1 ≤ _; omega⟩
  exact j_run (va_runS (As := As) (rest := rest) ⟨X.1, X.2.1, X.2.2.1, X.2.2.2.1, hts⟩ hM cw ⟨j_blind hE, fun U hU hW => ⟨rfl, by rw [hU]; exact Y.2.2.2.1, va_K.moved hW.alike hK, hE.1 s U hW X.2.2.2.2.2.2.2.2.2.2.2.2.2.2.1⟩⟩ rfl hn Y.2.2.1.1 hst (lv_room hrest) hd ⟨by have := Y.1; omega, by have := Y.2.1; omega⟩) X Y kk
theorem j_callI {i np d1 n1 s1 b : Nat} {w : jMt} {As rest : List Value} {Q1 : Option Value → jH → Prop} (hg : jGood G) (hE : jE G) (hd : jd u pc (.invokespecial i) 3) (hc : jCI G u.1.cls i w np) (hst : st = As.reverse ++ .ref b :: rest) (hn : As.length = np) (hM : jM G w d1 n1 s1 (.ref b :: As) h Q1) (hdd : d1 + 1 ≤ d) (hrest : (rest.map fun v => v.category).sum ≤ 8)
    (kk : ∀ v h', Q1 v h' → J G Z u d Q n sn (pc + 3) lc (v.toList ++ rest) h') : J G Z u d Q (n1 + n) (s1 + sn) pc lc st h := by
  intro p e R s m args below meth c H locs cells slots A mc ms ls X Y
  obtain ⟨⟨hl, hini, hcode, hdm, hnl⟩, hinst, hnm, hret⟩ := hc
  have hts := X.2.2.2.2.1
  have hK := X.2.2.2.2.2.2.2.2.2.2.2.2.1
  have hfr := X.2.2.2.2.2.2.2.2.1
  have hlo := X.2.2.2.2.2.2.2.2.2.1
  have hmc := X.2.2.2.2.2.2.2.2.2.2.1
  have hms := X.2.2.2.2.2.2.2.2.2.2.2.1
  have cw := cwI (R := R) (own := u.1.cls) (index := i) (bytes := w.2.1) (maxL := w.2.2.1) (ws' := G.2.2.2.2.1) (ws := jws G w) (rm := { frames := d1, cells := n1, slots := s1, locals := 40 * d1 }) np hts (jgood_ws hg hcode) (by unfold jws; rw [hret]) rfl rfl (hts _ hini) (hts _ hl) (hts _ hinst) hnm hdm ⟨by show d1 + 1 ≤ _; omega, by show 8 + (w.2.2.1 + 11) + 40 * d1 ≤ _; omega⟩
  exact j_run (va_runI (As := As) (rest := rest) (b := b) ⟨X.1, X.2.1, X.2.2.1, X.2.2.2.1, hts⟩ hM cw ⟨j_blind hE, fun U hU hW => ⟨rfl, by rw [hU]; exact Y.2.2.2.1, va_K.moved hW.alike hK, hE.1 s U hW X.2.2.2.2.2.2.2.2.2.2.2.2.2.2.1⟩⟩ rfl hn Y.2.2.1.1 hst (lv_room hrest) hd ⟨by have := Y.1; omega, by have := Y.2.1; omega⟩) X Y kk
/-- a private constructor of a nest mate -/
def jCN (G : jG) (own : String) (i : Nat) (w : jMt) (host : String) (np : Nat) : Prop := (∀ s, G.2.2.2.2.2 s → va_Nw (.methodLinkNest own i w.1 host) s) ∧ Cond.initialized w.1.cls ∈ G.2.2.2.2.1 ∧ Cond.code w.1 w.2.1 w.2.2.1 w.2.2.2 ∈ G.2.2.2.2.1 ∧ (w.1.cls ≠ "java/lang/invoke/MethodHandle" ∧ w.1.cls ≠ "java/lang/invoke/VarHandle" ∧ (parseMethodDescriptor w.1.desc).map (fun d => d.parameters.length) = some np) ∧ w.2.2.1 ≤ 21 ∧ Cond.instanceMethod w.1 ∈ G.2.2.2.2.1 ∧ w.1.name = "<init>" ∧ w.2.2.2 = none
theorem j_callN {i np d1 n1 s1 b : Nat} {w : jMt} {host : String} {As rest : List Value} {Q1 : Option Value → jH → Prop} (hg : jGood G) (hE : jE G) (hd : jd u pc (.invokespecial i) 3) (hc : jCN G u.1.cls i w host np) (hst : st = As.reverse ++ .ref b :: rest) (hn : As.length = np) (hM : jM G w d1 n1 s1 (.ref b :: As) h Q1) (hdd : d1 + 1 ≤ d) (hrest : (rest.map fun v => v.category).sum ≤ 8)
    (kk : ∀ v h', Q1 v h' → J G Z u d Q n sn (pc + 3) lc (v.toList ++ rest) h') : J G Z u d Q (n1 + n) (s1 + sn) pc lc st h := by
  intro p e R s m args below meth c H locs cells slots A mc ms ls X Y
  obtain ⟨hl, hini, hcode, hdm, hnl, hinst, hnm, hret⟩ := hc
  have hts := X.2.2.2.2.1
  have hK := X.2.2.2.2.2.2.2.2.2.2.2.2.1
  have hfr := X.2.2.2.2.2.2.2.2.1
  have hlo := X.2.2.2.2.2.2.2.2.2.1
  have hmc := X.2.2.2.2.2.2.2.2.2.2.1
  have hms := X.2.2.2.2.2.2.2.2.2.2.2.1
  have cw := va_cnB (R := R) (own := u.1.cls) (index := i) (host := host) (y := w.1) (bytes := w.2.1) (maxL := w.2.2.1) (ret := none) (ws' := G.2.2.2.2.1) (ws := jws G w) (rm := { frames := d1, cells := n1, slots := s1, locals := 40 * d1 }) np hts (jgood_ws hg hcode) (by unfold jws; rw [hret]) rfl rfl (hl s X.2.2.2.2.2.2.2.2.2.2.2.2.2.2.1) (hts _ hini) hdm ⟨by show d1 + 1 ≤ _; omega, by show 8 + (w.2.2.1 + 11) + 40 * d1 ≤ _; omega⟩
  exact j_run (va_runIN (As := As) (rest := rest) (b := b) ⟨X.1, X.2.1, X.2.2.1, X.2.2.2.1, hts⟩ hM ⟨cw, hnm, hts _ hinst⟩ ⟨j_blind hE, fun U hU hW => ⟨rfl, by rw [hU]; exact Y.2.2.2.1, va_K.moved hW.alike hK, hE.1 s U hW X.2.2.2.2.2.2.2.2.2.2.2.2.2.2.1⟩⟩ rfl hn Y.2.2.1.1 hst (lv_room hrest) hd ⟨by have := Y.1; omega, by have := Y.2.1; omega⟩) X Y kk
/-- Math.max -/
theorem j_max {i : Nat} {x y : Int32} (hd : jd u pc (.invokestatic i) 3) (h1 : Cond.methodLink u.1.cls i Lib.Math.max.name ∈ G.2.2.2.2.1) (h2 : Cond.static Lib.Math.max.name ∈ G.2.2.2.2.1) (h3 : Cond.initialized "java/lang/Math" ∈ G.2.2.2.2.1) (h4 : Cond.code Lib.Math.max.name Lib.Math.max.code 2 (some .int) ∈ G.2.2.2.2.1) (hdd : 1 ≤ d) (hrest : (st.map fun v => v.category).sum ≤ 8) (kk : J G Z u d Q n sn (pc + 3) lc (.int (if x < y then y else x) :: st) h) : J G Z u d Q n sn pc lc (.int y :: .int x :: st) h := by
  intro p e R s m args below meth c H locs cells slots A mc ms ls X Y
  have hts := X.2.2.2.2.1
  have hfr := X.2.2.2.2.2.2.2.2.1
  have hlo := X.2.2.2.2.2.2.2.2.2.1
  have hmc := X.2.2.2.2.2.2.2.2.2.2.1
  have hms := X.2.2.2.2.2.2.2.2.2.2.2.1
  exact va_mmax X.1 X.2.1 (X.2.2.1.trans Y.2.2.1.1.symm) X.2.2.2.1 (hts _ h1) (hts _ h2) (hts _ h3) (hts _ h4) (by omega) (by omega) (by have := Y.1; omega) (by have := Y.2.1; omega) hd (kk p e R s m args below meth c H locs cells slots A mc ms ls X Y)
/-- Object.<init> -/
theorem j_objInit {i b : Nat} (hd : jd u pc (.invokespecial i) 3) (h1 : Cond.methodLink u.1.cls i Lib.objectInit ∈ G.2.2.2.2.1) (h2 : Cond.instanceMethod Lib.objectInit ∈ G.2.2.2.2.1) (h3 : Cond.code Lib.objectInit ⟨#[0xb1]⟩ 1 none ∈ G.2.2.2.2.1) (hdd : 1 ≤ d) (kk : J G Z u d Q n sn (pc + 3) lc [] h) : J G Z u d Q n sn pc lc [.ref b] h := by
  intro p e R s m args below meth c H locs cells slots A mc ms ls X Y
  have hts := X.2.2.2.2.1
  have hfr := X.2.2.2.2.2.2.2.2.1
  have hlo := X.2.2.2.2.2.2.2.2.2.1
  refine W.objInit X.1 X.2.1 X.2.2.2.1 (hts _ h1) (hts _ h2) (hts _ h3) rfl (by rw [X.2.2.1]; exact Y.2.2.1.1) rfl hd (by omega) (by show 2 * 0 + 0 + 12 ≤ _; omega) ?_
  exact kk p e R s m args below meth c H locs cells slots A mc ms ls X Y
/-- a contract out of a walk -/
theorem jM.of {av : List Value} {lc0 : List (Option Value)} (hy : plainName u.1.cls = true) (hlen : (jent av).length ≤ u.2.2.1) (hlc : jent av ++ List.replicate (u.2.2.1 - (jent av).length) none = lc0) (body : J G jT u d Q n sn 0 lc0 [] h) : jM G u d n sn av h Q := by
  refine Met.ofW (cc := u.2.1) (maxL := u.2.2.1) (ret := u.2.2.2) hy rfl ?_
  intro p e s m args below meth c s₁ B hml hv
  obtain ⟨rfl, hh, hK, hE⟩ := hv
  have hts := atoms_spec (ws := jws G u) B.pre
  have hl := lv_entry av (n := u.2.2.1) (by rw [← jent_len]; exact hlen)
  rw [lg_entry_eq]
  exact body p e _ s m av.toArray below meth c s.heap [] 0 0 (jA h) n sn _ ⟨B.exec, B.bytes, hml, findClass_of_methodNamed B.named, fun w hw => hts w (List.mem_cons_of_mem _ hw), B.returns, B.notSynchronized, (name_of_methodNamed B.named B.method).1, Nat.le_refl _, Nat.le_refl _, Nat.le_refl _, Nat.le_refl _, hK, fun q hq => Or.inr (by rw [hh.1]; exact hq), hE, trivial⟩
    ⟨by omega, by omega, jL.entry hl hlc, hh, va_S.rf, fun q hq => Or.inl hq⟩

/-- the script, read -/
def jScr (b L : Nat) (xs : Nat → Int32) : State → (Nat → Prop) → Prop := fun s A => va_X b L xs s s.heap ∧ b < s.heap.size ∧ ¬ A b
theorem j_sld {b L j : Nat} {xs : Nat → Int32} {x : Int32} (hd : jd u pc .iaload 1) (hx : x = nI j) (hj : j < L) (hL : L < 2 ^ 31) (kk : J G (jScr b L xs) u d Q n sn (pc + 1) lc (.int (xs j) :: st) h) : J G (jScr b L xs) u d Q n sn pc lc (.int x :: .ref b :: st) h := by
  intro p e R s m args below meth c H locs cells slots A mc ms ls X Y
  subst hx
  have hk := kk p e R s m args below meth c H locs cells slots A mc ms ls X Y
  rw [← nI_clamp (show j < 2 ^ 31 by omega)] at hk
  obtain ⟨z1, z2, z3⟩ := X.2.2.2.2.2.2.2.2.2.2.2.2.2.2.2
  exact va_sld X.1 X.2.1 z1 z2 z3 Y.2.2.2.2.1 (vp_in_nI hj hL) hd hk
theorem j_slen {b L : Nat} {xs : Nat → Int32} (hd : jd u pc .arraylength 1) (kk : J G (jScr b L xs) u d Q n sn (pc + 1) lc (.int (nI L) :: st) h) : J G (jScr b L xs) u d Q n sn pc lc (.ref b :: st) h := by
  intro p e R s m args below meth c H locs cells slots A mc ms ls X Y
  obtain ⟨z1, z2, z3⟩ := X.2.2.2.2.2.2.2.2.2.2.2.2.2.2.2
  exact va_slen X.1 X.2.1 z1 z2 z3 Y.2.2.2.2.1 hd (kk p e R s m args below meth c H locs cells slots A mc ms ls X Y)
end JROWS