/-! names, field tables, words by their places: laid by program (wip/whole/gen_names.py) -/
def R_Ch : String := "ShardLedger$Choice"
def F_Ch : u_T := fun k => match k with
  | 0 => ("ShardLedger$Choice", "request", "I", false)
  | _ => ("ShardLedger$Choice", "round", "I", false)
def t_Ch : Nat → FieldType := fun k => match k with
  | 0 => .int
  | _ => .int
theorem nm_Ch : ∀ a, a < 2 → ∀ b, b < 2 → a ≠ b → (F_Ch a).2.1 ≠ (F_Ch b).2.1 := by decide +kernel
theorem ty_Ch : ∀ k, k < 2 → parseFieldDescriptor (F_Ch k).2.2.1 = some (t_Ch k) := by decide +kernel
def R_Ho : String := "ShardLedger$Holdings"
def F_Ho : u_T := fun k => match k with
  | 0 => ("ShardLedger$Holdings", "shard", "I", true)
  | 1 => ("ShardLedger$Holdings", "transactions", "LShardLedger$TransactionBook;", true)
  | 2 => ("ShardLedger$Holdings", "states", "[I", true)
  | _ => ("ShardLedger$Holdings", "lockers", "[I", true)
def t_Ho : Nat → FieldType := fun k => match k with
  | 0 => .int
  | 1 => .object "ShardLedger$TransactionBook"
  | 2 => .array .int
  | _ => .array .int
theorem nm_Ho : ∀ a, a < 4 → ∀ b, b < 4 → a ≠ b → (F_Ho a).2.1 ≠ (F_Ho b).2.1 := by decide +kernel
theorem ty_Ho : ∀ k, k < 4 → parseFieldDescriptor (F_Ho k).2.2.1 = some (t_Ho k) := by decide +kernel
def R_In : String := "ShardLedger$Inbox"
def F_In : u_T := fun k => match k with
  | _ => ("ShardLedger$Inbox", "slots", "[LShardLedger$Message;", true)
def t_In : Nat → FieldType := fun k => match k with
  | _ => .array (.object "ShardLedger$Message")
theorem nm_In : ∀ a, a < 1 → ∀ b, b < 1 → a ≠ b → (F_In a).2.1 ≠ (F_In b).2.1 := by decide +kernel
theorem ty_In : ∀ k, k < 1 → parseFieldDescriptor (F_In k).2.2.1 = some (t_In k) := by decide +kernel
def R_Me : String := "ShardLedger$Message"
def F_Me : u_T := fun k => match k with
  | 0 => ("ShardLedger$Message", "kind", "I", true)
  | 1 => ("ShardLedger$Message", "sender", "I", true)
  | 2 => ("ShardLedger$Message", "height", "I", true)
  | 3 => ("ShardLedger$Message", "round", "I", true)
  | 4 => ("ShardLedger$Message", "request", "I", true)
  | 5 => ("ShardLedger$Message", "candidateRound", "I", true)
  | _ => ("ShardLedger$Message", "takers", "I", false)
def t_Me : Nat → FieldType := fun k => match k with
  | 0 => .int
  | 1 => .int
  | 2 => .int
  | 3 => .int
  | 4 => .int
  | 5 => .int
  | _ => .int
theorem nm_Me : ∀ a, a < 7 → ∀ b, b < 7 → a ≠ b → (F_Me a).2.1 ≠ (F_Me b).2.1 := by decide +kernel
theorem ty_Me : ∀ k, k < 7 → parseFieldDescriptor (F_Me k).2.2.1 = some (t_Me k) := by decide +kernel
def R_Lo : String := "ShardLedger$MessageLog"
def F_Lo : u_T := fun k => match k with
  | 0 => ("ShardLedger$MessageLog", "sent", "[LShardLedger$Message;", true)
  | _ => ("ShardLedger$MessageLog", "count", "I", false)
def t_Lo : Nat → FieldType := fun k => match k with
  | 0 => .array (.object "ShardLedger$Message")
  | _ => .int
theorem nm_Lo : ∀ a, a < 2 → ∀ b, b < 2 → a ≠ b → (F_Lo a).2.1 ≠ (F_Lo b).2.1 := by decide +kernel
theorem ty_Lo : ∀ k, k < 2 → parseFieldDescriptor (F_Lo k).2.2.1 = some (t_Lo k) := by decide +kernel
def R_Re : String := "ShardLedger$Replica"
def F_Re : u_T := fun k => match k with
  | 0 => ("ShardLedger$Replica", "shard", "I", true)
  | 1 => ("ShardLedger$Replica", "number", "I", true)
  | 2 => ("ShardLedger$Replica", "faulty", "Z", true)
  | 3 => ("ShardLedger$Replica", "requests", "LShardLedger$RequestBook;", true)
  | 4 => ("ShardLedger$Replica", "log", "LShardLedger$MessageLog;", true)
  | 5 => ("ShardLedger$Replica", "holdings", "LShardLedger$Holdings;", true)
  | 6 => ("ShardLedger$Replica", "inbox", "LShardLedger$Inbox;", true)
  | 7 => ("ShardLedger$Replica", "lock", "LShardLedger$Choice;", true)
  | 8 => ("ShardLedger$Replica", "candidate", "LShardLedger$Choice;", true)
  | 9 => ("ShardLedger$Replica", "history", "[I", true)
  | 10 => ("ShardLedger$Replica", "asleep", "Z", false)
  | 11 => ("ShardLedger$Replica", "height", "I", false)
  | 12 => ("ShardLedger$Replica", "round", "I", false)
  | _ => ("ShardLedger$Replica", "step", "I", false)
def t_Re : Nat → FieldType := fun k => match k with
  | 0 => .int
  | 1 => .int
  | 2 => .boolean
  | 3 => .object "ShardLedger$RequestBook"
  | 4 => .object "ShardLedger$MessageLog"
  | 5 => .object "ShardLedger$Holdings"
  | 6 => .object "ShardLedger$Inbox"
  | 7 => .object "ShardLedger$Choice"
  | 8 => .object "ShardLedger$Choice"
  | 9 => .array .int
  | 10 => .boolean
  | 11 => .int
  | 12 => .int
  | _ => .int
theorem nm_Re : ∀ a, a < 14 → ∀ b, b < 14 → a ≠ b → (F_Re a).2.1 ≠ (F_Re b).2.1 := by decide +kernel
theorem ty_Re : ∀ k, k < 14 → parseFieldDescriptor (F_Re k).2.2.1 = some (t_Re k) := by decide +kernel
def R_Rb : String := "ShardLedger$RequestBook"
def F_Rb : u_T := fun k => match k with
  | 0 => ("ShardLedger$RequestBook", "shards", "[I", true)
  | 1 => ("ShardLedger$RequestBook", "kinds", "[I", true)
  | 2 => ("ShardLedger$RequestBook", "transactions", "[I", true)
  | 3 => ("ShardLedger$RequestBook", "executions", "[I", true)
  | 4 => ("ShardLedger$RequestBook", "results", "[I", true)
  | _ => ("ShardLedger$RequestBook", "count", "I", false)
def t_Rb : Nat → FieldType := fun k => match k with
  | 0 => .array .int
  | 1 => .array .int
  | 2 => .array .int
  | 3 => .array .int
  | 4 => .array .int
  | _ => .int
theorem nm_Rb : ∀ a, a < 6 → ∀ b, b < 6 → a ≠ b → (F_Rb a).2.1 ≠ (F_Rb b).2.1 := by decide +kernel
theorem ty_Rb : ∀ k, k < 6 → parseFieldDescriptor (F_Rb k).2.2.1 = some (t_Rb k) := by decide +kernel
def R_Sh : String := "ShardLedger$Shard"
def F_Sh : u_T := fun k => match k with
  | 0 => ("ShardLedger$Shard", "log", "LShardLedger$MessageLog;", true)
  | _ => ("ShardLedger$Shard", "replicas", "[LShardLedger$Replica;", true)
def t_Sh : Nat → FieldType := fun k => match k with
  | 0 => .object "ShardLedger$MessageLog"
  | _ => .array (.object "ShardLedger$Replica")
theorem nm_Sh : ∀ a, a < 2 → ∀ b, b < 2 → a ≠ b → (F_Sh a).2.1 ≠ (F_Sh b).2.1 := by decide +kernel
theorem ty_Sh : ∀ k, k < 2 → parseFieldDescriptor (F_Sh k).2.2.1 = some (t_Sh k) := by decide +kernel
def R_Tb : String := "ShardLedger$TransactionBook"
def F_Tb : u_T := fun k => match k with
  | 0 => ("ShardLedger$TransactionBook", "firsts", "[I", true)
  | 1 => ("ShardLedger$TransactionBook", "seconds", "[I", true)
  | 2 => ("ShardLedger$TransactionBook", "states", "[I", true)
  | 3 => ("ShardLedger$TransactionBook", "amounts", "[I", true)
  | _ => ("ShardLedger$TransactionBook", "count", "I", false)
def t_Tb : Nat → FieldType := fun k => match k with
  | 0 => .array .int
  | 1 => .array .int
  | 2 => .array .int
  | 3 => .array .int
  | _ => .int
theorem nm_Tb : ∀ a, a < 5 → ∀ b, b < 5 → a ≠ b → (F_Tb a).2.1 ≠ (F_Tb b).2.1 := by decide +kernel
theorem ty_Tb : ∀ k, k < 5 → parseFieldDescriptor (F_Tb k).2.2.1 = some (t_Tb k) := by decide +kernel
def R_Sl : String := "ShardLedger"
def F_Sl : u_T := fun k => match k with
  | 0 => ("ShardLedger", "transactionBook", "LShardLedger$TransactionBook;", true)
  | 1 => ("ShardLedger", "requestBook", "LShardLedger$RequestBook;", true)
  | _ => ("ShardLedger", "shards", "[LShardLedger$Shard;", true)
def t_Sl : Nat → FieldType := fun k => match k with
  | 0 => .object "ShardLedger$TransactionBook"
  | 1 => .object "ShardLedger$RequestBook"
  | _ => .array (.object "ShardLedger$Shard")
theorem nm_Sl : ∀ a, a < 3 → ∀ b, b < 3 → a ≠ b → (F_Sl a).2.1 ≠ (F_Sl b).2.1 := by decide +kernel
theorem ty_Sl : ∀ k, k < 3 → parseFieldDescriptor (F_Sl k).2.2.1 = some (t_Sl k) := by decide +kernel
def R_Mo : String := "ShardLedgerModel"
def F_Mo : u_T := fun k => match k with
  | 0 => ("ShardLedgerModel", "liars", "I", true)
  | 1 => ("ShardLedgerModel", "transactions", "I", false)
  | 2 => ("ShardLedgerModel", "first", "[I", true)
  | 3 => ("ShardLedgerModel", "second", "[I", true)
  | 4 => ("ShardLedgerModel", "state", "[I", true)
  | 5 => ("ShardLedgerModel", "amount", "[I", true)
  | 6 => ("ShardLedgerModel", "requests", "I", false)
  | 7 => ("ShardLedgerModel", "shardOf", "[I", true)
  | 8 => ("ShardLedgerModel", "kindOf", "[I", true)
  | 9 => ("ShardLedgerModel", "about", "[I", true)
  | 10 => ("ShardLedgerModel", "keeps", "[I", true)
  | 11 => ("ShardLedgerModel", "holder", "[I", true)
  | 12 => ("ShardLedgerModel", "height", "[I", true)
  | 13 => ("ShardLedgerModel", "round", "[I", true)
  | 14 => ("ShardLedgerModel", "step", "[I", true)
  | 15 => ("ShardLedgerModel", "lock", "[I", true)
  | 16 => ("ShardLedgerModel", "lockRound", "[I", true)
  | 17 => ("ShardLedgerModel", "candidate", "[I", true)
  | 18 => ("ShardLedgerModel", "candidateRound", "[I", true)
  | 19 => ("ShardLedgerModel", "asleep", "[Z", true)
  | 20 => ("ShardLedgerModel", "log", "[I", true)
  | 21 => ("ShardLedgerModel", "result", "[I", true)
  | 22 => ("ShardLedgerModel", "sent", "[I", true)
  | 23 => ("ShardLedgerModel", "message", "[J", true)
  | 24 => ("ShardLedgerModel", "taken", "[I", true)
  | 25 => ("ShardLedgerModel", "lies", "[I", true)
  | 26 => ("ShardLedgerModel", "senders", "[I", true)
  | 27 => ("ShardLedgerModel", "proposed", "[I", true)
  | 28 => ("ShardLedgerModel", "proposedRound", "[I", true)
  | _ => ("ShardLedgerModel", "own", "[Z", true)
def t_Mo : Nat → FieldType := fun k => match k with
  | 0 => .int
  | 1 => .int
  | 2 => .array .int
  | 3 => .array .int
  | 4 => .array .int
  | 5 => .array .int
  | 6 => .int
  | 7 => .array .int
  | 8 => .array .int
  | 9 => .array .int
  | 10 => .array .int
  | 11 => .array .int
  | 12 => .array .int
  | 13 => .array .int
  | 14 => .array .int
  | 15 => .array .int
  | 16 => .array .int
  | 17 => .array .int
  | 18 => .array .int
  | 19 => .array .boolean
  | 20 => .array .int
  | 21 => .array .int
  | 22 => .array .int
  | 23 => .array .long
  | 24 => .array .int
  | 25 => .array .int
  | 26 => .array .int
  | 27 => .array .int
  | 28 => .array .int
  | _ => .array .boolean
theorem nm_Mo : ∀ a, a < 30 → ∀ b, b < 30 → a ≠ b → (F_Mo a).2.1 ≠ (F_Mo b).2.1 := by decide +kernel
theorem ty_Mo : ∀ k, k < 30 → parseFieldDescriptor (F_Mo k).2.2.1 = some (t_Mo k) := by decide +kernel
def R_La : String := "ShardLedgerLaw"
/-- the classes whose objects a world holds -/
def vcl : List vw_C := [(R_Ch, F_Ch, 2), (R_Ho, F_Ho, 4), (R_In, F_In, 1), (R_Me, F_Me, 7), (R_Lo, F_Lo, 2), (R_Re, F_Re, 14), (R_Rb, F_Rb, 6), (R_Sh, F_Sh, 2), (R_Tb, F_Tb, 5), (R_Sl, F_Sl, 3), (R_Mo, F_Mo, 30)]
/-- the arrays: their classes have the numbers 20 .. 25 -/
def vty (D : va_G) : List (ClassId × FieldType) := [(D.1 20, .int), (D.1 21, .boolean), (D.1 22, .long), (D.1 23, .object "ShardLedger$Message"), (D.1 24, .object "ShardLedger$Replica"), (D.1 25, .object "ShardLedger$Shard")]
def GW : List Cond := lw_tbl.filter goodWord
theorem gwm (i : Nat) {w : Cond} (h : lw_tbl[i]? = some w) (hg : goodWord w = true) : w ∈ GW := List.mem_filter.mpr ⟨List.mem_of_getElem? h, hg⟩
theorem gwr {ws : List Cond} (ps : List Nat) (hp : ws = ps.filterMap (fun i => lw_tbl[i]?)) (h : ws.all goodWord = true) : ∀ w ∈ ws, w ∈ GW := by
  intro w hw
  have h1 := List.all_eq_true.mp h w hw
  rw [hp] at hw
  obtain ⟨i, -, hi⟩ := List.mem_filterMap.mp hw
  exact gwm i hi h1
/-- the words that are carried from state to state by hand -/
def E0 (s : State) : Prop := va_Nw (.methodLinkNest "ShardLedger" 14 ⟨"ShardLedger$RequestBook", "<init>", "()V"⟩ "ShardLedger") s ∧ va_Nw (.methodLinkNest "ShardLedger$Shard" 11 ⟨"ShardLedger$MessageLog", "<init>", "()V"⟩ "ShardLedger") s ∧ va_Nw (.methodLinkNest "ShardLedger$Replica" 11 ⟨"ShardLedger$Inbox", "<init>", "()V"⟩ "ShardLedger") s ∧ va_Nw (.methodLinkNest "ShardLedger$Replica" 20 ⟨"ShardLedger$Choice", "<init>", "()V"⟩ "ShardLedger") s ∧ va_AO "ShardLedger$Shard" s ∧ va_AO "ShardLedger$Message" s ∧ va_AO "ShardLedger$Replica" s
def G0 (l : Launch) (D : va_G) : jG := (l, D, vcl, vty D, GW, E0)
theorem G0_good {l : Launch} {D : va_G} : jGood (G0 l D) := fun w hw => good_of_word (List.mem_filter.mp hw).2
theorem G0_E {l : Launch} {D : va_G} : jE (G0 l D) := by
  refine ⟨fun s U hW h => ?_, fun U g mk a h => ?_⟩
  · obtain ⟨h0, h1, h2, h3, h4, h5, h6⟩ := h
    exact ⟨va_Nw.warmM hW h0, va_Nw.warmM hW h1, va_Nw.warmM hW h2, va_Nw.warmM hW h3, va_AO.moved hW.alike h4, va_AO.moved hW.alike h5, va_AO.moved hW.alike h6⟩
  · obtain ⟨h0, h1, h2, h3, h4, h5, h6⟩ := h
    exact ⟨va_Nw.same rfl rfl h0, va_Nw.same rfl rfl h1, va_Nw.same rfl rfl h2, va_Nw.same rfl rfl h3, va_AO.moved (Vm.Alike.refl U.vm) h4, va_AO.moved (Vm.Alike.refl U.vm) h5, va_AO.moved (Vm.Alike.refl U.vm) h6⟩
theorem ws_Ch : ∀ w ∈ u_ws R_Ch F_Ch 2, w ∈ GW := gwr [194, 196] (by decide +kernel) (by decide +kernel)
theorem ws_Ho : ∀ w ∈ u_ws R_Ho F_Ho 4, w ∈ GW := gwr [159, 161, 163, 165] (by decide +kernel) (by decide +kernel)
theorem ws_In : ∀ w ∈ u_ws R_In F_In 1, w ∈ GW := gwr [181] (by decide +kernel) (by decide +kernel)
theorem ws_Me : ∀ w ∈ u_ws R_Me F_Me 7, w ∈ GW := gwr [452, 454, 456, 458, 460, 462, 464] (by decide +kernel) (by decide +kernel)
theorem ws_Lo : ∀ w ∈ u_ws R_Lo F_Lo 2, w ∈ GW := gwr [142, 144] (by decide +kernel) (by decide +kernel)
theorem ws_Re : ∀ w ∈ u_ws R_Re F_Re 14, w ∈ GW := gwr [215, 217, 219, 221, 223, 225, 227, 229, 231, 233, 235, 237, 239, 241] (by decide +kernel) (by decide +kernel)
theorem ws_Rb : ∀ w ∈ u_ws R_Rb F_Rb 6, w ∈ GW := gwr [112, 114, 116, 118, 120, 122] (by decide +kernel) (by decide +kernel)
theorem ws_Sh : ∀ w ∈ u_ws R_Sh F_Sh 2, w ∈ GW := gwr [248, 250] (by decide +kernel) (by decide +kernel)
theorem ws_Tb : ∀ w ∈ u_ws R_Tb F_Tb 5, w ∈ GW := gwr [88, 90, 92, 94, 96] (by decide +kernel) (by decide +kernel)
theorem ws_Sl : ∀ w ∈ u_ws R_Sl F_Sl 3, w ∈ GW := gwr [256, 258, 260] (by decide +kernel) (by decide +kernel)
theorem ws_Mo : ∀ w ∈ u_ws R_Mo F_Mo 30, w ∈ GW := gwr [716, 718, 720, 722, 724, 726, 728, 730, 732, 734, 736, 738, 740, 742, 744, 746, 748, 750, 752, 754, 756, 758, 760, 762, 764, 766, 768, 770, 772, 774] (by decide +kernel) (by decide +kernel)
def m_Sl_init : jMt := (⟨R_Sl, "<init>", "(I)V"⟩, prog_1_method_1_code, 5, none)
def m_Sl_submit : jMt := (⟨R_Sl, "submit", "(III)I"⟩, prog_1_method_2_code, 6, some .int)
def m_Sl_client : jMt := (⟨R_Sl, "client", "()I"⟩, prog_1_method_3_code, 3, some .int)
def m_Sl_deliver : jMt := (⟨R_Sl, "deliver", "(III)Z"⟩, prog_1_method_4_code, 6, some .boolean)
def m_Sl_flood : jMt := (⟨R_Sl, "flood", "(I)I"⟩, prog_1_method_5_code, 8, some .int)
def m_Sl_tick : jMt := (⟨R_Sl, "tick", "(II)Z"⟩, prog_1_method_6_code, 4, some .boolean)
def m_Sl_sleep : jMt := (⟨R_Sl, "sleep", "(IIZ)Z"⟩, prog_1_method_7_code, 5, some .boolean)
def m_Sl_lie : jMt := (⟨R_Sl, "lie", "(IIIII)Z"⟩, prog_1_method_8_code, 9, some .boolean)
def m_Sl_messages : jMt := (⟨R_Sl, "messages", "(I)I"⟩, prog_1_method_9_code, 3, some .int)
def m_Sl_message : jMt := (⟨R_Sl, "message", "(III)I"⟩, prog_1_method_10_code, 6, some .int)
def m_Sl_replica : jMt := (⟨R_Sl, "replica", "(III)I"⟩, prog_1_method_11_code, 5, some .int)
def m_Sl_executed : jMt := (⟨R_Sl, "executed", "(III)I"⟩, prog_1_method_12_code, 5, some .int)
def m_Sl_output : jMt := (⟨R_Sl, "output", "(III)I"⟩, prog_1_method_13_code, 5, some .int)
def m_Sl_value : jMt := (⟨R_Sl, "value", "(II)I"⟩, prog_1_method_14_code, 4, some .int)
def m_Sl_requests : jMt := (⟨R_Sl, "requests", "()I"⟩, prog_1_method_15_code, 1, some .int)
def m_Sl_request : jMt := (⟨R_Sl, "request", "(II)I"⟩, prog_1_method_16_code, 3, some .int)
def m_Sl_transaction : jMt := (⟨R_Sl, "transaction", "(I)I"⟩, prog_1_method_17_code, 2, some .int)
def m_Sl_shardAt : jMt := (⟨R_Sl, "shardAt", "(I)LShardLedger$Shard;"⟩, prog_1_method_18_code, 2, some (.object "ShardLedger$Shard"))
def m_Sl_replicaAt : jMt := (⟨R_Sl, "replicaAt", "(II)LShardLedger$Replica;"⟩, prog_1_method_19_code, 4, some (.object "ShardLedger$Replica"))
def m_Sl_letAllAct : jMt := (⟨R_Sl, "letAllAct", "()V"⟩, prog_1_method_20_code, 3, none)
def m_Sl_lookAt : jMt := (⟨R_Sl, "lookAt", "(I)V"⟩, prog_1_method_21_code, 3, none)
def m_Sl_decide : jMt := (⟨R_Sl, "decide", "(II)V"⟩, prog_1_method_22_code, 5, none)
def m_Mo_init : jMt := (⟨R_Mo, "<init>", "(I)V"⟩, prog_12_method_1_code, 4, none)
def m_Mo_out : jMt := (⟨R_Mo, "out", "(II)Z"⟩, prog_12_method_2_code, 2, some .boolean)
def m_Mo_faulty : jMt := (⟨R_Mo, "faulty", "(I)Z"⟩, prog_12_method_3_code, 2, some .boolean)
def m_Mo_takes : jMt := (⟨R_Mo, "takes", "(II)Z"⟩, prog_12_method_4_code, 3, some .boolean)
def m_Mo_makes : jMt := (⟨R_Mo, "makes", "(II)Z"⟩, prog_12_method_5_code, 3, some .boolean)
def m_Mo_ask : jMt := (⟨R_Mo, "ask", "(III)I"⟩, prog_12_method_6_code, 4, some .int)
def m_Mo_isOutput : jMt := (⟨R_Mo, "isOutput", "(I)Z"⟩, prog_12_method_7_code, 2, some .boolean)
def m_Mo_submit : jMt := (⟨R_Mo, "submit", "(III)I"⟩, prog_12_method_8_code, 8, some .int)
def m_Mo_answer : jMt := (⟨R_Mo, "answer", "(I)I"⟩, prog_12_method_9_code, 6, some .int)
def m_Mo_answers : jMt := (⟨R_Mo, "answers", "(II)I"⟩, prog_12_method_10_code, 5, some .int)
def m_Mo_look : jMt := (⟨R_Mo, "look", "(I)I"⟩, prog_12_method_11_code, 5, some .int)
def m_Mo_client : jMt := (⟨R_Mo, "client", "()I"⟩, prog_12_method_12_code, 3, some .int)
def m_Mo_execute : jMt := (⟨R_Mo, "execute", "(II)V"⟩, prog_12_method_13_code, 10, none)
def m_Mo_send : jMt := (⟨R_Mo, "send", "(IIII)V"⟩, prog_12_method_14_code, 9, none)
def m_Mo_part : jMt := (⟨R_Mo, "part", "(JI)I"⟩, prog_12_method_15_code, 6, some .int)
def m_Mo_lieAt : jMt := (⟨R_Mo, "lieAt", "(IIII)I"⟩, prog_12_method_16_code, 5, some .int)
def m_Mo_count : jMt := (⟨R_Mo, "count", "(IIIII)V"⟩, prog_12_method_17_code, 7, none)
def m_Mo_survey : jMt := (⟨R_Mo, "survey", "(I)V"⟩, prog_12_method_18_code, 6, none)
def m_Mo_bits : jMt := (⟨R_Mo, "bits", "(I)I"⟩, prog_12_method_19_code, 1, some .int)
def m_Mo_three : jMt := (⟨R_Mo, "three", "(III)Z"⟩, prog_12_method_20_code, 4, some .boolean)
def m_Mo_all : jMt := (⟨R_Mo, "all", "(II)I"⟩, prog_12_method_21_code, 5, some .int)
def m_Mo_anyKind : jMt := (⟨R_Mo, "anyKind", "(I)I"⟩, prog_12_method_22_code, 4, some .int)
def m_Mo_good : jMt := (⟨R_Mo, "good", "(II)Z"⟩, prog_12_method_23_code, 3, some .boolean)
def m_Mo_decides : jMt := (⟨R_Mo, "decides", "(I)Z"⟩, prog_12_method_24_code, 3, some .boolean)
def m_Mo_follows : jMt := (⟨R_Mo, "follows", "(I)Z"⟩, prog_12_method_25_code, 3, some .boolean)
def m_Mo_proposes : jMt := (⟨R_Mo, "proposes", "(I)Z"⟩, prog_12_method_26_code, 3, some .boolean)
def m_Mo_votes : jMt := (⟨R_Mo, "votes", "(I)Z"⟩, prog_12_method_27_code, 6, some .boolean)
def m_Mo_accepts : jMt := (⟨R_Mo, "accepts", "(I)Z"⟩, prog_12_method_28_code, 4, some .boolean)
def m_Mo_skips : jMt := (⟨R_Mo, "skips", "(I)Z"⟩, prog_12_method_29_code, 2, some .boolean)
def m_Mo_one : jMt := (⟨R_Mo, "one", "(I)Z"⟩, prog_12_method_30_code, 2, some .boolean)
def m_Mo_act : jMt := (⟨R_Mo, "act", "(I)V"⟩, prog_12_method_31_code, 3, none)
def m_Mo_allAct : jMt := (⟨R_Mo, "allAct", "()V"⟩, prog_12_method_32_code, 2, none)
def m_Mo_can : jMt := (⟨R_Mo, "can", "(III)Z"⟩, prog_12_method_33_code, 7, some .boolean)
def m_Mo_take : jMt := (⟨R_Mo, "take", "(III)V"⟩, prog_12_method_34_code, 4, none)
def m_Mo_deliver : jMt := (⟨R_Mo, "deliver", "(III)Z"⟩, prog_12_method_35_code, 4, some .boolean)
def m_Mo_flood : jMt := (⟨R_Mo, "flood", "(I)I"⟩, prog_12_method_36_code, 6, some .int)
def m_Mo_tick : jMt := (⟨R_Mo, "tick", "(II)Z"⟩, prog_12_method_37_code, 4, some .boolean)
def m_Mo_sleep : jMt := (⟨R_Mo, "sleep", "(IIZ)Z"⟩, prog_12_method_38_code, 5, some .boolean)
def m_Mo_lie : jMt := (⟨R_Mo, "lie", "(IIIII)Z"⟩, prog_12_method_39_code, 9, some .boolean)
def m_Mo_messages : jMt := (⟨R_Mo, "messages", "(I)I"⟩, prog_12_method_40_code, 2, some .int)
def m_Mo_message : jMt := (⟨R_Mo, "message", "(III)I"⟩, prog_12_method_41_code, 5, some .int)
def m_Mo_replica : jMt := (⟨R_Mo, "replica", "(III)I"⟩, prog_12_method_42_code, 5, some .int)
def m_Mo_executed : jMt := (⟨R_Mo, "executed", "(III)I"⟩, prog_12_method_43_code, 5, some .int)
def m_Mo_output : jMt := (⟨R_Mo, "output", "(III)I"⟩, prog_12_method_44_code, 4, some .int)
def m_Mo_value : jMt := (⟨R_Mo, "value", "(II)I"⟩, prog_12_method_45_code, 6, some .int)
def m_Mo_requests : jMt := (⟨R_Mo, "requests", "()I"⟩, prog_12_method_46_code, 1, some .int)
def m_Mo_request : jMt := (⟨R_Mo, "request", "(II)I"⟩, prog_12_method_47_code, 3, some .int)
def m_Mo_transaction : jMt := (⟨R_Mo, "transaction", "(I)I"⟩, prog_12_method_48_code, 2, some .int)
def m_Ch_init : jMt := (⟨R_Ch, "<init>", "()V"⟩, prog_2_method_1_code, 1, none)
def m_Ch_set : jMt := (⟨R_Ch, "set", "(II)V"⟩, prog_2_method_2_code, 3, none)
def m_Ch_clear : jMt := (⟨R_Ch, "clear", "()V"⟩, prog_2_method_3_code, 1, none)
def m_Ho_init : jMt := (⟨R_Ho, "<init>", "(ILShardLedger$TransactionBook;)V"⟩, prog_3_method_1_code, 4, none)
def m_Ho_stateOf : jMt := (⟨R_Ho, "stateOf", "(I)I"⟩, prog_3_method_2_code, 2, some .int)
def m_Ho_worth : jMt := (⟨R_Ho, "worth", "()I"⟩, prog_3_method_3_code, 3, some .int)
def m_Ho_carryOut : jMt := (⟨R_Ho, "carryOut", "(II)I"⟩, prog_3_method_4_code, 3, some .int)
def m_Ho_lockInputs : jMt := (⟨R_Ho, "lockInputs", "(I)I"⟩, prog_3_method_5_code, 3, some .int)
def m_Ho_spendInputs : jMt := (⟨R_Ho, "spendInputs", "(I)I"⟩, prog_3_method_6_code, 3, some .int)
def m_Ho_freeInputs : jMt := (⟨R_Ho, "freeInputs", "(I)I"⟩, prog_3_method_7_code, 3, some .int)
def m_In_init : jMt := (⟨R_In, "<init>", "()V"⟩, prog_4_method_1_code, 1, none)
def m_In_put : jMt := (⟨R_In, "put", "(LShardLedger$Message;)V"⟩, prog_4_method_2_code, 3, none)
def m_In_find : jMt := (⟨R_In, "find", "(III)LShardLedger$Message;"⟩, prog_4_method_3_code, 5, some (.object "ShardLedger$Message"))
def m_In_clear : jMt := (⟨R_In, "clear", "()V"⟩, prog_4_method_4_code, 2, none)
def m_In_hasQuorumFor : jMt := (⟨R_In, "hasQuorumFor", "(III)Z"⟩, prog_4_method_5_code, 7, some .boolean)
def m_In_hasQuorumOfAny : jMt := (⟨R_In, "hasQuorumOfAny", "(II)Z"⟩, prog_4_method_6_code, 5, some .boolean)
def m_In_countSenders : jMt := (⟨R_In, "countSenders", "(II)I"⟩, prog_4_method_7_code, 6, some .int)
def m_In_slot : jMt := (⟨R_In, "slot", "(III)I"⟩, prog_4_method_8_code, 3, some .int)
def m_Me_init : jMt := (⟨R_Me, "<init>", "(IIIIII)V"⟩, prog_5_method_1_code, 7, none)
def m_Me_isTakenBy : jMt := (⟨R_Me, "isTakenBy", "(I)Z"⟩, prog_5_method_2_code, 2, some .boolean)
def m_Me_setTakenBy : jMt := (⟨R_Me, "setTakenBy", "(I)V"⟩, prog_5_method_3_code, 2, none)
def m_Me_tell : jMt := (⟨R_Me, "tell", "(I)I"⟩, prog_5_method_4_code, 2, some .int)
def m_Lo_init : jMt := (⟨R_Lo, "<init>", "()V"⟩, prog_6_method_1_code, 1, none)
def m_Lo_count : jMt := (⟨R_Lo, "count", "()I"⟩, prog_6_method_2_code, 1, some .int)
def m_Lo_add : jMt := (⟨R_Lo, "add", "(LShardLedger$Message;)V"⟩, prog_6_method_3_code, 2, none)
def m_Lo_messageAt : jMt := (⟨R_Lo, "messageAt", "(I)LShardLedger$Message;"⟩, prog_6_method_4_code, 2, some (.object "ShardLedger$Message"))
def m_Re_init : jMt := (⟨R_Re, "<init>", "(IIZLShardLedger$RequestBook;LShardLedger$MessageLog;LShardLedger$Holdings;)V"⟩, prog_7_method_1_code, 7, none)
def m_Re_accept : jMt := (⟨R_Re, "accept", "(LShardLedger$Message;)Z"⟩, prog_7_method_2_code, 2, some .boolean)
def m_Re_believe : jMt := (⟨R_Re, "believe", "(III)Z"⟩, prog_7_method_3_code, 4, some .boolean)
def m_Re_losePatience : jMt := (⟨R_Re, "losePatience", "()Z"⟩, prog_7_method_4_code, 1, some .boolean)
def m_Re_turnSleep : jMt := (⟨R_Re, "turnSleep", "(Z)Z"⟩, prog_7_method_5_code, 2, some .boolean)
def m_Re_act : jMt := (⟨R_Re, "act", "()V"⟩, prog_7_method_6_code, 3, none)
def m_Re_tell : jMt := (⟨R_Re, "tell", "(I)I"⟩, prog_7_method_7_code, 2, some .int)
def m_Re_executedAt : jMt := (⟨R_Re, "executedAt", "(I)I"⟩, prog_7_method_8_code, 2, some .int)
def m_Re_isIdle : jMt := (⟨R_Re, "isIdle", "()Z"⟩, prog_7_method_9_code, 1, some .boolean)
def m_Re_executeSealed : jMt := (⟨R_Re, "executeSealed", "()Z"⟩, prog_7_method_10_code, 2, some .boolean)
def m_Re_sealedRequest : jMt := (⟨R_Re, "sealedRequest", "()I"⟩, prog_7_method_11_code, 3, some .int)
def m_Re_joinHigherRound : jMt := (⟨R_Re, "joinHigherRound", "()Z"⟩, prog_7_method_12_code, 2, some .boolean)
def m_Re_propose : jMt := (⟨R_Re, "propose", "()Z"⟩, prog_7_method_13_code, 2, some .boolean)
def m_Re_vote : jMt := (⟨R_Re, "vote", "()Z"⟩, prog_7_method_14_code, 2, some .boolean)
def m_Re_chooseCandidate : jMt := (⟨R_Re, "chooseCandidate", "()Z"⟩, prog_7_method_15_code, 3, some .boolean)
def m_Re_sealNone : jMt := (⟨R_Re, "sealNone", "()Z"⟩, prog_7_method_16_code, 1, some .boolean)
def m_Re_isBacked : jMt := (⟨R_Re, "isBacked", "(LShardLedger$Message;)Z"⟩, prog_7_method_17_code, 3, some .boolean)
def m_Re_isWelcome : jMt := (⟨R_Re, "isWelcome", "(LShardLedger$Message;)Z"⟩, prog_7_method_18_code, 3, some .boolean)
def m_Re_isGood : jMt := (⟨R_Re, "isGood", "(I)Z"⟩, prog_7_method_19_code, 3, some .boolean)
def m_Re_firstGood : jMt := (⟨R_Re, "firstGood", "()I"⟩, prog_7_method_20_code, 2, some .int)
def m_Re_leaderOf : jMt := (⟨R_Re, "leaderOf", "(I)I"⟩, prog_7_method_21_code, 2, some .int)
def m_Re_enterRound : jMt := (⟨R_Re, "enterRound", "(I)V"⟩, prog_7_method_22_code, 2, none)
def m_Re_sendVote : jMt := (⟨R_Re, "sendVote", "(I)V"⟩, prog_7_method_23_code, 2, none)
def m_Re_sendSeal : jMt := (⟨R_Re, "sendSeal", "(I)V"⟩, prog_7_method_24_code, 2, none)
def m_Re_send : jMt := (⟨R_Re, "send", "(III)V"⟩, prog_7_method_25_code, 5, none)
def m_Rb_init : jMt := (⟨R_Rb, "<init>", "()V"⟩, prog_8_method_1_code, 1, none)
def m_Rb_count : jMt := (⟨R_Rb, "count", "()I"⟩, prog_8_method_2_code, 1, some .int)
def m_Rb_has : jMt := (⟨R_Rb, "has", "(I)Z"⟩, prog_8_method_3_code, 2, some .boolean)
def m_Rb_make : jMt := (⟨R_Rb, "make", "(III)V"⟩, prog_8_method_4_code, 4, none)
def m_Rb_isFor : jMt := (⟨R_Rb, "isFor", "(II)Z"⟩, prog_8_method_5_code, 3, some .boolean)
def m_Rb_kindOf : jMt := (⟨R_Rb, "kindOf", "(I)I"⟩, prog_8_method_6_code, 2, some .int)
def m_Rb_transactionOf : jMt := (⟨R_Rb, "transactionOf", "(I)I"⟩, prog_8_method_7_code, 2, some .int)
def m_Rb_noteExecution : jMt := (⟨R_Rb, "noteExecution", "(II)V"⟩, prog_8_method_8_code, 3, none)
def m_Rb_outcome : jMt := (⟨R_Rb, "outcome", "(II)I"⟩, prog_8_method_9_code, 5, some .int)
def m_Rb_tell : jMt := (⟨R_Rb, "tell", "(II)I"⟩, prog_8_method_10_code, 3, some .int)
def m_Rb_answer : jMt := (⟨R_Rb, "answer", "(I)I"⟩, prog_8_method_11_code, 2, some .int)
def m_Sh_init : jMt := (⟨R_Sh, "<init>", "(IZLShardLedger$RequestBook;LShardLedger$TransactionBook;)V"⟩, prog_9_method_1_code, 8, none)
def m_Sh_replicaAt : jMt := (⟨R_Sh, "replicaAt", "(I)LShardLedger$Replica;"⟩, prog_9_method_2_code, 2, some (.object "ShardLedger$Replica"))
def m_Tb_init : jMt := (⟨R_Tb, "<init>", "()V"⟩, prog_10_method_1_code, 2, none)
def m_Tb_count : jMt := (⟨R_Tb, "count", "()I"⟩, prog_10_method_2_code, 1, some .int)
def m_Tb_isFull : jMt := (⟨R_Tb, "isFull", "()Z"⟩, prog_10_method_3_code, 1, some .boolean)
def m_Tb_has : jMt := (⟨R_Tb, "has", "(I)Z"⟩, prog_10_method_4_code, 2, some .boolean)
def m_Tb_isProper : jMt := (⟨R_Tb, "isProper", "(III)Z"⟩, prog_10_method_5_code, 4, some .boolean)
def m_Tb_add : jMt := (⟨R_Tb, "add", "(III)I"⟩, prog_10_method_6_code, 5, some .int)
def m_Tb_stateOf : jMt := (⟨R_Tb, "stateOf", "(I)I"⟩, prog_10_method_7_code, 2, some .int)
def m_Tb_setState : jMt := (⟨R_Tb, "setState", "(II)V"⟩, prog_10_method_8_code, 3, none)
def m_Tb_amountOf : jMt := (⟨R_Tb, "amountOf", "(I)I"⟩, prog_10_method_9_code, 2, some .int)
def m_Tb_isInput : jMt := (⟨R_Tb, "isInput", "(II)Z"⟩, prog_10_method_10_code, 3, some .boolean)
def m_Tb_isMade : jMt := (⟨R_Tb, "isMade", "(II)Z"⟩, prog_10_method_11_code, 3, some .boolean)
def m_Tb_hasInputIn : jMt := (⟨R_Tb, "hasInputIn", "(II)Z"⟩, prog_10_method_12_code, 3, some .boolean)
def m_Tb_hasOutputIn : jMt := (⟨R_Tb, "hasOutputIn", "(II)Z"⟩, prog_10_method_13_code, 3, some .boolean)
def m_Tb_isOutput : jMt := (⟨R_Tb, "isOutput", "(I)Z"⟩, prog_10_method_14_code, 2, some .boolean)
def m_Tb_sum : jMt := (⟨R_Tb, "sum", "(II)I"⟩, prog_10_method_15_code, 3, some .int)
def m_Tb_evenOutput : jMt := (⟨R_Tb, "evenOutput", "(I)I"⟩, prog_10_method_16_code, 1, some .int)
def m_La_cell : jMt := (⟨R_La, "cell", "([II)I"⟩, method_2_code, 2, some .int)
def m_La_law : jMt := (⟨R_La, "law", "([I)Z"⟩, code, 4, some .boolean)
set_option maxRecDepth 100000 in
theorem k_Sl_init : Cond.code m_Sl_init.1 m_Sl_init.2.1 m_Sl_init.2.2.1 m_Sl_init.2.2.2 ∈ GW := gwm 73 rfl rfl
set_option maxRecDepth 100000 in
theorem k_Sl_submit : Cond.code m_Sl_submit.1 m_Sl_submit.2.1 m_Sl_submit.2.2.1 m_Sl_submit.2.2.2 ∈ GW := gwm 266 rfl rfl
set_option maxRecDepth 100000 in
theorem k_Sl_client : Cond.code m_Sl_client.1 m_Sl_client.2.1 m_Sl_client.2.2.1 m_Sl_client.2.2.2 ∈ GW := gwm 507 rfl rfl
set_option maxRecDepth 100000 in
theorem k_Sl_deliver : Cond.code m_Sl_deliver.1 m_Sl_deliver.2.1 m_Sl_deliver.2.2.1 m_Sl_deliver.2.2.2 ∈ GW := gwm 547 rfl rfl
set_option maxRecDepth 100000 in
theorem k_Sl_flood : Cond.code m_Sl_flood.1 m_Sl_flood.2.1 m_Sl_flood.2.2.1 m_Sl_flood.2.2.2 ∈ GW := gwm 576 rfl rfl
set_option maxRecDepth 100000 in
theorem k_Sl_tick : Cond.code m_Sl_tick.1 m_Sl_tick.2.1 m_Sl_tick.2.2.1 m_Sl_tick.2.2.2 ∈ GW := gwm 581 rfl rfl
set_option maxRecDepth 100000 in
theorem k_Sl_sleep : Cond.code m_Sl_sleep.1 m_Sl_sleep.2.1 m_Sl_sleep.2.2.1 m_Sl_sleep.2.2.2 ∈ GW := gwm 597 rfl rfl
set_option maxRecDepth 100000 in
theorem k_Sl_lie : Cond.code m_Sl_lie.1 m_Sl_lie.2.1 m_Sl_lie.2.2.1 m_Sl_lie.2.2.2 ∈ GW := gwm 605 rfl rfl
set_option maxRecDepth 100000 in
theorem k_Sl_messages : Cond.code m_Sl_messages.1 m_Sl_messages.2.1 m_Sl_messages.2.2.1 m_Sl_messages.2.2.2 ∈ GW := gwm 614 rfl rfl
set_option maxRecDepth 100000 in
theorem k_Sl_message : Cond.code m_Sl_message.1 m_Sl_message.2.1 m_Sl_message.2.2.1 m_Sl_message.2.2.2 ∈ GW := gwm 622 rfl rfl
set_option maxRecDepth 100000 in
theorem k_Sl_replica : Cond.code m_Sl_replica.1 m_Sl_replica.2.1 m_Sl_replica.2.2.1 m_Sl_replica.2.2.2 ∈ GW := gwm 630 rfl rfl
set_option maxRecDepth 100000 in
theorem k_Sl_executed : Cond.code m_Sl_executed.1 m_Sl_executed.2.1 m_Sl_executed.2.2.1 m_Sl_executed.2.2.2 ∈ GW := gwm 638 rfl rfl
set_option maxRecDepth 100000 in
theorem k_Sl_output : Cond.code m_Sl_output.1 m_Sl_output.2.1 m_Sl_output.2.2.1 m_Sl_output.2.2.2 ∈ GW := gwm 646 rfl rfl
set_option maxRecDepth 100000 in
theorem k_Sl_value : Cond.code m_Sl_value.1 m_Sl_value.2.1 m_Sl_value.2.2.1 m_Sl_value.2.2.2 ∈ GW := gwm 654 rfl rfl
set_option maxRecDepth 100000 in
theorem k_Sl_requests : Cond.code m_Sl_requests.1 m_Sl_requests.2.1 m_Sl_requests.2.2.1 m_Sl_requests.2.2.2 ∈ GW := gwm 663 rfl rfl
set_option maxRecDepth 100000 in
theorem k_Sl_request : Cond.code m_Sl_request.1 m_Sl_request.2.1 m_Sl_request.2.2.1 m_Sl_request.2.2.2 ∈ GW := gwm 667 rfl rfl
set_option maxRecDepth 100000 in
theorem k_Sl_transaction : Cond.code m_Sl_transaction.1 m_Sl_transaction.2.1 m_Sl_transaction.2.2.1 m_Sl_transaction.2.2.2 ∈ GW := gwm 675 rfl rfl
set_option maxRecDepth 100000 in
theorem k_Sl_shardAt : Cond.code m_Sl_shardAt.1 m_Sl_shardAt.2.1 m_Sl_shardAt.2.2.1 m_Sl_shardAt.2.2.2 ∈ GW := gwm 551 rfl rfl
set_option maxRecDepth 100000 in
theorem k_Sl_replicaAt : Cond.code m_Sl_replicaAt.1 m_Sl_replicaAt.2.1 m_Sl_replicaAt.2.2.1 m_Sl_replicaAt.2.2.2 ∈ GW := gwm 585 rfl rfl
set_option maxRecDepth 100000 in
theorem k_Sl_letAllAct : Cond.code m_Sl_letAllAct.1 m_Sl_letAllAct.2.1 m_Sl_letAllAct.2.2.1 m_Sl_letAllAct.2.2.2 ∈ GW := gwm 310 rfl rfl
set_option maxRecDepth 100000 in
theorem k_Sl_lookAt : Cond.code m_Sl_lookAt.1 m_Sl_lookAt.2.1 m_Sl_lookAt.2.2.1 m_Sl_lookAt.2.2.2 ∈ GW := gwm 516 rfl rfl
set_option maxRecDepth 100000 in
theorem k_Sl_decide : Cond.code m_Sl_decide.1 m_Sl_decide.2.1 m_Sl_decide.2.2.1 m_Sl_decide.2.2.2 ∈ GW := gwm 535 rfl rfl
set_option maxRecDepth 100000 in
theorem k_Mo_init : Cond.code m_Mo_init.1 m_Mo_init.2.1 m_Mo_init.2.2.1 m_Mo_init.2.2.2 ∈ GW := gwm 684 rfl rfl
set_option maxRecDepth 100000 in
theorem k_Mo_out : Cond.code m_Mo_out.1 m_Mo_out.2.1 m_Mo_out.2.2.1 m_Mo_out.2.2.2 ∈ GW := gwm 789 rfl rfl
set_option maxRecDepth 100000 in
theorem k_Mo_faulty : Cond.code m_Mo_faulty.1 m_Mo_faulty.2.1 m_Mo_faulty.2.2.1 m_Mo_faulty.2.2.2 ∈ GW := gwm 809 rfl rfl
set_option maxRecDepth 100000 in
theorem k_Mo_takes : Cond.code m_Mo_takes.1 m_Mo_takes.2.1 m_Mo_takes.2.2.1 m_Mo_takes.2.2.2 ∈ GW := gwm 793 rfl rfl
set_option maxRecDepth 100000 in
theorem k_Mo_makes : Cond.code m_Mo_makes.1 m_Mo_makes.2.1 m_Mo_makes.2.2.1 m_Mo_makes.2.2.2 ∈ GW := gwm 896 rfl rfl
set_option maxRecDepth 100000 in
theorem k_Mo_ask : Cond.code m_Mo_ask.1 m_Mo_ask.2.1 m_Mo_ask.2.2.1 m_Mo_ask.2.2.2 ∈ GW := gwm 797 rfl rfl
set_option maxRecDepth 100000 in
theorem k_Mo_isOutput : Cond.code m_Mo_isOutput.1 m_Mo_isOutput.2.1 m_Mo_isOutput.2.2.1 m_Mo_isOutput.2.2.2 ∈ GW := gwm 786 rfl rfl
set_option maxRecDepth 100000 in
theorem k_Mo_submit : Cond.code m_Mo_submit.1 m_Mo_submit.2.1 m_Mo_submit.2.2.1 m_Mo_submit.2.2.2 ∈ GW := gwm 782 rfl rfl
set_option maxRecDepth 100000 in
theorem k_Mo_answer : Cond.code m_Mo_answer.1 m_Mo_answer.2.1 m_Mo_answer.2.2.1 m_Mo_answer.2.2.2 ∈ GW := gwm 892 rfl rfl
set_option maxRecDepth 100000 in
theorem k_Mo_answers : Cond.code m_Mo_answers.1 m_Mo_answers.2.1 m_Mo_answers.2.2.1 m_Mo_answers.2.2.2 ∈ GW := gwm 888 rfl rfl
set_option maxRecDepth 100000 in
theorem k_Mo_look : Cond.code m_Mo_look.1 m_Mo_look.2.1 m_Mo_look.2.2.1 m_Mo_look.2.2.2 ∈ GW := gwm 884 rfl rfl
set_option maxRecDepth 100000 in
theorem k_Mo_client : Cond.code m_Mo_client.1 m_Mo_client.2.1 m_Mo_client.2.2.1 m_Mo_client.2.2.2 ∈ GW := gwm 880 rfl rfl
set_option maxRecDepth 100000 in
theorem k_Mo_execute : Cond.code m_Mo_execute.1 m_Mo_execute.2.1 m_Mo_execute.2.2.1 m_Mo_execute.2.2.2 ∈ GW := gwm 848 rfl rfl
set_option maxRecDepth 100000 in
theorem k_Mo_send : Cond.code m_Mo_send.1 m_Mo_send.2.1 m_Mo_send.2.2.1 m_Mo_send.2.2.2 ∈ GW := gwm 864 rfl rfl
set_option maxRecDepth 100000 in
theorem k_Mo_part : Cond.code m_Mo_part.1 m_Mo_part.2.1 m_Mo_part.2.2.1 m_Mo_part.2.2.2 ∈ GW := gwm 820 rfl rfl
set_option maxRecDepth 100000 in
theorem k_Mo_lieAt : Cond.code m_Mo_lieAt.1 m_Mo_lieAt.2.1 m_Mo_lieAt.2.2.1 m_Mo_lieAt.2.2.2 ∈ GW := gwm 829 rfl rfl
set_option maxRecDepth 100000 in
theorem k_Mo_count : Cond.code m_Mo_count.1 m_Mo_count.2.1 m_Mo_count.2.2.1 m_Mo_count.2.2.2 ∈ GW := gwm 825 rfl rfl
set_option maxRecDepth 100000 in
theorem k_Mo_survey : Cond.code m_Mo_survey.1 m_Mo_survey.2.1 m_Mo_survey.2.2.1 m_Mo_survey.2.2.2 ∈ GW := gwm 817 rfl rfl
set_option maxRecDepth 100000 in
theorem k_Mo_bits : Cond.code m_Mo_bits.1 m_Mo_bits.2.1 m_Mo_bits.2.2.1 m_Mo_bits.2.2.2 ∈ GW := gwm 844 rfl rfl
set_option maxRecDepth 100000 in
theorem k_Mo_three : Cond.code m_Mo_three.1 m_Mo_three.2.1 m_Mo_three.2.2.1 m_Mo_three.2.2.2 ∈ GW := gwm 841 rfl rfl
set_option maxRecDepth 100000 in
theorem k_Mo_all : Cond.code m_Mo_all.1 m_Mo_all.2.1 m_Mo_all.2.2.1 m_Mo_all.2.2.2 ∈ GW := gwm 920 rfl rfl
set_option maxRecDepth 100000 in
theorem k_Mo_anyKind : Cond.code m_Mo_anyKind.1 m_Mo_anyKind.2.1 m_Mo_anyKind.2.2.1 m_Mo_anyKind.2.2.2 ∈ GW := gwm 856 rfl rfl
set_option maxRecDepth 100000 in
theorem k_Mo_good : Cond.code m_Mo_good.1 m_Mo_good.2.1 m_Mo_good.2.2.1 m_Mo_good.2.2.2 ∈ GW := gwm 837 rfl rfl
set_option maxRecDepth 100000 in
theorem k_Mo_decides : Cond.code m_Mo_decides.1 m_Mo_decides.2.1 m_Mo_decides.2.2.1 m_Mo_decides.2.2.2 ∈ GW := gwm 833 rfl rfl
set_option maxRecDepth 100000 in
theorem k_Mo_follows : Cond.code m_Mo_follows.1 m_Mo_follows.2.1 m_Mo_follows.2.2.1 m_Mo_follows.2.2.2 ∈ GW := gwm 852 rfl rfl
set_option maxRecDepth 100000 in
theorem k_Mo_proposes : Cond.code m_Mo_proposes.1 m_Mo_proposes.2.1 m_Mo_proposes.2.2.1 m_Mo_proposes.2.2.2 ∈ GW := gwm 860 rfl rfl
set_option maxRecDepth 100000 in
theorem k_Mo_votes : Cond.code m_Mo_votes.1 m_Mo_votes.2.1 m_Mo_votes.2.2.1 m_Mo_votes.2.2.2 ∈ GW := gwm 868 rfl rfl
set_option maxRecDepth 100000 in
theorem k_Mo_accepts : Cond.code m_Mo_accepts.1 m_Mo_accepts.2.1 m_Mo_accepts.2.2.1 m_Mo_accepts.2.2.2 ∈ GW := gwm 872 rfl rfl
set_option maxRecDepth 100000 in
theorem k_Mo_skips : Cond.code m_Mo_skips.1 m_Mo_skips.2.1 m_Mo_skips.2.2.1 m_Mo_skips.2.2.2 ∈ GW := gwm 876 rfl rfl
set_option maxRecDepth 100000 in
theorem k_Mo_one : Cond.code m_Mo_one.1 m_Mo_one.2.1 m_Mo_one.2.2.1 m_Mo_one.2.2.2 ∈ GW := gwm 813 rfl rfl
set_option maxRecDepth 100000 in
theorem k_Mo_act : Cond.code m_Mo_act.1 m_Mo_act.2.1 m_Mo_act.2.2.1 m_Mo_act.2.2.2 ∈ GW := gwm 805 rfl rfl
set_option maxRecDepth 100000 in
theorem k_Mo_allAct : Cond.code m_Mo_allAct.1 m_Mo_allAct.2.1 m_Mo_allAct.2.2.1 m_Mo_allAct.2.2.2 ∈ GW := gwm 801 rfl rfl
set_option maxRecDepth 100000 in
theorem k_Mo_can : Cond.code m_Mo_can.1 m_Mo_can.2.1 m_Mo_can.2.2.1 m_Mo_can.2.2.2 ∈ GW := gwm 904 rfl rfl
set_option maxRecDepth 100000 in
theorem k_Mo_take : Cond.code m_Mo_take.1 m_Mo_take.2.1 m_Mo_take.2.2.1 m_Mo_take.2.2.2 ∈ GW := gwm 908 rfl rfl
set_option maxRecDepth 100000 in
theorem k_Mo_deliver : Cond.code m_Mo_deliver.1 m_Mo_deliver.2.1 m_Mo_deliver.2.2.1 m_Mo_deliver.2.2.2 ∈ GW := gwm 900 rfl rfl
set_option maxRecDepth 100000 in
theorem k_Mo_flood : Cond.code m_Mo_flood.1 m_Mo_flood.2.1 m_Mo_flood.2.2.1 m_Mo_flood.2.2.2 ∈ GW := gwm 912 rfl rfl
set_option maxRecDepth 100000 in
theorem k_Mo_tick : Cond.code m_Mo_tick.1 m_Mo_tick.2.1 m_Mo_tick.2.2.1 m_Mo_tick.2.2.2 ∈ GW := gwm 916 rfl rfl
set_option maxRecDepth 100000 in
theorem k_Mo_sleep : Cond.code m_Mo_sleep.1 m_Mo_sleep.2.1 m_Mo_sleep.2.2.1 m_Mo_sleep.2.2.2 ∈ GW := gwm 924 rfl rfl
set_option maxRecDepth 100000 in
theorem k_Mo_lie : Cond.code m_Mo_lie.1 m_Mo_lie.2.1 m_Mo_lie.2.2.1 m_Mo_lie.2.2.2 ∈ GW := gwm 928 rfl rfl
set_option maxRecDepth 100000 in
theorem k_Mo_messages : Cond.code m_Mo_messages.1 m_Mo_messages.2.1 m_Mo_messages.2.2.1 m_Mo_messages.2.2.2 ∈ GW := gwm 932 rfl rfl
set_option maxRecDepth 100000 in
theorem k_Mo_message : Cond.code m_Mo_message.1 m_Mo_message.2.1 m_Mo_message.2.2.1 m_Mo_message.2.2.2 ∈ GW := gwm 936 rfl rfl
set_option maxRecDepth 100000 in
theorem k_Mo_replica : Cond.code m_Mo_replica.1 m_Mo_replica.2.1 m_Mo_replica.2.2.1 m_Mo_replica.2.2.2 ∈ GW := gwm 940 rfl rfl
set_option maxRecDepth 100000 in
theorem k_Mo_executed : Cond.code m_Mo_executed.1 m_Mo_executed.2.1 m_Mo_executed.2.2.1 m_Mo_executed.2.2.2 ∈ GW := gwm 944 rfl rfl
set_option maxRecDepth 100000 in
theorem k_Mo_output : Cond.code m_Mo_output.1 m_Mo_output.2.1 m_Mo_output.2.2.1 m_Mo_output.2.2.2 ∈ GW := gwm 948 rfl rfl
set_option maxRecDepth 100000 in
theorem k_Mo_value : Cond.code m_Mo_value.1 m_Mo_value.2.1 m_Mo_value.2.2.1 m_Mo_value.2.2.2 ∈ GW := gwm 952 rfl rfl
set_option maxRecDepth 100000 in
theorem k_Mo_requests : Cond.code m_Mo_requests.1 m_Mo_requests.2.1 m_Mo_requests.2.2.1 m_Mo_requests.2.2.2 ∈ GW := gwm 956 rfl rfl
set_option maxRecDepth 100000 in
theorem k_Mo_request : Cond.code m_Mo_request.1 m_Mo_request.2.1 m_Mo_request.2.2.1 m_Mo_request.2.2.2 ∈ GW := gwm 960 rfl rfl
set_option maxRecDepth 100000 in
theorem k_Mo_transaction : Cond.code m_Mo_transaction.1 m_Mo_transaction.2.1 m_Mo_transaction.2.2.1 m_Mo_transaction.2.2.2 ∈ GW := gwm 964 rfl rfl
set_option maxRecDepth 100000 in
theorem k_Ch_init : Cond.code m_Ch_init.1 m_Ch_init.2.1 m_Ch_init.2.2.1 m_Ch_init.2.2.2 ∈ GW := gwm 188 rfl rfl
set_option maxRecDepth 100000 in
theorem k_Ch_set : Cond.code m_Ch_set.1 m_Ch_set.2.1 m_Ch_set.2.2.1 m_Ch_set.2.2.2 ∈ GW := gwm 403 rfl rfl
set_option maxRecDepth 100000 in
theorem k_Ch_clear : Cond.code m_Ch_clear.1 m_Ch_clear.2.1 m_Ch_clear.2.2.1 m_Ch_clear.2.2.2 ∈ GW := gwm 399 rfl rfl
set_option maxRecDepth 100000 in
theorem k_Ho_init : Cond.code m_Ho_init.1 m_Ho_init.2.1 m_Ho_init.2.2.1 m_Ho_init.2.2.2 ∈ GW := gwm 153 rfl rfl
set_option maxRecDepth 100000 in
theorem k_Ho_stateOf : Cond.code m_Ho_stateOf.1 m_Ho_stateOf.2.1 m_Ho_stateOf.2.2.1 m_Ho_stateOf.2.2.2 ∈ GW := gwm 650 rfl rfl
set_option maxRecDepth 100000 in
theorem k_Ho_worth : Cond.code m_Ho_worth.1 m_Ho_worth.2.1 m_Ho_worth.2.2.1 m_Ho_worth.2.2.2 ∈ GW := gwm 658 rfl rfl
set_option maxRecDepth 100000 in
theorem k_Ho_carryOut : Cond.code m_Ho_carryOut.1 m_Ho_carryOut.2.1 m_Ho_carryOut.2.2.1 m_Ho_carryOut.2.2.2 ∈ GW := gwm 367 rfl rfl
set_option maxRecDepth 100000 in
theorem k_Ho_lockInputs : Cond.code m_Ho_lockInputs.1 m_Ho_lockInputs.2.1 m_Ho_lockInputs.2.2.1 m_Ho_lockInputs.2.2.2 ∈ GW := gwm 371 rfl rfl
set_option maxRecDepth 100000 in
theorem k_Ho_spendInputs : Cond.code m_Ho_spendInputs.1 m_Ho_spendInputs.2.1 m_Ho_spendInputs.2.2.1 m_Ho_spendInputs.2.2.2 ∈ GW := gwm 379 rfl rfl
set_option maxRecDepth 100000 in
theorem k_Ho_freeInputs : Cond.code m_Ho_freeInputs.1 m_Ho_freeInputs.2.1 m_Ho_freeInputs.2.2.1 m_Ho_freeInputs.2.2.2 ∈ GW := gwm 387 rfl rfl
set_option maxRecDepth 100000 in
theorem k_In_init : Cond.code m_In_init.1 m_In_init.2.1 m_In_init.2.2.1 m_In_init.2.2.2 ∈ GW := gwm 177 rfl rfl
set_option maxRecDepth 100000 in
theorem k_In_put : Cond.code m_In_put.1 m_In_put.2.1 m_In_put.2.2.1 m_In_put.2.2.2 ∈ GW := gwm 474 rfl rfl
set_option maxRecDepth 100000 in
theorem k_In_find : Cond.code m_In_find.1 m_In_find.2.1 m_In_find.2.2.1 m_In_find.2.2.2 ∈ GW := gwm 335 rfl rfl
set_option maxRecDepth 100000 in
theorem k_In_clear : Cond.code m_In_clear.1 m_In_clear.2.1 m_In_clear.2.2.1 m_In_clear.2.2.2 ∈ GW := gwm 407 rfl rfl
set_option maxRecDepth 100000 in
theorem k_In_hasQuorumFor : Cond.code m_In_hasQuorumFor.1 m_In_hasQuorumFor.2.1 m_In_hasQuorumFor.2.2.1 m_In_hasQuorumFor.2.2.2 ∈ GW := gwm 350 rfl rfl
set_option maxRecDepth 100000 in
theorem k_In_hasQuorumOfAny : Cond.code m_In_hasQuorumOfAny.1 m_In_hasQuorumOfAny.2.1 m_In_hasQuorumOfAny.2.2.1 m_In_hasQuorumOfAny.2.2.2 ∈ GW := gwm 593 rfl rfl
set_option maxRecDepth 100000 in
theorem k_In_countSenders : Cond.code m_In_countSenders.1 m_In_countSenders.2.1 m_In_countSenders.2.2.1 m_In_countSenders.2.2.2 ∈ GW := gwm 415 rfl rfl
set_option maxRecDepth 100000 in
theorem k_In_slot : Cond.code m_In_slot.1 m_In_slot.2.1 m_In_slot.2.2.1 m_In_slot.2.2.2 ∈ GW := gwm 338 rfl rfl
set_option maxRecDepth 100000 in
theorem k_Me_init : Cond.code m_Me_init.1 m_Me_init.2.1 m_Me_init.2.2.1 m_Me_init.2.2.2 ∈ GW := gwm 436 rfl rfl
set_option maxRecDepth 100000 in
theorem k_Me_isTakenBy : Cond.code m_Me_isTakenBy.1 m_Me_isTakenBy.2.1 m_Me_isTakenBy.2.2.1 m_Me_isTakenBy.2.2.2 ∈ GW := gwm 567 rfl rfl
set_option maxRecDepth 100000 in
theorem k_Me_setTakenBy : Cond.code m_Me_setTakenBy.1 m_Me_setTakenBy.2.1 m_Me_setTakenBy.2.2.1 m_Me_setTakenBy.2.2.2 ∈ GW := gwm 571 rfl rfl
set_option maxRecDepth 100000 in
theorem k_Me_tell : Cond.code m_Me_tell.1 m_Me_tell.2.1 m_Me_tell.2.2.1 m_Me_tell.2.2.2 ∈ GW := gwm 626 rfl rfl
set_option maxRecDepth 100000 in
theorem k_Lo_init : Cond.code m_Lo_init.1 m_Lo_init.2.1 m_Lo_init.2.2.1 m_Lo_init.2.2.2 ∈ GW := gwm 136 rfl rfl
set_option maxRecDepth 100000 in
theorem k_Lo_count : Cond.code m_Lo_count.1 m_Lo_count.2.1 m_Lo_count.2.2.1 m_Lo_count.2.2.2 ∈ GW := gwm 618 rfl rfl
set_option maxRecDepth 100000 in
theorem k_Lo_add : Cond.code m_Lo_add.1 m_Lo_add.2.1 m_Lo_add.2.2.1 m_Lo_add.2.2.2 ∈ GW := gwm 470 rfl rfl
set_option maxRecDepth 100000 in
theorem k_Lo_messageAt : Cond.code m_Lo_messageAt.1 m_Lo_messageAt.2.1 m_Lo_messageAt.2.2.1 m_Lo_messageAt.2.2.2 ∈ GW := gwm 559 rfl rfl
set_option maxRecDepth 100000 in
theorem k_Re_init : Cond.code m_Re_init.1 m_Re_init.2.1 m_Re_init.2.2.1 m_Re_init.2.2.2 ∈ GW := gwm 171 rfl rfl
set_option maxRecDepth 100000 in
theorem k_Re_accept : Cond.code m_Re_accept.1 m_Re_accept.2.1 m_Re_accept.2.2.1 m_Re_accept.2.2.2 ∈ GW := gwm 563 rfl rfl
set_option maxRecDepth 100000 in
theorem k_Re_believe : Cond.code m_Re_believe.1 m_Re_believe.2.1 m_Re_believe.2.2.1 m_Re_believe.2.2.2 ∈ GW := gwm 610 rfl rfl
set_option maxRecDepth 100000 in
theorem k_Re_losePatience : Cond.code m_Re_losePatience.1 m_Re_losePatience.2.1 m_Re_losePatience.2.2.1 m_Re_losePatience.2.2.2 ∈ GW := gwm 589 rfl rfl
set_option maxRecDepth 100000 in
theorem k_Re_turnSleep : Cond.code m_Re_turnSleep.1 m_Re_turnSleep.2.1 m_Re_turnSleep.2.2.1 m_Re_turnSleep.2.2.2 ∈ GW := gwm 601 rfl rfl
set_option maxRecDepth 100000 in
theorem k_Re_act : Cond.code m_Re_act.1 m_Re_act.2.1 m_Re_act.2.2.1 m_Re_act.2.2.2 ∈ GW := gwm 314 rfl rfl
set_option maxRecDepth 100000 in
theorem k_Re_tell : Cond.code m_Re_tell.1 m_Re_tell.2.1 m_Re_tell.2.2.1 m_Re_tell.2.2.2 ∈ GW := gwm 634 rfl rfl
set_option maxRecDepth 100000 in
theorem k_Re_executedAt : Cond.code m_Re_executedAt.1 m_Re_executedAt.2.1 m_Re_executedAt.2.2.1 m_Re_executedAt.2.2.2 ∈ GW := gwm 642 rfl rfl
set_option maxRecDepth 100000 in
theorem k_Re_isIdle : Cond.code m_Re_isIdle.1 m_Re_isIdle.2.1 m_Re_isIdle.2.2.1 m_Re_isIdle.2.2.2 ∈ GW := gwm 318 rfl rfl
set_option maxRecDepth 100000 in
theorem k_Re_executeSealed : Cond.code m_Re_executeSealed.1 m_Re_executeSealed.2.1 m_Re_executeSealed.2.2.1 m_Re_executeSealed.2.2.2 ∈ GW := gwm 323 rfl rfl
set_option maxRecDepth 100000 in
theorem k_Re_sealedRequest : Cond.code m_Re_sealedRequest.1 m_Re_sealedRequest.2.1 m_Re_sealedRequest.2.2.1 m_Re_sealedRequest.2.2.2 ∈ GW := gwm 327 rfl rfl
set_option maxRecDepth 100000 in
theorem k_Re_joinHigherRound : Cond.code m_Re_joinHigherRound.1 m_Re_joinHigherRound.2.1 m_Re_joinHigherRound.2.2.1 m_Re_joinHigherRound.2.2.2 ∈ GW := gwm 411 rfl rfl
set_option maxRecDepth 100000 in
theorem k_Re_propose : Cond.code m_Re_propose.1 m_Re_propose.2.1 m_Re_propose.2.2.1 m_Re_propose.2.2.2 ∈ GW := gwm 419 rfl rfl
set_option maxRecDepth 100000 in
theorem k_Re_vote : Cond.code m_Re_vote.1 m_Re_vote.2.1 m_Re_vote.2.2.1 m_Re_vote.2.2.2 ∈ GW := gwm 478 rfl rfl
set_option maxRecDepth 100000 in
theorem k_Re_chooseCandidate : Cond.code m_Re_chooseCandidate.1 m_Re_chooseCandidate.2.1 m_Re_chooseCandidate.2.2.1 m_Re_chooseCandidate.2.2.2 ∈ GW := gwm 494 rfl rfl
set_option maxRecDepth 100000 in
theorem k_Re_sealNone : Cond.code m_Re_sealNone.1 m_Re_sealNone.2.1 m_Re_sealNone.2.2.1 m_Re_sealNone.2.2.2 ∈ GW := gwm 503 rfl rfl
set_option maxRecDepth 100000 in
theorem k_Re_isBacked : Cond.code m_Re_isBacked.1 m_Re_isBacked.2.1 m_Re_isBacked.2.2.1 m_Re_isBacked.2.2.2 ∈ GW := gwm 482 rfl rfl
set_option maxRecDepth 100000 in
theorem k_Re_isWelcome : Cond.code m_Re_isWelcome.1 m_Re_isWelcome.2.1 m_Re_isWelcome.2.2.1 m_Re_isWelcome.2.2.2 ∈ GW := gwm 486 rfl rfl
set_option maxRecDepth 100000 in
theorem k_Re_isGood : Cond.code m_Re_isGood.1 m_Re_isGood.2.1 m_Re_isGood.2.2.1 m_Re_isGood.2.2.2 ∈ GW := gwm 342 rfl rfl
set_option maxRecDepth 100000 in
theorem k_Re_firstGood : Cond.code m_Re_firstGood.1 m_Re_firstGood.2.1 m_Re_firstGood.2.2.1 m_Re_firstGood.2.2.2 ∈ GW := gwm 423 rfl rfl
set_option maxRecDepth 100000 in
theorem k_Re_leaderOf : Cond.code m_Re_leaderOf.1 m_Re_leaderOf.2.1 m_Re_leaderOf.2.2.1 m_Re_leaderOf.2.2.2 ∈ GW := gwm 331 rfl rfl
set_option maxRecDepth 100000 in
theorem k_Re_enterRound : Cond.code m_Re_enterRound.1 m_Re_enterRound.2.1 m_Re_enterRound.2.2.1 m_Re_enterRound.2.2.2 ∈ GW := gwm 395 rfl rfl
set_option maxRecDepth 100000 in
theorem k_Re_sendVote : Cond.code m_Re_sendVote.1 m_Re_sendVote.2.1 m_Re_sendVote.2.2.1 m_Re_sendVote.2.2.2 ∈ GW := gwm 490 rfl rfl
set_option maxRecDepth 100000 in
theorem k_Re_sendSeal : Cond.code m_Re_sendSeal.1 m_Re_sendSeal.2.1 m_Re_sendSeal.2.2.1 m_Re_sendSeal.2.2.2 ∈ GW := gwm 499 rfl rfl
set_option maxRecDepth 100000 in
theorem k_Re_send : Cond.code m_Re_send.1 m_Re_send.2.1 m_Re_send.2.2.1 m_Re_send.2.2.2 ∈ GW := gwm 431 rfl rfl
set_option maxRecDepth 100000 in
theorem k_Rb_init : Cond.code m_Rb_init.1 m_Rb_init.2.1 m_Rb_init.2.2.1 m_Rb_init.2.2.2 ∈ GW := gwm 104 rfl rfl
set_option maxRecDepth 100000 in
theorem k_Rb_count : Cond.code m_Rb_count.1 m_Rb_count.2.1 m_Rb_count.2.2.1 m_Rb_count.2.2.2 ∈ GW := gwm 427 rfl rfl
set_option maxRecDepth 100000 in
theorem k_Rb_has : Cond.code m_Rb_has.1 m_Rb_has.2.1 m_Rb_has.2.2.1 m_Rb_has.2.2.2 ∈ GW := gwm 359 rfl rfl
set_option maxRecDepth 100000 in
theorem k_Rb_make : Cond.code m_Rb_make.1 m_Rb_make.2.1 m_Rb_make.2.2.1 m_Rb_make.2.2.2 ∈ GW := gwm 306 rfl rfl
set_option maxRecDepth 100000 in
theorem k_Rb_isFor : Cond.code m_Rb_isFor.1 m_Rb_isFor.2.1 m_Rb_isFor.2.2.1 m_Rb_isFor.2.2.2 ∈ GW := gwm 346 rfl rfl
set_option maxRecDepth 100000 in
theorem k_Rb_kindOf : Cond.code m_Rb_kindOf.1 m_Rb_kindOf.2.1 m_Rb_kindOf.2.2.1 m_Rb_kindOf.2.2.2 ∈ GW := gwm 355 rfl rfl
set_option maxRecDepth 100000 in
theorem k_Rb_transactionOf : Cond.code m_Rb_transactionOf.1 m_Rb_transactionOf.2.1 m_Rb_transactionOf.2.2.1 m_Rb_transactionOf.2.2.2 ∈ GW := gwm 363 rfl rfl
set_option maxRecDepth 100000 in
theorem k_Rb_noteExecution : Cond.code m_Rb_noteExecution.1 m_Rb_noteExecution.2.1 m_Rb_noteExecution.2.2.1 m_Rb_noteExecution.2.2.2 ∈ GW := gwm 391 rfl rfl
set_option maxRecDepth 100000 in
theorem k_Rb_outcome : Cond.code m_Rb_outcome.1 m_Rb_outcome.2.1 m_Rb_outcome.2.2.1 m_Rb_outcome.2.2.2 ∈ GW := gwm 524 rfl rfl
set_option maxRecDepth 100000 in
theorem k_Rb_tell : Cond.code m_Rb_tell.1 m_Rb_tell.2.1 m_Rb_tell.2.2.1 m_Rb_tell.2.2.2 ∈ GW := gwm 671 rfl rfl
set_option maxRecDepth 100000 in
theorem k_Rb_answer : Cond.code m_Rb_answer.1 m_Rb_answer.2.1 m_Rb_answer.2.2.1 m_Rb_answer.2.2.2 ∈ GW := gwm 528 rfl rfl
set_option maxRecDepth 100000 in
theorem k_Sh_init : Cond.code m_Sh_init.1 m_Sh_init.2.1 m_Sh_init.2.2.1 m_Sh_init.2.2.2 ∈ GW := gwm 130 rfl rfl
set_option maxRecDepth 100000 in
theorem k_Sh_replicaAt : Cond.code m_Sh_replicaAt.1 m_Sh_replicaAt.2.1 m_Sh_replicaAt.2.2.1 m_Sh_replicaAt.2.2.2 ∈ GW := gwm 555 rfl rfl
set_option maxRecDepth 100000 in
theorem k_Tb_init : Cond.code m_Tb_init.1 m_Tb_init.2.1 m_Tb_init.2.2.1 m_Tb_init.2.2.2 ∈ GW := gwm 81 rfl rfl
set_option maxRecDepth 100000 in
theorem k_Tb_count : Cond.code m_Tb_count.1 m_Tb_count.2.1 m_Tb_count.2.2.1 m_Tb_count.2.2.2 ∈ GW := gwm 512 rfl rfl
set_option maxRecDepth 100000 in
theorem k_Tb_isFull : Cond.code m_Tb_isFull.1 m_Tb_isFull.2.1 m_Tb_isFull.2.2.1 m_Tb_isFull.2.2.2 ∈ GW := gwm 289 rfl rfl
set_option maxRecDepth 100000 in
theorem k_Tb_has : Cond.code m_Tb_has.1 m_Tb_has.2.1 m_Tb_has.2.2.1 m_Tb_has.2.2.2 ∈ GW := gwm 302 rfl rfl
set_option maxRecDepth 100000 in
theorem k_Tb_isProper : Cond.code m_Tb_isProper.1 m_Tb_isProper.2.1 m_Tb_isProper.2.2.1 m_Tb_isProper.2.2.2 ∈ GW := gwm 270 rfl rfl
set_option maxRecDepth 100000 in
theorem k_Tb_add : Cond.code m_Tb_add.1 m_Tb_add.2.1 m_Tb_add.2.2.1 m_Tb_add.2.2.2 ∈ GW := gwm 293 rfl rfl
set_option maxRecDepth 100000 in
theorem k_Tb_stateOf : Cond.code m_Tb_stateOf.1 m_Tb_stateOf.2.1 m_Tb_stateOf.2.2.1 m_Tb_stateOf.2.2.2 ∈ GW := gwm 520 rfl rfl
set_option maxRecDepth 100000 in
theorem k_Tb_setState : Cond.code m_Tb_setState.1 m_Tb_setState.2.1 m_Tb_setState.2.2.1 m_Tb_setState.2.2.2 ∈ GW := gwm 543 rfl rfl
set_option maxRecDepth 100000 in
theorem k_Tb_amountOf : Cond.code m_Tb_amountOf.1 m_Tb_amountOf.2.1 m_Tb_amountOf.2.2.1 m_Tb_amountOf.2.2.2 ∈ GW := gwm 285 rfl rfl
set_option maxRecDepth 100000 in
theorem k_Tb_isInput : Cond.code m_Tb_isInput.1 m_Tb_isInput.2.1 m_Tb_isInput.2.2.1 m_Tb_isInput.2.2.2 ∈ GW := gwm 375 rfl rfl
set_option maxRecDepth 100000 in
theorem k_Tb_isMade : Cond.code m_Tb_isMade.1 m_Tb_isMade.2.1 m_Tb_isMade.2.2.1 m_Tb_isMade.2.2.2 ∈ GW := gwm 383 rfl rfl
set_option maxRecDepth 100000 in
theorem k_Tb_hasInputIn : Cond.code m_Tb_hasInputIn.1 m_Tb_hasInputIn.2.1 m_Tb_hasInputIn.2.2.1 m_Tb_hasInputIn.2.2.2 ∈ GW := gwm 298 rfl rfl
set_option maxRecDepth 100000 in
theorem k_Tb_hasOutputIn : Cond.code m_Tb_hasOutputIn.1 m_Tb_hasOutputIn.2.1 m_Tb_hasOutputIn.2.2.1 m_Tb_hasOutputIn.2.2.2 ∈ GW := gwm 539 rfl rfl
set_option maxRecDepth 100000 in
theorem k_Tb_isOutput : Cond.code m_Tb_isOutput.1 m_Tb_isOutput.2.1 m_Tb_isOutput.2.2.1 m_Tb_isOutput.2.2.2 ∈ GW := gwm 274 rfl rfl
set_option maxRecDepth 100000 in
theorem k_Tb_sum : Cond.code m_Tb_sum.1 m_Tb_sum.2.1 m_Tb_sum.2.2.1 m_Tb_sum.2.2.2 ∈ GW := gwm 281 rfl rfl
set_option maxRecDepth 100000 in
theorem k_Tb_evenOutput : Cond.code m_Tb_evenOutput.1 m_Tb_evenOutput.2.1 m_Tb_evenOutput.2.2.1 m_Tb_evenOutput.2.2.2 ∈ GW := gwm 277 rfl rfl
set_option maxRecDepth 100000 in
theorem k_La_cell : Cond.code m_La_cell.1 m_La_cell.2.1 m_La_cell.2.2.1 m_La_cell.2.2.2 ∈ GW := gwm 679 rfl rfl
theorem o_Sl_3 : Cond.methodLink R_Sl 3 Lib.objectInit ∈ GW := gwm 74 (by decide +kernel) rfl
theorem n_Sl_9 {l : Launch} {D : va_G} : jNf (G0 l D) R_Sl 9 8 5 [.null, .null, .null, .null, .int 0] := ⟨R_Tb, F_Tb, t_Tb, rfl, ws_Tb, gwm 77 (by decide +kernel) rfl, gwm 78 (by decide +kernel) rfl, gwm 58 (by decide +kernel) rfl, ty_Tb, by decide +kernel⟩
theorem c_Sl_11 {l : Launch} {D : va_G} : jCI (G0 l D) R_Sl 11 m_Tb_init 0 := ⟨⟨gwm 79 (by decide +kernel) rfl, gwm 58 (by decide +kernel) rfl, k_Tb_init, ⟨by decide, by decide, by decide +kernel⟩, by decide⟩, gwm 80 (by decide +kernel) rfl, rfl, rfl⟩
theorem n_Sl_12 {l : Launch} {D : va_G} : jNf (G0 l D) R_Sl 12 6 6 [.null, .null, .null, .null, .null, .int 0] := ⟨R_Rb, F_Rb, t_Rb, rfl, ws_Rb, gwm 100 (by decide +kernel) rfl, gwm 101 (by decide +kernel) rfl, gwm 59 (by decide +kernel) rfl, ty_Rb, by decide +kernel⟩
theorem c_Sl_14 {l : Launch} {D : va_G} : jCN (G0 l D) R_Sl 14 m_Rb_init "ShardLedger" 0 := ⟨fun s h => h.1, gwm 59 (by decide +kernel) rfl, k_Rb_init, ⟨by decide, by decide, by decide +kernel⟩, by decide, gwm 103 (by decide +kernel) rfl, rfl, rfl⟩
theorem a_Sl_15 : Cond.classLink R_Sl 15 "ShardLedger$Shard" ∈ GW := gwm 125 (by decide +kernel) rfl
theorem p_Sl_17 {l : Launch} {D : va_G} : jPf (G0 l D) R_Sl 17 9 2 (.array (.object "ShardLedger$Shard")) true := ⟨R_Sl, F_Sl, 3, t_Sl, rfl, by decide, ws_Sl, gwm 255 (by decide +kernel) rfl, ty_Sl, nm_Sl, rfl, ty_Sl 2 (by decide), rfl⟩
theorem f_Sl_17 {l : Launch} {D : va_G} : jF (G0 l D) R_Sl 17 9 2 := ⟨R_Sl, F_Sl, 3, rfl, by decide, ws_Sl, gwm 255 (by decide +kernel) rfl⟩
theorem n_Sl_15 {l : Launch} {D : va_G} : jNf (G0 l D) R_Sl 15 7 2 [.null, .null] := ⟨R_Sh, F_Sh, t_Sh, rfl, ws_Sh, gwm 125 (by decide +kernel) rfl, gwm 127 (by decide +kernel) rfl, gwm 60 (by decide +kernel) rfl, ty_Sh, by decide +kernel⟩
theorem c_Sl_21 {l : Launch} {D : va_G} : jCI (G0 l D) R_Sl 21 m_Sh_init 4 := ⟨⟨gwm 128 (by decide +kernel) rfl, gwm 60 (by decide +kernel) rfl, k_Sh_init, ⟨by decide, by decide, by decide +kernel⟩, by decide⟩, gwm 129 (by decide +kernel) rfl, rfl, rfl⟩
theorem p_Sl_24 {l : Launch} {D : va_G} : jPf (G0 l D) R_Sl 24 9 0 (.object "ShardLedger$TransactionBook") true := ⟨R_Sl, F_Sl, 3, t_Sl, rfl, by decide, ws_Sl, gwm 253 (by decide +kernel) rfl, ty_Sl, nm_Sl, rfl, ty_Sl 0 (by decide), rfl⟩
theorem p_Sl_28 {l : Launch} {D : va_G} : jPf (G0 l D) R_Sl 28 9 1 (.object "ShardLedger$RequestBook") true := ⟨R_Sl, F_Sl, 3, t_Sl, rfl, by decide, ws_Sl, gwm 254 (by decide +kernel) rfl, ty_Sl, nm_Sl, rfl, ty_Sl 1 (by decide), rfl⟩
theorem f_Sl_24 {l : Launch} {D : va_G} : jF (G0 l D) R_Sl 24 9 0 := ⟨R_Sl, F_Sl, 3, rfl, by decide, ws_Sl, gwm 253 (by decide +kernel) rfl⟩
theorem c_Sl_32 {l : Launch} {D : va_G} : jCV (G0 l D) R_Sl 32 m_Tb_isProper 3 := ⟨⟨gwm 267 (by decide +kernel) rfl, gwm 58 (by decide +kernel) rfl, k_Tb_isProper, ⟨by decide, by decide, by decide +kernel⟩, by decide⟩, gwm 268 (by decide +kernel) rfl, gwm 269 (by decide +kernel) rfl⟩
theorem c_Sl_36 {l : Launch} {D : va_G} : jCV (G0 l D) R_Sl 36 m_Tb_isFull 0 := ⟨⟨gwm 286 (by decide +kernel) rfl, gwm 58 (by decide +kernel) rfl, k_Tb_isFull, ⟨by decide, by decide, by decide +kernel⟩, by decide⟩, gwm 287 (by decide +kernel) rfl, gwm 288 (by decide +kernel) rfl⟩
theorem c_Sl_40 {l : Launch} {D : va_G} : jCV (G0 l D) R_Sl 40 m_Tb_add 3 := ⟨⟨gwm 290 (by decide +kernel) rfl, gwm 58 (by decide +kernel) rfl, k_Tb_add, ⟨by decide, by decide, by decide +kernel⟩, by decide⟩, gwm 291 (by decide +kernel) rfl, gwm 292 (by decide +kernel) rfl⟩
theorem c_Sl_44 {l : Launch} {D : va_G} : jCV (G0 l D) R_Sl 44 m_Tb_hasInputIn 2 := ⟨⟨gwm 295 (by decide +kernel) rfl, gwm 58 (by decide +kernel) rfl, k_Tb_hasInputIn, ⟨by decide, by decide, by decide +kernel⟩, by decide⟩, gwm 296 (by decide +kernel) rfl, gwm 297 (by decide +kernel) rfl⟩
theorem f_Sl_28 {l : Launch} {D : va_G} : jF (G0 l D) R_Sl 28 9 1 := ⟨R_Sl, F_Sl, 3, rfl, by decide, ws_Sl, gwm 254 (by decide +kernel) rfl⟩
theorem c_Sl_48 {l : Launch} {D : va_G} : jCV (G0 l D) R_Sl 48 m_Rb_make 3 := ⟨⟨gwm 303 (by decide +kernel) rfl, gwm 59 (by decide +kernel) rfl, k_Rb_make, ⟨by decide, by decide, by decide +kernel⟩, by decide⟩, gwm 304 (by decide +kernel) rfl, gwm 305 (by decide +kernel) rfl⟩
theorem c_Sl_52 {l : Launch} {D : va_G} : jCV (G0 l D) R_Sl 52 m_Sl_letAllAct 0 := ⟨⟨gwm 307 (by decide +kernel) rfl, gwm 57 (by decide +kernel) rfl, k_Sl_letAllAct, ⟨by decide, by decide, by decide +kernel⟩, by decide⟩, gwm 309 (by decide +kernel) rfl, gwm 2 (by decide +kernel) rfl⟩
theorem c_Sl_55 {l : Launch} {D : va_G} : jCV (G0 l D) R_Sl 55 m_Rb_count 0 := ⟨⟨gwm 508 (by decide +kernel) rfl, gwm 59 (by decide +kernel) rfl, k_Rb_count, ⟨by decide, by decide, by decide +kernel⟩, by decide⟩, gwm 425 (by decide +kernel) rfl, gwm 426 (by decide +kernel) rfl⟩
theorem c_Sl_59 {l : Launch} {D : va_G} : jCV (G0 l D) R_Sl 59 m_Tb_count 0 := ⟨⟨gwm 509 (by decide +kernel) rfl, gwm 58 (by decide +kernel) rfl, k_Tb_count, ⟨by decide, by decide, by decide +kernel⟩, by decide⟩, gwm 510 (by decide +kernel) rfl, gwm 511 (by decide +kernel) rfl⟩
theorem c_Sl_60 {l : Launch} {D : va_G} : jCV (G0 l D) R_Sl 60 m_Sl_lookAt 1 := ⟨⟨gwm 513 (by decide +kernel) rfl, gwm 57 (by decide +kernel) rfl, k_Sl_lookAt, ⟨by decide, by decide, by decide +kernel⟩, by decide⟩, gwm 515 (by decide +kernel) rfl, gwm 23 (by decide +kernel) rfl⟩
theorem c_Sl_64 {l : Launch} {D : va_G} : jCV (G0 l D) R_Sl 64 m_Sl_shardAt 1 := ⟨⟨gwm 548 (by decide +kernel) rfl, gwm 57 (by decide +kernel) rfl, k_Sl_shardAt, ⟨by decide, by decide, by decide +kernel⟩, by decide⟩, gwm 550 (by decide +kernel) rfl, gwm 26 (by decide +kernel) rfl⟩
theorem c_Sl_68 {l : Launch} {D : va_G} : jCV (G0 l D) R_Sl 68 m_Sh_replicaAt 1 := ⟨⟨gwm 552 (by decide +kernel) rfl, gwm 60 (by decide +kernel) rfl, k_Sh_replicaAt, ⟨by decide, by decide, by decide +kernel⟩, by decide⟩, gwm 553 (by decide +kernel) rfl, gwm 554 (by decide +kernel) rfl⟩
theorem f_Sl_72 {l : Launch} {D : va_G} : jF (G0 l D) R_Sl 72 7 0 := ⟨R_Sh, F_Sh, 2, rfl, by decide, ws_Sh, gwm 245 (by decide +kernel) rfl⟩
theorem c_Sl_76 {l : Launch} {D : va_G} : jCV (G0 l D) R_Sl 76 m_Lo_messageAt 1 := ⟨⟨gwm 556 (by decide +kernel) rfl, gwm 61 (by decide +kernel) rfl, k_Lo_messageAt, ⟨by decide, by decide, by decide +kernel⟩, by decide⟩, gwm 557 (by decide +kernel) rfl, gwm 558 (by decide +kernel) rfl⟩
theorem c_Sl_82 {l : Launch} {D : va_G} : jCV (G0 l D) R_Sl 82 m_Re_accept 1 := ⟨⟨gwm 560 (by decide +kernel) rfl, gwm 63 (by decide +kernel) rfl, k_Re_accept, ⟨by decide, by decide, by decide +kernel⟩, by decide⟩, gwm 561 (by decide +kernel) rfl, gwm 562 (by decide +kernel) rfl⟩
theorem w_Sl_88 : Cond.constant "ShardLedger" 88 (1000000 : Int32) ∈ GW := gwm 577 (by decide +kernel) rfl
theorem f_Sl_89 {l : Launch} {D : va_G} : jF (G0 l D) R_Sl 89 7 1 := ⟨R_Sh, F_Sh, 2, rfl, by decide, ws_Sh, gwm 247 (by decide +kernel) rfl⟩
theorem c_Sl_93 {l : Launch} {D : va_G} : jCV (G0 l D) R_Sl 93 m_Sl_replicaAt 2 := ⟨⟨gwm 582 (by decide +kernel) rfl, gwm 57 (by decide +kernel) rfl, k_Sl_replicaAt, ⟨by decide, by decide, by decide +kernel⟩, by decide⟩, gwm 584 (by decide +kernel) rfl, gwm 27 (by decide +kernel) rfl⟩
theorem c_Sl_96 {l : Launch} {D : va_G} : jCV (G0 l D) R_Sl 96 m_Re_losePatience 0 := ⟨⟨gwm 586 (by decide +kernel) rfl, gwm 63 (by decide +kernel) rfl, k_Re_losePatience, ⟨by decide, by decide, by decide +kernel⟩, by decide⟩, gwm 587 (by decide +kernel) rfl, gwm 588 (by decide +kernel) rfl⟩
theorem c_Sl_99 {l : Launch} {D : va_G} : jCV (G0 l D) R_Sl 99 m_Re_turnSleep 1 := ⟨⟨gwm 598 (by decide +kernel) rfl, gwm 63 (by decide +kernel) rfl, k_Re_turnSleep, ⟨by decide, by decide, by decide +kernel⟩, by decide⟩, gwm 599 (by decide +kernel) rfl, gwm 600 (by decide +kernel) rfl⟩
theorem f_Sl_103 {l : Launch} {D : va_G} : jF (G0 l D) R_Sl 103 5 2 := ⟨R_Re, F_Re, 14, rfl, by decide, ws_Re, gwm 202 (by decide +kernel) rfl⟩
theorem c_Sl_107 {l : Launch} {D : va_G} : jCV (G0 l D) R_Sl 107 m_Rb_has 1 := ⟨⟨gwm 606 (by decide +kernel) rfl, gwm 59 (by decide +kernel) rfl, k_Rb_has, ⟨by decide, by decide, by decide +kernel⟩, by decide⟩, gwm 357 (by decide +kernel) rfl, gwm 358 (by decide +kernel) rfl⟩
theorem c_Sl_111 {l : Launch} {D : va_G} : jCV (G0 l D) R_Sl 111 m_Re_believe 3 := ⟨⟨gwm 607 (by decide +kernel) rfl, gwm 63 (by decide +kernel) rfl, k_Re_believe, ⟨by decide, by decide, by decide +kernel⟩, by decide⟩, gwm 608 (by decide +kernel) rfl, gwm 609 (by decide +kernel) rfl⟩
theorem c_Sl_114 {l : Launch} {D : va_G} : jCV (G0 l D) R_Sl 114 m_Lo_count 0 := ⟨⟨gwm 615 (by decide +kernel) rfl, gwm 61 (by decide +kernel) rfl, k_Lo_count, ⟨by decide, by decide, by decide +kernel⟩, by decide⟩, gwm 616 (by decide +kernel) rfl, gwm 617 (by decide +kernel) rfl⟩
theorem c_Sl_115 {l : Launch} {D : va_G} : jCV (G0 l D) R_Sl 115 m_Me_tell 1 := ⟨⟨gwm 623 (by decide +kernel) rfl, gwm 67 (by decide +kernel) rfl, k_Me_tell, ⟨by decide, by decide, by decide +kernel⟩, by decide⟩, gwm 624 (by decide +kernel) rfl, gwm 625 (by decide +kernel) rfl⟩
theorem c_Sl_121 {l : Launch} {D : va_G} : jCV (G0 l D) R_Sl 121 m_Re_tell 1 := ⟨⟨gwm 631 (by decide +kernel) rfl, gwm 63 (by decide +kernel) rfl, k_Re_tell, ⟨by decide, by decide, by decide +kernel⟩, by decide⟩, gwm 632 (by decide +kernel) rfl, gwm 633 (by decide +kernel) rfl⟩
theorem c_Sl_122 {l : Launch} {D : va_G} : jCV (G0 l D) R_Sl 122 m_Re_executedAt 1 := ⟨⟨gwm 639 (by decide +kernel) rfl, gwm 63 (by decide +kernel) rfl, k_Re_executedAt, ⟨by decide, by decide, by decide +kernel⟩, by decide⟩, gwm 640 (by decide +kernel) rfl, gwm 641 (by decide +kernel) rfl⟩
theorem f_Sl_125 {l : Launch} {D : va_G} : jF (G0 l D) R_Sl 125 5 5 := ⟨R_Re, F_Re, 14, rfl, by decide, ws_Re, gwm 206 (by decide +kernel) rfl⟩
theorem c_Sl_129 {l : Launch} {D : va_G} : jCV (G0 l D) R_Sl 129 m_Ho_stateOf 1 := ⟨⟨gwm 647 (by decide +kernel) rfl, gwm 62 (by decide +kernel) rfl, k_Ho_stateOf, ⟨by decide, by decide, by decide +kernel⟩, by decide⟩, gwm 648 (by decide +kernel) rfl, gwm 649 (by decide +kernel) rfl⟩
theorem c_Sl_134 {l : Launch} {D : va_G} : jCV (G0 l D) R_Sl 134 m_Ho_worth 0 := ⟨⟨gwm 655 (by decide +kernel) rfl, gwm 62 (by decide +kernel) rfl, k_Ho_worth, ⟨by decide, by decide, by decide +kernel⟩, by decide⟩, gwm 656 (by decide +kernel) rfl, gwm 657 (by decide +kernel) rfl⟩
theorem c_Sl_137 {l : Launch} {D : va_G} : jCV (G0 l D) R_Sl 137 m_Rb_tell 2 := ⟨⟨gwm 668 (by decide +kernel) rfl, gwm 59 (by decide +kernel) rfl, k_Rb_tell, ⟨by decide, by decide, by decide +kernel⟩, by decide⟩, gwm 669 (by decide +kernel) rfl, gwm 670 (by decide +kernel) rfl⟩
theorem c_Sl_140 {l : Launch} {D : va_G} : jCV (G0 l D) R_Sl 140 m_Tb_has 1 := ⟨⟨gwm 676 (by decide +kernel) rfl, gwm 58 (by decide +kernel) rfl, k_Tb_has, ⟨by decide, by decide, by decide +kernel⟩, by decide⟩, gwm 300 (by decide +kernel) rfl, gwm 301 (by decide +kernel) rfl⟩
theorem c_Sl_141 {l : Launch} {D : va_G} : jCV (G0 l D) R_Sl 141 m_Tb_stateOf 1 := ⟨⟨gwm 517 (by decide +kernel) rfl, gwm 58 (by decide +kernel) rfl, k_Tb_stateOf, ⟨by decide, by decide, by decide +kernel⟩, by decide⟩, gwm 518 (by decide +kernel) rfl, gwm 519 (by decide +kernel) rfl⟩
theorem c_Sl_142 {l : Launch} {D : va_G} : jCV (G0 l D) R_Sl 142 m_Re_act 0 := ⟨⟨gwm 311 (by decide +kernel) rfl, gwm 63 (by decide +kernel) rfl, k_Re_act, ⟨by decide, by decide, by decide +kernel⟩, by decide⟩, gwm 312 (by decide +kernel) rfl, gwm 313 (by decide +kernel) rfl⟩
theorem c_Sl_145 {l : Launch} {D : va_G} : jCV (G0 l D) R_Sl 145 m_Rb_outcome 2 := ⟨⟨gwm 521 (by decide +kernel) rfl, gwm 59 (by decide +kernel) rfl, k_Rb_outcome, ⟨by decide, by decide, by decide +kernel⟩, by decide⟩, gwm 522 (by decide +kernel) rfl, gwm 523 (by decide +kernel) rfl⟩
theorem c_Sl_148 {l : Launch} {D : va_G} : jCV (G0 l D) R_Sl 148 m_Sl_decide 2 := ⟨⟨gwm 532 (by decide +kernel) rfl, gwm 57 (by decide +kernel) rfl, k_Sl_decide, ⟨by decide, by decide, by decide +kernel⟩, by decide⟩, gwm 534 (by decide +kernel) rfl, gwm 25 (by decide +kernel) rfl⟩
theorem c_Sl_152 {l : Launch} {D : va_G} : jCV (G0 l D) R_Sl 152 m_Tb_setState 2 := ⟨⟨gwm 540 (by decide +kernel) rfl, gwm 58 (by decide +kernel) rfl, k_Tb_setState, ⟨by decide, by decide, by decide +kernel⟩, by decide⟩, gwm 541 (by decide +kernel) rfl, gwm 542 (by decide +kernel) rfl⟩
theorem c_Sl_155 {l : Launch} {D : va_G} : jCV (G0 l D) R_Sl 155 m_Tb_hasOutputIn 2 := ⟨⟨gwm 536 (by decide +kernel) rfl, gwm 58 (by decide +kernel) rfl, k_Tb_hasOutputIn, ⟨by decide, by decide, by decide +kernel⟩, by decide⟩, gwm 537 (by decide +kernel) rfl, gwm 538 (by decide +kernel) rfl⟩
theorem o_Mo_1 : Cond.methodLink R_Mo 1 Lib.objectInit ∈ GW := gwm 685 (by decide +kernel) rfl
theorem p_Mo_7 {l : Launch} {D : va_G} : jPf (G0 l D) R_Mo 7 10 2 (.array .int) true := ⟨R_Mo, F_Mo, 30, t_Mo, rfl, by decide, ws_Mo, gwm 688 (by decide +kernel) rfl, ty_Mo, nm_Mo, rfl, ty_Mo 2 (by decide), rfl⟩
theorem p_Mo_13 {l : Launch} {D : va_G} : jPf (G0 l D) R_Mo 13 10 3 (.array .int) true := ⟨R_Mo, F_Mo, 30, t_Mo, rfl, by decide, ws_Mo, gwm 689 (by decide +kernel) rfl, ty_Mo, nm_Mo, rfl, ty_Mo 3 (by decide), rfl⟩
theorem p_Mo_16 {l : Launch} {D : va_G} : jPf (G0 l D) R_Mo 16 10 4 (.array .int) true := ⟨R_Mo, F_Mo, 30, t_Mo, rfl, by decide, ws_Mo, gwm 690 (by decide +kernel) rfl, ty_Mo, nm_Mo, rfl, ty_Mo 4 (by decide), rfl⟩
theorem p_Mo_19 {l : Launch} {D : va_G} : jPf (G0 l D) R_Mo 19 10 5 (.array .int) true := ⟨R_Mo, F_Mo, 30, t_Mo, rfl, by decide, ws_Mo, gwm 691 (by decide +kernel) rfl, ty_Mo, nm_Mo, rfl, ty_Mo 5 (by decide), rfl⟩
theorem p_Mo_22 {l : Launch} {D : va_G} : jPf (G0 l D) R_Mo 22 10 7 (.array .int) true := ⟨R_Mo, F_Mo, 30, t_Mo, rfl, by decide, ws_Mo, gwm 693 (by decide +kernel) rfl, ty_Mo, nm_Mo, rfl, ty_Mo 7 (by decide), rfl⟩
theorem p_Mo_25 {l : Launch} {D : va_G} : jPf (G0 l D) R_Mo 25 10 8 (.array .int) true := ⟨R_Mo, F_Mo, 30, t_Mo, rfl, by decide, ws_Mo, gwm 694 (by decide +kernel) rfl, ty_Mo, nm_Mo, rfl, ty_Mo 8 (by decide), rfl⟩
theorem p_Mo_28 {l : Launch} {D : va_G} : jPf (G0 l D) R_Mo 28 10 9 (.array .int) true := ⟨R_Mo, F_Mo, 30, t_Mo, rfl, by decide, ws_Mo, gwm 695 (by decide +kernel) rfl, ty_Mo, nm_Mo, rfl, ty_Mo 9 (by decide), rfl⟩
theorem p_Mo_31 {l : Launch} {D : va_G} : jPf (G0 l D) R_Mo 31 10 10 (.array .int) true := ⟨R_Mo, F_Mo, 30, t_Mo, rfl, by decide, ws_Mo, gwm 696 (by decide +kernel) rfl, ty_Mo, nm_Mo, rfl, ty_Mo 10 (by decide), rfl⟩
theorem p_Mo_34 {l : Launch} {D : va_G} : jPf (G0 l D) R_Mo 34 10 11 (.array .int) true := ⟨R_Mo, F_Mo, 30, t_Mo, rfl, by decide, ws_Mo, gwm 697 (by decide +kernel) rfl, ty_Mo, nm_Mo, rfl, ty_Mo 11 (by decide), rfl⟩
theorem p_Mo_37 {l : Launch} {D : va_G} : jPf (G0 l D) R_Mo 37 10 12 (.array .int) true := ⟨R_Mo, F_Mo, 30, t_Mo, rfl, by decide, ws_Mo, gwm 698 (by decide +kernel) rfl, ty_Mo, nm_Mo, rfl, ty_Mo 12 (by decide), rfl⟩
theorem p_Mo_40 {l : Launch} {D : va_G} : jPf (G0 l D) R_Mo 40 10 13 (.array .int) true := ⟨R_Mo, F_Mo, 30, t_Mo, rfl, by decide, ws_Mo, gwm 699 (by decide +kernel) rfl, ty_Mo, nm_Mo, rfl, ty_Mo 13 (by decide), rfl⟩
theorem p_Mo_43 {l : Launch} {D : va_G} : jPf (G0 l D) R_Mo 43 10 14 (.array .int) true := ⟨R_Mo, F_Mo, 30, t_Mo, rfl, by decide, ws_Mo, gwm 700 (by decide +kernel) rfl, ty_Mo, nm_Mo, rfl, ty_Mo 14 (by decide), rfl⟩
theorem p_Mo_46 {l : Launch} {D : va_G} : jPf (G0 l D) R_Mo 46 10 15 (.array .int) true := ⟨R_Mo, F_Mo, 30, t_Mo, rfl, by decide, ws_Mo, gwm 701 (by decide +kernel) rfl, ty_Mo, nm_Mo, rfl, ty_Mo 15 (by decide), rfl⟩
theorem p_Mo_49 {l : Launch} {D : va_G} : jPf (G0 l D) R_Mo 49 10 16 (.array .int) true := ⟨R_Mo, F_Mo, 30, t_Mo, rfl, by decide, ws_Mo, gwm 702 (by decide +kernel) rfl, ty_Mo, nm_Mo, rfl, ty_Mo 16 (by decide), rfl⟩
theorem p_Mo_52 {l : Launch} {D : va_G} : jPf (G0 l D) R_Mo 52 10 17 (.array .int) true := ⟨R_Mo, F_Mo, 30, t_Mo, rfl, by decide, ws_Mo, gwm 703 (by decide +kernel) rfl, ty_Mo, nm_Mo, rfl, ty_Mo 17 (by decide), rfl⟩
theorem p_Mo_55 {l : Launch} {D : va_G} : jPf (G0 l D) R_Mo 55 10 18 (.array .int) true := ⟨R_Mo, F_Mo, 30, t_Mo, rfl, by decide, ws_Mo, gwm 704 (by decide +kernel) rfl, ty_Mo, nm_Mo, rfl, ty_Mo 18 (by decide), rfl⟩
theorem p_Mo_58 {l : Launch} {D : va_G} : jPf (G0 l D) R_Mo 58 10 19 (.array .boolean) true := ⟨R_Mo, F_Mo, 30, t_Mo, rfl, by decide, ws_Mo, gwm 705 (by decide +kernel) rfl, ty_Mo, nm_Mo, rfl, ty_Mo 19 (by decide), rfl⟩
theorem p_Mo_62 {l : Launch} {D : va_G} : jPf (G0 l D) R_Mo 62 10 20 (.array .int) true := ⟨R_Mo, F_Mo, 30, t_Mo, rfl, by decide, ws_Mo, gwm 706 (by decide +kernel) rfl, ty_Mo, nm_Mo, rfl, ty_Mo 20 (by decide), rfl⟩
theorem p_Mo_65 {l : Launch} {D : va_G} : jPf (G0 l D) R_Mo 65 10 21 (.array .int) true := ⟨R_Mo, F_Mo, 30, t_Mo, rfl, by decide, ws_Mo, gwm 707 (by decide +kernel) rfl, ty_Mo, nm_Mo, rfl, ty_Mo 21 (by decide), rfl⟩
theorem p_Mo_68 {l : Launch} {D : va_G} : jPf (G0 l D) R_Mo 68 10 22 (.array .int) true := ⟨R_Mo, F_Mo, 30, t_Mo, rfl, by decide, ws_Mo, gwm 708 (by decide +kernel) rfl, ty_Mo, nm_Mo, rfl, ty_Mo 22 (by decide), rfl⟩
theorem p_Mo_71 {l : Launch} {D : va_G} : jPf (G0 l D) R_Mo 71 10 23 (.array .long) true := ⟨R_Mo, F_Mo, 30, t_Mo, rfl, by decide, ws_Mo, gwm 709 (by decide +kernel) rfl, ty_Mo, nm_Mo, rfl, ty_Mo 23 (by decide), rfl⟩
theorem p_Mo_75 {l : Launch} {D : va_G} : jPf (G0 l D) R_Mo 75 10 24 (.array .int) true := ⟨R_Mo, F_Mo, 30, t_Mo, rfl, by decide, ws_Mo, gwm 710 (by decide +kernel) rfl, ty_Mo, nm_Mo, rfl, ty_Mo 24 (by decide), rfl⟩
theorem p_Mo_78 {l : Launch} {D : va_G} : jPf (G0 l D) R_Mo 78 10 25 (.array .int) true := ⟨R_Mo, F_Mo, 30, t_Mo, rfl, by decide, ws_Mo, gwm 711 (by decide +kernel) rfl, ty_Mo, nm_Mo, rfl, ty_Mo 25 (by decide), rfl⟩
theorem p_Mo_81 {l : Launch} {D : va_G} : jPf (G0 l D) R_Mo 81 10 26 (.array .int) true := ⟨R_Mo, F_Mo, 30, t_Mo, rfl, by decide, ws_Mo, gwm 712 (by decide +kernel) rfl, ty_Mo, nm_Mo, rfl, ty_Mo 26 (by decide), rfl⟩
theorem p_Mo_84 {l : Launch} {D : va_G} : jPf (G0 l D) R_Mo 84 10 27 (.array .int) true := ⟨R_Mo, F_Mo, 30, t_Mo, rfl, by decide, ws_Mo, gwm 713 (by decide +kernel) rfl, ty_Mo, nm_Mo, rfl, ty_Mo 27 (by decide), rfl⟩
theorem p_Mo_87 {l : Launch} {D : va_G} : jPf (G0 l D) R_Mo 87 10 28 (.array .int) true := ⟨R_Mo, F_Mo, 30, t_Mo, rfl, by decide, ws_Mo, gwm 714 (by decide +kernel) rfl, ty_Mo, nm_Mo, rfl, ty_Mo 28 (by decide), rfl⟩
theorem p_Mo_90 {l : Launch} {D : va_G} : jPf (G0 l D) R_Mo 90 10 29 (.array .boolean) true := ⟨R_Mo, F_Mo, 30, t_Mo, rfl, by decide, ws_Mo, gwm 715 (by decide +kernel) rfl, ty_Mo, nm_Mo, rfl, ty_Mo 29 (by decide), rfl⟩
theorem p_Mo_93 {l : Launch} {D : va_G} : jPf (G0 l D) R_Mo 93 10 0 (.int) true := ⟨R_Mo, F_Mo, 30, t_Mo, rfl, by decide, ws_Mo, gwm 686 (by decide +kernel) rfl, ty_Mo, nm_Mo, rfl, ty_Mo 0 (by decide), rfl⟩
theorem f_Mo_19 {l : Launch} {D : va_G} : jF (G0 l D) R_Mo 19 10 5 := ⟨R_Mo, F_Mo, 30, rfl, by decide, ws_Mo, gwm 691 (by decide +kernel) rfl⟩
theorem f_Mo_46 {l : Launch} {D : va_G} : jF (G0 l D) R_Mo 46 10 15 := ⟨R_Mo, F_Mo, 30, rfl, by decide, ws_Mo, gwm 701 (by decide +kernel) rfl⟩
theorem f_Mo_49 {l : Launch} {D : va_G} : jF (G0 l D) R_Mo 49 10 16 := ⟨R_Mo, F_Mo, 30, rfl, by decide, ws_Mo, gwm 702 (by decide +kernel) rfl⟩
theorem f_Mo_52 {l : Launch} {D : va_G} : jF (G0 l D) R_Mo 52 10 17 := ⟨R_Mo, F_Mo, 30, rfl, by decide, ws_Mo, gwm 703 (by decide +kernel) rfl⟩
theorem f_Mo_55 {l : Launch} {D : va_G} : jF (G0 l D) R_Mo 55 10 18 := ⟨R_Mo, F_Mo, 30, rfl, by decide, ws_Mo, gwm 704 (by decide +kernel) rfl⟩
theorem f_Mo_31 {l : Launch} {D : va_G} : jF (G0 l D) R_Mo 31 10 10 := ⟨R_Mo, F_Mo, 30, rfl, by decide, ws_Mo, gwm 696 (by decide +kernel) rfl⟩
theorem f_Mo_93 {l : Launch} {D : va_G} : jF (G0 l D) R_Mo 93 10 0 := ⟨R_Mo, F_Mo, 30, rfl, by decide, ws_Mo, gwm 686 (by decide +kernel) rfl⟩
theorem f_Mo_7 {l : Launch} {D : va_G} : jF (G0 l D) R_Mo 7 10 2 := ⟨R_Mo, F_Mo, 30, rfl, by decide, ws_Mo, gwm 688 (by decide +kernel) rfl⟩
theorem f_Mo_13 {l : Launch} {D : va_G} : jF (G0 l D) R_Mo 13 10 3 := ⟨R_Mo, F_Mo, 30, rfl, by decide, ws_Mo, gwm 689 (by decide +kernel) rfl⟩
theorem f_Mo_22 {l : Launch} {D : va_G} : jF (G0 l D) R_Mo 22 10 7 := ⟨R_Mo, F_Mo, 30, rfl, by decide, ws_Mo, gwm 693 (by decide +kernel) rfl⟩
theorem f_Mo_97 {l : Launch} {D : va_G} : jF (G0 l D) R_Mo 97 10 6 := ⟨R_Mo, F_Mo, 30, rfl, by decide, ws_Mo, gwm 692 (by decide +kernel) rfl⟩
theorem f_Mo_25 {l : Launch} {D : va_G} : jF (G0 l D) R_Mo 25 10 8 := ⟨R_Mo, F_Mo, 30, rfl, by decide, ws_Mo, gwm 694 (by decide +kernel) rfl⟩
theorem f_Mo_28 {l : Launch} {D : va_G} : jF (G0 l D) R_Mo 28 10 9 := ⟨R_Mo, F_Mo, 30, rfl, by decide, ws_Mo, gwm 695 (by decide +kernel) rfl⟩
theorem p_Mo_97 {l : Launch} {D : va_G} : jPf (G0 l D) R_Mo 97 10 6 (.int) false := ⟨R_Mo, F_Mo, 30, t_Mo, rfl, by decide, ws_Mo, gwm 692 (by decide +kernel) rfl, ty_Mo, nm_Mo, rfl, ty_Mo 6 (by decide), rfl⟩
theorem f_Mo_100 {l : Launch} {D : va_G} : jF (G0 l D) R_Mo 100 10 1 := ⟨R_Mo, F_Mo, 30, rfl, by decide, ws_Mo, gwm 687 (by decide +kernel) rfl⟩
theorem c_Mo_103 {l : Launch} {D : va_G} : jCS (G0 l D) R_Mo 103 m_Mo_out 2 := ⟨⟨gwm 787 (by decide +kernel) rfl, gwm 66 (by decide +kernel) rfl, k_Mo_out, ⟨by decide, by decide, by decide +kernel⟩, by decide⟩, gwm 788 (by decide +kernel) rfl⟩
theorem c_Mo_107 {l : Launch} {D : va_G} : jCV (G0 l D) R_Mo 107 m_Mo_isOutput 1 := ⟨⟨gwm 783 (by decide +kernel) rfl, gwm 66 (by decide +kernel) rfl, k_Mo_isOutput, ⟨by decide, by decide, by decide +kernel⟩, by decide⟩, gwm 785 (by decide +kernel) rfl, gwm 28 (by decide +kernel) rfl⟩
theorem p_Mo_100 {l : Launch} {D : va_G} : jPf (G0 l D) R_Mo 100 10 1 (.int) false := ⟨R_Mo, F_Mo, 30, t_Mo, rfl, by decide, ws_Mo, gwm 687 (by decide +kernel) rfl, ty_Mo, nm_Mo, rfl, ty_Mo 1 (by decide), rfl⟩
theorem c_Mo_111 {l : Launch} {D : va_G} : jCV (G0 l D) R_Mo 111 m_Mo_takes 2 := ⟨⟨gwm 790 (by decide +kernel) rfl, gwm 66 (by decide +kernel) rfl, k_Mo_takes, ⟨by decide, by decide, by decide +kernel⟩, by decide⟩, gwm 792 (by decide +kernel) rfl, gwm 29 (by decide +kernel) rfl⟩
theorem c_Mo_114 {l : Launch} {D : va_G} : jCV (G0 l D) R_Mo 114 m_Mo_ask 3 := ⟨⟨gwm 794 (by decide +kernel) rfl, gwm 66 (by decide +kernel) rfl, k_Mo_ask, ⟨by decide, by decide, by decide +kernel⟩, by decide⟩, gwm 796 (by decide +kernel) rfl, gwm 30 (by decide +kernel) rfl⟩
theorem c_Mo_118 {l : Launch} {D : va_G} : jCV (G0 l D) R_Mo 118 m_Mo_allAct 0 := ⟨⟨gwm 798 (by decide +kernel) rfl, gwm 66 (by decide +kernel) rfl, k_Mo_allAct, ⟨by decide, by decide, by decide +kernel⟩, by decide⟩, gwm 800 (by decide +kernel) rfl, gwm 31 (by decide +kernel) rfl⟩
theorem f_Mo_65 {l : Launch} {D : va_G} : jF (G0 l D) R_Mo 65 10 21 := ⟨R_Mo, F_Mo, 30, rfl, by decide, ws_Mo, gwm 707 (by decide +kernel) rfl⟩
theorem c_Mo_121 {l : Launch} {D : va_G} : jCV (G0 l D) R_Mo 121 m_Mo_answer 1 := ⟨⟨gwm 889 (by decide +kernel) rfl, gwm 66 (by decide +kernel) rfl, k_Mo_answer, ⟨by decide, by decide, by decide +kernel⟩, by decide⟩, gwm 891 (by decide +kernel) rfl, gwm 51 (by decide +kernel) rfl⟩
theorem f_Mo_16 {l : Launch} {D : va_G} : jF (G0 l D) R_Mo 16 10 4 := ⟨R_Mo, F_Mo, 30, rfl, by decide, ws_Mo, gwm 690 (by decide +kernel) rfl⟩
theorem c_Mo_125 {l : Launch} {D : va_G} : jCV (G0 l D) R_Mo 125 m_Mo_answers 2 := ⟨⟨gwm 885 (by decide +kernel) rfl, gwm 66 (by decide +kernel) rfl, k_Mo_answers, ⟨by decide, by decide, by decide +kernel⟩, by decide⟩, gwm 887 (by decide +kernel) rfl, gwm 50 (by decide +kernel) rfl⟩
theorem c_Mo_129 {l : Launch} {D : va_G} : jCV (G0 l D) R_Mo 129 m_Mo_makes 2 := ⟨⟨gwm 893 (by decide +kernel) rfl, gwm 66 (by decide +kernel) rfl, k_Mo_makes, ⟨by decide, by decide, by decide +kernel⟩, by decide⟩, gwm 895 (by decide +kernel) rfl, gwm 52 (by decide +kernel) rfl⟩
theorem c_Mo_132 {l : Launch} {D : va_G} : jCV (G0 l D) R_Mo 132 m_Mo_look 1 := ⟨⟨gwm 881 (by decide +kernel) rfl, gwm 66 (by decide +kernel) rfl, k_Mo_look, ⟨by decide, by decide, by decide +kernel⟩, by decide⟩, gwm 883 (by decide +kernel) rfl, gwm 49 (by decide +kernel) rfl⟩
theorem f_Mo_34 {l : Launch} {D : va_G} : jF (G0 l D) R_Mo 34 10 11 := ⟨R_Mo, F_Mo, 30, rfl, by decide, ws_Mo, gwm 697 (by decide +kernel) rfl⟩
theorem f_Mo_62 {l : Launch} {D : va_G} : jF (G0 l D) R_Mo 62 10 20 := ⟨R_Mo, F_Mo, 30, rfl, by decide, ws_Mo, gwm 706 (by decide +kernel) rfl⟩
theorem f_Mo_37 {l : Launch} {D : va_G} : jF (G0 l D) R_Mo 37 10 12 := ⟨R_Mo, F_Mo, 30, rfl, by decide, ws_Mo, gwm 698 (by decide +kernel) rfl⟩
theorem f_Mo_68 {l : Launch} {D : va_G} : jF (G0 l D) R_Mo 68 10 22 := ⟨R_Mo, F_Mo, 30, rfl, by decide, ws_Mo, gwm 708 (by decide +kernel) rfl⟩
theorem w_Mo_135 : Cond.constantLong "ShardLedgerModel" 135 (100 : Int64) ∈ GW := gwm 821 (by decide +kernel) rfl
theorem f_Mo_40 {l : Launch} {D : va_G} : jF (G0 l D) R_Mo 40 10 13 := ⟨R_Mo, F_Mo, 30, rfl, by decide, ws_Mo, gwm 699 (by decide +kernel) rfl⟩
theorem f_Mo_71 {l : Launch} {D : va_G} : jF (G0 l D) R_Mo 71 10 23 := ⟨R_Mo, F_Mo, 30, rfl, by decide, ws_Mo, gwm 709 (by decide +kernel) rfl⟩
theorem f_Mo_75 {l : Launch} {D : va_G} : jF (G0 l D) R_Mo 75 10 24 := ⟨R_Mo, F_Mo, 30, rfl, by decide, ws_Mo, gwm 710 (by decide +kernel) rfl⟩
theorem f_Mo_81 {l : Launch} {D : va_G} : jF (G0 l D) R_Mo 81 10 26 := ⟨R_Mo, F_Mo, 30, rfl, by decide, ws_Mo, gwm 712 (by decide +kernel) rfl⟩
theorem f_Mo_84 {l : Launch} {D : va_G} : jF (G0 l D) R_Mo 84 10 27 := ⟨R_Mo, F_Mo, 30, rfl, by decide, ws_Mo, gwm 713 (by decide +kernel) rfl⟩
theorem f_Mo_87 {l : Launch} {D : va_G} : jF (G0 l D) R_Mo 87 10 28 := ⟨R_Mo, F_Mo, 30, rfl, by decide, ws_Mo, gwm 714 (by decide +kernel) rfl⟩
theorem f_Mo_90 {l : Launch} {D : va_G} : jF (G0 l D) R_Mo 90 10 29 := ⟨R_Mo, F_Mo, 30, rfl, by decide, ws_Mo, gwm 715 (by decide +kernel) rfl⟩
theorem c_Mo_137 {l : Launch} {D : va_G} : jCS (G0 l D) R_Mo 137 m_Mo_part 2 := ⟨⟨gwm 818 (by decide +kernel) rfl, gwm 66 (by decide +kernel) rfl, k_Mo_part, ⟨by decide, by decide, by decide +kernel⟩, by decide⟩, gwm 819 (by decide +kernel) rfl⟩
theorem c_Mo_141 {l : Launch} {D : va_G} : jCV (G0 l D) R_Mo 141 m_Mo_count 5 := ⟨⟨gwm 822 (by decide +kernel) rfl, gwm 66 (by decide +kernel) rfl, k_Mo_count, ⟨by decide, by decide, by decide +kernel⟩, by decide⟩, gwm 824 (by decide +kernel) rfl, gwm 36 (by decide +kernel) rfl⟩
theorem f_Mo_78 {l : Launch} {D : va_G} : jF (G0 l D) R_Mo 78 10 25 := ⟨R_Mo, F_Mo, 30, rfl, by decide, ws_Mo, gwm 711 (by decide +kernel) rfl⟩
theorem c_Mo_145 {l : Launch} {D : va_G} : jCV (G0 l D) R_Mo 145 m_Mo_lieAt 4 := ⟨⟨gwm 826 (by decide +kernel) rfl, gwm 66 (by decide +kernel) rfl, k_Mo_lieAt, ⟨by decide, by decide, by decide +kernel⟩, by decide⟩, gwm 828 (by decide +kernel) rfl, gwm 37 (by decide +kernel) rfl⟩
theorem c_Mo_149 {l : Launch} {D : va_G} : jCS (G0 l D) R_Mo 149 m_Mo_bits 1 := ⟨⟨gwm 842 (by decide +kernel) rfl, gwm 66 (by decide +kernel) rfl, k_Mo_bits, ⟨by decide, by decide, by decide +kernel⟩, by decide⟩, gwm 843 (by decide +kernel) rfl⟩
theorem c_Mo_152 {l : Launch} {D : va_G} : jCV (G0 l D) R_Mo 152 m_Mo_good 2 := ⟨⟨gwm 834 (by decide +kernel) rfl, gwm 66 (by decide +kernel) rfl, k_Mo_good, ⟨by decide, by decide, by decide +kernel⟩, by decide⟩, gwm 836 (by decide +kernel) rfl, gwm 39 (by decide +kernel) rfl⟩
theorem c_Mo_155 {l : Launch} {D : va_G} : jCV (G0 l D) R_Mo 155 m_Mo_three 3 := ⟨⟨gwm 838 (by decide +kernel) rfl, gwm 66 (by decide +kernel) rfl, k_Mo_three, ⟨by decide, by decide, by decide +kernel⟩, by decide⟩, gwm 840 (by decide +kernel) rfl, gwm 40 (by decide +kernel) rfl⟩
theorem c_Mo_159 {l : Launch} {D : va_G} : jCV (G0 l D) R_Mo 159 m_Mo_execute 2 := ⟨⟨gwm 845 (by decide +kernel) rfl, gwm 66 (by decide +kernel) rfl, k_Mo_execute, ⟨by decide, by decide, by decide +kernel⟩, by decide⟩, gwm 847 (by decide +kernel) rfl, gwm 41 (by decide +kernel) rfl⟩
theorem f_Mo_43 {l : Launch} {D : va_G} : jF (G0 l D) R_Mo 43 10 14 := ⟨R_Mo, F_Mo, 30, rfl, by decide, ws_Mo, gwm 700 (by decide +kernel) rfl⟩
theorem c_Mo_163 {l : Launch} {D : va_G} : jCV (G0 l D) R_Mo 163 m_Mo_anyKind 1 := ⟨⟨gwm 853 (by decide +kernel) rfl, gwm 66 (by decide +kernel) rfl, k_Mo_anyKind, ⟨by decide, by decide, by decide +kernel⟩, by decide⟩, gwm 855 (by decide +kernel) rfl, gwm 43 (by decide +kernel) rfl⟩
theorem c_Mo_166 {l : Launch} {D : va_G} : jCV (G0 l D) R_Mo 166 m_Mo_send 4 := ⟨⟨gwm 861 (by decide +kernel) rfl, gwm 66 (by decide +kernel) rfl, k_Mo_send, ⟨by decide, by decide, by decide +kernel⟩, by decide⟩, gwm 863 (by decide +kernel) rfl, gwm 45 (by decide +kernel) rfl⟩
theorem c_Mo_170 {l : Launch} {D : va_G} : jCV (G0 l D) R_Mo 170 m_Mo_survey 1 := ⟨⟨gwm 814 (by decide +kernel) rfl, gwm 66 (by decide +kernel) rfl, k_Mo_survey, ⟨by decide, by decide, by decide +kernel⟩, by decide⟩, gwm 816 (by decide +kernel) rfl, gwm 35 (by decide +kernel) rfl⟩
theorem c_Mo_174 {l : Launch} {D : va_G} : jCV (G0 l D) R_Mo 174 m_Mo_decides 1 := ⟨⟨gwm 830 (by decide +kernel) rfl, gwm 66 (by decide +kernel) rfl, k_Mo_decides, ⟨by decide, by decide, by decide +kernel⟩, by decide⟩, gwm 832 (by decide +kernel) rfl, gwm 38 (by decide +kernel) rfl⟩
theorem c_Mo_177 {l : Launch} {D : va_G} : jCV (G0 l D) R_Mo 177 m_Mo_follows 1 := ⟨⟨gwm 849 (by decide +kernel) rfl, gwm 66 (by decide +kernel) rfl, k_Mo_follows, ⟨by decide, by decide, by decide +kernel⟩, by decide⟩, gwm 851 (by decide +kernel) rfl, gwm 42 (by decide +kernel) rfl⟩
theorem c_Mo_180 {l : Launch} {D : va_G} : jCV (G0 l D) R_Mo 180 m_Mo_proposes 1 := ⟨⟨gwm 857 (by decide +kernel) rfl, gwm 66 (by decide +kernel) rfl, k_Mo_proposes, ⟨by decide, by decide, by decide +kernel⟩, by decide⟩, gwm 859 (by decide +kernel) rfl, gwm 44 (by decide +kernel) rfl⟩
theorem c_Mo_183 {l : Launch} {D : va_G} : jCV (G0 l D) R_Mo 183 m_Mo_votes 1 := ⟨⟨gwm 865 (by decide +kernel) rfl, gwm 66 (by decide +kernel) rfl, k_Mo_votes, ⟨by decide, by decide, by decide +kernel⟩, by decide⟩, gwm 867 (by decide +kernel) rfl, gwm 46 (by decide +kernel) rfl⟩
theorem c_Mo_186 {l : Launch} {D : va_G} : jCV (G0 l D) R_Mo 186 m_Mo_accepts 1 := ⟨⟨gwm 869 (by decide +kernel) rfl, gwm 66 (by decide +kernel) rfl, k_Mo_accepts, ⟨by decide, by decide, by decide +kernel⟩, by decide⟩, gwm 871 (by decide +kernel) rfl, gwm 47 (by decide +kernel) rfl⟩
theorem c_Mo_189 {l : Launch} {D : va_G} : jCV (G0 l D) R_Mo 189 m_Mo_skips 1 := ⟨⟨gwm 873 (by decide +kernel) rfl, gwm 66 (by decide +kernel) rfl, k_Mo_skips, ⟨by decide, by decide, by decide +kernel⟩, by decide⟩, gwm 875 (by decide +kernel) rfl, gwm 48 (by decide +kernel) rfl⟩
theorem c_Mo_192 {l : Launch} {D : va_G} : jCV (G0 l D) R_Mo 192 m_Mo_faulty 1 := ⟨⟨gwm 806 (by decide +kernel) rfl, gwm 66 (by decide +kernel) rfl, k_Mo_faulty, ⟨by decide, by decide, by decide +kernel⟩, by decide⟩, gwm 808 (by decide +kernel) rfl, gwm 33 (by decide +kernel) rfl⟩
theorem f_Mo_58 {l : Launch} {D : va_G} : jF (G0 l D) R_Mo 58 10 19 := ⟨R_Mo, F_Mo, 30, rfl, by decide, ws_Mo, gwm 705 (by decide +kernel) rfl⟩
theorem c_Mo_195 {l : Launch} {D : va_G} : jCV (G0 l D) R_Mo 195 m_Mo_one 1 := ⟨⟨gwm 810 (by decide +kernel) rfl, gwm 66 (by decide +kernel) rfl, k_Mo_one, ⟨by decide, by decide, by decide +kernel⟩, by decide⟩, gwm 812 (by decide +kernel) rfl, gwm 34 (by decide +kernel) rfl⟩
theorem c_Mo_198 {l : Launch} {D : va_G} : jCV (G0 l D) R_Mo 198 m_Mo_act 1 := ⟨⟨gwm 802 (by decide +kernel) rfl, gwm 66 (by decide +kernel) rfl, k_Mo_act, ⟨by decide, by decide, by decide +kernel⟩, by decide⟩, gwm 804 (by decide +kernel) rfl, gwm 32 (by decide +kernel) rfl⟩
theorem c_Mo_201 {l : Launch} {D : va_G} : jCV (G0 l D) R_Mo 201 m_Mo_can 3 := ⟨⟨gwm 901 (by decide +kernel) rfl, gwm 66 (by decide +kernel) rfl, k_Mo_can, ⟨by decide, by decide, by decide +kernel⟩, by decide⟩, gwm 903 (by decide +kernel) rfl, gwm 53 (by decide +kernel) rfl⟩
theorem c_Mo_204 {l : Launch} {D : va_G} : jCV (G0 l D) R_Mo 204 m_Mo_take 3 := ⟨⟨gwm 905 (by decide +kernel) rfl, gwm 66 (by decide +kernel) rfl, k_Mo_take, ⟨by decide, by decide, by decide +kernel⟩, by decide⟩, gwm 907 (by decide +kernel) rfl, gwm 54 (by decide +kernel) rfl⟩
theorem c_Mo_208 {l : Launch} {D : va_G} : jCV (G0 l D) R_Mo 208 m_Mo_all 2 := ⟨⟨gwm 917 (by decide +kernel) rfl, gwm 66 (by decide +kernel) rfl, k_Mo_all, ⟨by decide, by decide, by decide +kernel⟩, by decide⟩, gwm 919 (by decide +kernel) rfl, gwm 55 (by decide +kernel) rfl⟩
theorem o_Ch_3 : Cond.methodLink R_Ch 3 Lib.objectInit ∈ GW := gwm 189 (by decide +kernel) rfl
theorem p_Ch_9 {l : Launch} {D : va_G} : jPf (G0 l D) R_Ch 9 0 0 (.int) false := ⟨R_Ch, F_Ch, 2, t_Ch, rfl, by decide, ws_Ch, gwm 190 (by decide +kernel) rfl, ty_Ch, nm_Ch, rfl, ty_Ch 0 (by decide), rfl⟩
theorem p_Ch_15 {l : Launch} {D : va_G} : jPf (G0 l D) R_Ch 15 0 1 (.int) false := ⟨R_Ch, F_Ch, 2, t_Ch, rfl, by decide, ws_Ch, gwm 192 (by decide +kernel) rfl, ty_Ch, nm_Ch, rfl, ty_Ch 1 (by decide), rfl⟩
theorem c_Ch_18 {l : Launch} {D : va_G} : jCV (G0 l D) R_Ch 18 m_Ch_set 2 := ⟨⟨gwm 400 (by decide +kernel) rfl, gwm 65 (by decide +kernel) rfl, k_Ch_set, ⟨by decide, by decide, by decide +kernel⟩, by decide⟩, gwm 401 (by decide +kernel) rfl, gwm 402 (by decide +kernel) rfl⟩
theorem o_Ho_3 : Cond.methodLink R_Ho 3 Lib.objectInit ∈ GW := gwm 154 (by decide +kernel) rfl
theorem p_Ho_9 {l : Launch} {D : va_G} : jPf (G0 l D) R_Ho 9 1 2 (.array .int) true := ⟨R_Ho, F_Ho, 4, t_Ho, rfl, by decide, ws_Ho, gwm 157 (by decide +kernel) rfl, ty_Ho, nm_Ho, rfl, ty_Ho 2 (by decide), rfl⟩
theorem p_Ho_15 {l : Launch} {D : va_G} : jPf (G0 l D) R_Ho 15 1 3 (.array .int) true := ⟨R_Ho, F_Ho, 4, t_Ho, rfl, by decide, ws_Ho, gwm 158 (by decide +kernel) rfl, ty_Ho, nm_Ho, rfl, ty_Ho 3 (by decide), rfl⟩
theorem p_Ho_18 {l : Launch} {D : va_G} : jPf (G0 l D) R_Ho 18 1 0 (.int) true := ⟨R_Ho, F_Ho, 4, t_Ho, rfl, by decide, ws_Ho, gwm 155 (by decide +kernel) rfl, ty_Ho, nm_Ho, rfl, ty_Ho 0 (by decide), rfl⟩
theorem p_Ho_22 {l : Launch} {D : va_G} : jPf (G0 l D) R_Ho 22 1 1 (.object "ShardLedger$TransactionBook") true := ⟨R_Ho, F_Ho, 4, t_Ho, rfl, by decide, ws_Ho, gwm 156 (by decide +kernel) rfl, ty_Ho, nm_Ho, rfl, ty_Ho 1 (by decide), rfl⟩
theorem f_Ho_9 {l : Launch} {D : va_G} : jF (G0 l D) R_Ho 9 1 2 := ⟨R_Ho, F_Ho, 4, rfl, by decide, ws_Ho, gwm 157 (by decide +kernel) rfl⟩
theorem f_Ho_18 {l : Launch} {D : va_G} : jF (G0 l D) R_Ho 18 1 0 := ⟨R_Ho, F_Ho, 4, rfl, by decide, ws_Ho, gwm 155 (by decide +kernel) rfl⟩
theorem f_Ho_22 {l : Launch} {D : va_G} : jF (G0 l D) R_Ho 22 1 1 := ⟨R_Ho, F_Ho, 4, rfl, by decide, ws_Ho, gwm 156 (by decide +kernel) rfl⟩
theorem c_Ho_26 {l : Launch} {D : va_G} : jCV (G0 l D) R_Ho 26 m_Tb_amountOf 1 := ⟨⟨gwm 659 (by decide +kernel) rfl, gwm 58 (by decide +kernel) rfl, k_Tb_amountOf, ⟨by decide, by decide, by decide +kernel⟩, by decide⟩, gwm 283 (by decide +kernel) rfl, gwm 284 (by decide +kernel) rfl⟩
theorem c_Ho_32 {l : Launch} {D : va_G} : jCV (G0 l D) R_Ho 32 m_Ho_lockInputs 1 := ⟨⟨gwm 368 (by decide +kernel) rfl, gwm 62 (by decide +kernel) rfl, k_Ho_lockInputs, ⟨by decide, by decide, by decide +kernel⟩, by decide⟩, gwm 370 (by decide +kernel) rfl, gwm 8 (by decide +kernel) rfl⟩
theorem c_Ho_35 {l : Launch} {D : va_G} : jCV (G0 l D) R_Ho 35 m_Ho_spendInputs 1 := ⟨⟨gwm 376 (by decide +kernel) rfl, gwm 62 (by decide +kernel) rfl, k_Ho_spendInputs, ⟨by decide, by decide, by decide +kernel⟩, by decide⟩, gwm 378 (by decide +kernel) rfl, gwm 9 (by decide +kernel) rfl⟩
theorem c_Ho_38 {l : Launch} {D : va_G} : jCV (G0 l D) R_Ho 38 m_Ho_freeInputs 1 := ⟨⟨gwm 384 (by decide +kernel) rfl, gwm 62 (by decide +kernel) rfl, k_Ho_freeInputs, ⟨by decide, by decide, by decide +kernel⟩, by decide⟩, gwm 386 (by decide +kernel) rfl, gwm 10 (by decide +kernel) rfl⟩
theorem c_Ho_41 {l : Launch} {D : va_G} : jCV (G0 l D) R_Ho 41 m_Tb_isInput 2 := ⟨⟨gwm 372 (by decide +kernel) rfl, gwm 58 (by decide +kernel) rfl, k_Tb_isInput, ⟨by decide, by decide, by decide +kernel⟩, by decide⟩, gwm 373 (by decide +kernel) rfl, gwm 374 (by decide +kernel) rfl⟩
theorem f_Ho_15 {l : Launch} {D : va_G} : jF (G0 l D) R_Ho 15 1 3 := ⟨R_Ho, F_Ho, 4, rfl, by decide, ws_Ho, gwm 158 (by decide +kernel) rfl⟩
theorem c_Ho_45 {l : Launch} {D : va_G} : jCV (G0 l D) R_Ho 45 m_Tb_isMade 2 := ⟨⟨gwm 380 (by decide +kernel) rfl, gwm 58 (by decide +kernel) rfl, k_Tb_isMade, ⟨by decide, by decide, by decide +kernel⟩, by decide⟩, gwm 381 (by decide +kernel) rfl, gwm 382 (by decide +kernel) rfl⟩
theorem o_In_3 : Cond.methodLink R_In 3 Lib.objectInit ∈ GW := gwm 178 (by decide +kernel) rfl
theorem a_In_9 : Cond.classLink R_In 9 "ShardLedger$Message" ∈ GW := gwm 179 (by decide +kernel) rfl
theorem p_In_11 {l : Launch} {D : va_G} : jPf (G0 l D) R_In 11 2 0 (.array (.object "ShardLedger$Message")) true := ⟨R_In, F_In, 1, t_In, rfl, by decide, ws_In, gwm 180 (by decide +kernel) rfl, ty_In, nm_In, rfl, ty_In 0 (by decide), rfl⟩
theorem f_In_17 {l : Launch} {D : va_G} : jF (G0 l D) R_In 17 3 0 := ⟨R_Me, F_Me, 7, rfl, by decide, ws_Me, gwm 439 (by decide +kernel) rfl⟩
theorem f_In_21 {l : Launch} {D : va_G} : jF (G0 l D) R_In 21 3 3 := ⟨R_Me, F_Me, 7, rfl, by decide, ws_Me, gwm 445 (by decide +kernel) rfl⟩
theorem f_In_24 {l : Launch} {D : va_G} : jF (G0 l D) R_In 24 3 1 := ⟨R_Me, F_Me, 7, rfl, by decide, ws_Me, gwm 441 (by decide +kernel) rfl⟩
theorem c_In_27 {l : Launch} {D : va_G} : jCS (G0 l D) R_In 27 m_In_slot 3 := ⟨⟨gwm 336 (by decide +kernel) rfl, gwm 64 (by decide +kernel) rfl, k_In_slot, ⟨by decide, by decide, by decide +kernel⟩, by decide⟩, gwm 337 (by decide +kernel) rfl⟩
theorem f_In_11 {l : Launch} {D : va_G} : jF (G0 l D) R_In 11 2 0 := ⟨R_In, F_In, 1, rfl, by decide, ws_In, gwm 180 (by decide +kernel) rfl⟩
theorem c_In_31 {l : Launch} {D : va_G} : jCV (G0 l D) R_In 31 m_In_find 3 := ⟨⟨gwm 351 (by decide +kernel) rfl, gwm 64 (by decide +kernel) rfl, k_In_find, ⟨by decide, by decide, by decide +kernel⟩, by decide⟩, gwm 333 (by decide +kernel) rfl, gwm 334 (by decide +kernel) rfl⟩
theorem f_In_35 {l : Launch} {D : va_G} : jF (G0 l D) R_In 35 3 4 := ⟨R_Me, F_Me, 7, rfl, by decide, ws_Me, gwm 447 (by decide +kernel) rfl⟩
theorem o_Me_3 : Cond.methodLink R_Me 3 Lib.objectInit ∈ GW := gwm 437 (by decide +kernel) rfl
theorem p_Me_9 {l : Launch} {D : va_G} : jPf (G0 l D) R_Me 9 3 0 (.int) true := ⟨R_Me, F_Me, 7, t_Me, rfl, by decide, ws_Me, gwm 438 (by decide +kernel) rfl, ty_Me, nm_Me, rfl, ty_Me 0 (by decide), rfl⟩
theorem p_Me_15 {l : Launch} {D : va_G} : jPf (G0 l D) R_Me 15 3 1 (.int) true := ⟨R_Me, F_Me, 7, t_Me, rfl, by decide, ws_Me, gwm 440 (by decide +kernel) rfl, ty_Me, nm_Me, rfl, ty_Me 1 (by decide), rfl⟩
theorem p_Me_18 {l : Launch} {D : va_G} : jPf (G0 l D) R_Me 18 3 2 (.int) true := ⟨R_Me, F_Me, 7, t_Me, rfl, by decide, ws_Me, gwm 442 (by decide +kernel) rfl, ty_Me, nm_Me, rfl, ty_Me 2 (by decide), rfl⟩
theorem p_Me_21 {l : Launch} {D : va_G} : jPf (G0 l D) R_Me 21 3 3 (.int) true := ⟨R_Me, F_Me, 7, t_Me, rfl, by decide, ws_Me, gwm 444 (by decide +kernel) rfl, ty_Me, nm_Me, rfl, ty_Me 3 (by decide), rfl⟩
theorem p_Me_24 {l : Launch} {D : va_G} : jPf (G0 l D) R_Me 24 3 4 (.int) true := ⟨R_Me, F_Me, 7, t_Me, rfl, by decide, ws_Me, gwm 446 (by decide +kernel) rfl, ty_Me, nm_Me, rfl, ty_Me 4 (by decide), rfl⟩
theorem p_Me_27 {l : Launch} {D : va_G} : jPf (G0 l D) R_Me 27 3 5 (.int) true := ⟨R_Me, F_Me, 7, t_Me, rfl, by decide, ws_Me, gwm 449 (by decide +kernel) rfl, ty_Me, nm_Me, rfl, ty_Me 5 (by decide), rfl⟩
theorem p_Me_30 {l : Launch} {D : va_G} : jPf (G0 l D) R_Me 30 3 6 (.int) false := ⟨R_Me, F_Me, 7, t_Me, rfl, by decide, ws_Me, gwm 451 (by decide +kernel) rfl, ty_Me, nm_Me, rfl, ty_Me 6 (by decide), rfl⟩
theorem f_Me_30 {l : Launch} {D : va_G} : jF (G0 l D) R_Me 30 3 6 := ⟨R_Me, F_Me, 7, rfl, by decide, ws_Me, gwm 451 (by decide +kernel) rfl⟩
theorem f_Me_9 {l : Launch} {D : va_G} : jF (G0 l D) R_Me 9 3 0 := ⟨R_Me, F_Me, 7, rfl, by decide, ws_Me, gwm 438 (by decide +kernel) rfl⟩
theorem f_Me_15 {l : Launch} {D : va_G} : jF (G0 l D) R_Me 15 3 1 := ⟨R_Me, F_Me, 7, rfl, by decide, ws_Me, gwm 440 (by decide +kernel) rfl⟩
theorem f_Me_18 {l : Launch} {D : va_G} : jF (G0 l D) R_Me 18 3 2 := ⟨R_Me, F_Me, 7, rfl, by decide, ws_Me, gwm 442 (by decide +kernel) rfl⟩
theorem f_Me_21 {l : Launch} {D : va_G} : jF (G0 l D) R_Me 21 3 3 := ⟨R_Me, F_Me, 7, rfl, by decide, ws_Me, gwm 444 (by decide +kernel) rfl⟩
theorem f_Me_24 {l : Launch} {D : va_G} : jF (G0 l D) R_Me 24 3 4 := ⟨R_Me, F_Me, 7, rfl, by decide, ws_Me, gwm 446 (by decide +kernel) rfl⟩
theorem f_Me_27 {l : Launch} {D : va_G} : jF (G0 l D) R_Me 27 3 5 := ⟨R_Me, F_Me, 7, rfl, by decide, ws_Me, gwm 449 (by decide +kernel) rfl⟩
theorem o_Lo_3 : Cond.methodLink R_Lo 3 Lib.objectInit ∈ GW := gwm 137 (by decide +kernel) rfl
theorem a_Lo_9 : Cond.classLink R_Lo 9 "ShardLedger$Message" ∈ GW := gwm 138 (by decide +kernel) rfl
theorem p_Lo_11 {l : Launch} {D : va_G} : jPf (G0 l D) R_Lo 11 4 0 (.array (.object "ShardLedger$Message")) true := ⟨R_Lo, F_Lo, 2, t_Lo, rfl, by decide, ws_Lo, gwm 140 (by decide +kernel) rfl, ty_Lo, nm_Lo, rfl, ty_Lo 0 (by decide), rfl⟩
theorem f_Lo_17 {l : Launch} {D : va_G} : jF (G0 l D) R_Lo 17 4 1 := ⟨R_Lo, F_Lo, 2, rfl, by decide, ws_Lo, gwm 141 (by decide +kernel) rfl⟩
theorem f_Lo_11 {l : Launch} {D : va_G} : jF (G0 l D) R_Lo 11 4 0 := ⟨R_Lo, F_Lo, 2, rfl, by decide, ws_Lo, gwm 140 (by decide +kernel) rfl⟩
theorem p_Lo_17 {l : Launch} {D : va_G} : jPf (G0 l D) R_Lo 17 4 1 (.int) false := ⟨R_Lo, F_Lo, 2, t_Lo, rfl, by decide, ws_Lo, gwm 141 (by decide +kernel) rfl, ty_Lo, nm_Lo, rfl, ty_Lo 1 (by decide), rfl⟩
theorem o_Re_3 : Cond.methodLink R_Re 3 Lib.objectInit ∈ GW := gwm 172 (by decide +kernel) rfl
theorem n_Re_9 {l : Launch} {D : va_G} : jNf (G0 l D) R_Re 9 2 1 [.null] := ⟨R_In, F_In, t_In, rfl, ws_In, gwm 173 (by decide +kernel) rfl, gwm 174 (by decide +kernel) rfl, gwm 64 (by decide +kernel) rfl, ty_In, by decide +kernel⟩
theorem c_Re_11 {l : Launch} {D : va_G} : jCN (G0 l D) R_Re 11 m_In_init "ShardLedger" 0 := ⟨fun s h => h.2.2.1, gwm 64 (by decide +kernel) rfl, k_In_init, ⟨by decide, by decide, by decide +kernel⟩, by decide, gwm 176 (by decide +kernel) rfl, rfl, rfl⟩
theorem p_Re_12 {l : Launch} {D : va_G} : jPf (G0 l D) R_Re 12 5 6 (.object "ShardLedger$Inbox") true := ⟨R_Re, F_Re, 14, t_Re, rfl, by decide, ws_Re, gwm 207 (by decide +kernel) rfl, ty_Re, nm_Re, rfl, ty_Re 6 (by decide), rfl⟩
theorem n_Re_18 {l : Launch} {D : va_G} : jNf (G0 l D) R_Re 18 0 2 [.int 0, .int 0] := ⟨R_Ch, F_Ch, t_Ch, rfl, ws_Ch, gwm 184 (by decide +kernel) rfl, gwm 185 (by decide +kernel) rfl, gwm 65 (by decide +kernel) rfl, ty_Ch, by decide +kernel⟩
theorem c_Re_20 {l : Launch} {D : va_G} : jCN (G0 l D) R_Re 20 m_Ch_init "ShardLedger" 0 := ⟨fun s h => h.2.2.2.1, gwm 65 (by decide +kernel) rfl, k_Ch_init, ⟨by decide, by decide, by decide +kernel⟩, by decide, gwm 187 (by decide +kernel) rfl, rfl, rfl⟩
theorem p_Re_21 {l : Launch} {D : va_G} : jPf (G0 l D) R_Re 21 5 7 (.object "ShardLedger$Choice") true := ⟨R_Re, F_Re, 14, t_Re, rfl, by decide, ws_Re, gwm 208 (by decide +kernel) rfl, ty_Re, nm_Re, rfl, ty_Re 7 (by decide), rfl⟩
theorem p_Re_25 {l : Launch} {D : va_G} : jPf (G0 l D) R_Re 25 5 8 (.object "ShardLedger$Choice") true := ⟨R_Re, F_Re, 14, t_Re, rfl, by decide, ws_Re, gwm 209 (by decide +kernel) rfl, ty_Re, nm_Re, rfl, ty_Re 8 (by decide), rfl⟩
theorem p_Re_28 {l : Launch} {D : va_G} : jPf (G0 l D) R_Re 28 5 9 (.array .int) true := ⟨R_Re, F_Re, 14, t_Re, rfl, by decide, ws_Re, gwm 210 (by decide +kernel) rfl, ty_Re, nm_Re, rfl, ty_Re 9 (by decide), rfl⟩
theorem p_Re_32 {l : Launch} {D : va_G} : jPf (G0 l D) R_Re 32 5 0 (.int) true := ⟨R_Re, F_Re, 14, t_Re, rfl, by decide, ws_Re, gwm 199 (by decide +kernel) rfl, ty_Re, nm_Re, rfl, ty_Re 0 (by decide), rfl⟩
theorem p_Re_36 {l : Launch} {D : va_G} : jPf (G0 l D) R_Re 36 5 1 (.int) true := ⟨R_Re, F_Re, 14, t_Re, rfl, by decide, ws_Re, gwm 200 (by decide +kernel) rfl, ty_Re, nm_Re, rfl, ty_Re 1 (by decide), rfl⟩
theorem p_Re_39 {l : Launch} {D : va_G} : jPf (G0 l D) R_Re 39 5 2 (.boolean) true := ⟨R_Re, F_Re, 14, t_Re, rfl, by decide, ws_Re, gwm 201 (by decide +kernel) rfl, ty_Re, nm_Re, rfl, ty_Re 2 (by decide), rfl⟩
theorem p_Re_43 {l : Launch} {D : va_G} : jPf (G0 l D) R_Re 43 5 3 (.object "ShardLedger$RequestBook") true := ⟨R_Re, F_Re, 14, t_Re, rfl, by decide, ws_Re, gwm 203 (by decide +kernel) rfl, ty_Re, nm_Re, rfl, ty_Re 3 (by decide), rfl⟩
theorem p_Re_47 {l : Launch} {D : va_G} : jPf (G0 l D) R_Re 47 5 4 (.object "ShardLedger$MessageLog") true := ⟨R_Re, F_Re, 14, t_Re, rfl, by decide, ws_Re, gwm 204 (by decide +kernel) rfl, ty_Re, nm_Re, rfl, ty_Re 4 (by decide), rfl⟩
theorem p_Re_51 {l : Launch} {D : va_G} : jPf (G0 l D) R_Re 51 5 5 (.object "ShardLedger$Holdings") true := ⟨R_Re, F_Re, 14, t_Re, rfl, by decide, ws_Re, gwm 205 (by decide +kernel) rfl, ty_Re, nm_Re, rfl, ty_Re 5 (by decide), rfl⟩
theorem c_Re_55 {l : Launch} {D : va_G} : jCV (G0 l D) R_Re 55 m_Re_isIdle 0 := ⟨⟨gwm 315 (by decide +kernel) rfl, gwm 63 (by decide +kernel) rfl, k_Re_isIdle, ⟨by decide, by decide, by decide +kernel⟩, by decide⟩, gwm 317 (by decide +kernel) rfl, gwm 3 (by decide +kernel) rfl⟩
theorem f_Re_36 {l : Launch} {D : va_G} : jF (G0 l D) R_Re 36 5 1 := ⟨R_Re, F_Re, 14, rfl, by decide, ws_Re, gwm 200 (by decide +kernel) rfl⟩
theorem c_Re_59 {l : Launch} {D : va_G} : jCV (G0 l D) R_Re 59 m_Me_isTakenBy 1 := ⟨⟨gwm 564 (by decide +kernel) rfl, gwm 67 (by decide +kernel) rfl, k_Me_isTakenBy, ⟨by decide, by decide, by decide +kernel⟩, by decide⟩, gwm 565 (by decide +kernel) rfl, gwm 566 (by decide +kernel) rfl⟩
theorem f_Re_65 {l : Launch} {D : va_G} : jF (G0 l D) R_Re 65 5 11 := ⟨R_Re, F_Re, 14, rfl, by decide, ws_Re, gwm 212 (by decide +kernel) rfl⟩
theorem f_Re_68 {l : Launch} {D : va_G} : jF (G0 l D) R_Re 68 3 2 := ⟨R_Me, F_Me, 7, rfl, by decide, ws_Me, gwm 443 (by decide +kernel) rfl⟩
theorem c_Re_69 {l : Launch} {D : va_G} : jCV (G0 l D) R_Re 69 m_Me_setTakenBy 1 := ⟨⟨gwm 568 (by decide +kernel) rfl, gwm 67 (by decide +kernel) rfl, k_Me_setTakenBy, ⟨by decide, by decide, by decide +kernel⟩, by decide⟩, gwm 569 (by decide +kernel) rfl, gwm 570 (by decide +kernel) rfl⟩
theorem f_Re_12 {l : Launch} {D : va_G} : jF (G0 l D) R_Re 12 5 6 := ⟨R_Re, F_Re, 14, rfl, by decide, ws_Re, gwm 207 (by decide +kernel) rfl⟩
theorem c_Re_73 {l : Launch} {D : va_G} : jCV (G0 l D) R_Re 73 m_In_put 1 := ⟨⟨gwm 471 (by decide +kernel) rfl, gwm 64 (by decide +kernel) rfl, k_In_put, ⟨by decide, by decide, by decide +kernel⟩, by decide⟩, gwm 472 (by decide +kernel) rfl, gwm 473 (by decide +kernel) rfl⟩
theorem c_Re_77 {l : Launch} {D : va_G} : jCV (G0 l D) R_Re 77 m_Re_act 0 := ⟨⟨gwm 572 (by decide +kernel) rfl, gwm 63 (by decide +kernel) rfl, k_Re_act, ⟨by decide, by decide, by decide +kernel⟩, by decide⟩, gwm 312 (by decide +kernel) rfl, gwm 313 (by decide +kernel) rfl⟩
theorem c_Re_80 {l : Launch} {D : va_G} : jCV (G0 l D) R_Re 80 m_In_find 3 := ⟨⟨gwm 332 (by decide +kernel) rfl, gwm 64 (by decide +kernel) rfl, k_In_find, ⟨by decide, by decide, by decide +kernel⟩, by decide⟩, gwm 333 (by decide +kernel) rfl, gwm 334 (by decide +kernel) rfl⟩
theorem n_Re_60 {l : Launch} {D : va_G} : jNf (G0 l D) R_Re 60 3 7 [.int 0, .int 0, .int 0, .int 0, .int 0, .int 0, .int 0] := ⟨R_Me, F_Me, t_Me, rfl, ws_Me, gwm 432 (by decide +kernel) rfl, gwm 433 (by decide +kernel) rfl, gwm 67 (by decide +kernel) rfl, ty_Me, by decide +kernel⟩
theorem c_Re_84 {l : Launch} {D : va_G} : jCI (G0 l D) R_Re 84 m_Me_init 6 := ⟨⟨gwm 434 (by decide +kernel) rfl, gwm 67 (by decide +kernel) rfl, k_Me_init, ⟨by decide, by decide, by decide +kernel⟩, by decide⟩, gwm 435 (by decide +kernel) rfl, rfl, rfl⟩
theorem f_Re_87 {l : Launch} {D : va_G} : jF (G0 l D) R_Re 87 5 13 := ⟨R_Re, F_Re, 14, rfl, by decide, ws_Re, gwm 214 (by decide +kernel) rfl⟩
theorem c_Re_90 {l : Launch} {D : va_G} : jCV (G0 l D) R_Re 90 m_Re_sendVote 1 := ⟨⟨gwm 487 (by decide +kernel) rfl, gwm 63 (by decide +kernel) rfl, k_Re_sendVote, ⟨by decide, by decide, by decide +kernel⟩, by decide⟩, gwm 489 (by decide +kernel) rfl, gwm 19 (by decide +kernel) rfl⟩
theorem f_Re_93 {l : Launch} {D : va_G} : jF (G0 l D) R_Re 93 5 12 := ⟨R_Re, F_Re, 14, rfl, by decide, ws_Re, gwm 213 (by decide +kernel) rfl⟩
theorem c_Re_96 {l : Launch} {D : va_G} : jCV (G0 l D) R_Re 96 m_In_hasQuorumOfAny 2 := ⟨⟨gwm 590 (by decide +kernel) rfl, gwm 64 (by decide +kernel) rfl, k_In_hasQuorumOfAny, ⟨by decide, by decide, by decide +kernel⟩, by decide⟩, gwm 591 (by decide +kernel) rfl, gwm 592 (by decide +kernel) rfl⟩
theorem c_Re_100 {l : Launch} {D : va_G} : jCV (G0 l D) R_Re 100 m_Re_sendSeal 1 := ⟨⟨gwm 496 (by decide +kernel) rfl, gwm 63 (by decide +kernel) rfl, k_Re_sendSeal, ⟨by decide, by decide, by decide +kernel⟩, by decide⟩, gwm 498 (by decide +kernel) rfl, gwm 21 (by decide +kernel) rfl⟩
theorem c_Re_103 {l : Launch} {D : va_G} : jCV (G0 l D) R_Re 103 m_Re_enterRound 1 := ⟨⟨gwm 392 (by decide +kernel) rfl, gwm 63 (by decide +kernel) rfl, k_Re_enterRound, ⟨by decide, by decide, by decide +kernel⟩, by decide⟩, gwm 394 (by decide +kernel) rfl, gwm 11 (by decide +kernel) rfl⟩
theorem f_Re_39 {l : Launch} {D : va_G} : jF (G0 l D) R_Re 39 5 2 := ⟨R_Re, F_Re, 14, rfl, by decide, ws_Re, gwm 201 (by decide +kernel) rfl⟩
theorem f_Re_106 {l : Launch} {D : va_G} : jF (G0 l D) R_Re 106 5 10 := ⟨R_Re, F_Re, 14, rfl, by decide, ws_Re, gwm 211 (by decide +kernel) rfl⟩
theorem p_Re_106 {l : Launch} {D : va_G} : jPf (G0 l D) R_Re 106 5 10 (.boolean) false := ⟨R_Re, F_Re, 14, t_Re, rfl, by decide, ws_Re, gwm 211 (by decide +kernel) rfl, ty_Re, nm_Re, rfl, ty_Re 10 (by decide), rfl⟩
theorem w_Re_109 : Cond.constant "ShardLedger$Replica" 109 (1000000 : Int32) ∈ GW := gwm 319 (by decide +kernel) rfl
theorem c_Re_110 {l : Launch} {D : va_G} : jCV (G0 l D) R_Re 110 m_Re_executeSealed 0 := ⟨⟨gwm 320 (by decide +kernel) rfl, gwm 63 (by decide +kernel) rfl, k_Re_executeSealed, ⟨by decide, by decide, by decide +kernel⟩, by decide⟩, gwm 322 (by decide +kernel) rfl, gwm 4 (by decide +kernel) rfl⟩
theorem c_Re_113 {l : Launch} {D : va_G} : jCV (G0 l D) R_Re 113 m_Re_joinHigherRound 0 := ⟨⟨gwm 408 (by decide +kernel) rfl, gwm 63 (by decide +kernel) rfl, k_Re_joinHigherRound, ⟨by decide, by decide, by decide +kernel⟩, by decide⟩, gwm 410 (by decide +kernel) rfl, gwm 12 (by decide +kernel) rfl⟩
theorem c_Re_116 {l : Launch} {D : va_G} : jCV (G0 l D) R_Re 116 m_Re_propose 0 := ⟨⟨gwm 416 (by decide +kernel) rfl, gwm 63 (by decide +kernel) rfl, k_Re_propose, ⟨by decide, by decide, by decide +kernel⟩, by decide⟩, gwm 418 (by decide +kernel) rfl, gwm 13 (by decide +kernel) rfl⟩
theorem c_Re_119 {l : Launch} {D : va_G} : jCV (G0 l D) R_Re 119 m_Re_vote 0 := ⟨⟨gwm 475 (by decide +kernel) rfl, gwm 63 (by decide +kernel) rfl, k_Re_vote, ⟨by decide, by decide, by decide +kernel⟩, by decide⟩, gwm 477 (by decide +kernel) rfl, gwm 16 (by decide +kernel) rfl⟩
theorem c_Re_122 {l : Launch} {D : va_G} : jCV (G0 l D) R_Re 122 m_Re_chooseCandidate 0 := ⟨⟨gwm 491 (by decide +kernel) rfl, gwm 63 (by decide +kernel) rfl, k_Re_chooseCandidate, ⟨by decide, by decide, by decide +kernel⟩, by decide⟩, gwm 493 (by decide +kernel) rfl, gwm 20 (by decide +kernel) rfl⟩
theorem c_Re_125 {l : Launch} {D : va_G} : jCV (G0 l D) R_Re 125 m_Re_sealNone 0 := ⟨⟨gwm 500 (by decide +kernel) rfl, gwm 63 (by decide +kernel) rfl, k_Re_sealNone, ⟨by decide, by decide, by decide +kernel⟩, by decide⟩, gwm 502 (by decide +kernel) rfl, gwm 22 (by decide +kernel) rfl⟩
theorem f_Re_21 {l : Launch} {D : va_G} : jF (G0 l D) R_Re 21 5 7 := ⟨R_Re, F_Re, 14, rfl, by decide, ws_Re, gwm 208 (by decide +kernel) rfl⟩
theorem f_Re_128 {l : Launch} {D : va_G} : jF (G0 l D) R_Re 128 0 0 := ⟨R_Ch, F_Ch, 2, rfl, by decide, ws_Ch, gwm 191 (by decide +kernel) rfl⟩
theorem f_Re_131 {l : Launch} {D : va_G} : jF (G0 l D) R_Re 131 0 1 := ⟨R_Ch, F_Ch, 2, rfl, by decide, ws_Ch, gwm 193 (by decide +kernel) rfl⟩
theorem f_Re_25 {l : Launch} {D : va_G} : jF (G0 l D) R_Re 25 5 8 := ⟨R_Re, F_Re, 14, rfl, by decide, ws_Re, gwm 209 (by decide +kernel) rfl⟩
theorem f_Re_28 {l : Launch} {D : va_G} : jF (G0 l D) R_Re 28 5 9 := ⟨R_Re, F_Re, 14, rfl, by decide, ws_Re, gwm 210 (by decide +kernel) rfl⟩
theorem c_Re_132 {l : Launch} {D : va_G} : jCV (G0 l D) R_Re 132 m_Re_sealedRequest 0 := ⟨⟨gwm 324 (by decide +kernel) rfl, gwm 63 (by decide +kernel) rfl, k_Re_sealedRequest, ⟨by decide, by decide, by decide +kernel⟩, by decide⟩, gwm 326 (by decide +kernel) rfl, gwm 5 (by decide +kernel) rfl⟩
theorem f_Re_43 {l : Launch} {D : va_G} : jF (G0 l D) R_Re 43 5 3 := ⟨R_Re, F_Re, 14, rfl, by decide, ws_Re, gwm 203 (by decide +kernel) rfl⟩
theorem f_Re_51 {l : Launch} {D : va_G} : jF (G0 l D) R_Re 51 5 5 := ⟨R_Re, F_Re, 14, rfl, by decide, ws_Re, gwm 205 (by decide +kernel) rfl⟩
theorem c_Re_136 {l : Launch} {D : va_G} : jCV (G0 l D) R_Re 136 m_Rb_kindOf 1 := ⟨⟨gwm 352 (by decide +kernel) rfl, gwm 59 (by decide +kernel) rfl, k_Rb_kindOf, ⟨by decide, by decide, by decide +kernel⟩, by decide⟩, gwm 353 (by decide +kernel) rfl, gwm 354 (by decide +kernel) rfl⟩
theorem c_Re_142 {l : Launch} {D : va_G} : jCV (G0 l D) R_Re 142 m_Rb_transactionOf 1 := ⟨⟨gwm 360 (by decide +kernel) rfl, gwm 59 (by decide +kernel) rfl, k_Rb_transactionOf, ⟨by decide, by decide, by decide +kernel⟩, by decide⟩, gwm 361 (by decide +kernel) rfl, gwm 362 (by decide +kernel) rfl⟩
theorem c_Re_145 {l : Launch} {D : va_G} : jCV (G0 l D) R_Re 145 m_Ho_carryOut 2 := ⟨⟨gwm 364 (by decide +kernel) rfl, gwm 62 (by decide +kernel) rfl, k_Ho_carryOut, ⟨by decide, by decide, by decide +kernel⟩, by decide⟩, gwm 365 (by decide +kernel) rfl, gwm 366 (by decide +kernel) rfl⟩
theorem c_Re_151 {l : Launch} {D : va_G} : jCV (G0 l D) R_Re 151 m_Rb_noteExecution 2 := ⟨⟨gwm 388 (by decide +kernel) rfl, gwm 59 (by decide +kernel) rfl, k_Rb_noteExecution, ⟨by decide, by decide, by decide +kernel⟩, by decide⟩, gwm 389 (by decide +kernel) rfl, gwm 390 (by decide +kernel) rfl⟩
theorem p_Re_65 {l : Launch} {D : va_G} : jPf (G0 l D) R_Re 65 5 11 (.int) false := ⟨R_Re, F_Re, 14, t_Re, rfl, by decide, ws_Re, gwm 212 (by decide +kernel) rfl, ty_Re, nm_Re, rfl, ty_Re 11 (by decide), rfl⟩
theorem c_Re_155 {l : Launch} {D : va_G} : jCV (G0 l D) R_Re 155 m_Ch_clear 0 := ⟨⟨gwm 396 (by decide +kernel) rfl, gwm 65 (by decide +kernel) rfl, k_Ch_clear, ⟨by decide, by decide, by decide +kernel⟩, by decide⟩, gwm 397 (by decide +kernel) rfl, gwm 398 (by decide +kernel) rfl⟩
theorem c_Re_158 {l : Launch} {D : va_G} : jCV (G0 l D) R_Re 158 m_In_clear 0 := ⟨⟨gwm 404 (by decide +kernel) rfl, gwm 64 (by decide +kernel) rfl, k_In_clear, ⟨by decide, by decide, by decide +kernel⟩, by decide⟩, gwm 405 (by decide +kernel) rfl, gwm 406 (by decide +kernel) rfl⟩
theorem c_Re_159 {l : Launch} {D : va_G} : jCV (G0 l D) R_Re 159 m_Re_leaderOf 1 := ⟨⟨gwm 328 (by decide +kernel) rfl, gwm 63 (by decide +kernel) rfl, k_Re_leaderOf, ⟨by decide, by decide, by decide +kernel⟩, by decide⟩, gwm 330 (by decide +kernel) rfl, gwm 6 (by decide +kernel) rfl⟩
theorem f_Re_162 {l : Launch} {D : va_G} : jF (G0 l D) R_Re 162 3 4 := ⟨R_Me, F_Me, 7, rfl, by decide, ws_Me, gwm 448 (by decide +kernel) rfl⟩
theorem c_Re_163 {l : Launch} {D : va_G} : jCV (G0 l D) R_Re 163 m_Re_isGood 1 := ⟨⟨gwm 339 (by decide +kernel) rfl, gwm 63 (by decide +kernel) rfl, k_Re_isGood, ⟨by decide, by decide, by decide +kernel⟩, by decide⟩, gwm 341 (by decide +kernel) rfl, gwm 7 (by decide +kernel) rfl⟩
theorem c_Re_166 {l : Launch} {D : va_G} : jCV (G0 l D) R_Re 166 m_In_hasQuorumFor 3 := ⟨⟨gwm 347 (by decide +kernel) rfl, gwm 64 (by decide +kernel) rfl, k_In_hasQuorumFor, ⟨by decide, by decide, by decide +kernel⟩, by decide⟩, gwm 348 (by decide +kernel) rfl, gwm 349 (by decide +kernel) rfl⟩
theorem c_Re_170 {l : Launch} {D : va_G} : jCV (G0 l D) R_Re 170 m_In_countSenders 2 := ⟨⟨gwm 412 (by decide +kernel) rfl, gwm 64 (by decide +kernel) rfl, k_In_countSenders, ⟨by decide, by decide, by decide +kernel⟩, by decide⟩, gwm 413 (by decide +kernel) rfl, gwm 414 (by decide +kernel) rfl⟩
theorem c_Re_173 {l : Launch} {D : va_G} : jCV (G0 l D) R_Re 173 m_Re_firstGood 0 := ⟨⟨gwm 420 (by decide +kernel) rfl, gwm 63 (by decide +kernel) rfl, k_Re_firstGood, ⟨by decide, by decide, by decide +kernel⟩, by decide⟩, gwm 422 (by decide +kernel) rfl, gwm 14 (by decide +kernel) rfl⟩
theorem c_Re_176 {l : Launch} {D : va_G} : jCV (G0 l D) R_Re 176 m_Re_send 3 := ⟨⟨gwm 428 (by decide +kernel) rfl, gwm 63 (by decide +kernel) rfl, k_Re_send, ⟨by decide, by decide, by decide +kernel⟩, by decide⟩, gwm 430 (by decide +kernel) rfl, gwm 15 (by decide +kernel) rfl⟩
theorem c_Re_180 {l : Launch} {D : va_G} : jCV (G0 l D) R_Re 180 m_Re_isBacked 1 := ⟨⟨gwm 479 (by decide +kernel) rfl, gwm 63 (by decide +kernel) rfl, k_Re_isBacked, ⟨by decide, by decide, by decide +kernel⟩, by decide⟩, gwm 481 (by decide +kernel) rfl, gwm 17 (by decide +kernel) rfl⟩
theorem c_Re_184 {l : Launch} {D : va_G} : jCV (G0 l D) R_Re 184 m_Re_isWelcome 1 := ⟨⟨gwm 483 (by decide +kernel) rfl, gwm 63 (by decide +kernel) rfl, k_Re_isWelcome, ⟨by decide, by decide, by decide +kernel⟩, by decide⟩, gwm 485 (by decide +kernel) rfl, gwm 18 (by decide +kernel) rfl⟩
theorem c_Re_187 {l : Launch} {D : va_G} : jCV (G0 l D) R_Re 187 m_Ch_set 2 := ⟨⟨gwm 495 (by decide +kernel) rfl, gwm 65 (by decide +kernel) rfl, k_Ch_set, ⟨by decide, by decide, by decide +kernel⟩, by decide⟩, gwm 401 (by decide +kernel) rfl, gwm 402 (by decide +kernel) rfl⟩
theorem f_Re_190 {l : Launch} {D : va_G} : jF (G0 l D) R_Re 190 3 5 := ⟨R_Me, F_Me, 7, rfl, by decide, ws_Me, gwm 450 (by decide +kernel) rfl⟩
theorem f_Re_32 {l : Launch} {D : va_G} : jF (G0 l D) R_Re 32 5 0 := ⟨R_Re, F_Re, 14, rfl, by decide, ws_Re, gwm 199 (by decide +kernel) rfl⟩
theorem c_Re_193 {l : Launch} {D : va_G} : jCV (G0 l D) R_Re 193 m_Rb_isFor 2 := ⟨⟨gwm 343 (by decide +kernel) rfl, gwm 59 (by decide +kernel) rfl, k_Rb_isFor, ⟨by decide, by decide, by decide +kernel⟩, by decide⟩, gwm 344 (by decide +kernel) rfl, gwm 345 (by decide +kernel) rfl⟩
theorem c_Re_196 {l : Launch} {D : va_G} : jCV (G0 l D) R_Re 196 m_Rb_count 0 := ⟨⟨gwm 424 (by decide +kernel) rfl, gwm 59 (by decide +kernel) rfl, k_Rb_count, ⟨by decide, by decide, by decide +kernel⟩, by decide⟩, gwm 425 (by decide +kernel) rfl, gwm 426 (by decide +kernel) rfl⟩
theorem p_Re_93 {l : Launch} {D : va_G} : jPf (G0 l D) R_Re 93 5 12 (.int) false := ⟨R_Re, F_Re, 14, t_Re, rfl, by decide, ws_Re, gwm 213 (by decide +kernel) rfl, ty_Re, nm_Re, rfl, ty_Re 12 (by decide), rfl⟩
theorem p_Re_87 {l : Launch} {D : va_G} : jPf (G0 l D) R_Re 87 5 13 (.int) false := ⟨R_Re, F_Re, 14, t_Re, rfl, by decide, ws_Re, gwm 214 (by decide +kernel) rfl, ty_Re, nm_Re, rfl, ty_Re 13 (by decide), rfl⟩
theorem f_Re_47 {l : Launch} {D : va_G} : jF (G0 l D) R_Re 47 5 4 := ⟨R_Re, F_Re, 14, rfl, by decide, ws_Re, gwm 204 (by decide +kernel) rfl⟩
theorem c_Re_199 {l : Launch} {D : va_G} : jCV (G0 l D) R_Re 199 m_Lo_add 1 := ⟨⟨gwm 467 (by decide +kernel) rfl, gwm 61 (by decide +kernel) rfl, k_Lo_add, ⟨by decide, by decide, by decide +kernel⟩, by decide⟩, gwm 468 (by decide +kernel) rfl, gwm 469 (by decide +kernel) rfl⟩
theorem o_Rb_3 : Cond.methodLink R_Rb 3 Lib.objectInit ∈ GW := gwm 105 (by decide +kernel) rfl
theorem p_Rb_9 {l : Launch} {D : va_G} : jPf (G0 l D) R_Rb 9 6 0 (.array .int) true := ⟨R_Rb, F_Rb, 6, t_Rb, rfl, by decide, ws_Rb, gwm 106 (by decide +kernel) rfl, ty_Rb, nm_Rb, rfl, ty_Rb 0 (by decide), rfl⟩
theorem p_Rb_15 {l : Launch} {D : va_G} : jPf (G0 l D) R_Rb 15 6 1 (.array .int) true := ⟨R_Rb, F_Rb, 6, t_Rb, rfl, by decide, ws_Rb, gwm 107 (by decide +kernel) rfl, ty_Rb, nm_Rb, rfl, ty_Rb 1 (by decide), rfl⟩
theorem p_Rb_18 {l : Launch} {D : va_G} : jPf (G0 l D) R_Rb 18 6 2 (.array .int) true := ⟨R_Rb, F_Rb, 6, t_Rb, rfl, by decide, ws_Rb, gwm 108 (by decide +kernel) rfl, ty_Rb, nm_Rb, rfl, ty_Rb 2 (by decide), rfl⟩
theorem p_Rb_21 {l : Launch} {D : va_G} : jPf (G0 l D) R_Rb 21 6 3 (.array .int) true := ⟨R_Rb, F_Rb, 6, t_Rb, rfl, by decide, ws_Rb, gwm 109 (by decide +kernel) rfl, ty_Rb, nm_Rb, rfl, ty_Rb 3 (by decide), rfl⟩
theorem p_Rb_24 {l : Launch} {D : va_G} : jPf (G0 l D) R_Rb 24 6 4 (.array .int) true := ⟨R_Rb, F_Rb, 6, t_Rb, rfl, by decide, ws_Rb, gwm 110 (by decide +kernel) rfl, ty_Rb, nm_Rb, rfl, ty_Rb 4 (by decide), rfl⟩
theorem f_Rb_27 {l : Launch} {D : va_G} : jF (G0 l D) R_Rb 27 6 5 := ⟨R_Rb, F_Rb, 6, rfl, by decide, ws_Rb, gwm 111 (by decide +kernel) rfl⟩
theorem f_Rb_9 {l : Launch} {D : va_G} : jF (G0 l D) R_Rb 9 6 0 := ⟨R_Rb, F_Rb, 6, rfl, by decide, ws_Rb, gwm 106 (by decide +kernel) rfl⟩
theorem f_Rb_15 {l : Launch} {D : va_G} : jF (G0 l D) R_Rb 15 6 1 := ⟨R_Rb, F_Rb, 6, rfl, by decide, ws_Rb, gwm 107 (by decide +kernel) rfl⟩
theorem f_Rb_18 {l : Launch} {D : va_G} : jF (G0 l D) R_Rb 18 6 2 := ⟨R_Rb, F_Rb, 6, rfl, by decide, ws_Rb, gwm 108 (by decide +kernel) rfl⟩
theorem p_Rb_27 {l : Launch} {D : va_G} : jPf (G0 l D) R_Rb 27 6 5 (.int) false := ⟨R_Rb, F_Rb, 6, t_Rb, rfl, by decide, ws_Rb, gwm 111 (by decide +kernel) rfl, ty_Rb, nm_Rb, rfl, ty_Rb 5 (by decide), rfl⟩
theorem c_Rb_31 {l : Launch} {D : va_G} : jCV (G0 l D) R_Rb 31 m_Rb_has 1 := ⟨⟨gwm 356 (by decide +kernel) rfl, gwm 59 (by decide +kernel) rfl, k_Rb_has, ⟨by decide, by decide, by decide +kernel⟩, by decide⟩, gwm 357 (by decide +kernel) rfl, gwm 358 (by decide +kernel) rfl⟩
theorem f_Rb_21 {l : Launch} {D : va_G} : jF (G0 l D) R_Rb 21 6 3 := ⟨R_Rb, F_Rb, 6, rfl, by decide, ws_Rb, gwm 109 (by decide +kernel) rfl⟩
theorem f_Rb_24 {l : Launch} {D : va_G} : jF (G0 l D) R_Rb 24 6 4 := ⟨R_Rb, F_Rb, 6, rfl, by decide, ws_Rb, gwm 110 (by decide +kernel) rfl⟩
theorem c_Rb_35 {l : Launch} {D : va_G} : jCV (G0 l D) R_Rb 35 m_Rb_answer 1 := ⟨⟨gwm 525 (by decide +kernel) rfl, gwm 59 (by decide +kernel) rfl, k_Rb_answer, ⟨by decide, by decide, by decide +kernel⟩, by decide⟩, gwm 527 (by decide +kernel) rfl, gwm 24 (by decide +kernel) rfl⟩
theorem x_Rb_39 : Cond.methodLink R_Rb 39 Lib.Math.max.name ∈ GW := gwm 529 (by decide +kernel) rfl
theorem o_Sh_3 : Cond.methodLink R_Sh 3 Lib.objectInit ∈ GW := gwm 131 (by decide +kernel) rfl
theorem n_Sh_9 {l : Launch} {D : va_G} : jNf (G0 l D) R_Sh 9 4 2 [.null, .int 0] := ⟨R_Lo, F_Lo, t_Lo, rfl, ws_Lo, gwm 132 (by decide +kernel) rfl, gwm 133 (by decide +kernel) rfl, gwm 61 (by decide +kernel) rfl, ty_Lo, by decide +kernel⟩
theorem c_Sh_11 {l : Launch} {D : va_G} : jCN (G0 l D) R_Sh 11 m_Lo_init "ShardLedger" 0 := ⟨fun s h => h.2.1, gwm 61 (by decide +kernel) rfl, k_Lo_init, ⟨by decide, by decide, by decide +kernel⟩, by decide, gwm 135 (by decide +kernel) rfl, rfl, rfl⟩
theorem a_Sh_12 : Cond.classLink R_Sh 12 "ShardLedger$Replica" ∈ GW := gwm 147 (by decide +kernel) rfl
theorem p_Sh_14 {l : Launch} {D : va_G} : jPf (G0 l D) R_Sh 14 7 1 (.array (.object "ShardLedger$Replica")) true := ⟨R_Sh, F_Sh, 2, t_Sh, rfl, by decide, ws_Sh, gwm 246 (by decide +kernel) rfl, ty_Sh, nm_Sh, rfl, ty_Sh 1 (by decide), rfl⟩
theorem n_Sh_20 {l : Launch} {D : va_G} : jNf (G0 l D) R_Sh 20 1 4 [.int 0, .null, .null, .null] := ⟨R_Ho, F_Ho, t_Ho, rfl, ws_Ho, gwm 149 (by decide +kernel) rfl, gwm 150 (by decide +kernel) rfl, gwm 62 (by decide +kernel) rfl, ty_Ho, by decide +kernel⟩
theorem c_Sh_22 {l : Launch} {D : va_G} : jCI (G0 l D) R_Sh 22 m_Ho_init 2 := ⟨⟨gwm 151 (by decide +kernel) rfl, gwm 62 (by decide +kernel) rfl, k_Ho_init, ⟨by decide, by decide, by decide +kernel⟩, by decide⟩, gwm 152 (by decide +kernel) rfl, rfl, rfl⟩
theorem f_Sh_14 {l : Launch} {D : va_G} : jF (G0 l D) R_Sh 14 7 1 := ⟨R_Sh, F_Sh, 2, rfl, by decide, ws_Sh, gwm 246 (by decide +kernel) rfl⟩
theorem n_Sh_12 {l : Launch} {D : va_G} : jNf (G0 l D) R_Sh 12 5 14 [.int 0, .int 0, .int 0, .null, .null, .null, .null, .null, .null, .null, .int 0, .int 0, .int 0, .int 0] := ⟨R_Re, F_Re, t_Re, rfl, ws_Re, gwm 147 (by decide +kernel) rfl, gwm 168 (by decide +kernel) rfl, gwm 63 (by decide +kernel) rfl, ty_Re, by decide +kernel⟩
theorem c_Sh_25 {l : Launch} {D : va_G} : jCI (G0 l D) R_Sh 25 m_Re_init 6 := ⟨⟨gwm 169 (by decide +kernel) rfl, gwm 63 (by decide +kernel) rfl, k_Re_init, ⟨by decide, by decide, by decide +kernel⟩, by decide⟩, gwm 170 (by decide +kernel) rfl, rfl, rfl⟩
theorem p_Sh_28 {l : Launch} {D : va_G} : jPf (G0 l D) R_Sh 28 7 0 (.object "ShardLedger$MessageLog") true := ⟨R_Sh, F_Sh, 2, t_Sh, rfl, by decide, ws_Sh, gwm 244 (by decide +kernel) rfl, ty_Sh, nm_Sh, rfl, ty_Sh 0 (by decide), rfl⟩
theorem o_Tb_3 : Cond.methodLink R_Tb 3 Lib.objectInit ∈ GW := gwm 82 (by decide +kernel) rfl
theorem p_Tb_9 {l : Launch} {D : va_G} : jPf (G0 l D) R_Tb 9 8 0 (.array .int) true := ⟨R_Tb, F_Tb, 5, t_Tb, rfl, by decide, ws_Tb, gwm 83 (by decide +kernel) rfl, ty_Tb, nm_Tb, rfl, ty_Tb 0 (by decide), rfl⟩
theorem p_Tb_15 {l : Launch} {D : va_G} : jPf (G0 l D) R_Tb 15 8 1 (.array .int) true := ⟨R_Tb, F_Tb, 5, t_Tb, rfl, by decide, ws_Tb, gwm 84 (by decide +kernel) rfl, ty_Tb, nm_Tb, rfl, ty_Tb 1 (by decide), rfl⟩
theorem p_Tb_18 {l : Launch} {D : va_G} : jPf (G0 l D) R_Tb 18 8 2 (.array .int) true := ⟨R_Tb, F_Tb, 5, t_Tb, rfl, by decide, ws_Tb, gwm 85 (by decide +kernel) rfl, ty_Tb, nm_Tb, rfl, ty_Tb 2 (by decide), rfl⟩
theorem p_Tb_21 {l : Launch} {D : va_G} : jPf (G0 l D) R_Tb 21 8 3 (.array .int) true := ⟨R_Tb, F_Tb, 5, t_Tb, rfl, by decide, ws_Tb, gwm 86 (by decide +kernel) rfl, ty_Tb, nm_Tb, rfl, ty_Tb 3 (by decide), rfl⟩
theorem f_Tb_21 {l : Launch} {D : va_G} : jF (G0 l D) R_Tb 21 8 3 := ⟨R_Tb, F_Tb, 5, rfl, by decide, ws_Tb, gwm 86 (by decide +kernel) rfl⟩
theorem f_Tb_24 {l : Launch} {D : va_G} : jF (G0 l D) R_Tb 24 8 4 := ⟨R_Tb, F_Tb, 5, rfl, by decide, ws_Tb, gwm 87 (by decide +kernel) rfl⟩
theorem c_Tb_28 {l : Launch} {D : va_G} : jCV (G0 l D) R_Tb 28 m_Tb_isOutput 1 := ⟨⟨gwm 271 (by decide +kernel) rfl, gwm 58 (by decide +kernel) rfl, k_Tb_isOutput, ⟨by decide, by decide, by decide +kernel⟩, by decide⟩, gwm 273 (by decide +kernel) rfl, gwm 0 (by decide +kernel) rfl⟩
theorem c_Tb_32 {l : Launch} {D : va_G} : jCV (G0 l D) R_Tb 32 m_Tb_sum 2 := ⟨⟨gwm 278 (by decide +kernel) rfl, gwm 58 (by decide +kernel) rfl, k_Tb_sum, ⟨by decide, by decide, by decide +kernel⟩, by decide⟩, gwm 280 (by decide +kernel) rfl, gwm 1 (by decide +kernel) rfl⟩
theorem c_Tb_36 {l : Launch} {D : va_G} : jCV (G0 l D) R_Tb 36 m_Tb_isFull 0 := ⟨⟨gwm 294 (by decide +kernel) rfl, gwm 58 (by decide +kernel) rfl, k_Tb_isFull, ⟨by decide, by decide, by decide +kernel⟩, by decide⟩, gwm 287 (by decide +kernel) rfl, gwm 288 (by decide +kernel) rfl⟩
theorem f_Tb_9 {l : Launch} {D : va_G} : jF (G0 l D) R_Tb 9 8 0 := ⟨R_Tb, F_Tb, 5, rfl, by decide, ws_Tb, gwm 83 (by decide +kernel) rfl⟩
theorem f_Tb_15 {l : Launch} {D : va_G} : jF (G0 l D) R_Tb 15 8 1 := ⟨R_Tb, F_Tb, 5, rfl, by decide, ws_Tb, gwm 84 (by decide +kernel) rfl⟩
theorem f_Tb_18 {l : Launch} {D : va_G} : jF (G0 l D) R_Tb 18 8 2 := ⟨R_Tb, F_Tb, 5, rfl, by decide, ws_Tb, gwm 85 (by decide +kernel) rfl⟩
theorem c_Tb_40 {l : Launch} {D : va_G} : jCS (G0 l D) R_Tb 40 m_Tb_evenOutput 1 := ⟨⟨gwm 275 (by decide +kernel) rfl, gwm 58 (by decide +kernel) rfl, k_Tb_evenOutput, ⟨by decide, by decide, by decide +kernel⟩, by decide⟩, gwm 276 (by decide +kernel) rfl⟩
theorem p_Tb_24 {l : Launch} {D : va_G} : jPf (G0 l D) R_Tb 24 8 4 (.int) false := ⟨R_Tb, F_Tb, 5, t_Tb, rfl, by decide, ws_Tb, gwm 87 (by decide +kernel) rfl, ty_Tb, nm_Tb, rfl, ty_Tb 4 (by decide), rfl⟩
theorem c_Tb_44 {l : Launch} {D : va_G} : jCV (G0 l D) R_Tb 44 m_Tb_has 1 := ⟨⟨gwm 299 (by decide +kernel) rfl, gwm 58 (by decide +kernel) rfl, k_Tb_has, ⟨by decide, by decide, by decide +kernel⟩, by decide⟩, gwm 300 (by decide +kernel) rfl, gwm 301 (by decide +kernel) rfl⟩
theorem c_Tb_47 {l : Launch} {D : va_G} : jCV (G0 l D) R_Tb 47 m_Tb_amountOf 1 := ⟨⟨gwm 282 (by decide +kernel) rfl, gwm 58 (by decide +kernel) rfl, k_Tb_amountOf, ⟨by decide, by decide, by decide +kernel⟩, by decide⟩, gwm 283 (by decide +kernel) rfl, gwm 284 (by decide +kernel) rfl⟩
theorem n_La_7 {l : Launch} {D : va_G} : jNf (G0 l D) R_La 7 9 3 [.null, .null, .null] := ⟨R_Sl, F_Sl, t_Sl, rfl, ws_Sl, gwm 69 (by decide +kernel) rfl, gwm 70 (by decide +kernel) rfl, gwm 57 (by decide +kernel) rfl, ty_Sl, by decide +kernel⟩
theorem c_La_9 {l : Launch} {D : va_G} : jCS (G0 l D) R_La 9 m_La_cell 2 := ⟨⟨gwm 677 (by decide +kernel) rfl, gwm 56 (by decide +kernel) rfl, k_La_cell, ⟨by decide, by decide, by decide +kernel⟩, by decide⟩, gwm 678 (by decide +kernel) rfl⟩
theorem c_La_15 {l : Launch} {D : va_G} : jCI (G0 l D) R_La 15 m_Sl_init 1 := ⟨⟨gwm 71 (by decide +kernel) rfl, gwm 57 (by decide +kernel) rfl, k_Sl_init, ⟨by decide, by decide, by decide +kernel⟩, by decide⟩, gwm 72 (by decide +kernel) rfl, rfl, rfl⟩
theorem n_La_18 {l : Launch} {D : va_G} : jNf (G0 l D) R_La 18 10 30 [.int 0, .int 0, .null, .null, .null, .null, .int 0, .null, .null, .null, .null, .null, .null, .null, .null, .null, .null, .null, .null, .null, .null, .null, .null, .null, .null, .null, .null, .null, .null, .null] := ⟨R_Mo, F_Mo, t_Mo, rfl, ws_Mo, gwm 680 (by decide +kernel) rfl, gwm 681 (by decide +kernel) rfl, gwm 66 (by decide +kernel) rfl, ty_Mo, by decide +kernel⟩
theorem c_La_20 {l : Launch} {D : va_G} : jCI (G0 l D) R_La 20 m_Mo_init 1 := ⟨⟨gwm 682 (by decide +kernel) rfl, gwm 66 (by decide +kernel) rfl, k_Mo_init, ⟨by decide, by decide, by decide +kernel⟩, by decide⟩, gwm 683 (by decide +kernel) rfl, rfl, rfl⟩
theorem c_La_21 {l : Launch} {D : va_G} : jCV (G0 l D) R_La 21 m_Sl_submit 3 := ⟨⟨gwm 263 (by decide +kernel) rfl, gwm 57 (by decide +kernel) rfl, k_Sl_submit, ⟨by decide, by decide, by decide +kernel⟩, by decide⟩, gwm 264 (by decide +kernel) rfl, gwm 265 (by decide +kernel) rfl⟩
theorem c_La_25 {l : Launch} {D : va_G} : jCV (G0 l D) R_La 25 m_Mo_submit 3 := ⟨⟨gwm 779 (by decide +kernel) rfl, gwm 66 (by decide +kernel) rfl, k_Mo_submit, ⟨by decide, by decide, by decide +kernel⟩, by decide⟩, gwm 780 (by decide +kernel) rfl, gwm 781 (by decide +kernel) rfl⟩
theorem c_La_26 {l : Launch} {D : va_G} : jCV (G0 l D) R_La 26 m_Sl_client 0 := ⟨⟨gwm 504 (by decide +kernel) rfl, gwm 57 (by decide +kernel) rfl, k_Sl_client, ⟨by decide, by decide, by decide +kernel⟩, by decide⟩, gwm 505 (by decide +kernel) rfl, gwm 506 (by decide +kernel) rfl⟩
theorem c_La_30 {l : Launch} {D : va_G} : jCV (G0 l D) R_La 30 m_Mo_client 0 := ⟨⟨gwm 877 (by decide +kernel) rfl, gwm 66 (by decide +kernel) rfl, k_Mo_client, ⟨by decide, by decide, by decide +kernel⟩, by decide⟩, gwm 878 (by decide +kernel) rfl, gwm 879 (by decide +kernel) rfl⟩
theorem c_La_31 {l : Launch} {D : va_G} : jCV (G0 l D) R_La 31 m_Sl_deliver 3 := ⟨⟨gwm 544 (by decide +kernel) rfl, gwm 57 (by decide +kernel) rfl, k_Sl_deliver, ⟨by decide, by decide, by decide +kernel⟩, by decide⟩, gwm 545 (by decide +kernel) rfl, gwm 546 (by decide +kernel) rfl⟩
theorem c_La_35 {l : Launch} {D : va_G} : jCV (G0 l D) R_La 35 m_Mo_deliver 3 := ⟨⟨gwm 897 (by decide +kernel) rfl, gwm 66 (by decide +kernel) rfl, k_Mo_deliver, ⟨by decide, by decide, by decide +kernel⟩, by decide⟩, gwm 898 (by decide +kernel) rfl, gwm 899 (by decide +kernel) rfl⟩
theorem c_La_36 {l : Launch} {D : va_G} : jCV (G0 l D) R_La 36 m_Sl_flood 1 := ⟨⟨gwm 573 (by decide +kernel) rfl, gwm 57 (by decide +kernel) rfl, k_Sl_flood, ⟨by decide, by decide, by decide +kernel⟩, by decide⟩, gwm 574 (by decide +kernel) rfl, gwm 575 (by decide +kernel) rfl⟩
theorem c_La_40 {l : Launch} {D : va_G} : jCV (G0 l D) R_La 40 m_Mo_flood 1 := ⟨⟨gwm 909 (by decide +kernel) rfl, gwm 66 (by decide +kernel) rfl, k_Mo_flood, ⟨by decide, by decide, by decide +kernel⟩, by decide⟩, gwm 910 (by decide +kernel) rfl, gwm 911 (by decide +kernel) rfl⟩
theorem c_La_41 {l : Launch} {D : va_G} : jCV (G0 l D) R_La 41 m_Sl_tick 2 := ⟨⟨gwm 578 (by decide +kernel) rfl, gwm 57 (by decide +kernel) rfl, k_Sl_tick, ⟨by decide, by decide, by decide +kernel⟩, by decide⟩, gwm 579 (by decide +kernel) rfl, gwm 580 (by decide +kernel) rfl⟩
theorem c_La_45 {l : Launch} {D : va_G} : jCV (G0 l D) R_La 45 m_Mo_tick 2 := ⟨⟨gwm 913 (by decide +kernel) rfl, gwm 66 (by decide +kernel) rfl, k_Mo_tick, ⟨by decide, by decide, by decide +kernel⟩, by decide⟩, gwm 914 (by decide +kernel) rfl, gwm 915 (by decide +kernel) rfl⟩
theorem c_La_46 {l : Launch} {D : va_G} : jCV (G0 l D) R_La 46 m_Sl_sleep 3 := ⟨⟨gwm 594 (by decide +kernel) rfl, gwm 57 (by decide +kernel) rfl, k_Sl_sleep, ⟨by decide, by decide, by decide +kernel⟩, by decide⟩, gwm 595 (by decide +kernel) rfl, gwm 596 (by decide +kernel) rfl⟩
theorem c_La_50 {l : Launch} {D : va_G} : jCV (G0 l D) R_La 50 m_Mo_sleep 3 := ⟨⟨gwm 921 (by decide +kernel) rfl, gwm 66 (by decide +kernel) rfl, k_Mo_sleep, ⟨by decide, by decide, by decide +kernel⟩, by decide⟩, gwm 922 (by decide +kernel) rfl, gwm 923 (by decide +kernel) rfl⟩
theorem c_La_51 {l : Launch} {D : va_G} : jCV (G0 l D) R_La 51 m_Sl_lie 5 := ⟨⟨gwm 602 (by decide +kernel) rfl, gwm 57 (by decide +kernel) rfl, k_Sl_lie, ⟨by decide, by decide, by decide +kernel⟩, by decide⟩, gwm 603 (by decide +kernel) rfl, gwm 604 (by decide +kernel) rfl⟩
theorem c_La_55 {l : Launch} {D : va_G} : jCV (G0 l D) R_La 55 m_Mo_lie 5 := ⟨⟨gwm 925 (by decide +kernel) rfl, gwm 66 (by decide +kernel) rfl, k_Mo_lie, ⟨by decide, by decide, by decide +kernel⟩, by decide⟩, gwm 926 (by decide +kernel) rfl, gwm 927 (by decide +kernel) rfl⟩
theorem c_La_56 {l : Launch} {D : va_G} : jCV (G0 l D) R_La 56 m_Sl_messages 1 := ⟨⟨gwm 611 (by decide +kernel) rfl, gwm 57 (by decide +kernel) rfl, k_Sl_messages, ⟨by decide, by decide, by decide +kernel⟩, by decide⟩, gwm 612 (by decide +kernel) rfl, gwm 613 (by decide +kernel) rfl⟩
theorem c_La_59 {l : Launch} {D : va_G} : jCV (G0 l D) R_La 59 m_Mo_messages 1 := ⟨⟨gwm 929 (by decide +kernel) rfl, gwm 66 (by decide +kernel) rfl, k_Mo_messages, ⟨by decide, by decide, by decide +kernel⟩, by decide⟩, gwm 930 (by decide +kernel) rfl, gwm 931 (by decide +kernel) rfl⟩
theorem c_La_60 {l : Launch} {D : va_G} : jCV (G0 l D) R_La 60 m_Sl_message 3 := ⟨⟨gwm 619 (by decide +kernel) rfl, gwm 57 (by decide +kernel) rfl, k_Sl_message, ⟨by decide, by decide, by decide +kernel⟩, by decide⟩, gwm 620 (by decide +kernel) rfl, gwm 621 (by decide +kernel) rfl⟩
theorem c_La_63 {l : Launch} {D : va_G} : jCV (G0 l D) R_La 63 m_Mo_message 3 := ⟨⟨gwm 933 (by decide +kernel) rfl, gwm 66 (by decide +kernel) rfl, k_Mo_message, ⟨by decide, by decide, by decide +kernel⟩, by decide⟩, gwm 934 (by decide +kernel) rfl, gwm 935 (by decide +kernel) rfl⟩
theorem c_La_64 {l : Launch} {D : va_G} : jCV (G0 l D) R_La 64 m_Sl_replica 3 := ⟨⟨gwm 627 (by decide +kernel) rfl, gwm 57 (by decide +kernel) rfl, k_Sl_replica, ⟨by decide, by decide, by decide +kernel⟩, by decide⟩, gwm 628 (by decide +kernel) rfl, gwm 629 (by decide +kernel) rfl⟩
theorem c_La_67 {l : Launch} {D : va_G} : jCV (G0 l D) R_La 67 m_Mo_replica 3 := ⟨⟨gwm 937 (by decide +kernel) rfl, gwm 66 (by decide +kernel) rfl, k_Mo_replica, ⟨by decide, by decide, by decide +kernel⟩, by decide⟩, gwm 938 (by decide +kernel) rfl, gwm 939 (by decide +kernel) rfl⟩
theorem c_La_68 {l : Launch} {D : va_G} : jCV (G0 l D) R_La 68 m_Sl_executed 3 := ⟨⟨gwm 635 (by decide +kernel) rfl, gwm 57 (by decide +kernel) rfl, k_Sl_executed, ⟨by decide, by decide, by decide +kernel⟩, by decide⟩, gwm 636 (by decide +kernel) rfl, gwm 637 (by decide +kernel) rfl⟩
theorem c_La_71 {l : Launch} {D : va_G} : jCV (G0 l D) R_La 71 m_Mo_executed 3 := ⟨⟨gwm 941 (by decide +kernel) rfl, gwm 66 (by decide +kernel) rfl, k_Mo_executed, ⟨by decide, by decide, by decide +kernel⟩, by decide⟩, gwm 942 (by decide +kernel) rfl, gwm 943 (by decide +kernel) rfl⟩
theorem c_La_72 {l : Launch} {D : va_G} : jCV (G0 l D) R_La 72 m_Sl_output 3 := ⟨⟨gwm 643 (by decide +kernel) rfl, gwm 57 (by decide +kernel) rfl, k_Sl_output, ⟨by decide, by decide, by decide +kernel⟩, by decide⟩, gwm 644 (by decide +kernel) rfl, gwm 645 (by decide +kernel) rfl⟩
theorem c_La_75 {l : Launch} {D : va_G} : jCV (G0 l D) R_La 75 m_Mo_output 3 := ⟨⟨gwm 945 (by decide +kernel) rfl, gwm 66 (by decide +kernel) rfl, k_Mo_output, ⟨by decide, by decide, by decide +kernel⟩, by decide⟩, gwm 946 (by decide +kernel) rfl, gwm 947 (by decide +kernel) rfl⟩
theorem c_La_76 {l : Launch} {D : va_G} : jCV (G0 l D) R_La 76 m_Sl_value 2 := ⟨⟨gwm 651 (by decide +kernel) rfl, gwm 57 (by decide +kernel) rfl, k_Sl_value, ⟨by decide, by decide, by decide +kernel⟩, by decide⟩, gwm 652 (by decide +kernel) rfl, gwm 653 (by decide +kernel) rfl⟩
theorem c_La_80 {l : Launch} {D : va_G} : jCV (G0 l D) R_La 80 m_Mo_value 2 := ⟨⟨gwm 949 (by decide +kernel) rfl, gwm 66 (by decide +kernel) rfl, k_Mo_value, ⟨by decide, by decide, by decide +kernel⟩, by decide⟩, gwm 950 (by decide +kernel) rfl, gwm 951 (by decide +kernel) rfl⟩
theorem c_La_81 {l : Launch} {D : va_G} : jCV (G0 l D) R_La 81 m_Sl_requests 0 := ⟨⟨gwm 660 (by decide +kernel) rfl, gwm 57 (by decide +kernel) rfl, k_Sl_requests, ⟨by decide, by decide, by decide +kernel⟩, by decide⟩, gwm 661 (by decide +kernel) rfl, gwm 662 (by decide +kernel) rfl⟩
theorem c_La_84 {l : Launch} {D : va_G} : jCV (G0 l D) R_La 84 m_Mo_requests 0 := ⟨⟨gwm 953 (by decide +kernel) rfl, gwm 66 (by decide +kernel) rfl, k_Mo_requests, ⟨by decide, by decide, by decide +kernel⟩, by decide⟩, gwm 954 (by decide +kernel) rfl, gwm 955 (by decide +kernel) rfl⟩
theorem c_La_85 {l : Launch} {D : va_G} : jCV (G0 l D) R_La 85 m_Sl_request 2 := ⟨⟨gwm 664 (by decide +kernel) rfl, gwm 57 (by decide +kernel) rfl, k_Sl_request, ⟨by decide, by decide, by decide +kernel⟩, by decide⟩, gwm 665 (by decide +kernel) rfl, gwm 666 (by decide +kernel) rfl⟩
theorem c_La_88 {l : Launch} {D : va_G} : jCV (G0 l D) R_La 88 m_Mo_request 2 := ⟨⟨gwm 957 (by decide +kernel) rfl, gwm 66 (by decide +kernel) rfl, k_Mo_request, ⟨by decide, by decide, by decide +kernel⟩, by decide⟩, gwm 958 (by decide +kernel) rfl, gwm 959 (by decide +kernel) rfl⟩
theorem c_La_89 {l : Launch} {D : va_G} : jCV (G0 l D) R_La 89 m_Sl_transaction 1 := ⟨⟨gwm 672 (by decide +kernel) rfl, gwm 57 (by decide +kernel) rfl, k_Sl_transaction, ⟨by decide, by decide, by decide +kernel⟩, by decide⟩, gwm 673 (by decide +kernel) rfl, gwm 674 (by decide +kernel) rfl⟩
theorem c_La_92 {l : Launch} {D : va_G} : jCV (G0 l D) R_La 92 m_Mo_transaction 1 := ⟨⟨gwm 961 (by decide +kernel) rfl, gwm 66 (by decide +kernel) rfl, k_Mo_transaction, ⟨by decide, by decide, by decide +kernel⟩, by decide⟩, gwm 962 (by decide +kernel) rfl, gwm 963 (by decide +kernel) rfl⟩
theorem o_i : Cond.instanceMethod Lib.objectInit ∈ GW := gwm 75 (by decide +kernel) rfl
set_option maxRecDepth 100000 in
theorem o_c : Cond.code Lib.objectInit ⟨#[0xb1]⟩ 1 none ∈ GW := gwm 76 rfl rfl
theorem x_s : Cond.static Lib.Math.max.name ∈ GW := gwm 530 (by decide +kernel) rfl
theorem x_i : Cond.initialized "java/lang/Math" ∈ GW := gwm 68 (by decide +kernel) rfl
set_option maxRecDepth 100000 in
theorem x_c : Cond.code Lib.Math.max.name Lib.Math.max.code 2 (some .int) ∈ GW := gwm 531 rfl rfl
theorem r_int : Cond.arrayClass .int ∈ GW := gwm 99 (by decide +kernel) rfl
theorem r_boolean : Cond.arrayClass .boolean ∈ GW := gwm 777 (by decide +kernel) rfl
theorem r_long : Cond.arrayClass .long ∈ GW := gwm 778 (by decide +kernel) rfl
