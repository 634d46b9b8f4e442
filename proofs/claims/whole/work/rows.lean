section
-- ===== PART A: goes FIRST, ahead of the names: the tables' words, and 'selects' of the private methods out of them =====
/-- a private method of a class that the tables say can be made, by its rows of tables_1 -/
def lw_okq (q : MethodName × Nat) : Prop := (q.1.cls ≠ "java/lang/invoke/MethodHandle" ∧ q.1.cls ≠ "java/lang/invoke/VarHandle") ∧ Cond.instantiable q.1.cls q.2 ∈ tables_1 ∧ Cond.privateMethod q.1 ∈ tables_1 ∧ Cond.instanceMethod q.1 ∈ tables_1
theorem lw_p0 : lw_okq (⟨"TombstoneText$Log", "putInOrder", "(I)V"⟩, 8) := ⟨⟨by decide +kernel, by decide +kernel⟩, List.mem_of_getElem? (i := 15) (by decide +kernel), List.mem_of_getElem? (i := 140) (by decide +kernel), List.mem_of_getElem? (i := 141) (by decide +kernel)⟩
theorem lw_p1 : lw_okq (⟨"TombstoneText$Log", "indexBehind", "(I)I"⟩, 8) := ⟨⟨by decide +kernel, by decide +kernel⟩, List.mem_of_getElem? (i := 15) (by decide +kernel), List.mem_of_getElem? (i := 144) (by decide +kernel), List.mem_of_getElem? (i := 145) (by decide +kernel)⟩
theorem lw_p2 : lw_okq (⟨"TombstoneText$Log", "goesFirst", "(II)Z"⟩, 8) := ⟨⟨by decide +kernel, by decide +kernel⟩, List.mem_of_getElem? (i := 15) (by decide +kernel), List.mem_of_getElem? (i := 151) (by decide +kernel), List.mem_of_getElem? (i := 152) (by decide +kernel)⟩
theorem lw_p3 : lw_okq (⟨"TombstoneText$Replica", "apply", "(I)V"⟩, 12) := ⟨⟨by decide +kernel, by decide +kernel⟩, List.mem_of_getElem? (i := 60) (by decide +kernel), List.mem_of_getElem? (i := 155) (by decide +kernel), List.mem_of_getElem? (i := 156) (by decide +kernel)⟩
theorem lw_p4 : lw_okq (⟨"TombstoneText$Replica", "rewriteText", "()V"⟩, 12) := ⟨⟨by decide +kernel, by decide +kernel⟩, List.mem_of_getElem? (i := 60) (by decide +kernel), List.mem_of_getElem? (i := 175) (by decide +kernel), List.mem_of_getElem? (i := 176) (by decide +kernel)⟩
theorem lw_p5 : lw_okq (⟨"TombstoneText$Replica", "isReady", "(I)Z"⟩, 12) := ⟨⟨by decide +kernel, by decide +kernel⟩, List.mem_of_getElem? (i := 60) (by decide +kernel), List.mem_of_getElem? (i := 207) (by decide +kernel), List.mem_of_getElem? (i := 208) (by decide +kernel)⟩
theorem lw_p6 : lw_okq (⟨"TombstoneText$Replica", "markWhatMayGo", "()V"⟩, 12) := ⟨⟨by decide +kernel, by decide +kernel⟩, List.mem_of_getElem? (i := 60) (by decide +kernel), List.mem_of_getElem? (i := 228) (by decide +kernel), List.mem_of_getElem? (i := 229) (by decide +kernel)⟩
theorem lw_p7 : lw_okq (⟨"TombstoneText$Replica", "holdsItsTarget", "(I)Z"⟩, 12) := ⟨⟨by decide +kernel, by decide +kernel⟩, List.mem_of_getElem? (i := 60) (by decide +kernel), List.mem_of_getElem? (i := 236) (by decide +kernel), List.mem_of_getElem? (i := 237) (by decide +kernel)⟩
theorem lw_p8 : lw_okq (⟨"TombstoneTextModel", "walk", "(I)V"⟩, 13) := ⟨⟨by decide +kernel, by decide +kernel⟩, List.mem_of_getElem? (i := 289) (by decide +kernel), List.mem_of_getElem? (i := 342) (by decide +kernel), List.mem_of_getElem? (i := 343) (by decide +kernel)⟩
theorem lw_p9 : lw_okq (⟨"TombstoneTextModel", "next", "(II)I"⟩, 13) := ⟨⟨by decide +kernel, by decide +kernel⟩, List.mem_of_getElem? (i := 289) (by decide +kernel), List.mem_of_getElem? (i := 346) (by decide +kernel), List.mem_of_getElem? (i := 347) (by decide +kernel)⟩
theorem lw_p10 : lw_okq (⟨"TombstoneTextModel", "first", "(III)I"⟩, 13) := ⟨⟨by decide +kernel, by decide +kernel⟩, List.mem_of_getElem? (i := 289) (by decide +kernel), List.mem_of_getElem? (i := 350) (by decide +kernel), List.mem_of_getElem? (i := 351) (by decide +kernel)⟩
theorem lw_p11 : lw_okq (⟨"TombstoneTextModel", "has", "(II)Z"⟩, 13) := ⟨⟨by decide +kernel, by decide +kernel⟩, List.mem_of_getElem? (i := 289) (by decide +kernel), List.mem_of_getElem? (i := 354) (by decide +kernel), List.mem_of_getElem? (i := 355) (by decide +kernel)⟩
theorem lw_p12 : lw_okq (⟨"TombstoneTextModel", "sooner", "(II)Z"⟩, 13) := ⟨⟨by decide +kernel, by decide +kernel⟩, List.mem_of_getElem? (i := 289) (by decide +kernel), List.mem_of_getElem? (i := 358) (by decide +kernel), List.mem_of_getElem? (i := 359) (by decide +kernel)⟩
theorem lw_p13 : lw_okq (⟨"TombstoneTextModel", "erased", "(II)Z"⟩, 13) := ⟨⟨by decide +kernel, by decide +kernel⟩, List.mem_of_getElem? (i := 289) (by decide +kernel), List.mem_of_getElem? (i := 362) (by decide +kernel), List.mem_of_getElem? (i := 363) (by decide +kernel)⟩
theorem lw_p14 : lw_okq (⟨"TombstoneTextModel", "issue", "(III)I"⟩, 13) := ⟨⟨by decide +kernel, by decide +kernel⟩, List.mem_of_getElem? (i := 289) (by decide +kernel), List.mem_of_getElem? (i := 366) (by decide +kernel), List.mem_of_getElem? (i := 367) (by decide +kernel)⟩
theorem lw_p15 : lw_okq (⟨"TombstoneTextModel", "count", "(II)I"⟩, 13) := ⟨⟨by decide +kernel, by decide +kernel⟩, List.mem_of_getElem? (i := 289) (by decide +kernel), List.mem_of_getElem? (i := 370) (by decide +kernel), List.mem_of_getElem? (i := 371) (by decide +kernel)⟩
def lw_privs_1 : List (MethodName × Nat) := [(⟨"TombstoneText$Log", "putInOrder", "(I)V"⟩, 8), (⟨"TombstoneText$Log", "indexBehind", "(I)I"⟩, 8), (⟨"TombstoneText$Log", "goesFirst", "(II)Z"⟩, 8), (⟨"TombstoneText$Replica", "apply", "(I)V"⟩, 12), (⟨"TombstoneText$Replica", "rewriteText", "()V"⟩, 12), (⟨"TombstoneText$Replica", "isReady", "(I)Z"⟩, 12), (⟨"TombstoneText$Replica", "markWhatMayGo", "()V"⟩, 12), (⟨"TombstoneText$Replica", "holdsItsTarget", "(I)Z"⟩, 12), (⟨"TombstoneTextModel", "walk", "(I)V"⟩, 13), (⟨"TombstoneTextModel", "next", "(II)I"⟩, 13), (⟨"TombstoneTextModel", "first", "(III)I"⟩, 13), (⟨"TombstoneTextModel", "has", "(II)Z"⟩, 13), (⟨"TombstoneTextModel", "sooner", "(II)Z"⟩, 13), (⟨"TombstoneTextModel", "erased", "(II)Z"⟩, 13), (⟨"TombstoneTextModel", "issue", "(III)I"⟩, 13), (⟨"TombstoneTextModel", "count", "(II)I"⟩, 13)]
theorem lw_r1 : ∀ q ∈ lw_privs_1, lw_okq q := List.forall_mem_cons.mpr ⟨lw_p0, List.forall_mem_cons.mpr ⟨lw_p1, List.forall_mem_cons.mpr ⟨lw_p2, List.forall_mem_cons.mpr ⟨lw_p3, List.forall_mem_cons.mpr ⟨lw_p4, List.forall_mem_cons.mpr ⟨lw_p5, List.forall_mem_cons.mpr ⟨lw_p6, List.forall_mem_cons.mpr ⟨lw_p7, List.forall_mem_cons.mpr ⟨lw_p8, List.forall_mem_cons.mpr ⟨lw_p9, List.forall_mem_cons.mpr ⟨lw_p10, List.forall_mem_cons.mpr ⟨lw_p11, List.forall_mem_cons.mpr ⟨lw_p12, List.forall_mem_cons.mpr ⟨lw_p13, List.forall_mem_cons.mpr ⟨lw_p14, List.forall_mem_cons.mpr ⟨lw_p15, fun _ h => absurd h List.not_mem_nil⟩⟩⟩⟩⟩⟩⟩⟩⟩⟩⟩⟩⟩⟩⟩⟩
theorem lw_p16 : lw_okq (⟨"TombstoneTextModel", "isOperation", "(I)Z"⟩, 13) := ⟨⟨by decide +kernel, by decide +kernel⟩, List.mem_of_getElem? (i := 289) (by decide +kernel), List.mem_of_getElem? (i := 382) (by decide +kernel), List.mem_of_getElem? (i := 383) (by decide +kernel)⟩
theorem lw_p17 : lw_okq (⟨"TombstoneTextModel", "ready", "(II)Z"⟩, 13) := ⟨⟨by decide +kernel, by decide +kernel⟩, List.mem_of_getElem? (i := 289) (by decide +kernel), List.mem_of_getElem? (i := 386) (by decide +kernel), List.mem_of_getElem? (i := 387) (by decide +kernel)⟩
theorem lw_p18 : lw_okq (⟨"TombstoneTextModel", "keeps", "(II)Z"⟩, 13) := ⟨⟨by decide +kernel, by decide +kernel⟩, List.mem_of_getElem? (i := 289) (by decide +kernel), List.mem_of_getElem? (i := 408) (by decide +kernel), List.mem_of_getElem? (i := 409) (by decide +kernel)⟩
theorem lw_p19 : lw_okq (⟨"TombstoneTextModel", "idle", "(II)Z"⟩, 13) := ⟨⟨by decide +kernel, by decide +kernel⟩, List.mem_of_getElem? (i := 289) (by decide +kernel), List.mem_of_getElem? (i := 412) (by decide +kernel), List.mem_of_getElem? (i := 413) (by decide +kernel)⟩
def lw_privs_2 : List (MethodName × Nat) := [(⟨"TombstoneTextModel", "isOperation", "(I)Z"⟩, 13), (⟨"TombstoneTextModel", "ready", "(II)Z"⟩, 13), (⟨"TombstoneTextModel", "keeps", "(II)Z"⟩, 13), (⟨"TombstoneTextModel", "idle", "(II)Z"⟩, 13)]
theorem lw_r2 : ∀ q ∈ lw_privs_2, lw_okq q := List.forall_mem_cons.mpr ⟨lw_p16, List.forall_mem_cons.mpr ⟨lw_p17, List.forall_mem_cons.mpr ⟨lw_p18, List.forall_mem_cons.mpr ⟨lw_p19, fun _ h => absurd h List.not_mem_nil⟩⟩⟩⟩
def lw_privs : List (MethodName × Nat) := lw_privs_1 ++ (lw_privs_2)
def lw_tbl : List Cond := k2_sels lw_privs ++ tables_1
theorem lw_privs_ok : ∀ q ∈ lw_privs, lw_okq q := by
  show ∀ q ∈ lw_privs_1 ++ (lw_privs_2), lw_okq q
  exact List.forall_mem_append.mpr ⟨lw_r1, lw_r2⟩
end
section
/-! Names, fields, words: by program out of the tables and the listing -/
def RL : String := "TombstoneText$Log"
def TL : u_T := fun k => match k with
  | 0 => ("TombstoneText$Log", "issuers", "[I", true)
  | 1 => ("TombstoneText$Log", "stamps", "[I", true)
  | 2 => ("TombstoneText$Log", "targets", "[I", true)
  | 3 => ("TombstoneText$Log", "characters", "[C", true)
  | 4 => ("TombstoneText$Log", "clocks", "[I", true)
  | 5 => ("TombstoneText$Log", "order", "[I", true)
  | 6 => ("TombstoneText$Log", "count", "I", false)
  | _ => ("TombstoneText$Log", "elements", "I", false)
def tyL : Nat → FieldType := fun k => match k with
  | 0 => .array .int
  | 1 => .array .int
  | 2 => .array .int
  | 3 => .array .char
  | 4 => .array .int
  | 5 => .array .int
  | 6 => .int
  | _ => .int
theorem nmL : ∀ a, a < 8 → ∀ b, b < 8 → a ≠ b → (TL a).2.1 ≠ (TL b).2.1 := by decide +kernel
theorem tyL_ok : ∀ k, k < 8 → parseFieldDescriptor (TL k).2.2.1 = some (tyL k) := by decide +kernel
def RP : String := "TombstoneText$Replica"
def TP : u_T := fun k => match k with
  | 0 => ("TombstoneText$Replica", "self", "I", true)
  | 1 => ("TombstoneText$Replica", "log", "LTombstoneText$Log;", true)
  | 2 => ("TombstoneText$Replica", "seen", "[[I", true)
  | 3 => ("TombstoneText$Replica", "waits", "[Z", true)
  | 4 => ("TombstoneText$Replica", "erased", "[Z", true)
  | 5 => ("TombstoneText$Replica", "isKept", "[Z", true)
  | 6 => ("TombstoneText$Replica", "mayGo", "[Z", true)
  | 7 => ("TombstoneText$Replica", "text", "[I", true)
  | 8 => ("TombstoneText$Replica", "textLength", "I", false)
  | 9 => ("TombstoneText$Replica", "keptCount", "I", false)
  | 10 => ("TombstoneText$Replica", "waitingCount", "I", false)
  | _ => ("TombstoneText$Replica", "greatestStamp", "I", false)
def tyP : Nat → FieldType := fun k => match k with
  | 0 => .int
  | 1 => .object "TombstoneText$Log"
  | 2 => .array (.array .int)
  | 3 => .array .boolean
  | 4 => .array .boolean
  | 5 => .array .boolean
  | 6 => .array .boolean
  | 7 => .array .int
  | 8 => .int
  | 9 => .int
  | 10 => .int
  | _ => .int
theorem nmP : ∀ a, a < 12 → ∀ b, b < 12 → a ≠ b → (TP a).2.1 ≠ (TP b).2.1 := by decide +kernel
theorem tyP_ok : ∀ k, k < 12 → parseFieldDescriptor (TP k).2.2.1 = some (tyP k) := by decide +kernel
def RT : String := "TombstoneText"
def TT : u_T := fun k => match k with
  | 0 => ("TombstoneText", "log", "LTombstoneText$Log;", true)
  | _ => ("TombstoneText", "replicas", "[LTombstoneText$Replica;", true)
def tyT : Nat → FieldType := fun k => match k with
  | 0 => .object "TombstoneText$Log"
  | _ => .array (.object "TombstoneText$Replica")
theorem nmT : ∀ a, a < 2 → ∀ b, b < 2 → a ≠ b → (TT a).2.1 ≠ (TT b).2.1 := by decide +kernel
theorem tyT_ok : ∀ k, k < 2 → parseFieldDescriptor (TT k).2.2.1 = some (tyT k) := by decide +kernel
def RM : String := "TombstoneTextModel"
def TM : u_T := fun k => match k with
  | 0 => ("TombstoneTextModel", "issued", "I", false)
  | 1 => ("TombstoneTextModel", "by", "[I", true)
  | 2 => ("TombstoneTextModel", "line", "[I", true)
  | 3 => ("TombstoneTextModel", "stamp", "[I", true)
  | 4 => ("TombstoneTextModel", "letter", "[I", true)
  | 5 => ("TombstoneTextModel", "other", "[I", true)
  | 6 => ("TombstoneTextModel", "clock", "[I", true)
  | 7 => ("TombstoneTextModel", "applied", "[Z", true)
  | 8 => ("TombstoneTextModel", "waits", "[Z", true)
  | 9 => ("TombstoneTextModel", "gone", "[Z", true)
  | 10 => ("TombstoneTextModel", "length", "I", false)
  | 11 => ("TombstoneTextModel", "text", "[I", true)
  | _ => ("TombstoneTextModel", "spare", "[I", true)
def tyM : Nat → FieldType := fun k => match k with
  | 0 => .int
  | 1 => .array .int
  | 2 => .array .int
  | 3 => .array .int
  | 4 => .array .int
  | 5 => .array .int
  | 6 => .array .int
  | 7 => .array .boolean
  | 8 => .array .boolean
  | 9 => .array .boolean
  | 10 => .int
  | 11 => .array .int
  | _ => .array .int
theorem nmM : ∀ a, a < 13 → ∀ b, b < 13 → a ≠ b → (TM a).2.1 ≠ (TM b).2.1 := by decide +kernel
theorem tyM_ok : ∀ k, k < 13 → parseFieldDescriptor (TM k).2.2.1 = some (tyM k) := by decide +kernel
abbrev vwCl : List vw_C := [(RL, TL, 8), (RP, TP, 12), (RT, TT, 2), (RM, TM, 13)]
abbrev cT_init : ByteArray := prog_1_method_1_code
def yT_init : MethodName := ⟨RT, "<init>", "()V"⟩
def wsT_init : List Cond := [.code yT_init cT_init 2 none]
abbrev cL_init : ByteArray := prog_2_method_1_code
def yL_init : MethodName := ⟨RL, "<init>", "()V"⟩
def wsL_init : List Cond := [.code yL_init cL_init 1 none]
abbrev cP_init : ByteArray := prog_3_method_1_code
def yP_init : MethodName := ⟨RP, "<init>", "(ILTombstoneText$Log;)V"⟩
def wsP_init : List Cond := [.code yP_init cP_init 3 none]
abbrev cT_insert : ByteArray := prog_1_method_2_code
def yT_insert : MethodName := ⟨RT, "insert", "(IIC)I"⟩
def wsT_insert : List Cond := [.code yT_insert cT_insert 5 (some .int)]
abbrev cT_isReplica : ByteArray := prog_1_method_17_code
def yT_isReplica : MethodName := ⟨RT, "isReplica", "(I)Z"⟩
def wsT_isReplica : List Cond := [.code yT_isReplica cT_isReplica 1 (some .boolean)]
abbrev cL_isFull : ByteArray := prog_2_method_2_code
def yL_isFull : MethodName := ⟨RL, "isFull", "()Z"⟩
def wsL_isFull : List Cond := [.code yL_isFull cL_isFull 1 (some .boolean)]
abbrev cP_elementBefore : ByteArray := prog_3_method_3_code
def yP_elementBefore : MethodName := ⟨RP, "elementBefore", "(I)I"⟩
def wsP_elementBefore : List Cond := [.code yP_elementBefore cP_elementBefore 2 (some .int)]
abbrev cP_issue : ByteArray := prog_3_method_8_code
def yP_issue : MethodName := ⟨RP, "issue", "(IC)I"⟩
def wsP_issue : List Cond := [.code yP_issue cP_issue 4 (some .int)]
abbrev cL_record : ByteArray := prog_2_method_7_code
def yL_record : MethodName := ⟨RL, "record", "(II[IIC)I"⟩
def wsL_record : List Cond := [.code yL_record cL_record 8 (some .int)]
abbrev cL_putInOrder : ByteArray := prog_2_method_8_code
def yL_putInOrder : MethodName := ⟨RL, "putInOrder", "(I)V"⟩
def wsL_putInOrder : List Cond := [.code yL_putInOrder cL_putInOrder 4 none]
abbrev cL_indexBehind : ByteArray := prog_2_method_9_code
def yL_indexBehind : MethodName := ⟨RL, "indexBehind", "(I)I"⟩
def wsL_indexBehind : List Cond := [.code yL_indexBehind cL_indexBehind 3 (some .int)]
abbrev cL_goesFirst : ByteArray := prog_2_method_10_code
def yL_goesFirst : MethodName := ⟨RL, "goesFirst", "(II)Z"⟩
def wsL_goesFirst : List Cond := [.code yL_goesFirst cL_goesFirst 3 (some .boolean)]
abbrev cP_apply : ByteArray := prog_3_method_13_code
def yP_apply : MethodName := ⟨RP, "apply", "(I)V"⟩
def wsP_apply : List Cond := [.code yP_apply cP_apply 4 none]
abbrev cL_clockOf : ByteArray := prog_2_method_5_code
def yL_clockOf : MethodName := ⟨RL, "clockOf", "(II)I"⟩
def wsL_clockOf : List Cond := [.code yL_clockOf cL_clockOf 3 (some .int)]
abbrev cL_placeInLine : ByteArray := prog_2_method_6_code
def yL_placeInLine : MethodName := ⟨RL, "placeInLine", "(I)I"⟩
def wsL_placeInLine : List Cond := [.code yL_placeInLine cL_placeInLine 2 (some .int)]
abbrev cL_isErase : ByteArray := prog_2_method_4_code
def yL_isErase : MethodName := ⟨RL, "isErase", "(I)Z"⟩
def wsL_isErase : List Cond := [.code yL_isErase cL_isErase 2 (some .boolean)]
abbrev cP_rewriteText : ByteArray := prog_3_method_14_code
def yP_rewriteText : MethodName := ⟨RP, "rewriteText", "()V"⟩
def wsP_rewriteText : List Cond := [.code yP_rewriteText cP_rewriteText 3 none]
abbrev cP_hasApplied : ByteArray := prog_3_method_6_code
def yP_hasApplied : MethodName := ⟨RP, "hasApplied", "(I)Z"⟩
def wsP_hasApplied : List Cond := [.code yP_hasApplied cP_hasApplied 2 (some .boolean)]
abbrev cT_erase : ByteArray := prog_1_method_3_code
def yT_erase : MethodName := ⟨RT, "erase", "(II)I"⟩
def wsT_erase : List Cond := [.code yT_erase cT_erase 4 (some .int)]
abbrev cP_elementAt : ByteArray := prog_3_method_2_code
def yP_elementAt : MethodName := ⟨RP, "elementAt", "(I)I"⟩
def wsP_elementAt : List Cond := [.code yP_elementAt cP_elementAt 2 (some .int)]
abbrev cT_deliver : ByteArray := prog_1_method_4_code
def yT_deliver : MethodName := ⟨RT, "deliver", "(II)I"⟩
def wsT_deliver : List Cond := [.code yT_deliver cT_deliver 3 (some .int)]
abbrev cL_isIssued : ByteArray := prog_2_method_3_code
def yL_isIssued : MethodName := ⟨RL, "isIssued", "(I)Z"⟩
def wsL_isIssued : List Cond := [.code yL_isIssued cL_isIssued 2 (some .boolean)]
abbrev cP_receive : ByteArray := prog_3_method_9_code
def yP_receive : MethodName := ⟨RP, "receive", "(I)V"⟩
def wsP_receive : List Cond := [.code yP_receive cP_receive 2 none]
abbrev cP_applyReady : ByteArray := prog_3_method_11_code
def yP_applyReady : MethodName := ⟨RP, "applyReady", "()I"⟩
def wsP_applyReady : List Cond := [.code yP_applyReady cP_applyReady 3 (some .int)]
abbrev cP_isReady : ByteArray := prog_3_method_12_code
def yP_isReady : MethodName := ⟨RP, "isReady", "(I)Z"⟩
def wsP_isReady : List Cond := [.code yP_isReady cP_isReady 4 (some .boolean)]
abbrev cT_sync : ByteArray := prog_1_method_5_code
def yT_sync : MethodName := ⟨RT, "sync", "(II)I"⟩
def wsT_sync : List Cond := [.code yT_sync cT_sync 3 (some .int)]
abbrev cP_receiveAllOf : ByteArray := prog_3_method_10_code
def yP_receiveAllOf : MethodName := ⟨RP, "receiveAllOf", "(LTombstoneText$Replica;)V"⟩
def wsP_receiveAllOf : List Cond := [.code yP_receiveAllOf cP_receiveAllOf 3 none]
abbrev cT_collect : ByteArray := prog_1_method_6_code
def yT_collect : MethodName := ⟨RT, "collect", "(I)I"⟩
def wsT_collect : List Cond := [.code yT_collect cT_collect 2 (some .int)]
abbrev cP_dropErased : ByteArray := prog_3_method_15_code
def yP_dropErased : MethodName := ⟨RP, "dropErased", "()I"⟩
def wsP_dropErased : List Cond := [.code yP_dropErased cP_dropErased 3 (some .int)]
abbrev cP_markWhatMayGo : ByteArray := prog_3_method_16_code
def yP_markWhatMayGo : MethodName := ⟨RP, "markWhatMayGo", "()V"⟩
def wsP_markWhatMayGo : List Cond := [.code yP_markWhatMayGo cP_markWhatMayGo 2 none]
abbrev cP_isSettled : ByteArray := prog_3_method_7_code
def yP_isSettled : MethodName := ⟨RP, "isSettled", "(I)Z"⟩
def wsP_isSettled : List Cond := [.code yP_isSettled cP_isSettled 5 (some .boolean)]
abbrev cP_holdsItsTarget : ByteArray := prog_3_method_17_code
def yP_holdsItsTarget : MethodName := ⟨RP, "holdsItsTarget", "(I)Z"⟩
def wsP_holdsItsTarget : List Cond := [.code yP_holdsItsTarget cP_holdsItsTarget 2 (some .boolean)]
abbrev cT_length : ByteArray := prog_1_method_7_code
def yT_length : MethodName := ⟨RT, "length", "(I)I"⟩
def wsT_length : List Cond := [.code yT_length cT_length 2 (some .int)]
abbrev cT_at : ByteArray := prog_1_method_8_code
def yT_at : MethodName := ⟨RT, "at", "(II)I"⟩
def wsT_at : List Cond := [.code yT_at cT_at 4 (some .int)]
abbrev cT_position : ByteArray := prog_1_method_9_code
def yT_position : MethodName := ⟨RT, "position", "(II)I"⟩
def wsT_position : List Cond := [.code yT_position cT_position 4 (some .int)]
abbrev cP_positionOf : ByteArray := prog_3_method_4_code
def yP_positionOf : MethodName := ⟨RP, "positionOf", "(I)I"⟩
def wsP_positionOf : List Cond := [.code yP_positionOf cP_positionOf 3 (some .int)]
abbrev cT_same : ByteArray := prog_1_method_10_code
def yT_same : MethodName := ⟨RT, "same", "(II)Z"⟩
def wsT_same : List Cond := [.code yT_same cT_same 3 (some .boolean)]
abbrev cP_readsLike : ByteArray := prog_3_method_5_code
def yP_readsLike : MethodName := ⟨RP, "readsLike", "(LTombstoneText$Replica;)Z"⟩
def wsP_readsLike : List Cond := [.code yP_readsLike cP_readsLike 3 (some .boolean)]
abbrev cT_operations : ByteArray := prog_1_method_11_code
def yT_operations : MethodName := ⟨RT, "operations", "()I"⟩
def wsT_operations : List Cond := [.code yT_operations cT_operations 1 (some .int)]
abbrev cT_stamp : ByteArray := prog_1_method_12_code
def yT_stamp : MethodName := ⟨RT, "stamp", "(I)I"⟩
def wsT_stamp : List Cond := [.code yT_stamp cT_stamp 2 (some .int)]
abbrev cT_known : ByteArray := prog_1_method_13_code
def yT_known : MethodName := ⟨RT, "known", "(III)I"⟩
def wsT_known : List Cond := [.code yT_known cT_known 4 (some .int)]
abbrev cT_stable : ByteArray := prog_1_method_14_code
def yT_stable : MethodName := ⟨RT, "stable", "(II)Z"⟩
def wsT_stable : List Cond := [.code yT_stable cT_stable 3 (some .boolean)]
abbrev cT_kept : ByteArray := prog_1_method_15_code
def yT_kept : MethodName := ⟨RT, "kept", "(I)I"⟩
def wsT_kept : List Cond := [.code yT_kept cT_kept 2 (some .int)]
abbrev cT_waiting : ByteArray := prog_1_method_16_code
def yT_waiting : MethodName := ⟨RT, "waiting", "(I)I"⟩
def wsT_waiting : List Cond := [.code yT_waiting cT_waiting 2 (some .int)]
abbrev cM_init : ByteArray := prog_5_method_1_code
def yM_init : MethodName := ⟨RM, "<init>", "()V"⟩
def wsM_init : List Cond := [.code yM_init cM_init 1 none]
abbrev cM_insert : ByteArray := prog_5_method_12_code
def yM_insert : MethodName := ⟨RM, "insert", "(IIC)I"⟩
def wsM_insert : List Cond := [.code yM_insert cM_insert 4 (some .int)]
abbrev cM_isReplica : ByteArray := prog_5_method_2_code
def yM_isReplica : MethodName := ⟨RM, "isReplica", "(I)Z"⟩
def wsM_isReplica : List Cond := [.code yM_isReplica cM_isReplica 1 (some .boolean)]
abbrev cM_walk : ByteArray := prog_5_method_10_code
def yM_walk : MethodName := ⟨RM, "walk", "(I)V"⟩
def wsM_walk : List Cond := [.code yM_walk cM_walk 3 none]
abbrev cM_next : ByteArray := prog_5_method_8_code
def yM_next : MethodName := ⟨RM, "next", "(II)I"⟩
def wsM_next : List Cond := [.code yM_next cM_next 5 (some .int)]
abbrev cM_first : ByteArray := prog_5_method_7_code
def yM_first : MethodName := ⟨RM, "first", "(III)I"⟩
def wsM_first : List Cond := [.code yM_first cM_first 7 (some .int)]
abbrev cM_has : ByteArray := prog_5_method_4_code
def yM_has : MethodName := ⟨RM, "has", "(II)Z"⟩
def wsM_has : List Cond := [.code yM_has cM_has 3 (some .boolean)]
abbrev cM_sooner : ByteArray := prog_5_method_6_code
def yM_sooner : MethodName := ⟨RM, "sooner", "(II)Z"⟩
def wsM_sooner : List Cond := [.code yM_sooner cM_sooner 3 (some .boolean)]
abbrev cM_erased : ByteArray := prog_5_method_9_code
def yM_erased : MethodName := ⟨RM, "erased", "(II)Z"⟩
def wsM_erased : List Cond := [.code yM_erased cM_erased 5 (some .boolean)]
abbrev cM_issue : ByteArray := prog_5_method_11_code
def yM_issue : MethodName := ⟨RM, "issue", "(III)I"⟩
def wsM_issue : List Cond := [.code yM_issue cM_issue 7 (some .int)]
abbrev cM_count : ByteArray := prog_5_method_5_code
def yM_count : MethodName := ⟨RM, "count", "(II)I"⟩
def wsM_count : List Cond := [.code yM_count cM_count 5 (some .int)]
abbrev cM_erase : ByteArray := prog_5_method_13_code
def yM_erase : MethodName := ⟨RM, "erase", "(II)I"⟩
def wsM_erase : List Cond := [.code yM_erase cM_erase 3 (some .int)]
abbrev cM_deliver : ByteArray := prog_5_method_15_code
def yM_deliver : MethodName := ⟨RM, "deliver", "(II)I"⟩
def wsM_deliver : List Cond := [.code yM_deliver cM_deliver 6 (some .int)]
abbrev cM_isOperation : ByteArray := prog_5_method_3_code
def yM_isOperation : MethodName := ⟨RM, "isOperation", "(I)Z"⟩
def wsM_isOperation : List Cond := [.code yM_isOperation cM_isOperation 2 (some .boolean)]
abbrev cM_ready : ByteArray := prog_5_method_14_code
def yM_ready : MethodName := ⟨RM, "ready", "(II)Z"⟩
def wsM_ready : List Cond := [.code yM_ready cM_ready 5 (some .boolean)]
abbrev cM_sync : ByteArray := prog_5_method_16_code
def yM_sync : MethodName := ⟨RM, "sync", "(II)I"⟩
def wsM_sync : List Cond := [.code yM_sync cM_sync 5 (some .int)]
abbrev cM_known : ByteArray := prog_5_method_17_code
def yM_known : MethodName := ⟨RM, "known", "(III)I"⟩
def wsM_known : List Cond := [.code yM_known cM_known 7 (some .int)]
abbrev cM_stable : ByteArray := prog_5_method_18_code
def yM_stable : MethodName := ⟨RM, "stable", "(II)Z"⟩
def wsM_stable : List Cond := [.code yM_stable cM_stable 5 (some .boolean)]
abbrev cM_collect : ByteArray := prog_5_method_21_code
def yM_collect : MethodName := ⟨RM, "collect", "(I)I"⟩
def wsM_collect : List Cond := [.code yM_collect cM_collect 4 (some .int)]
abbrev cM_keeps : ByteArray := prog_5_method_20_code
def yM_keeps : MethodName := ⟨RM, "keeps", "(II)Z"⟩
def wsM_keeps : List Cond := [.code yM_keeps cM_keeps 3 (some .boolean)]
abbrev cM_idle : ByteArray := prog_5_method_19_code
def yM_idle : MethodName := ⟨RM, "idle", "(II)Z"⟩
def wsM_idle : List Cond := [.code yM_idle cM_idle 6 (some .boolean)]
abbrev cM_length : ByteArray := prog_5_method_22_code
def yM_length : MethodName := ⟨RM, "length", "(I)I"⟩
def wsM_length : List Cond := [.code yM_length cM_length 2 (some .int)]
abbrev cM_at : ByteArray := prog_5_method_23_code
def yM_at : MethodName := ⟨RM, "at", "(II)I"⟩
def wsM_at : List Cond := [.code yM_at cM_at 3 (some .int)]
abbrev cM_position : ByteArray := prog_5_method_24_code
def yM_position : MethodName := ⟨RM, "position", "(II)I"⟩
def wsM_position : List Cond := [.code yM_position cM_position 5 (some .int)]
abbrev cM_same : ByteArray := prog_5_method_25_code
def yM_same : MethodName := ⟨RM, "same", "(II)Z"⟩
def wsM_same : List Cond := [.code yM_same cM_same 6 (some .boolean)]
abbrev cM_operations : ByteArray := prog_5_method_26_code
def yM_operations : MethodName := ⟨RM, "operations", "()I"⟩
def wsM_operations : List Cond := [.code yM_operations cM_operations 1 (some .int)]
abbrev cM_stamp : ByteArray := prog_5_method_27_code
def yM_stamp : MethodName := ⟨RM, "stamp", "(I)I"⟩
def wsM_stamp : List Cond := [.code yM_stamp cM_stamp 2 (some .int)]
abbrev cM_kept : ByteArray := prog_5_method_28_code
def yM_kept : MethodName := ⟨RM, "kept", "(I)I"⟩
def wsM_kept : List Cond := [.code yM_kept cM_kept 4 (some .int)]
abbrev cM_waiting : ByteArray := prog_5_method_29_code
def yM_waiting : MethodName := ⟨RM, "waiting", "(I)I"⟩
def wsM_waiting : List Cond := [.code yM_waiting cM_waiting 4 (some .int)]
def wA0 : List Cond := [.initialized "TombstoneTextLaw", .initialized RT, .initialized RL, .initialized RP, .initialized RM, .initialized "java/lang/Math", .classLink "TombstoneTextLaw" 7 RT, .instantiable RT 2, .methodLink "TombstoneTextLaw" 9 yT_init, .instanceMethod yT_init, .code yT_init cT_init 2 none, .methodLink RT 1 objectInit, .instanceMethod objectInit, .code objectInit ⟨#[0xb1]⟩ 1 none, .classLink RT 7 RL, .instantiable RL 8, .instanceMethod yL_init, .code yL_init cL_init 1 none, .methodLink RL 3 objectInit, .fieldLink RL 9 "TombstoneText$Log" "issuers" "[I", .fieldLink RL 15 "TombstoneText$Log" "stamps" "[I", .fieldLink RL 18 "TombstoneText$Log" "targets" "[I", .fieldLink RL 21 "TombstoneText$Log" "characters" "[C", .fieldLink RL 25 "TombstoneText$Log" "clocks" "[I", .fieldLink RL 28 "TombstoneText$Log" "order" "[I", .fieldLink RL 31 "TombstoneText$Log" "count" "I", .fieldLink RL 47 "TombstoneText$Log" "elements" "I", .laysFinal RL "TombstoneText$Log" "issuers" "[I", .laysFinal RL "TombstoneText$Log" "stamps" "[I", .laysFinal RL "TombstoneText$Log" "targets" "[I", .laysFinal RL "TombstoneText$Log" "characters" "[C", .laysFinal RL "TombstoneText$Log" "clocks" "[I", .laysFinal RL "TombstoneText$Log" "order" "[I", .lays RL "TombstoneText$Log" "count" "I", .lays RL "TombstoneText$Log" "elements" "I", .arrayClass .int, .arrayClass .char, .classLink RT 16 RP, .instantiable RP 12, .methodLink RT 22 yP_init]
def wA1 : List Cond := [.instanceMethod yP_init, .code yP_init cP_init 3 none, .methodLink RP 3 objectInit, .classLink RP 9 "[[I", .fieldLink RP 33 "TombstoneText$Replica" "self" "I", .fieldLink RP 37 "TombstoneText$Replica" "log" "LTombstoneText$Log;", .fieldLink RP 11 "TombstoneText$Replica" "seen" "[[I", .fieldLink RP 16 "TombstoneText$Replica" "waits" "[Z", .fieldLink RP 20 "TombstoneText$Replica" "erased" "[Z", .fieldLink RP 23 "TombstoneText$Replica" "isKept" "[Z", .fieldLink RP 26 "TombstoneText$Replica" "mayGo" "[Z", .fieldLink RP 29 "TombstoneText$Replica" "text" "[I", .fieldLink RP 41 "TombstoneText$Replica" "textLength" "I", .fieldLink RP 105 "TombstoneText$Replica" "keptCount" "I", .fieldLink RP 75 "TombstoneText$Replica" "waitingCount" "I", .fieldLink RP 57 "TombstoneText$Replica" "greatestStamp" "I", .laysFinal RP "TombstoneText$Replica" "self" "I", .laysFinal RP "TombstoneText$Replica" "log" "LTombstoneText$Log;", .laysFinal RP "TombstoneText$Replica" "seen" "[[I", .laysFinal RP "TombstoneText$Replica" "waits" "[Z", .laysFinal RP "TombstoneText$Replica" "erased" "[Z", .laysFinal RP "TombstoneText$Replica" "isKept" "[Z", .laysFinal RP "TombstoneText$Replica" "mayGo" "[Z", .laysFinal RP "TombstoneText$Replica" "text" "[I", .lays RP "TombstoneText$Replica" "textLength" "I", .lays RP "TombstoneText$Replica" "keptCount" "I", .lays RP "TombstoneText$Replica" "waitingCount" "I", .lays RP "TombstoneText$Replica" "greatestStamp" "I", .arrayClass .boolean, .fieldLink RT 10 "TombstoneText" "log" "LTombstoneText$Log;", .fieldLink RT 18 "TombstoneText" "replicas" "[LTombstoneText$Replica;", .laysFinal RT "TombstoneText" "log" "LTombstoneText$Log;", .laysFinal RT "TombstoneText" "replicas" "[LTombstoneText$Replica;", .methodLink "TombstoneTextLaw" 13 yT_insert, .instanceMethod yT_insert, .selects RT yT_insert yT_insert, .code yT_insert cT_insert 5 (some .int), .methodLink RT 25 yT_isReplica, .static yT_isReplica, .code yT_isReplica cT_isReplica 1 (some .boolean)]
def wA2 : List Cond := [.methodLink RT 33 yL_isFull, .instanceMethod yL_isFull, .selects RL yL_isFull yL_isFull, .code yL_isFull cL_isFull 1 (some .boolean), .methodLink RT 37 yP_elementBefore, .instanceMethod yP_elementBefore, .selects RP yP_elementBefore yP_elementBefore, .code yP_elementBefore cP_elementBefore 2 (some .int), .methodLink RT 41 yP_issue, .instanceMethod yP_issue, .selects RP yP_issue yP_issue, .code yP_issue cP_issue 4 (some .int), .methodLink RP 60 yL_record, .instanceMethod yL_record, .selects RL yL_record yL_record, .code yL_record cL_record 8 (some .int), .methodLink RL 39 yL_putInOrder, .instanceMethod yL_putInOrder, .code yL_putInOrder cL_putInOrder 4 none, .methodLink RL 43 yL_indexBehind, .instanceMethod yL_indexBehind, .code yL_indexBehind cL_indexBehind 3 (some .int), .methodLink RL 54 Lib.Math.min.name, .static Lib.Math.min.name, .code Lib.Math.min.name Lib.Math.min.code 2 (some .int), .methodLink RL 50 yL_goesFirst, .instanceMethod yL_goesFirst, .code yL_goesFirst cL_goesFirst 3 (some .boolean), .methodLink RP 64 yP_apply, .instanceMethod yP_apply, .code yP_apply cP_apply 4 none, .methodLink RP 87 yL_clockOf, .instanceMethod yL_clockOf, .selects RL yL_clockOf yL_clockOf, .code yL_clockOf cL_clockOf 3 (some .int), .methodLink RP 50 yL_placeInLine, .instanceMethod yL_placeInLine, .selects RL yL_placeInLine yL_placeInLine, .code yL_placeInLine cL_placeInLine 2 (some .int), .methodLink RL 35 yL_clockOf]
def wA3 : List Cond := [.methodLink RP 94 Lib.Math.max.name, .static Lib.Math.max.name, .code Lib.Math.max.name Lib.Math.max.code 2 (some .int), .methodLink RP 99 yL_isErase, .instanceMethod yL_isErase, .selects RL yL_isErase yL_isErase, .code yL_isErase cL_isErase 2 (some .boolean), .methodLink RP 68 yP_rewriteText, .instanceMethod yP_rewriteText, .code yP_rewriteText cP_rewriteText 3 none, .methodLink RP 71 yP_hasApplied, .instanceMethod yP_hasApplied, .selects RP yP_hasApplied yP_hasApplied, .code yP_hasApplied cP_hasApplied 2 (some .boolean), .methodLink "TombstoneTextLaw" 18 yT_erase, .instanceMethod yT_erase, .selects RT yT_erase yT_erase, .code yT_erase cT_erase 4 (some .int), .methodLink RT 45 yP_elementAt, .instanceMethod yP_elementAt, .selects RP yP_elementAt yP_elementAt, .code yP_elementAt cP_elementAt 2 (some .int), .methodLink "TombstoneTextLaw" 23 yT_deliver, .instanceMethod yT_deliver, .selects RT yT_deliver yT_deliver, .code yT_deliver cT_deliver 3 (some .int), .methodLink RT 48 yL_isIssued, .instanceMethod yL_isIssued, .selects RL yL_isIssued yL_isIssued, .code yL_isIssued cL_isIssued 2 (some .boolean), .methodLink RT 51 yP_receive, .instanceMethod yP_receive, .selects RP yP_receive yP_receive, .code yP_receive cP_receive 2 none, .methodLink RT 55 yP_applyReady, .instanceMethod yP_applyReady, .selects RP yP_applyReady yP_applyReady, .code yP_applyReady cP_applyReady 3 (some .int), .methodLink RP 84 yP_isReady, .instanceMethod yP_isReady]
def wA4 : List Cond := [.code yP_isReady cP_isReady 4 (some .boolean), .methodLink "TombstoneTextLaw" 27 yT_sync, .instanceMethod yT_sync, .selects RT yT_sync yT_sync, .code yT_sync cT_sync 3 (some .int), .methodLink RT 59 yP_receiveAllOf, .instanceMethod yP_receiveAllOf, .selects RP yP_receiveAllOf yP_receiveAllOf, .code yP_receiveAllOf cP_receiveAllOf 3 none, .methodLink RP 81 yP_receive, .methodLink "TombstoneTextLaw" 31 yT_collect, .instanceMethod yT_collect, .selects RT yT_collect yT_collect, .code yT_collect cT_collect 2 (some .int), .methodLink RT 63 yP_dropErased, .instanceMethod yP_dropErased, .selects RP yP_dropErased yP_dropErased, .code yP_dropErased cP_dropErased 3 (some .int), .methodLink RP 114 yP_markWhatMayGo, .instanceMethod yP_markWhatMayGo, .code yP_markWhatMayGo cP_markWhatMayGo 2 none, .methodLink RP 117 yP_isSettled, .instanceMethod yP_isSettled, .selects RP yP_isSettled yP_isSettled, .code yP_isSettled cP_isSettled 5 (some .boolean), .methodLink RP 120 yP_holdsItsTarget, .instanceMethod yP_holdsItsTarget, .code yP_holdsItsTarget cP_holdsItsTarget 2 (some .boolean), .methodLink "TombstoneTextLaw" 36 yT_length, .instanceMethod yT_length, .selects RT yT_length yT_length, .code yT_length cT_length 2 (some .int), .methodLink "TombstoneTextLaw" 40 yT_at, .instanceMethod yT_at, .selects RT yT_at yT_at, .code yT_at cT_at 4 (some .int), .methodLink "TombstoneTextLaw" 44 yT_position, .instanceMethod yT_position, .selects RT yT_position yT_position, .code yT_position cT_position 4 (some .int)]
def wA5 : List Cond := [.methodLink RT 70 yP_positionOf, .instanceMethod yP_positionOf, .selects RP yP_positionOf yP_positionOf, .code yP_positionOf cP_positionOf 3 (some .int), .methodLink "TombstoneTextLaw" 48 yT_same, .instanceMethod yT_same, .selects RT yT_same yT_same, .code yT_same cT_same 3 (some .boolean), .methodLink RT 73 yP_readsLike, .instanceMethod yP_readsLike, .selects RP yP_readsLike yP_readsLike, .code yP_readsLike cP_readsLike 3 (some .boolean), .methodLink "TombstoneTextLaw" 53 yT_operations, .instanceMethod yT_operations, .selects RT yT_operations yT_operations, .code yT_operations cT_operations 1 (some .int), .methodLink "TombstoneTextLaw" 58 yT_stamp, .instanceMethod yT_stamp, .selects RT yT_stamp yT_stamp, .code yT_stamp cT_stamp 2 (some .int), .methodLink "TombstoneTextLaw" 62 yT_known, .instanceMethod yT_known, .selects RT yT_known yT_known, .code yT_known cT_known 4 (some .int), .methodLink "TombstoneTextLaw" 67 yT_stable, .instanceMethod yT_stable, .selects RT yT_stable yT_stable, .code yT_stable cT_stable 3 (some .boolean), .methodLink RT 91 yP_isSettled, .methodLink "TombstoneTextLaw" 71 yT_kept, .instanceMethod yT_kept, .selects RT yT_kept yT_kept, .code yT_kept cT_kept 2 (some .int), .methodLink "TombstoneTextLaw" 75 yT_waiting, .instanceMethod yT_waiting, .selects RT yT_waiting yT_waiting, .code yT_waiting cT_waiting 2 (some .int), .classLink "TombstoneTextLaw" 10 RM, .instantiable RM 13, .methodLink "TombstoneTextLaw" 12 yM_init]
def wA6 : List Cond := [.instanceMethod yM_init, .code yM_init cM_init 1 none, .methodLink RM 1 objectInit, .fieldLink RM 44 "TombstoneTextModel" "issued" "I", .fieldLink RM 7 "TombstoneTextModel" "by" "[I", .fieldLink RM 13 "TombstoneTextModel" "line" "[I", .fieldLink RM 16 "TombstoneTextModel" "stamp" "[I", .fieldLink RM 19 "TombstoneTextModel" "letter" "[I", .fieldLink RM 22 "TombstoneTextModel" "other" "[I", .fieldLink RM 25 "TombstoneTextModel" "clock" "[I", .fieldLink RM 28 "TombstoneTextModel" "applied" "[Z", .fieldLink RM 32 "TombstoneTextModel" "waits" "[Z", .fieldLink RM 35 "TombstoneTextModel" "gone" "[Z", .fieldLink RM 59 "TombstoneTextModel" "length" "I", .fieldLink RM 38 "TombstoneTextModel" "text" "[I", .fieldLink RM 41 "TombstoneTextModel" "spare" "[I", .lays RM "TombstoneTextModel" "issued" "I", .laysFinal RM "TombstoneTextModel" "by" "[I", .laysFinal RM "TombstoneTextModel" "line" "[I", .laysFinal RM "TombstoneTextModel" "stamp" "[I", .laysFinal RM "TombstoneTextModel" "letter" "[I", .laysFinal RM "TombstoneTextModel" "other" "[I", .laysFinal RM "TombstoneTextModel" "clock" "[I", .laysFinal RM "TombstoneTextModel" "applied" "[Z", .laysFinal RM "TombstoneTextModel" "waits" "[Z", .laysFinal RM "TombstoneTextModel" "gone" "[Z", .lays RM "TombstoneTextModel" "length" "I", .laysFinal RM "TombstoneTextModel" "text" "[I", .laysFinal RM "TombstoneTextModel" "spare" "[I", .methodLink "TombstoneTextLaw" 17 yM_insert, .instanceMethod yM_insert, .selects RM yM_insert yM_insert, .code yM_insert cM_insert 4 (some .int), .methodLink RM 72 yM_isReplica, .static yM_isReplica, .code yM_isReplica cM_isReplica 1 (some .boolean), .methodLink RM 76 yM_walk, .instanceMethod yM_walk, .code yM_walk cM_walk 3 none, .methodLink RM 62 yM_next]
def wA7 : List Cond := [.instanceMethod yM_next, .code yM_next cM_next 5 (some .int), .methodLink RM 55 yM_first, .instanceMethod yM_first, .code yM_first cM_first 7 (some .int), .methodLink RM 48 yM_has, .instanceMethod yM_has, .code yM_has cM_has 3 (some .boolean), .methodLink RM 52 yM_sooner, .instanceMethod yM_sooner, .code yM_sooner cM_sooner 3 (some .boolean), .methodLink RM 66 yM_erased, .instanceMethod yM_erased, .code yM_erased cM_erased 5 (some .boolean), .methodLink RM 80 yM_issue, .instanceMethod yM_issue, .code yM_issue cM_issue 7 (some .int), .methodLink RM 69 yM_count, .instanceMethod yM_count, .code yM_count cM_count 5 (some .int), .methodLink "TombstoneTextLaw" 22 yM_erase, .instanceMethod yM_erase, .selects RM yM_erase yM_erase, .code yM_erase cM_erase 3 (some .int), .methodLink "TombstoneTextLaw" 26 yM_deliver, .instanceMethod yM_deliver, .selects RM yM_deliver yM_deliver, .code yM_deliver cM_deliver 6 (some .int), .methodLink RM 83 yM_isOperation, .instanceMethod yM_isOperation, .code yM_isOperation cM_isOperation 2 (some .boolean), .methodLink RM 86 yM_ready, .instanceMethod yM_ready, .code yM_ready cM_ready 5 (some .boolean), .methodLink "TombstoneTextLaw" 30 yM_sync, .instanceMethod yM_sync, .selects RM yM_sync yM_sync, .code yM_sync cM_sync 5 (some .int), .methodLink RM 89 yM_deliver, .methodLink "TombstoneTextLaw" 66 yM_known]
def wA8 : List Cond := [.instanceMethod yM_known, .selects RM yM_known yM_known, .code yM_known cM_known 7 (some .int), .methodLink "TombstoneTextLaw" 70 yM_stable, .instanceMethod yM_stable, .selects RM yM_stable yM_stable, .code yM_stable cM_stable 5 (some .boolean), .methodLink RM 92 yM_known, .methodLink "TombstoneTextLaw" 35 yM_collect, .instanceMethod yM_collect, .selects RM yM_collect yM_collect, .code yM_collect cM_collect 4 (some .int), .methodLink RM 98 yM_keeps, .instanceMethod yM_keeps, .code yM_keeps cM_keeps 3 (some .boolean), .methodLink RM 101 yM_idle, .instanceMethod yM_idle, .code yM_idle cM_idle 6 (some .boolean), .methodLink RM 95 yM_stable, .methodLink "TombstoneTextLaw" 39 yM_length, .instanceMethod yM_length, .selects RM yM_length yM_length, .code yM_length cM_length 2 (some .int), .methodLink "TombstoneTextLaw" 43 yM_at, .instanceMethod yM_at, .selects RM yM_at yM_at, .code yM_at cM_at 3 (some .int), .methodLink "TombstoneTextLaw" 47 yM_position, .instanceMethod yM_position, .selects RM yM_position yM_position, .code yM_position cM_position 5 (some .int), .methodLink "TombstoneTextLaw" 52 yM_same, .instanceMethod yM_same, .selects RM yM_same yM_same, .code yM_same cM_same 6 (some .boolean), .methodLink "TombstoneTextLaw" 57 yM_operations, .instanceMethod yM_operations, .selects RM yM_operations yM_operations, .code yM_operations cM_operations 1 (some .int), .methodLink "TombstoneTextLaw" 61 yM_stamp]
def wA9 : List Cond := [.instanceMethod yM_stamp, .selects RM yM_stamp yM_stamp, .code yM_stamp cM_stamp 2 (some .int), .methodLink "TombstoneTextLaw" 74 yM_kept, .instanceMethod yM_kept, .selects RM yM_kept yM_kept, .code yM_kept cM_kept 4 (some .int), .methodLink "TombstoneTextLaw" 78 yM_waiting, .instanceMethod yM_waiting, .selects RM yM_waiting yM_waiting, .code yM_waiting cM_waiting 4 (some .int), .selects RL yL_putInOrder yL_putInOrder, .selects RL yL_indexBehind yL_indexBehind, .selects RL yL_goesFirst yL_goesFirst, .selects RP yP_apply yP_apply, .selects RP yP_rewriteText yP_rewriteText, .selects RP yP_isReady yP_isReady, .selects RP yP_markWhatMayGo yP_markWhatMayGo, .selects RP yP_holdsItsTarget yP_holdsItsTarget, .selects RM yM_walk yM_walk, .selects RM yM_next yM_next, .selects RM yM_first yM_first, .selects RM yM_has yM_has, .selects RM yM_sooner yM_sooner, .selects RM yM_erased yM_erased, .selects RM yM_issue yM_issue, .selects RM yM_count yM_count, .selects RM yM_isOperation yM_isOperation, .selects RM yM_ready yM_ready, .selects RM yM_keeps yM_keeps, .selects RM yM_idle yM_idle]
def wAll : List Cond := wA0 ++ (wA1 ++ (wA2 ++ (wA3 ++ (wA4 ++ (wA5 ++ (wA6 ++ (wA7 ++ (wA8 ++ (wA9)))))))))
theorem in_wA0 {w : Cond} (h : w ∈ wA0) : w ∈ wAll := List.mem_append_left _ h
theorem in_wA1 {w : Cond} (h : w ∈ wA1) : w ∈ wAll := List.mem_append_right _ (List.mem_append_left _ h)
theorem in_wA2 {w : Cond} (h : w ∈ wA2) : w ∈ wAll := List.mem_append_right _ (List.mem_append_right _ (List.mem_append_left _ h))
theorem in_wA3 {w : Cond} (h : w ∈ wA3) : w ∈ wAll := List.mem_append_right _ (List.mem_append_right _ (List.mem_append_right _ (List.mem_append_left _ h)))
theorem in_wA4 {w : Cond} (h : w ∈ wA4) : w ∈ wAll := List.mem_append_right _ (List.mem_append_right _ (List.mem_append_right _ (List.mem_append_right _ (List.mem_append_left _ h))))
theorem in_wA5 {w : Cond} (h : w ∈ wA5) : w ∈ wAll := List.mem_append_right _ (List.mem_append_right _ (List.mem_append_right _ (List.mem_append_right _ (List.mem_append_right _ (List.mem_append_left _ h)))))
theorem in_wA6 {w : Cond} (h : w ∈ wA6) : w ∈ wAll := List.mem_append_right _ (List.mem_append_right _ (List.mem_append_right _ (List.mem_append_right _ (List.mem_append_right _ (List.mem_append_right _ (List.mem_append_left _ h))))))
theorem in_wA7 {w : Cond} (h : w ∈ wA7) : w ∈ wAll := List.mem_append_right _ (List.mem_append_right _ (List.mem_append_right _ (List.mem_append_right _ (List.mem_append_right _ (List.mem_append_right _ (List.mem_append_right _ (List.mem_append_left _ h)))))))
theorem in_wA8 {w : Cond} (h : w ∈ wA8) : w ∈ wAll := List.mem_append_right _ (List.mem_append_right _ (List.mem_append_right _ (List.mem_append_right _ (List.mem_append_right _ (List.mem_append_right _ (List.mem_append_right _ (List.mem_append_right _ (List.mem_append_left _ h))))))))
theorem in_wA9 {w : Cond} (h : w ∈ wA9) : w ∈ wAll := List.mem_append_right _ (List.mem_append_right _ (List.mem_append_right _ (List.mem_append_right _ (List.mem_append_right _ (List.mem_append_right _ (List.mem_append_right _ (List.mem_append_right _ (List.mem_append_right _ (h)))))))))
theorem wm_0 : (.initialized "TombstoneTextLaw" : Cond) ∈ wAll := in_wA0 (List.mem_of_getElem? (i := 0) rfl)
theorem wm_1 : (.initialized RT : Cond) ∈ wAll := in_wA0 (List.mem_of_getElem? (i := 1) rfl)
theorem wm_2 : (.initialized RL : Cond) ∈ wAll := in_wA0 (List.mem_of_getElem? (i := 2) rfl)
theorem wm_3 : (.initialized RP : Cond) ∈ wAll := in_wA0 (List.mem_of_getElem? (i := 3) rfl)
theorem wm_4 : (.initialized RM : Cond) ∈ wAll := in_wA0 (List.mem_of_getElem? (i := 4) rfl)
theorem wm_5 : (.initialized "java/lang/Math" : Cond) ∈ wAll := in_wA0 (List.mem_of_getElem? (i := 5) rfl)
theorem wm_6 : (.classLink "TombstoneTextLaw" 7 RT : Cond) ∈ wAll := in_wA0 (List.mem_of_getElem? (i := 6) rfl)
theorem wm_7 : (.instantiable RT 2 : Cond) ∈ wAll := in_wA0 (List.mem_of_getElem? (i := 7) rfl)
theorem wm_8 : (.methodLink "TombstoneTextLaw" 9 yT_init : Cond) ∈ wAll := in_wA0 (List.mem_of_getElem? (i := 8) rfl)
theorem wm_9 : (.instanceMethod yT_init : Cond) ∈ wAll := in_wA0 (List.mem_of_getElem? (i := 9) rfl)
theorem wm_10 : (.code yT_init cT_init 2 none : Cond) ∈ wAll := in_wA0 (List.mem_of_getElem? (i := 10) rfl)
theorem wm_11 : (.methodLink RT 1 objectInit : Cond) ∈ wAll := in_wA0 (List.mem_of_getElem? (i := 11) rfl)
theorem wm_12 : (.instanceMethod objectInit : Cond) ∈ wAll := in_wA0 (List.mem_of_getElem? (i := 12) rfl)
theorem wm_13 : (.code objectInit ⟨#[0xb1]⟩ 1 none : Cond) ∈ wAll := in_wA0 (List.mem_of_getElem? (i := 13) rfl)
theorem wm_14 : (.classLink RT 7 RL : Cond) ∈ wAll := in_wA0 (List.mem_of_getElem? (i := 14) rfl)
theorem wm_15 : (.instantiable RL 8 : Cond) ∈ wAll := in_wA0 (List.mem_of_getElem? (i := 15) rfl)
theorem wm_16 : (.instanceMethod yL_init : Cond) ∈ wAll := in_wA0 (List.mem_of_getElem? (i := 16) rfl)
theorem wm_17 : (.code yL_init cL_init 1 none : Cond) ∈ wAll := in_wA0 (List.mem_of_getElem? (i := 17) rfl)
theorem wm_18 : (.methodLink RL 3 objectInit : Cond) ∈ wAll := in_wA0 (List.mem_of_getElem? (i := 18) rfl)
theorem wm_19 : (.fieldLink RL 9 "TombstoneText$Log" "issuers" "[I" : Cond) ∈ wAll := in_wA0 (List.mem_of_getElem? (i := 19) rfl)
theorem wm_20 : (.fieldLink RL 15 "TombstoneText$Log" "stamps" "[I" : Cond) ∈ wAll := in_wA0 (List.mem_of_getElem? (i := 20) rfl)
theorem wm_21 : (.fieldLink RL 18 "TombstoneText$Log" "targets" "[I" : Cond) ∈ wAll := in_wA0 (List.mem_of_getElem? (i := 21) rfl)
theorem wm_22 : (.fieldLink RL 21 "TombstoneText$Log" "characters" "[C" : Cond) ∈ wAll := in_wA0 (List.mem_of_getElem? (i := 22) rfl)
theorem wm_23 : (.fieldLink RL 25 "TombstoneText$Log" "clocks" "[I" : Cond) ∈ wAll := in_wA0 (List.mem_of_getElem? (i := 23) rfl)
theorem wm_24 : (.fieldLink RL 28 "TombstoneText$Log" "order" "[I" : Cond) ∈ wAll := in_wA0 (List.mem_of_getElem? (i := 24) rfl)
theorem wm_25 : (.fieldLink RL 31 "TombstoneText$Log" "count" "I" : Cond) ∈ wAll := in_wA0 (List.mem_of_getElem? (i := 25) rfl)
theorem wm_26 : (.fieldLink RL 47 "TombstoneText$Log" "elements" "I" : Cond) ∈ wAll := in_wA0 (List.mem_of_getElem? (i := 26) rfl)
theorem wm_27 : (.laysFinal RL "TombstoneText$Log" "issuers" "[I" : Cond) ∈ wAll := in_wA0 (List.mem_of_getElem? (i := 27) rfl)
theorem wm_28 : (.laysFinal RL "TombstoneText$Log" "stamps" "[I" : Cond) ∈ wAll := in_wA0 (List.mem_of_getElem? (i := 28) rfl)
theorem wm_29 : (.laysFinal RL "TombstoneText$Log" "targets" "[I" : Cond) ∈ wAll := in_wA0 (List.mem_of_getElem? (i := 29) rfl)
theorem wm_30 : (.laysFinal RL "TombstoneText$Log" "characters" "[C" : Cond) ∈ wAll := in_wA0 (List.mem_of_getElem? (i := 30) rfl)
theorem wm_31 : (.laysFinal RL "TombstoneText$Log" "clocks" "[I" : Cond) ∈ wAll := in_wA0 (List.mem_of_getElem? (i := 31) rfl)
theorem wm_32 : (.laysFinal RL "TombstoneText$Log" "order" "[I" : Cond) ∈ wAll := in_wA0 (List.mem_of_getElem? (i := 32) rfl)
theorem wm_33 : (.lays RL "TombstoneText$Log" "count" "I" : Cond) ∈ wAll := in_wA0 (List.mem_of_getElem? (i := 33) rfl)
theorem wm_34 : (.lays RL "TombstoneText$Log" "elements" "I" : Cond) ∈ wAll := in_wA0 (List.mem_of_getElem? (i := 34) rfl)
theorem wm_35 : (.arrayClass .int : Cond) ∈ wAll := in_wA0 (List.mem_of_getElem? (i := 35) rfl)
theorem wm_36 : (.arrayClass .char : Cond) ∈ wAll := in_wA0 (List.mem_of_getElem? (i := 36) rfl)
theorem wm_37 : (.classLink RT 16 RP : Cond) ∈ wAll := in_wA0 (List.mem_of_getElem? (i := 37) rfl)
theorem wm_38 : (.instantiable RP 12 : Cond) ∈ wAll := in_wA0 (List.mem_of_getElem? (i := 38) rfl)
theorem wm_39 : (.methodLink RT 22 yP_init : Cond) ∈ wAll := in_wA0 (List.mem_of_getElem? (i := 39) rfl)
theorem wm_40 : (.instanceMethod yP_init : Cond) ∈ wAll := in_wA1 (List.mem_of_getElem? (i := 0) rfl)
theorem wm_41 : (.code yP_init cP_init 3 none : Cond) ∈ wAll := in_wA1 (List.mem_of_getElem? (i := 1) rfl)
theorem wm_42 : (.methodLink RP 3 objectInit : Cond) ∈ wAll := in_wA1 (List.mem_of_getElem? (i := 2) rfl)
theorem wm_43 : (.classLink RP 9 "[[I" : Cond) ∈ wAll := in_wA1 (List.mem_of_getElem? (i := 3) rfl)
theorem wm_44 : (.fieldLink RP 33 "TombstoneText$Replica" "self" "I" : Cond) ∈ wAll := in_wA1 (List.mem_of_getElem? (i := 4) rfl)
theorem wm_45 : (.fieldLink RP 37 "TombstoneText$Replica" "log" "LTombstoneText$Log;" : Cond) ∈ wAll := in_wA1 (List.mem_of_getElem? (i := 5) rfl)
theorem wm_46 : (.fieldLink RP 11 "TombstoneText$Replica" "seen" "[[I" : Cond) ∈ wAll := in_wA1 (List.mem_of_getElem? (i := 6) rfl)
theorem wm_47 : (.fieldLink RP 16 "TombstoneText$Replica" "waits" "[Z" : Cond) ∈ wAll := in_wA1 (List.mem_of_getElem? (i := 7) rfl)
theorem wm_48 : (.fieldLink RP 20 "TombstoneText$Replica" "erased" "[Z" : Cond) ∈ wAll := in_wA1 (List.mem_of_getElem? (i := 8) rfl)
theorem wm_49 : (.fieldLink RP 23 "TombstoneText$Replica" "isKept" "[Z" : Cond) ∈ wAll := in_wA1 (List.mem_of_getElem? (i := 9) rfl)
theorem wm_50 : (.fieldLink RP 26 "TombstoneText$Replica" "mayGo" "[Z" : Cond) ∈ wAll := in_wA1 (List.mem_of_getElem? (i := 10) rfl)
theorem wm_51 : (.fieldLink RP 29 "TombstoneText$Replica" "text" "[I" : Cond) ∈ wAll := in_wA1 (List.mem_of_getElem? (i := 11) rfl)
theorem wm_52 : (.fieldLink RP 41 "TombstoneText$Replica" "textLength" "I" : Cond) ∈ wAll := in_wA1 (List.mem_of_getElem? (i := 12) rfl)
theorem wm_53 : (.fieldLink RP 105 "TombstoneText$Replica" "keptCount" "I" : Cond) ∈ wAll := in_wA1 (List.mem_of_getElem? (i := 13) rfl)
theorem wm_54 : (.fieldLink RP 75 "TombstoneText$Replica" "waitingCount" "I" : Cond) ∈ wAll := in_wA1 (List.mem_of_getElem? (i := 14) rfl)
theorem wm_55 : (.fieldLink RP 57 "TombstoneText$Replica" "greatestStamp" "I" : Cond) ∈ wAll := in_wA1 (List.mem_of_getElem? (i := 15) rfl)
theorem wm_56 : (.laysFinal RP "TombstoneText$Replica" "self" "I" : Cond) ∈ wAll := in_wA1 (List.mem_of_getElem? (i := 16) rfl)
theorem wm_57 : (.laysFinal RP "TombstoneText$Replica" "log" "LTombstoneText$Log;" : Cond) ∈ wAll := in_wA1 (List.mem_of_getElem? (i := 17) rfl)
theorem wm_58 : (.laysFinal RP "TombstoneText$Replica" "seen" "[[I" : Cond) ∈ wAll := in_wA1 (List.mem_of_getElem? (i := 18) rfl)
theorem wm_59 : (.laysFinal RP "TombstoneText$Replica" "waits" "[Z" : Cond) ∈ wAll := in_wA1 (List.mem_of_getElem? (i := 19) rfl)
theorem wm_60 : (.laysFinal RP "TombstoneText$Replica" "erased" "[Z" : Cond) ∈ wAll := in_wA1 (List.mem_of_getElem? (i := 20) rfl)
theorem wm_61 : (.laysFinal RP "TombstoneText$Replica" "isKept" "[Z" : Cond) ∈ wAll := in_wA1 (List.mem_of_getElem? (i := 21) rfl)
theorem wm_62 : (.laysFinal RP "TombstoneText$Replica" "mayGo" "[Z" : Cond) ∈ wAll := in_wA1 (List.mem_of_getElem? (i := 22) rfl)
theorem wm_63 : (.laysFinal RP "TombstoneText$Replica" "text" "[I" : Cond) ∈ wAll := in_wA1 (List.mem_of_getElem? (i := 23) rfl)
theorem wm_64 : (.lays RP "TombstoneText$Replica" "textLength" "I" : Cond) ∈ wAll := in_wA1 (List.mem_of_getElem? (i := 24) rfl)
theorem wm_65 : (.lays RP "TombstoneText$Replica" "keptCount" "I" : Cond) ∈ wAll := in_wA1 (List.mem_of_getElem? (i := 25) rfl)
theorem wm_66 : (.lays RP "TombstoneText$Replica" "waitingCount" "I" : Cond) ∈ wAll := in_wA1 (List.mem_of_getElem? (i := 26) rfl)
theorem wm_67 : (.lays RP "TombstoneText$Replica" "greatestStamp" "I" : Cond) ∈ wAll := in_wA1 (List.mem_of_getElem? (i := 27) rfl)
theorem wm_68 : (.arrayClass .boolean : Cond) ∈ wAll := in_wA1 (List.mem_of_getElem? (i := 28) rfl)
theorem wm_69 : (.fieldLink RT 10 "TombstoneText" "log" "LTombstoneText$Log;" : Cond) ∈ wAll := in_wA1 (List.mem_of_getElem? (i := 29) rfl)
theorem wm_70 : (.fieldLink RT 18 "TombstoneText" "replicas" "[LTombstoneText$Replica;" : Cond) ∈ wAll := in_wA1 (List.mem_of_getElem? (i := 30) rfl)
theorem wm_71 : (.laysFinal RT "TombstoneText" "log" "LTombstoneText$Log;" : Cond) ∈ wAll := in_wA1 (List.mem_of_getElem? (i := 31) rfl)
theorem wm_72 : (.laysFinal RT "TombstoneText" "replicas" "[LTombstoneText$Replica;" : Cond) ∈ wAll := in_wA1 (List.mem_of_getElem? (i := 32) rfl)
theorem wm_73 : (.methodLink "TombstoneTextLaw" 13 yT_insert : Cond) ∈ wAll := in_wA1 (List.mem_of_getElem? (i := 33) rfl)
theorem wm_74 : (.instanceMethod yT_insert : Cond) ∈ wAll := in_wA1 (List.mem_of_getElem? (i := 34) rfl)
theorem wm_75 : (.selects RT yT_insert yT_insert : Cond) ∈ wAll := in_wA1 (List.mem_of_getElem? (i := 35) rfl)
theorem wm_76 : (.code yT_insert cT_insert 5 (some .int) : Cond) ∈ wAll := in_wA1 (List.mem_of_getElem? (i := 36) rfl)
theorem wm_77 : (.methodLink RT 25 yT_isReplica : Cond) ∈ wAll := in_wA1 (List.mem_of_getElem? (i := 37) rfl)
theorem wm_78 : (.static yT_isReplica : Cond) ∈ wAll := in_wA1 (List.mem_of_getElem? (i := 38) rfl)
theorem wm_79 : (.code yT_isReplica cT_isReplica 1 (some .boolean) : Cond) ∈ wAll := in_wA1 (List.mem_of_getElem? (i := 39) rfl)
theorem wm_80 : (.methodLink RT 33 yL_isFull : Cond) ∈ wAll := in_wA2 (List.mem_of_getElem? (i := 0) rfl)
theorem wm_81 : (.instanceMethod yL_isFull : Cond) ∈ wAll := in_wA2 (List.mem_of_getElem? (i := 1) rfl)
theorem wm_82 : (.selects RL yL_isFull yL_isFull : Cond) ∈ wAll := in_wA2 (List.mem_of_getElem? (i := 2) rfl)
theorem wm_83 : (.code yL_isFull cL_isFull 1 (some .boolean) : Cond) ∈ wAll := in_wA2 (List.mem_of_getElem? (i := 3) rfl)
theorem wm_84 : (.methodLink RT 37 yP_elementBefore : Cond) ∈ wAll := in_wA2 (List.mem_of_getElem? (i := 4) rfl)
theorem wm_85 : (.instanceMethod yP_elementBefore : Cond) ∈ wAll := in_wA2 (List.mem_of_getElem? (i := 5) rfl)
theorem wm_86 : (.selects RP yP_elementBefore yP_elementBefore : Cond) ∈ wAll := in_wA2 (List.mem_of_getElem? (i := 6) rfl)
theorem wm_87 : (.code yP_elementBefore cP_elementBefore 2 (some .int) : Cond) ∈ wAll := in_wA2 (List.mem_of_getElem? (i := 7) rfl)
theorem wm_88 : (.methodLink RT 41 yP_issue : Cond) ∈ wAll := in_wA2 (List.mem_of_getElem? (i := 8) rfl)
theorem wm_89 : (.instanceMethod yP_issue : Cond) ∈ wAll := in_wA2 (List.mem_of_getElem? (i := 9) rfl)
theorem wm_90 : (.selects RP yP_issue yP_issue : Cond) ∈ wAll := in_wA2 (List.mem_of_getElem? (i := 10) rfl)
theorem wm_91 : (.code yP_issue cP_issue 4 (some .int) : Cond) ∈ wAll := in_wA2 (List.mem_of_getElem? (i := 11) rfl)
theorem wm_92 : (.methodLink RP 60 yL_record : Cond) ∈ wAll := in_wA2 (List.mem_of_getElem? (i := 12) rfl)
theorem wm_93 : (.instanceMethod yL_record : Cond) ∈ wAll := in_wA2 (List.mem_of_getElem? (i := 13) rfl)
theorem wm_94 : (.selects RL yL_record yL_record : Cond) ∈ wAll := in_wA2 (List.mem_of_getElem? (i := 14) rfl)
theorem wm_95 : (.code yL_record cL_record 8 (some .int) : Cond) ∈ wAll := in_wA2 (List.mem_of_getElem? (i := 15) rfl)
theorem wm_96 : (.methodLink RL 39 yL_putInOrder : Cond) ∈ wAll := in_wA2 (List.mem_of_getElem? (i := 16) rfl)
theorem wm_97 : (.instanceMethod yL_putInOrder : Cond) ∈ wAll := in_wA2 (List.mem_of_getElem? (i := 17) rfl)
theorem wm_98 : (.code yL_putInOrder cL_putInOrder 4 none : Cond) ∈ wAll := in_wA2 (List.mem_of_getElem? (i := 18) rfl)
theorem wm_99 : (.methodLink RL 43 yL_indexBehind : Cond) ∈ wAll := in_wA2 (List.mem_of_getElem? (i := 19) rfl)
theorem wm_100 : (.instanceMethod yL_indexBehind : Cond) ∈ wAll := in_wA2 (List.mem_of_getElem? (i := 20) rfl)
theorem wm_101 : (.code yL_indexBehind cL_indexBehind 3 (some .int) : Cond) ∈ wAll := in_wA2 (List.mem_of_getElem? (i := 21) rfl)
theorem wm_102 : (.methodLink RL 54 Lib.Math.min.name : Cond) ∈ wAll := in_wA2 (List.mem_of_getElem? (i := 22) rfl)
theorem wm_103 : (.static Lib.Math.min.name : Cond) ∈ wAll := in_wA2 (List.mem_of_getElem? (i := 23) rfl)
theorem wm_104 : (.code Lib.Math.min.name Lib.Math.min.code 2 (some .int) : Cond) ∈ wAll := in_wA2 (List.mem_of_getElem? (i := 24) rfl)
theorem wm_105 : (.methodLink RL 50 yL_goesFirst : Cond) ∈ wAll := in_wA2 (List.mem_of_getElem? (i := 25) rfl)
theorem wm_106 : (.instanceMethod yL_goesFirst : Cond) ∈ wAll := in_wA2 (List.mem_of_getElem? (i := 26) rfl)
theorem wm_107 : (.code yL_goesFirst cL_goesFirst 3 (some .boolean) : Cond) ∈ wAll := in_wA2 (List.mem_of_getElem? (i := 27) rfl)
theorem wm_108 : (.methodLink RP 64 yP_apply : Cond) ∈ wAll := in_wA2 (List.mem_of_getElem? (i := 28) rfl)
theorem wm_109 : (.instanceMethod yP_apply : Cond) ∈ wAll := in_wA2 (List.mem_of_getElem? (i := 29) rfl)
theorem wm_110 : (.code yP_apply cP_apply 4 none : Cond) ∈ wAll := in_wA2 (List.mem_of_getElem? (i := 30) rfl)
theorem wm_111 : (.methodLink RP 87 yL_clockOf : Cond) ∈ wAll := in_wA2 (List.mem_of_getElem? (i := 31) rfl)
theorem wm_112 : (.instanceMethod yL_clockOf : Cond) ∈ wAll := in_wA2 (List.mem_of_getElem? (i := 32) rfl)
theorem wm_113 : (.selects RL yL_clockOf yL_clockOf : Cond) ∈ wAll := in_wA2 (List.mem_of_getElem? (i := 33) rfl)
theorem wm_114 : (.code yL_clockOf cL_clockOf 3 (some .int) : Cond) ∈ wAll := in_wA2 (List.mem_of_getElem? (i := 34) rfl)
theorem wm_115 : (.methodLink RP 50 yL_placeInLine : Cond) ∈ wAll := in_wA2 (List.mem_of_getElem? (i := 35) rfl)
theorem wm_116 : (.instanceMethod yL_placeInLine : Cond) ∈ wAll := in_wA2 (List.mem_of_getElem? (i := 36) rfl)
theorem wm_117 : (.selects RL yL_placeInLine yL_placeInLine : Cond) ∈ wAll := in_wA2 (List.mem_of_getElem? (i := 37) rfl)
theorem wm_118 : (.code yL_placeInLine cL_placeInLine 2 (some .int) : Cond) ∈ wAll := in_wA2 (List.mem_of_getElem? (i := 38) rfl)
theorem wm_119 : (.methodLink RL 35 yL_clockOf : Cond) ∈ wAll := in_wA2 (List.mem_of_getElem? (i := 39) rfl)
theorem wm_120 : (.methodLink RP 94 Lib.Math.max.name : Cond) ∈ wAll := in_wA3 (List.mem_of_getElem? (i := 0) rfl)
theorem wm_121 : (.static Lib.Math.max.name : Cond) ∈ wAll := in_wA3 (List.mem_of_getElem? (i := 1) rfl)
theorem wm_122 : (.code Lib.Math.max.name Lib.Math.max.code 2 (some .int) : Cond) ∈ wAll := in_wA3 (List.mem_of_getElem? (i := 2) rfl)
theorem wm_123 : (.methodLink RP 99 yL_isErase : Cond) ∈ wAll := in_wA3 (List.mem_of_getElem? (i := 3) rfl)
theorem wm_124 : (.instanceMethod yL_isErase : Cond) ∈ wAll := in_wA3 (List.mem_of_getElem? (i := 4) rfl)
theorem wm_125 : (.selects RL yL_isErase yL_isErase : Cond) ∈ wAll := in_wA3 (List.mem_of_getElem? (i := 5) rfl)
theorem wm_126 : (.code yL_isErase cL_isErase 2 (some .boolean) : Cond) ∈ wAll := in_wA3 (List.mem_of_getElem? (i := 6) rfl)
theorem wm_127 : (.methodLink RP 68 yP_rewriteText : Cond) ∈ wAll := in_wA3 (List.mem_of_getElem? (i := 7) rfl)
theorem wm_128 : (.instanceMethod yP_rewriteText : Cond) ∈ wAll := in_wA3 (List.mem_of_getElem? (i := 8) rfl)
theorem wm_129 : (.code yP_rewriteText cP_rewriteText 3 none : Cond) ∈ wAll := in_wA3 (List.mem_of_getElem? (i := 9) rfl)
theorem wm_130 : (.methodLink RP 71 yP_hasApplied : Cond) ∈ wAll := in_wA3 (List.mem_of_getElem? (i := 10) rfl)
theorem wm_131 : (.instanceMethod yP_hasApplied : Cond) ∈ wAll := in_wA3 (List.mem_of_getElem? (i := 11) rfl)
theorem wm_132 : (.selects RP yP_hasApplied yP_hasApplied : Cond) ∈ wAll := in_wA3 (List.mem_of_getElem? (i := 12) rfl)
theorem wm_133 : (.code yP_hasApplied cP_hasApplied 2 (some .boolean) : Cond) ∈ wAll := in_wA3 (List.mem_of_getElem? (i := 13) rfl)
theorem wm_134 : (.methodLink "TombstoneTextLaw" 18 yT_erase : Cond) ∈ wAll := in_wA3 (List.mem_of_getElem? (i := 14) rfl)
theorem wm_135 : (.instanceMethod yT_erase : Cond) ∈ wAll := in_wA3 (List.mem_of_getElem? (i := 15) rfl)
theorem wm_136 : (.selects RT yT_erase yT_erase : Cond) ∈ wAll := in_wA3 (List.mem_of_getElem? (i := 16) rfl)
theorem wm_137 : (.code yT_erase cT_erase 4 (some .int) : Cond) ∈ wAll := in_wA3 (List.mem_of_getElem? (i := 17) rfl)
theorem wm_138 : (.methodLink RT 45 yP_elementAt : Cond) ∈ wAll := in_wA3 (List.mem_of_getElem? (i := 18) rfl)
theorem wm_139 : (.instanceMethod yP_elementAt : Cond) ∈ wAll := in_wA3 (List.mem_of_getElem? (i := 19) rfl)
theorem wm_140 : (.selects RP yP_elementAt yP_elementAt : Cond) ∈ wAll := in_wA3 (List.mem_of_getElem? (i := 20) rfl)
theorem wm_141 : (.code yP_elementAt cP_elementAt 2 (some .int) : Cond) ∈ wAll := in_wA3 (List.mem_of_getElem? (i := 21) rfl)
theorem wm_142 : (.methodLink "TombstoneTextLaw" 23 yT_deliver : Cond) ∈ wAll := in_wA3 (List.mem_of_getElem? (i := 22) rfl)
theorem wm_143 : (.instanceMethod yT_deliver : Cond) ∈ wAll := in_wA3 (List.mem_of_getElem? (i := 23) rfl)
theorem wm_144 : (.selects RT yT_deliver yT_deliver : Cond) ∈ wAll := in_wA3 (List.mem_of_getElem? (i := 24) rfl)
theorem wm_145 : (.code yT_deliver cT_deliver 3 (some .int) : Cond) ∈ wAll := in_wA3 (List.mem_of_getElem? (i := 25) rfl)
theorem wm_146 : (.methodLink RT 48 yL_isIssued : Cond) ∈ wAll := in_wA3 (List.mem_of_getElem? (i := 26) rfl)
theorem wm_147 : (.instanceMethod yL_isIssued : Cond) ∈ wAll := in_wA3 (List.mem_of_getElem? (i := 27) rfl)
theorem wm_148 : (.selects RL yL_isIssued yL_isIssued : Cond) ∈ wAll := in_wA3 (List.mem_of_getElem? (i := 28) rfl)
theorem wm_149 : (.code yL_isIssued cL_isIssued 2 (some .boolean) : Cond) ∈ wAll := in_wA3 (List.mem_of_getElem? (i := 29) rfl)
theorem wm_150 : (.methodLink RT 51 yP_receive : Cond) ∈ wAll := in_wA3 (List.mem_of_getElem? (i := 30) rfl)
theorem wm_151 : (.instanceMethod yP_receive : Cond) ∈ wAll := in_wA3 (List.mem_of_getElem? (i := 31) rfl)
theorem wm_152 : (.selects RP yP_receive yP_receive : Cond) ∈ wAll := in_wA3 (List.mem_of_getElem? (i := 32) rfl)
theorem wm_153 : (.code yP_receive cP_receive 2 none : Cond) ∈ wAll := in_wA3 (List.mem_of_getElem? (i := 33) rfl)
theorem wm_154 : (.methodLink RT 55 yP_applyReady : Cond) ∈ wAll := in_wA3 (List.mem_of_getElem? (i := 34) rfl)
theorem wm_155 : (.instanceMethod yP_applyReady : Cond) ∈ wAll := in_wA3 (List.mem_of_getElem? (i := 35) rfl)
theorem wm_156 : (.selects RP yP_applyReady yP_applyReady : Cond) ∈ wAll := in_wA3 (List.mem_of_getElem? (i := 36) rfl)
theorem wm_157 : (.code yP_applyReady cP_applyReady 3 (some .int) : Cond) ∈ wAll := in_wA3 (List.mem_of_getElem? (i := 37) rfl)
theorem wm_158 : (.methodLink RP 84 yP_isReady : Cond) ∈ wAll := in_wA3 (List.mem_of_getElem? (i := 38) rfl)
theorem wm_159 : (.instanceMethod yP_isReady : Cond) ∈ wAll := in_wA3 (List.mem_of_getElem? (i := 39) rfl)
theorem wm_160 : (.code yP_isReady cP_isReady 4 (some .boolean) : Cond) ∈ wAll := in_wA4 (List.mem_of_getElem? (i := 0) rfl)
theorem wm_161 : (.methodLink "TombstoneTextLaw" 27 yT_sync : Cond) ∈ wAll := in_wA4 (List.mem_of_getElem? (i := 1) rfl)
theorem wm_162 : (.instanceMethod yT_sync : Cond) ∈ wAll := in_wA4 (List.mem_of_getElem? (i := 2) rfl)
theorem wm_163 : (.selects RT yT_sync yT_sync : Cond) ∈ wAll := in_wA4 (List.mem_of_getElem? (i := 3) rfl)
theorem wm_164 : (.code yT_sync cT_sync 3 (some .int) : Cond) ∈ wAll := in_wA4 (List.mem_of_getElem? (i := 4) rfl)
theorem wm_165 : (.methodLink RT 59 yP_receiveAllOf : Cond) ∈ wAll := in_wA4 (List.mem_of_getElem? (i := 5) rfl)
theorem wm_166 : (.instanceMethod yP_receiveAllOf : Cond) ∈ wAll := in_wA4 (List.mem_of_getElem? (i := 6) rfl)
theorem wm_167 : (.selects RP yP_receiveAllOf yP_receiveAllOf : Cond) ∈ wAll := in_wA4 (List.mem_of_getElem? (i := 7) rfl)
theorem wm_168 : (.code yP_receiveAllOf cP_receiveAllOf 3 none : Cond) ∈ wAll := in_wA4 (List.mem_of_getElem? (i := 8) rfl)
theorem wm_169 : (.methodLink RP 81 yP_receive : Cond) ∈ wAll := in_wA4 (List.mem_of_getElem? (i := 9) rfl)
theorem wm_170 : (.methodLink "TombstoneTextLaw" 31 yT_collect : Cond) ∈ wAll := in_wA4 (List.mem_of_getElem? (i := 10) rfl)
theorem wm_171 : (.instanceMethod yT_collect : Cond) ∈ wAll := in_wA4 (List.mem_of_getElem? (i := 11) rfl)
theorem wm_172 : (.selects RT yT_collect yT_collect : Cond) ∈ wAll := in_wA4 (List.mem_of_getElem? (i := 12) rfl)
theorem wm_173 : (.code yT_collect cT_collect 2 (some .int) : Cond) ∈ wAll := in_wA4 (List.mem_of_getElem? (i := 13) rfl)
theorem wm_174 : (.methodLink RT 63 yP_dropErased : Cond) ∈ wAll := in_wA4 (List.mem_of_getElem? (i := 14) rfl)
theorem wm_175 : (.instanceMethod yP_dropErased : Cond) ∈ wAll := in_wA4 (List.mem_of_getElem? (i := 15) rfl)
theorem wm_176 : (.selects RP yP_dropErased yP_dropErased : Cond) ∈ wAll := in_wA4 (List.mem_of_getElem? (i := 16) rfl)
theorem wm_177 : (.code yP_dropErased cP_dropErased 3 (some .int) : Cond) ∈ wAll := in_wA4 (List.mem_of_getElem? (i := 17) rfl)
theorem wm_178 : (.methodLink RP 114 yP_markWhatMayGo : Cond) ∈ wAll := in_wA4 (List.mem_of_getElem? (i := 18) rfl)
theorem wm_179 : (.instanceMethod yP_markWhatMayGo : Cond) ∈ wAll := in_wA4 (List.mem_of_getElem? (i := 19) rfl)
theorem wm_180 : (.code yP_markWhatMayGo cP_markWhatMayGo 2 none : Cond) ∈ wAll := in_wA4 (List.mem_of_getElem? (i := 20) rfl)
theorem wm_181 : (.methodLink RP 117 yP_isSettled : Cond) ∈ wAll := in_wA4 (List.mem_of_getElem? (i := 21) rfl)
theorem wm_182 : (.instanceMethod yP_isSettled : Cond) ∈ wAll := in_wA4 (List.mem_of_getElem? (i := 22) rfl)
theorem wm_183 : (.selects RP yP_isSettled yP_isSettled : Cond) ∈ wAll := in_wA4 (List.mem_of_getElem? (i := 23) rfl)
theorem wm_184 : (.code yP_isSettled cP_isSettled 5 (some .boolean) : Cond) ∈ wAll := in_wA4 (List.mem_of_getElem? (i := 24) rfl)
theorem wm_185 : (.methodLink RP 120 yP_holdsItsTarget : Cond) ∈ wAll := in_wA4 (List.mem_of_getElem? (i := 25) rfl)
theorem wm_186 : (.instanceMethod yP_holdsItsTarget : Cond) ∈ wAll := in_wA4 (List.mem_of_getElem? (i := 26) rfl)
theorem wm_187 : (.code yP_holdsItsTarget cP_holdsItsTarget 2 (some .boolean) : Cond) ∈ wAll := in_wA4 (List.mem_of_getElem? (i := 27) rfl)
theorem wm_188 : (.methodLink "TombstoneTextLaw" 36 yT_length : Cond) ∈ wAll := in_wA4 (List.mem_of_getElem? (i := 28) rfl)
theorem wm_189 : (.instanceMethod yT_length : Cond) ∈ wAll := in_wA4 (List.mem_of_getElem? (i := 29) rfl)
theorem wm_190 : (.selects RT yT_length yT_length : Cond) ∈ wAll := in_wA4 (List.mem_of_getElem? (i := 30) rfl)
theorem wm_191 : (.code yT_length cT_length 2 (some .int) : Cond) ∈ wAll := in_wA4 (List.mem_of_getElem? (i := 31) rfl)
theorem wm_192 : (.methodLink "TombstoneTextLaw" 40 yT_at : Cond) ∈ wAll := in_wA4 (List.mem_of_getElem? (i := 32) rfl)
theorem wm_193 : (.instanceMethod yT_at : Cond) ∈ wAll := in_wA4 (List.mem_of_getElem? (i := 33) rfl)
theorem wm_194 : (.selects RT yT_at yT_at : Cond) ∈ wAll := in_wA4 (List.mem_of_getElem? (i := 34) rfl)
theorem wm_195 : (.code yT_at cT_at 4 (some .int) : Cond) ∈ wAll := in_wA4 (List.mem_of_getElem? (i := 35) rfl)
theorem wm_196 : (.methodLink "TombstoneTextLaw" 44 yT_position : Cond) ∈ wAll := in_wA4 (List.mem_of_getElem? (i := 36) rfl)
theorem wm_197 : (.instanceMethod yT_position : Cond) ∈ wAll := in_wA4 (List.mem_of_getElem? (i := 37) rfl)
theorem wm_198 : (.selects RT yT_position yT_position : Cond) ∈ wAll := in_wA4 (List.mem_of_getElem? (i := 38) rfl)
theorem wm_199 : (.code yT_position cT_position 4 (some .int) : Cond) ∈ wAll := in_wA4 (List.mem_of_getElem? (i := 39) rfl)
theorem wm_200 : (.methodLink RT 70 yP_positionOf : Cond) ∈ wAll := in_wA5 (List.mem_of_getElem? (i := 0) rfl)
theorem wm_201 : (.instanceMethod yP_positionOf : Cond) ∈ wAll := in_wA5 (List.mem_of_getElem? (i := 1) rfl)
theorem wm_202 : (.selects RP yP_positionOf yP_positionOf : Cond) ∈ wAll := in_wA5 (List.mem_of_getElem? (i := 2) rfl)
theorem wm_203 : (.code yP_positionOf cP_positionOf 3 (some .int) : Cond) ∈ wAll := in_wA5 (List.mem_of_getElem? (i := 3) rfl)
theorem wm_204 : (.methodLink "TombstoneTextLaw" 48 yT_same : Cond) ∈ wAll := in_wA5 (List.mem_of_getElem? (i := 4) rfl)
theorem wm_205 : (.instanceMethod yT_same : Cond) ∈ wAll := in_wA5 (List.mem_of_getElem? (i := 5) rfl)
theorem wm_206 : (.selects RT yT_same yT_same : Cond) ∈ wAll := in_wA5 (List.mem_of_getElem? (i := 6) rfl)
theorem wm_207 : (.code yT_same cT_same 3 (some .boolean) : Cond) ∈ wAll := in_wA5 (List.mem_of_getElem? (i := 7) rfl)
theorem wm_208 : (.methodLink RT 73 yP_readsLike : Cond) ∈ wAll := in_wA5 (List.mem_of_getElem? (i := 8) rfl)
theorem wm_209 : (.instanceMethod yP_readsLike : Cond) ∈ wAll := in_wA5 (List.mem_of_getElem? (i := 9) rfl)
theorem wm_210 : (.selects RP yP_readsLike yP_readsLike : Cond) ∈ wAll := in_wA5 (List.mem_of_getElem? (i := 10) rfl)
theorem wm_211 : (.code yP_readsLike cP_readsLike 3 (some .boolean) : Cond) ∈ wAll := in_wA5 (List.mem_of_getElem? (i := 11) rfl)
theorem wm_212 : (.methodLink "TombstoneTextLaw" 53 yT_operations : Cond) ∈ wAll := in_wA5 (List.mem_of_getElem? (i := 12) rfl)
theorem wm_213 : (.instanceMethod yT_operations : Cond) ∈ wAll := in_wA5 (List.mem_of_getElem? (i := 13) rfl)
theorem wm_214 : (.selects RT yT_operations yT_operations : Cond) ∈ wAll := in_wA5 (List.mem_of_getElem? (i := 14) rfl)
theorem wm_215 : (.code yT_operations cT_operations 1 (some .int) : Cond) ∈ wAll := in_wA5 (List.mem_of_getElem? (i := 15) rfl)
theorem wm_216 : (.methodLink "TombstoneTextLaw" 58 yT_stamp : Cond) ∈ wAll := in_wA5 (List.mem_of_getElem? (i := 16) rfl)
theorem wm_217 : (.instanceMethod yT_stamp : Cond) ∈ wAll := in_wA5 (List.mem_of_getElem? (i := 17) rfl)
theorem wm_218 : (.selects RT yT_stamp yT_stamp : Cond) ∈ wAll := in_wA5 (List.mem_of_getElem? (i := 18) rfl)
theorem wm_219 : (.code yT_stamp cT_stamp 2 (some .int) : Cond) ∈ wAll := in_wA5 (List.mem_of_getElem? (i := 19) rfl)
theorem wm_220 : (.methodLink "TombstoneTextLaw" 62 yT_known : Cond) ∈ wAll := in_wA5 (List.mem_of_getElem? (i := 20) rfl)
theorem wm_221 : (.instanceMethod yT_known : Cond) ∈ wAll := in_wA5 (List.mem_of_getElem? (i := 21) rfl)
theorem wm_222 : (.selects RT yT_known yT_known : Cond) ∈ wAll := in_wA5 (List.mem_of_getElem? (i := 22) rfl)
theorem wm_223 : (.code yT_known cT_known 4 (some .int) : Cond) ∈ wAll := in_wA5 (List.mem_of_getElem? (i := 23) rfl)
theorem wm_224 : (.methodLink "TombstoneTextLaw" 67 yT_stable : Cond) ∈ wAll := in_wA5 (List.mem_of_getElem? (i := 24) rfl)
theorem wm_225 : (.instanceMethod yT_stable : Cond) ∈ wAll := in_wA5 (List.mem_of_getElem? (i := 25) rfl)
theorem wm_226 : (.selects RT yT_stable yT_stable : Cond) ∈ wAll := in_wA5 (List.mem_of_getElem? (i := 26) rfl)
theorem wm_227 : (.code yT_stable cT_stable 3 (some .boolean) : Cond) ∈ wAll := in_wA5 (List.mem_of_getElem? (i := 27) rfl)
theorem wm_228 : (.methodLink RT 91 yP_isSettled : Cond) ∈ wAll := in_wA5 (List.mem_of_getElem? (i := 28) rfl)
theorem wm_229 : (.methodLink "TombstoneTextLaw" 71 yT_kept : Cond) ∈ wAll := in_wA5 (List.mem_of_getElem? (i := 29) rfl)
theorem wm_230 : (.instanceMethod yT_kept : Cond) ∈ wAll := in_wA5 (List.mem_of_getElem? (i := 30) rfl)
theorem wm_231 : (.selects RT yT_kept yT_kept : Cond) ∈ wAll := in_wA5 (List.mem_of_getElem? (i := 31) rfl)
theorem wm_232 : (.code yT_kept cT_kept 2 (some .int) : Cond) ∈ wAll := in_wA5 (List.mem_of_getElem? (i := 32) rfl)
theorem wm_233 : (.methodLink "TombstoneTextLaw" 75 yT_waiting : Cond) ∈ wAll := in_wA5 (List.mem_of_getElem? (i := 33) rfl)
theorem wm_234 : (.instanceMethod yT_waiting : Cond) ∈ wAll := in_wA5 (List.mem_of_getElem? (i := 34) rfl)
theorem wm_235 : (.selects RT yT_waiting yT_waiting : Cond) ∈ wAll := in_wA5 (List.mem_of_getElem? (i := 35) rfl)
theorem wm_236 : (.code yT_waiting cT_waiting 2 (some .int) : Cond) ∈ wAll := in_wA5 (List.mem_of_getElem? (i := 36) rfl)
theorem wm_237 : (.classLink "TombstoneTextLaw" 10 RM : Cond) ∈ wAll := in_wA5 (List.mem_of_getElem? (i := 37) rfl)
theorem wm_238 : (.instantiable RM 13 : Cond) ∈ wAll := in_wA5 (List.mem_of_getElem? (i := 38) rfl)
theorem wm_239 : (.methodLink "TombstoneTextLaw" 12 yM_init : Cond) ∈ wAll := in_wA5 (List.mem_of_getElem? (i := 39) rfl)
theorem wm_240 : (.instanceMethod yM_init : Cond) ∈ wAll := in_wA6 (List.mem_of_getElem? (i := 0) rfl)
theorem wm_241 : (.code yM_init cM_init 1 none : Cond) ∈ wAll := in_wA6 (List.mem_of_getElem? (i := 1) rfl)
theorem wm_242 : (.methodLink RM 1 objectInit : Cond) ∈ wAll := in_wA6 (List.mem_of_getElem? (i := 2) rfl)
theorem wm_243 : (.fieldLink RM 44 "TombstoneTextModel" "issued" "I" : Cond) ∈ wAll := in_wA6 (List.mem_of_getElem? (i := 3) rfl)
theorem wm_244 : (.fieldLink RM 7 "TombstoneTextModel" "by" "[I" : Cond) ∈ wAll := in_wA6 (List.mem_of_getElem? (i := 4) rfl)
theorem wm_245 : (.fieldLink RM 13 "TombstoneTextModel" "line" "[I" : Cond) ∈ wAll := in_wA6 (List.mem_of_getElem? (i := 5) rfl)
theorem wm_246 : (.fieldLink RM 16 "TombstoneTextModel" "stamp" "[I" : Cond) ∈ wAll := in_wA6 (List.mem_of_getElem? (i := 6) rfl)
theorem wm_247 : (.fieldLink RM 19 "TombstoneTextModel" "letter" "[I" : Cond) ∈ wAll := in_wA6 (List.mem_of_getElem? (i := 7) rfl)
theorem wm_248 : (.fieldLink RM 22 "TombstoneTextModel" "other" "[I" : Cond) ∈ wAll := in_wA6 (List.mem_of_getElem? (i := 8) rfl)
theorem wm_249 : (.fieldLink RM 25 "TombstoneTextModel" "clock" "[I" : Cond) ∈ wAll := in_wA6 (List.mem_of_getElem? (i := 9) rfl)
theorem wm_250 : (.fieldLink RM 28 "TombstoneTextModel" "applied" "[Z" : Cond) ∈ wAll := in_wA6 (List.mem_of_getElem? (i := 10) rfl)
theorem wm_251 : (.fieldLink RM 32 "TombstoneTextModel" "waits" "[Z" : Cond) ∈ wAll := in_wA6 (List.mem_of_getElem? (i := 11) rfl)
theorem wm_252 : (.fieldLink RM 35 "TombstoneTextModel" "gone" "[Z" : Cond) ∈ wAll := in_wA6 (List.mem_of_getElem? (i := 12) rfl)
theorem wm_253 : (.fieldLink RM 59 "TombstoneTextModel" "length" "I" : Cond) ∈ wAll := in_wA6 (List.mem_of_getElem? (i := 13) rfl)
theorem wm_254 : (.fieldLink RM 38 "TombstoneTextModel" "text" "[I" : Cond) ∈ wAll := in_wA6 (List.mem_of_getElem? (i := 14) rfl)
theorem wm_255 : (.fieldLink RM 41 "TombstoneTextModel" "spare" "[I" : Cond) ∈ wAll := in_wA6 (List.mem_of_getElem? (i := 15) rfl)
theorem wm_256 : (.lays RM "TombstoneTextModel" "issued" "I" : Cond) ∈ wAll := in_wA6 (List.mem_of_getElem? (i := 16) rfl)
theorem wm_257 : (.laysFinal RM "TombstoneTextModel" "by" "[I" : Cond) ∈ wAll := in_wA6 (List.mem_of_getElem? (i := 17) rfl)
theorem wm_258 : (.laysFinal RM "TombstoneTextModel" "line" "[I" : Cond) ∈ wAll := in_wA6 (List.mem_of_getElem? (i := 18) rfl)
theorem wm_259 : (.laysFinal RM "TombstoneTextModel" "stamp" "[I" : Cond) ∈ wAll := in_wA6 (List.mem_of_getElem? (i := 19) rfl)
theorem wm_260 : (.laysFinal RM "TombstoneTextModel" "letter" "[I" : Cond) ∈ wAll := in_wA6 (List.mem_of_getElem? (i := 20) rfl)
theorem wm_261 : (.laysFinal RM "TombstoneTextModel" "other" "[I" : Cond) ∈ wAll := in_wA6 (List.mem_of_getElem? (i := 21) rfl)
theorem wm_262 : (.laysFinal RM "TombstoneTextModel" "clock" "[I" : Cond) ∈ wAll := in_wA6 (List.mem_of_getElem? (i := 22) rfl)
theorem wm_263 : (.laysFinal RM "TombstoneTextModel" "applied" "[Z" : Cond) ∈ wAll := in_wA6 (List.mem_of_getElem? (i := 23) rfl)
theorem wm_264 : (.laysFinal RM "TombstoneTextModel" "waits" "[Z" : Cond) ∈ wAll := in_wA6 (List.mem_of_getElem? (i := 24) rfl)
theorem wm_265 : (.laysFinal RM "TombstoneTextModel" "gone" "[Z" : Cond) ∈ wAll := in_wA6 (List.mem_of_getElem? (i := 25) rfl)
theorem wm_266 : (.lays RM "TombstoneTextModel" "length" "I" : Cond) ∈ wAll := in_wA6 (List.mem_of_getElem? (i := 26) rfl)
theorem wm_267 : (.laysFinal RM "TombstoneTextModel" "text" "[I" : Cond) ∈ wAll := in_wA6 (List.mem_of_getElem? (i := 27) rfl)
theorem wm_268 : (.laysFinal RM "TombstoneTextModel" "spare" "[I" : Cond) ∈ wAll := in_wA6 (List.mem_of_getElem? (i := 28) rfl)
theorem wm_269 : (.methodLink "TombstoneTextLaw" 17 yM_insert : Cond) ∈ wAll := in_wA6 (List.mem_of_getElem? (i := 29) rfl)
theorem wm_270 : (.instanceMethod yM_insert : Cond) ∈ wAll := in_wA6 (List.mem_of_getElem? (i := 30) rfl)
theorem wm_271 : (.selects RM yM_insert yM_insert : Cond) ∈ wAll := in_wA6 (List.mem_of_getElem? (i := 31) rfl)
theorem wm_272 : (.code yM_insert cM_insert 4 (some .int) : Cond) ∈ wAll := in_wA6 (List.mem_of_getElem? (i := 32) rfl)
theorem wm_273 : (.methodLink RM 72 yM_isReplica : Cond) ∈ wAll := in_wA6 (List.mem_of_getElem? (i := 33) rfl)
theorem wm_274 : (.static yM_isReplica : Cond) ∈ wAll := in_wA6 (List.mem_of_getElem? (i := 34) rfl)
theorem wm_275 : (.code yM_isReplica cM_isReplica 1 (some .boolean) : Cond) ∈ wAll := in_wA6 (List.mem_of_getElem? (i := 35) rfl)
theorem wm_276 : (.methodLink RM 76 yM_walk : Cond) ∈ wAll := in_wA6 (List.mem_of_getElem? (i := 36) rfl)
theorem wm_277 : (.instanceMethod yM_walk : Cond) ∈ wAll := in_wA6 (List.mem_of_getElem? (i := 37) rfl)
theorem wm_278 : (.code yM_walk cM_walk 3 none : Cond) ∈ wAll := in_wA6 (List.mem_of_getElem? (i := 38) rfl)
theorem wm_279 : (.methodLink RM 62 yM_next : Cond) ∈ wAll := in_wA6 (List.mem_of_getElem? (i := 39) rfl)
theorem wm_280 : (.instanceMethod yM_next : Cond) ∈ wAll := in_wA7 (List.mem_of_getElem? (i := 0) rfl)
theorem wm_281 : (.code yM_next cM_next 5 (some .int) : Cond) ∈ wAll := in_wA7 (List.mem_of_getElem? (i := 1) rfl)
theorem wm_282 : (.methodLink RM 55 yM_first : Cond) ∈ wAll := in_wA7 (List.mem_of_getElem? (i := 2) rfl)
theorem wm_283 : (.instanceMethod yM_first : Cond) ∈ wAll := in_wA7 (List.mem_of_getElem? (i := 3) rfl)
theorem wm_284 : (.code yM_first cM_first 7 (some .int) : Cond) ∈ wAll := in_wA7 (List.mem_of_getElem? (i := 4) rfl)
theorem wm_285 : (.methodLink RM 48 yM_has : Cond) ∈ wAll := in_wA7 (List.mem_of_getElem? (i := 5) rfl)
theorem wm_286 : (.instanceMethod yM_has : Cond) ∈ wAll := in_wA7 (List.mem_of_getElem? (i := 6) rfl)
theorem wm_287 : (.code yM_has cM_has 3 (some .boolean) : Cond) ∈ wAll := in_wA7 (List.mem_of_getElem? (i := 7) rfl)
theorem wm_288 : (.methodLink RM 52 yM_sooner : Cond) ∈ wAll := in_wA7 (List.mem_of_getElem? (i := 8) rfl)
theorem wm_289 : (.instanceMethod yM_sooner : Cond) ∈ wAll := in_wA7 (List.mem_of_getElem? (i := 9) rfl)
theorem wm_290 : (.code yM_sooner cM_sooner 3 (some .boolean) : Cond) ∈ wAll := in_wA7 (List.mem_of_getElem? (i := 10) rfl)
theorem wm_291 : (.methodLink RM 66 yM_erased : Cond) ∈ wAll := in_wA7 (List.mem_of_getElem? (i := 11) rfl)
theorem wm_292 : (.instanceMethod yM_erased : Cond) ∈ wAll := in_wA7 (List.mem_of_getElem? (i := 12) rfl)
theorem wm_293 : (.code yM_erased cM_erased 5 (some .boolean) : Cond) ∈ wAll := in_wA7 (List.mem_of_getElem? (i := 13) rfl)
theorem wm_294 : (.methodLink RM 80 yM_issue : Cond) ∈ wAll := in_wA7 (List.mem_of_getElem? (i := 14) rfl)
theorem wm_295 : (.instanceMethod yM_issue : Cond) ∈ wAll := in_wA7 (List.mem_of_getElem? (i := 15) rfl)
theorem wm_296 : (.code yM_issue cM_issue 7 (some .int) : Cond) ∈ wAll := in_wA7 (List.mem_of_getElem? (i := 16) rfl)
theorem wm_297 : (.methodLink RM 69 yM_count : Cond) ∈ wAll := in_wA7 (List.mem_of_getElem? (i := 17) rfl)
theorem wm_298 : (.instanceMethod yM_count : Cond) ∈ wAll := in_wA7 (List.mem_of_getElem? (i := 18) rfl)
theorem wm_299 : (.code yM_count cM_count 5 (some .int) : Cond) ∈ wAll := in_wA7 (List.mem_of_getElem? (i := 19) rfl)
theorem wm_300 : (.methodLink "TombstoneTextLaw" 22 yM_erase : Cond) ∈ wAll := in_wA7 (List.mem_of_getElem? (i := 20) rfl)
theorem wm_301 : (.instanceMethod yM_erase : Cond) ∈ wAll := in_wA7 (List.mem_of_getElem? (i := 21) rfl)
theorem wm_302 : (.selects RM yM_erase yM_erase : Cond) ∈ wAll := in_wA7 (List.mem_of_getElem? (i := 22) rfl)
theorem wm_303 : (.code yM_erase cM_erase 3 (some .int) : Cond) ∈ wAll := in_wA7 (List.mem_of_getElem? (i := 23) rfl)
theorem wm_304 : (.methodLink "TombstoneTextLaw" 26 yM_deliver : Cond) ∈ wAll := in_wA7 (List.mem_of_getElem? (i := 24) rfl)
theorem wm_305 : (.instanceMethod yM_deliver : Cond) ∈ wAll := in_wA7 (List.mem_of_getElem? (i := 25) rfl)
theorem wm_306 : (.selects RM yM_deliver yM_deliver : Cond) ∈ wAll := in_wA7 (List.mem_of_getElem? (i := 26) rfl)
theorem wm_307 : (.code yM_deliver cM_deliver 6 (some .int) : Cond) ∈ wAll := in_wA7 (List.mem_of_getElem? (i := 27) rfl)
theorem wm_308 : (.methodLink RM 83 yM_isOperation : Cond) ∈ wAll := in_wA7 (List.mem_of_getElem? (i := 28) rfl)
theorem wm_309 : (.instanceMethod yM_isOperation : Cond) ∈ wAll := in_wA7 (List.mem_of_getElem? (i := 29) rfl)
theorem wm_310 : (.code yM_isOperation cM_isOperation 2 (some .boolean) : Cond) ∈ wAll := in_wA7 (List.mem_of_getElem? (i := 30) rfl)
theorem wm_311 : (.methodLink RM 86 yM_ready : Cond) ∈ wAll := in_wA7 (List.mem_of_getElem? (i := 31) rfl)
theorem wm_312 : (.instanceMethod yM_ready : Cond) ∈ wAll := in_wA7 (List.mem_of_getElem? (i := 32) rfl)
theorem wm_313 : (.code yM_ready cM_ready 5 (some .boolean) : Cond) ∈ wAll := in_wA7 (List.mem_of_getElem? (i := 33) rfl)
theorem wm_314 : (.methodLink "TombstoneTextLaw" 30 yM_sync : Cond) ∈ wAll := in_wA7 (List.mem_of_getElem? (i := 34) rfl)
theorem wm_315 : (.instanceMethod yM_sync : Cond) ∈ wAll := in_wA7 (List.mem_of_getElem? (i := 35) rfl)
theorem wm_316 : (.selects RM yM_sync yM_sync : Cond) ∈ wAll := in_wA7 (List.mem_of_getElem? (i := 36) rfl)
theorem wm_317 : (.code yM_sync cM_sync 5 (some .int) : Cond) ∈ wAll := in_wA7 (List.mem_of_getElem? (i := 37) rfl)
theorem wm_318 : (.methodLink RM 89 yM_deliver : Cond) ∈ wAll := in_wA7 (List.mem_of_getElem? (i := 38) rfl)
theorem wm_319 : (.methodLink "TombstoneTextLaw" 66 yM_known : Cond) ∈ wAll := in_wA7 (List.mem_of_getElem? (i := 39) rfl)
theorem wm_320 : (.instanceMethod yM_known : Cond) ∈ wAll := in_wA8 (List.mem_of_getElem? (i := 0) rfl)
theorem wm_321 : (.selects RM yM_known yM_known : Cond) ∈ wAll := in_wA8 (List.mem_of_getElem? (i := 1) rfl)
theorem wm_322 : (.code yM_known cM_known 7 (some .int) : Cond) ∈ wAll := in_wA8 (List.mem_of_getElem? (i := 2) rfl)
theorem wm_323 : (.methodLink "TombstoneTextLaw" 70 yM_stable : Cond) ∈ wAll := in_wA8 (List.mem_of_getElem? (i := 3) rfl)
theorem wm_324 : (.instanceMethod yM_stable : Cond) ∈ wAll := in_wA8 (List.mem_of_getElem? (i := 4) rfl)
theorem wm_325 : (.selects RM yM_stable yM_stable : Cond) ∈ wAll := in_wA8 (List.mem_of_getElem? (i := 5) rfl)
theorem wm_326 : (.code yM_stable cM_stable 5 (some .boolean) : Cond) ∈ wAll := in_wA8 (List.mem_of_getElem? (i := 6) rfl)
theorem wm_327 : (.methodLink RM 92 yM_known : Cond) ∈ wAll := in_wA8 (List.mem_of_getElem? (i := 7) rfl)
theorem wm_328 : (.methodLink "TombstoneTextLaw" 35 yM_collect : Cond) ∈ wAll := in_wA8 (List.mem_of_getElem? (i := 8) rfl)
theorem wm_329 : (.instanceMethod yM_collect : Cond) ∈ wAll := in_wA8 (List.mem_of_getElem? (i := 9) rfl)
theorem wm_330 : (.selects RM yM_collect yM_collect : Cond) ∈ wAll := in_wA8 (List.mem_of_getElem? (i := 10) rfl)
theorem wm_331 : (.code yM_collect cM_collect 4 (some .int) : Cond) ∈ wAll := in_wA8 (List.mem_of_getElem? (i := 11) rfl)
theorem wm_332 : (.methodLink RM 98 yM_keeps : Cond) ∈ wAll := in_wA8 (List.mem_of_getElem? (i := 12) rfl)
theorem wm_333 : (.instanceMethod yM_keeps : Cond) ∈ wAll := in_wA8 (List.mem_of_getElem? (i := 13) rfl)
theorem wm_334 : (.code yM_keeps cM_keeps 3 (some .boolean) : Cond) ∈ wAll := in_wA8 (List.mem_of_getElem? (i := 14) rfl)
theorem wm_335 : (.methodLink RM 101 yM_idle : Cond) ∈ wAll := in_wA8 (List.mem_of_getElem? (i := 15) rfl)
theorem wm_336 : (.instanceMethod yM_idle : Cond) ∈ wAll := in_wA8 (List.mem_of_getElem? (i := 16) rfl)
theorem wm_337 : (.code yM_idle cM_idle 6 (some .boolean) : Cond) ∈ wAll := in_wA8 (List.mem_of_getElem? (i := 17) rfl)
theorem wm_338 : (.methodLink RM 95 yM_stable : Cond) ∈ wAll := in_wA8 (List.mem_of_getElem? (i := 18) rfl)
theorem wm_339 : (.methodLink "TombstoneTextLaw" 39 yM_length : Cond) ∈ wAll := in_wA8 (List.mem_of_getElem? (i := 19) rfl)
theorem wm_340 : (.instanceMethod yM_length : Cond) ∈ wAll := in_wA8 (List.mem_of_getElem? (i := 20) rfl)
theorem wm_341 : (.selects RM yM_length yM_length : Cond) ∈ wAll := in_wA8 (List.mem_of_getElem? (i := 21) rfl)
theorem wm_342 : (.code yM_length cM_length 2 (some .int) : Cond) ∈ wAll := in_wA8 (List.mem_of_getElem? (i := 22) rfl)
theorem wm_343 : (.methodLink "TombstoneTextLaw" 43 yM_at : Cond) ∈ wAll := in_wA8 (List.mem_of_getElem? (i := 23) rfl)
theorem wm_344 : (.instanceMethod yM_at : Cond) ∈ wAll := in_wA8 (List.mem_of_getElem? (i := 24) rfl)
theorem wm_345 : (.selects RM yM_at yM_at : Cond) ∈ wAll := in_wA8 (List.mem_of_getElem? (i := 25) rfl)
theorem wm_346 : (.code yM_at cM_at 3 (some .int) : Cond) ∈ wAll := in_wA8 (List.mem_of_getElem? (i := 26) rfl)
theorem wm_347 : (.methodLink "TombstoneTextLaw" 47 yM_position : Cond) ∈ wAll := in_wA8 (List.mem_of_getElem? (i := 27) rfl)
theorem wm_348 : (.instanceMethod yM_position : Cond) ∈ wAll := in_wA8 (List.mem_of_getElem? (i := 28) rfl)
theorem wm_349 : (.selects RM yM_position yM_position : Cond) ∈ wAll := in_wA8 (List.mem_of_getElem? (i := 29) rfl)
theorem wm_350 : (.code yM_position cM_position 5 (some .int) : Cond) ∈ wAll := in_wA8 (List.mem_of_getElem? (i := 30) rfl)
theorem wm_351 : (.methodLink "TombstoneTextLaw" 52 yM_same : Cond) ∈ wAll := in_wA8 (List.mem_of_getElem? (i := 31) rfl)
theorem wm_352 : (.instanceMethod yM_same : Cond) ∈ wAll := in_wA8 (List.mem_of_getElem? (i := 32) rfl)
theorem wm_353 : (.selects RM yM_same yM_same : Cond) ∈ wAll := in_wA8 (List.mem_of_getElem? (i := 33) rfl)
theorem wm_354 : (.code yM_same cM_same 6 (some .boolean) : Cond) ∈ wAll := in_wA8 (List.mem_of_getElem? (i := 34) rfl)
theorem wm_355 : (.methodLink "TombstoneTextLaw" 57 yM_operations : Cond) ∈ wAll := in_wA8 (List.mem_of_getElem? (i := 35) rfl)
theorem wm_356 : (.instanceMethod yM_operations : Cond) ∈ wAll := in_wA8 (List.mem_of_getElem? (i := 36) rfl)
theorem wm_357 : (.selects RM yM_operations yM_operations : Cond) ∈ wAll := in_wA8 (List.mem_of_getElem? (i := 37) rfl)
theorem wm_358 : (.code yM_operations cM_operations 1 (some .int) : Cond) ∈ wAll := in_wA8 (List.mem_of_getElem? (i := 38) rfl)
theorem wm_359 : (.methodLink "TombstoneTextLaw" 61 yM_stamp : Cond) ∈ wAll := in_wA8 (List.mem_of_getElem? (i := 39) rfl)
theorem wm_360 : (.instanceMethod yM_stamp : Cond) ∈ wAll := in_wA9 (List.mem_of_getElem? (i := 0) rfl)
theorem wm_361 : (.selects RM yM_stamp yM_stamp : Cond) ∈ wAll := in_wA9 (List.mem_of_getElem? (i := 1) rfl)
theorem wm_362 : (.code yM_stamp cM_stamp 2 (some .int) : Cond) ∈ wAll := in_wA9 (List.mem_of_getElem? (i := 2) rfl)
theorem wm_363 : (.methodLink "TombstoneTextLaw" 74 yM_kept : Cond) ∈ wAll := in_wA9 (List.mem_of_getElem? (i := 3) rfl)
theorem wm_364 : (.instanceMethod yM_kept : Cond) ∈ wAll := in_wA9 (List.mem_of_getElem? (i := 4) rfl)
theorem wm_365 : (.selects RM yM_kept yM_kept : Cond) ∈ wAll := in_wA9 (List.mem_of_getElem? (i := 5) rfl)
theorem wm_366 : (.code yM_kept cM_kept 4 (some .int) : Cond) ∈ wAll := in_wA9 (List.mem_of_getElem? (i := 6) rfl)
theorem wm_367 : (.methodLink "TombstoneTextLaw" 78 yM_waiting : Cond) ∈ wAll := in_wA9 (List.mem_of_getElem? (i := 7) rfl)
theorem wm_368 : (.instanceMethod yM_waiting : Cond) ∈ wAll := in_wA9 (List.mem_of_getElem? (i := 8) rfl)
theorem wm_369 : (.selects RM yM_waiting yM_waiting : Cond) ∈ wAll := in_wA9 (List.mem_of_getElem? (i := 9) rfl)
theorem wm_370 : (.code yM_waiting cM_waiting 4 (some .int) : Cond) ∈ wAll := in_wA9 (List.mem_of_getElem? (i := 10) rfl)
theorem wm_371 : (.selects RL yL_putInOrder yL_putInOrder : Cond) ∈ wAll := in_wA9 (List.mem_of_getElem? (i := 11) rfl)
theorem wm_372 : (.selects RL yL_indexBehind yL_indexBehind : Cond) ∈ wAll := in_wA9 (List.mem_of_getElem? (i := 12) rfl)
theorem wm_373 : (.selects RL yL_goesFirst yL_goesFirst : Cond) ∈ wAll := in_wA9 (List.mem_of_getElem? (i := 13) rfl)
theorem wm_374 : (.selects RP yP_apply yP_apply : Cond) ∈ wAll := in_wA9 (List.mem_of_getElem? (i := 14) rfl)
theorem wm_375 : (.selects RP yP_rewriteText yP_rewriteText : Cond) ∈ wAll := in_wA9 (List.mem_of_getElem? (i := 15) rfl)
theorem wm_376 : (.selects RP yP_isReady yP_isReady : Cond) ∈ wAll := in_wA9 (List.mem_of_getElem? (i := 16) rfl)
theorem wm_377 : (.selects RP yP_markWhatMayGo yP_markWhatMayGo : Cond) ∈ wAll := in_wA9 (List.mem_of_getElem? (i := 17) rfl)
theorem wm_378 : (.selects RP yP_holdsItsTarget yP_holdsItsTarget : Cond) ∈ wAll := in_wA9 (List.mem_of_getElem? (i := 18) rfl)
theorem wm_379 : (.selects RM yM_walk yM_walk : Cond) ∈ wAll := in_wA9 (List.mem_of_getElem? (i := 19) rfl)
theorem wm_380 : (.selects RM yM_next yM_next : Cond) ∈ wAll := in_wA9 (List.mem_of_getElem? (i := 20) rfl)
theorem wm_381 : (.selects RM yM_first yM_first : Cond) ∈ wAll := in_wA9 (List.mem_of_getElem? (i := 21) rfl)
theorem wm_382 : (.selects RM yM_has yM_has : Cond) ∈ wAll := in_wA9 (List.mem_of_getElem? (i := 22) rfl)
theorem wm_383 : (.selects RM yM_sooner yM_sooner : Cond) ∈ wAll := in_wA9 (List.mem_of_getElem? (i := 23) rfl)
theorem wm_384 : (.selects RM yM_erased yM_erased : Cond) ∈ wAll := in_wA9 (List.mem_of_getElem? (i := 24) rfl)
theorem wm_385 : (.selects RM yM_issue yM_issue : Cond) ∈ wAll := in_wA9 (List.mem_of_getElem? (i := 25) rfl)
theorem wm_386 : (.selects RM yM_count yM_count : Cond) ∈ wAll := in_wA9 (List.mem_of_getElem? (i := 26) rfl)
theorem wm_387 : (.selects RM yM_isOperation yM_isOperation : Cond) ∈ wAll := in_wA9 (List.mem_of_getElem? (i := 27) rfl)
theorem wm_388 : (.selects RM yM_ready yM_ready : Cond) ∈ wAll := in_wA9 (List.mem_of_getElem? (i := 28) rfl)
theorem wm_389 : (.selects RM yM_keeps yM_keeps : Cond) ∈ wAll := in_wA9 (List.mem_of_getElem? (i := 29) rfl)
theorem wm_390 : (.selects RM yM_idle yM_idle : Cond) ∈ wAll := in_wA9 (List.mem_of_getElem? (i := 30) rfl)
theorem in_L : ∀ w ∈ u_ws RL TL 8, w ∈ wAll := by decide +kernel
theorem in_P : ∀ w ∈ u_ws RP TP 12, w ∈ wAll := by decide +kernel
theorem in_T : ∀ w ∈ u_ws RT TT 2, w ∈ wAll := by decide +kernel
theorem in_M : ∀ w ∈ u_ws RM TM 13, w ∈ wAll := by decide +kernel
theorem wAll_good : wAll.all goodWord = true := by decide +kernel
/-- links to private fields of nest mates -/
def nwF : List (String × Nat × String × String × String) := [(RP, 54, "TombstoneText$Log", "issuers", "[I"), (RT, 84, "TombstoneText$Log", "issuers", "[I"), (RT, 80, "TombstoneText$Log", "stamps", "[I"), (RP, 91, "TombstoneText$Log", "stamps", "[I"), (RP, 102, "TombstoneText$Log", "targets", "[I"), (RP, 44, "TombstoneText$Log", "characters", "[C"), (RT, 66, "TombstoneText$Log", "characters", "[C"), (RP, 111, "TombstoneText$Log", "order", "[I"), (RP, 78, "TombstoneText$Log", "count", "I"), (RT, 77, "TombstoneText$Log", "count", "I"), (RP, 108, "TombstoneText$Log", "elements", "I"), (RT, 87, "TombstoneText$Replica", "seen", "[[I"), (RT, 29, "TombstoneText$Replica", "textLength", "I"), (RT, 94, "TombstoneText$Replica", "keptCount", "I"), (RT, 97, "TombstoneText$Replica", "waitingCount", "I")]
theorem nf_0 : ((RP, 54, "TombstoneText$Log", "issuers", "[I") : String × Nat × String × String × String) ∈ nwF := List.mem_of_getElem? (i := 0) rfl
theorem nf_1 : ((RT, 84, "TombstoneText$Log", "issuers", "[I") : String × Nat × String × String × String) ∈ nwF := List.mem_of_getElem? (i := 1) rfl
theorem nf_2 : ((RT, 80, "TombstoneText$Log", "stamps", "[I") : String × Nat × String × String × String) ∈ nwF := List.mem_of_getElem? (i := 2) rfl
theorem nf_3 : ((RP, 91, "TombstoneText$Log", "stamps", "[I") : String × Nat × String × String × String) ∈ nwF := List.mem_of_getElem? (i := 3) rfl
theorem nf_4 : ((RP, 102, "TombstoneText$Log", "targets", "[I") : String × Nat × String × String × String) ∈ nwF := List.mem_of_getElem? (i := 4) rfl
theorem nf_5 : ((RP, 44, "TombstoneText$Log", "characters", "[C") : String × Nat × String × String × String) ∈ nwF := List.mem_of_getElem? (i := 5) rfl
theorem nf_6 : ((RT, 66, "TombstoneText$Log", "characters", "[C") : String × Nat × String × String × String) ∈ nwF := List.mem_of_getElem? (i := 6) rfl
theorem nf_7 : ((RP, 111, "TombstoneText$Log", "order", "[I") : String × Nat × String × String × String) ∈ nwF := List.mem_of_getElem? (i := 7) rfl
theorem nf_8 : ((RP, 78, "TombstoneText$Log", "count", "I") : String × Nat × String × String × String) ∈ nwF := List.mem_of_getElem? (i := 8) rfl
theorem nf_9 : ((RT, 77, "TombstoneText$Log", "count", "I") : String × Nat × String × String × String) ∈ nwF := List.mem_of_getElem? (i := 9) rfl
theorem nf_10 : ((RP, 108, "TombstoneText$Log", "elements", "I") : String × Nat × String × String × String) ∈ nwF := List.mem_of_getElem? (i := 10) rfl
theorem nf_11 : ((RT, 87, "TombstoneText$Replica", "seen", "[[I") : String × Nat × String × String × String) ∈ nwF := List.mem_of_getElem? (i := 11) rfl
theorem nf_12 : ((RT, 29, "TombstoneText$Replica", "textLength", "I") : String × Nat × String × String × String) ∈ nwF := List.mem_of_getElem? (i := 12) rfl
theorem nf_13 : ((RT, 94, "TombstoneText$Replica", "keptCount", "I") : String × Nat × String × String × String) ∈ nwF := List.mem_of_getElem? (i := 13) rfl
theorem nf_14 : ((RT, 97, "TombstoneText$Replica", "waitingCount", "I") : String × Nat × String × String × String) ∈ nwF := List.mem_of_getElem? (i := 14) rfl
end
section
theorem dL_init_0 : decode cL_init 0 = .ok (.aload_n 0, 1) := by decide +kernel
theorem dL_init_1 : decode cL_init 1 = .ok (.invokespecial 3, 3) := by decide +kernel
theorem dL_init_4 : decode cL_init 4 = .ok (.aload_n 0, 1) := by decide +kernel
theorem dL_init_5 : decode cL_init 5 = .ok (.bipush 100, 2) := by decide +kernel
theorem dL_init_7 : decode cL_init 7 = .ok (.newarray .int, 2) := by decide +kernel
theorem dL_init_9 : decode cL_init 9 = .ok (.putfield 9, 3) := by decide +kernel
theorem dL_init_12 : decode cL_init 12 = .ok (.aload_n 0, 1) := by decide +kernel
theorem dL_init_13 : decode cL_init 13 = .ok (.bipush 100, 2) := by decide +kernel
theorem dL_init_15 : decode cL_init 15 = .ok (.newarray .int, 2) := by decide +kernel
theorem dL_init_17 : decode cL_init 17 = .ok (.putfield 15, 3) := by decide +kernel
theorem dL_init_20 : decode cL_init 20 = .ok (.aload_n 0, 1) := by decide +kernel
theorem dL_init_21 : decode cL_init 21 = .ok (.bipush 100, 2) := by decide +kernel
theorem dL_init_23 : decode cL_init 23 = .ok (.newarray .int, 2) := by decide +kernel
theorem dL_init_25 : decode cL_init 25 = .ok (.putfield 18, 3) := by decide +kernel
theorem dL_init_28 : decode cL_init 28 = .ok (.aload_n 0, 1) := by decide +kernel
theorem dL_init_29 : decode cL_init 29 = .ok (.bipush 100, 2) := by decide +kernel
theorem dL_init_31 : decode cL_init 31 = .ok (.newarray .char, 2) := by decide +kernel
theorem dL_init_33 : decode cL_init 33 = .ok (.putfield 21, 3) := by decide +kernel
theorem dL_init_36 : decode cL_init 36 = .ok (.aload_n 0, 1) := by decide +kernel
theorem dL_init_37 : decode cL_init 37 = .ok (.sipush 300, 3) := by decide +kernel
theorem dL_init_40 : decode cL_init 40 = .ok (.newarray .int, 2) := by decide +kernel
theorem dL_init_42 : decode cL_init 42 = .ok (.putfield 25, 3) := by decide +kernel
theorem dL_init_45 : decode cL_init 45 = .ok (.aload_n 0, 1) := by decide +kernel
theorem dL_init_46 : decode cL_init 46 = .ok (.bipush 100, 2) := by decide +kernel
theorem dL_init_48 : decode cL_init 48 = .ok (.newarray .int, 2) := by decide +kernel
theorem dL_init_50 : decode cL_init 50 = .ok (.putfield 28, 3) := by decide +kernel
theorem dL_init_53 : decode cL_init 53 = .ok (.return_, 1) := by decide +kernel
theorem dL_isFull_0 : decode cL_isFull 0 = .ok (.aload_n 0, 1) := by decide +kernel
theorem dL_isFull_1 : decode cL_isFull 1 = .ok (.getfield 31, 3) := by decide +kernel
theorem dL_isFull_4 : decode cL_isFull 4 = .ok (.bipush 100, 2) := by decide +kernel
theorem dL_isFull_6 : decode cL_isFull 6 = .ok (.if_icmp .lt 7, 3) := by decide +kernel
theorem dL_isFull_9 : decode cL_isFull 9 = .ok (.iconst 1, 1) := by decide +kernel
theorem dL_isFull_10 : decode cL_isFull 10 = .ok (.goto 4, 3) := by decide +kernel
theorem dL_isFull_13 : decode cL_isFull 13 = .ok (.iconst 0, 1) := by decide +kernel
theorem dL_isFull_14 : decode cL_isFull 14 = .ok (.ireturn, 1) := by decide +kernel
theorem dL_record_0 : decode cL_record 0 = .ok (.aload_n 0, 1) := by decide +kernel
theorem dL_record_1 : decode cL_record 1 = .ok (.getfield 31, 3) := by decide +kernel
theorem dL_record_4 : decode cL_record 4 = .ok (.istore 6, 2) := by decide +kernel
theorem dL_record_6 : decode cL_record 6 = .ok (.aload_n 0, 1) := by decide +kernel
theorem dL_record_7 : decode cL_record 7 = .ok (.dup, 1) := by decide +kernel
theorem dL_record_8 : decode cL_record 8 = .ok (.getfield 31, 3) := by decide +kernel
theorem dL_record_11 : decode cL_record 11 = .ok (.iconst 1, 1) := by decide +kernel
theorem dL_record_12 : decode cL_record 12 = .ok (.iadd, 1) := by decide +kernel
theorem dL_record_13 : decode cL_record 13 = .ok (.putfield 31, 3) := by decide +kernel
theorem dL_record_16 : decode cL_record 16 = .ok (.aload_n 0, 1) := by decide +kernel
theorem dL_record_17 : decode cL_record 17 = .ok (.getfield 9, 3) := by decide +kernel
theorem dL_record_20 : decode cL_record 20 = .ok (.iload 6, 2) := by decide +kernel
theorem dL_record_22 : decode cL_record 22 = .ok (.iload_n 1, 1) := by decide +kernel
theorem dL_record_23 : decode cL_record 23 = .ok (.iastore, 1) := by decide +kernel
theorem dL_record_24 : decode cL_record 24 = .ok (.aload_n 0, 1) := by decide +kernel
theorem dL_record_25 : decode cL_record 25 = .ok (.getfield 15, 3) := by decide +kernel
theorem dL_record_28 : decode cL_record 28 = .ok (.iload 6, 2) := by decide +kernel
theorem dL_record_30 : decode cL_record 30 = .ok (.iload_n 2, 1) := by decide +kernel
theorem dL_record_31 : decode cL_record 31 = .ok (.iastore, 1) := by decide +kernel
theorem dL_record_32 : decode cL_record 32 = .ok (.aload_n 0, 1) := by decide +kernel
theorem dL_record_33 : decode cL_record 33 = .ok (.getfield 18, 3) := by decide +kernel
theorem dL_record_36 : decode cL_record 36 = .ok (.iload 6, 2) := by decide +kernel
theorem dL_record_38 : decode cL_record 38 = .ok (.iload 4, 2) := by decide +kernel
theorem dL_record_40 : decode cL_record 40 = .ok (.iastore, 1) := by decide +kernel
theorem dL_record_41 : decode cL_record 41 = .ok (.aload_n 0, 1) := by decide +kernel
theorem dL_record_42 : decode cL_record 42 = .ok (.getfield 21, 3) := by decide +kernel
theorem dL_record_45 : decode cL_record 45 = .ok (.iload 6, 2) := by decide +kernel
theorem dL_record_47 : decode cL_record 47 = .ok (.iload 5, 2) := by decide +kernel
theorem dL_record_49 : decode cL_record 49 = .ok (.castore, 1) := by decide +kernel
theorem dL_record_50 : decode cL_record 50 = .ok (.iconst 0, 1) := by decide +kernel
theorem dL_record_51 : decode cL_record 51 = .ok (.istore 7, 2) := by decide +kernel
theorem dL_record_53 : decode cL_record 53 = .ok (.iload 7, 2) := by decide +kernel
theorem dL_record_55 : decode cL_record 55 = .ok (.iconst 3, 1) := by decide +kernel
theorem dL_record_56 : decode cL_record 56 = .ok (.if_icmp .ge 37, 3) := by decide +kernel
theorem dL_record_59 : decode cL_record 59 = .ok (.aload_n 0, 1) := by decide +kernel
theorem dL_record_60 : decode cL_record 60 = .ok (.getfield 25, 3) := by decide +kernel
theorem dL_record_63 : decode cL_record 63 = .ok (.iload 6, 2) := by decide +kernel
theorem dL_record_65 : decode cL_record 65 = .ok (.iconst 3, 1) := by decide +kernel
theorem dL_record_66 : decode cL_record 66 = .ok (.imul, 1) := by decide +kernel
theorem dL_record_67 : decode cL_record 67 = .ok (.iload 7, 2) := by decide +kernel
theorem dL_record_69 : decode cL_record 69 = .ok (.iadd, 1) := by decide +kernel
theorem dL_record_70 : decode cL_record 70 = .ok (.aload_n 3, 1) := by decide +kernel
theorem dL_record_71 : decode cL_record 71 = .ok (.iload 7, 2) := by decide +kernel
theorem dL_record_73 : decode cL_record 73 = .ok (.iaload, 1) := by decide +kernel
theorem dL_record_74 : decode cL_record 74 = .ok (.iload 7, 2) := by decide +kernel
theorem dL_record_76 : decode cL_record 76 = .ok (.iload_n 1, 1) := by decide +kernel
theorem dL_record_77 : decode cL_record 77 = .ok (.if_icmp .ne 7, 3) := by decide +kernel
theorem dL_record_80 : decode cL_record 80 = .ok (.iconst 1, 1) := by decide +kernel
theorem dL_record_81 : decode cL_record 81 = .ok (.goto 4, 3) := by decide +kernel
theorem dL_record_84 : decode cL_record 84 = .ok (.iconst 0, 1) := by decide +kernel
theorem dL_record_85 : decode cL_record 85 = .ok (.iadd, 1) := by decide +kernel
theorem dL_record_86 : decode cL_record 86 = .ok (.iastore, 1) := by decide +kernel
theorem dL_record_87 : decode cL_record 87 = .ok (.iinc 7 1, 3) := by decide +kernel
theorem dL_record_90 : decode cL_record 90 = .ok (.goto (-37), 3) := by decide +kernel
theorem dL_record_93 : decode cL_record 93 = .ok (.iload 5, 2) := by decide +kernel
theorem dL_record_95 : decode cL_record 95 = .ok (.ifCond .eq 9, 3) := by decide +kernel
theorem dL_record_98 : decode cL_record 98 = .ok (.aload_n 0, 1) := by decide +kernel
theorem dL_record_99 : decode cL_record 99 = .ok (.iload 6, 2) := by decide +kernel
theorem dL_record_101 : decode cL_record 101 = .ok (.invokevirtual 39, 3) := by decide +kernel
theorem dL_record_104 : decode cL_record 104 = .ok (.iload 6, 2) := by decide +kernel
theorem dL_record_106 : decode cL_record 106 = .ok (.ireturn, 1) := by decide +kernel
theorem dL_putInOrder_0 : decode cL_putInOrder 0 = .ok (.aload_n 0, 1) := by decide +kernel
theorem dL_putInOrder_1 : decode cL_putInOrder 1 = .ok (.aload_n 0, 1) := by decide +kernel
theorem dL_putInOrder_2 : decode cL_putInOrder 2 = .ok (.getfield 18, 3) := by decide +kernel
theorem dL_putInOrder_5 : decode cL_putInOrder 5 = .ok (.iload_n 1, 1) := by decide +kernel
theorem dL_putInOrder_6 : decode cL_putInOrder 6 = .ok (.iaload, 1) := by decide +kernel
theorem dL_putInOrder_7 : decode cL_putInOrder 7 = .ok (.invokevirtual 43, 3) := by decide +kernel
theorem dL_putInOrder_10 : decode cL_putInOrder 10 = .ok (.istore_n 2, 1) := by decide +kernel
theorem dL_putInOrder_11 : decode cL_putInOrder 11 = .ok (.iload_n 2, 1) := by decide +kernel
theorem dL_putInOrder_12 : decode cL_putInOrder 12 = .ok (.aload_n 0, 1) := by decide +kernel
theorem dL_putInOrder_13 : decode cL_putInOrder 13 = .ok (.getfield 47, 3) := by decide +kernel
theorem dL_putInOrder_16 : decode cL_putInOrder 16 = .ok (.if_icmp .ge 23, 3) := by decide +kernel
theorem dL_putInOrder_19 : decode cL_putInOrder 19 = .ok (.aload_n 0, 1) := by decide +kernel
theorem dL_putInOrder_20 : decode cL_putInOrder 20 = .ok (.aload_n 0, 1) := by decide +kernel
theorem dL_putInOrder_21 : decode cL_putInOrder 21 = .ok (.getfield 28, 3) := by decide +kernel
theorem dL_putInOrder_24 : decode cL_putInOrder 24 = .ok (.iload_n 2, 1) := by decide +kernel
theorem dL_putInOrder_25 : decode cL_putInOrder 25 = .ok (.iaload, 1) := by decide +kernel
theorem dL_putInOrder_26 : decode cL_putInOrder 26 = .ok (.iload_n 1, 1) := by decide +kernel
theorem dL_putInOrder_27 : decode cL_putInOrder 27 = .ok (.invokevirtual 50, 3) := by decide +kernel
theorem dL_putInOrder_30 : decode cL_putInOrder 30 = .ok (.ifCond .eq 9, 3) := by decide +kernel
theorem dL_putInOrder_33 : decode cL_putInOrder 33 = .ok (.iinc 2 1, 3) := by decide +kernel
theorem dL_putInOrder_36 : decode cL_putInOrder 36 = .ok (.goto (-25), 3) := by decide +kernel
theorem dL_putInOrder_39 : decode cL_putInOrder 39 = .ok (.aload_n 0, 1) := by decide +kernel
theorem dL_putInOrder_40 : decode cL_putInOrder 40 = .ok (.getfield 47, 3) := by decide +kernel
theorem dL_putInOrder_43 : decode cL_putInOrder 43 = .ok (.istore_n 3, 1) := by decide +kernel
theorem dL_putInOrder_44 : decode cL_putInOrder 44 = .ok (.iload_n 3, 1) := by decide +kernel
theorem dL_putInOrder_45 : decode cL_putInOrder 45 = .ok (.iload_n 2, 1) := by decide +kernel
theorem dL_putInOrder_46 : decode cL_putInOrder 46 = .ok (.if_icmp .le 23, 3) := by decide +kernel
theorem dL_putInOrder_49 : decode cL_putInOrder 49 = .ok (.aload_n 0, 1) := by decide +kernel
theorem dL_putInOrder_50 : decode cL_putInOrder 50 = .ok (.getfield 28, 3) := by decide +kernel
theorem dL_putInOrder_53 : decode cL_putInOrder 53 = .ok (.iload_n 3, 1) := by decide +kernel
theorem dL_putInOrder_54 : decode cL_putInOrder 54 = .ok (.aload_n 0, 1) := by decide +kernel
theorem dL_putInOrder_55 : decode cL_putInOrder 55 = .ok (.getfield 28, 3) := by decide +kernel
theorem dL_putInOrder_58 : decode cL_putInOrder 58 = .ok (.iload_n 3, 1) := by decide +kernel
theorem dL_putInOrder_59 : decode cL_putInOrder 59 = .ok (.iconst 1, 1) := by decide +kernel
theorem dL_putInOrder_60 : decode cL_putInOrder 60 = .ok (.isub, 1) := by decide +kernel
theorem dL_putInOrder_61 : decode cL_putInOrder 61 = .ok (.iaload, 1) := by decide +kernel
theorem dL_putInOrder_62 : decode cL_putInOrder 62 = .ok (.iastore, 1) := by decide +kernel
theorem dL_putInOrder_63 : decode cL_putInOrder 63 = .ok (.iinc 3 (-1), 3) := by decide +kernel
theorem dL_putInOrder_66 : decode cL_putInOrder 66 = .ok (.goto (-22), 3) := by decide +kernel
theorem dL_putInOrder_69 : decode cL_putInOrder 69 = .ok (.aload_n 0, 1) := by decide +kernel
theorem dL_putInOrder_70 : decode cL_putInOrder 70 = .ok (.getfield 28, 3) := by decide +kernel
theorem dL_putInOrder_73 : decode cL_putInOrder 73 = .ok (.iload_n 2, 1) := by decide +kernel
theorem dL_putInOrder_74 : decode cL_putInOrder 74 = .ok (.iload_n 1, 1) := by decide +kernel
theorem dL_putInOrder_75 : decode cL_putInOrder 75 = .ok (.iastore, 1) := by decide +kernel
theorem dL_putInOrder_76 : decode cL_putInOrder 76 = .ok (.aload_n 0, 1) := by decide +kernel
theorem dL_putInOrder_77 : decode cL_putInOrder 77 = .ok (.dup, 1) := by decide +kernel
theorem dL_putInOrder_78 : decode cL_putInOrder 78 = .ok (.getfield 47, 3) := by decide +kernel
theorem dL_putInOrder_81 : decode cL_putInOrder 81 = .ok (.iconst 1, 1) := by decide +kernel
theorem dL_putInOrder_82 : decode cL_putInOrder 82 = .ok (.iadd, 1) := by decide +kernel
theorem dL_putInOrder_83 : decode cL_putInOrder 83 = .ok (.putfield 47, 3) := by decide +kernel
theorem dL_putInOrder_86 : decode cL_putInOrder 86 = .ok (.return_, 1) := by decide +kernel
theorem dL_indexBehind_0 : decode cL_indexBehind 0 = .ok (.iconst 0, 1) := by decide +kernel
theorem dL_indexBehind_1 : decode cL_indexBehind 1 = .ok (.istore_n 2, 1) := by decide +kernel
theorem dL_indexBehind_2 : decode cL_indexBehind 2 = .ok (.iload_n 1, 1) := by decide +kernel
theorem dL_indexBehind_3 : decode cL_indexBehind 3 = .ok (.iconst (-1), 1) := by decide +kernel
theorem dL_indexBehind_4 : decode cL_indexBehind 4 = .ok (.if_icmp .eq 38, 3) := by decide +kernel
theorem dL_indexBehind_7 : decode cL_indexBehind 7 = .ok (.iload_n 2, 1) := by decide +kernel
theorem dL_indexBehind_8 : decode cL_indexBehind 8 = .ok (.aload_n 0, 1) := by decide +kernel
theorem dL_indexBehind_9 : decode cL_indexBehind 9 = .ok (.getfield 47, 3) := by decide +kernel
theorem dL_indexBehind_12 : decode cL_indexBehind 12 = .ok (.if_icmp .ge 19, 3) := by decide +kernel
theorem dL_indexBehind_15 : decode cL_indexBehind 15 = .ok (.aload_n 0, 1) := by decide +kernel
theorem dL_indexBehind_16 : decode cL_indexBehind 16 = .ok (.getfield 28, 3) := by decide +kernel
theorem dL_indexBehind_19 : decode cL_indexBehind 19 = .ok (.iload_n 2, 1) := by decide +kernel
theorem dL_indexBehind_20 : decode cL_indexBehind 20 = .ok (.iaload, 1) := by decide +kernel
theorem dL_indexBehind_21 : decode cL_indexBehind 21 = .ok (.iload_n 1, 1) := by decide +kernel
theorem dL_indexBehind_22 : decode cL_indexBehind 22 = .ok (.if_icmp .eq 9, 3) := by decide +kernel
theorem dL_indexBehind_25 : decode cL_indexBehind 25 = .ok (.iinc 2 1, 3) := by decide +kernel
theorem dL_indexBehind_28 : decode cL_indexBehind 28 = .ok (.goto (-21), 3) := by decide +kernel
theorem dL_indexBehind_31 : decode cL_indexBehind 31 = .ok (.iload_n 2, 1) := by decide +kernel
theorem dL_indexBehind_32 : decode cL_indexBehind 32 = .ok (.iconst 1, 1) := by decide +kernel
theorem dL_indexBehind_33 : decode cL_indexBehind 33 = .ok (.iadd, 1) := by decide +kernel
theorem dL_indexBehind_34 : decode cL_indexBehind 34 = .ok (.aload_n 0, 1) := by decide +kernel
theorem dL_indexBehind_35 : decode cL_indexBehind 35 = .ok (.getfield 47, 3) := by decide +kernel
theorem dL_indexBehind_38 : decode cL_indexBehind 38 = .ok (.invokestatic 54, 3) := by decide +kernel
theorem dL_indexBehind_41 : decode cL_indexBehind 41 = .ok (.istore_n 2, 1) := by decide +kernel
theorem dL_indexBehind_42 : decode cL_indexBehind 42 = .ok (.iload_n 2, 1) := by decide +kernel
theorem dL_indexBehind_43 : decode cL_indexBehind 43 = .ok (.ireturn, 1) := by decide +kernel
theorem dL_goesFirst_0 : decode cL_goesFirst 0 = .ok (.aload_n 0, 1) := by decide +kernel
theorem dL_goesFirst_1 : decode cL_goesFirst 1 = .ok (.getfield 15, 3) := by decide +kernel
theorem dL_goesFirst_4 : decode cL_goesFirst 4 = .ok (.iload_n 1, 1) := by decide +kernel
theorem dL_goesFirst_5 : decode cL_goesFirst 5 = .ok (.iaload, 1) := by decide +kernel
theorem dL_goesFirst_6 : decode cL_goesFirst 6 = .ok (.aload_n 0, 1) := by decide +kernel
theorem dL_goesFirst_7 : decode cL_goesFirst 7 = .ok (.getfield 15, 3) := by decide +kernel
theorem dL_goesFirst_10 : decode cL_goesFirst 10 = .ok (.iload_n 2, 1) := by decide +kernel
theorem dL_goesFirst_11 : decode cL_goesFirst 11 = .ok (.iaload, 1) := by decide +kernel
theorem dL_goesFirst_12 : decode cL_goesFirst 12 = .ok (.if_icmp .eq 24, 3) := by decide +kernel
theorem dL_goesFirst_15 : decode cL_goesFirst 15 = .ok (.aload_n 0, 1) := by decide +kernel
theorem dL_goesFirst_16 : decode cL_goesFirst 16 = .ok (.getfield 15, 3) := by decide +kernel
theorem dL_goesFirst_19 : decode cL_goesFirst 19 = .ok (.iload_n 1, 1) := by decide +kernel
theorem dL_goesFirst_20 : decode cL_goesFirst 20 = .ok (.iaload, 1) := by decide +kernel
theorem dL_goesFirst_21 : decode cL_goesFirst 21 = .ok (.aload_n 0, 1) := by decide +kernel
theorem dL_goesFirst_22 : decode cL_goesFirst 22 = .ok (.getfield 15, 3) := by decide +kernel
theorem dL_goesFirst_25 : decode cL_goesFirst 25 = .ok (.iload_n 2, 1) := by decide +kernel
theorem dL_goesFirst_26 : decode cL_goesFirst 26 = .ok (.iaload, 1) := by decide +kernel
theorem dL_goesFirst_27 : decode cL_goesFirst 27 = .ok (.if_icmp .le 7, 3) := by decide +kernel
theorem dL_goesFirst_30 : decode cL_goesFirst 30 = .ok (.iconst 1, 1) := by decide +kernel
theorem dL_goesFirst_31 : decode cL_goesFirst 31 = .ok (.goto 4, 3) := by decide +kernel
theorem dL_goesFirst_34 : decode cL_goesFirst 34 = .ok (.iconst 0, 1) := by decide +kernel
theorem dL_goesFirst_35 : decode cL_goesFirst 35 = .ok (.ireturn, 1) := by decide +kernel
theorem dL_goesFirst_36 : decode cL_goesFirst 36 = .ok (.aload_n 0, 1) := by decide +kernel
theorem dL_goesFirst_37 : decode cL_goesFirst 37 = .ok (.getfield 9, 3) := by decide +kernel
theorem dL_goesFirst_40 : decode cL_goesFirst 40 = .ok (.iload_n 1, 1) := by decide +kernel
theorem dL_goesFirst_41 : decode cL_goesFirst 41 = .ok (.iaload, 1) := by decide +kernel
theorem dL_goesFirst_42 : decode cL_goesFirst 42 = .ok (.aload_n 0, 1) := by decide +kernel
theorem dL_goesFirst_43 : decode cL_goesFirst 43 = .ok (.getfield 9, 3) := by decide +kernel
theorem dL_goesFirst_46 : decode cL_goesFirst 46 = .ok (.iload_n 2, 1) := by decide +kernel
theorem dL_goesFirst_47 : decode cL_goesFirst 47 = .ok (.iaload, 1) := by decide +kernel
theorem dL_goesFirst_48 : decode cL_goesFirst 48 = .ok (.if_icmp .le 7, 3) := by decide +kernel
theorem dL_goesFirst_51 : decode cL_goesFirst 51 = .ok (.iconst 1, 1) := by decide +kernel
theorem dL_goesFirst_52 : decode cL_goesFirst 52 = .ok (.goto 4, 3) := by decide +kernel
theorem dL_goesFirst_55 : decode cL_goesFirst 55 = .ok (.iconst 0, 1) := by decide +kernel
theorem dL_goesFirst_56 : decode cL_goesFirst 56 = .ok (.ireturn, 1) := by decide +kernel
theorem dL_clockOf_0 : decode cL_clockOf 0 = .ok (.aload_n 0, 1) := by decide +kernel
theorem dL_clockOf_1 : decode cL_clockOf 1 = .ok (.getfield 25, 3) := by decide +kernel
theorem dL_clockOf_4 : decode cL_clockOf 4 = .ok (.iload_n 1, 1) := by decide +kernel
theorem dL_clockOf_5 : decode cL_clockOf 5 = .ok (.iconst 3, 1) := by decide +kernel
theorem dL_clockOf_6 : decode cL_clockOf 6 = .ok (.imul, 1) := by decide +kernel
theorem dL_clockOf_7 : decode cL_clockOf 7 = .ok (.iload_n 2, 1) := by decide +kernel
theorem dL_clockOf_8 : decode cL_clockOf 8 = .ok (.iadd, 1) := by decide +kernel
theorem dL_clockOf_9 : decode cL_clockOf 9 = .ok (.iaload, 1) := by decide +kernel
theorem dL_clockOf_10 : decode cL_clockOf 10 = .ok (.ireturn, 1) := by decide +kernel
theorem dL_placeInLine_0 : decode cL_placeInLine 0 = .ok (.aload_n 0, 1) := by decide +kernel
theorem dL_placeInLine_1 : decode cL_placeInLine 1 = .ok (.iload_n 1, 1) := by decide +kernel
theorem dL_placeInLine_2 : decode cL_placeInLine 2 = .ok (.aload_n 0, 1) := by decide +kernel
theorem dL_placeInLine_3 : decode cL_placeInLine 3 = .ok (.getfield 9, 3) := by decide +kernel
theorem dL_placeInLine_6 : decode cL_placeInLine 6 = .ok (.iload_n 1, 1) := by decide +kernel
theorem dL_placeInLine_7 : decode cL_placeInLine 7 = .ok (.iaload, 1) := by decide +kernel
theorem dL_placeInLine_8 : decode cL_placeInLine 8 = .ok (.invokevirtual 35, 3) := by decide +kernel
theorem dL_placeInLine_11 : decode cL_placeInLine 11 = .ok (.ireturn, 1) := by decide +kernel
theorem dL_isErase_0 : decode cL_isErase 0 = .ok (.aload_n 0, 1) := by decide +kernel
theorem dL_isErase_1 : decode cL_isErase 1 = .ok (.getfield 21, 3) := by decide +kernel
theorem dL_isErase_4 : decode cL_isErase 4 = .ok (.iload_n 1, 1) := by decide +kernel
theorem dL_isErase_5 : decode cL_isErase 5 = .ok (.caload, 1) := by decide +kernel
theorem dL_isErase_6 : decode cL_isErase 6 = .ok (.ifCond .ne 7, 3) := by decide +kernel
theorem dL_isErase_9 : decode cL_isErase 9 = .ok (.iconst 1, 1) := by decide +kernel
theorem dL_isErase_10 : decode cL_isErase 10 = .ok (.goto 4, 3) := by decide +kernel
theorem dL_isErase_13 : decode cL_isErase 13 = .ok (.iconst 0, 1) := by decide +kernel
theorem dL_isErase_14 : decode cL_isErase 14 = .ok (.ireturn, 1) := by decide +kernel
theorem dL_isIssued_0 : decode cL_isIssued 0 = .ok (.iload_n 1, 1) := by decide +kernel
theorem dL_isIssued_1 : decode cL_isIssued 1 = .ok (.ifCond .lt 15, 3) := by decide +kernel
theorem dL_isIssued_4 : decode cL_isIssued 4 = .ok (.iload_n 1, 1) := by decide +kernel
theorem dL_isIssued_5 : decode cL_isIssued 5 = .ok (.aload_n 0, 1) := by decide +kernel
theorem dL_isIssued_6 : decode cL_isIssued 6 = .ok (.getfield 31, 3) := by decide +kernel
theorem dL_isIssued_9 : decode cL_isIssued 9 = .ok (.if_icmp .ge 7, 3) := by decide +kernel
theorem dL_isIssued_12 : decode cL_isIssued 12 = .ok (.iconst 1, 1) := by decide +kernel
theorem dL_isIssued_13 : decode cL_isIssued 13 = .ok (.goto 4, 3) := by decide +kernel
theorem dL_isIssued_16 : decode cL_isIssued 16 = .ok (.iconst 0, 1) := by decide +kernel
theorem dL_isIssued_17 : decode cL_isIssued 17 = .ok (.ireturn, 1) := by decide +kernel
end
section
theorem dM_init_0 : decode cM_init 0 = .ok (.aload_n 0, 1) := by decide +kernel
theorem dM_init_1 : decode cM_init 1 = .ok (.invokespecial 1, 3) := by decide +kernel
theorem dM_init_4 : decode cM_init 4 = .ok (.aload_n 0, 1) := by decide +kernel
theorem dM_init_5 : decode cM_init 5 = .ok (.bipush 100, 2) := by decide +kernel
theorem dM_init_7 : decode cM_init 7 = .ok (.newarray .int, 2) := by decide +kernel
theorem dM_init_9 : decode cM_init 9 = .ok (.putfield 7, 3) := by decide +kernel
theorem dM_init_12 : decode cM_init 12 = .ok (.aload_n 0, 1) := by decide +kernel
theorem dM_init_13 : decode cM_init 13 = .ok (.bipush 100, 2) := by decide +kernel
theorem dM_init_15 : decode cM_init 15 = .ok (.newarray .int, 2) := by decide +kernel
theorem dM_init_17 : decode cM_init 17 = .ok (.putfield 13, 3) := by decide +kernel
theorem dM_init_20 : decode cM_init 20 = .ok (.aload_n 0, 1) := by decide +kernel
theorem dM_init_21 : decode cM_init 21 = .ok (.bipush 100, 2) := by decide +kernel
theorem dM_init_23 : decode cM_init 23 = .ok (.newarray .int, 2) := by decide +kernel
theorem dM_init_25 : decode cM_init 25 = .ok (.putfield 16, 3) := by decide +kernel
theorem dM_init_28 : decode cM_init 28 = .ok (.aload_n 0, 1) := by decide +kernel
theorem dM_init_29 : decode cM_init 29 = .ok (.bipush 100, 2) := by decide +kernel
theorem dM_init_31 : decode cM_init 31 = .ok (.newarray .int, 2) := by decide +kernel
theorem dM_init_33 : decode cM_init 33 = .ok (.putfield 19, 3) := by decide +kernel
theorem dM_init_36 : decode cM_init 36 = .ok (.aload_n 0, 1) := by decide +kernel
theorem dM_init_37 : decode cM_init 37 = .ok (.bipush 100, 2) := by decide +kernel
theorem dM_init_39 : decode cM_init 39 = .ok (.newarray .int, 2) := by decide +kernel
theorem dM_init_41 : decode cM_init 41 = .ok (.putfield 22, 3) := by decide +kernel
theorem dM_init_44 : decode cM_init 44 = .ok (.aload_n 0, 1) := by decide +kernel
theorem dM_init_45 : decode cM_init 45 = .ok (.sipush 300, 3) := by decide +kernel
theorem dM_init_48 : decode cM_init 48 = .ok (.newarray .int, 2) := by decide +kernel
theorem dM_init_50 : decode cM_init 50 = .ok (.putfield 25, 3) := by decide +kernel
theorem dM_init_53 : decode cM_init 53 = .ok (.aload_n 0, 1) := by decide +kernel
theorem dM_init_54 : decode cM_init 54 = .ok (.sipush 300, 3) := by decide +kernel
theorem dM_init_57 : decode cM_init 57 = .ok (.newarray .boolean, 2) := by decide +kernel
theorem dM_init_59 : decode cM_init 59 = .ok (.putfield 28, 3) := by decide +kernel
theorem dM_init_62 : decode cM_init 62 = .ok (.aload_n 0, 1) := by decide +kernel
theorem dM_init_63 : decode cM_init 63 = .ok (.sipush 300, 3) := by decide +kernel
theorem dM_init_66 : decode cM_init 66 = .ok (.newarray .boolean, 2) := by decide +kernel
theorem dM_init_68 : decode cM_init 68 = .ok (.putfield 32, 3) := by decide +kernel
theorem dM_init_71 : decode cM_init 71 = .ok (.aload_n 0, 1) := by decide +kernel
theorem dM_init_72 : decode cM_init 72 = .ok (.sipush 300, 3) := by decide +kernel
theorem dM_init_75 : decode cM_init 75 = .ok (.newarray .boolean, 2) := by decide +kernel
theorem dM_init_77 : decode cM_init 77 = .ok (.putfield 35, 3) := by decide +kernel
theorem dM_init_80 : decode cM_init 80 = .ok (.aload_n 0, 1) := by decide +kernel
theorem dM_init_81 : decode cM_init 81 = .ok (.bipush 100, 2) := by decide +kernel
theorem dM_init_83 : decode cM_init 83 = .ok (.newarray .int, 2) := by decide +kernel
theorem dM_init_85 : decode cM_init 85 = .ok (.putfield 38, 3) := by decide +kernel
theorem dM_init_88 : decode cM_init 88 = .ok (.aload_n 0, 1) := by decide +kernel
theorem dM_init_89 : decode cM_init 89 = .ok (.bipush 100, 2) := by decide +kernel
theorem dM_init_91 : decode cM_init 91 = .ok (.newarray .int, 2) := by decide +kernel
theorem dM_init_93 : decode cM_init 93 = .ok (.putfield 41, 3) := by decide +kernel
theorem dM_init_96 : decode cM_init 96 = .ok (.return_, 1) := by decide +kernel
theorem dM_insert_0 : decode cM_insert 0 = .ok (.iload_n 1, 1) := by decide +kernel
theorem dM_insert_1 : decode cM_insert 1 = .ok (.invokestatic 72, 3) := by decide +kernel
theorem dM_insert_4 : decode cM_insert 4 = .ok (.ifCond .eq 15, 3) := by decide +kernel
theorem dM_insert_7 : decode cM_insert 7 = .ok (.iload_n 3, 1) := by decide +kernel
theorem dM_insert_8 : decode cM_insert 8 = .ok (.bipush 32, 2) := by decide +kernel
theorem dM_insert_10 : decode cM_insert 10 = .ok (.if_icmp .lt 9, 3) := by decide +kernel
theorem dM_insert_13 : decode cM_insert 13 = .ok (.iload_n 3, 1) := by decide +kernel
theorem dM_insert_14 : decode cM_insert 14 = .ok (.bipush 126, 2) := by decide +kernel
theorem dM_insert_16 : decode cM_insert 16 = .ok (.if_icmp .le 5, 3) := by decide +kernel
theorem dM_insert_19 : decode cM_insert 19 = .ok (.iconst (-1), 1) := by decide +kernel
theorem dM_insert_20 : decode cM_insert 20 = .ok (.ireturn, 1) := by decide +kernel
theorem dM_insert_21 : decode cM_insert 21 = .ok (.aload_n 0, 1) := by decide +kernel
theorem dM_insert_22 : decode cM_insert 22 = .ok (.iload_n 1, 1) := by decide +kernel
theorem dM_insert_23 : decode cM_insert 23 = .ok (.invokevirtual 76, 3) := by decide +kernel
theorem dM_insert_26 : decode cM_insert 26 = .ok (.iload_n 2, 1) := by decide +kernel
theorem dM_insert_27 : decode cM_insert 27 = .ok (.ifCond .lt 11, 3) := by decide +kernel
theorem dM_insert_30 : decode cM_insert 30 = .ok (.iload_n 2, 1) := by decide +kernel
theorem dM_insert_31 : decode cM_insert 31 = .ok (.aload_n 0, 1) := by decide +kernel
theorem dM_insert_32 : decode cM_insert 32 = .ok (.getfield 59, 3) := by decide +kernel
theorem dM_insert_35 : decode cM_insert 35 = .ok (.if_icmp .le 5, 3) := by decide +kernel
theorem dM_insert_38 : decode cM_insert 38 = .ok (.iconst (-1), 1) := by decide +kernel
theorem dM_insert_39 : decode cM_insert 39 = .ok (.ireturn, 1) := by decide +kernel
theorem dM_insert_40 : decode cM_insert 40 = .ok (.aload_n 0, 1) := by decide +kernel
theorem dM_insert_41 : decode cM_insert 41 = .ok (.getfield 44, 3) := by decide +kernel
theorem dM_insert_44 : decode cM_insert 44 = .ok (.bipush 100, 2) := by decide +kernel
theorem dM_insert_46 : decode cM_insert 46 = .ok (.if_icmp .ne 6, 3) := by decide +kernel
theorem dM_insert_49 : decode cM_insert 49 = .ok (.bipush (-2), 2) := by decide +kernel
theorem dM_insert_51 : decode cM_insert 51 = .ok (.ireturn, 1) := by decide +kernel
theorem dM_insert_52 : decode cM_insert 52 = .ok (.aload_n 0, 1) := by decide +kernel
theorem dM_insert_53 : decode cM_insert 53 = .ok (.iload_n 1, 1) := by decide +kernel
theorem dM_insert_54 : decode cM_insert 54 = .ok (.iload_n 3, 1) := by decide +kernel
theorem dM_insert_55 : decode cM_insert 55 = .ok (.iload_n 2, 1) := by decide +kernel
theorem dM_insert_56 : decode cM_insert 56 = .ok (.ifCond .ne 7, 3) := by decide +kernel
theorem dM_insert_59 : decode cM_insert 59 = .ok (.iconst (-1), 1) := by decide +kernel
theorem dM_insert_60 : decode cM_insert 60 = .ok (.goto 11, 3) := by decide +kernel
theorem dM_insert_63 : decode cM_insert 63 = .ok (.aload_n 0, 1) := by decide +kernel
theorem dM_insert_64 : decode cM_insert 64 = .ok (.getfield 38, 3) := by decide +kernel
theorem dM_insert_67 : decode cM_insert 67 = .ok (.iload_n 2, 1) := by decide +kernel
theorem dM_insert_68 : decode cM_insert 68 = .ok (.iconst 1, 1) := by decide +kernel
theorem dM_insert_69 : decode cM_insert 69 = .ok (.isub, 1) := by decide +kernel
theorem dM_insert_70 : decode cM_insert 70 = .ok (.iaload, 1) := by decide +kernel
theorem dM_insert_71 : decode cM_insert 71 = .ok (.invokevirtual 80, 3) := by decide +kernel
theorem dM_insert_74 : decode cM_insert 74 = .ok (.ireturn, 1) := by decide +kernel
theorem dM_isReplica_0 : decode cM_isReplica 0 = .ok (.iload_n 0, 1) := by decide +kernel
theorem dM_isReplica_1 : decode cM_isReplica 1 = .ok (.ifCond .lt 12, 3) := by decide +kernel
theorem dM_isReplica_4 : decode cM_isReplica 4 = .ok (.iload_n 0, 1) := by decide +kernel
theorem dM_isReplica_5 : decode cM_isReplica 5 = .ok (.iconst 3, 1) := by decide +kernel
theorem dM_isReplica_6 : decode cM_isReplica 6 = .ok (.if_icmp .ge 7, 3) := by decide +kernel
theorem dM_isReplica_9 : decode cM_isReplica 9 = .ok (.iconst 1, 1) := by decide +kernel
theorem dM_isReplica_10 : decode cM_isReplica 10 = .ok (.goto 4, 3) := by decide +kernel
theorem dM_isReplica_13 : decode cM_isReplica 13 = .ok (.iconst 0, 1) := by decide +kernel
theorem dM_isReplica_14 : decode cM_isReplica 14 = .ok (.ireturn, 1) := by decide +kernel
theorem dM_walk_0 : decode cM_walk 0 = .ok (.aload_n 0, 1) := by decide +kernel
theorem dM_walk_1 : decode cM_walk 1 = .ok (.iconst 0, 1) := by decide +kernel
theorem dM_walk_2 : decode cM_walk 2 = .ok (.putfield 59, 3) := by decide +kernel
theorem dM_walk_5 : decode cM_walk 5 = .ok (.aload_n 0, 1) := by decide +kernel
theorem dM_walk_6 : decode cM_walk 6 = .ok (.iload_n 1, 1) := by decide +kernel
theorem dM_walk_7 : decode cM_walk 7 = .ok (.iconst (-1), 1) := by decide +kernel
theorem dM_walk_8 : decode cM_walk 8 = .ok (.invokevirtual 62, 3) := by decide +kernel
theorem dM_walk_11 : decode cM_walk 11 = .ok (.istore_n 2, 1) := by decide +kernel
theorem dM_walk_12 : decode cM_walk 12 = .ok (.iload_n 2, 1) := by decide +kernel
theorem dM_walk_13 : decode cM_walk 13 = .ok (.ifCond .lt 42, 3) := by decide +kernel
theorem dM_walk_16 : decode cM_walk 16 = .ok (.aload_n 0, 1) := by decide +kernel
theorem dM_walk_17 : decode cM_walk 17 = .ok (.iload_n 1, 1) := by decide +kernel
theorem dM_walk_18 : decode cM_walk 18 = .ok (.iload_n 2, 1) := by decide +kernel
theorem dM_walk_19 : decode cM_walk 19 = .ok (.invokevirtual 66, 3) := by decide +kernel
theorem dM_walk_22 : decode cM_walk 22 = .ok (.ifCond .ne 23, 3) := by decide +kernel
theorem dM_walk_25 : decode cM_walk 25 = .ok (.aload_n 0, 1) := by decide +kernel
theorem dM_walk_26 : decode cM_walk 26 = .ok (.getfield 38, 3) := by decide +kernel
theorem dM_walk_29 : decode cM_walk 29 = .ok (.aload_n 0, 1) := by decide +kernel
theorem dM_walk_30 : decode cM_walk 30 = .ok (.getfield 59, 3) := by decide +kernel
theorem dM_walk_33 : decode cM_walk 33 = .ok (.iload_n 2, 1) := by decide +kernel
theorem dM_walk_34 : decode cM_walk 34 = .ok (.iastore, 1) := by decide +kernel
theorem dM_walk_35 : decode cM_walk 35 = .ok (.aload_n 0, 1) := by decide +kernel
theorem dM_walk_36 : decode cM_walk 36 = .ok (.dup, 1) := by decide +kernel
theorem dM_walk_37 : decode cM_walk 37 = .ok (.getfield 59, 3) := by decide +kernel
theorem dM_walk_40 : decode cM_walk 40 = .ok (.iconst 1, 1) := by decide +kernel
theorem dM_walk_41 : decode cM_walk 41 = .ok (.iadd, 1) := by decide +kernel
theorem dM_walk_42 : decode cM_walk 42 = .ok (.putfield 59, 3) := by decide +kernel
theorem dM_walk_45 : decode cM_walk 45 = .ok (.aload_n 0, 1) := by decide +kernel
theorem dM_walk_46 : decode cM_walk 46 = .ok (.iload_n 1, 1) := by decide +kernel
theorem dM_walk_47 : decode cM_walk 47 = .ok (.iload_n 2, 1) := by decide +kernel
theorem dM_walk_48 : decode cM_walk 48 = .ok (.invokevirtual 62, 3) := by decide +kernel
theorem dM_walk_51 : decode cM_walk 51 = .ok (.istore_n 2, 1) := by decide +kernel
theorem dM_walk_52 : decode cM_walk 52 = .ok (.goto (-40), 3) := by decide +kernel
theorem dM_walk_55 : decode cM_walk 55 = .ok (.return_, 1) := by decide +kernel
theorem dM_next_0 : decode cM_next 0 = .ok (.aload_n 0, 1) := by decide +kernel
theorem dM_next_1 : decode cM_next 1 = .ok (.iload_n 1, 1) := by decide +kernel
theorem dM_next_2 : decode cM_next 2 = .ok (.iload_n 2, 1) := by decide +kernel
theorem dM_next_3 : decode cM_next 3 = .ok (.iconst (-1), 1) := by decide +kernel
theorem dM_next_4 : decode cM_next 4 = .ok (.invokevirtual 55, 3) := by decide +kernel
theorem dM_next_7 : decode cM_next 7 = .ok (.istore_n 3, 1) := by decide +kernel
theorem dM_next_8 : decode cM_next 8 = .ok (.iload_n 2, 1) := by decide +kernel
theorem dM_next_9 : decode cM_next 9 = .ok (.istore 4, 2) := by decide +kernel
theorem dM_next_11 : decode cM_next 11 = .ok (.iload_n 3, 1) := by decide +kernel
theorem dM_next_12 : decode cM_next 12 = .ok (.ifCond .ge 35, 3) := by decide +kernel
theorem dM_next_15 : decode cM_next 15 = .ok (.iload 4, 2) := by decide +kernel
theorem dM_next_17 : decode cM_next 17 = .ok (.ifCond .lt 30, 3) := by decide +kernel
theorem dM_next_20 : decode cM_next 20 = .ok (.aload_n 0, 1) := by decide +kernel
theorem dM_next_21 : decode cM_next 21 = .ok (.iload_n 1, 1) := by decide +kernel
theorem dM_next_22 : decode cM_next 22 = .ok (.aload_n 0, 1) := by decide +kernel
theorem dM_next_23 : decode cM_next 23 = .ok (.getfield 22, 3) := by decide +kernel
theorem dM_next_26 : decode cM_next 26 = .ok (.iload 4, 2) := by decide +kernel
theorem dM_next_28 : decode cM_next 28 = .ok (.iaload, 1) := by decide +kernel
theorem dM_next_29 : decode cM_next 29 = .ok (.iload 4, 2) := by decide +kernel
theorem dM_next_31 : decode cM_next 31 = .ok (.invokevirtual 55, 3) := by decide +kernel
theorem dM_next_34 : decode cM_next 34 = .ok (.istore_n 3, 1) := by decide +kernel
theorem dM_next_35 : decode cM_next 35 = .ok (.aload_n 0, 1) := by decide +kernel
theorem dM_next_36 : decode cM_next 36 = .ok (.getfield 22, 3) := by decide +kernel
theorem dM_next_39 : decode cM_next 39 = .ok (.iload 4, 2) := by decide +kernel
theorem dM_next_41 : decode cM_next 41 = .ok (.iaload, 1) := by decide +kernel
theorem dM_next_42 : decode cM_next 42 = .ok (.istore 4, 2) := by decide +kernel
theorem dM_next_44 : decode cM_next 44 = .ok (.goto (-33), 3) := by decide +kernel
theorem dM_next_47 : decode cM_next 47 = .ok (.iload_n 3, 1) := by decide +kernel
theorem dM_next_48 : decode cM_next 48 = .ok (.ireturn, 1) := by decide +kernel
theorem dM_first_0 : decode cM_first 0 = .ok (.iconst (-1), 1) := by decide +kernel
theorem dM_first_1 : decode cM_first 1 = .ok (.istore 4, 2) := by decide +kernel
theorem dM_first_3 : decode cM_first 3 = .ok (.iconst 0, 1) := by decide +kernel
theorem dM_first_4 : decode cM_first 4 = .ok (.istore 5, 2) := by decide +kernel
theorem dM_first_6 : decode cM_first 6 = .ok (.iload 5, 2) := by decide +kernel
theorem dM_first_8 : decode cM_first 8 = .ok (.aload_n 0, 1) := by decide +kernel
theorem dM_first_9 : decode cM_first 9 = .ok (.getfield 44, 3) := by decide +kernel
theorem dM_first_12 : decode cM_first 12 = .ok (.if_icmp .ge 91, 3) := by decide +kernel
theorem dM_first_15 : decode cM_first 15 = .ok (.aload_n 0, 1) := by decide +kernel
theorem dM_first_16 : decode cM_first 16 = .ok (.iload_n 1, 1) := by decide +kernel
theorem dM_first_17 : decode cM_first 17 = .ok (.iload 5, 2) := by decide +kernel
theorem dM_first_19 : decode cM_first 19 = .ok (.invokevirtual 48, 3) := by decide +kernel
theorem dM_first_22 : decode cM_first 22 = .ok (.ifCond .eq 42, 3) := by decide +kernel
theorem dM_first_25 : decode cM_first 25 = .ok (.aload_n 0, 1) := by decide +kernel
theorem dM_first_26 : decode cM_first 26 = .ok (.getfield 19, 3) := by decide +kernel
theorem dM_first_29 : decode cM_first 29 = .ok (.iload 5, 2) := by decide +kernel
theorem dM_first_31 : decode cM_first 31 = .ok (.iaload, 1) := by decide +kernel
theorem dM_first_32 : decode cM_first 32 = .ok (.ifCond .le 32, 3) := by decide +kernel
theorem dM_first_35 : decode cM_first 35 = .ok (.aload_n 0, 1) := by decide +kernel
theorem dM_first_36 : decode cM_first 36 = .ok (.getfield 22, 3) := by decide +kernel
theorem dM_first_39 : decode cM_first 39 = .ok (.iload 5, 2) := by decide +kernel
theorem dM_first_41 : decode cM_first 41 = .ok (.iaload, 1) := by decide +kernel
theorem dM_first_42 : decode cM_first 42 = .ok (.iload_n 2, 1) := by decide +kernel
theorem dM_first_43 : decode cM_first 43 = .ok (.if_icmp .ne 21, 3) := by decide +kernel
theorem dM_first_46 : decode cM_first 46 = .ok (.iload_n 3, 1) := by decide +kernel
theorem dM_first_47 : decode cM_first 47 = .ok (.ifCond .lt 13, 3) := by decide +kernel
theorem dM_first_50 : decode cM_first 50 = .ok (.aload_n 0, 1) := by decide +kernel
theorem dM_first_51 : decode cM_first 51 = .ok (.iload_n 3, 1) := by decide +kernel
theorem dM_first_52 : decode cM_first 52 = .ok (.iload 5, 2) := by decide +kernel
theorem dM_first_54 : decode cM_first 54 = .ok (.invokevirtual 52, 3) := by decide +kernel
theorem dM_first_57 : decode cM_first 57 = .ok (.ifCond .eq 7, 3) := by decide +kernel
theorem dM_first_60 : decode cM_first 60 = .ok (.iconst 1, 1) := by decide +kernel
theorem dM_first_61 : decode cM_first 61 = .ok (.goto 4, 3) := by decide +kernel
theorem dM_first_64 : decode cM_first 64 = .ok (.iconst 0, 1) := by decide +kernel
theorem dM_first_65 : decode cM_first 65 = .ok (.istore 6, 2) := by decide +kernel
theorem dM_first_67 : decode cM_first 67 = .ok (.iload 6, 2) := by decide +kernel
theorem dM_first_69 : decode cM_first 69 = .ok (.ifCond .eq 24, 3) := by decide +kernel
theorem dM_first_72 : decode cM_first 72 = .ok (.iload 4, 2) := by decide +kernel
theorem dM_first_74 : decode cM_first 74 = .ok (.ifCond .lt 14, 3) := by decide +kernel
theorem dM_first_77 : decode cM_first 77 = .ok (.aload_n 0, 1) := by decide +kernel
theorem dM_first_78 : decode cM_first 78 = .ok (.iload 5, 2) := by decide +kernel
theorem dM_first_80 : decode cM_first 80 = .ok (.iload 4, 2) := by decide +kernel
theorem dM_first_82 : decode cM_first 82 = .ok (.invokevirtual 52, 3) := by decide +kernel
theorem dM_first_85 : decode cM_first 85 = .ok (.ifCond .eq 8, 3) := by decide +kernel
theorem dM_first_88 : decode cM_first 88 = .ok (.iload 5, 2) := by decide +kernel
theorem dM_first_90 : decode cM_first 90 = .ok (.goto 5, 3) := by decide +kernel
theorem dM_first_93 : decode cM_first 93 = .ok (.iload 4, 2) := by decide +kernel
theorem dM_first_95 : decode cM_first 95 = .ok (.istore 4, 2) := by decide +kernel
theorem dM_first_97 : decode cM_first 97 = .ok (.iinc 5 1, 3) := by decide +kernel
theorem dM_first_100 : decode cM_first 100 = .ok (.goto (-94), 3) := by decide +kernel
theorem dM_first_103 : decode cM_first 103 = .ok (.iload 4, 2) := by decide +kernel
theorem dM_first_105 : decode cM_first 105 = .ok (.ireturn, 1) := by decide +kernel
theorem dM_has_0 : decode cM_has 0 = .ok (.aload_n 0, 1) := by decide +kernel
theorem dM_has_1 : decode cM_has 1 = .ok (.getfield 28, 3) := by decide +kernel
theorem dM_has_4 : decode cM_has 4 = .ok (.bipush 100, 2) := by decide +kernel
theorem dM_has_6 : decode cM_has 6 = .ok (.iload_n 1, 1) := by decide +kernel
theorem dM_has_7 : decode cM_has 7 = .ok (.imul, 1) := by decide +kernel
theorem dM_has_8 : decode cM_has 8 = .ok (.iload_n 2, 1) := by decide +kernel
theorem dM_has_9 : decode cM_has 9 = .ok (.iadd, 1) := by decide +kernel
theorem dM_has_10 : decode cM_has 10 = .ok (.baload, 1) := by decide +kernel
theorem dM_has_11 : decode cM_has 11 = .ok (.ireturn, 1) := by decide +kernel
theorem dM_sooner_0 : decode cM_sooner 0 = .ok (.aload_n 0, 1) := by decide +kernel
theorem dM_sooner_1 : decode cM_sooner 1 = .ok (.getfield 16, 3) := by decide +kernel
theorem dM_sooner_4 : decode cM_sooner 4 = .ok (.iload_n 1, 1) := by decide +kernel
theorem dM_sooner_5 : decode cM_sooner 5 = .ok (.iaload, 1) := by decide +kernel
theorem dM_sooner_6 : decode cM_sooner 6 = .ok (.aload_n 0, 1) := by decide +kernel
theorem dM_sooner_7 : decode cM_sooner 7 = .ok (.getfield 16, 3) := by decide +kernel
theorem dM_sooner_10 : decode cM_sooner 10 = .ok (.iload_n 2, 1) := by decide +kernel
theorem dM_sooner_11 : decode cM_sooner 11 = .ok (.iaload, 1) := by decide +kernel
theorem dM_sooner_12 : decode cM_sooner 12 = .ok (.if_icmp .gt 33, 3) := by decide +kernel
theorem dM_sooner_15 : decode cM_sooner 15 = .ok (.aload_n 0, 1) := by decide +kernel
theorem dM_sooner_16 : decode cM_sooner 16 = .ok (.getfield 16, 3) := by decide +kernel
theorem dM_sooner_19 : decode cM_sooner 19 = .ok (.iload_n 1, 1) := by decide +kernel
theorem dM_sooner_20 : decode cM_sooner 20 = .ok (.iaload, 1) := by decide +kernel
theorem dM_sooner_21 : decode cM_sooner 21 = .ok (.aload_n 0, 1) := by decide +kernel
theorem dM_sooner_22 : decode cM_sooner 22 = .ok (.getfield 16, 3) := by decide +kernel
theorem dM_sooner_25 : decode cM_sooner 25 = .ok (.iload_n 2, 1) := by decide +kernel
theorem dM_sooner_26 : decode cM_sooner 26 = .ok (.iaload, 1) := by decide +kernel
theorem dM_sooner_27 : decode cM_sooner 27 = .ok (.if_icmp .ne 22, 3) := by decide +kernel
theorem dM_sooner_30 : decode cM_sooner 30 = .ok (.aload_n 0, 1) := by decide +kernel
theorem dM_sooner_31 : decode cM_sooner 31 = .ok (.getfield 7, 3) := by decide +kernel
theorem dM_sooner_34 : decode cM_sooner 34 = .ok (.iload_n 1, 1) := by decide +kernel
theorem dM_sooner_35 : decode cM_sooner 35 = .ok (.iaload, 1) := by decide +kernel
theorem dM_sooner_36 : decode cM_sooner 36 = .ok (.aload_n 0, 1) := by decide +kernel
theorem dM_sooner_37 : decode cM_sooner 37 = .ok (.getfield 7, 3) := by decide +kernel
theorem dM_sooner_40 : decode cM_sooner 40 = .ok (.iload_n 2, 1) := by decide +kernel
theorem dM_sooner_41 : decode cM_sooner 41 = .ok (.iaload, 1) := by decide +kernel
theorem dM_sooner_42 : decode cM_sooner 42 = .ok (.if_icmp .le 7, 3) := by decide +kernel
theorem dM_sooner_45 : decode cM_sooner 45 = .ok (.iconst 1, 1) := by decide +kernel
theorem dM_sooner_46 : decode cM_sooner 46 = .ok (.goto 4, 3) := by decide +kernel
theorem dM_sooner_49 : decode cM_sooner 49 = .ok (.iconst 0, 1) := by decide +kernel
theorem dM_sooner_50 : decode cM_sooner 50 = .ok (.ireturn, 1) := by decide +kernel
theorem dM_erased_0 : decode cM_erased 0 = .ok (.iconst 0, 1) := by decide +kernel
theorem dM_erased_1 : decode cM_erased 1 = .ok (.istore_n 3, 1) := by decide +kernel
theorem dM_erased_2 : decode cM_erased 2 = .ok (.iconst 0, 1) := by decide +kernel
theorem dM_erased_3 : decode cM_erased 3 = .ok (.istore 4, 2) := by decide +kernel
theorem dM_erased_5 : decode cM_erased 5 = .ok (.iload 4, 2) := by decide +kernel
theorem dM_erased_7 : decode cM_erased 7 = .ok (.aload_n 0, 1) := by decide +kernel
theorem dM_erased_8 : decode cM_erased 8 = .ok (.getfield 44, 3) := by decide +kernel
theorem dM_erased_11 : decode cM_erased 11 = .ok (.if_icmp .ge 50, 3) := by decide +kernel
theorem dM_erased_14 : decode cM_erased 14 = .ok (.iload_n 3, 1) := by decide +kernel
theorem dM_erased_15 : decode cM_erased 15 = .ok (.ifCond .ne 34, 3) := by decide +kernel
theorem dM_erased_18 : decode cM_erased 18 = .ok (.aload_n 0, 1) := by decide +kernel
theorem dM_erased_19 : decode cM_erased 19 = .ok (.getfield 19, 3) := by decide +kernel
theorem dM_erased_22 : decode cM_erased 22 = .ok (.iload 4, 2) := by decide +kernel
theorem dM_erased_24 : decode cM_erased 24 = .ok (.iaload, 1) := by decide +kernel
theorem dM_erased_25 : decode cM_erased 25 = .ok (.ifCond .ne 28, 3) := by decide +kernel
theorem dM_erased_28 : decode cM_erased 28 = .ok (.aload_n 0, 1) := by decide +kernel
theorem dM_erased_29 : decode cM_erased 29 = .ok (.getfield 22, 3) := by decide +kernel
theorem dM_erased_32 : decode cM_erased 32 = .ok (.iload 4, 2) := by decide +kernel
theorem dM_erased_34 : decode cM_erased 34 = .ok (.iaload, 1) := by decide +kernel
theorem dM_erased_35 : decode cM_erased 35 = .ok (.iload_n 2, 1) := by decide +kernel
theorem dM_erased_36 : decode cM_erased 36 = .ok (.if_icmp .ne 17, 3) := by decide +kernel
theorem dM_erased_39 : decode cM_erased 39 = .ok (.aload_n 0, 1) := by decide +kernel
theorem dM_erased_40 : decode cM_erased 40 = .ok (.iload_n 1, 1) := by decide +kernel
theorem dM_erased_41 : decode cM_erased 41 = .ok (.iload 4, 2) := by decide +kernel
theorem dM_erased_43 : decode cM_erased 43 = .ok (.invokevirtual 48, 3) := by decide +kernel
theorem dM_erased_46 : decode cM_erased 46 = .ok (.ifCond .eq 7, 3) := by decide +kernel
end
section
theorem dM_erased_49 : decode cM_erased 49 = .ok (.iconst 1, 1) := by decide +kernel
theorem dM_erased_50 : decode cM_erased 50 = .ok (.goto 4, 3) := by decide +kernel
theorem dM_erased_53 : decode cM_erased 53 = .ok (.iconst 0, 1) := by decide +kernel
theorem dM_erased_54 : decode cM_erased 54 = .ok (.istore_n 3, 1) := by decide +kernel
theorem dM_erased_55 : decode cM_erased 55 = .ok (.iinc 4 1, 3) := by decide +kernel
theorem dM_erased_58 : decode cM_erased 58 = .ok (.goto (-53), 3) := by decide +kernel
theorem dM_erased_61 : decode cM_erased 61 = .ok (.iload_n 3, 1) := by decide +kernel
theorem dM_erased_62 : decode cM_erased 62 = .ok (.ireturn, 1) := by decide +kernel
theorem dM_issue_0 : decode cM_issue 0 = .ok (.aload_n 0, 1) := by decide +kernel
theorem dM_issue_1 : decode cM_issue 1 = .ok (.getfield 44, 3) := by decide +kernel
theorem dM_issue_4 : decode cM_issue 4 = .ok (.istore 4, 2) := by decide +kernel
theorem dM_issue_6 : decode cM_issue 6 = .ok (.iconst 0, 1) := by decide +kernel
theorem dM_issue_7 : decode cM_issue 7 = .ok (.istore 5, 2) := by decide +kernel
theorem dM_issue_9 : decode cM_issue 9 = .ok (.iconst 0, 1) := by decide +kernel
theorem dM_issue_10 : decode cM_issue 10 = .ok (.istore 6, 2) := by decide +kernel
theorem dM_issue_12 : decode cM_issue 12 = .ok (.iload 6, 2) := by decide +kernel
theorem dM_issue_14 : decode cM_issue 14 = .ok (.iload 4, 2) := by decide +kernel
theorem dM_issue_16 : decode cM_issue 16 = .ok (.if_icmp .ge 45, 3) := by decide +kernel
theorem dM_issue_19 : decode cM_issue 19 = .ok (.aload_n 0, 1) := by decide +kernel
theorem dM_issue_20 : decode cM_issue 20 = .ok (.iload_n 1, 1) := by decide +kernel
theorem dM_issue_21 : decode cM_issue 21 = .ok (.iload 6, 2) := by decide +kernel
theorem dM_issue_23 : decode cM_issue 23 = .ok (.invokevirtual 48, 3) := by decide +kernel
theorem dM_issue_26 : decode cM_issue 26 = .ok (.ifCond .eq 25, 3) := by decide +kernel
theorem dM_issue_29 : decode cM_issue 29 = .ok (.aload_n 0, 1) := by decide +kernel
theorem dM_issue_30 : decode cM_issue 30 = .ok (.getfield 16, 3) := by decide +kernel
theorem dM_issue_33 : decode cM_issue 33 = .ok (.iload 6, 2) := by decide +kernel
theorem dM_issue_35 : decode cM_issue 35 = .ok (.iaload, 1) := by decide +kernel
theorem dM_issue_36 : decode cM_issue 36 = .ok (.iload 5, 2) := by decide +kernel
theorem dM_issue_38 : decode cM_issue 38 = .ok (.if_icmp .le 13, 3) := by decide +kernel
theorem dM_issue_41 : decode cM_issue 41 = .ok (.aload_n 0, 1) := by decide +kernel
theorem dM_issue_42 : decode cM_issue 42 = .ok (.getfield 16, 3) := by decide +kernel
theorem dM_issue_45 : decode cM_issue 45 = .ok (.iload 6, 2) := by decide +kernel
theorem dM_issue_47 : decode cM_issue 47 = .ok (.iaload, 1) := by decide +kernel
theorem dM_issue_48 : decode cM_issue 48 = .ok (.goto 5, 3) := by decide +kernel
theorem dM_issue_51 : decode cM_issue 51 = .ok (.iload 5, 2) := by decide +kernel
theorem dM_issue_53 : decode cM_issue 53 = .ok (.istore 5, 2) := by decide +kernel
theorem dM_issue_55 : decode cM_issue 55 = .ok (.iinc 6 1, 3) := by decide +kernel
theorem dM_issue_58 : decode cM_issue 58 = .ok (.goto (-46), 3) := by decide +kernel
theorem dM_issue_61 : decode cM_issue 61 = .ok (.aload_n 0, 1) := by decide +kernel
theorem dM_issue_62 : decode cM_issue 62 = .ok (.getfield 7, 3) := by decide +kernel
theorem dM_issue_65 : decode cM_issue 65 = .ok (.iload 4, 2) := by decide +kernel
theorem dM_issue_67 : decode cM_issue 67 = .ok (.iload_n 1, 1) := by decide +kernel
theorem dM_issue_68 : decode cM_issue 68 = .ok (.iastore, 1) := by decide +kernel
theorem dM_issue_69 : decode cM_issue 69 = .ok (.aload_n 0, 1) := by decide +kernel
theorem dM_issue_70 : decode cM_issue 70 = .ok (.getfield 16, 3) := by decide +kernel
theorem dM_issue_73 : decode cM_issue 73 = .ok (.iload 4, 2) := by decide +kernel
theorem dM_issue_75 : decode cM_issue 75 = .ok (.iload 5, 2) := by decide +kernel
theorem dM_issue_77 : decode cM_issue 77 = .ok (.iconst 1, 1) := by decide +kernel
theorem dM_issue_78 : decode cM_issue 78 = .ok (.iadd, 1) := by decide +kernel
theorem dM_issue_79 : decode cM_issue 79 = .ok (.iastore, 1) := by decide +kernel
theorem dM_issue_80 : decode cM_issue 80 = .ok (.aload_n 0, 1) := by decide +kernel
theorem dM_issue_81 : decode cM_issue 81 = .ok (.getfield 19, 3) := by decide +kernel
theorem dM_issue_84 : decode cM_issue 84 = .ok (.iload 4, 2) := by decide +kernel
theorem dM_issue_86 : decode cM_issue 86 = .ok (.iload_n 2, 1) := by decide +kernel
theorem dM_issue_87 : decode cM_issue 87 = .ok (.iastore, 1) := by decide +kernel
theorem dM_issue_88 : decode cM_issue 88 = .ok (.aload_n 0, 1) := by decide +kernel
theorem dM_issue_89 : decode cM_issue 89 = .ok (.getfield 22, 3) := by decide +kernel
theorem dM_issue_92 : decode cM_issue 92 = .ok (.iload 4, 2) := by decide +kernel
theorem dM_issue_94 : decode cM_issue 94 = .ok (.iload_n 3, 1) := by decide +kernel
theorem dM_issue_95 : decode cM_issue 95 = .ok (.iastore, 1) := by decide +kernel
theorem dM_issue_96 : decode cM_issue 96 = .ok (.aload_n 0, 1) := by decide +kernel
theorem dM_issue_97 : decode cM_issue 97 = .ok (.getfield 13, 3) := by decide +kernel
theorem dM_issue_100 : decode cM_issue 100 = .ok (.iload 4, 2) := by decide +kernel
theorem dM_issue_102 : decode cM_issue 102 = .ok (.aload_n 0, 1) := by decide +kernel
theorem dM_issue_103 : decode cM_issue 103 = .ok (.iload_n 1, 1) := by decide +kernel
theorem dM_issue_104 : decode cM_issue 104 = .ok (.iload_n 1, 1) := by decide +kernel
theorem dM_issue_105 : decode cM_issue 105 = .ok (.invokevirtual 69, 3) := by decide +kernel
theorem dM_issue_108 : decode cM_issue 108 = .ok (.iconst 1, 1) := by decide +kernel
theorem dM_issue_109 : decode cM_issue 109 = .ok (.iadd, 1) := by decide +kernel
theorem dM_issue_110 : decode cM_issue 110 = .ok (.iastore, 1) := by decide +kernel
theorem dM_issue_111 : decode cM_issue 111 = .ok (.aload_n 0, 1) := by decide +kernel
theorem dM_issue_112 : decode cM_issue 112 = .ok (.dup, 1) := by decide +kernel
theorem dM_issue_113 : decode cM_issue 113 = .ok (.getfield 44, 3) := by decide +kernel
theorem dM_issue_116 : decode cM_issue 116 = .ok (.iconst 1, 1) := by decide +kernel
theorem dM_issue_117 : decode cM_issue 117 = .ok (.iadd, 1) := by decide +kernel
theorem dM_issue_118 : decode cM_issue 118 = .ok (.putfield 44, 3) := by decide +kernel
theorem dM_issue_121 : decode cM_issue 121 = .ok (.aload_n 0, 1) := by decide +kernel
theorem dM_issue_122 : decode cM_issue 122 = .ok (.getfield 28, 3) := by decide +kernel
theorem dM_issue_125 : decode cM_issue 125 = .ok (.bipush 100, 2) := by decide +kernel
theorem dM_issue_127 : decode cM_issue 127 = .ok (.iload_n 1, 1) := by decide +kernel
theorem dM_issue_128 : decode cM_issue 128 = .ok (.imul, 1) := by decide +kernel
theorem dM_issue_129 : decode cM_issue 129 = .ok (.iload 4, 2) := by decide +kernel
theorem dM_issue_131 : decode cM_issue 131 = .ok (.iadd, 1) := by decide +kernel
theorem dM_issue_132 : decode cM_issue 132 = .ok (.iconst 1, 1) := by decide +kernel
theorem dM_issue_133 : decode cM_issue 133 = .ok (.bastore, 1) := by decide +kernel
theorem dM_issue_134 : decode cM_issue 134 = .ok (.iconst 0, 1) := by decide +kernel
theorem dM_issue_135 : decode cM_issue 135 = .ok (.istore 6, 2) := by decide +kernel
theorem dM_issue_137 : decode cM_issue 137 = .ok (.iload 6, 2) := by decide +kernel
theorem dM_issue_139 : decode cM_issue 139 = .ok (.iconst 3, 1) := by decide +kernel
theorem dM_issue_140 : decode cM_issue 140 = .ok (.if_icmp .ge 28, 3) := by decide +kernel
theorem dM_issue_143 : decode cM_issue 143 = .ok (.aload_n 0, 1) := by decide +kernel
theorem dM_issue_144 : decode cM_issue 144 = .ok (.getfield 25, 3) := by decide +kernel
theorem dM_issue_147 : decode cM_issue 147 = .ok (.iconst 3, 1) := by decide +kernel
theorem dM_issue_148 : decode cM_issue 148 = .ok (.iload 4, 2) := by decide +kernel
theorem dM_issue_150 : decode cM_issue 150 = .ok (.imul, 1) := by decide +kernel
theorem dM_issue_151 : decode cM_issue 151 = .ok (.iload 6, 2) := by decide +kernel
theorem dM_issue_153 : decode cM_issue 153 = .ok (.iadd, 1) := by decide +kernel
theorem dM_issue_154 : decode cM_issue 154 = .ok (.aload_n 0, 1) := by decide +kernel
theorem dM_issue_155 : decode cM_issue 155 = .ok (.iload_n 1, 1) := by decide +kernel
theorem dM_issue_156 : decode cM_issue 156 = .ok (.iload 6, 2) := by decide +kernel
theorem dM_issue_158 : decode cM_issue 158 = .ok (.invokevirtual 69, 3) := by decide +kernel
theorem dM_issue_161 : decode cM_issue 161 = .ok (.iastore, 1) := by decide +kernel
theorem dM_issue_162 : decode cM_issue 162 = .ok (.iinc 6 1, 3) := by decide +kernel
theorem dM_issue_165 : decode cM_issue 165 = .ok (.goto (-28), 3) := by decide +kernel
theorem dM_issue_168 : decode cM_issue 168 = .ok (.iload 4, 2) := by decide +kernel
theorem dM_issue_170 : decode cM_issue 170 = .ok (.ireturn, 1) := by decide +kernel
theorem dM_count_0 : decode cM_count 0 = .ok (.iconst 0, 1) := by decide +kernel
theorem dM_count_1 : decode cM_count 1 = .ok (.istore_n 3, 1) := by decide +kernel
theorem dM_count_2 : decode cM_count 2 = .ok (.iconst 0, 1) := by decide +kernel
theorem dM_count_3 : decode cM_count 3 = .ok (.istore 4, 2) := by decide +kernel
theorem dM_count_5 : decode cM_count 5 = .ok (.iload 4, 2) := by decide +kernel
theorem dM_count_7 : decode cM_count 7 = .ok (.aload_n 0, 1) := by decide +kernel
theorem dM_count_8 : decode cM_count 8 = .ok (.getfield 44, 3) := by decide +kernel
theorem dM_count_11 : decode cM_count 11 = .ok (.if_icmp .ge 38, 3) := by decide +kernel
theorem dM_count_14 : decode cM_count 14 = .ok (.aload_n 0, 1) := by decide +kernel
theorem dM_count_15 : decode cM_count 15 = .ok (.getfield 7, 3) := by decide +kernel
theorem dM_count_18 : decode cM_count 18 = .ok (.iload 4, 2) := by decide +kernel
theorem dM_count_20 : decode cM_count 20 = .ok (.iaload, 1) := by decide +kernel
theorem dM_count_21 : decode cM_count 21 = .ok (.iload_n 2, 1) := by decide +kernel
theorem dM_count_22 : decode cM_count 22 = .ok (.if_icmp .ne 19, 3) := by decide +kernel
theorem dM_count_25 : decode cM_count 25 = .ok (.aload_n 0, 1) := by decide +kernel
theorem dM_count_26 : decode cM_count 26 = .ok (.iload_n 1, 1) := by decide +kernel
theorem dM_count_27 : decode cM_count 27 = .ok (.iload 4, 2) := by decide +kernel
theorem dM_count_29 : decode cM_count 29 = .ok (.invokevirtual 48, 3) := by decide +kernel
theorem dM_count_32 : decode cM_count 32 = .ok (.ifCond .eq 9, 3) := by decide +kernel
theorem dM_count_35 : decode cM_count 35 = .ok (.iload_n 3, 1) := by decide +kernel
theorem dM_count_36 : decode cM_count 36 = .ok (.iconst 1, 1) := by decide +kernel
theorem dM_count_37 : decode cM_count 37 = .ok (.iadd, 1) := by decide +kernel
theorem dM_count_38 : decode cM_count 38 = .ok (.goto 4, 3) := by decide +kernel
theorem dM_count_41 : decode cM_count 41 = .ok (.iload_n 3, 1) := by decide +kernel
theorem dM_count_42 : decode cM_count 42 = .ok (.istore_n 3, 1) := by decide +kernel
theorem dM_count_43 : decode cM_count 43 = .ok (.iinc 4 1, 3) := by decide +kernel
theorem dM_count_46 : decode cM_count 46 = .ok (.goto (-41), 3) := by decide +kernel
theorem dM_count_49 : decode cM_count 49 = .ok (.iload_n 3, 1) := by decide +kernel
theorem dM_count_50 : decode cM_count 50 = .ok (.ireturn, 1) := by decide +kernel
theorem dM_erase_0 : decode cM_erase 0 = .ok (.iload_n 1, 1) := by decide +kernel
theorem dM_erase_1 : decode cM_erase 1 = .ok (.invokestatic 72, 3) := by decide +kernel
theorem dM_erase_4 : decode cM_erase 4 = .ok (.ifCond .ne 5, 3) := by decide +kernel
theorem dM_erase_7 : decode cM_erase 7 = .ok (.iconst (-1), 1) := by decide +kernel
theorem dM_erase_8 : decode cM_erase 8 = .ok (.ireturn, 1) := by decide +kernel
theorem dM_erase_9 : decode cM_erase 9 = .ok (.aload_n 0, 1) := by decide +kernel
theorem dM_erase_10 : decode cM_erase 10 = .ok (.iload_n 1, 1) := by decide +kernel
theorem dM_erase_11 : decode cM_erase 11 = .ok (.invokevirtual 76, 3) := by decide +kernel
theorem dM_erase_14 : decode cM_erase 14 = .ok (.iload_n 2, 1) := by decide +kernel
theorem dM_erase_15 : decode cM_erase 15 = .ok (.ifCond .lt 11, 3) := by decide +kernel
theorem dM_erase_18 : decode cM_erase 18 = .ok (.iload_n 2, 1) := by decide +kernel
theorem dM_erase_19 : decode cM_erase 19 = .ok (.aload_n 0, 1) := by decide +kernel
theorem dM_erase_20 : decode cM_erase 20 = .ok (.getfield 59, 3) := by decide +kernel
theorem dM_erase_23 : decode cM_erase 23 = .ok (.if_icmp .lt 5, 3) := by decide +kernel
theorem dM_erase_26 : decode cM_erase 26 = .ok (.iconst (-1), 1) := by decide +kernel
theorem dM_erase_27 : decode cM_erase 27 = .ok (.ireturn, 1) := by decide +kernel
theorem dM_erase_28 : decode cM_erase 28 = .ok (.aload_n 0, 1) := by decide +kernel
theorem dM_erase_29 : decode cM_erase 29 = .ok (.getfield 44, 3) := by decide +kernel
theorem dM_erase_32 : decode cM_erase 32 = .ok (.bipush 100, 2) := by decide +kernel
theorem dM_erase_34 : decode cM_erase 34 = .ok (.if_icmp .ne 6, 3) := by decide +kernel
theorem dM_erase_37 : decode cM_erase 37 = .ok (.bipush (-2), 2) := by decide +kernel
theorem dM_erase_39 : decode cM_erase 39 = .ok (.ireturn, 1) := by decide +kernel
theorem dM_erase_40 : decode cM_erase 40 = .ok (.aload_n 0, 1) := by decide +kernel
theorem dM_erase_41 : decode cM_erase 41 = .ok (.iload_n 1, 1) := by decide +kernel
theorem dM_erase_42 : decode cM_erase 42 = .ok (.iconst 0, 1) := by decide +kernel
theorem dM_erase_43 : decode cM_erase 43 = .ok (.aload_n 0, 1) := by decide +kernel
theorem dM_erase_44 : decode cM_erase 44 = .ok (.getfield 38, 3) := by decide +kernel
theorem dM_erase_47 : decode cM_erase 47 = .ok (.iload_n 2, 1) := by decide +kernel
theorem dM_erase_48 : decode cM_erase 48 = .ok (.iaload, 1) := by decide +kernel
theorem dM_erase_49 : decode cM_erase 49 = .ok (.invokevirtual 80, 3) := by decide +kernel
theorem dM_erase_52 : decode cM_erase 52 = .ok (.ireturn, 1) := by decide +kernel
theorem dM_deliver_0 : decode cM_deliver 0 = .ok (.iload_n 1, 1) := by decide +kernel
theorem dM_deliver_1 : decode cM_deliver 1 = .ok (.invokestatic 72, 3) := by decide +kernel
theorem dM_deliver_4 : decode cM_deliver 4 = .ok (.ifCond .eq 11, 3) := by decide +kernel
theorem dM_deliver_7 : decode cM_deliver 7 = .ok (.aload_n 0, 1) := by decide +kernel
theorem dM_deliver_8 : decode cM_deliver 8 = .ok (.iload_n 2, 1) := by decide +kernel
theorem dM_deliver_9 : decode cM_deliver 9 = .ok (.invokevirtual 83, 3) := by decide +kernel
theorem dM_deliver_12 : decode cM_deliver 12 = .ok (.ifCond .ne 5, 3) := by decide +kernel
theorem dM_deliver_15 : decode cM_deliver 15 = .ok (.iconst (-1), 1) := by decide +kernel
theorem dM_deliver_16 : decode cM_deliver 16 = .ok (.ireturn, 1) := by decide +kernel
theorem dM_deliver_17 : decode cM_deliver 17 = .ok (.aload_n 0, 1) := by decide +kernel
theorem dM_deliver_18 : decode cM_deliver 18 = .ok (.iload_n 1, 1) := by decide +kernel
theorem dM_deliver_19 : decode cM_deliver 19 = .ok (.iload_n 2, 1) := by decide +kernel
theorem dM_deliver_20 : decode cM_deliver 20 = .ok (.invokevirtual 48, 3) := by decide +kernel
theorem dM_deliver_23 : decode cM_deliver 23 = .ok (.ifCond .ne 17, 3) := by decide +kernel
theorem dM_deliver_26 : decode cM_deliver 26 = .ok (.aload_n 0, 1) := by decide +kernel
theorem dM_deliver_27 : decode cM_deliver 27 = .ok (.getfield 32, 3) := by decide +kernel
theorem dM_deliver_30 : decode cM_deliver 30 = .ok (.bipush 100, 2) := by decide +kernel
theorem dM_deliver_32 : decode cM_deliver 32 = .ok (.iload_n 1, 1) := by decide +kernel
theorem dM_deliver_33 : decode cM_deliver 33 = .ok (.imul, 1) := by decide +kernel
theorem dM_deliver_34 : decode cM_deliver 34 = .ok (.iload_n 2, 1) := by decide +kernel
theorem dM_deliver_35 : decode cM_deliver 35 = .ok (.iadd, 1) := by decide +kernel
theorem dM_deliver_36 : decode cM_deliver 36 = .ok (.baload, 1) := by decide +kernel
theorem dM_deliver_37 : decode cM_deliver 37 = .ok (.ifCond .eq 5, 3) := by decide +kernel
theorem dM_deliver_40 : decode cM_deliver 40 = .ok (.iconst 0, 1) := by decide +kernel
theorem dM_deliver_41 : decode cM_deliver 41 = .ok (.ireturn, 1) := by decide +kernel
theorem dM_deliver_42 : decode cM_deliver 42 = .ok (.aload_n 0, 1) := by decide +kernel
theorem dM_deliver_43 : decode cM_deliver 43 = .ok (.getfield 32, 3) := by decide +kernel
theorem dM_deliver_46 : decode cM_deliver 46 = .ok (.bipush 100, 2) := by decide +kernel
theorem dM_deliver_48 : decode cM_deliver 48 = .ok (.iload_n 1, 1) := by decide +kernel
theorem dM_deliver_49 : decode cM_deliver 49 = .ok (.imul, 1) := by decide +kernel
theorem dM_deliver_50 : decode cM_deliver 50 = .ok (.iload_n 2, 1) := by decide +kernel
theorem dM_deliver_51 : decode cM_deliver 51 = .ok (.iadd, 1) := by decide +kernel
theorem dM_deliver_52 : decode cM_deliver 52 = .ok (.iconst 1, 1) := by decide +kernel
theorem dM_deliver_53 : decode cM_deliver 53 = .ok (.bastore, 1) := by decide +kernel
theorem dM_deliver_54 : decode cM_deliver 54 = .ok (.iconst 0, 1) := by decide +kernel
theorem dM_deliver_55 : decode cM_deliver 55 = .ok (.istore_n 3, 1) := by decide +kernel
theorem dM_deliver_56 : decode cM_deliver 56 = .ok (.iconst 1, 1) := by decide +kernel
theorem dM_deliver_57 : decode cM_deliver 57 = .ok (.istore 4, 2) := by decide +kernel
theorem dM_deliver_59 : decode cM_deliver 59 = .ok (.iload 4, 2) := by decide +kernel
theorem dM_deliver_61 : decode cM_deliver 61 = .ok (.ifCond .eq 84, 3) := by decide +kernel
theorem dM_deliver_64 : decode cM_deliver 64 = .ok (.iconst 0, 1) := by decide +kernel
theorem dM_deliver_65 : decode cM_deliver 65 = .ok (.istore 4, 2) := by decide +kernel
theorem dM_deliver_67 : decode cM_deliver 67 = .ok (.iconst 0, 1) := by decide +kernel
theorem dM_deliver_68 : decode cM_deliver 68 = .ok (.istore 5, 2) := by decide +kernel
theorem dM_deliver_70 : decode cM_deliver 70 = .ok (.iload 5, 2) := by decide +kernel
theorem dM_deliver_72 : decode cM_deliver 72 = .ok (.aload_n 0, 1) := by decide +kernel
theorem dM_deliver_73 : decode cM_deliver 73 = .ok (.getfield 44, 3) := by decide +kernel
theorem dM_deliver_76 : decode cM_deliver 76 = .ok (.if_icmp .ge 66, 3) := by decide +kernel
theorem dM_deliver_79 : decode cM_deliver 79 = .ok (.aload_n 0, 1) := by decide +kernel
theorem dM_deliver_80 : decode cM_deliver 80 = .ok (.getfield 32, 3) := by decide +kernel
theorem dM_deliver_83 : decode cM_deliver 83 = .ok (.bipush 100, 2) := by decide +kernel
theorem dM_deliver_85 : decode cM_deliver 85 = .ok (.iload_n 1, 1) := by decide +kernel
theorem dM_deliver_86 : decode cM_deliver 86 = .ok (.imul, 1) := by decide +kernel
theorem dM_deliver_87 : decode cM_deliver 87 = .ok (.iload 5, 2) := by decide +kernel
theorem dM_deliver_89 : decode cM_deliver 89 = .ok (.iadd, 1) := by decide +kernel
theorem dM_deliver_90 : decode cM_deliver 90 = .ok (.baload, 1) := by decide +kernel
theorem dM_deliver_91 : decode cM_deliver 91 = .ok (.ifCond .eq 45, 3) := by decide +kernel
theorem dM_deliver_94 : decode cM_deliver 94 = .ok (.aload_n 0, 1) := by decide +kernel
theorem dM_deliver_95 : decode cM_deliver 95 = .ok (.iload_n 1, 1) := by decide +kernel
theorem dM_deliver_96 : decode cM_deliver 96 = .ok (.iload 5, 2) := by decide +kernel
theorem dM_deliver_98 : decode cM_deliver 98 = .ok (.invokevirtual 86, 3) := by decide +kernel
theorem dM_deliver_101 : decode cM_deliver 101 = .ok (.ifCond .eq 35, 3) := by decide +kernel
theorem dM_deliver_104 : decode cM_deliver 104 = .ok (.aload_n 0, 1) := by decide +kernel
theorem dM_deliver_105 : decode cM_deliver 105 = .ok (.getfield 32, 3) := by decide +kernel
theorem dM_deliver_108 : decode cM_deliver 108 = .ok (.bipush 100, 2) := by decide +kernel
theorem dM_deliver_110 : decode cM_deliver 110 = .ok (.iload_n 1, 1) := by decide +kernel
theorem dM_deliver_111 : decode cM_deliver 111 = .ok (.imul, 1) := by decide +kernel
theorem dM_deliver_112 : decode cM_deliver 112 = .ok (.iload 5, 2) := by decide +kernel
theorem dM_deliver_114 : decode cM_deliver 114 = .ok (.iadd, 1) := by decide +kernel
theorem dM_deliver_115 : decode cM_deliver 115 = .ok (.iconst 0, 1) := by decide +kernel
theorem dM_deliver_116 : decode cM_deliver 116 = .ok (.bastore, 1) := by decide +kernel
theorem dM_deliver_117 : decode cM_deliver 117 = .ok (.aload_n 0, 1) := by decide +kernel
theorem dM_deliver_118 : decode cM_deliver 118 = .ok (.getfield 28, 3) := by decide +kernel
theorem dM_deliver_121 : decode cM_deliver 121 = .ok (.bipush 100, 2) := by decide +kernel
theorem dM_deliver_123 : decode cM_deliver 123 = .ok (.iload_n 1, 1) := by decide +kernel
theorem dM_deliver_124 : decode cM_deliver 124 = .ok (.imul, 1) := by decide +kernel
theorem dM_deliver_125 : decode cM_deliver 125 = .ok (.iload 5, 2) := by decide +kernel
theorem dM_deliver_127 : decode cM_deliver 127 = .ok (.iadd, 1) := by decide +kernel
theorem dM_deliver_128 : decode cM_deliver 128 = .ok (.iconst 1, 1) := by decide +kernel
theorem dM_deliver_129 : decode cM_deliver 129 = .ok (.bastore, 1) := by decide +kernel
theorem dM_deliver_130 : decode cM_deliver 130 = .ok (.iinc 3 1, 3) := by decide +kernel
theorem dM_deliver_133 : decode cM_deliver 133 = .ok (.iconst 1, 1) := by decide +kernel
theorem dM_deliver_134 : decode cM_deliver 134 = .ok (.istore 4, 2) := by decide +kernel
theorem dM_deliver_136 : decode cM_deliver 136 = .ok (.iinc 5 1, 3) := by decide +kernel
theorem dM_deliver_139 : decode cM_deliver 139 = .ok (.goto (-69), 3) := by decide +kernel
theorem dM_deliver_142 : decode cM_deliver 142 = .ok (.goto (-83), 3) := by decide +kernel
theorem dM_deliver_145 : decode cM_deliver 145 = .ok (.iload_n 3, 1) := by decide +kernel
theorem dM_deliver_146 : decode cM_deliver 146 = .ok (.ireturn, 1) := by decide +kernel
theorem dM_isOperation_0 : decode cM_isOperation 0 = .ok (.iload_n 1, 1) := by decide +kernel
theorem dM_isOperation_1 : decode cM_isOperation 1 = .ok (.ifCond .lt 15, 3) := by decide +kernel
theorem dM_isOperation_4 : decode cM_isOperation 4 = .ok (.iload_n 1, 1) := by decide +kernel
theorem dM_isOperation_5 : decode cM_isOperation 5 = .ok (.aload_n 0, 1) := by decide +kernel
theorem dM_isOperation_6 : decode cM_isOperation 6 = .ok (.getfield 44, 3) := by decide +kernel
theorem dM_isOperation_9 : decode cM_isOperation 9 = .ok (.if_icmp .ge 7, 3) := by decide +kernel
theorem dM_isOperation_12 : decode cM_isOperation 12 = .ok (.iconst 1, 1) := by decide +kernel
theorem dM_isOperation_13 : decode cM_isOperation 13 = .ok (.goto 4, 3) := by decide +kernel
theorem dM_isOperation_16 : decode cM_isOperation 16 = .ok (.iconst 0, 1) := by decide +kernel
theorem dM_isOperation_17 : decode cM_isOperation 17 = .ok (.ireturn, 1) := by decide +kernel
theorem dM_ready_0 : decode cM_ready 0 = .ok (.aload_n 0, 1) := by decide +kernel
theorem dM_ready_1 : decode cM_ready 1 = .ok (.iload_n 1, 1) := by decide +kernel
theorem dM_ready_2 : decode cM_ready 2 = .ok (.aload_n 0, 1) := by decide +kernel
theorem dM_ready_3 : decode cM_ready 3 = .ok (.getfield 7, 3) := by decide +kernel
theorem dM_ready_6 : decode cM_ready 6 = .ok (.iload_n 2, 1) := by decide +kernel
theorem dM_ready_7 : decode cM_ready 7 = .ok (.iaload, 1) := by decide +kernel
theorem dM_ready_8 : decode cM_ready 8 = .ok (.invokevirtual 69, 3) := by decide +kernel
theorem dM_ready_11 : decode cM_ready 11 = .ok (.aload_n 0, 1) := by decide +kernel
theorem dM_ready_12 : decode cM_ready 12 = .ok (.getfield 13, 3) := by decide +kernel
theorem dM_ready_15 : decode cM_ready 15 = .ok (.iload_n 2, 1) := by decide +kernel
theorem dM_ready_16 : decode cM_ready 16 = .ok (.iaload, 1) := by decide +kernel
theorem dM_ready_17 : decode cM_ready 17 = .ok (.iconst 1, 1) := by decide +kernel
theorem dM_ready_18 : decode cM_ready 18 = .ok (.isub, 1) := by decide +kernel
theorem dM_ready_19 : decode cM_ready 19 = .ok (.if_icmp .ne 7, 3) := by decide +kernel
theorem dM_ready_22 : decode cM_ready 22 = .ok (.iconst 1, 1) := by decide +kernel
theorem dM_ready_23 : decode cM_ready 23 = .ok (.goto 4, 3) := by decide +kernel
end
section
theorem dM_ready_26 : decode cM_ready 26 = .ok (.iconst 0, 1) := by decide +kernel
theorem dM_ready_27 : decode cM_ready 27 = .ok (.istore_n 3, 1) := by decide +kernel
theorem dM_ready_28 : decode cM_ready 28 = .ok (.iconst 0, 1) := by decide +kernel
theorem dM_ready_29 : decode cM_ready 29 = .ok (.istore 4, 2) := by decide +kernel
theorem dM_ready_31 : decode cM_ready 31 = .ok (.iload 4, 2) := by decide +kernel
theorem dM_ready_33 : decode cM_ready 33 = .ok (.iconst 3, 1) := by decide +kernel
theorem dM_ready_34 : decode cM_ready 34 = .ok (.if_icmp .ge 51, 3) := by decide +kernel
theorem dM_ready_37 : decode cM_ready 37 = .ok (.iload_n 3, 1) := by decide +kernel
theorem dM_ready_38 : decode cM_ready 38 = .ok (.ifCond .eq 39, 3) := by decide +kernel
theorem dM_ready_41 : decode cM_ready 41 = .ok (.iload 4, 2) := by decide +kernel
theorem dM_ready_43 : decode cM_ready 43 = .ok (.aload_n 0, 1) := by decide +kernel
theorem dM_ready_44 : decode cM_ready 44 = .ok (.getfield 7, 3) := by decide +kernel
theorem dM_ready_47 : decode cM_ready 47 = .ok (.iload_n 2, 1) := by decide +kernel
theorem dM_ready_48 : decode cM_ready 48 = .ok (.iaload, 1) := by decide +kernel
theorem dM_ready_49 : decode cM_ready 49 = .ok (.if_icmp .eq 24, 3) := by decide +kernel
theorem dM_ready_52 : decode cM_ready 52 = .ok (.aload_n 0, 1) := by decide +kernel
theorem dM_ready_53 : decode cM_ready 53 = .ok (.iload_n 1, 1) := by decide +kernel
theorem dM_ready_54 : decode cM_ready 54 = .ok (.iload 4, 2) := by decide +kernel
theorem dM_ready_56 : decode cM_ready 56 = .ok (.invokevirtual 69, 3) := by decide +kernel
theorem dM_ready_59 : decode cM_ready 59 = .ok (.aload_n 0, 1) := by decide +kernel
theorem dM_ready_60 : decode cM_ready 60 = .ok (.getfield 25, 3) := by decide +kernel
theorem dM_ready_63 : decode cM_ready 63 = .ok (.iconst 3, 1) := by decide +kernel
theorem dM_ready_64 : decode cM_ready 64 = .ok (.iload_n 2, 1) := by decide +kernel
theorem dM_ready_65 : decode cM_ready 65 = .ok (.imul, 1) := by decide +kernel
theorem dM_ready_66 : decode cM_ready 66 = .ok (.iload 4, 2) := by decide +kernel
theorem dM_ready_68 : decode cM_ready 68 = .ok (.iadd, 1) := by decide +kernel
theorem dM_ready_69 : decode cM_ready 69 = .ok (.iaload, 1) := by decide +kernel
theorem dM_ready_70 : decode cM_ready 70 = .ok (.if_icmp .lt 7, 3) := by decide +kernel
theorem dM_ready_73 : decode cM_ready 73 = .ok (.iconst 1, 1) := by decide +kernel
theorem dM_ready_74 : decode cM_ready 74 = .ok (.goto 4, 3) := by decide +kernel
theorem dM_ready_77 : decode cM_ready 77 = .ok (.iconst 0, 1) := by decide +kernel
theorem dM_ready_78 : decode cM_ready 78 = .ok (.istore_n 3, 1) := by decide +kernel
theorem dM_ready_79 : decode cM_ready 79 = .ok (.iinc 4 1, 3) := by decide +kernel
theorem dM_ready_82 : decode cM_ready 82 = .ok (.goto (-51), 3) := by decide +kernel
theorem dM_ready_85 : decode cM_ready 85 = .ok (.iload_n 3, 1) := by decide +kernel
theorem dM_ready_86 : decode cM_ready 86 = .ok (.ireturn, 1) := by decide +kernel
theorem dM_sync_0 : decode cM_sync 0 = .ok (.iload_n 1, 1) := by decide +kernel
theorem dM_sync_1 : decode cM_sync 1 = .ok (.invokestatic 72, 3) := by decide +kernel
theorem dM_sync_4 : decode cM_sync 4 = .ok (.ifCond .eq 10, 3) := by decide +kernel
theorem dM_sync_7 : decode cM_sync 7 = .ok (.iload_n 2, 1) := by decide +kernel
theorem dM_sync_8 : decode cM_sync 8 = .ok (.invokestatic 72, 3) := by decide +kernel
theorem dM_sync_11 : decode cM_sync 11 = .ok (.ifCond .ne 5, 3) := by decide +kernel
theorem dM_sync_14 : decode cM_sync 14 = .ok (.iconst (-1), 1) := by decide +kernel
theorem dM_sync_15 : decode cM_sync 15 = .ok (.ireturn, 1) := by decide +kernel
theorem dM_sync_16 : decode cM_sync 16 = .ok (.iconst 0, 1) := by decide +kernel
theorem dM_sync_17 : decode cM_sync 17 = .ok (.istore_n 3, 1) := by decide +kernel
theorem dM_sync_18 : decode cM_sync 18 = .ok (.iconst 0, 1) := by decide +kernel
theorem dM_sync_19 : decode cM_sync 19 = .ok (.istore 4, 2) := by decide +kernel
theorem dM_sync_21 : decode cM_sync 21 = .ok (.iload 4, 2) := by decide +kernel
theorem dM_sync_23 : decode cM_sync 23 = .ok (.aload_n 0, 1) := by decide +kernel
theorem dM_sync_24 : decode cM_sync 24 = .ok (.getfield 44, 3) := by decide +kernel
theorem dM_sync_27 : decode cM_sync 27 = .ok (.if_icmp .ge 33, 3) := by decide +kernel
theorem dM_sync_30 : decode cM_sync 30 = .ok (.iload_n 3, 1) := by decide +kernel
theorem dM_sync_31 : decode cM_sync 31 = .ok (.aload_n 0, 1) := by decide +kernel
theorem dM_sync_32 : decode cM_sync 32 = .ok (.iload_n 2, 1) := by decide +kernel
theorem dM_sync_33 : decode cM_sync 33 = .ok (.iload 4, 2) := by decide +kernel
theorem dM_sync_35 : decode cM_sync 35 = .ok (.invokevirtual 48, 3) := by decide +kernel
theorem dM_sync_38 : decode cM_sync 38 = .ok (.ifCond .eq 13, 3) := by decide +kernel
theorem dM_sync_41 : decode cM_sync 41 = .ok (.aload_n 0, 1) := by decide +kernel
theorem dM_sync_42 : decode cM_sync 42 = .ok (.iload_n 1, 1) := by decide +kernel
theorem dM_sync_43 : decode cM_sync 43 = .ok (.iload 4, 2) := by decide +kernel
theorem dM_sync_45 : decode cM_sync 45 = .ok (.invokevirtual 89, 3) := by decide +kernel
theorem dM_sync_48 : decode cM_sync 48 = .ok (.goto 4, 3) := by decide +kernel
theorem dM_sync_51 : decode cM_sync 51 = .ok (.iconst 0, 1) := by decide +kernel
theorem dM_sync_52 : decode cM_sync 52 = .ok (.iadd, 1) := by decide +kernel
theorem dM_sync_53 : decode cM_sync 53 = .ok (.istore_n 3, 1) := by decide +kernel
theorem dM_sync_54 : decode cM_sync 54 = .ok (.iinc 4 1, 3) := by decide +kernel
theorem dM_sync_57 : decode cM_sync 57 = .ok (.goto (-36), 3) := by decide +kernel
theorem dM_sync_60 : decode cM_sync 60 = .ok (.iload_n 3, 1) := by decide +kernel
theorem dM_sync_61 : decode cM_sync 61 = .ok (.ireturn, 1) := by decide +kernel
theorem dM_known_0 : decode cM_known 0 = .ok (.iload_n 1, 1) := by decide +kernel
theorem dM_known_1 : decode cM_known 1 = .ok (.invokestatic 72, 3) := by decide +kernel
theorem dM_known_4 : decode cM_known 4 = .ok (.ifCond .eq 17, 3) := by decide +kernel
theorem dM_known_7 : decode cM_known 7 = .ok (.iload_n 2, 1) := by decide +kernel
theorem dM_known_8 : decode cM_known 8 = .ok (.invokestatic 72, 3) := by decide +kernel
theorem dM_known_11 : decode cM_known 11 = .ok (.ifCond .eq 10, 3) := by decide +kernel
theorem dM_known_14 : decode cM_known 14 = .ok (.iload_n 3, 1) := by decide +kernel
theorem dM_known_15 : decode cM_known 15 = .ok (.invokestatic 72, 3) := by decide +kernel
theorem dM_known_18 : decode cM_known 18 = .ok (.ifCond .ne 5, 3) := by decide +kernel
theorem dM_known_21 : decode cM_known 21 = .ok (.iconst (-1), 1) := by decide +kernel
theorem dM_known_22 : decode cM_known 22 = .ok (.ireturn, 1) := by decide +kernel
theorem dM_known_23 : decode cM_known 23 = .ok (.iload_n 2, 1) := by decide +kernel
theorem dM_known_24 : decode cM_known 24 = .ok (.iload_n 1, 1) := by decide +kernel
theorem dM_known_25 : decode cM_known 25 = .ok (.if_icmp .ne 10, 3) := by decide +kernel
theorem dM_known_28 : decode cM_known 28 = .ok (.aload_n 0, 1) := by decide +kernel
theorem dM_known_29 : decode cM_known 29 = .ok (.iload_n 1, 1) := by decide +kernel
theorem dM_known_30 : decode cM_known 30 = .ok (.iload_n 3, 1) := by decide +kernel
theorem dM_known_31 : decode cM_known 31 = .ok (.invokevirtual 69, 3) := by decide +kernel
theorem dM_known_34 : decode cM_known 34 = .ok (.ireturn, 1) := by decide +kernel
theorem dM_known_35 : decode cM_known 35 = .ok (.iconst 0, 1) := by decide +kernel
theorem dM_known_36 : decode cM_known 36 = .ok (.istore 4, 2) := by decide +kernel
theorem dM_known_38 : decode cM_known 38 = .ok (.iconst 0, 1) := by decide +kernel
theorem dM_known_39 : decode cM_known 39 = .ok (.istore 5, 2) := by decide +kernel
theorem dM_known_41 : decode cM_known 41 = .ok (.iconst 0, 1) := by decide +kernel
theorem dM_known_42 : decode cM_known 42 = .ok (.istore 6, 2) := by decide +kernel
theorem dM_known_44 : decode cM_known 44 = .ok (.iload 6, 2) := by decide +kernel
theorem dM_known_46 : decode cM_known 46 = .ok (.aload_n 0, 1) := by decide +kernel
theorem dM_known_47 : decode cM_known 47 = .ok (.getfield 44, 3) := by decide +kernel
theorem dM_known_50 : decode cM_known 50 = .ok (.if_icmp .ge 64, 3) := by decide +kernel
theorem dM_known_53 : decode cM_known 53 = .ok (.aload_n 0, 1) := by decide +kernel
theorem dM_known_54 : decode cM_known 54 = .ok (.getfield 7, 3) := by decide +kernel
theorem dM_known_57 : decode cM_known 57 = .ok (.iload 6, 2) := by decide +kernel
theorem dM_known_59 : decode cM_known 59 = .ok (.iaload, 1) := by decide +kernel
theorem dM_known_60 : decode cM_known 60 = .ok (.iload_n 2, 1) := by decide +kernel
theorem dM_known_61 : decode cM_known 61 = .ok (.if_icmp .ne 47, 3) := by decide +kernel
theorem dM_known_64 : decode cM_known 64 = .ok (.aload_n 0, 1) := by decide +kernel
theorem dM_known_65 : decode cM_known 65 = .ok (.iload_n 1, 1) := by decide +kernel
theorem dM_known_66 : decode cM_known 66 = .ok (.iload 6, 2) := by decide +kernel
theorem dM_known_68 : decode cM_known 68 = .ok (.invokevirtual 48, 3) := by decide +kernel
theorem dM_known_71 : decode cM_known 71 = .ok (.ifCond .eq 37, 3) := by decide +kernel
theorem dM_known_74 : decode cM_known 74 = .ok (.aload_n 0, 1) := by decide +kernel
theorem dM_known_75 : decode cM_known 75 = .ok (.getfield 13, 3) := by decide +kernel
theorem dM_known_78 : decode cM_known 78 = .ok (.iload 6, 2) := by decide +kernel
theorem dM_known_80 : decode cM_known 80 = .ok (.iaload, 1) := by decide +kernel
theorem dM_known_81 : decode cM_known 81 = .ok (.iload 5, 2) := by decide +kernel
theorem dM_known_83 : decode cM_known 83 = .ok (.if_icmp .le 25, 3) := by decide +kernel
theorem dM_known_86 : decode cM_known 86 = .ok (.aload_n 0, 1) := by decide +kernel
theorem dM_known_87 : decode cM_known 87 = .ok (.getfield 13, 3) := by decide +kernel
theorem dM_known_90 : decode cM_known 90 = .ok (.iload 6, 2) := by decide +kernel
theorem dM_known_92 : decode cM_known 92 = .ok (.iaload, 1) := by decide +kernel
theorem dM_known_93 : decode cM_known 93 = .ok (.istore 5, 2) := by decide +kernel
theorem dM_known_95 : decode cM_known 95 = .ok (.aload_n 0, 1) := by decide +kernel
theorem dM_known_96 : decode cM_known 96 = .ok (.getfield 25, 3) := by decide +kernel
theorem dM_known_99 : decode cM_known 99 = .ok (.iconst 3, 1) := by decide +kernel
theorem dM_known_100 : decode cM_known 100 = .ok (.iload 6, 2) := by decide +kernel
theorem dM_known_102 : decode cM_known 102 = .ok (.imul, 1) := by decide +kernel
theorem dM_known_103 : decode cM_known 103 = .ok (.iload_n 3, 1) := by decide +kernel
theorem dM_known_104 : decode cM_known 104 = .ok (.iadd, 1) := by decide +kernel
theorem dM_known_105 : decode cM_known 105 = .ok (.iaload, 1) := by decide +kernel
theorem dM_known_106 : decode cM_known 106 = .ok (.istore 4, 2) := by decide +kernel
theorem dM_known_108 : decode cM_known 108 = .ok (.iinc 6 1, 3) := by decide +kernel
theorem dM_known_111 : decode cM_known 111 = .ok (.goto (-67), 3) := by decide +kernel
theorem dM_known_114 : decode cM_known 114 = .ok (.iload 4, 2) := by decide +kernel
theorem dM_known_116 : decode cM_known 116 = .ok (.ireturn, 1) := by decide +kernel
theorem dM_stable_0 : decode cM_stable 0 = .ok (.iload_n 1, 1) := by decide +kernel
theorem dM_stable_1 : decode cM_stable 1 = .ok (.invokestatic 72, 3) := by decide +kernel
theorem dM_stable_4 : decode cM_stable 4 = .ok (.ifCond .eq 20, 3) := by decide +kernel
theorem dM_stable_7 : decode cM_stable 7 = .ok (.aload_n 0, 1) := by decide +kernel
theorem dM_stable_8 : decode cM_stable 8 = .ok (.iload_n 2, 1) := by decide +kernel
theorem dM_stable_9 : decode cM_stable 9 = .ok (.invokevirtual 83, 3) := by decide +kernel
theorem dM_stable_12 : decode cM_stable 12 = .ok (.ifCond .eq 12, 3) := by decide +kernel
theorem dM_stable_15 : decode cM_stable 15 = .ok (.aload_n 0, 1) := by decide +kernel
theorem dM_stable_16 : decode cM_stable 16 = .ok (.iload_n 1, 1) := by decide +kernel
theorem dM_stable_17 : decode cM_stable 17 = .ok (.iload_n 2, 1) := by decide +kernel
theorem dM_stable_18 : decode cM_stable 18 = .ok (.invokevirtual 48, 3) := by decide +kernel
theorem dM_stable_21 : decode cM_stable 21 = .ok (.ifCond .ne 5, 3) := by decide +kernel
theorem dM_stable_24 : decode cM_stable 24 = .ok (.iconst 0, 1) := by decide +kernel
theorem dM_stable_25 : decode cM_stable 25 = .ok (.ireturn, 1) := by decide +kernel
theorem dM_stable_26 : decode cM_stable 26 = .ok (.iconst 1, 1) := by decide +kernel
theorem dM_stable_27 : decode cM_stable 27 = .ok (.istore_n 3, 1) := by decide +kernel
theorem dM_stable_28 : decode cM_stable 28 = .ok (.iconst 0, 1) := by decide +kernel
theorem dM_stable_29 : decode cM_stable 29 = .ok (.istore 4, 2) := by decide +kernel
theorem dM_stable_31 : decode cM_stable 31 = .ok (.iload 4, 2) := by decide +kernel
theorem dM_stable_33 : decode cM_stable 33 = .ok (.iconst 3, 1) := by decide +kernel
theorem dM_stable_34 : decode cM_stable 34 = .ok (.if_icmp .ge 41, 3) := by decide +kernel
theorem dM_stable_37 : decode cM_stable 37 = .ok (.iload_n 3, 1) := by decide +kernel
theorem dM_stable_38 : decode cM_stable 38 = .ok (.ifCond .eq 29, 3) := by decide +kernel
theorem dM_stable_41 : decode cM_stable 41 = .ok (.aload_n 0, 1) := by decide +kernel
theorem dM_stable_42 : decode cM_stable 42 = .ok (.iload_n 1, 1) := by decide +kernel
theorem dM_stable_43 : decode cM_stable 43 = .ok (.iload 4, 2) := by decide +kernel
theorem dM_stable_45 : decode cM_stable 45 = .ok (.aload_n 0, 1) := by decide +kernel
theorem dM_stable_46 : decode cM_stable 46 = .ok (.getfield 7, 3) := by decide +kernel
theorem dM_stable_49 : decode cM_stable 49 = .ok (.iload_n 2, 1) := by decide +kernel
theorem dM_stable_50 : decode cM_stable 50 = .ok (.iaload, 1) := by decide +kernel
theorem dM_stable_51 : decode cM_stable 51 = .ok (.invokevirtual 92, 3) := by decide +kernel
theorem dM_stable_54 : decode cM_stable 54 = .ok (.aload_n 0, 1) := by decide +kernel
theorem dM_stable_55 : decode cM_stable 55 = .ok (.getfield 13, 3) := by decide +kernel
theorem dM_stable_58 : decode cM_stable 58 = .ok (.iload_n 2, 1) := by decide +kernel
theorem dM_stable_59 : decode cM_stable 59 = .ok (.iaload, 1) := by decide +kernel
theorem dM_stable_60 : decode cM_stable 60 = .ok (.if_icmp .lt 7, 3) := by decide +kernel
theorem dM_stable_63 : decode cM_stable 63 = .ok (.iconst 1, 1) := by decide +kernel
theorem dM_stable_64 : decode cM_stable 64 = .ok (.goto 4, 3) := by decide +kernel
theorem dM_stable_67 : decode cM_stable 67 = .ok (.iconst 0, 1) := by decide +kernel
theorem dM_stable_68 : decode cM_stable 68 = .ok (.istore_n 3, 1) := by decide +kernel
theorem dM_stable_69 : decode cM_stable 69 = .ok (.iinc 4 1, 3) := by decide +kernel
theorem dM_stable_72 : decode cM_stable 72 = .ok (.goto (-41), 3) := by decide +kernel
theorem dM_stable_75 : decode cM_stable 75 = .ok (.iload_n 3, 1) := by decide +kernel
theorem dM_stable_76 : decode cM_stable 76 = .ok (.ireturn, 1) := by decide +kernel
theorem dM_collect_0 : decode cM_collect 0 = .ok (.iload_n 1, 1) := by decide +kernel
theorem dM_collect_1 : decode cM_collect 1 = .ok (.invokestatic 72, 3) := by decide +kernel
theorem dM_collect_4 : decode cM_collect 4 = .ok (.ifCond .ne 5, 3) := by decide +kernel
theorem dM_collect_7 : decode cM_collect 7 = .ok (.iconst (-1), 1) := by decide +kernel
theorem dM_collect_8 : decode cM_collect 8 = .ok (.ireturn, 1) := by decide +kernel
theorem dM_collect_9 : decode cM_collect 9 = .ok (.iconst 0, 1) := by decide +kernel
theorem dM_collect_10 : decode cM_collect 10 = .ok (.istore_n 2, 1) := by decide +kernel
theorem dM_collect_11 : decode cM_collect 11 = .ok (.iconst 0, 1) := by decide +kernel
theorem dM_collect_12 : decode cM_collect 12 = .ok (.istore_n 3, 1) := by decide +kernel
theorem dM_collect_13 : decode cM_collect 13 = .ok (.iload_n 3, 1) := by decide +kernel
theorem dM_collect_14 : decode cM_collect 14 = .ok (.aload_n 0, 1) := by decide +kernel
theorem dM_collect_15 : decode cM_collect 15 = .ok (.getfield 44, 3) := by decide +kernel
theorem dM_collect_18 : decode cM_collect 18 = .ok (.if_icmp .ge 42, 3) := by decide +kernel
theorem dM_collect_21 : decode cM_collect 21 = .ok (.aload_n 0, 1) := by decide +kernel
theorem dM_collect_22 : decode cM_collect 22 = .ok (.iload_n 1, 1) := by decide +kernel
theorem dM_collect_23 : decode cM_collect 23 = .ok (.iload_n 3, 1) := by decide +kernel
theorem dM_collect_24 : decode cM_collect 24 = .ok (.invokevirtual 98, 3) := by decide +kernel
theorem dM_collect_27 : decode cM_collect 27 = .ok (.ifCond .eq 27, 3) := by decide +kernel
theorem dM_collect_30 : decode cM_collect 30 = .ok (.aload_n 0, 1) := by decide +kernel
theorem dM_collect_31 : decode cM_collect 31 = .ok (.iload_n 1, 1) := by decide +kernel
theorem dM_collect_32 : decode cM_collect 32 = .ok (.iload_n 3, 1) := by decide +kernel
theorem dM_collect_33 : decode cM_collect 33 = .ok (.invokevirtual 101, 3) := by decide +kernel
theorem dM_collect_36 : decode cM_collect 36 = .ok (.ifCond .eq 18, 3) := by decide +kernel
theorem dM_collect_39 : decode cM_collect 39 = .ok (.aload_n 0, 1) := by decide +kernel
theorem dM_collect_40 : decode cM_collect 40 = .ok (.getfield 35, 3) := by decide +kernel
theorem dM_collect_43 : decode cM_collect 43 = .ok (.bipush 100, 2) := by decide +kernel
theorem dM_collect_45 : decode cM_collect 45 = .ok (.iload_n 1, 1) := by decide +kernel
theorem dM_collect_46 : decode cM_collect 46 = .ok (.imul, 1) := by decide +kernel
theorem dM_collect_47 : decode cM_collect 47 = .ok (.iload_n 3, 1) := by decide +kernel
theorem dM_collect_48 : decode cM_collect 48 = .ok (.iadd, 1) := by decide +kernel
theorem dM_collect_49 : decode cM_collect 49 = .ok (.iconst 1, 1) := by decide +kernel
theorem dM_collect_50 : decode cM_collect 50 = .ok (.bastore, 1) := by decide +kernel
theorem dM_collect_51 : decode cM_collect 51 = .ok (.iinc 2 1, 3) := by decide +kernel
theorem dM_collect_54 : decode cM_collect 54 = .ok (.iinc 3 1, 3) := by decide +kernel
theorem dM_collect_57 : decode cM_collect 57 = .ok (.goto (-44), 3) := by decide +kernel
theorem dM_collect_60 : decode cM_collect 60 = .ok (.iload_n 2, 1) := by decide +kernel
theorem dM_collect_61 : decode cM_collect 61 = .ok (.ireturn, 1) := by decide +kernel
theorem dM_keeps_0 : decode cM_keeps 0 = .ok (.aload_n 0, 1) := by decide +kernel
theorem dM_keeps_1 : decode cM_keeps 1 = .ok (.getfield 19, 3) := by decide +kernel
theorem dM_keeps_4 : decode cM_keeps 4 = .ok (.iload_n 2, 1) := by decide +kernel
theorem dM_keeps_5 : decode cM_keeps 5 = .ok (.iaload, 1) := by decide +kernel
theorem dM_keeps_6 : decode cM_keeps 6 = .ok (.ifCond .le 30, 3) := by decide +kernel
theorem dM_keeps_9 : decode cM_keeps 9 = .ok (.aload_n 0, 1) := by decide +kernel
theorem dM_keeps_10 : decode cM_keeps 10 = .ok (.iload_n 1, 1) := by decide +kernel
theorem dM_keeps_11 : decode cM_keeps 11 = .ok (.iload_n 2, 1) := by decide +kernel
theorem dM_keeps_12 : decode cM_keeps 12 = .ok (.invokevirtual 48, 3) := by decide +kernel
theorem dM_keeps_15 : decode cM_keeps 15 = .ok (.ifCond .eq 21, 3) := by decide +kernel
theorem dM_keeps_18 : decode cM_keeps 18 = .ok (.aload_n 0, 1) := by decide +kernel
theorem dM_keeps_19 : decode cM_keeps 19 = .ok (.getfield 35, 3) := by decide +kernel
theorem dM_keeps_22 : decode cM_keeps 22 = .ok (.bipush 100, 2) := by decide +kernel
theorem dM_keeps_24 : decode cM_keeps 24 = .ok (.iload_n 1, 1) := by decide +kernel
theorem dM_keeps_25 : decode cM_keeps 25 = .ok (.imul, 1) := by decide +kernel
theorem dM_keeps_26 : decode cM_keeps 26 = .ok (.iload_n 2, 1) := by decide +kernel
theorem dM_keeps_27 : decode cM_keeps 27 = .ok (.iadd, 1) := by decide +kernel
theorem dM_keeps_28 : decode cM_keeps 28 = .ok (.baload, 1) := by decide +kernel
theorem dM_keeps_29 : decode cM_keeps 29 = .ok (.ifCond .ne 7, 3) := by decide +kernel
theorem dM_keeps_32 : decode cM_keeps 32 = .ok (.iconst 1, 1) := by decide +kernel
theorem dM_keeps_33 : decode cM_keeps 33 = .ok (.goto 4, 3) := by decide +kernel
theorem dM_keeps_36 : decode cM_keeps 36 = .ok (.iconst 0, 1) := by decide +kernel
theorem dM_keeps_37 : decode cM_keeps 37 = .ok (.ireturn, 1) := by decide +kernel
theorem dM_idle_0 : decode cM_idle 0 = .ok (.iconst 0, 1) := by decide +kernel
theorem dM_idle_1 : decode cM_idle 1 = .ok (.istore_n 3, 1) := by decide +kernel
theorem dM_idle_2 : decode cM_idle 2 = .ok (.iconst 1, 1) := by decide +kernel
theorem dM_idle_3 : decode cM_idle 3 = .ok (.istore 4, 2) := by decide +kernel
theorem dM_idle_5 : decode cM_idle 5 = .ok (.iconst 0, 1) := by decide +kernel
theorem dM_idle_6 : decode cM_idle 6 = .ok (.istore 5, 2) := by decide +kernel
theorem dM_idle_8 : decode cM_idle 8 = .ok (.iload 5, 2) := by decide +kernel
theorem dM_idle_10 : decode cM_idle 10 = .ok (.aload_n 0, 1) := by decide +kernel
theorem dM_idle_11 : decode cM_idle 11 = .ok (.getfield 44, 3) := by decide +kernel
theorem dM_idle_14 : decode cM_idle 14 = .ok (.if_icmp .ge 92, 3) := by decide +kernel
theorem dM_idle_17 : decode cM_idle 17 = .ok (.aload_n 0, 1) := by decide +kernel
theorem dM_idle_18 : decode cM_idle 18 = .ok (.getfield 22, 3) := by decide +kernel
theorem dM_idle_21 : decode cM_idle 21 = .ok (.iload 5, 2) := by decide +kernel
theorem dM_idle_23 : decode cM_idle 23 = .ok (.iaload, 1) := by decide +kernel
theorem dM_idle_24 : decode cM_idle 24 = .ok (.iload_n 2, 1) := by decide +kernel
theorem dM_idle_25 : decode cM_idle 25 = .ok (.if_icmp .ne 75, 3) := by decide +kernel
theorem dM_idle_28 : decode cM_idle 28 = .ok (.aload_n 0, 1) := by decide +kernel
theorem dM_idle_29 : decode cM_idle 29 = .ok (.iload_n 1, 1) := by decide +kernel
theorem dM_idle_30 : decode cM_idle 30 = .ok (.iload 5, 2) := by decide +kernel
theorem dM_idle_32 : decode cM_idle 32 = .ok (.invokevirtual 48, 3) := by decide +kernel
theorem dM_idle_35 : decode cM_idle 35 = .ok (.ifCond .eq 65, 3) := by decide +kernel
theorem dM_idle_38 : decode cM_idle 38 = .ok (.iload_n 3, 1) := by decide +kernel
theorem dM_idle_39 : decode cM_idle 39 = .ok (.ifCond .ne 23, 3) := by decide +kernel
theorem dM_idle_42 : decode cM_idle 42 = .ok (.aload_n 0, 1) := by decide +kernel
theorem dM_idle_43 : decode cM_idle 43 = .ok (.getfield 19, 3) := by decide +kernel
theorem dM_idle_46 : decode cM_idle 46 = .ok (.iload 5, 2) := by decide +kernel
theorem dM_idle_48 : decode cM_idle 48 = .ok (.iaload, 1) := by decide +kernel
theorem dM_idle_49 : decode cM_idle 49 = .ok (.ifCond .ne 17, 3) := by decide +kernel
theorem dM_idle_52 : decode cM_idle 52 = .ok (.aload_n 0, 1) := by decide +kernel
theorem dM_idle_53 : decode cM_idle 53 = .ok (.iload_n 1, 1) := by decide +kernel
theorem dM_idle_54 : decode cM_idle 54 = .ok (.iload 5, 2) := by decide +kernel
theorem dM_idle_56 : decode cM_idle 56 = .ok (.invokevirtual 95, 3) := by decide +kernel
theorem dM_idle_59 : decode cM_idle 59 = .ok (.ifCond .eq 7, 3) := by decide +kernel
theorem dM_idle_62 : decode cM_idle 62 = .ok (.iconst 1, 1) := by decide +kernel
theorem dM_idle_63 : decode cM_idle 63 = .ok (.goto 4, 3) := by decide +kernel
theorem dM_idle_66 : decode cM_idle 66 = .ok (.iconst 0, 1) := by decide +kernel
theorem dM_idle_67 : decode cM_idle 67 = .ok (.istore_n 3, 1) := by decide +kernel
theorem dM_idle_68 : decode cM_idle 68 = .ok (.iload 4, 2) := by decide +kernel
theorem dM_idle_70 : decode cM_idle 70 = .ok (.ifCond .eq 27, 3) := by decide +kernel
theorem dM_idle_73 : decode cM_idle 73 = .ok (.aload_n 0, 1) := by decide +kernel
theorem dM_idle_74 : decode cM_idle 74 = .ok (.getfield 19, 3) := by decide +kernel
theorem dM_idle_77 : decode cM_idle 77 = .ok (.iload 5, 2) := by decide +kernel
end
section
theorem dM_idle_79 : decode cM_idle 79 = .ok (.iaload, 1) := by decide +kernel
theorem dM_idle_80 : decode cM_idle 80 = .ok (.ifCond .eq 13, 3) := by decide +kernel
theorem dM_idle_83 : decode cM_idle 83 = .ok (.aload_n 0, 1) := by decide +kernel
theorem dM_idle_84 : decode cM_idle 84 = .ok (.iload_n 1, 1) := by decide +kernel
theorem dM_idle_85 : decode cM_idle 85 = .ok (.iload 5, 2) := by decide +kernel
theorem dM_idle_87 : decode cM_idle 87 = .ok (.invokevirtual 95, 3) := by decide +kernel
theorem dM_idle_90 : decode cM_idle 90 = .ok (.ifCond .eq 7, 3) := by decide +kernel
theorem dM_idle_93 : decode cM_idle 93 = .ok (.iconst 1, 1) := by decide +kernel
theorem dM_idle_94 : decode cM_idle 94 = .ok (.goto 4, 3) := by decide +kernel
theorem dM_idle_97 : decode cM_idle 97 = .ok (.iconst 0, 1) := by decide +kernel
theorem dM_idle_98 : decode cM_idle 98 = .ok (.istore 4, 2) := by decide +kernel
theorem dM_idle_100 : decode cM_idle 100 = .ok (.iinc 5 1, 3) := by decide +kernel
theorem dM_idle_103 : decode cM_idle 103 = .ok (.goto (-95), 3) := by decide +kernel
theorem dM_idle_106 : decode cM_idle 106 = .ok (.iload_n 3, 1) := by decide +kernel
theorem dM_idle_107 : decode cM_idle 107 = .ok (.ifCond .eq 12, 3) := by decide +kernel
theorem dM_idle_110 : decode cM_idle 110 = .ok (.iload 4, 2) := by decide +kernel
theorem dM_idle_112 : decode cM_idle 112 = .ok (.ifCond .eq 7, 3) := by decide +kernel
theorem dM_idle_115 : decode cM_idle 115 = .ok (.iconst 1, 1) := by decide +kernel
theorem dM_idle_116 : decode cM_idle 116 = .ok (.goto 4, 3) := by decide +kernel
theorem dM_idle_119 : decode cM_idle 119 = .ok (.iconst 0, 1) := by decide +kernel
theorem dM_idle_120 : decode cM_idle 120 = .ok (.ireturn, 1) := by decide +kernel
theorem dM_length_0 : decode cM_length 0 = .ok (.iload_n 1, 1) := by decide +kernel
theorem dM_length_1 : decode cM_length 1 = .ok (.invokestatic 72, 3) := by decide +kernel
theorem dM_length_4 : decode cM_length 4 = .ok (.ifCond .ne 5, 3) := by decide +kernel
theorem dM_length_7 : decode cM_length 7 = .ok (.iconst (-1), 1) := by decide +kernel
theorem dM_length_8 : decode cM_length 8 = .ok (.ireturn, 1) := by decide +kernel
theorem dM_length_9 : decode cM_length 9 = .ok (.aload_n 0, 1) := by decide +kernel
theorem dM_length_10 : decode cM_length 10 = .ok (.iload_n 1, 1) := by decide +kernel
theorem dM_length_11 : decode cM_length 11 = .ok (.invokevirtual 76, 3) := by decide +kernel
theorem dM_length_14 : decode cM_length 14 = .ok (.aload_n 0, 1) := by decide +kernel
theorem dM_length_15 : decode cM_length 15 = .ok (.getfield 59, 3) := by decide +kernel
theorem dM_length_18 : decode cM_length 18 = .ok (.ireturn, 1) := by decide +kernel
theorem dM_at_0 : decode cM_at 0 = .ok (.iload_n 1, 1) := by decide +kernel
theorem dM_at_1 : decode cM_at 1 = .ok (.invokestatic 72, 3) := by decide +kernel
theorem dM_at_4 : decode cM_at 4 = .ok (.ifCond .eq 7, 3) := by decide +kernel
theorem dM_at_7 : decode cM_at 7 = .ok (.iload_n 2, 1) := by decide +kernel
theorem dM_at_8 : decode cM_at 8 = .ok (.ifCond .ge 5, 3) := by decide +kernel
theorem dM_at_11 : decode cM_at 11 = .ok (.iconst (-1), 1) := by decide +kernel
theorem dM_at_12 : decode cM_at 12 = .ok (.ireturn, 1) := by decide +kernel
theorem dM_at_13 : decode cM_at 13 = .ok (.aload_n 0, 1) := by decide +kernel
theorem dM_at_14 : decode cM_at 14 = .ok (.iload_n 1, 1) := by decide +kernel
theorem dM_at_15 : decode cM_at 15 = .ok (.invokevirtual 76, 3) := by decide +kernel
theorem dM_at_18 : decode cM_at 18 = .ok (.iload_n 2, 1) := by decide +kernel
theorem dM_at_19 : decode cM_at 19 = .ok (.aload_n 0, 1) := by decide +kernel
theorem dM_at_20 : decode cM_at 20 = .ok (.getfield 59, 3) := by decide +kernel
theorem dM_at_23 : decode cM_at 23 = .ok (.if_icmp .ge 17, 3) := by decide +kernel
theorem dM_at_26 : decode cM_at 26 = .ok (.aload_n 0, 1) := by decide +kernel
theorem dM_at_27 : decode cM_at 27 = .ok (.getfield 19, 3) := by decide +kernel
theorem dM_at_30 : decode cM_at 30 = .ok (.aload_n 0, 1) := by decide +kernel
theorem dM_at_31 : decode cM_at 31 = .ok (.getfield 38, 3) := by decide +kernel
theorem dM_at_34 : decode cM_at 34 = .ok (.iload_n 2, 1) := by decide +kernel
theorem dM_at_35 : decode cM_at 35 = .ok (.iaload, 1) := by decide +kernel
theorem dM_at_36 : decode cM_at 36 = .ok (.iaload, 1) := by decide +kernel
theorem dM_at_37 : decode cM_at 37 = .ok (.goto 4, 3) := by decide +kernel
theorem dM_at_40 : decode cM_at 40 = .ok (.iconst (-1), 1) := by decide +kernel
theorem dM_at_41 : decode cM_at 41 = .ok (.ireturn, 1) := by decide +kernel
theorem dM_position_0 : decode cM_position 0 = .ok (.iload_n 1, 1) := by decide +kernel
theorem dM_position_1 : decode cM_position 1 = .ok (.invokestatic 72, 3) := by decide +kernel
theorem dM_position_4 : decode cM_position 4 = .ok (.ifCond .eq 11, 3) := by decide +kernel
theorem dM_position_7 : decode cM_position 7 = .ok (.aload_n 0, 1) := by decide +kernel
theorem dM_position_8 : decode cM_position 8 = .ok (.iload_n 2, 1) := by decide +kernel
theorem dM_position_9 : decode cM_position 9 = .ok (.invokevirtual 83, 3) := by decide +kernel
theorem dM_position_12 : decode cM_position 12 = .ok (.ifCond .ne 5, 3) := by decide +kernel
theorem dM_position_15 : decode cM_position 15 = .ok (.iconst (-1), 1) := by decide +kernel
theorem dM_position_16 : decode cM_position 16 = .ok (.ireturn, 1) := by decide +kernel
theorem dM_position_17 : decode cM_position 17 = .ok (.aload_n 0, 1) := by decide +kernel
theorem dM_position_18 : decode cM_position 18 = .ok (.iload_n 1, 1) := by decide +kernel
theorem dM_position_19 : decode cM_position 19 = .ok (.invokevirtual 76, 3) := by decide +kernel
theorem dM_position_22 : decode cM_position 22 = .ok (.iconst (-1), 1) := by decide +kernel
theorem dM_position_23 : decode cM_position 23 = .ok (.istore_n 3, 1) := by decide +kernel
theorem dM_position_24 : decode cM_position 24 = .ok (.iconst 0, 1) := by decide +kernel
theorem dM_position_25 : decode cM_position 25 = .ok (.istore 4, 2) := by decide +kernel
theorem dM_position_27 : decode cM_position 27 = .ok (.iload 4, 2) := by decide +kernel
theorem dM_position_29 : decode cM_position 29 = .ok (.aload_n 0, 1) := by decide +kernel
theorem dM_position_30 : decode cM_position 30 = .ok (.getfield 59, 3) := by decide +kernel
theorem dM_position_33 : decode cM_position 33 = .ok (.if_icmp .ge 27, 3) := by decide +kernel
theorem dM_position_36 : decode cM_position 36 = .ok (.aload_n 0, 1) := by decide +kernel
theorem dM_position_37 : decode cM_position 37 = .ok (.getfield 38, 3) := by decide +kernel
theorem dM_position_40 : decode cM_position 40 = .ok (.iload 4, 2) := by decide +kernel
theorem dM_position_42 : decode cM_position 42 = .ok (.iaload, 1) := by decide +kernel
theorem dM_position_43 : decode cM_position 43 = .ok (.iload_n 2, 1) := by decide +kernel
theorem dM_position_44 : decode cM_position 44 = .ok (.if_icmp .ne 8, 3) := by decide +kernel
theorem dM_position_47 : decode cM_position 47 = .ok (.iload 4, 2) := by decide +kernel
theorem dM_position_49 : decode cM_position 49 = .ok (.goto 4, 3) := by decide +kernel
theorem dM_position_52 : decode cM_position 52 = .ok (.iload_n 3, 1) := by decide +kernel
theorem dM_position_53 : decode cM_position 53 = .ok (.istore_n 3, 1) := by decide +kernel
theorem dM_position_54 : decode cM_position 54 = .ok (.iinc 4 1, 3) := by decide +kernel
theorem dM_position_57 : decode cM_position 57 = .ok (.goto (-30), 3) := by decide +kernel
theorem dM_position_60 : decode cM_position 60 = .ok (.iload_n 3, 1) := by decide +kernel
theorem dM_position_61 : decode cM_position 61 = .ok (.ireturn, 1) := by decide +kernel
theorem dM_same_0 : decode cM_same 0 = .ok (.iload_n 1, 1) := by decide +kernel
theorem dM_same_1 : decode cM_same 1 = .ok (.invokestatic 72, 3) := by decide +kernel
theorem dM_same_4 : decode cM_same 4 = .ok (.ifCond .eq 10, 3) := by decide +kernel
theorem dM_same_7 : decode cM_same 7 = .ok (.iload_n 2, 1) := by decide +kernel
theorem dM_same_8 : decode cM_same 8 = .ok (.invokestatic 72, 3) := by decide +kernel
theorem dM_same_11 : decode cM_same 11 = .ok (.ifCond .ne 5, 3) := by decide +kernel
theorem dM_same_14 : decode cM_same 14 = .ok (.iconst 0, 1) := by decide +kernel
theorem dM_same_15 : decode cM_same 15 = .ok (.ireturn, 1) := by decide +kernel
theorem dM_same_16 : decode cM_same 16 = .ok (.aload_n 0, 1) := by decide +kernel
theorem dM_same_17 : decode cM_same 17 = .ok (.iload_n 1, 1) := by decide +kernel
theorem dM_same_18 : decode cM_same 18 = .ok (.invokevirtual 76, 3) := by decide +kernel
theorem dM_same_21 : decode cM_same 21 = .ok (.aload_n 0, 1) := by decide +kernel
theorem dM_same_22 : decode cM_same 22 = .ok (.getfield 59, 3) := by decide +kernel
theorem dM_same_25 : decode cM_same 25 = .ok (.istore_n 3, 1) := by decide +kernel
theorem dM_same_26 : decode cM_same 26 = .ok (.iconst 0, 1) := by decide +kernel
theorem dM_same_27 : decode cM_same 27 = .ok (.istore 4, 2) := by decide +kernel
theorem dM_same_29 : decode cM_same 29 = .ok (.iload 4, 2) := by decide +kernel
theorem dM_same_31 : decode cM_same 31 = .ok (.iload_n 3, 1) := by decide +kernel
theorem dM_same_32 : decode cM_same 32 = .ok (.if_icmp .ge 28, 3) := by decide +kernel
theorem dM_same_35 : decode cM_same 35 = .ok (.aload_n 0, 1) := by decide +kernel
theorem dM_same_36 : decode cM_same 36 = .ok (.getfield 41, 3) := by decide +kernel
theorem dM_same_39 : decode cM_same 39 = .ok (.iload 4, 2) := by decide +kernel
theorem dM_same_41 : decode cM_same 41 = .ok (.aload_n 0, 1) := by decide +kernel
theorem dM_same_42 : decode cM_same 42 = .ok (.getfield 19, 3) := by decide +kernel
theorem dM_same_45 : decode cM_same 45 = .ok (.aload_n 0, 1) := by decide +kernel
theorem dM_same_46 : decode cM_same 46 = .ok (.getfield 38, 3) := by decide +kernel
theorem dM_same_49 : decode cM_same 49 = .ok (.iload 4, 2) := by decide +kernel
theorem dM_same_51 : decode cM_same 51 = .ok (.iaload, 1) := by decide +kernel
theorem dM_same_52 : decode cM_same 52 = .ok (.iaload, 1) := by decide +kernel
theorem dM_same_53 : decode cM_same 53 = .ok (.iastore, 1) := by decide +kernel
theorem dM_same_54 : decode cM_same 54 = .ok (.iinc 4 1, 3) := by decide +kernel
theorem dM_same_57 : decode cM_same 57 = .ok (.goto (-28), 3) := by decide +kernel
theorem dM_same_60 : decode cM_same 60 = .ok (.aload_n 0, 1) := by decide +kernel
theorem dM_same_61 : decode cM_same 61 = .ok (.iload_n 2, 1) := by decide +kernel
theorem dM_same_62 : decode cM_same 62 = .ok (.invokevirtual 76, 3) := by decide +kernel
theorem dM_same_65 : decode cM_same 65 = .ok (.iload_n 3, 1) := by decide +kernel
theorem dM_same_66 : decode cM_same 66 = .ok (.aload_n 0, 1) := by decide +kernel
theorem dM_same_67 : decode cM_same 67 = .ok (.getfield 59, 3) := by decide +kernel
theorem dM_same_70 : decode cM_same 70 = .ok (.if_icmp .ne 7, 3) := by decide +kernel
theorem dM_same_73 : decode cM_same 73 = .ok (.iconst 1, 1) := by decide +kernel
theorem dM_same_74 : decode cM_same 74 = .ok (.goto 4, 3) := by decide +kernel
theorem dM_same_77 : decode cM_same 77 = .ok (.iconst 0, 1) := by decide +kernel
theorem dM_same_78 : decode cM_same 78 = .ok (.istore 4, 2) := by decide +kernel
theorem dM_same_80 : decode cM_same 80 = .ok (.iconst 0, 1) := by decide +kernel
theorem dM_same_81 : decode cM_same 81 = .ok (.istore 5, 2) := by decide +kernel
theorem dM_same_83 : decode cM_same 83 = .ok (.iload 5, 2) := by decide +kernel
theorem dM_same_85 : decode cM_same 85 = .ok (.iload_n 3, 1) := by decide +kernel
theorem dM_same_86 : decode cM_same 86 = .ok (.if_icmp .ge 43, 3) := by decide +kernel
theorem dM_same_89 : decode cM_same 89 = .ok (.iload 4, 2) := by decide +kernel
theorem dM_same_91 : decode cM_same 91 = .ok (.ifCond .eq 38, 3) := by decide +kernel
theorem dM_same_94 : decode cM_same 94 = .ok (.aload_n 0, 1) := by decide +kernel
theorem dM_same_95 : decode cM_same 95 = .ok (.getfield 41, 3) := by decide +kernel
theorem dM_same_98 : decode cM_same 98 = .ok (.iload 5, 2) := by decide +kernel
theorem dM_same_100 : decode cM_same 100 = .ok (.iaload, 1) := by decide +kernel
theorem dM_same_101 : decode cM_same 101 = .ok (.aload_n 0, 1) := by decide +kernel
theorem dM_same_102 : decode cM_same 102 = .ok (.getfield 19, 3) := by decide +kernel
theorem dM_same_105 : decode cM_same 105 = .ok (.aload_n 0, 1) := by decide +kernel
theorem dM_same_106 : decode cM_same 106 = .ok (.getfield 38, 3) := by decide +kernel
theorem dM_same_109 : decode cM_same 109 = .ok (.iload 5, 2) := by decide +kernel
theorem dM_same_111 : decode cM_same 111 = .ok (.iaload, 1) := by decide +kernel
theorem dM_same_112 : decode cM_same 112 = .ok (.iaload, 1) := by decide +kernel
theorem dM_same_113 : decode cM_same 113 = .ok (.if_icmp .ne 7, 3) := by decide +kernel
theorem dM_same_116 : decode cM_same 116 = .ok (.iconst 1, 1) := by decide +kernel
theorem dM_same_117 : decode cM_same 117 = .ok (.goto 4, 3) := by decide +kernel
theorem dM_same_120 : decode cM_same 120 = .ok (.iconst 0, 1) := by decide +kernel
theorem dM_same_121 : decode cM_same 121 = .ok (.istore 4, 2) := by decide +kernel
theorem dM_same_123 : decode cM_same 123 = .ok (.iinc 5 1, 3) := by decide +kernel
theorem dM_same_126 : decode cM_same 126 = .ok (.goto (-43), 3) := by decide +kernel
theorem dM_same_129 : decode cM_same 129 = .ok (.iload 4, 2) := by decide +kernel
theorem dM_same_131 : decode cM_same 131 = .ok (.ireturn, 1) := by decide +kernel
theorem dM_operations_0 : decode cM_operations 0 = .ok (.aload_n 0, 1) := by decide +kernel
theorem dM_operations_1 : decode cM_operations 1 = .ok (.getfield 44, 3) := by decide +kernel
theorem dM_operations_4 : decode cM_operations 4 = .ok (.ireturn, 1) := by decide +kernel
theorem dM_stamp_0 : decode cM_stamp 0 = .ok (.aload_n 0, 1) := by decide +kernel
theorem dM_stamp_1 : decode cM_stamp 1 = .ok (.iload_n 1, 1) := by decide +kernel
theorem dM_stamp_2 : decode cM_stamp 2 = .ok (.invokevirtual 83, 3) := by decide +kernel
theorem dM_stamp_5 : decode cM_stamp 5 = .ok (.ifCond .eq 21, 3) := by decide +kernel
theorem dM_stamp_8 : decode cM_stamp 8 = .ok (.iconst 4, 1) := by decide +kernel
theorem dM_stamp_9 : decode cM_stamp 9 = .ok (.aload_n 0, 1) := by decide +kernel
theorem dM_stamp_10 : decode cM_stamp 10 = .ok (.getfield 16, 3) := by decide +kernel
theorem dM_stamp_13 : decode cM_stamp 13 = .ok (.iload_n 1, 1) := by decide +kernel
theorem dM_stamp_14 : decode cM_stamp 14 = .ok (.iaload, 1) := by decide +kernel
theorem dM_stamp_15 : decode cM_stamp 15 = .ok (.imul, 1) := by decide +kernel
theorem dM_stamp_16 : decode cM_stamp 16 = .ok (.aload_n 0, 1) := by decide +kernel
theorem dM_stamp_17 : decode cM_stamp 17 = .ok (.getfield 7, 3) := by decide +kernel
theorem dM_stamp_20 : decode cM_stamp 20 = .ok (.iload_n 1, 1) := by decide +kernel
theorem dM_stamp_21 : decode cM_stamp 21 = .ok (.iaload, 1) := by decide +kernel
theorem dM_stamp_22 : decode cM_stamp 22 = .ok (.iadd, 1) := by decide +kernel
theorem dM_stamp_23 : decode cM_stamp 23 = .ok (.goto 4, 3) := by decide +kernel
theorem dM_stamp_26 : decode cM_stamp 26 = .ok (.iconst (-1), 1) := by decide +kernel
theorem dM_stamp_27 : decode cM_stamp 27 = .ok (.ireturn, 1) := by decide +kernel
theorem dM_kept_0 : decode cM_kept 0 = .ok (.iload_n 1, 1) := by decide +kernel
theorem dM_kept_1 : decode cM_kept 1 = .ok (.invokestatic 72, 3) := by decide +kernel
theorem dM_kept_4 : decode cM_kept 4 = .ok (.ifCond .ne 5, 3) := by decide +kernel
theorem dM_kept_7 : decode cM_kept 7 = .ok (.iconst (-1), 1) := by decide +kernel
theorem dM_kept_8 : decode cM_kept 8 = .ok (.ireturn, 1) := by decide +kernel
theorem dM_kept_9 : decode cM_kept 9 = .ok (.iconst 0, 1) := by decide +kernel
theorem dM_kept_10 : decode cM_kept 10 = .ok (.istore_n 2, 1) := by decide +kernel
theorem dM_kept_11 : decode cM_kept 11 = .ok (.iconst 0, 1) := by decide +kernel
theorem dM_kept_12 : decode cM_kept 12 = .ok (.istore_n 3, 1) := by decide +kernel
theorem dM_kept_13 : decode cM_kept 13 = .ok (.iload_n 3, 1) := by decide +kernel
theorem dM_kept_14 : decode cM_kept 14 = .ok (.aload_n 0, 1) := by decide +kernel
theorem dM_kept_15 : decode cM_kept 15 = .ok (.getfield 44, 3) := by decide +kernel
theorem dM_kept_18 : decode cM_kept 18 = .ok (.if_icmp .ge 26, 3) := by decide +kernel
theorem dM_kept_21 : decode cM_kept 21 = .ok (.aload_n 0, 1) := by decide +kernel
theorem dM_kept_22 : decode cM_kept 22 = .ok (.iload_n 1, 1) := by decide +kernel
theorem dM_kept_23 : decode cM_kept 23 = .ok (.iload_n 3, 1) := by decide +kernel
theorem dM_kept_24 : decode cM_kept 24 = .ok (.invokevirtual 98, 3) := by decide +kernel
theorem dM_kept_27 : decode cM_kept 27 = .ok (.ifCond .eq 9, 3) := by decide +kernel
theorem dM_kept_30 : decode cM_kept 30 = .ok (.iload_n 2, 1) := by decide +kernel
theorem dM_kept_31 : decode cM_kept 31 = .ok (.iconst 1, 1) := by decide +kernel
theorem dM_kept_32 : decode cM_kept 32 = .ok (.iadd, 1) := by decide +kernel
theorem dM_kept_33 : decode cM_kept 33 = .ok (.goto 4, 3) := by decide +kernel
theorem dM_kept_36 : decode cM_kept 36 = .ok (.iload_n 2, 1) := by decide +kernel
theorem dM_kept_37 : decode cM_kept 37 = .ok (.istore_n 2, 1) := by decide +kernel
theorem dM_kept_38 : decode cM_kept 38 = .ok (.iinc 3 1, 3) := by decide +kernel
theorem dM_kept_41 : decode cM_kept 41 = .ok (.goto (-28), 3) := by decide +kernel
theorem dM_kept_44 : decode cM_kept 44 = .ok (.iload_n 2, 1) := by decide +kernel
theorem dM_kept_45 : decode cM_kept 45 = .ok (.ireturn, 1) := by decide +kernel
theorem dM_waiting_0 : decode cM_waiting 0 = .ok (.iload_n 1, 1) := by decide +kernel
theorem dM_waiting_1 : decode cM_waiting 1 = .ok (.invokestatic 72, 3) := by decide +kernel
theorem dM_waiting_4 : decode cM_waiting 4 = .ok (.ifCond .ne 5, 3) := by decide +kernel
theorem dM_waiting_7 : decode cM_waiting 7 = .ok (.iconst (-1), 1) := by decide +kernel
theorem dM_waiting_8 : decode cM_waiting 8 = .ok (.ireturn, 1) := by decide +kernel
theorem dM_waiting_9 : decode cM_waiting 9 = .ok (.iconst 0, 1) := by decide +kernel
theorem dM_waiting_10 : decode cM_waiting 10 = .ok (.istore_n 2, 1) := by decide +kernel
theorem dM_waiting_11 : decode cM_waiting 11 = .ok (.iconst 0, 1) := by decide +kernel
theorem dM_waiting_12 : decode cM_waiting 12 = .ok (.istore_n 3, 1) := by decide +kernel
theorem dM_waiting_13 : decode cM_waiting 13 = .ok (.iload_n 3, 1) := by decide +kernel
theorem dM_waiting_14 : decode cM_waiting 14 = .ok (.aload_n 0, 1) := by decide +kernel
theorem dM_waiting_15 : decode cM_waiting 15 = .ok (.getfield 44, 3) := by decide +kernel
theorem dM_waiting_18 : decode cM_waiting 18 = .ok (.if_icmp .ge 31, 3) := by decide +kernel
theorem dM_waiting_21 : decode cM_waiting 21 = .ok (.aload_n 0, 1) := by decide +kernel
theorem dM_waiting_22 : decode cM_waiting 22 = .ok (.getfield 32, 3) := by decide +kernel
theorem dM_waiting_25 : decode cM_waiting 25 = .ok (.bipush 100, 2) := by decide +kernel
theorem dM_waiting_27 : decode cM_waiting 27 = .ok (.iload_n 1, 1) := by decide +kernel
theorem dM_waiting_28 : decode cM_waiting 28 = .ok (.imul, 1) := by decide +kernel
theorem dM_waiting_29 : decode cM_waiting 29 = .ok (.iload_n 3, 1) := by decide +kernel
theorem dM_waiting_30 : decode cM_waiting 30 = .ok (.iadd, 1) := by decide +kernel
theorem dM_waiting_31 : decode cM_waiting 31 = .ok (.baload, 1) := by decide +kernel
theorem dM_waiting_32 : decode cM_waiting 32 = .ok (.ifCond .eq 9, 3) := by decide +kernel
theorem dM_waiting_35 : decode cM_waiting 35 = .ok (.iload_n 2, 1) := by decide +kernel
theorem dM_waiting_36 : decode cM_waiting 36 = .ok (.iconst 1, 1) := by decide +kernel
theorem dM_waiting_37 : decode cM_waiting 37 = .ok (.iadd, 1) := by decide +kernel
theorem dM_waiting_38 : decode cM_waiting 38 = .ok (.goto 4, 3) := by decide +kernel
theorem dM_waiting_41 : decode cM_waiting 41 = .ok (.iload_n 2, 1) := by decide +kernel
theorem dM_waiting_42 : decode cM_waiting 42 = .ok (.istore_n 2, 1) := by decide +kernel
theorem dM_waiting_43 : decode cM_waiting 43 = .ok (.iinc 3 1, 3) := by decide +kernel
theorem dM_waiting_46 : decode cM_waiting 46 = .ok (.goto (-33), 3) := by decide +kernel
theorem dM_waiting_49 : decode cM_waiting 49 = .ok (.iload_n 2, 1) := by decide +kernel
theorem dM_waiting_50 : decode cM_waiting 50 = .ok (.ireturn, 1) := by decide +kernel
end
section
theorem dP_init_0 : decode cP_init 0 = .ok (.aload_n 0, 1) := by decide +kernel
theorem dP_init_1 : decode cP_init 1 = .ok (.invokespecial 3, 3) := by decide +kernel
theorem dP_init_4 : decode cP_init 4 = .ok (.aload_n 0, 1) := by decide +kernel
theorem dP_init_5 : decode cP_init 5 = .ok (.iconst 3, 1) := by decide +kernel
theorem dP_init_6 : decode cP_init 6 = .ok (.iconst 3, 1) := by decide +kernel
theorem dP_init_7 : decode cP_init 7 = .ok (.multianewarray 9 2, 4) := by decide +kernel
theorem dP_init_11 : decode cP_init 11 = .ok (.putfield 11, 3) := by decide +kernel
theorem dP_init_14 : decode cP_init 14 = .ok (.aload_n 0, 1) := by decide +kernel
theorem dP_init_15 : decode cP_init 15 = .ok (.bipush 100, 2) := by decide +kernel
theorem dP_init_17 : decode cP_init 17 = .ok (.newarray .boolean, 2) := by decide +kernel
theorem dP_init_19 : decode cP_init 19 = .ok (.putfield 16, 3) := by decide +kernel
theorem dP_init_22 : decode cP_init 22 = .ok (.aload_n 0, 1) := by decide +kernel
theorem dP_init_23 : decode cP_init 23 = .ok (.bipush 100, 2) := by decide +kernel
theorem dP_init_25 : decode cP_init 25 = .ok (.newarray .boolean, 2) := by decide +kernel
theorem dP_init_27 : decode cP_init 27 = .ok (.putfield 20, 3) := by decide +kernel
theorem dP_init_30 : decode cP_init 30 = .ok (.aload_n 0, 1) := by decide +kernel
theorem dP_init_31 : decode cP_init 31 = .ok (.bipush 100, 2) := by decide +kernel
theorem dP_init_33 : decode cP_init 33 = .ok (.newarray .boolean, 2) := by decide +kernel
theorem dP_init_35 : decode cP_init 35 = .ok (.putfield 23, 3) := by decide +kernel
theorem dP_init_38 : decode cP_init 38 = .ok (.aload_n 0, 1) := by decide +kernel
theorem dP_init_39 : decode cP_init 39 = .ok (.bipush 100, 2) := by decide +kernel
theorem dP_init_41 : decode cP_init 41 = .ok (.newarray .boolean, 2) := by decide +kernel
theorem dP_init_43 : decode cP_init 43 = .ok (.putfield 26, 3) := by decide +kernel
theorem dP_init_46 : decode cP_init 46 = .ok (.aload_n 0, 1) := by decide +kernel
theorem dP_init_47 : decode cP_init 47 = .ok (.bipush 100, 2) := by decide +kernel
theorem dP_init_49 : decode cP_init 49 = .ok (.newarray .int, 2) := by decide +kernel
theorem dP_init_51 : decode cP_init 51 = .ok (.putfield 29, 3) := by decide +kernel
theorem dP_init_54 : decode cP_init 54 = .ok (.aload_n 0, 1) := by decide +kernel
theorem dP_init_55 : decode cP_init 55 = .ok (.iload_n 1, 1) := by decide +kernel
theorem dP_init_56 : decode cP_init 56 = .ok (.putfield 33, 3) := by decide +kernel
theorem dP_init_59 : decode cP_init 59 = .ok (.aload_n 0, 1) := by decide +kernel
theorem dP_init_60 : decode cP_init 60 = .ok (.aload_n 2, 1) := by decide +kernel
theorem dP_init_61 : decode cP_init 61 = .ok (.putfield 37, 3) := by decide +kernel
theorem dP_init_64 : decode cP_init 64 = .ok (.return_, 1) := by decide +kernel
theorem dP_elementBefore_0 : decode cP_elementBefore 0 = .ok (.iload_n 1, 1) := by decide +kernel
theorem dP_elementBefore_1 : decode cP_elementBefore 1 = .ok (.ifCond .ne 7, 3) := by decide +kernel
theorem dP_elementBefore_4 : decode cP_elementBefore 4 = .ok (.iconst (-1), 1) := by decide +kernel
theorem dP_elementBefore_5 : decode cP_elementBefore 5 = .ok (.goto 11, 3) := by decide +kernel
theorem dP_elementBefore_8 : decode cP_elementBefore 8 = .ok (.aload_n 0, 1) := by decide +kernel
theorem dP_elementBefore_9 : decode cP_elementBefore 9 = .ok (.getfield 29, 3) := by decide +kernel
theorem dP_elementBefore_12 : decode cP_elementBefore 12 = .ok (.iload_n 1, 1) := by decide +kernel
theorem dP_elementBefore_13 : decode cP_elementBefore 13 = .ok (.iconst 1, 1) := by decide +kernel
theorem dP_elementBefore_14 : decode cP_elementBefore 14 = .ok (.isub, 1) := by decide +kernel
theorem dP_elementBefore_15 : decode cP_elementBefore 15 = .ok (.iaload, 1) := by decide +kernel
theorem dP_elementBefore_16 : decode cP_elementBefore 16 = .ok (.ireturn, 1) := by decide +kernel
theorem dP_issue_0 : decode cP_issue 0 = .ok (.aload_n 0, 1) := by decide +kernel
theorem dP_issue_1 : decode cP_issue 1 = .ok (.getfield 37, 3) := by decide +kernel
theorem dP_issue_4 : decode cP_issue 4 = .ok (.aload_n 0, 1) := by decide +kernel
theorem dP_issue_5 : decode cP_issue 5 = .ok (.getfield 33, 3) := by decide +kernel
theorem dP_issue_8 : decode cP_issue 8 = .ok (.aload_n 0, 1) := by decide +kernel
theorem dP_issue_9 : decode cP_issue 9 = .ok (.getfield 57, 3) := by decide +kernel
theorem dP_issue_12 : decode cP_issue 12 = .ok (.iconst 1, 1) := by decide +kernel
theorem dP_issue_13 : decode cP_issue 13 = .ok (.iadd, 1) := by decide +kernel
theorem dP_issue_14 : decode cP_issue 14 = .ok (.aload_n 0, 1) := by decide +kernel
theorem dP_issue_15 : decode cP_issue 15 = .ok (.getfield 11, 3) := by decide +kernel
theorem dP_issue_18 : decode cP_issue 18 = .ok (.aload_n 0, 1) := by decide +kernel
theorem dP_issue_19 : decode cP_issue 19 = .ok (.getfield 33, 3) := by decide +kernel
theorem dP_issue_22 : decode cP_issue 22 = .ok (.aaload, 1) := by decide +kernel
theorem dP_issue_23 : decode cP_issue 23 = .ok (.iload_n 1, 1) := by decide +kernel
theorem dP_issue_24 : decode cP_issue 24 = .ok (.iload_n 2, 1) := by decide +kernel
theorem dP_issue_25 : decode cP_issue 25 = .ok (.invokevirtual 60, 3) := by decide +kernel
theorem dP_issue_28 : decode cP_issue 28 = .ok (.istore_n 3, 1) := by decide +kernel
theorem dP_issue_29 : decode cP_issue 29 = .ok (.aload_n 0, 1) := by decide +kernel
theorem dP_issue_30 : decode cP_issue 30 = .ok (.iload_n 3, 1) := by decide +kernel
theorem dP_issue_31 : decode cP_issue 31 = .ok (.invokevirtual 64, 3) := by decide +kernel
theorem dP_issue_34 : decode cP_issue 34 = .ok (.aload_n 0, 1) := by decide +kernel
theorem dP_issue_35 : decode cP_issue 35 = .ok (.invokevirtual 68, 3) := by decide +kernel
theorem dP_issue_38 : decode cP_issue 38 = .ok (.iload_n 3, 1) := by decide +kernel
theorem dP_issue_39 : decode cP_issue 39 = .ok (.ireturn, 1) := by decide +kernel
theorem dP_apply_0 : decode cP_apply 0 = .ok (.aload_n 0, 1) := by decide +kernel
theorem dP_apply_1 : decode cP_apply 1 = .ok (.getfield 37, 3) := by decide +kernel
theorem dP_apply_4 : decode cP_apply 4 = .ok (.getfield 54, 3) := by decide +kernel
theorem dP_apply_7 : decode cP_apply 7 = .ok (.iload_n 1, 1) := by decide +kernel
theorem dP_apply_8 : decode cP_apply 8 = .ok (.iaload, 1) := by decide +kernel
theorem dP_apply_9 : decode cP_apply 9 = .ok (.istore_n 2, 1) := by decide +kernel
theorem dP_apply_10 : decode cP_apply 10 = .ok (.iconst 0, 1) := by decide +kernel
theorem dP_apply_11 : decode cP_apply 11 = .ok (.istore_n 3, 1) := by decide +kernel
theorem dP_apply_12 : decode cP_apply 12 = .ok (.iload_n 3, 1) := by decide +kernel
theorem dP_apply_13 : decode cP_apply 13 = .ok (.iconst 3, 1) := by decide +kernel
theorem dP_apply_14 : decode cP_apply 14 = .ok (.if_icmp .ge 26, 3) := by decide +kernel
theorem dP_apply_17 : decode cP_apply 17 = .ok (.aload_n 0, 1) := by decide +kernel
theorem dP_apply_18 : decode cP_apply 18 = .ok (.getfield 11, 3) := by decide +kernel
theorem dP_apply_21 : decode cP_apply 21 = .ok (.iload_n 2, 1) := by decide +kernel
theorem dP_apply_22 : decode cP_apply 22 = .ok (.aaload, 1) := by decide +kernel
theorem dP_apply_23 : decode cP_apply 23 = .ok (.iload_n 3, 1) := by decide +kernel
theorem dP_apply_24 : decode cP_apply 24 = .ok (.aload_n 0, 1) := by decide +kernel
theorem dP_apply_25 : decode cP_apply 25 = .ok (.getfield 37, 3) := by decide +kernel
theorem dP_apply_28 : decode cP_apply 28 = .ok (.iload_n 1, 1) := by decide +kernel
theorem dP_apply_29 : decode cP_apply 29 = .ok (.iload_n 3, 1) := by decide +kernel
theorem dP_apply_30 : decode cP_apply 30 = .ok (.invokevirtual 87, 3) := by decide +kernel
theorem dP_apply_33 : decode cP_apply 33 = .ok (.iastore, 1) := by decide +kernel
theorem dP_apply_34 : decode cP_apply 34 = .ok (.iinc 3 1, 3) := by decide +kernel
theorem dP_apply_37 : decode cP_apply 37 = .ok (.goto (-25), 3) := by decide +kernel
theorem dP_apply_40 : decode cP_apply 40 = .ok (.aload_n 0, 1) := by decide +kernel
theorem dP_apply_41 : decode cP_apply 41 = .ok (.getfield 11, 3) := by decide +kernel
theorem dP_apply_44 : decode cP_apply 44 = .ok (.aload_n 0, 1) := by decide +kernel
theorem dP_apply_45 : decode cP_apply 45 = .ok (.getfield 33, 3) := by decide +kernel
theorem dP_apply_48 : decode cP_apply 48 = .ok (.aaload, 1) := by decide +kernel
theorem dP_apply_49 : decode cP_apply 49 = .ok (.iload_n 2, 1) := by decide +kernel
theorem dP_apply_50 : decode cP_apply 50 = .ok (.aload_n 0, 1) := by decide +kernel
theorem dP_apply_51 : decode cP_apply 51 = .ok (.getfield 37, 3) := by decide +kernel
theorem dP_apply_54 : decode cP_apply 54 = .ok (.iload_n 1, 1) := by decide +kernel
theorem dP_apply_55 : decode cP_apply 55 = .ok (.invokevirtual 50, 3) := by decide +kernel
theorem dP_apply_58 : decode cP_apply 58 = .ok (.iastore, 1) := by decide +kernel
theorem dP_apply_59 : decode cP_apply 59 = .ok (.aload_n 0, 1) := by decide +kernel
theorem dP_apply_60 : decode cP_apply 60 = .ok (.aload_n 0, 1) := by decide +kernel
theorem dP_apply_61 : decode cP_apply 61 = .ok (.getfield 57, 3) := by decide +kernel
theorem dP_apply_64 : decode cP_apply 64 = .ok (.aload_n 0, 1) := by decide +kernel
theorem dP_apply_65 : decode cP_apply 65 = .ok (.getfield 37, 3) := by decide +kernel
theorem dP_apply_68 : decode cP_apply 68 = .ok (.getfield 91, 3) := by decide +kernel
theorem dP_apply_71 : decode cP_apply 71 = .ok (.iload_n 1, 1) := by decide +kernel
theorem dP_apply_72 : decode cP_apply 72 = .ok (.iaload, 1) := by decide +kernel
theorem dP_apply_73 : decode cP_apply 73 = .ok (.invokestatic 94, 3) := by decide +kernel
theorem dP_apply_76 : decode cP_apply 76 = .ok (.putfield 57, 3) := by decide +kernel
theorem dP_apply_79 : decode cP_apply 79 = .ok (.aload_n 0, 1) := by decide +kernel
theorem dP_apply_80 : decode cP_apply 80 = .ok (.getfield 37, 3) := by decide +kernel
theorem dP_apply_83 : decode cP_apply 83 = .ok (.iload_n 1, 1) := by decide +kernel
theorem dP_apply_84 : decode cP_apply 84 = .ok (.invokevirtual 99, 3) := by decide +kernel
theorem dP_apply_87 : decode cP_apply 87 = .ok (.ifCond .eq 21, 3) := by decide +kernel
theorem dP_apply_90 : decode cP_apply 90 = .ok (.aload_n 0, 1) := by decide +kernel
theorem dP_apply_91 : decode cP_apply 91 = .ok (.getfield 20, 3) := by decide +kernel
theorem dP_apply_94 : decode cP_apply 94 = .ok (.aload_n 0, 1) := by decide +kernel
theorem dP_apply_95 : decode cP_apply 95 = .ok (.getfield 37, 3) := by decide +kernel
theorem dP_apply_98 : decode cP_apply 98 = .ok (.getfield 102, 3) := by decide +kernel
theorem dP_apply_101 : decode cP_apply 101 = .ok (.iload_n 1, 1) := by decide +kernel
theorem dP_apply_102 : decode cP_apply 102 = .ok (.iaload, 1) := by decide +kernel
theorem dP_apply_103 : decode cP_apply 103 = .ok (.iconst 1, 1) := by decide +kernel
theorem dP_apply_104 : decode cP_apply 104 = .ok (.bastore, 1) := by decide +kernel
theorem dP_apply_105 : decode cP_apply 105 = .ok (.goto 20, 3) := by decide +kernel
theorem dP_apply_108 : decode cP_apply 108 = .ok (.aload_n 0, 1) := by decide +kernel
theorem dP_apply_109 : decode cP_apply 109 = .ok (.getfield 23, 3) := by decide +kernel
theorem dP_apply_112 : decode cP_apply 112 = .ok (.iload_n 1, 1) := by decide +kernel
theorem dP_apply_113 : decode cP_apply 113 = .ok (.iconst 1, 1) := by decide +kernel
theorem dP_apply_114 : decode cP_apply 114 = .ok (.bastore, 1) := by decide +kernel
theorem dP_apply_115 : decode cP_apply 115 = .ok (.aload_n 0, 1) := by decide +kernel
theorem dP_apply_116 : decode cP_apply 116 = .ok (.dup, 1) := by decide +kernel
theorem dP_apply_117 : decode cP_apply 117 = .ok (.getfield 105, 3) := by decide +kernel
theorem dP_apply_120 : decode cP_apply 120 = .ok (.iconst 1, 1) := by decide +kernel
theorem dP_apply_121 : decode cP_apply 121 = .ok (.iadd, 1) := by decide +kernel
theorem dP_apply_122 : decode cP_apply 122 = .ok (.putfield 105, 3) := by decide +kernel
theorem dP_apply_125 : decode cP_apply 125 = .ok (.return_, 1) := by decide +kernel
theorem dP_rewriteText_0 : decode cP_rewriteText 0 = .ok (.aload_n 0, 1) := by decide +kernel
theorem dP_rewriteText_1 : decode cP_rewriteText 1 = .ok (.iconst 0, 1) := by decide +kernel
theorem dP_rewriteText_2 : decode cP_rewriteText 2 = .ok (.putfield 41, 3) := by decide +kernel
theorem dP_rewriteText_5 : decode cP_rewriteText 5 = .ok (.iconst 0, 1) := by decide +kernel
theorem dP_rewriteText_6 : decode cP_rewriteText 6 = .ok (.istore_n 1, 1) := by decide +kernel
theorem dP_rewriteText_7 : decode cP_rewriteText 7 = .ok (.iload_n 1, 1) := by decide +kernel
theorem dP_rewriteText_8 : decode cP_rewriteText 8 = .ok (.aload_n 0, 1) := by decide +kernel
theorem dP_rewriteText_9 : decode cP_rewriteText 9 = .ok (.getfield 37, 3) := by decide +kernel
theorem dP_rewriteText_12 : decode cP_rewriteText 12 = .ok (.getfield 108, 3) := by decide +kernel
theorem dP_rewriteText_15 : decode cP_rewriteText 15 = .ok (.if_icmp .ge 56, 3) := by decide +kernel
theorem dP_rewriteText_18 : decode cP_rewriteText 18 = .ok (.aload_n 0, 1) := by decide +kernel
theorem dP_rewriteText_19 : decode cP_rewriteText 19 = .ok (.getfield 37, 3) := by decide +kernel
theorem dP_rewriteText_22 : decode cP_rewriteText 22 = .ok (.getfield 111, 3) := by decide +kernel
theorem dP_rewriteText_25 : decode cP_rewriteText 25 = .ok (.iload_n 1, 1) := by decide +kernel
theorem dP_rewriteText_26 : decode cP_rewriteText 26 = .ok (.iaload, 1) := by decide +kernel
theorem dP_rewriteText_27 : decode cP_rewriteText 27 = .ok (.istore_n 2, 1) := by decide +kernel
theorem dP_rewriteText_28 : decode cP_rewriteText 28 = .ok (.aload_n 0, 1) := by decide +kernel
theorem dP_rewriteText_29 : decode cP_rewriteText 29 = .ok (.iload_n 2, 1) := by decide +kernel
theorem dP_rewriteText_30 : decode cP_rewriteText 30 = .ok (.invokevirtual 71, 3) := by decide +kernel
theorem dP_rewriteText_33 : decode cP_rewriteText 33 = .ok (.ifCond .eq 32, 3) := by decide +kernel
theorem dP_rewriteText_36 : decode cP_rewriteText 36 = .ok (.aload_n 0, 1) := by decide +kernel
theorem dP_rewriteText_37 : decode cP_rewriteText 37 = .ok (.getfield 20, 3) := by decide +kernel
theorem dP_rewriteText_40 : decode cP_rewriteText 40 = .ok (.iload_n 2, 1) := by decide +kernel
theorem dP_rewriteText_41 : decode cP_rewriteText 41 = .ok (.baload, 1) := by decide +kernel
theorem dP_rewriteText_42 : decode cP_rewriteText 42 = .ok (.ifCond .ne 23, 3) := by decide +kernel
theorem dP_rewriteText_45 : decode cP_rewriteText 45 = .ok (.aload_n 0, 1) := by decide +kernel
theorem dP_rewriteText_46 : decode cP_rewriteText 46 = .ok (.getfield 29, 3) := by decide +kernel
theorem dP_rewriteText_49 : decode cP_rewriteText 49 = .ok (.aload_n 0, 1) := by decide +kernel
theorem dP_rewriteText_50 : decode cP_rewriteText 50 = .ok (.getfield 41, 3) := by decide +kernel
theorem dP_rewriteText_53 : decode cP_rewriteText 53 = .ok (.iload_n 2, 1) := by decide +kernel
theorem dP_rewriteText_54 : decode cP_rewriteText 54 = .ok (.iastore, 1) := by decide +kernel
theorem dP_rewriteText_55 : decode cP_rewriteText 55 = .ok (.aload_n 0, 1) := by decide +kernel
theorem dP_rewriteText_56 : decode cP_rewriteText 56 = .ok (.dup, 1) := by decide +kernel
theorem dP_rewriteText_57 : decode cP_rewriteText 57 = .ok (.getfield 41, 3) := by decide +kernel
theorem dP_rewriteText_60 : decode cP_rewriteText 60 = .ok (.iconst 1, 1) := by decide +kernel
theorem dP_rewriteText_61 : decode cP_rewriteText 61 = .ok (.iadd, 1) := by decide +kernel
theorem dP_rewriteText_62 : decode cP_rewriteText 62 = .ok (.putfield 41, 3) := by decide +kernel
theorem dP_rewriteText_65 : decode cP_rewriteText 65 = .ok (.iinc 1 1, 3) := by decide +kernel
theorem dP_rewriteText_68 : decode cP_rewriteText 68 = .ok (.goto (-61), 3) := by decide +kernel
theorem dP_rewriteText_71 : decode cP_rewriteText 71 = .ok (.return_, 1) := by decide +kernel
theorem dP_hasApplied_0 : decode cP_hasApplied 0 = .ok (.aload_n 0, 1) := by decide +kernel
theorem dP_hasApplied_1 : decode cP_hasApplied 1 = .ok (.getfield 37, 3) := by decide +kernel
theorem dP_hasApplied_4 : decode cP_hasApplied 4 = .ok (.iload_n 1, 1) := by decide +kernel
theorem dP_hasApplied_5 : decode cP_hasApplied 5 = .ok (.invokevirtual 50, 3) := by decide +kernel
theorem dP_hasApplied_8 : decode cP_hasApplied 8 = .ok (.aload_n 0, 1) := by decide +kernel
theorem dP_hasApplied_9 : decode cP_hasApplied 9 = .ok (.getfield 11, 3) := by decide +kernel
theorem dP_hasApplied_12 : decode cP_hasApplied 12 = .ok (.aload_n 0, 1) := by decide +kernel
theorem dP_hasApplied_13 : decode cP_hasApplied 13 = .ok (.getfield 33, 3) := by decide +kernel
theorem dP_hasApplied_16 : decode cP_hasApplied 16 = .ok (.aaload, 1) := by decide +kernel
theorem dP_hasApplied_17 : decode cP_hasApplied 17 = .ok (.aload_n 0, 1) := by decide +kernel
theorem dP_hasApplied_18 : decode cP_hasApplied 18 = .ok (.getfield 37, 3) := by decide +kernel
theorem dP_hasApplied_21 : decode cP_hasApplied 21 = .ok (.getfield 54, 3) := by decide +kernel
theorem dP_hasApplied_24 : decode cP_hasApplied 24 = .ok (.iload_n 1, 1) := by decide +kernel
theorem dP_hasApplied_25 : decode cP_hasApplied 25 = .ok (.iaload, 1) := by decide +kernel
theorem dP_hasApplied_26 : decode cP_hasApplied 26 = .ok (.iaload, 1) := by decide +kernel
theorem dP_hasApplied_27 : decode cP_hasApplied 27 = .ok (.if_icmp .gt 7, 3) := by decide +kernel
theorem dP_hasApplied_30 : decode cP_hasApplied 30 = .ok (.iconst 1, 1) := by decide +kernel
theorem dP_hasApplied_31 : decode cP_hasApplied 31 = .ok (.goto 4, 3) := by decide +kernel
theorem dP_hasApplied_34 : decode cP_hasApplied 34 = .ok (.iconst 0, 1) := by decide +kernel
theorem dP_hasApplied_35 : decode cP_hasApplied 35 = .ok (.ireturn, 1) := by decide +kernel
theorem dP_elementAt_0 : decode cP_elementAt 0 = .ok (.iload_n 1, 1) := by decide +kernel
theorem dP_elementAt_1 : decode cP_elementAt 1 = .ok (.ifCond .lt 20, 3) := by decide +kernel
theorem dP_elementAt_4 : decode cP_elementAt 4 = .ok (.iload_n 1, 1) := by decide +kernel
theorem dP_elementAt_5 : decode cP_elementAt 5 = .ok (.aload_n 0, 1) := by decide +kernel
theorem dP_elementAt_6 : decode cP_elementAt 6 = .ok (.getfield 41, 3) := by decide +kernel
theorem dP_elementAt_9 : decode cP_elementAt 9 = .ok (.if_icmp .ge 12, 3) := by decide +kernel
theorem dP_elementAt_12 : decode cP_elementAt 12 = .ok (.aload_n 0, 1) := by decide +kernel
theorem dP_elementAt_13 : decode cP_elementAt 13 = .ok (.getfield 29, 3) := by decide +kernel
theorem dP_elementAt_16 : decode cP_elementAt 16 = .ok (.iload_n 1, 1) := by decide +kernel
theorem dP_elementAt_17 : decode cP_elementAt 17 = .ok (.iaload, 1) := by decide +kernel
theorem dP_elementAt_18 : decode cP_elementAt 18 = .ok (.goto 4, 3) := by decide +kernel
theorem dP_elementAt_21 : decode cP_elementAt 21 = .ok (.iconst (-1), 1) := by decide +kernel
theorem dP_elementAt_22 : decode cP_elementAt 22 = .ok (.ireturn, 1) := by decide +kernel
theorem dP_receive_0 : decode cP_receive 0 = .ok (.aload_n 0, 1) := by decide +kernel
theorem dP_receive_1 : decode cP_receive 1 = .ok (.iload_n 1, 1) := by decide +kernel
theorem dP_receive_2 : decode cP_receive 2 = .ok (.invokevirtual 71, 3) := by decide +kernel
theorem dP_receive_5 : decode cP_receive 5 = .ok (.ifCond .ne 29, 3) := by decide +kernel
theorem dP_receive_8 : decode cP_receive 8 = .ok (.aload_n 0, 1) := by decide +kernel
theorem dP_receive_9 : decode cP_receive 9 = .ok (.getfield 16, 3) := by decide +kernel
theorem dP_receive_12 : decode cP_receive 12 = .ok (.iload_n 1, 1) := by decide +kernel
theorem dP_receive_13 : decode cP_receive 13 = .ok (.baload, 1) := by decide +kernel
theorem dP_receive_14 : decode cP_receive 14 = .ok (.ifCond .ne 20, 3) := by decide +kernel
theorem dP_receive_17 : decode cP_receive 17 = .ok (.aload_n 0, 1) := by decide +kernel
theorem dP_receive_18 : decode cP_receive 18 = .ok (.getfield 16, 3) := by decide +kernel
theorem dP_receive_21 : decode cP_receive 21 = .ok (.iload_n 1, 1) := by decide +kernel
theorem dP_receive_22 : decode cP_receive 22 = .ok (.iconst 1, 1) := by decide +kernel
theorem dP_receive_23 : decode cP_receive 23 = .ok (.bastore, 1) := by decide +kernel
theorem dP_receive_24 : decode cP_receive 24 = .ok (.aload_n 0, 1) := by decide +kernel
theorem dP_receive_25 : decode cP_receive 25 = .ok (.dup, 1) := by decide +kernel
theorem dP_receive_26 : decode cP_receive 26 = .ok (.getfield 75, 3) := by decide +kernel
theorem dP_receive_29 : decode cP_receive 29 = .ok (.iconst 1, 1) := by decide +kernel
theorem dP_receive_30 : decode cP_receive 30 = .ok (.iadd, 1) := by decide +kernel
theorem dP_receive_31 : decode cP_receive 31 = .ok (.putfield 75, 3) := by decide +kernel
theorem dP_receive_34 : decode cP_receive 34 = .ok (.return_, 1) := by decide +kernel
theorem dP_applyReady_0 : decode cP_applyReady 0 = .ok (.iconst 0, 1) := by decide +kernel
theorem dP_applyReady_1 : decode cP_applyReady 1 = .ok (.istore_n 1, 1) := by decide +kernel
theorem dP_applyReady_2 : decode cP_applyReady 2 = .ok (.iconst 0, 1) := by decide +kernel
theorem dP_applyReady_3 : decode cP_applyReady 3 = .ok (.istore_n 2, 1) := by decide +kernel
theorem dP_applyReady_4 : decode cP_applyReady 4 = .ok (.iload_n 2, 1) := by decide +kernel
theorem dP_applyReady_5 : decode cP_applyReady 5 = .ok (.aload_n 0, 1) := by decide +kernel
theorem dP_applyReady_6 : decode cP_applyReady 6 = .ok (.getfield 37, 3) := by decide +kernel
theorem dP_applyReady_9 : decode cP_applyReady 9 = .ok (.getfield 78, 3) := by decide +kernel
theorem dP_applyReady_12 : decode cP_applyReady 12 = .ok (.if_icmp .ge 51, 3) := by decide +kernel
theorem dP_applyReady_15 : decode cP_applyReady 15 = .ok (.aload_n 0, 1) := by decide +kernel
theorem dP_applyReady_16 : decode cP_applyReady 16 = .ok (.getfield 16, 3) := by decide +kernel
theorem dP_applyReady_19 : decode cP_applyReady 19 = .ok (.iload_n 2, 1) := by decide +kernel
theorem dP_applyReady_20 : decode cP_applyReady 20 = .ok (.baload, 1) := by decide +kernel
theorem dP_applyReady_21 : decode cP_applyReady 21 = .ok (.ifCond .eq 36, 3) := by decide +kernel
theorem dP_applyReady_24 : decode cP_applyReady 24 = .ok (.aload_n 0, 1) := by decide +kernel
theorem dP_applyReady_25 : decode cP_applyReady 25 = .ok (.iload_n 2, 1) := by decide +kernel
theorem dP_applyReady_26 : decode cP_applyReady 26 = .ok (.invokevirtual 84, 3) := by decide +kernel
theorem dP_applyReady_29 : decode cP_applyReady 29 = .ok (.ifCond .eq 28, 3) := by decide +kernel
theorem dP_applyReady_32 : decode cP_applyReady 32 = .ok (.aload_n 0, 1) := by decide +kernel
theorem dP_applyReady_33 : decode cP_applyReady 33 = .ok (.getfield 16, 3) := by decide +kernel
theorem dP_applyReady_36 : decode cP_applyReady 36 = .ok (.iload_n 2, 1) := by decide +kernel
theorem dP_applyReady_37 : decode cP_applyReady 37 = .ok (.iconst 0, 1) := by decide +kernel
theorem dP_applyReady_38 : decode cP_applyReady 38 = .ok (.bastore, 1) := by decide +kernel
theorem dP_applyReady_39 : decode cP_applyReady 39 = .ok (.aload_n 0, 1) := by decide +kernel
theorem dP_applyReady_40 : decode cP_applyReady 40 = .ok (.dup, 1) := by decide +kernel
theorem dP_applyReady_41 : decode cP_applyReady 41 = .ok (.getfield 75, 3) := by decide +kernel
theorem dP_applyReady_44 : decode cP_applyReady 44 = .ok (.iconst 1, 1) := by decide +kernel
theorem dP_applyReady_45 : decode cP_applyReady 45 = .ok (.isub, 1) := by decide +kernel
theorem dP_applyReady_46 : decode cP_applyReady 46 = .ok (.putfield 75, 3) := by decide +kernel
theorem dP_applyReady_49 : decode cP_applyReady 49 = .ok (.aload_n 0, 1) := by decide +kernel
theorem dP_applyReady_50 : decode cP_applyReady 50 = .ok (.iload_n 2, 1) := by decide +kernel
theorem dP_applyReady_51 : decode cP_applyReady 51 = .ok (.invokevirtual 64, 3) := by decide +kernel
theorem dP_applyReady_54 : decode cP_applyReady 54 = .ok (.iinc 1 1, 3) := by decide +kernel
theorem dP_applyReady_57 : decode cP_applyReady 57 = .ok (.iinc 2 1, 3) := by decide +kernel
theorem dP_applyReady_60 : decode cP_applyReady 60 = .ok (.goto (-56), 3) := by decide +kernel
theorem dP_applyReady_63 : decode cP_applyReady 63 = .ok (.iload_n 1, 1) := by decide +kernel
theorem dP_applyReady_64 : decode cP_applyReady 64 = .ok (.ifCond .le 7, 3) := by decide +kernel
theorem dP_applyReady_67 : decode cP_applyReady 67 = .ok (.aload_n 0, 1) := by decide +kernel
theorem dP_applyReady_68 : decode cP_applyReady 68 = .ok (.invokevirtual 68, 3) := by decide +kernel
theorem dP_applyReady_71 : decode cP_applyReady 71 = .ok (.iload_n 1, 1) := by decide +kernel
theorem dP_applyReady_72 : decode cP_applyReady 72 = .ok (.ireturn, 1) := by decide +kernel
theorem dP_isReady_0 : decode cP_isReady 0 = .ok (.aload_n 0, 1) := by decide +kernel
theorem dP_isReady_1 : decode cP_isReady 1 = .ok (.getfield 37, 3) := by decide +kernel
theorem dP_isReady_4 : decode cP_isReady 4 = .ok (.getfield 54, 3) := by decide +kernel
theorem dP_isReady_7 : decode cP_isReady 7 = .ok (.iload_n 1, 1) := by decide +kernel
end
section
theorem dP_isReady_8 : decode cP_isReady 8 = .ok (.iaload, 1) := by decide +kernel
theorem dP_isReady_9 : decode cP_isReady 9 = .ok (.istore_n 2, 1) := by decide +kernel
theorem dP_isReady_10 : decode cP_isReady 10 = .ok (.aload_n 0, 1) := by decide +kernel
theorem dP_isReady_11 : decode cP_isReady 11 = .ok (.getfield 11, 3) := by decide +kernel
theorem dP_isReady_14 : decode cP_isReady 14 = .ok (.aload_n 0, 1) := by decide +kernel
theorem dP_isReady_15 : decode cP_isReady 15 = .ok (.getfield 33, 3) := by decide +kernel
theorem dP_isReady_18 : decode cP_isReady 18 = .ok (.aaload, 1) := by decide +kernel
theorem dP_isReady_19 : decode cP_isReady 19 = .ok (.iload_n 2, 1) := by decide +kernel
theorem dP_isReady_20 : decode cP_isReady 20 = .ok (.iaload, 1) := by decide +kernel
theorem dP_isReady_21 : decode cP_isReady 21 = .ok (.aload_n 0, 1) := by decide +kernel
theorem dP_isReady_22 : decode cP_isReady 22 = .ok (.getfield 37, 3) := by decide +kernel
theorem dP_isReady_25 : decode cP_isReady 25 = .ok (.iload_n 1, 1) := by decide +kernel
theorem dP_isReady_26 : decode cP_isReady 26 = .ok (.invokevirtual 50, 3) := by decide +kernel
theorem dP_isReady_29 : decode cP_isReady 29 = .ok (.iconst 1, 1) := by decide +kernel
theorem dP_isReady_30 : decode cP_isReady 30 = .ok (.isub, 1) := by decide +kernel
theorem dP_isReady_31 : decode cP_isReady 31 = .ok (.if_icmp .eq 5, 3) := by decide +kernel
theorem dP_isReady_34 : decode cP_isReady 34 = .ok (.iconst 0, 1) := by decide +kernel
theorem dP_isReady_35 : decode cP_isReady 35 = .ok (.ireturn, 1) := by decide +kernel
theorem dP_isReady_36 : decode cP_isReady 36 = .ok (.iconst 0, 1) := by decide +kernel
theorem dP_isReady_37 : decode cP_isReady 37 = .ok (.istore_n 3, 1) := by decide +kernel
theorem dP_isReady_38 : decode cP_isReady 38 = .ok (.iload_n 3, 1) := by decide +kernel
theorem dP_isReady_39 : decode cP_isReady 39 = .ok (.iconst 3, 1) := by decide +kernel
theorem dP_isReady_40 : decode cP_isReady 40 = .ok (.if_icmp .ge 39, 3) := by decide +kernel
theorem dP_isReady_43 : decode cP_isReady 43 = .ok (.iload_n 3, 1) := by decide +kernel
theorem dP_isReady_44 : decode cP_isReady 44 = .ok (.iload_n 2, 1) := by decide +kernel
theorem dP_isReady_45 : decode cP_isReady 45 = .ok (.if_icmp .eq 28, 3) := by decide +kernel
theorem dP_isReady_48 : decode cP_isReady 48 = .ok (.aload_n 0, 1) := by decide +kernel
theorem dP_isReady_49 : decode cP_isReady 49 = .ok (.getfield 11, 3) := by decide +kernel
theorem dP_isReady_52 : decode cP_isReady 52 = .ok (.aload_n 0, 1) := by decide +kernel
theorem dP_isReady_53 : decode cP_isReady 53 = .ok (.getfield 33, 3) := by decide +kernel
theorem dP_isReady_56 : decode cP_isReady 56 = .ok (.aaload, 1) := by decide +kernel
theorem dP_isReady_57 : decode cP_isReady 57 = .ok (.iload_n 3, 1) := by decide +kernel
theorem dP_isReady_58 : decode cP_isReady 58 = .ok (.iaload, 1) := by decide +kernel
theorem dP_isReady_59 : decode cP_isReady 59 = .ok (.aload_n 0, 1) := by decide +kernel
theorem dP_isReady_60 : decode cP_isReady 60 = .ok (.getfield 37, 3) := by decide +kernel
theorem dP_isReady_63 : decode cP_isReady 63 = .ok (.iload_n 1, 1) := by decide +kernel
theorem dP_isReady_64 : decode cP_isReady 64 = .ok (.iload_n 3, 1) := by decide +kernel
theorem dP_isReady_65 : decode cP_isReady 65 = .ok (.invokevirtual 87, 3) := by decide +kernel
theorem dP_isReady_68 : decode cP_isReady 68 = .ok (.if_icmp .ge 5, 3) := by decide +kernel
theorem dP_isReady_71 : decode cP_isReady 71 = .ok (.iconst 0, 1) := by decide +kernel
theorem dP_isReady_72 : decode cP_isReady 72 = .ok (.ireturn, 1) := by decide +kernel
theorem dP_isReady_73 : decode cP_isReady 73 = .ok (.iinc 3 1, 3) := by decide +kernel
theorem dP_isReady_76 : decode cP_isReady 76 = .ok (.goto (-38), 3) := by decide +kernel
theorem dP_isReady_79 : decode cP_isReady 79 = .ok (.iconst 1, 1) := by decide +kernel
theorem dP_isReady_80 : decode cP_isReady 80 = .ok (.ireturn, 1) := by decide +kernel
theorem dP_receiveAllOf_0 : decode cP_receiveAllOf 0 = .ok (.iconst 0, 1) := by decide +kernel
theorem dP_receiveAllOf_1 : decode cP_receiveAllOf 1 = .ok (.istore_n 2, 1) := by decide +kernel
theorem dP_receiveAllOf_2 : decode cP_receiveAllOf 2 = .ok (.iload_n 2, 1) := by decide +kernel
theorem dP_receiveAllOf_3 : decode cP_receiveAllOf 3 = .ok (.aload_n 0, 1) := by decide +kernel
theorem dP_receiveAllOf_4 : decode cP_receiveAllOf 4 = .ok (.getfield 37, 3) := by decide +kernel
theorem dP_receiveAllOf_7 : decode cP_receiveAllOf 7 = .ok (.getfield 78, 3) := by decide +kernel
theorem dP_receiveAllOf_10 : decode cP_receiveAllOf 10 = .ok (.if_icmp .ge 22, 3) := by decide +kernel
theorem dP_receiveAllOf_13 : decode cP_receiveAllOf 13 = .ok (.aload_n 1, 1) := by decide +kernel
theorem dP_receiveAllOf_14 : decode cP_receiveAllOf 14 = .ok (.iload_n 2, 1) := by decide +kernel
theorem dP_receiveAllOf_15 : decode cP_receiveAllOf 15 = .ok (.invokevirtual 71, 3) := by decide +kernel
theorem dP_receiveAllOf_18 : decode cP_receiveAllOf 18 = .ok (.ifCond .eq 8, 3) := by decide +kernel
theorem dP_receiveAllOf_21 : decode cP_receiveAllOf 21 = .ok (.aload_n 0, 1) := by decide +kernel
theorem dP_receiveAllOf_22 : decode cP_receiveAllOf 22 = .ok (.iload_n 2, 1) := by decide +kernel
theorem dP_receiveAllOf_23 : decode cP_receiveAllOf 23 = .ok (.invokevirtual 81, 3) := by decide +kernel
theorem dP_receiveAllOf_26 : decode cP_receiveAllOf 26 = .ok (.iinc 2 1, 3) := by decide +kernel
theorem dP_receiveAllOf_29 : decode cP_receiveAllOf 29 = .ok (.goto (-27), 3) := by decide +kernel
theorem dP_receiveAllOf_32 : decode cP_receiveAllOf 32 = .ok (.return_, 1) := by decide +kernel
theorem dP_dropErased_0 : decode cP_dropErased 0 = .ok (.aload_n 0, 1) := by decide +kernel
theorem dP_dropErased_1 : decode cP_dropErased 1 = .ok (.invokevirtual 114, 3) := by decide +kernel
theorem dP_dropErased_4 : decode cP_dropErased 4 = .ok (.iconst 0, 1) := by decide +kernel
theorem dP_dropErased_5 : decode cP_dropErased 5 = .ok (.istore_n 1, 1) := by decide +kernel
theorem dP_dropErased_6 : decode cP_dropErased 6 = .ok (.iconst 0, 1) := by decide +kernel
theorem dP_dropErased_7 : decode cP_dropErased 7 = .ok (.istore_n 2, 1) := by decide +kernel
theorem dP_dropErased_8 : decode cP_dropErased 8 = .ok (.iload_n 2, 1) := by decide +kernel
theorem dP_dropErased_9 : decode cP_dropErased 9 = .ok (.aload_n 0, 1) := by decide +kernel
theorem dP_dropErased_10 : decode cP_dropErased 10 = .ok (.getfield 37, 3) := by decide +kernel
theorem dP_dropErased_13 : decode cP_dropErased 13 = .ok (.getfield 78, 3) := by decide +kernel
theorem dP_dropErased_16 : decode cP_dropErased 16 = .ok (.if_icmp .ge 37, 3) := by decide +kernel
theorem dP_dropErased_19 : decode cP_dropErased 19 = .ok (.aload_n 0, 1) := by decide +kernel
theorem dP_dropErased_20 : decode cP_dropErased 20 = .ok (.getfield 26, 3) := by decide +kernel
theorem dP_dropErased_23 : decode cP_dropErased 23 = .ok (.iload_n 2, 1) := by decide +kernel
theorem dP_dropErased_24 : decode cP_dropErased 24 = .ok (.baload, 1) := by decide +kernel
theorem dP_dropErased_25 : decode cP_dropErased 25 = .ok (.ifCond .eq 22, 3) := by decide +kernel
theorem dP_dropErased_28 : decode cP_dropErased 28 = .ok (.aload_n 0, 1) := by decide +kernel
theorem dP_dropErased_29 : decode cP_dropErased 29 = .ok (.getfield 23, 3) := by decide +kernel
theorem dP_dropErased_32 : decode cP_dropErased 32 = .ok (.iload_n 2, 1) := by decide +kernel
theorem dP_dropErased_33 : decode cP_dropErased 33 = .ok (.baload, 1) := by decide +kernel
theorem dP_dropErased_34 : decode cP_dropErased 34 = .ok (.ifCond .eq 13, 3) := by decide +kernel
theorem dP_dropErased_37 : decode cP_dropErased 37 = .ok (.aload_n 0, 1) := by decide +kernel
theorem dP_dropErased_38 : decode cP_dropErased 38 = .ok (.getfield 23, 3) := by decide +kernel
theorem dP_dropErased_41 : decode cP_dropErased 41 = .ok (.iload_n 2, 1) := by decide +kernel
theorem dP_dropErased_42 : decode cP_dropErased 42 = .ok (.iconst 0, 1) := by decide +kernel
theorem dP_dropErased_43 : decode cP_dropErased 43 = .ok (.bastore, 1) := by decide +kernel
theorem dP_dropErased_44 : decode cP_dropErased 44 = .ok (.iinc 1 1, 3) := by decide +kernel
theorem dP_dropErased_47 : decode cP_dropErased 47 = .ok (.iinc 2 1, 3) := by decide +kernel
theorem dP_dropErased_50 : decode cP_dropErased 50 = .ok (.goto (-42), 3) := by decide +kernel
theorem dP_dropErased_53 : decode cP_dropErased 53 = .ok (.aload_n 0, 1) := by decide +kernel
theorem dP_dropErased_54 : decode cP_dropErased 54 = .ok (.dup, 1) := by decide +kernel
theorem dP_dropErased_55 : decode cP_dropErased 55 = .ok (.getfield 105, 3) := by decide +kernel
theorem dP_dropErased_58 : decode cP_dropErased 58 = .ok (.iload_n 1, 1) := by decide +kernel
theorem dP_dropErased_59 : decode cP_dropErased 59 = .ok (.isub, 1) := by decide +kernel
theorem dP_dropErased_60 : decode cP_dropErased 60 = .ok (.putfield 105, 3) := by decide +kernel
theorem dP_dropErased_63 : decode cP_dropErased 63 = .ok (.iload_n 1, 1) := by decide +kernel
theorem dP_dropErased_64 : decode cP_dropErased 64 = .ok (.ireturn, 1) := by decide +kernel
theorem dP_markWhatMayGo_0 : decode cP_markWhatMayGo 0 = .ok (.iconst 0, 1) := by decide +kernel
theorem dP_markWhatMayGo_1 : decode cP_markWhatMayGo 1 = .ok (.istore_n 1, 1) := by decide +kernel
theorem dP_markWhatMayGo_2 : decode cP_markWhatMayGo 2 = .ok (.iload_n 1, 1) := by decide +kernel
theorem dP_markWhatMayGo_3 : decode cP_markWhatMayGo 3 = .ok (.aload_n 0, 1) := by decide +kernel
theorem dP_markWhatMayGo_4 : decode cP_markWhatMayGo 4 = .ok (.getfield 37, 3) := by decide +kernel
theorem dP_markWhatMayGo_7 : decode cP_markWhatMayGo 7 = .ok (.getfield 78, 3) := by decide +kernel
theorem dP_markWhatMayGo_10 : decode cP_markWhatMayGo 10 = .ok (.if_icmp .ge 50, 3) := by decide +kernel
theorem dP_markWhatMayGo_13 : decode cP_markWhatMayGo 13 = .ok (.aload_n 0, 1) := by decide +kernel
theorem dP_markWhatMayGo_14 : decode cP_markWhatMayGo 14 = .ok (.getfield 26, 3) := by decide +kernel
theorem dP_markWhatMayGo_17 : decode cP_markWhatMayGo 17 = .ok (.iload_n 1, 1) := by decide +kernel
theorem dP_markWhatMayGo_18 : decode cP_markWhatMayGo 18 = .ok (.iconst 0, 1) := by decide +kernel
theorem dP_markWhatMayGo_19 : decode cP_markWhatMayGo 19 = .ok (.bastore, 1) := by decide +kernel
theorem dP_markWhatMayGo_20 : decode cP_markWhatMayGo 20 = .ok (.aload_n 0, 1) := by decide +kernel
theorem dP_markWhatMayGo_21 : decode cP_markWhatMayGo 21 = .ok (.getfield 37, 3) := by decide +kernel
theorem dP_markWhatMayGo_24 : decode cP_markWhatMayGo 24 = .ok (.iload_n 1, 1) := by decide +kernel
theorem dP_markWhatMayGo_25 : decode cP_markWhatMayGo 25 = .ok (.invokevirtual 99, 3) := by decide +kernel
theorem dP_markWhatMayGo_28 : decode cP_markWhatMayGo 28 = .ok (.ifCond .eq 26, 3) := by decide +kernel
theorem dP_markWhatMayGo_31 : decode cP_markWhatMayGo 31 = .ok (.aload_n 0, 1) := by decide +kernel
theorem dP_markWhatMayGo_32 : decode cP_markWhatMayGo 32 = .ok (.iload_n 1, 1) := by decide +kernel
theorem dP_markWhatMayGo_33 : decode cP_markWhatMayGo 33 = .ok (.invokevirtual 117, 3) := by decide +kernel
theorem dP_markWhatMayGo_36 : decode cP_markWhatMayGo 36 = .ok (.ifCond .eq 18, 3) := by decide +kernel
theorem dP_markWhatMayGo_39 : decode cP_markWhatMayGo 39 = .ok (.aload_n 0, 1) := by decide +kernel
theorem dP_markWhatMayGo_40 : decode cP_markWhatMayGo 40 = .ok (.getfield 26, 3) := by decide +kernel
theorem dP_markWhatMayGo_43 : decode cP_markWhatMayGo 43 = .ok (.aload_n 0, 1) := by decide +kernel
theorem dP_markWhatMayGo_44 : decode cP_markWhatMayGo 44 = .ok (.getfield 37, 3) := by decide +kernel
theorem dP_markWhatMayGo_47 : decode cP_markWhatMayGo 47 = .ok (.getfield 102, 3) := by decide +kernel
theorem dP_markWhatMayGo_50 : decode cP_markWhatMayGo 50 = .ok (.iload_n 1, 1) := by decide +kernel
theorem dP_markWhatMayGo_51 : decode cP_markWhatMayGo 51 = .ok (.iaload, 1) := by decide +kernel
theorem dP_markWhatMayGo_52 : decode cP_markWhatMayGo 52 = .ok (.iconst 1, 1) := by decide +kernel
theorem dP_markWhatMayGo_53 : decode cP_markWhatMayGo 53 = .ok (.bastore, 1) := by decide +kernel
theorem dP_markWhatMayGo_54 : decode cP_markWhatMayGo 54 = .ok (.iinc 1 1, 3) := by decide +kernel
theorem dP_markWhatMayGo_57 : decode cP_markWhatMayGo 57 = .ok (.goto (-55), 3) := by decide +kernel
theorem dP_markWhatMayGo_60 : decode cP_markWhatMayGo 60 = .ok (.iconst 0, 1) := by decide +kernel
theorem dP_markWhatMayGo_61 : decode cP_markWhatMayGo 61 = .ok (.istore_n 1, 1) := by decide +kernel
theorem dP_markWhatMayGo_62 : decode cP_markWhatMayGo 62 = .ok (.iload_n 1, 1) := by decide +kernel
theorem dP_markWhatMayGo_63 : decode cP_markWhatMayGo 63 = .ok (.aload_n 0, 1) := by decide +kernel
theorem dP_markWhatMayGo_64 : decode cP_markWhatMayGo 64 = .ok (.getfield 37, 3) := by decide +kernel
theorem dP_markWhatMayGo_67 : decode cP_markWhatMayGo 67 = .ok (.getfield 78, 3) := by decide +kernel
theorem dP_markWhatMayGo_70 : decode cP_markWhatMayGo 70 = .ok (.if_icmp .ge 32, 3) := by decide +kernel
theorem dP_markWhatMayGo_73 : decode cP_markWhatMayGo 73 = .ok (.aload_n 0, 1) := by decide +kernel
theorem dP_markWhatMayGo_74 : decode cP_markWhatMayGo 74 = .ok (.iload_n 1, 1) := by decide +kernel
theorem dP_markWhatMayGo_75 : decode cP_markWhatMayGo 75 = .ok (.invokevirtual 120, 3) := by decide +kernel
theorem dP_markWhatMayGo_78 : decode cP_markWhatMayGo 78 = .ok (.ifCond .eq 18, 3) := by decide +kernel
theorem dP_markWhatMayGo_81 : decode cP_markWhatMayGo 81 = .ok (.aload_n 0, 1) := by decide +kernel
theorem dP_markWhatMayGo_82 : decode cP_markWhatMayGo 82 = .ok (.getfield 26, 3) := by decide +kernel
theorem dP_markWhatMayGo_85 : decode cP_markWhatMayGo 85 = .ok (.aload_n 0, 1) := by decide +kernel
theorem dP_markWhatMayGo_86 : decode cP_markWhatMayGo 86 = .ok (.getfield 37, 3) := by decide +kernel
theorem dP_markWhatMayGo_89 : decode cP_markWhatMayGo 89 = .ok (.getfield 102, 3) := by decide +kernel
theorem dP_markWhatMayGo_92 : decode cP_markWhatMayGo 92 = .ok (.iload_n 1, 1) := by decide +kernel
theorem dP_markWhatMayGo_93 : decode cP_markWhatMayGo 93 = .ok (.iaload, 1) := by decide +kernel
theorem dP_markWhatMayGo_94 : decode cP_markWhatMayGo 94 = .ok (.iconst 0, 1) := by decide +kernel
theorem dP_markWhatMayGo_95 : decode cP_markWhatMayGo 95 = .ok (.bastore, 1) := by decide +kernel
theorem dP_markWhatMayGo_96 : decode cP_markWhatMayGo 96 = .ok (.iinc 1 1, 3) := by decide +kernel
theorem dP_markWhatMayGo_99 : decode cP_markWhatMayGo 99 = .ok (.goto (-37), 3) := by decide +kernel
theorem dP_markWhatMayGo_102 : decode cP_markWhatMayGo 102 = .ok (.return_, 1) := by decide +kernel
theorem dP_isSettled_0 : decode cP_isSettled 0 = .ok (.aload_n 0, 1) := by decide +kernel
theorem dP_isSettled_1 : decode cP_isSettled 1 = .ok (.getfield 37, 3) := by decide +kernel
theorem dP_isSettled_4 : decode cP_isSettled 4 = .ok (.getfield 54, 3) := by decide +kernel
theorem dP_isSettled_7 : decode cP_isSettled 7 = .ok (.iload_n 1, 1) := by decide +kernel
theorem dP_isSettled_8 : decode cP_isSettled 8 = .ok (.iaload, 1) := by decide +kernel
theorem dP_isSettled_9 : decode cP_isSettled 9 = .ok (.istore_n 2, 1) := by decide +kernel
theorem dP_isSettled_10 : decode cP_isSettled 10 = .ok (.aload_n 0, 1) := by decide +kernel
theorem dP_isSettled_11 : decode cP_isSettled 11 = .ok (.getfield 37, 3) := by decide +kernel
theorem dP_isSettled_14 : decode cP_isSettled 14 = .ok (.iload_n 1, 1) := by decide +kernel
theorem dP_isSettled_15 : decode cP_isSettled 15 = .ok (.invokevirtual 50, 3) := by decide +kernel
theorem dP_isSettled_18 : decode cP_isSettled 18 = .ok (.istore_n 3, 1) := by decide +kernel
theorem dP_isSettled_19 : decode cP_isSettled 19 = .ok (.iconst 0, 1) := by decide +kernel
theorem dP_isSettled_20 : decode cP_isSettled 20 = .ok (.istore 4, 2) := by decide +kernel
theorem dP_isSettled_22 : decode cP_isSettled 22 = .ok (.iload 4, 2) := by decide +kernel
theorem dP_isSettled_24 : decode cP_isSettled 24 = .ok (.iconst 3, 1) := by decide +kernel
theorem dP_isSettled_25 : decode cP_isSettled 25 = .ok (.if_icmp .ge 24, 3) := by decide +kernel
theorem dP_isSettled_28 : decode cP_isSettled 28 = .ok (.aload_n 0, 1) := by decide +kernel
theorem dP_isSettled_29 : decode cP_isSettled 29 = .ok (.getfield 11, 3) := by decide +kernel
theorem dP_isSettled_32 : decode cP_isSettled 32 = .ok (.iload 4, 2) := by decide +kernel
theorem dP_isSettled_34 : decode cP_isSettled 34 = .ok (.aaload, 1) := by decide +kernel
theorem dP_isSettled_35 : decode cP_isSettled 35 = .ok (.iload_n 2, 1) := by decide +kernel
theorem dP_isSettled_36 : decode cP_isSettled 36 = .ok (.iaload, 1) := by decide +kernel
theorem dP_isSettled_37 : decode cP_isSettled 37 = .ok (.iload_n 3, 1) := by decide +kernel
theorem dP_isSettled_38 : decode cP_isSettled 38 = .ok (.if_icmp .ge 5, 3) := by decide +kernel
theorem dP_isSettled_41 : decode cP_isSettled 41 = .ok (.iconst 0, 1) := by decide +kernel
theorem dP_isSettled_42 : decode cP_isSettled 42 = .ok (.ireturn, 1) := by decide +kernel
theorem dP_isSettled_43 : decode cP_isSettled 43 = .ok (.iinc 4 1, 3) := by decide +kernel
theorem dP_isSettled_46 : decode cP_isSettled 46 = .ok (.goto (-24), 3) := by decide +kernel
theorem dP_isSettled_49 : decode cP_isSettled 49 = .ok (.iconst 1, 1) := by decide +kernel
theorem dP_isSettled_50 : decode cP_isSettled 50 = .ok (.ireturn, 1) := by decide +kernel
theorem dP_holdsItsTarget_0 : decode cP_holdsItsTarget 0 = .ok (.aload_n 0, 1) := by decide +kernel
theorem dP_holdsItsTarget_1 : decode cP_holdsItsTarget 1 = .ok (.getfield 37, 3) := by decide +kernel
theorem dP_holdsItsTarget_4 : decode cP_holdsItsTarget 4 = .ok (.iload_n 1, 1) := by decide +kernel
theorem dP_holdsItsTarget_5 : decode cP_holdsItsTarget 5 = .ok (.invokevirtual 99, 3) := by decide +kernel
theorem dP_holdsItsTarget_8 : decode cP_holdsItsTarget 8 = .ok (.ifCond .ne 36, 3) := by decide +kernel
theorem dP_holdsItsTarget_11 : decode cP_holdsItsTarget 11 = .ok (.aload_n 0, 1) := by decide +kernel
theorem dP_holdsItsTarget_12 : decode cP_holdsItsTarget 12 = .ok (.getfield 37, 3) := by decide +kernel
theorem dP_holdsItsTarget_15 : decode cP_holdsItsTarget 15 = .ok (.getfield 102, 3) := by decide +kernel
theorem dP_holdsItsTarget_18 : decode cP_holdsItsTarget 18 = .ok (.iload_n 1, 1) := by decide +kernel
theorem dP_holdsItsTarget_19 : decode cP_holdsItsTarget 19 = .ok (.iaload, 1) := by decide +kernel
theorem dP_holdsItsTarget_20 : decode cP_holdsItsTarget 20 = .ok (.iconst (-1), 1) := by decide +kernel
theorem dP_holdsItsTarget_21 : decode cP_holdsItsTarget 21 = .ok (.if_icmp .eq 23, 3) := by decide +kernel
theorem dP_holdsItsTarget_24 : decode cP_holdsItsTarget 24 = .ok (.aload_n 0, 1) := by decide +kernel
theorem dP_holdsItsTarget_25 : decode cP_holdsItsTarget 25 = .ok (.iload_n 1, 1) := by decide +kernel
theorem dP_holdsItsTarget_26 : decode cP_holdsItsTarget 26 = .ok (.invokevirtual 71, 3) := by decide +kernel
theorem dP_holdsItsTarget_29 : decode cP_holdsItsTarget 29 = .ok (.ifCond .eq 15, 3) := by decide +kernel
theorem dP_holdsItsTarget_32 : decode cP_holdsItsTarget 32 = .ok (.aload_n 0, 1) := by decide +kernel
theorem dP_holdsItsTarget_33 : decode cP_holdsItsTarget 33 = .ok (.iload_n 1, 1) := by decide +kernel
theorem dP_holdsItsTarget_34 : decode cP_holdsItsTarget 34 = .ok (.invokevirtual 117, 3) := by decide +kernel
theorem dP_holdsItsTarget_37 : decode cP_holdsItsTarget 37 = .ok (.ifCond .ne 7, 3) := by decide +kernel
theorem dP_holdsItsTarget_40 : decode cP_holdsItsTarget 40 = .ok (.iconst 1, 1) := by decide +kernel
theorem dP_holdsItsTarget_41 : decode cP_holdsItsTarget 41 = .ok (.goto 4, 3) := by decide +kernel
theorem dP_holdsItsTarget_44 : decode cP_holdsItsTarget 44 = .ok (.iconst 0, 1) := by decide +kernel
theorem dP_holdsItsTarget_45 : decode cP_holdsItsTarget 45 = .ok (.ireturn, 1) := by decide +kernel
theorem dP_positionOf_0 : decode cP_positionOf 0 = .ok (.iconst 0, 1) := by decide +kernel
theorem dP_positionOf_1 : decode cP_positionOf 1 = .ok (.istore_n 2, 1) := by decide +kernel
theorem dP_positionOf_2 : decode cP_positionOf 2 = .ok (.iload_n 2, 1) := by decide +kernel
theorem dP_positionOf_3 : decode cP_positionOf 3 = .ok (.aload_n 0, 1) := by decide +kernel
theorem dP_positionOf_4 : decode cP_positionOf 4 = .ok (.getfield 41, 3) := by decide +kernel
theorem dP_positionOf_7 : decode cP_positionOf 7 = .ok (.if_icmp .ge 21, 3) := by decide +kernel
theorem dP_positionOf_10 : decode cP_positionOf 10 = .ok (.aload_n 0, 1) := by decide +kernel
theorem dP_positionOf_11 : decode cP_positionOf 11 = .ok (.getfield 29, 3) := by decide +kernel
theorem dP_positionOf_14 : decode cP_positionOf 14 = .ok (.iload_n 2, 1) := by decide +kernel
theorem dP_positionOf_15 : decode cP_positionOf 15 = .ok (.iaload, 1) := by decide +kernel
theorem dP_positionOf_16 : decode cP_positionOf 16 = .ok (.iload_n 1, 1) := by decide +kernel
theorem dP_positionOf_17 : decode cP_positionOf 17 = .ok (.if_icmp .ne 5, 3) := by decide +kernel
theorem dP_positionOf_20 : decode cP_positionOf 20 = .ok (.iload_n 2, 1) := by decide +kernel
theorem dP_positionOf_21 : decode cP_positionOf 21 = .ok (.ireturn, 1) := by decide +kernel
theorem dP_positionOf_22 : decode cP_positionOf 22 = .ok (.iinc 2 1, 3) := by decide +kernel
theorem dP_positionOf_25 : decode cP_positionOf 25 = .ok (.goto (-23), 3) := by decide +kernel
theorem dP_positionOf_28 : decode cP_positionOf 28 = .ok (.iconst (-1), 1) := by decide +kernel
theorem dP_positionOf_29 : decode cP_positionOf 29 = .ok (.ireturn, 1) := by decide +kernel
theorem dP_readsLike_0 : decode cP_readsLike 0 = .ok (.aload_n 0, 1) := by decide +kernel
theorem dP_readsLike_1 : decode cP_readsLike 1 = .ok (.getfield 41, 3) := by decide +kernel
theorem dP_readsLike_4 : decode cP_readsLike 4 = .ok (.aload_n 1, 1) := by decide +kernel
theorem dP_readsLike_5 : decode cP_readsLike 5 = .ok (.getfield 41, 3) := by decide +kernel
theorem dP_readsLike_8 : decode cP_readsLike 8 = .ok (.if_icmp .eq 5, 3) := by decide +kernel
theorem dP_readsLike_11 : decode cP_readsLike 11 = .ok (.iconst 0, 1) := by decide +kernel
theorem dP_readsLike_12 : decode cP_readsLike 12 = .ok (.ireturn, 1) := by decide +kernel
theorem dP_readsLike_13 : decode cP_readsLike 13 = .ok (.iconst 0, 1) := by decide +kernel
theorem dP_readsLike_14 : decode cP_readsLike 14 = .ok (.istore_n 2, 1) := by decide +kernel
theorem dP_readsLike_15 : decode cP_readsLike 15 = .ok (.iload_n 2, 1) := by decide +kernel
theorem dP_readsLike_16 : decode cP_readsLike 16 = .ok (.aload_n 0, 1) := by decide +kernel
theorem dP_readsLike_17 : decode cP_readsLike 17 = .ok (.getfield 41, 3) := by decide +kernel
theorem dP_readsLike_20 : decode cP_readsLike 20 = .ok (.if_icmp .ge 42, 3) := by decide +kernel
theorem dP_readsLike_23 : decode cP_readsLike 23 = .ok (.aload_n 0, 1) := by decide +kernel
theorem dP_readsLike_24 : decode cP_readsLike 24 = .ok (.getfield 37, 3) := by decide +kernel
theorem dP_readsLike_27 : decode cP_readsLike 27 = .ok (.getfield 44, 3) := by decide +kernel
theorem dP_readsLike_30 : decode cP_readsLike 30 = .ok (.aload_n 0, 1) := by decide +kernel
theorem dP_readsLike_31 : decode cP_readsLike 31 = .ok (.getfield 29, 3) := by decide +kernel
theorem dP_readsLike_34 : decode cP_readsLike 34 = .ok (.iload_n 2, 1) := by decide +kernel
theorem dP_readsLike_35 : decode cP_readsLike 35 = .ok (.iaload, 1) := by decide +kernel
theorem dP_readsLike_36 : decode cP_readsLike 36 = .ok (.caload, 1) := by decide +kernel
theorem dP_readsLike_37 : decode cP_readsLike 37 = .ok (.aload_n 0, 1) := by decide +kernel
theorem dP_readsLike_38 : decode cP_readsLike 38 = .ok (.getfield 37, 3) := by decide +kernel
theorem dP_readsLike_41 : decode cP_readsLike 41 = .ok (.getfield 44, 3) := by decide +kernel
theorem dP_readsLike_44 : decode cP_readsLike 44 = .ok (.aload_n 1, 1) := by decide +kernel
theorem dP_readsLike_45 : decode cP_readsLike 45 = .ok (.getfield 29, 3) := by decide +kernel
theorem dP_readsLike_48 : decode cP_readsLike 48 = .ok (.iload_n 2, 1) := by decide +kernel
theorem dP_readsLike_49 : decode cP_readsLike 49 = .ok (.iaload, 1) := by decide +kernel
theorem dP_readsLike_50 : decode cP_readsLike 50 = .ok (.caload, 1) := by decide +kernel
theorem dP_readsLike_51 : decode cP_readsLike 51 = .ok (.if_icmp .eq 5, 3) := by decide +kernel
theorem dP_readsLike_54 : decode cP_readsLike 54 = .ok (.iconst 0, 1) := by decide +kernel
theorem dP_readsLike_55 : decode cP_readsLike 55 = .ok (.ireturn, 1) := by decide +kernel
theorem dP_readsLike_56 : decode cP_readsLike 56 = .ok (.iinc 2 1, 3) := by decide +kernel
theorem dP_readsLike_59 : decode cP_readsLike 59 = .ok (.goto (-44), 3) := by decide +kernel
theorem dP_readsLike_62 : decode cP_readsLike 62 = .ok (.iconst 1, 1) := by decide +kernel
theorem dP_readsLike_63 : decode cP_readsLike 63 = .ok (.ireturn, 1) := by decide +kernel
end
section
theorem dT_init_0 : decode cT_init 0 = .ok (.aload_n 0, 1) := by decide +kernel
theorem dT_init_1 : decode cT_init 1 = .ok (.invokespecial 1, 3) := by decide +kernel
theorem dT_init_4 : decode cT_init 4 = .ok (.aload_n 0, 1) := by decide +kernel
theorem dT_init_5 : decode cT_init 5 = .ok (.new 7, 3) := by decide +kernel
theorem dT_init_8 : decode cT_init 8 = .ok (.dup, 1) := by decide +kernel
theorem dT_init_9 : decode cT_init 9 = .ok (.invokespecial 9, 3) := by decide +kernel
theorem dT_init_12 : decode cT_init 12 = .ok (.putfield 10, 3) := by decide +kernel
theorem dT_init_15 : decode cT_init 15 = .ok (.aload_n 0, 1) := by decide +kernel
theorem dT_init_16 : decode cT_init 16 = .ok (.iconst 3, 1) := by decide +kernel
theorem dT_init_17 : decode cT_init 17 = .ok (.anewarray 16, 3) := by decide +kernel
theorem dT_init_20 : decode cT_init 20 = .ok (.putfield 18, 3) := by decide +kernel
theorem dT_init_23 : decode cT_init 23 = .ok (.iconst 0, 1) := by decide +kernel
theorem dT_init_24 : decode cT_init 24 = .ok (.istore_n 1, 1) := by decide +kernel
theorem dT_init_25 : decode cT_init 25 = .ok (.iload_n 1, 1) := by decide +kernel
theorem dT_init_26 : decode cT_init 26 = .ok (.iconst 3, 1) := by decide +kernel
theorem dT_init_27 : decode cT_init 27 = .ok (.if_icmp .ge 27, 3) := by decide +kernel
theorem dT_init_30 : decode cT_init 30 = .ok (.aload_n 0, 1) := by decide +kernel
theorem dT_init_31 : decode cT_init 31 = .ok (.getfield 18, 3) := by decide +kernel
theorem dT_init_34 : decode cT_init 34 = .ok (.iload_n 1, 1) := by decide +kernel
theorem dT_init_35 : decode cT_init 35 = .ok (.new 16, 3) := by decide +kernel
theorem dT_init_38 : decode cT_init 38 = .ok (.dup, 1) := by decide +kernel
theorem dT_init_39 : decode cT_init 39 = .ok (.iload_n 1, 1) := by decide +kernel
theorem dT_init_40 : decode cT_init 40 = .ok (.aload_n 0, 1) := by decide +kernel
theorem dT_init_41 : decode cT_init 41 = .ok (.getfield 10, 3) := by decide +kernel
theorem dT_init_44 : decode cT_init 44 = .ok (.invokespecial 22, 3) := by decide +kernel
theorem dT_init_47 : decode cT_init 47 = .ok (.aastore, 1) := by decide +kernel
theorem dT_init_48 : decode cT_init 48 = .ok (.iinc 1 1, 3) := by decide +kernel
theorem dT_init_51 : decode cT_init 51 = .ok (.goto (-26), 3) := by decide +kernel
theorem dT_init_54 : decode cT_init 54 = .ok (.return_, 1) := by decide +kernel
theorem dT_insert_0 : decode cT_insert 0 = .ok (.iload_n 1, 1) := by decide +kernel
theorem dT_insert_1 : decode cT_insert 1 = .ok (.invokestatic 25, 3) := by decide +kernel
theorem dT_insert_4 : decode cT_insert 4 = .ok (.ifCond .eq 15, 3) := by decide +kernel
theorem dT_insert_7 : decode cT_insert 7 = .ok (.iload_n 3, 1) := by decide +kernel
theorem dT_insert_8 : decode cT_insert 8 = .ok (.bipush 32, 2) := by decide +kernel
theorem dT_insert_10 : decode cT_insert 10 = .ok (.if_icmp .lt 9, 3) := by decide +kernel
theorem dT_insert_13 : decode cT_insert 13 = .ok (.iload_n 3, 1) := by decide +kernel
theorem dT_insert_14 : decode cT_insert 14 = .ok (.bipush 126, 2) := by decide +kernel
theorem dT_insert_16 : decode cT_insert 16 = .ok (.if_icmp .le 5, 3) := by decide +kernel
theorem dT_insert_19 : decode cT_insert 19 = .ok (.iconst (-1), 1) := by decide +kernel
theorem dT_insert_20 : decode cT_insert 20 = .ok (.ireturn, 1) := by decide +kernel
theorem dT_insert_21 : decode cT_insert 21 = .ok (.aload_n 0, 1) := by decide +kernel
theorem dT_insert_22 : decode cT_insert 22 = .ok (.getfield 18, 3) := by decide +kernel
theorem dT_insert_25 : decode cT_insert 25 = .ok (.iload_n 1, 1) := by decide +kernel
theorem dT_insert_26 : decode cT_insert 26 = .ok (.aaload, 1) := by decide +kernel
theorem dT_insert_27 : decode cT_insert 27 = .ok (.astore 4, 2) := by decide +kernel
theorem dT_insert_29 : decode cT_insert 29 = .ok (.iload_n 2, 1) := by decide +kernel
theorem dT_insert_30 : decode cT_insert 30 = .ok (.ifCond .lt 12, 3) := by decide +kernel
theorem dT_insert_33 : decode cT_insert 33 = .ok (.iload_n 2, 1) := by decide +kernel
theorem dT_insert_34 : decode cT_insert 34 = .ok (.aload 4, 2) := by decide +kernel
theorem dT_insert_36 : decode cT_insert 36 = .ok (.getfield 29, 3) := by decide +kernel
theorem dT_insert_39 : decode cT_insert 39 = .ok (.if_icmp .le 5, 3) := by decide +kernel
theorem dT_insert_42 : decode cT_insert 42 = .ok (.iconst (-1), 1) := by decide +kernel
theorem dT_insert_43 : decode cT_insert 43 = .ok (.ireturn, 1) := by decide +kernel
theorem dT_insert_44 : decode cT_insert 44 = .ok (.aload_n 0, 1) := by decide +kernel
theorem dT_insert_45 : decode cT_insert 45 = .ok (.getfield 10, 3) := by decide +kernel
theorem dT_insert_48 : decode cT_insert 48 = .ok (.invokevirtual 33, 3) := by decide +kernel
theorem dT_insert_51 : decode cT_insert 51 = .ok (.ifCond .eq 8, 3) := by decide +kernel
theorem dT_insert_54 : decode cT_insert 54 = .ok (.bipush (-2), 2) := by decide +kernel
theorem dT_insert_56 : decode cT_insert 56 = .ok (.goto 15, 3) := by decide +kernel
theorem dT_insert_59 : decode cT_insert 59 = .ok (.aload 4, 2) := by decide +kernel
theorem dT_insert_61 : decode cT_insert 61 = .ok (.aload 4, 2) := by decide +kernel
theorem dT_insert_63 : decode cT_insert 63 = .ok (.iload_n 2, 1) := by decide +kernel
theorem dT_insert_64 : decode cT_insert 64 = .ok (.invokevirtual 37, 3) := by decide +kernel
theorem dT_insert_67 : decode cT_insert 67 = .ok (.iload_n 3, 1) := by decide +kernel
theorem dT_insert_68 : decode cT_insert 68 = .ok (.invokevirtual 41, 3) := by decide +kernel
theorem dT_insert_71 : decode cT_insert 71 = .ok (.ireturn, 1) := by decide +kernel
theorem dT_isReplica_0 : decode cT_isReplica 0 = .ok (.iload_n 0, 1) := by decide +kernel
theorem dT_isReplica_1 : decode cT_isReplica 1 = .ok (.ifCond .lt 12, 3) := by decide +kernel
theorem dT_isReplica_4 : decode cT_isReplica 4 = .ok (.iload_n 0, 1) := by decide +kernel
theorem dT_isReplica_5 : decode cT_isReplica 5 = .ok (.iconst 3, 1) := by decide +kernel
theorem dT_isReplica_6 : decode cT_isReplica 6 = .ok (.if_icmp .ge 7, 3) := by decide +kernel
theorem dT_isReplica_9 : decode cT_isReplica 9 = .ok (.iconst 1, 1) := by decide +kernel
theorem dT_isReplica_10 : decode cT_isReplica 10 = .ok (.goto 4, 3) := by decide +kernel
theorem dT_isReplica_13 : decode cT_isReplica 13 = .ok (.iconst 0, 1) := by decide +kernel
theorem dT_isReplica_14 : decode cT_isReplica 14 = .ok (.ireturn, 1) := by decide +kernel
theorem dT_erase_0 : decode cT_erase 0 = .ok (.iload_n 1, 1) := by decide +kernel
theorem dT_erase_1 : decode cT_erase 1 = .ok (.invokestatic 25, 3) := by decide +kernel
theorem dT_erase_4 : decode cT_erase 4 = .ok (.ifCond .ne 5, 3) := by decide +kernel
theorem dT_erase_7 : decode cT_erase 7 = .ok (.iconst (-1), 1) := by decide +kernel
theorem dT_erase_8 : decode cT_erase 8 = .ok (.ireturn, 1) := by decide +kernel
theorem dT_erase_9 : decode cT_erase 9 = .ok (.aload_n 0, 1) := by decide +kernel
theorem dT_erase_10 : decode cT_erase 10 = .ok (.getfield 18, 3) := by decide +kernel
theorem dT_erase_13 : decode cT_erase 13 = .ok (.iload_n 1, 1) := by decide +kernel
theorem dT_erase_14 : decode cT_erase 14 = .ok (.aaload, 1) := by decide +kernel
theorem dT_erase_15 : decode cT_erase 15 = .ok (.iload_n 2, 1) := by decide +kernel
theorem dT_erase_16 : decode cT_erase 16 = .ok (.invokevirtual 45, 3) := by decide +kernel
theorem dT_erase_19 : decode cT_erase 19 = .ok (.istore_n 3, 1) := by decide +kernel
theorem dT_erase_20 : decode cT_erase 20 = .ok (.iload_n 3, 1) := by decide +kernel
theorem dT_erase_21 : decode cT_erase 21 = .ok (.iconst (-1), 1) := by decide +kernel
theorem dT_erase_22 : decode cT_erase 22 = .ok (.if_icmp .ne 5, 3) := by decide +kernel
theorem dT_erase_25 : decode cT_erase 25 = .ok (.iconst (-1), 1) := by decide +kernel
theorem dT_erase_26 : decode cT_erase 26 = .ok (.ireturn, 1) := by decide +kernel
theorem dT_erase_27 : decode cT_erase 27 = .ok (.aload_n 0, 1) := by decide +kernel
theorem dT_erase_28 : decode cT_erase 28 = .ok (.getfield 10, 3) := by decide +kernel
theorem dT_erase_31 : decode cT_erase 31 = .ok (.invokevirtual 33, 3) := by decide +kernel
theorem dT_erase_34 : decode cT_erase 34 = .ok (.ifCond .eq 8, 3) := by decide +kernel
theorem dT_erase_37 : decode cT_erase 37 = .ok (.bipush (-2), 2) := by decide +kernel
theorem dT_erase_39 : decode cT_erase 39 = .ok (.goto 14, 3) := by decide +kernel
theorem dT_erase_42 : decode cT_erase 42 = .ok (.aload_n 0, 1) := by decide +kernel
theorem dT_erase_43 : decode cT_erase 43 = .ok (.getfield 18, 3) := by decide +kernel
theorem dT_erase_46 : decode cT_erase 46 = .ok (.iload_n 1, 1) := by decide +kernel
theorem dT_erase_47 : decode cT_erase 47 = .ok (.aaload, 1) := by decide +kernel
theorem dT_erase_48 : decode cT_erase 48 = .ok (.iload_n 3, 1) := by decide +kernel
theorem dT_erase_49 : decode cT_erase 49 = .ok (.iconst 0, 1) := by decide +kernel
theorem dT_erase_50 : decode cT_erase 50 = .ok (.invokevirtual 41, 3) := by decide +kernel
theorem dT_erase_53 : decode cT_erase 53 = .ok (.ireturn, 1) := by decide +kernel
theorem dT_deliver_0 : decode cT_deliver 0 = .ok (.iload_n 1, 1) := by decide +kernel
theorem dT_deliver_1 : decode cT_deliver 1 = .ok (.invokestatic 25, 3) := by decide +kernel
theorem dT_deliver_4 : decode cT_deliver 4 = .ok (.ifCond .eq 14, 3) := by decide +kernel
theorem dT_deliver_7 : decode cT_deliver 7 = .ok (.aload_n 0, 1) := by decide +kernel
theorem dT_deliver_8 : decode cT_deliver 8 = .ok (.getfield 10, 3) := by decide +kernel
theorem dT_deliver_11 : decode cT_deliver 11 = .ok (.iload_n 2, 1) := by decide +kernel
theorem dT_deliver_12 : decode cT_deliver 12 = .ok (.invokevirtual 48, 3) := by decide +kernel
theorem dT_deliver_15 : decode cT_deliver 15 = .ok (.ifCond .ne 5, 3) := by decide +kernel
theorem dT_deliver_18 : decode cT_deliver 18 = .ok (.iconst (-1), 1) := by decide +kernel
theorem dT_deliver_19 : decode cT_deliver 19 = .ok (.ireturn, 1) := by decide +kernel
theorem dT_deliver_20 : decode cT_deliver 20 = .ok (.aload_n 0, 1) := by decide +kernel
theorem dT_deliver_21 : decode cT_deliver 21 = .ok (.getfield 18, 3) := by decide +kernel
theorem dT_deliver_24 : decode cT_deliver 24 = .ok (.iload_n 1, 1) := by decide +kernel
theorem dT_deliver_25 : decode cT_deliver 25 = .ok (.aaload, 1) := by decide +kernel
theorem dT_deliver_26 : decode cT_deliver 26 = .ok (.iload_n 2, 1) := by decide +kernel
theorem dT_deliver_27 : decode cT_deliver 27 = .ok (.invokevirtual 51, 3) := by decide +kernel
theorem dT_deliver_30 : decode cT_deliver 30 = .ok (.aload_n 0, 1) := by decide +kernel
theorem dT_deliver_31 : decode cT_deliver 31 = .ok (.getfield 18, 3) := by decide +kernel
theorem dT_deliver_34 : decode cT_deliver 34 = .ok (.iload_n 1, 1) := by decide +kernel
theorem dT_deliver_35 : decode cT_deliver 35 = .ok (.aaload, 1) := by decide +kernel
theorem dT_deliver_36 : decode cT_deliver 36 = .ok (.invokevirtual 55, 3) := by decide +kernel
theorem dT_deliver_39 : decode cT_deliver 39 = .ok (.ireturn, 1) := by decide +kernel
theorem dT_sync_0 : decode cT_sync 0 = .ok (.iload_n 1, 1) := by decide +kernel
theorem dT_sync_1 : decode cT_sync 1 = .ok (.invokestatic 25, 3) := by decide +kernel
theorem dT_sync_4 : decode cT_sync 4 = .ok (.ifCond .eq 10, 3) := by decide +kernel
theorem dT_sync_7 : decode cT_sync 7 = .ok (.iload_n 2, 1) := by decide +kernel
theorem dT_sync_8 : decode cT_sync 8 = .ok (.invokestatic 25, 3) := by decide +kernel
theorem dT_sync_11 : decode cT_sync 11 = .ok (.ifCond .ne 5, 3) := by decide +kernel
theorem dT_sync_14 : decode cT_sync 14 = .ok (.iconst (-1), 1) := by decide +kernel
theorem dT_sync_15 : decode cT_sync 15 = .ok (.ireturn, 1) := by decide +kernel
theorem dT_sync_16 : decode cT_sync 16 = .ok (.aload_n 0, 1) := by decide +kernel
theorem dT_sync_17 : decode cT_sync 17 = .ok (.getfield 18, 3) := by decide +kernel
theorem dT_sync_20 : decode cT_sync 20 = .ok (.iload_n 1, 1) := by decide +kernel
theorem dT_sync_21 : decode cT_sync 21 = .ok (.aaload, 1) := by decide +kernel
theorem dT_sync_22 : decode cT_sync 22 = .ok (.aload_n 0, 1) := by decide +kernel
theorem dT_sync_23 : decode cT_sync 23 = .ok (.getfield 18, 3) := by decide +kernel
theorem dT_sync_26 : decode cT_sync 26 = .ok (.iload_n 2, 1) := by decide +kernel
theorem dT_sync_27 : decode cT_sync 27 = .ok (.aaload, 1) := by decide +kernel
theorem dT_sync_28 : decode cT_sync 28 = .ok (.invokevirtual 59, 3) := by decide +kernel
theorem dT_sync_31 : decode cT_sync 31 = .ok (.aload_n 0, 1) := by decide +kernel
theorem dT_sync_32 : decode cT_sync 32 = .ok (.getfield 18, 3) := by decide +kernel
theorem dT_sync_35 : decode cT_sync 35 = .ok (.iload_n 1, 1) := by decide +kernel
theorem dT_sync_36 : decode cT_sync 36 = .ok (.aaload, 1) := by decide +kernel
theorem dT_sync_37 : decode cT_sync 37 = .ok (.invokevirtual 55, 3) := by decide +kernel
theorem dT_sync_40 : decode cT_sync 40 = .ok (.ireturn, 1) := by decide +kernel
theorem dT_collect_0 : decode cT_collect 0 = .ok (.iload_n 1, 1) := by decide +kernel
theorem dT_collect_1 : decode cT_collect 1 = .ok (.invokestatic 25, 3) := by decide +kernel
theorem dT_collect_4 : decode cT_collect 4 = .ok (.ifCond .eq 15, 3) := by decide +kernel
theorem dT_collect_7 : decode cT_collect 7 = .ok (.aload_n 0, 1) := by decide +kernel
theorem dT_collect_8 : decode cT_collect 8 = .ok (.getfield 18, 3) := by decide +kernel
theorem dT_collect_11 : decode cT_collect 11 = .ok (.iload_n 1, 1) := by decide +kernel
theorem dT_collect_12 : decode cT_collect 12 = .ok (.aaload, 1) := by decide +kernel
theorem dT_collect_13 : decode cT_collect 13 = .ok (.invokevirtual 63, 3) := by decide +kernel
theorem dT_collect_16 : decode cT_collect 16 = .ok (.goto 4, 3) := by decide +kernel
theorem dT_collect_19 : decode cT_collect 19 = .ok (.iconst (-1), 1) := by decide +kernel
theorem dT_collect_20 : decode cT_collect 20 = .ok (.ireturn, 1) := by decide +kernel
theorem dT_length_0 : decode cT_length 0 = .ok (.iload_n 1, 1) := by decide +kernel
theorem dT_length_1 : decode cT_length 1 = .ok (.invokestatic 25, 3) := by decide +kernel
theorem dT_length_4 : decode cT_length 4 = .ok (.ifCond .eq 15, 3) := by decide +kernel
theorem dT_length_7 : decode cT_length 7 = .ok (.aload_n 0, 1) := by decide +kernel
theorem dT_length_8 : decode cT_length 8 = .ok (.getfield 18, 3) := by decide +kernel
theorem dT_length_11 : decode cT_length 11 = .ok (.iload_n 1, 1) := by decide +kernel
theorem dT_length_12 : decode cT_length 12 = .ok (.aaload, 1) := by decide +kernel
theorem dT_length_13 : decode cT_length 13 = .ok (.getfield 29, 3) := by decide +kernel
theorem dT_length_16 : decode cT_length 16 = .ok (.goto 4, 3) := by decide +kernel
theorem dT_length_19 : decode cT_length 19 = .ok (.iconst (-1), 1) := by decide +kernel
theorem dT_length_20 : decode cT_length 20 = .ok (.ireturn, 1) := by decide +kernel
theorem dT_at_0 : decode cT_at 0 = .ok (.iload_n 1, 1) := by decide +kernel
theorem dT_at_1 : decode cT_at 1 = .ok (.invokestatic 25, 3) := by decide +kernel
theorem dT_at_4 : decode cT_at 4 = .ok (.ifCond .ne 5, 3) := by decide +kernel
theorem dT_at_7 : decode cT_at 7 = .ok (.iconst (-1), 1) := by decide +kernel
theorem dT_at_8 : decode cT_at 8 = .ok (.ireturn, 1) := by decide +kernel
theorem dT_at_9 : decode cT_at 9 = .ok (.aload_n 0, 1) := by decide +kernel
theorem dT_at_10 : decode cT_at 10 = .ok (.getfield 18, 3) := by decide +kernel
theorem dT_at_13 : decode cT_at 13 = .ok (.iload_n 1, 1) := by decide +kernel
theorem dT_at_14 : decode cT_at 14 = .ok (.aaload, 1) := by decide +kernel
theorem dT_at_15 : decode cT_at 15 = .ok (.iload_n 2, 1) := by decide +kernel
theorem dT_at_16 : decode cT_at 16 = .ok (.invokevirtual 45, 3) := by decide +kernel
theorem dT_at_19 : decode cT_at 19 = .ok (.istore_n 3, 1) := by decide +kernel
theorem dT_at_20 : decode cT_at 20 = .ok (.iload_n 3, 1) := by decide +kernel
theorem dT_at_21 : decode cT_at 21 = .ok (.iconst (-1), 1) := by decide +kernel
theorem dT_at_22 : decode cT_at 22 = .ok (.if_icmp .ne 5, 3) := by decide +kernel
theorem dT_at_25 : decode cT_at 25 = .ok (.iconst (-1), 1) := by decide +kernel
theorem dT_at_26 : decode cT_at 26 = .ok (.ireturn, 1) := by decide +kernel
theorem dT_at_27 : decode cT_at 27 = .ok (.aload_n 0, 1) := by decide +kernel
theorem dT_at_28 : decode cT_at 28 = .ok (.getfield 10, 3) := by decide +kernel
theorem dT_at_31 : decode cT_at 31 = .ok (.getfield 66, 3) := by decide +kernel
theorem dT_at_34 : decode cT_at 34 = .ok (.iload_n 3, 1) := by decide +kernel
theorem dT_at_35 : decode cT_at 35 = .ok (.caload, 1) := by decide +kernel
theorem dT_at_36 : decode cT_at 36 = .ok (.ireturn, 1) := by decide +kernel
theorem dT_position_0 : decode cT_position 0 = .ok (.iload_n 1, 1) := by decide +kernel
theorem dT_position_1 : decode cT_position 1 = .ok (.invokestatic 25, 3) := by decide +kernel
theorem dT_position_4 : decode cT_position 4 = .ok (.ifCond .ne 5, 3) := by decide +kernel
theorem dT_position_7 : decode cT_position 7 = .ok (.iconst (-1), 1) := by decide +kernel
theorem dT_position_8 : decode cT_position 8 = .ok (.ireturn, 1) := by decide +kernel
theorem dT_position_9 : decode cT_position 9 = .ok (.aload_n 0, 1) := by decide +kernel
theorem dT_position_10 : decode cT_position 10 = .ok (.getfield 18, 3) := by decide +kernel
theorem dT_position_13 : decode cT_position 13 = .ok (.iload_n 1, 1) := by decide +kernel
theorem dT_position_14 : decode cT_position 14 = .ok (.aaload, 1) := by decide +kernel
theorem dT_position_15 : decode cT_position 15 = .ok (.iload_n 2, 1) := by decide +kernel
theorem dT_position_16 : decode cT_position 16 = .ok (.invokevirtual 70, 3) := by decide +kernel
theorem dT_position_19 : decode cT_position 19 = .ok (.istore_n 3, 1) := by decide +kernel
theorem dT_position_20 : decode cT_position 20 = .ok (.iload_n 3, 1) := by decide +kernel
theorem dT_position_21 : decode cT_position 21 = .ok (.iconst (-1), 1) := by decide +kernel
theorem dT_position_22 : decode cT_position 22 = .ok (.if_icmp .ne 7, 3) := by decide +kernel
theorem dT_position_25 : decode cT_position 25 = .ok (.iconst (-1), 1) := by decide +kernel
theorem dT_position_26 : decode cT_position 26 = .ok (.goto 4, 3) := by decide +kernel
theorem dT_position_29 : decode cT_position 29 = .ok (.iload_n 3, 1) := by decide +kernel
theorem dT_position_30 : decode cT_position 30 = .ok (.ireturn, 1) := by decide +kernel
theorem dT_same_0 : decode cT_same 0 = .ok (.iload_n 1, 1) := by decide +kernel
theorem dT_same_1 : decode cT_same 1 = .ok (.invokestatic 25, 3) := by decide +kernel
theorem dT_same_4 : decode cT_same 4 = .ok (.ifCond .eq 32, 3) := by decide +kernel
theorem dT_same_7 : decode cT_same 7 = .ok (.iload_n 2, 1) := by decide +kernel
theorem dT_same_8 : decode cT_same 8 = .ok (.invokestatic 25, 3) := by decide +kernel
theorem dT_same_11 : decode cT_same 11 = .ok (.ifCond .eq 25, 3) := by decide +kernel
theorem dT_same_14 : decode cT_same 14 = .ok (.aload_n 0, 1) := by decide +kernel
theorem dT_same_15 : decode cT_same 15 = .ok (.getfield 18, 3) := by decide +kernel
theorem dT_same_18 : decode cT_same 18 = .ok (.iload_n 1, 1) := by decide +kernel
theorem dT_same_19 : decode cT_same 19 = .ok (.aaload, 1) := by decide +kernel
theorem dT_same_20 : decode cT_same 20 = .ok (.aload_n 0, 1) := by decide +kernel
theorem dT_same_21 : decode cT_same 21 = .ok (.getfield 18, 3) := by decide +kernel
theorem dT_same_24 : decode cT_same 24 = .ok (.iload_n 2, 1) := by decide +kernel
theorem dT_same_25 : decode cT_same 25 = .ok (.aaload, 1) := by decide +kernel
theorem dT_same_26 : decode cT_same 26 = .ok (.invokevirtual 73, 3) := by decide +kernel
theorem dT_same_29 : decode cT_same 29 = .ok (.ifCond .eq 7, 3) := by decide +kernel
theorem dT_same_32 : decode cT_same 32 = .ok (.iconst 1, 1) := by decide +kernel
theorem dT_same_33 : decode cT_same 33 = .ok (.goto 4, 3) := by decide +kernel
theorem dT_same_36 : decode cT_same 36 = .ok (.iconst 0, 1) := by decide +kernel
theorem dT_same_37 : decode cT_same 37 = .ok (.ireturn, 1) := by decide +kernel
theorem dT_operations_0 : decode cT_operations 0 = .ok (.aload_n 0, 1) := by decide +kernel
theorem dT_operations_1 : decode cT_operations 1 = .ok (.getfield 10, 3) := by decide +kernel
theorem dT_operations_4 : decode cT_operations 4 = .ok (.getfield 77, 3) := by decide +kernel
theorem dT_operations_7 : decode cT_operations 7 = .ok (.ireturn, 1) := by decide +kernel
theorem dT_stamp_0 : decode cT_stamp 0 = .ok (.aload_n 0, 1) := by decide +kernel
theorem dT_stamp_1 : decode cT_stamp 1 = .ok (.getfield 10, 3) := by decide +kernel
theorem dT_stamp_4 : decode cT_stamp 4 = .ok (.iload_n 1, 1) := by decide +kernel
theorem dT_stamp_5 : decode cT_stamp 5 = .ok (.invokevirtual 48, 3) := by decide +kernel
theorem dT_stamp_8 : decode cT_stamp 8 = .ok (.ifCond .ne 5, 3) := by decide +kernel
theorem dT_stamp_11 : decode cT_stamp 11 = .ok (.iconst (-1), 1) := by decide +kernel
theorem dT_stamp_12 : decode cT_stamp 12 = .ok (.ireturn, 1) := by decide +kernel
theorem dT_stamp_13 : decode cT_stamp 13 = .ok (.iconst 4, 1) := by decide +kernel
theorem dT_stamp_14 : decode cT_stamp 14 = .ok (.aload_n 0, 1) := by decide +kernel
theorem dT_stamp_15 : decode cT_stamp 15 = .ok (.getfield 10, 3) := by decide +kernel
theorem dT_stamp_18 : decode cT_stamp 18 = .ok (.getfield 80, 3) := by decide +kernel
theorem dT_stamp_21 : decode cT_stamp 21 = .ok (.iload_n 1, 1) := by decide +kernel
theorem dT_stamp_22 : decode cT_stamp 22 = .ok (.iaload, 1) := by decide +kernel
theorem dT_stamp_23 : decode cT_stamp 23 = .ok (.imul, 1) := by decide +kernel
theorem dT_stamp_24 : decode cT_stamp 24 = .ok (.aload_n 0, 1) := by decide +kernel
theorem dT_stamp_25 : decode cT_stamp 25 = .ok (.getfield 10, 3) := by decide +kernel
theorem dT_stamp_28 : decode cT_stamp 28 = .ok (.getfield 84, 3) := by decide +kernel
theorem dT_stamp_31 : decode cT_stamp 31 = .ok (.iload_n 1, 1) := by decide +kernel
theorem dT_stamp_32 : decode cT_stamp 32 = .ok (.iaload, 1) := by decide +kernel
theorem dT_stamp_33 : decode cT_stamp 33 = .ok (.iadd, 1) := by decide +kernel
theorem dT_stamp_34 : decode cT_stamp 34 = .ok (.ireturn, 1) := by decide +kernel
theorem dT_known_0 : decode cT_known 0 = .ok (.iload_n 1, 1) := by decide +kernel
theorem dT_known_1 : decode cT_known 1 = .ok (.invokestatic 25, 3) := by decide +kernel
theorem dT_known_4 : decode cT_known 4 = .ok (.ifCond .eq 17, 3) := by decide +kernel
theorem dT_known_7 : decode cT_known 7 = .ok (.iload_n 2, 1) := by decide +kernel
theorem dT_known_8 : decode cT_known 8 = .ok (.invokestatic 25, 3) := by decide +kernel
theorem dT_known_11 : decode cT_known 11 = .ok (.ifCond .eq 10, 3) := by decide +kernel
theorem dT_known_14 : decode cT_known 14 = .ok (.iload_n 3, 1) := by decide +kernel
theorem dT_known_15 : decode cT_known 15 = .ok (.invokestatic 25, 3) := by decide +kernel
theorem dT_known_18 : decode cT_known 18 = .ok (.ifCond .ne 5, 3) := by decide +kernel
theorem dT_known_21 : decode cT_known 21 = .ok (.iconst (-1), 1) := by decide +kernel
theorem dT_known_22 : decode cT_known 22 = .ok (.ireturn, 1) := by decide +kernel
theorem dT_known_23 : decode cT_known 23 = .ok (.aload_n 0, 1) := by decide +kernel
theorem dT_known_24 : decode cT_known 24 = .ok (.getfield 18, 3) := by decide +kernel
theorem dT_known_27 : decode cT_known 27 = .ok (.iload_n 1, 1) := by decide +kernel
theorem dT_known_28 : decode cT_known 28 = .ok (.aaload, 1) := by decide +kernel
theorem dT_known_29 : decode cT_known 29 = .ok (.getfield 87, 3) := by decide +kernel
theorem dT_known_32 : decode cT_known 32 = .ok (.iload_n 2, 1) := by decide +kernel
theorem dT_known_33 : decode cT_known 33 = .ok (.aaload, 1) := by decide +kernel
theorem dT_known_34 : decode cT_known 34 = .ok (.iload_n 3, 1) := by decide +kernel
theorem dT_known_35 : decode cT_known 35 = .ok (.iaload, 1) := by decide +kernel
end
section
theorem dT_known_36 : decode cT_known 36 = .ok (.ireturn, 1) := by decide +kernel
theorem dT_stable_0 : decode cT_stable 0 = .ok (.iload_n 1, 1) := by decide +kernel
theorem dT_stable_1 : decode cT_stable 1 = .ok (.invokestatic 25, 3) := by decide +kernel
theorem dT_stable_4 : decode cT_stable 4 = .ok (.ifCond .eq 31, 3) := by decide +kernel
theorem dT_stable_7 : decode cT_stable 7 = .ok (.aload_n 0, 1) := by decide +kernel
theorem dT_stable_8 : decode cT_stable 8 = .ok (.getfield 10, 3) := by decide +kernel
theorem dT_stable_11 : decode cT_stable 11 = .ok (.iload_n 2, 1) := by decide +kernel
theorem dT_stable_12 : decode cT_stable 12 = .ok (.invokevirtual 48, 3) := by decide +kernel
theorem dT_stable_15 : decode cT_stable 15 = .ok (.ifCond .eq 20, 3) := by decide +kernel
theorem dT_stable_18 : decode cT_stable 18 = .ok (.aload_n 0, 1) := by decide +kernel
theorem dT_stable_19 : decode cT_stable 19 = .ok (.getfield 18, 3) := by decide +kernel
theorem dT_stable_22 : decode cT_stable 22 = .ok (.iload_n 1, 1) := by decide +kernel
theorem dT_stable_23 : decode cT_stable 23 = .ok (.aaload, 1) := by decide +kernel
theorem dT_stable_24 : decode cT_stable 24 = .ok (.iload_n 2, 1) := by decide +kernel
theorem dT_stable_25 : decode cT_stable 25 = .ok (.invokevirtual 91, 3) := by decide +kernel
theorem dT_stable_28 : decode cT_stable 28 = .ok (.ifCond .eq 7, 3) := by decide +kernel
theorem dT_stable_31 : decode cT_stable 31 = .ok (.iconst 1, 1) := by decide +kernel
theorem dT_stable_32 : decode cT_stable 32 = .ok (.goto 4, 3) := by decide +kernel
theorem dT_stable_35 : decode cT_stable 35 = .ok (.iconst 0, 1) := by decide +kernel
theorem dT_stable_36 : decode cT_stable 36 = .ok (.ireturn, 1) := by decide +kernel
theorem dT_kept_0 : decode cT_kept 0 = .ok (.iload_n 1, 1) := by decide +kernel
theorem dT_kept_1 : decode cT_kept 1 = .ok (.invokestatic 25, 3) := by decide +kernel
theorem dT_kept_4 : decode cT_kept 4 = .ok (.ifCond .eq 15, 3) := by decide +kernel
theorem dT_kept_7 : decode cT_kept 7 = .ok (.aload_n 0, 1) := by decide +kernel
theorem dT_kept_8 : decode cT_kept 8 = .ok (.getfield 18, 3) := by decide +kernel
theorem dT_kept_11 : decode cT_kept 11 = .ok (.iload_n 1, 1) := by decide +kernel
theorem dT_kept_12 : decode cT_kept 12 = .ok (.aaload, 1) := by decide +kernel
theorem dT_kept_13 : decode cT_kept 13 = .ok (.getfield 94, 3) := by decide +kernel
theorem dT_kept_16 : decode cT_kept 16 = .ok (.goto 4, 3) := by decide +kernel
theorem dT_kept_19 : decode cT_kept 19 = .ok (.iconst (-1), 1) := by decide +kernel
theorem dT_kept_20 : decode cT_kept 20 = .ok (.ireturn, 1) := by decide +kernel
theorem dT_waiting_0 : decode cT_waiting 0 = .ok (.iload_n 1, 1) := by decide +kernel
theorem dT_waiting_1 : decode cT_waiting 1 = .ok (.invokestatic 25, 3) := by decide +kernel
theorem dT_waiting_4 : decode cT_waiting 4 = .ok (.ifCond .eq 15, 3) := by decide +kernel
theorem dT_waiting_7 : decode cT_waiting 7 = .ok (.aload_n 0, 1) := by decide +kernel
theorem dT_waiting_8 : decode cT_waiting 8 = .ok (.getfield 18, 3) := by decide +kernel
theorem dT_waiting_11 : decode cT_waiting 11 = .ok (.iload_n 1, 1) := by decide +kernel
theorem dT_waiting_12 : decode cT_waiting 12 = .ok (.aaload, 1) := by decide +kernel
theorem dT_waiting_13 : decode cT_waiting 13 = .ok (.getfield 97, 3) := by decide +kernel
theorem dT_waiting_16 : decode cT_waiting 16 = .ok (.goto 4, 3) := by decide +kernel
theorem dT_waiting_19 : decode cT_waiting 19 = .ok (.iconst (-1), 1) := by decide +kernel
theorem dT_waiting_20 : decode cT_waiting 20 = .ok (.ireturn, 1) := by decide +kernel
end
section
/-! Rows of my own over the kit's: numbers (nI), truth values (bI), codes with -1 (sI) -/
def bI (b : Bool) : Int32 := if b then 1 else 0
def sI (n : Nat) : Int32 := nI n - 1
theorem bI_0 (b : Bool) : bI b = 0 ↔ b = false := by cases b <;> simp [bI]
theorem bI_inj {a b : Bool} : bI a = bI b ↔ a = b := by cases a <;> cases b <;> simp [bI]
theorem bI_z (b : Bool) : narrow .boolean (.int (bI b)) = .int (bI b) := by cases b <;> rfl
theorem bI_nar (b : Bool) : vp_nar .boolean (bI b) = bI b := by cases b <;> rfl
theorem sI_0 : sI 0 = -1 := by decide
theorem sI_s (n : Nat) : sI (n + 1) = nI n := nI_pred n
theorem sI_p {n : Nat} (h : 0 < n) : sI n = nI (n - 1) := by
  obtain ⟨k, rfl⟩ : ∃ k, n = k + 1 := ⟨n - 1, by omega⟩
  exact nI_pred k
theorem sI_lt {n : Nat} (hn : n < 2 ^ 31) : sI n < 0 ↔ n = 0 := by
  cases n with
  | zero => exact ⟨fun _ => rfl, fun _ => by decide⟩
  | succ k => rw [sI_s]; exact ⟨fun h => absurd h (nI_pos (by omega)), fun h => by omega⟩
theorem sI_ge {n : Nat} (hn : n < 2 ^ 31) : 0 ≤ sI n ↔ 0 < n := by
  cases n with
  | zero => exact ⟨fun h => absurd h (by decide), fun h => absurd h (by omega)⟩
  | succ k => rw [sI_s]; exact ⟨fun _ => by omega, fun _ => nI_pos' (by omega)⟩
theorem nI_eq0 {a : Nat} (ha : a < 2 ^ 31) : nI a = 0 ↔ a = 0 := by
  rw [← nI_0]; exact nI_eq ha (by decide)
theorem nI_le0 {a : Nat} (ha : a < 2 ^ 31) : nI a ≤ 0 ↔ a = 0 := by
  rw [← nI_0, nI_leI ha (by decide)]; omega
theorem nI_lt0 {a : Nat} (ha : a < 2 ^ 31) : 0 < nI a ↔ 0 < a := by
  rw [← nI_0, nI_ltI (by decide) ha]
theorem sI_eq {a b : Nat} (ha : a < 2 ^ 31) (hb : b < 2 ^ 31) : sI a = sI b ↔ a = b := by
  refine ⟨fun h => ?_, fun h => by rw [h]⟩
  by_cases h1 : a = 0
  · subst h1
    exact ((sI_lt hb).mp (h ▸ (sI_lt (n := 0) (by decide)).mpr rfl)).symm
  · by_cases h2 : b = 0
    · subst h2
      exact absurd ((sI_lt ha).mp (h ▸ (sI_lt (n := 0) (by decide)).mpr rfl)) h1
    · rw [sI_p (by omega), sI_p (by omega)] at h
      have := (nI_eq (by omega) (by omega)).mp h
      omega
theorem up_g {α : Type} (g : α → Int32) (f : Nat → α) (v : α) {k : Nat} (hk : k < 2 ^ 31) : upd (fun j => g (f j)) (nI k).toNatClampNeg (g v) = fun j => g (va_up f k v j) := by
  rw [nI_clamp hk]
  funext j
  unfold upd va_up
  by_cases h : j = k
  · rw [if_pos h, if_pos h]
  · rw [if_neg h, if_neg h]
section RW
variable {p : Program} {l : Launch} {e : Env} {R : Room} {s : State} {m : MethodId} {args : Array Value} {below : List Frame} {meth : Method} {c : Code} {H : Heap} {locs : List Loc} {cells slots : Nat} {Q : State → Prop}
variable {cc : ByteArray} {pc : Nat} {ls : Array Slot} {rest : List Value} {a b tgt : Nat} {off : Int}
theorem r_top {x y : Int32} (h : x = y) (k : W p l e R s m args below meth c H locs cells slots Q (F0 m pc ls (.int y :: rest))) : W p l e R s m args below meth c H locs cells slots Q (F0 m pc ls (.int x :: rest)) := by
  rw [h]; exact k
theorem r_top2 {v : Value} {x y : Int32} (h : x = y) (k : W p l e R s m args below meth c H locs cells slots Q (F0 m pc ls (v :: .int y :: rest))) : W p l e R s m args below meth c H locs cells slots Q (F0 m pc ls (v :: .int x :: rest)) := by
  rw [h]; exact k
theorem r_add (hx : p.tables.exec = Jvm.exec) (hb : c.code = cc) (hdg : decode cc pc = .ok (.iadd, 1)) (k : W p l e R s m args below meth c H locs cells slots Q (F0 m (pc + 1) ls (.int (nI (a + b)) :: rest))) : W p l e R s m args below meth c H locs cells slots Q (F0 m pc ls (.int (nI b) :: .int (nI a) :: rest)) :=
  lv_iadd hx hb hdg (r_top (nI_add a b) k)
theorem r_sub (h : b ≤ a) (hx : p.tables.exec = Jvm.exec) (hb : c.code = cc) (hdg : decode cc pc = .ok (.isub, 1)) (k : W p l e R s m args below meth c H locs cells slots Q (F0 m (pc + 1) ls (.int (nI (a - b)) :: rest))) : W p l e R s m args below meth c H locs cells slots Q (F0 m pc ls (.int (nI b) :: .int (nI a) :: rest)) :=
  lv_isub hx hb hdg (r_top (pk_sub h) k)
theorem r_mul (hx : p.tables.exec = Jvm.exec) (hb : c.code = cc) (hdg : decode cc pc = .ok (.imul, 1)) (k : W p l e R s m args below meth c H locs cells slots Q (F0 m (pc + 1) ls (.int (nI (a * b)) :: rest))) : W p l e R s m args below meth c H locs cells slots Q (F0 m pc ls (.int (nI b) :: .int (nI a) :: rest)) :=
  lv_imul hx hb hdg (r_top (pk_mul a b) k)
theorem r_ge (ha : a < 2 ^ 31) (hb' : b < 2 ^ 31) (hx : p.tables.exec = Jvm.exec) (hb : c.code = cc) (hdg : decode cc pc = .ok (.if_icmp .ge off, 3)) (ht : (pc : Int) + off = (tgt : Int))
    (kt : b ≤ a → W p l e R s m args below meth c H locs cells slots Q (F0 m tgt ls rest)) (kf : a < b → W p l e R s m args below meth c H locs cells slots Q (F0 m (pc + 3) ls rest)) : W p l e R s m args below meth c H locs cells slots Q (F0 m pc ls (.int (nI b) :: .int (nI a) :: rest)) :=
  lv_icmp_ge hx hb hdg ht (fun h => kt ((nI_leI hb' ha).mp h)) (fun h => kf (Nat.lt_of_not_le fun q => h ((nI_leI hb' ha).mpr q)))
theorem r_lt (ha : a < 2 ^ 31) (hb' : b < 2 ^ 31) (hx : p.tables.exec = Jvm.exec) (hb : c.code = cc) (hdg : decode cc pc = .ok (.if_icmp .lt off, 3)) (ht : (pc : Int) + off = (tgt : Int))
    (kt : a < b → W p l e R s m args below meth c H locs cells slots Q (F0 m tgt ls rest)) (kf : b ≤ a → W p l e R s m args below meth c H locs cells slots Q (F0 m (pc + 3) ls rest)) : W p l e R s m args below meth c H locs cells slots Q (F0 m pc ls (.int (nI b) :: .int (nI a) :: rest)) :=
  lv_icmp_lt hx hb hdg ht (fun h => kt ((nI_ltI ha hb').mp h)) (fun h => kf (Nat.le_of_not_lt fun q => h ((nI_ltI ha hb').mpr q)))
theorem r_gt (ha : a < 2 ^ 31) (hb' : b < 2 ^ 31) (hx : p.tables.exec = Jvm.exec) (hb : c.code = cc) (hdg : decode cc pc = .ok (.if_icmp .gt off, 3)) (ht : (pc : Int) + off = (tgt : Int))
    (kt : b < a → W p l e R s m args below meth c H locs cells slots Q (F0 m tgt ls rest)) (kf : a ≤ b → W p l e R s m args below meth c H locs cells slots Q (F0 m (pc + 3) ls rest)) : W p l e R s m args below meth c H locs cells slots Q (F0 m pc ls (.int (nI b) :: .int (nI a) :: rest)) :=
  lv_icmp_gt hx hb hdg ht (fun h => kt ((nI_ltI hb' ha).mp h)) (fun h => kf (Nat.le_of_not_lt fun q => h ((nI_ltI hb' ha).mpr q)))
theorem r_le (ha : a < 2 ^ 31) (hb' : b < 2 ^ 31) (hx : p.tables.exec = Jvm.exec) (hb : c.code = cc) (hdg : decode cc pc = .ok (.if_icmp .le off, 3)) (ht : (pc : Int) + off = (tgt : Int))
    (kt : a ≤ b → W p l e R s m args below meth c H locs cells slots Q (F0 m tgt ls rest)) (kf : b < a → W p l e R s m args below meth c H locs cells slots Q (F0 m (pc + 3) ls rest)) : W p l e R s m args below meth c H locs cells slots Q (F0 m pc ls (.int (nI b) :: .int (nI a) :: rest)) :=
  lv_icmp_le hx hb hdg ht (fun h => kt ((nI_leI ha hb').mp h)) (fun h => kf (Nat.lt_of_not_le fun q => h ((nI_leI ha hb').mpr q)))
theorem r_eq (ha : a < 2 ^ 31) (hb' : b < 2 ^ 31) (hx : p.tables.exec = Jvm.exec) (hb : c.code = cc) (hdg : decode cc pc = .ok (.if_icmp .eq off, 3)) (ht : (pc : Int) + off = (tgt : Int))
    (kt : a = b → W p l e R s m args below meth c H locs cells slots Q (F0 m tgt ls rest)) (kf : ¬ a = b → W p l e R s m args below meth c H locs cells slots Q (F0 m (pc + 3) ls rest)) : W p l e R s m args below meth c H locs cells slots Q (F0 m pc ls (.int (nI b) :: .int (nI a) :: rest)) :=
  lv_icmp_eq hx hb hdg ht (fun h => kt ((nI_eq ha hb').mp h)) (fun h => kf fun q => h ((nI_eq ha hb').mpr q))
theorem r_ne (ha : a < 2 ^ 31) (hb' : b < 2 ^ 31) (hx : p.tables.exec = Jvm.exec) (hb : c.code = cc) (hdg : decode cc pc = .ok (.if_icmp .ne off, 3)) (ht : (pc : Int) + off = (tgt : Int))
    (kt : ¬ a = b → W p l e R s m args below meth c H locs cells slots Q (F0 m tgt ls rest)) (kf : a = b → W p l e R s m args below meth c H locs cells slots Q (F0 m (pc + 3) ls rest)) : W p l e R s m args below meth c H locs cells slots Q (F0 m pc ls (.int (nI b) :: .int (nI a) :: rest)) :=
  lv_icmp_ne hx hb hdg ht (fun h => kt fun q => h ((nI_eq ha hb').mpr q)) (fun h => kf ((nI_eq ha hb').mp h))
theorem r_eqS (ha : a < 2 ^ 31) (hb' : b < 2 ^ 31) (hx : p.tables.exec = Jvm.exec) (hb : c.code = cc) (hdg : decode cc pc = .ok (.if_icmp .eq off, 3)) (ht : (pc : Int) + off = (tgt : Int))
    (kt : a = b → W p l e R s m args below meth c H locs cells slots Q (F0 m tgt ls rest)) (kf : ¬ a = b → W p l e R s m args below meth c H locs cells slots Q (F0 m (pc + 3) ls rest)) : W p l e R s m args below meth c H locs cells slots Q (F0 m pc ls (.int (sI b) :: .int (sI a) :: rest)) :=
  lv_icmp_eq hx hb hdg ht (fun h => kt ((sI_eq ha hb').mp h)) (fun h => kf fun q => h ((sI_eq ha hb').mpr q))
theorem r_neS (ha : a < 2 ^ 31) (hb' : b < 2 ^ 31) (hx : p.tables.exec = Jvm.exec) (hb : c.code = cc) (hdg : decode cc pc = .ok (.if_icmp .ne off, 3)) (ht : (pc : Int) + off = (tgt : Int))
    (kt : ¬ a = b → W p l e R s m args below meth c H locs cells slots Q (F0 m tgt ls rest)) (kf : a = b → W p l e R s m args below meth c H locs cells slots Q (F0 m (pc + 3) ls rest)) : W p l e R s m args below meth c H locs cells slots Q (F0 m pc ls (.int (sI b) :: .int (sI a) :: rest)) :=
  lv_icmp_ne hx hb hdg ht (fun h => kt fun q => h ((sI_eq ha hb').mpr q)) (fun h => kf ((sI_eq ha hb').mp h))
theorem r_ltS (ha : a < 2 ^ 31) (hx : p.tables.exec = Jvm.exec) (hb : c.code = cc) (hdg : decode cc pc = .ok (.ifCond .lt off, 3)) (ht : (pc : Int) + off = (tgt : Int))
    (kt : a = 0 → W p l e R s m args below meth c H locs cells slots Q (F0 m tgt ls rest)) (kf : 0 < a → W p l e R s m args below meth c H locs cells slots Q (F0 m (pc + 3) ls rest)) : W p l e R s m args below meth c H locs cells slots Q (F0 m pc ls (.int (sI a) :: rest)) :=
  lv_if_lt hx hb hdg ht (fun h => kt ((sI_lt ha).mp h)) (fun h => kf (Nat.pos_of_ne_zero fun q => h ((sI_lt ha).mpr q)))
theorem r_geS (ha : a < 2 ^ 31) (hx : p.tables.exec = Jvm.exec) (hb : c.code = cc) (hdg : decode cc pc = .ok (.ifCond .ge off, 3)) (ht : (pc : Int) + off = (tgt : Int))
    (kt : 0 < a → W p l e R s m args below meth c H locs cells slots Q (F0 m tgt ls rest)) (kf : a = 0 → W p l e R s m args below meth c H locs cells slots Q (F0 m (pc + 3) ls rest)) : W p l e R s m args below meth c H locs cells slots Q (F0 m pc ls (.int (sI a) :: rest)) :=
  lv_if_ge hx hb hdg ht (fun h => kt ((sI_ge ha).mp h)) (fun h => kf (Nat.eq_zero_of_not_pos fun q => h ((sI_ge ha).mpr q)))
theorem r_ltN (ha : a < 2 ^ 31) (hx : p.tables.exec = Jvm.exec) (hb : c.code = cc) (hdg : decode cc pc = .ok (.ifCond .lt off, 3)) (ht : (pc : Int) + off = (tgt : Int))
    (kf : W p l e R s m args below meth c H locs cells slots Q (F0 m (pc + 3) ls rest)) : W p l e R s m args below meth c H locs cells slots Q (F0 m pc ls (.int (nI a) :: rest)) :=
  lv_if_lt hx hb hdg ht (fun h => absurd h (nI_pos ha)) (fun _ => kf)
theorem r_geN (ha : a < 2 ^ 31) (hx : p.tables.exec = Jvm.exec) (hb : c.code = cc) (hdg : decode cc pc = .ok (.ifCond .ge off, 3)) (ht : (pc : Int) + off = (tgt : Int))
    (kt : W p l e R s m args below meth c H locs cells slots Q (F0 m tgt ls rest)) : W p l e R s m args below meth c H locs cells slots Q (F0 m pc ls (.int (nI a) :: rest)) :=
  lv_if_ge hx hb hdg ht (fun _ => kt) (fun h => absurd (nI_pos' ha) h)
theorem r_leN (ha : a < 2 ^ 31) (hx : p.tables.exec = Jvm.exec) (hb : c.code = cc) (hdg : decode cc pc = .ok (.ifCond .le off, 3)) (ht : (pc : Int) + off = (tgt : Int))
    (kt : a = 0 → W p l e R s m args below meth c H locs cells slots Q (F0 m tgt ls rest)) (kf : 0 < a → W p l e R s m args below meth c H locs cells slots Q (F0 m (pc + 3) ls rest)) : W p l e R s m args below meth c H locs cells slots Q (F0 m pc ls (.int (nI a) :: rest)) :=
  lv_if_le hx hb hdg ht (fun h => kt ((nI_le0 ha).mp h)) (fun h => kf (Nat.pos_of_ne_zero fun q => h ((nI_le0 ha).mpr q)))
theorem r_eqN (ha : a < 2 ^ 31) (hx : p.tables.exec = Jvm.exec) (hb : c.code = cc) (hdg : decode cc pc = .ok (.ifCond .eq off, 3)) (ht : (pc : Int) + off = (tgt : Int))
    (kt : a = 0 → W p l e R s m args below meth c H locs cells slots Q (F0 m tgt ls rest)) (kf : ¬ a = 0 → W p l e R s m args below meth c H locs cells slots Q (F0 m (pc + 3) ls rest)) : W p l e R s m args below meth c H locs cells slots Q (F0 m pc ls (.int (nI a) :: rest)) :=
  lv_if_eq hx hb hdg ht (fun h => kt ((nI_eq0 ha).mp h)) (fun h => kf fun q => h ((nI_eq0 ha).mpr q))
theorem r_neN (ha : a < 2 ^ 31) (hx : p.tables.exec = Jvm.exec) (hb : c.code = cc) (hdg : decode cc pc = .ok (.ifCond .ne off, 3)) (ht : (pc : Int) + off = (tgt : Int))
    (kt : ¬ a = 0 → W p l e R s m args below meth c H locs cells slots Q (F0 m tgt ls rest)) (kf : a = 0 → W p l e R s m args below meth c H locs cells slots Q (F0 m (pc + 3) ls rest)) : W p l e R s m args below meth c H locs cells slots Q (F0 m pc ls (.int (nI a) :: rest)) :=
  lv_if_ne hx hb hdg ht (fun h => kt fun q => h ((nI_eq0 ha).mpr q)) (fun h => kf ((nI_eq0 ha).mp h))
theorem r_eqB {z : Bool} (hx : p.tables.exec = Jvm.exec) (hb : c.code = cc) (hdg : decode cc pc = .ok (.ifCond .eq off, 3)) (ht : (pc : Int) + off = (tgt : Int))
    (kt : z = false → W p l e R s m args below meth c H locs cells slots Q (F0 m tgt ls rest)) (kf : z = true → W p l e R s m args below meth c H locs cells slots Q (F0 m (pc + 3) ls rest)) : W p l e R s m args below meth c H locs cells slots Q (F0 m pc ls (.int (bI z) :: rest)) :=
  lv_if_eq hx hb hdg ht (fun h => kt ((bI_0 z).mp h)) (fun h => kf (by cases z with | false => exact absurd rfl h | true => rfl))
theorem r_neB {z : Bool} (hx : p.tables.exec = Jvm.exec) (hb : c.code = cc) (hdg : decode cc pc = .ok (.ifCond .ne off, 3)) (ht : (pc : Int) + off = (tgt : Int))
    (kt : z = true → W p l e R s m args below meth c H locs cells slots Q (F0 m tgt ls rest)) (kf : z = false → W p l e R s m args below meth c H locs cells slots Q (F0 m (pc + 3) ls rest)) : W p l e R s m args below meth c H locs cells slots Q (F0 m pc ls (.int (bI z) :: rest)) :=
  lv_if_ne hx hb hdg ht (fun h => kt (by cases z with | false => exact absurd rfl h | true => rfl)) (fun h => kf ((bI_0 z).mp h))
variable {D : va_G} {cl : List vw_C} {A : Nat → Prop} {o n k t0 q0 : Nat} {tys : List (ClassId × FieldType)} {ws : va_W} {H0 : Heap} {cA : ClassId}
theorem r_iald {F : Nat → Int32} (hx : p.tables.exec = Jvm.exec) (hb : c.code = cc) (hK : va_K D cl tys s) (hP : va_P D cl ws H) (ha : ws[q0]? = some (o, .inl (cA, n, .inl F))) (ht : tys[t0]? = some (cA, .int)) (hk : k < n) (hn : n < 2 ^ 31) (hdg : decode cc pc = .ok (.iaload, 1))
    (kk : W p l e R s m args below meth c H locs cells slots Q (F0 m (pc + 1) ls (.int (F k) :: rest))) : W p l e R s m args below meth c H locs cells slots Q (F0 m pc ls (.int (nI k) :: .ref o :: rest)) :=
  va_iald hx hb hK hP q0 t0 ha ht (vp_in_nI hk hn) hdg (by rw [nI_clamp (Nat.lt_trans hk hn)]; exact kk)
theorem r_zald {F : Nat → Int32} (hx : p.tables.exec = Jvm.exec) (hb : c.code = cc) (hK : va_K D cl tys s) (hP : va_P D cl ws H) (ha : ws[q0]? = some (o, .inl (cA, n, .inl F))) (ht : tys[t0]? = some (cA, .boolean)) (hk : k < n) (hn : n < 2 ^ 31) (hdg : decode cc pc = .ok (.baload, 1))
    (kk : W p l e R s m args below meth c H locs cells slots Q (F0 m (pc + 1) ls (.int (F k) :: rest))) : W p l e R s m args below meth c H locs cells slots Q (F0 m pc ls (.int (nI k) :: .ref o :: rest)) :=
  va_zald hx hb hK hP q0 t0 ha ht (vp_in_nI hk hn) hdg (by rw [nI_clamp (Nat.lt_trans hk hn)]; exact kk)
theorem r_cald {F : Nat → Int32} (hx : p.tables.exec = Jvm.exec) (hb : c.code = cc) (hK : va_K D cl tys s) (hP : va_P D cl ws H) (ha : ws[q0]? = some (o, .inl (cA, n, .inl F))) (ht : tys[t0]? = some (cA, .char)) (hk : k < n) (hn : n < 2 ^ 31) (hdg : decode cc pc = .ok (.caload, 1))
    (kk : W p l e R s m args below meth c H locs cells slots Q (F0 m (pc + 1) ls (.int (F k) :: rest))) : W p l e R s m args below meth c H locs cells slots Q (F0 m pc ls (.int (nI k) :: .ref o :: rest)) :=
  va_cald hx hb hK hP q0 t0 ha ht (vp_in_nI hk hn) hdg (by rw [nI_clamp (Nat.lt_trans hk hn)]; exact kk)
theorem r_iast {α : Type} (g : α → Int32) (f : Nat → α) (v : α) (hx : p.tables.exec = Jvm.exec) (hb : c.code = cc) (hK : va_K D cl tys s) (hP : va_P D cl ws H) (hD : va_D A ws) (hS : va_S A H0 H locs) (ha : ws[q0]? = some (o, .inl (cA, n, .inl (fun j => g (f j))))) (ht : tys[t0]? = some (cA, .int)) (hk : k < n) (hn : n < 2 ^ 31) (hdg : decode cc pc = .ok (.iastore, 1))
    (kk : ∀ (H1 : Heap) (locs1 : List Loc), va_P D cl (ws.set q0 (o, .inl (cA, n, .inl (fun j => g (va_up f k v j))))) H1 → va_D A (ws.set q0 (o, .inl (cA, n, .inl (fun j => g (va_up f k v j))))) → va_S A H0 H1 locs1 → W p l e R s m args below meth c H1 locs1 cells slots Q (F0 m (pc + 1) ls rest)) : W p l e R s m args below meth c H locs cells slots Q (F0 m pc ls (.int (g v) :: .int (nI k) :: .ref o :: rest)) := by
  refine va_iast hx hb hK hP hD hS q0 t0 ha ht (vp_in_nI hk hn) hdg (fun H1 L h1 h2 h3 => ?_)
  rw [up_g g f v (Nat.lt_trans hk hn)] at h1 h2
  exact kk H1 L h1 h2 h3
theorem r_zast (f : Nat → Bool) (v : Bool) (hx : p.tables.exec = Jvm.exec) (hb : c.code = cc) (hK : va_K D cl tys s) (hP : va_P D cl ws H) (hD : va_D A ws) (hS : va_S A H0 H locs) (ha : ws[q0]? = some (o, .inl (cA, n, .inl (fun j => bI (f j))))) (ht : tys[t0]? = some (cA, .boolean)) (hk : k < n) (hn : n < 2 ^ 31) (hdg : decode cc pc = .ok (.bastore, 1))
    (kk : ∀ (H1 : Heap) (locs1 : List Loc), va_P D cl (ws.set q0 (o, .inl (cA, n, .inl (fun j => bI (va_up f k v j))))) H1 → va_D A (ws.set q0 (o, .inl (cA, n, .inl (fun j => bI (va_up f k v j))))) → va_S A H0 H1 locs1 → W p l e R s m args below meth c H1 locs1 cells slots Q (F0 m (pc + 1) ls rest)) : W p l e R s m args below meth c H locs cells slots Q (F0 m pc ls (.int (bI v) :: .int (nI k) :: .ref o :: rest)) := by
  refine va_zast hx hb hK hP hD hS q0 t0 ha ht (vp_in_nI hk hn) hdg (fun H1 L h1 h2 h3 => ?_)
  rw [bI_nar, up_g bI f v (Nat.lt_trans hk hn)] at h1 h2
  exact kk H1 L h1 h2 h3
theorem r_cast (f : Nat → Nat) (v : Nat) (hv : v < 65536) (hx : p.tables.exec = Jvm.exec) (hb : c.code = cc) (hK : va_K D cl tys s) (hP : va_P D cl ws H) (hD : va_D A ws) (hS : va_S A H0 H locs) (ha : ws[q0]? = some (o, .inl (cA, n, .inl (fun j => nI (f j))))) (ht : tys[t0]? = some (cA, .char)) (hk : k < n) (hn : n < 2 ^ 31) (hdg : decode cc pc = .ok (.castore, 1))
    (kk : ∀ (H1 : Heap) (locs1 : List Loc), va_P D cl (ws.set q0 (o, .inl (cA, n, .inl (fun j => nI (va_up f k v j))))) H1 → va_D A (ws.set q0 (o, .inl (cA, n, .inl (fun j => nI (va_up f k v j))))) → va_S A H0 H1 locs1 → W p l e R s m args below meth c H1 locs1 cells slots Q (F0 m (pc + 1) ls rest)) : W p l e R s m args below meth c H locs cells slots Q (F0 m pc ls (.int (nI v) :: .int (nI k) :: .ref o :: rest)) := by
  have e : vp_nar .char (nI v) = nI v := by unfold vp_nar; rw [(pk_charN hv).1]
  refine va_cast hx hb hK hP hD hS q0 t0 ha ht (vp_in_nI hk hn) hdg (fun H1 L h1 h2 h3 => ?_)
  rw [e, up_g nI f v (Nat.lt_trans hk hn)] at h1 h2
  exact kk H1 L h1 h2 h3
end RW
/-- a method that only reads, and answers r: its contract out of a walk of its body -/
theorem rd_met {l : Launch} {y : MethodName} {cc : ByteArray} {maxL : Nat} {ty : FieldType} {ws ws' : List Cond} {rm : Room} (own : String) (av : List Value) (B : State → Prop) (r : Int32) (hy : plainName y.cls = true) (hw : ws = Cond.code y cc maxL (some ty) :: ws') (ho : y.cls = own) (hav : (lg_sl av).length ≤ maxL) (hn : narrow ty (.int r) = .int r)
    (body : ∀ (p : Program) (e : Env) (s : State) (m : MethodId) (args : Array Value) (below : List Frame) (meth : Method) (c : Code) (Q : State → Prop), CallFix p m c cc maxL s args ws own → B s →
      (∀ (pc : Nat) (ls : Array Slot) (v : Int32), decode cc pc = .ok (.ireturn, 1) → v = r → W p l e rm s m args below meth c s.heap [] 0 0 Q (F0 m pc ls [.int v])) →
      ∀ ls : Array Slot, lv_has ls maxL (lv_args 0 av) → W p l e rm s m args below meth c s.heap [] 0 0 Q (F0 m 0 ls [])) :
    Met l y ws rm (va_Pc av B) (QcRead r) 0 0 (fun _ => False) := by
  refine Met.ofW (cc := cc) (maxL := maxL) (ret := some ty) hy hw ?_
  intro p e s m args below meth c s₁ Bd hml hv
  obtain ⟨rfl, hB⟩ := hv
  have hr := Bd.returns
  have hlocks := Bd.notSynchronized
  rw [lg_entry_eq]
  refine body p e s m _ below meth c _ ⟨Bd.exec, Bd.bytes, hml, ?_, atoms_spec (ws := ws) Bd.pre⟩ hB ?_ _ (lv_entry av hav)
  · rw [← ho]; exact findClass_of_methodNamed Bd.named
  · intro pc ls v hd hv
    subst hv
    exact W.zret Bd.exec Bd.bytes hr hn (fun t ht _ => ⟨rfl, ht⟩) (fun q h => by cases h) hd
section RA
variable {p : Program} {l : Launch} {e : Env} {R : Room} {s : State} {m : MethodId} {args : Array Value} {below : List Frame} {meth : Method} {c : Code} {H : Heap} {locs : List Loc} {cells slots : Nat} {Q : State → Prop}
variable {cc : ByteArray} {pc : Nat} {ls : Array Slot} {rest : List Value} {D : va_G} {cl : List vw_C} {o n k t0 q0 : Nat} {tys : List (ClassId × FieldType)} {ws : va_W} {cA : ClassId}
/-- a row of an array of arrays of ints -/
theorem r_aald {f : Nat → Nat} (hx : p.tables.exec = Jvm.exec) (hb : c.code = cc) (hK : va_K D cl tys s) (hP : va_P D cl ws H) (ha : ws[q0]? = some (o, .inl (cA, n, .inr (.inr (.inr (.inr (fun j => some (f j)))))))) (ht : tys[t0]? = some (cA, .array .int)) (hk : k < n) (hn : n < 2 ^ 31) (hdg : decode cc pc = .ok (.aaload, 1))
    (kk : W p l e R s m args below meth c H locs cells slots Q (F0 m (pc + 1) ls (.ref (f k) :: rest))) : W p l e R s m args below meth c H locs cells slots Q (F0 m pc ls (.int (nI k) :: .ref o :: rest)) := by
  have hin : vp_in (nI k) n := vp_in_nI hk hn
  have hc : (nI k).toNatClampNeg = k := nI_clamp (Nat.lt_trans hk hn)
  exact W.aald (v := .ref (f k)) (ty := .array .int) hx hb (hP q0 _ ha) ((hK.2 t0 _ ht).1 n (fun j => va_rf (some (f j)))) rfl (fun q => by cases q) (by show ¬ (nI k < 0 ∨ (arrV _ _ _).slots.size ≤ _); rw [arrV_size]; exact hin) (by show (arrV _ _ _).slots[_]? = _; rw [hc, arrV_read _ _ hk]; rfl) rfl rfl hdg kk
/-- an array of objects -/
theorem r_oald {f : Nat → Nat} {C : String} (hx : p.tables.exec = Jvm.exec) (hb : c.code = cc) (hK : va_K D cl tys s) (hP : va_P D cl ws H) (ha : ws[q0]? = some (o, .inl (cA, n, .inr (.inr (.inr (.inr (fun j => some (f j)))))))) (ht : tys[t0]? = some (cA, .object C)) (hk : k < n) (hn : n < 2 ^ 31) (hdg : decode cc pc = .ok (.aaload, 1))
    (kk : W p l e R s m args below meth c H locs cells slots Q (F0 m (pc + 1) ls (.ref (f k) :: rest))) : W p l e R s m args below meth c H locs cells slots Q (F0 m pc ls (.int (nI k) :: .ref o :: rest)) :=
  va_aldq hx hb hK hP q0 t0 ha ht (vp_in_nI hk hn) hdg (by rw [nI_clamp (Nat.lt_trans hk hn)]; exact kk)
end RA
end
section
/-! THE ORDER, pure: codes (0 the start, k + 1 the element k), their parents, and a list of positions that goes through the tree, sooner siblings first -/
def up_k (par : Nat → Nat) : Nat → Nat → Nat
  | 0, x => x
  | k + 1, x => up_k par k (par x)
def anc (par : Nat → Nat) (a b : Nat) : Prop := ∃ k, up_k par k b = a
theorem up_add (par : Nat → Nat) (j : Nat) : ∀ (k x : Nat), up_k par (j + k) x = up_k par j (up_k par k x)
  | 0, _ => rfl
  | k + 1, x => up_add par j k (par x)
theorem anc_refl (par : Nat → Nat) (a : Nat) : anc par a a := ⟨0, rfl⟩
theorem anc_par {par : Nat → Nat} {a b : Nat} (h : anc par a (par b)) : anc par a b := by
  obtain ⟨k, h⟩ := h
  exact ⟨k + 1, h⟩
theorem anc_cases {par : Nat → Nat} {a b : Nat} (h : anc par a b) : a = b ∨ anc par a (par b) := by
  obtain ⟨k, h⟩ := h
  cases k with
  | zero => exact Or.inl h.symm
  | succ k => exact Or.inr ⟨k, h⟩
theorem anc_trans {par : Nat → Nat} {a b d : Nat} (h1 : anc par a b) (h2 : anc par b d) : anc par a d := by
  obtain ⟨j, h1⟩ := h1
  obtain ⟨k, h2⟩ := h2
  exact ⟨j + k, by rw [up_add, h2, h1]⟩
theorem anc_toward {par : Nat → Nat} (h0 : par 0 = 0) {a : Nat} : ∀ (k d : Nat), up_k par k d = a → a ≠ d → ∃ c, c ≠ 0 ∧ par c = a ∧ anc par c d
  | 0, _, h, hn => absurd h.symm hn
  | k + 1, d, h, hn => by
    by_cases hp : par d = a
    · refine ⟨d, fun q => ?_, hp, anc_refl par d⟩
      subst q
      exact hn (by rw [← hp, h0])
    · obtain ⟨c, h1, h2, h3⟩ := anc_toward h0 k (par d) h (fun q => hp q.symm)
      exact ⟨c, h1, h2, anc_par h3⟩
/-- positions 0 .. E: the start, then the elements -/
def OrdP (par : Nat → Nat) (sn : Nat → Nat → Prop) (X : Nat → Nat) (E : Nat) : Prop :=
  X 0 = 0 ∧ (∀ i j, i ≤ E → j ≤ E → X i = X j → i = j) ∧ (∀ i, 1 ≤ i → i ≤ E → ∃ j, j < i ∧ X j = par (X i)) ∧
  (∀ i k j, i ≤ k → k ≤ j → j ≤ E → anc par (X i) (X j) → anc par (X i) (X k)) ∧
  ∀ i j, 1 ≤ i → i ≤ E → 1 ≤ j → j ≤ E → par (X i) = par (X j) → sn (X i) (X j) → i < j
/-- sooner: a strict order, total on the positions' codes; a child is sooner than its parent -/
def SnP (par : Nat → Nat) (sn : Nat → Nat → Prop) (X : Nat → Nat) (E : Nat) : Prop :=
  par 0 = 0 ∧ (∀ a b d, sn a b → sn b d → sn a d) ∧ (∀ a, ¬ sn a a) ∧ (∀ i j, 1 ≤ i → i ≤ E → 1 ≤ j → j ≤ E → i ≠ j → sn (X i) (X j) ∨ sn (X j) (X i)) ∧
  ∀ i, 1 ≤ i → i ≤ E → par (X i) ≠ 0 → sn (X i) (par (X i))
section ORD
variable {par : Nat → Nat} {sn : Nat → Nat → Prop} {X : Nat → Nat} {E : Nat}
/-- an ancestor of a position's code is a position's code, no later -/
theorem ord_up (hO : OrdP par sn X E) (h0 : par 0 = 0) {a : Nat} : ∀ (k j : Nat), j ≤ E → up_k par k (X j) = a → ∃ i, i ≤ j ∧ X i = a
  | 0, j, _, h => ⟨j, Nat.le_refl j, h⟩
  | k + 1, j, hj, h => by
    by_cases hz : j = 0
    · subst hz
      have h2 : up_k par k (X 0) = a := by
        have : par (X 0) = X 0 := by rw [hO.1, h0]
        have h3 : up_k par k (par (X 0)) = a := h
        rw [this] at h3
        exact h3
      exact ord_up hO h0 k 0 hj h2
    · obtain ⟨j', h1, h2⟩ := hO.2.2.1 j (by omega) hj
      have h3 : up_k par k (par (X j)) = a := h
      rw [← h2] at h3
      obtain ⟨i, h4, h5⟩ := ord_up hO h0 k j' (by omega) h3
      exact ⟨i, by omega, h5⟩
theorem ord_le (hO : OrdP par sn X E) (h0 : par 0 = 0) {i j : Nat} (hi : i ≤ E) (hj : j ≤ E) (h : anc par (X i) (X j)) : i ≤ j := by
  obtain ⟨k, h⟩ := h
  obtain ⟨i', h1, h2⟩ := ord_up hO h0 k j hj h
  have := hO.2.1 i' i (by omega) hi h2
  omega
theorem ord_ne0 (hO : OrdP par sn X E) {i : Nat} (h1 : 1 ≤ i) (hi : i ≤ E) : X i ≠ 0 := fun h => by
  have := hO.2.1 i 0 hi (Nat.zero_le E) (by rw [h, hO.1])
  omega
/-- the child of position i on the way to position j -/
theorem ord_toward (hO : OrdP par sn X E) (h0 : par 0 = 0) {i j : Nat} (hi : i ≤ E) (hj : j ≤ E) (h : anc par (X i) (X j)) (hn : i ≠ j) : ∃ d, 1 ≤ d ∧ d ≤ j ∧ par (X d) = X i ∧ anc par (X d) (X j) := by
  obtain ⟨k, hk⟩ := h
  obtain ⟨c, h1, h2, h3⟩ := anc_toward h0 k (X j) hk (fun q => hn (hO.2.1 i j hi hj q))
  obtain ⟨k2, hk2⟩ := h3
  obtain ⟨d, h4, h5⟩ := ord_up hO h0 k2 j hj hk2
  refine ⟨d, ?_, h4, by rw [h5]; exact h2, ⟨k2, by rw [hk2, h5]⟩⟩
  rcases Nat.eq_zero_or_pos d with q | q
  · subst q
    exact absurd (h5.symm.trans hO.1) h1
  · exact q
/-- a descendant is sooner -/
theorem ord_desc (hO : OrdP par sn X E) (hs : SnP par sn X E) {i : Nat} (hi : 1 ≤ i) (hiE : i ≤ E) : ∀ (k j : Nat), j ≤ E → up_k par k (X j) = X i → i ≠ j → sn (X j) (X i)
  | 0, j, hj, h, hn => absurd (hO.2.1 j i hj hiE h).symm hn
  | k + 1, j, hj, h, hn => by
    have hle := ord_le hO hs.1 hiE hj ⟨k + 1, h⟩
    have hj1 : 1 ≤ j := by omega
    obtain ⟨j', h1, h2⟩ := hO.2.2.1 j hj1 hj
    have h3 : up_k par k (par (X j)) = X i := h
    rw [← h2] at h3
    have hne : par (X j) ≠ 0 := by
      rw [← h2]
      have := ord_le hO hs.1 hiE (show j' ≤ E by omega) ⟨k, h3⟩
      exact ord_ne0 hO (by omega) (by omega)
    have hc := hs.2.2.2.2 j hj1 hj hne
    by_cases hq : i = j'
    · subst hq
      rw [← h2] at hc
      exact hc
    · have := ord_desc hO hs hi hiE k j' (by omega) h3 hq
      rw [← h2] at hc
      exact hs.2.1 _ _ _ hc this
/-- siblings are no ancestors of each other -/
theorem ord_sib (hO : OrdP par sn X E) (h0 : par 0 = 0) {i j : Nat} (hi : 1 ≤ i) (hiE : i ≤ E) (hj : j ≤ E) (hj1 : 1 ≤ j) (hp : par (X i) = par (X j)) (hn : i ≠ j) : ¬ anc par (X i) (X j) := fun h => by
  rcases anc_cases h with q | q
  · exact hn (hO.2.1 i j hiE hj q)
  · rw [← hp] at q
    obtain ⟨i', h1, h2⟩ := hO.2.2.1 i hi hiE
    rw [← h2] at q
    have := ord_le hO h0 hiE (show i' ≤ E by omega) q
    omega
theorem ord_root (hO : OrdP par sn X E) : ∀ j, j ≤ E → anc par 0 (X j) := by
  intro j
  induction j using Nat.strongRecOn with
  | ind j ih =>
    intro hj
    by_cases hz : j = 0
    · subst hz
      rw [hO.1]
      exact anc_refl par 0
    · obtain ⟨j', h1, h2⟩ := hO.2.2.1 j (by omega) hj
      have := ih j' h1 (by omega)
      rw [h2] at this
      exact anc_par this
def insX (X : Nat → Nat) (k e : Nat) : Nat → Nat := fun i => if i < k then X i else if i = k then e else X (i - 1)
theorem insX_lt {k e i : Nat} (h : i < k) : insX X k e i = X i := by unfold insX; rw [if_pos h]
theorem insX_eq {k e : Nat} : insX X k e k = e := by unfold insX; rw [if_neg (Nat.lt_irrefl k), if_pos rfl]
theorem insX_gt {k e i : Nat} (h : k ≤ i) : insX X k e (i + 1) = X i := by
  unfold insX
  rw [if_neg (by omega), if_neg (by omega)]
  rfl
theorem insX_cases (k e : Nat) (j : Nat) : (j = k ∧ insX X k e j = e) ∨ ∃ i, insX X k e j = X i ∧ ((i < k ∧ j = i) ∨ (k ≤ i ∧ j = i + 1)) := by
  rcases Nat.lt_trichotomy j k with h | h | h
  · exact Or.inr ⟨j, insX_lt h, Or.inl ⟨h, rfl⟩⟩
  · subst h
    exact Or.inl ⟨rfl, insX_eq⟩
  · obtain ⟨i, rfl⟩ : ∃ i, j = i + 1 := ⟨j - 1, by omega⟩
    exact Or.inr ⟨i, insX_gt (by omega), Or.inr ⟨by omega, rfl⟩⟩
/-- what stands between the target and the new place is under the target -/
theorem ins_sub (hO : OrdP par sn X E) (hs : SnP par sn X E) {e t k : Nat} (hpe : par e = X t) (hkE : k ≤ E + 1) (hch : X t ≠ 0 → sn e (X t)) (hskip : ∀ i, t < i → i < k → sn (X i) e) : ∀ w, t < w → w < k → anc par (X t) (X w) := by
  intro w
  induction w using Nat.strongRecOn with
  | ind w ih =>
    intro h1 h2
    obtain ⟨w', h3, h4⟩ := hO.2.2.1 w (by omega) (by omega)
    rcases Nat.lt_trichotomy w' t with q | q | q
    · exfalso
      have a1 : anc par (X w') (X w) := ⟨1, by show par (X w) = X w'; exact h4.symm⟩
      have a2 := hO.2.2.2.1 w' t w (by omega) (by omega) (by omega) a1
      obtain ⟨d, b1, b2, b3, b4⟩ := ord_toward hO hs.1 (by omega) (by omega) a2 (by omega)
      have b5 : sn (X d) (X w) := by
        rcases hs.2.2.2.1 d w b1 (by omega) (by omega) (by omega) (by omega) with z | z
        · exact z
        · have := hO.2.2.2.2 w d (by omega) (by omega) b1 (by omega) (by rw [b3, h4]) z
          omega
      have b6 : sn (X t) (X w) := by
        by_cases z : d = t
        · rw [← z]; exact b5
        · obtain ⟨kk, hkk⟩ := b4
          exact hs.2.1 _ _ _ (ord_desc hO hs b1 (by omega) kk t (by omega) hkk z) b5
      exact hs.2.2.1 _ (hs.2.1 _ _ _ (hs.2.1 _ _ _ (hch (ord_ne0 hO (by omega) (by omega))) b6) (hskip w h1 h2))
    · subst q
      exact ⟨1, by show par (X w) = X w'; exact h4.symm⟩
    · have := ih w' h3 q (by omega)
      rw [h4] at this
      exact anc_par this
theorem ins_leaf (hO : OrdP par sn X E) (h0 : par 0 = 0) {e : Nat} (hne : ∀ i, i ≤ E → X i ≠ e) {j : Nat} (hj : j ≤ E) : ¬ anc par e (X j) := fun h => by
  obtain ⟨k, hk⟩ := h
  obtain ⟨i, h1, h2⟩ := ord_up hO h0 k j hj hk
  exact hne i (by omega) h2
theorem ins_anc {e : Nat} (hpe : ∀ i, i ≤ E → X i ≠ e) {t i : Nat} (hi : i ≤ E) (hp : par e = X t) (h : anc par (X i) e) : anc par (X i) (X t) := by
  rcases anc_cases h with q | q
  · exact absurd q (hpe i hi)
  · rw [hp] at q; exact q
theorem ord_ins (hO : OrdP par sn X E) (hs : SnP par sn X E) {e t k : Nat} (hpe : par e = X t) (ht : t < k) (hkE : k ≤ E + 1) (hne : ∀ i, i ≤ E → X i ≠ e) (hch : X t ≠ 0 → sn e (X t)) (hskip : ∀ i, t < i → i < k → sn (X i) e) (hstop : k ≤ E → ¬ sn (X k) e) : OrdP par sn (insX X k e) (E + 1) := by
  have h0 := hs.1
  have htE : t ≤ E := by omega
  refine ⟨?_, ?_, ?_, ?_, ?_⟩
  · rw [insX_lt (by omega)]; exact hO.1
  · intro i j hi hj h
    rcases insX_cases (X := X) k e i with ⟨a1, a2⟩ | ⟨i0, a1, a2⟩ <;> rcases insX_cases (X := X) k e j with ⟨b1, b2⟩ | ⟨j0, b1, b2⟩
    · omega
    · rw [a2, b1] at h
      exact absurd h.symm (hne j0 (by omega))
    · rw [a1, b2] at h
      exact absurd h (hne i0 (by omega))
    · rw [a1, b1] at h
      have := hO.2.1 i0 j0 (by omega) (by omega) h
      omega
  · intro j h1 h2
    rcases insX_cases (X := X) k e j with ⟨b1, b2⟩ | ⟨j0, b1, b2⟩
    · exact ⟨t, by omega, by rw [insX_lt ht, b2, hpe]⟩
    · obtain ⟨j', c1, c2⟩ := hO.2.2.1 j0 (by omega) (by omega)
      by_cases hq : j' < k
      · exact ⟨j', by omega, by rw [insX_lt hq, b1, c2]⟩
      · exact ⟨j' + 1, by omega, by rw [insX_gt (by omega), b1, c2]⟩
  · intro i w j h1 h2 h3 h
    rcases insX_cases (X := X) k e j with ⟨b1, b2⟩ | ⟨j0, b1, b2⟩
    · rcases insX_cases (X := X) k e i with ⟨a1, a2⟩ | ⟨i0, a1, a2⟩
      · have : w = k := by omega
        subst this
        rw [a2, insX_eq]
        exact anc_refl par e
      · rw [a1, b2] at h
        rw [a1]
        have a3 := ins_anc hne (show i0 ≤ E by omega) hpe h
        have a4 := ord_le hO h0 (by omega) htE a3
        rcases insX_cases (X := X) k e w with ⟨c1, c2⟩ | ⟨w0, c1, c2⟩
        · rw [c2]; exact h
        · rw [c1]
          by_cases hq : w0 ≤ t
          · exact hO.2.2.2.1 i0 w0 t (by omega) hq htE a3
          · exact anc_trans a3 (ins_sub hO hs hpe hkE hch hskip w0 (by omega) (by omega))
    · rcases insX_cases (X := X) k e i with ⟨a1, a2⟩ | ⟨i0, a1, a2⟩
      · rw [a2, b1] at h
        exact absurd h (ins_leaf hO h0 hne (by omega))
      · rw [a1, b1] at h
        rw [a1]
        rcases insX_cases (X := X) k e w with ⟨c1, c2⟩ | ⟨w0, c1, c2⟩
        · rw [c2]
          by_cases hq : i0 ≤ t
          · have a3 := hO.2.2.2.1 i0 t j0 hq (by omega) (by omega) h
            rw [← hpe] at a3
            exact anc_par a3
          · exfalso
            have a3 := hO.2.2.2.1 i0 k j0 (by omega) (by omega) (by omega) h
            obtain ⟨kk, hkk⟩ := a3
            have a4 := ord_desc hO hs (show 1 ≤ i0 by omega) (by omega) kk k (by omega) hkk (by omega)
            exact hstop (by omega) (hs.2.1 _ _ _ a4 (hskip i0 (by omega) (by omega)))
        · rw [c1]
          exact hO.2.2.2.1 i0 w0 j0 (by omega) (by omega) (by omega) h
  · intro i j h1 h2 h3 h4 hp hsn
    rcases insX_cases (X := X) k e i with ⟨a1, a2⟩ | ⟨i0, a1, a2⟩ <;> rcases insX_cases (X := X) k e j with ⟨b1, b2⟩ | ⟨j0, b1, b2⟩
    · rw [a2, b2] at hsn
      exact absurd hsn (hs.2.2.1 e)
    · rw [a2, b1] at hsn hp
      rw [hpe] at hp
      obtain ⟨j', c1, c2⟩ := hO.2.2.1 j0 (by omega) (by omega)
      have c3 := hO.2.1 j' t (by omega) htE (by rw [c2, hp])
      by_cases hq : j0 < k
      · exact absurd (hs.2.1 _ _ _ hsn (hskip j0 (by omega) hq)) (hs.2.2.1 e)
      · omega
    · rw [a1, b2] at hsn hp
      rw [hpe] at hp
      by_cases hq : i0 < k
      · omega
      · exfalso
        have hkE' : k ≤ E := by omega
        have c0 : anc par (X t) (X i0) := ⟨1, hp⟩
        have c1 := hO.2.2.2.1 t k i0 (by omega) (by omega) (by omega) c0
        obtain ⟨d, d1, d2, d3, d4⟩ := ord_toward hO h0 htE hkE' c1 (by omega)
        have d5 : sn (X d) e := by
          by_cases hd : d = i0
          · rw [hd]; exact hsn
          · rcases hs.2.2.2.1 d i0 d1 (by omega) (by omega) (by omega) hd with z | z
            · exact hs.2.1 _ _ _ z hsn
            · have := hO.2.2.2.2 i0 d (by omega) (by omega) d1 (by omega) (by rw [hp, d3]) z
              omega
        by_cases hd : d = k
        · rw [hd] at d5
          exact hstop hkE' d5
        · obtain ⟨kk, hkk⟩ := d4
          exact hstop hkE' (hs.2.1 _ _ _ (ord_desc hO hs d1 (by omega) kk k hkE' hkk hd) d5)
    · rw [a1, b1] at hsn hp
      have := hO.2.2.2.2 i0 j0 (by omega) (by omega) (by omega) (by omega) hp hsn
      omega
end ORD
end
section
/-! THE NEXT ELEMENT, pure: the walk of a replica's elements by first child and next sibling goes through the positions in order -/
def FitP (par : Nat → Nat) (sn : Nat → Nat → Prop) (X : Nat → Nat) (F : Nat → Prop) (a b i : Nat) : Prop := F (X i) ∧ par (X i) = a ∧ (b = 0 ∨ sn b (X i))
def FstP (par : Nat → Nat) (sn : Nat → Nat → Prop) (X : Nat → Nat) (E : Nat) (F : Nat → Prop) (fst : Nat → Nat → Nat) : Prop :=
  ∀ a b, (fst a b = 0 ∧ ∀ i, 1 ≤ i → i ≤ E → ¬ FitP par sn X F a b i) ∨ ∃ i, 1 ≤ i ∧ i ≤ E ∧ fst a b = X i ∧ FitP par sn X F a b i ∧ ∀ j, 1 ≤ j → j ≤ E → FitP par sn X F a b j → j = i ∨ sn (X i) (X j)
def ClP (par : Nat → Nat) (X : Nat → Nat) (E : Nat) (F : Nat → Prop) : Prop := ∀ i, 1 ≤ i → i ≤ E → F (X i) → par (X i) = 0 ∨ F (par (X i))
def upw (par : Nat → Nat) (fst : Nat → Nat → Nat) : Nat → Nat → Nat
  | 0, _ => 0
  | n + 1, a => if a = 0 then 0 else if fst (par a) a = 0 then upw par fst n (par a) else fst (par a) a
def nxt (par : Nat → Nat) (fst : Nat → Nat → Nat) (n x : Nat) : Nat := if fst x 0 = 0 then upw par fst n x else fst x 0
section NXT
variable {par : Nat → Nat} {sn : Nat → Nat → Prop} {X : Nat → Nat} {E : Nat} {F : Nat → Prop} {fst : Nat → Nat → Nat}
theorem cl_up (hO : OrdP par sn X E) (h0 : par 0 = 0) (hC : ClP par X E F) {i : Nat} (hi : 1 ≤ i) (hiE : i ≤ E) : ∀ (k j : Nat), j ≤ E → F (X j) → up_k par k (X j) = X i → F (X i)
  | 0, j, hj, hF, h => by rw [← h]; exact hF
  | k + 1, j, hj, hF, h => by
    have hle := ord_le hO h0 hiE hj ⟨k + 1, h⟩
    obtain ⟨j', h1, h2⟩ := hO.2.2.1 j (by omega) hj
    have h3 : up_k par k (par (X j)) = X i := h
    rw [← h2] at h3
    rcases hC j (by omega) hj hF with q | q
    · rw [← h2] at q
      have := ord_le hO h0 hiE (show j' ≤ E by omega) ⟨k, h3⟩
      exact absurd q (ord_ne0 hO (by omega) (by omega))
    · rw [← h2] at q
      exact cl_up hO h0 hC hi hiE k j' (by omega) q h3
/-- where a's sibling d is sooner than a, nothing behind a is under d -/
theorem sib_bar (hO : OrdP par sn X E) (h0 : par 0 = 0) {a d z : Nat} (ha : 1 ≤ a) (haE : a ≤ E) (hd : 1 ≤ d) (hdE : d ≤ E) (hp : par (X d) = par (X a)) (hz : a ≤ z) (hzE : z ≤ E) (hn : d ≠ a) (hs : sn (X d) (X a)) (h : anc par (X d) (X z)) : False := by
  have h1 := hO.2.2.2.2 d a hd hdE ha haE hp hs
  have h2 := hO.2.2.2.1 d a z (by omega) hz hzE h
  exact ord_sib hO h0 hd hdE haE ha hp hn h2
theorem upw_pos (hO : OrdP par sn X E) (hs : SnP par sn X E) (hC : ClP par X E F) (hf : FstP par sn X E F fst) {i : Nat} (hi : i ≤ E) : ∀ (n a : Nat), a ≤ n → a ≤ i → (a = 0 ∨ F (X a)) → anc par (X a) (X i) → (∀ z, i < z → z ≤ E → F (X z) → ¬ anc par (X a) (X z)) →
    (upw par fst n (X a) = 0 ∧ ∀ z, i < z → z ≤ E → ¬ F (X z)) ∨ ∃ j, i < j ∧ j ≤ E ∧ F (X j) ∧ upw par fst n (X a) = X j ∧ ∀ z, i < z → z < j → ¬ F (X z) := by
  intro n
  have root : (∀ z, i < z → z ≤ E → F (X z) → ¬ anc par (X 0) (X z)) → ∀ z, i < z → z ≤ E → ¬ F (X z) := by
    intro h z h1 h2 h3
    refine h z h1 h2 h3 ?_
    rw [hO.1]
    exact ord_root hO z h2
  induction n with
  | zero =>
    intro a h1 h2 _ _ h5
    have : a = 0 := by omega
    subst this
    exact Or.inl ⟨rfl, root h5⟩
  | succ n ih =>
    intro a h1 h2 h3 h4 h5
    by_cases hz : a = 0
    · subst hz
      refine Or.inl ⟨?_, root h5⟩
      unfold upw
      rw [hO.1, if_pos rfl]
    · have hne := ord_ne0 hO (show 1 ≤ a by omega) (show a ≤ E by omega)
      have hFa : F (X a) := by
        rcases h3 with q | q
        · exact absurd q hz
        · exact q
      obtain ⟨p0, e1, e2⟩ := hO.2.2.1 a (by omega) (by omega)
      have e3 : anc par (X p0) (X i) := anc_trans ⟨1, by show par (X a) = X p0; exact e2.symm⟩ h4
      -- a sibling on the way to what stands behind i goes behind a
      have key : ∀ z, i < z → z ≤ E → F (X z) → anc par (X p0) (X z) → ∃ d, 1 ≤ d ∧ d ≤ z ∧ FitP par sn X F (par (X a)) (X a) d := by
        intro z z1 z2 z3 z4
        obtain ⟨d, d1, d2, d3, d4⟩ := ord_toward hO hs.1 (by omega) z2 z4 (by omega)
        obtain ⟨kk, hkk⟩ := d4
        have d5 := cl_up hO hs.1 hC d1 (by omega) kk z z2 z3 hkk
        have d6 : d ≠ a := fun q => h5 z z1 z2 z3 (by rw [← q]; exact ⟨kk, hkk⟩)
        refine ⟨d, d1, d2, d5, by rw [d3, e2], Or.inr ?_⟩
        rcases hs.2.2.2.1 a d (by omega) (by omega) d1 (by omega) (fun q => d6 q.symm) with q | q
        · exact q
        · exact (sib_bar hO hs.1 (by omega) (by omega) d1 (by omega) (by rw [d3, e2]) (by omega) z2 d6 q ⟨kk, hkk⟩).elim
      rcases hf (par (X a)) (X a) with ⟨f1, f2⟩ | ⟨sx, s1, s2, s3, s4, s5⟩
      · have g : upw par fst (n + 1) (X a) = upw par fst n (X p0) := by
          show (if X a = 0 then 0 else if fst (par (X a)) (X a) = 0 then upw par fst n (par (X a)) else fst (par (X a)) (X a)) = _
          rw [if_neg hne, if_pos f1, e2]
        rw [g]
        refine ih p0 (by omega) (by omega) ?_ e3 ?_
        · rcases hC a (by omega) (by omega) hFa with q | q
          · left
            exact hO.2.1 p0 0 (by omega) (by omega) (by rw [e2, q, hO.1])
          · right
            rw [e2]; exact q
        · intro z z1 z2 z3 z4
          obtain ⟨d, d1, d2, d3⟩ := key z z1 z2 z3 z4
          exact f2 d d1 (by omega) d3
      · right
        have g : upw par fst (n + 1) (X a) = X sx := by
          show (if X a = 0 then 0 else if fst (par (X a)) (X a) = 0 then upw par fst n (par (X a)) else fst (par (X a)) (X a)) = _
          rw [if_neg hne, if_neg (by rw [s3]; exact ord_ne0 hO s1 s2), s3]
        have s6 : sn (X a) (X sx) := by
          rcases s4.2.2 with q | q
          · exact absurd q hne
          · exact q
        have s7 := hO.2.2.2.2 a sx (by omega) (by omega) s1 s2 s4.2.1.symm s6
        have s8 : i < sx := by
          apply Nat.lt_of_not_le
          intro q
          exact ord_sib hO hs.1 (by omega) (by omega) s2 s1 s4.2.1.symm (by omega) (hO.2.2.2.1 a sx i (by omega) q hi h4)
        refine ⟨sx, s8, s2, s4.1, g, ?_⟩
        intro z z1 z2 z3
        have z4 : anc par (X p0) (X sx) := ⟨1, by show par (X sx) = X p0; rw [s4.2.1, e2]⟩
        obtain ⟨d, d1, d2, d3⟩ := key z z1 (by omega) z3 (hO.2.2.2.1 p0 z sx (by omega) (by omega) s2 z4)
        rcases s5 d d1 (by omega) d3 with q | q
        · omega
        · have := hO.2.2.2.2 sx d s1 s2 d1 (by omega) (by rw [s4.2.1, d3.2.1]) q
          omega
theorem nxt_pos (hO : OrdP par sn X E) (hs : SnP par sn X E) (hC : ClP par X E F) (hf : FstP par sn X E F fst) {i n : Nat} (hi : i ≤ E) (hn : i ≤ n) (hv : i = 0 ∨ F (X i)) :
    (nxt par fst n (X i) = 0 ∧ ∀ z, i < z → z ≤ E → ¬ F (X z)) ∨ ∃ j, i < j ∧ j ≤ E ∧ F (X j) ∧ nxt par fst n (X i) = X j ∧ ∀ z, i < z → z < j → ¬ F (X z) := by
  have under : ∀ z, i < z → z ≤ E → F (X z) → anc par (X i) (X z) → ∃ d, 1 ≤ d ∧ d ≤ z ∧ FitP par sn X F (X i) 0 d := by
    intro z z1 z2 z3 z4
    obtain ⟨d, d1, d2, d3, d4⟩ := ord_toward hO hs.1 hi z2 z4 (by omega)
    obtain ⟨kk, hkk⟩ := d4
    exact ⟨d, d1, d2, cl_up hO hs.1 hC d1 (by omega) kk z z2 z3 hkk, d3, Or.inl rfl⟩
  unfold nxt
  rcases hf (X i) 0 with ⟨f1, f2⟩ | ⟨sx, s1, s2, s3, s4, s5⟩
  · rw [if_pos f1]
    refine upw_pos hO hs hC hf hi n i hn (Nat.le_refl i) hv (anc_refl par _) ?_
    intro z z1 z2 z3 z4
    obtain ⟨d, d1, d2, d3⟩ := under z z1 z2 z3 z4
    exact f2 d d1 (by omega) d3
  · rw [if_neg (by rw [s3]; exact ord_ne0 hO s1 s2), s3]
    right
    have s6 : anc par (X i) (X sx) := ⟨1, s4.2.1⟩
    have s7 := ord_le hO hs.1 hi s2 s6
    have s8 : i ≠ sx := fun q => by
      obtain ⟨j', h1, h2⟩ := hO.2.2.1 sx s1 s2
      rw [s4.2.1, q] at h2
      have := hO.2.1 j' sx (by omega) s2 h2
      omega
    refine ⟨sx, by omega, s2, s4.1, rfl, ?_⟩
    intro z z1 z2 z3
    obtain ⟨d, d1, d2, d3⟩ := under z z1 (by omega) z3 (hO.2.2.2.1 i z sx (by omega) (by omega) s2 s6)
    rcases s5 d d1 (by omega) d3 with q | q
    · omega
    · have := hO.2.2.2.2 sx d s1 s2 d1 (by omega) (by rw [s4.2.1, d3.2.1]) q
      omega
end NXT
/-- the codes of the n positions behind i that are held -/
def heldL (X : Nat → Nat) (G : Nat → Bool) : Nat → Nat → List Nat
  | 0, _ => []
  | n + 1, i => if G (X (i + 1)) then X (i + 1) :: heldL X G n (i + 1) else heldL X G n (i + 1)
def chainP (nx : Nat → Nat) : Nat → List Nat → Prop
  | x, [] => nx x = 0
  | x, y :: ys => nx x = y ∧ y ≠ 0 ∧ chainP nx y ys
theorem held_chain {par : Nat → Nat} {sn : Nat → Nat → Prop} {X : Nat → Nat} {E : Nat} {G : Nat → Bool} {fst : Nat → Nat → Nat} (hO : OrdP par sn X E) (hs : SnP par sn X E) (hC : ClP par X E (fun x => G x = true)) (hf : FstP par sn X E (fun x => G x = true) fst) {fu : Nat} (hfu : E ≤ fu) :
    ∀ (n i i0 : Nat), n + i = E → i0 ≤ i → (i0 = 0 ∨ G (X i0) = true) → (∀ z, i0 < z → z ≤ i → ¬ G (X z) = true) → chainP (nxt par fst fu) (X i0) (heldL X G n i) := by
  intro n
  induction n with
  | zero =>
    intro i i0 h1 h2 h3 h4
    show nxt par fst fu (X i0) = 0
    rcases nxt_pos hO hs hC hf (show i0 ≤ E by omega) (show i0 ≤ fu by omega) h3 with ⟨q, -⟩ | ⟨j, q1, q2, q3, -, -⟩
    · exact q
    · exact absurd q3 (h4 j q1 (by omega))
  | succ n ih =>
    intro i i0 h1 h2 h3 h4
    unfold heldL
    by_cases hg : G (X (i + 1)) = true
    · rw [if_pos hg]
      refine ⟨?_, ord_ne0 hO (by omega) (by omega), ih (i + 1) (i + 1) (by omega) (Nat.le_refl _) (Or.inr hg) (fun z z1 z2 => by omega)⟩
      rcases nxt_pos hO hs hC hf (show i0 ≤ E by omega) (show i0 ≤ fu by omega) h3 with ⟨-, q⟩ | ⟨j, q1, q2, q3, q4, q5⟩
      · exact absurd hg (q (i + 1) (by omega) (by omega))
      · have a1 : ¬ j ≤ i := fun z => h4 j q1 z q3
        have a2 : ¬ i + 1 < j := fun z => q5 (i + 1) (by omega) z hg
        have a3 : j = i + 1 := by omega
        rw [q4, a3]
    · rw [if_neg hg]
      refine ih (i + 1) i0 (by omega) (by omega) h3 (fun z z1 z2 => ?_)
      by_cases hz : z = i + 1
      · rw [hz]; exact hg
      · exact h4 z z1 (by omega)
end
section
/-! THE REFERENCE's state and what its methods answer, pure. Codes: 0 the start (-1 in Java), k + 1 the element k -/
def MS : Type := (Nat → Nat → Nat) × (Nat → Nat → Bool)
def MS.nn (x : MS) : Nat := x.1 0 0
def MS.len (x : MS) : Nat := x.1 1 0
def MS.by_ (x : MS) : Nat → Nat := x.1 2
def MS.line (x : MS) : Nat → Nat := x.1 3
def MS.stp (x : MS) : Nat → Nat := x.1 4
def MS.let_ (x : MS) : Nat → Nat := x.1 5
def MS.oth (x : MS) : Nat → Nat := x.1 6
def MS.clk (x : MS) : Nat → Nat := x.1 7
def MS.txt (x : MS) : Nat → Nat := x.1 8
def MS.spr (x : MS) : Nat → Nat := x.1 9
def MS.app (x : MS) : Nat → Bool := x.2 0
def MS.wts (x : MS) : Nat → Bool := x.2 1
def MS.gon (x : MS) : Nat → Bool := x.2 2
def mkM1 (nn : Nat) (by_ line stp let_ oth clk : Nat → Nat) (len : Nat) (txt spr : Nat → Nat) : Nat → Nat → Nat
  | 0 => fun _ => nn
  | 1 => fun _ => len
  | 2 => by_
  | 3 => line
  | 4 => stp
  | 5 => let_
  | 6 => oth
  | 7 => clk
  | 8 => txt
  | _ => spr
def mkM2 (app wts gon : Nat → Bool) : Nat → Nat → Bool
  | 0 => app
  | 1 => wts
  | _ => gon
def mkM (nn : Nat) (by_ line stp let_ oth clk : Nat → Nat) (app wts gon : Nat → Bool) (len : Nat) (txt spr : Nat → Nat) : MS := (mkM1 nn by_ line stp let_ oth clk len txt spr, mkM2 app wts gon)
def isRep (z : Int32) : Bool := decide (¬ z < 0 ∧ ¬ nI 3 ≤ z)
def isOp (n : Nat) (z : Int32) : Bool := decide (¬ z < 0 ∧ ¬ nI n ≤ z)
/-- its numbers are small -/
def okM (x : MS) : Prop := x.nn ≤ 100 ∧ x.len ≤ 100 ∧ ∀ k, x.by_ k < 3 ∧ x.line k < 1000 ∧ x.stp k < 1000 ∧ x.let_ k < 65536 ∧ x.oth k ≤ 100 ∧ x.clk k < 1000 ∧ x.txt k < 100 ∧ x.spr k < 65536
theorem okM.n {x : MS} (h : okM x) : x.nn ≤ 100 := h.1
theorem okM.len {x : MS} (h : okM x) : x.len ≤ 100 := h.2.1
theorem okM.by3 {x : MS} (h : okM x) (k : Nat) : x.by_ k < 3 := (h.2.2 k).1
theorem okM.by_ {x : MS} (h : okM x) (k : Nat) : x.by_ k < 2 ^ 31 := Nat.lt_trans (h.2.2 k).1 (by decide)
theorem okM.line {x : MS} (h : okM x) (k : Nat) : x.line k < 2 ^ 31 := Nat.lt_trans (h.2.2 k).2.1 (by decide)
theorem okM.stp {x : MS} (h : okM x) (k : Nat) : x.stp k < 2 ^ 31 := Nat.lt_trans (h.2.2 k).2.2.1 (by decide)
theorem okM.let_ {x : MS} (h : okM x) (k : Nat) : x.let_ k < 2 ^ 31 := Nat.lt_trans (h.2.2 k).2.2.2.1 (by decide)
theorem okM.oth {x : MS} (h : okM x) (k : Nat) : x.oth k < 2 ^ 31 := Nat.lt_of_le_of_lt (h.2.2 k).2.2.2.2.1 (by decide)
theorem okM.oth100 {x : MS} (h : okM x) (k : Nat) : x.oth k ≤ 100 := (h.2.2 k).2.2.2.2.1
theorem okM.clk {x : MS} (h : okM x) (k : Nat) : x.clk k < 2 ^ 31 := Nat.lt_trans (h.2.2 k).2.2.2.2.2.1 (by decide)
theorem okM.txt {x : MS} (h : okM x) (k : Nat) : x.txt k < 2 ^ 31 := Nat.lt_trans (h.2.2 k).2.2.2.2.2.2.1 (by decide)
theorem okM.txt100 {x : MS} (h : okM x) (k : Nat) : x.txt k < 100 := (h.2.2 k).2.2.2.2.2.2.1
theorem okM.spr {x : MS} (h : okM x) (k : Nat) : x.spr k < 2 ^ 31 := Nat.lt_trans (h.2.2 k).2.2.2.2.2.2.2 (by decide)
/-- count(r, j), over the first n operations -/
def cntF (by_ : Nat → Nat) (app : Nat → Bool) (r j : Nat) : Nat → Nat
  | 0 => 0
  | n + 1 => if by_ n = j ∧ app (100 * r + n) = true then cntF by_ app r j n + 1 else cntF by_ app r j n
def cntM (x : MS) (r j n : Nat) : Nat := cntF x.by_ x.app r j n
theorem cntM_s (x : MS) (r j n : Nat) : cntM x r j (n + 1) = if x.by_ n = j ∧ x.app (100 * r + n) = true then cntM x r j n + 1 else cntM x r j n := rfl
theorem cntM_le (x : MS) (r j : Nat) : ∀ n, cntM x r j n ≤ n
  | 0 => Nat.le_refl 0
  | n + 1 => by
    have := cntM_le x r j n
    rw [cntM_s]
    split <;> omega
theorem cntM_t {x : MS} {r j n : Nat} (h1 : x.by_ n = j) (h2 : x.app (100 * r + n) = true) : cntM x r j (n + 1) = cntM x r j n + 1 := by
  rw [cntM_s, if_pos ⟨h1, h2⟩]
theorem cntM_f1 {x : MS} {r j n : Nat} (h1 : ¬ x.by_ n = j) : cntM x r j (n + 1) = cntM x r j n := by
  rw [cntM_s, if_neg (fun q => h1 q.1)]
theorem cntM_f2 {x : MS} {r j n : Nat} (h1 : x.app (100 * r + n) = false) : cntM x r j (n + 1) = cntM x r j n := by
  rw [cntM_s, if_neg (fun q => by rw [h1] at q; cases q.2)]
/-- sooner(a, b) -/
def snM (x : MS) (a b : Nat) : Bool := decide (x.stp b < x.stp a ∨ (x.stp a = x.stp b ∧ x.by_ b < x.by_ a))
def parF (oth : Nat → Nat) : Nat → Nat
  | 0 => 0
  | k + 1 => oth k
def parM (x : MS) : Nat → Nat := parF x.oth
/-- 'fits' in first(r, after, behind), codes a and b -/
def fitM (x : MS) (r a b o : Nat) : Bool := x.app (100 * r + o) && (decide (0 < x.let_ o) && (decide (x.oth o = a) && (decide (b = 0) || snM x (b - 1) o)))
/-- first(r, after, behind), over the first n operations, a code -/
def fstF (fit : Nat → Bool) (sn : Nat → Nat → Bool) : Nat → Nat
  | 0 => 0
  | n + 1 => if fit n = true ∧ (fstF fit sn n = 0 ∨ sn n (fstF fit sn n - 1) = true) then n + 1 else fstF fit sn n
def fstM (x : MS) (r a b n : Nat) : Nat := fstF (fitM x r a b) (snM x) n
theorem fstM_s (x : MS) (r a b n : Nat) : fstM x r a b (n + 1) = if fitM x r a b n = true ∧ (fstM x r a b n = 0 ∨ snM x n (fstM x r a b n - 1) = true) then n + 1 else fstM x r a b n := rfl
theorem fstM_le (x : MS) (r a b : Nat) : ∀ n, fstM x r a b n ≤ n
  | 0 => Nat.le_refl 0
  | n + 1 => by
    have := fstM_le x r a b n
    rw [fstM_s]
    split <;> omega
theorem fstM_t {x : MS} {r a b n : Nat} (h1 : fitM x r a b n = true) (h2 : fstM x r a b n = 0 ∨ snM x n (fstM x r a b n - 1) = true) : fstM x r a b (n + 1) = n + 1 := by
  rw [fstM_s, if_pos ⟨h1, h2⟩]
theorem fstM_f1 {x : MS} {r a b n : Nat} (h1 : fitM x r a b n = false) : fstM x r a b (n + 1) = fstM x r a b n := by
  rw [fstM_s, if_neg (fun q => by rw [h1] at q; cases q.1)]
theorem fstM_f2 {x : MS} {r a b n : Nat} (h1 : 0 < fstM x r a b n) (h2 : snM x n (fstM x r a b n - 1) = false) : fstM x r a b (n + 1) = fstM x r a b n := by
  rw [fstM_s, if_neg (fun q => by
    rcases q.2 with z | z
    · omega
    · rw [h2] at z; cases z)]
/-- next(r, element), codes -/
def nxtM (x : MS) (r e : Nat) : Nat := nxt (parM x) (fun a b => fstM x r a b x.nn) 100 e
/-- erased(r, element), over the first n operations -/
def orF (g : Nat → Bool) : Nat → Bool
  | 0 => false
  | n + 1 => orF g n || g n
def andF (g : Nat → Bool) (b : Bool) : Nat → Bool
  | 0 => b
  | n + 1 => andF g b n && g n
theorem andF_t {g : Nat → Bool} {b : Bool} (hb : b = true) : ∀ {n : Nat}, (∀ i, i < n → g i = true) → andF g b n = true
  | 0, _ => hb
  | n + 1, h => by
    show (andF g b n && g n) = true
    rw [andF_t hb (fun i hi => h i (by omega)), h n (by omega)]; rfl
theorem andF_f {g : Nat → Bool} {b : Bool} {i : Nat} : ∀ {n : Nat}, i < n → g i = false → andF g b n = false
  | 0, h, _ => absurd h (Nat.not_lt_zero i)
  | n + 1, h, hg => by
    show (andF g b n && g n) = false
    by_cases hi : i = n
    · subst hi; rw [hg, Bool.and_false]
    · rw [andF_f (by omega) hg, Bool.false_and]
theorem andF_fb {g : Nat → Bool} : ∀ {n : Nat}, andF g false n = false
  | 0 => rfl
  | n + 1 => by
    show (andF g false n && g n) = false
    rw [andF_fb, Bool.false_and]
theorem andF_iff {g : Nat → Bool} {b : Bool} {n : Nat} : andF g b n = true ↔ b = true ∧ ∀ i, i < n → g i = true := by
  refine ⟨fun h => ⟨?_, fun i hi => ?_⟩, fun h => andF_t h.1 h.2⟩
  · cases b with
    | true => rfl
    | false => rw [andF_fb] at h; exact h
  · cases hg : g i with
    | true => rfl
    | false => rw [andF_f hi hg] at h; exact h
theorem orF_iff {g : Nat → Bool} : ∀ {n : Nat}, orF g n = true ↔ ∃ i, i < n ∧ g i = true
  | 0 => ⟨fun h => absurd h Bool.false_ne_true, fun ⟨i, h, _⟩ => absurd h (Nat.not_lt_zero i)⟩
  | n + 1 => by
    show (orF g n || g n) = true ↔ _
    rw [Bool.or_eq_true, orF_iff]
    refine ⟨fun h => ?_, fun ⟨i, h1, h2⟩ => ?_⟩
    · rcases h with ⟨i, h1, h2⟩ | h
      · exact ⟨i, by omega, h2⟩
      · exact ⟨n, by omega, h⟩
    · by_cases hi : i = n
      · subst hi; exact Or.inr h2
      · exact Or.inl ⟨i, by omega, h2⟩
def ersM (x : MS) (r e n : Nat) : Bool := orF (fun n => decide (x.let_ n = 0) && (decide (x.oth n = e + 1) && x.app (100 * r + n))) n
theorem ersM_s (x : MS) (r e n : Nat) : ersM x r e (n + 1) = (ersM x r e n || (decide (x.let_ n = 0) && (decide (x.oth n = e + 1) && x.app (100 * r + n)))) := rfl
/-- ready(r, o), with the first j clocks -/
def rdyM (x : MS) (r o j : Nat) : Bool := andF (fun j => decide (j = x.by_ o ∨ x.clk (3 * o + j) ≤ cntM x r j x.nn)) (decide (cntM x r (x.by_ o) x.nn = x.line o - 1)) j
theorem rdyM_s (x : MS) (r o j : Nat) : rdyM x r o (j + 1) = (rdyM x r o j && decide (j = x.by_ o ∨ x.clk (3 * o + j) ≤ cntM x r j x.nn)) := rfl
/-- known(r, i, j) for i other than r: the latest line and what it knows, over the first n operations -/
def knwF (by_ line clk : Nat → Nat) (app : Nat → Bool) (r i j : Nat) : Nat → Nat × Nat
  | 0 => (0, 0)
  | n + 1 => if by_ n = i ∧ app (100 * r + n) = true ∧ (knwF by_ line clk app r i j n).1 < line n then (line n, clk (3 * n + j)) else knwF by_ line clk app r i j n
def knwM (x : MS) (r i j n : Nat) : Nat × Nat := knwF x.by_ x.line x.clk x.app r i j n
theorem knwM_s (x : MS) (r i j n : Nat) : knwM x r i j (n + 1) = if x.by_ n = i ∧ x.app (100 * r + n) = true ∧ (knwM x r i j n).1 < x.line n then (x.line n, x.clk (3 * n + j)) else knwM x r i j n := rfl
theorem knwM_t {x : MS} {r i j n : Nat} (h1 : x.by_ n = i) (h2 : x.app (100 * r + n) = true) (h3 : (knwM x r i j n).1 < x.line n) : knwM x r i j (n + 1) = (x.line n, x.clk (3 * n + j)) := by
  rw [knwM_s, if_pos ⟨h1, h2, h3⟩]
theorem knwM_f {x : MS} {r i j n : Nat} (h1 : ¬ x.by_ n = i) : knwM x r i j (n + 1) = knwM x r i j n := by
  rw [knwM_s, if_neg (fun q => h1 q.1)]
theorem knwM_f2 {x : MS} {r i j n : Nat} (h1 : x.app (100 * r + n) = false) : knwM x r i j (n + 1) = knwM x r i j n := by
  rw [knwM_s, if_neg (fun q => by rw [h1] at q; cases q.2.1)]
theorem knwM_f3 {x : MS} {r i j n : Nat} (h1 : x.line n ≤ (knwM x r i j n).1) : knwM x r i j (n + 1) = knwM x r i j n := by
  rw [knwM_s, if_neg (fun q => by omega)]
theorem knwM_lt {x : MS} (ok : okM x) (r i j : Nat) : ∀ n, (knwM x r i j n).1 < 2 ^ 31 ∧ (knwM x r i j n).2 < 2 ^ 31
  | 0 => ⟨(by decide : (0 : Nat) < 2 ^ 31), (by decide : (0 : Nat) < 2 ^ 31)⟩
  | n + 1 => by
    have := knwM_lt ok r i j n
    rw [knwM_s]
    split
    · exact ⟨ok.line _, ok.clk _⟩
    · exact this
def knM (x : MS) (r i j : Nat) : Nat := if i = r then cntM x r j x.nn else (knwM x r i j x.nn).2
theorem knM_lt {x : MS} (ok : okM x) (r i j : Nat) : knM x r i j < 2 ^ 31 := by
  unfold knM
  split
  · exact Nat.lt_of_le_of_lt (Nat.le_trans (cntM_le _ _ _ _) ok.n) (by decide)
  · exact (knwM_lt ok r i j x.nn).2
/-- stable(r, o), with the first i replicas -/
def stbM (x : MS) (r o i : Nat) : Bool := andF (fun i => decide (x.line o ≤ knM x r i (x.by_ o))) (x.app (100 * r + o)) i
theorem stbM_s (x : MS) (r o i : Nat) : stbM x r o (i + 1) = (stbM x r o i && decide (x.line o ≤ knM x r i (x.by_ o))) := rfl
theorem stbM_no {x : MS} {r o : Nat} (h : x.app (100 * r + o) = false) : stbM x r o 3 = false := by
  show (((x.app (100 * r + o) && _) && _) && _) = false
  rw [h]; rfl
/-- idle(r, element): 'erase' and 'rest' over the first n operations -/
def ideM (x : MS) (r f n : Nat) : Bool := orF (fun n => decide (x.oth n = f + 1) && (x.app (100 * r + n) && (decide (x.let_ n = 0) && stbM x r n 3))) n
theorem ideM_s (x : MS) (r f n : Nat) : ideM x r f (n + 1) = (ideM x r f n || (decide (x.oth n = f + 1) && (x.app (100 * r + n) && (decide (x.let_ n = 0) && stbM x r n 3)))) := rfl
def idrM (x : MS) (r f n : Nat) : Bool := andF (fun n => !(decide (x.oth n = f + 1) && (x.app (100 * r + n) && !(decide (x.let_ n = 0) || stbM x r n 3)))) true n
theorem idrM_s (x : MS) (r f n : Nat) : idrM x r f (n + 1) = (idrM x r f n && !(decide (x.oth n = f + 1) && (x.app (100 * r + n) && !(decide (x.let_ n = 0) || stbM x r n 3)))) := rfl
def idlM (x : MS) (r f : Nat) : Bool := ideM x r f x.nn && idrM x r f x.nn
/-- keeps(r, o) -/
def kpsM (x : MS) (r o : Nat) : Bool := decide (0 < x.let_ o) && (x.app (100 * r + o) && !x.gon (100 * r + o))
theorem parM_p {x : MS} {a : Nat} (h : 0 < a) : parM x a = x.oth (a - 1) := by
  obtain ⟨k, rfl⟩ : ∃ k, a = k + 1 := ⟨a - 1, by omega⟩
  rfl
theorem upw_0 (P : Nat → Nat) (F : Nat → Nat → Nat) (k : Nat) : upw P F k 0 = 0 := by
  cases k with
  | zero => rfl
  | succ k => unfold upw; rw [if_pos rfl]
theorem nx_ret {P : Nat → Nat} {F : Nat → Nat → Nat} {R v a : Nat} (h : (v ≠ 0 ∧ v = R) ∨ (v = 0 ∧ ∃ k, a ≤ k ∧ upw P F k a = R)) (hv : 0 < v) : v = R := by
  rcases h with q | q
  · exact q.2
  · omega
theorem nx_end {P : Nat → Nat} {F : Nat → Nat → Nat} {R v a : Nat} (h : (v ≠ 0 ∧ v = R) ∨ (v = 0 ∧ ∃ k, a ≤ k ∧ upw P F k a = R)) (hv : v = 0) (ha : a = 0) : v = R := by
  rcases h with q | ⟨q, k, -, hk⟩
  · exact q.2
  · rw [ha, upw_0] at hk
    omega
theorem nx_step {P : Nat → Nat} {F : Nat → Nat → Nat} {R v a b : Nat} (hb : P a = b) (h : (v ≠ 0 ∧ v = R) ∨ (v = 0 ∧ ∃ k, a ≤ k ∧ upw P F k a = R)) (hv : v = 0) (ha : 0 < a) (hp : b ≤ a - 1) : (F b a ≠ 0 ∧ F b a = R) ∨ (F b a = 0 ∧ ∃ k, b ≤ k ∧ upw P F k b = R) := by
  rcases h with q | ⟨-, k, hk, hR⟩
  · exact absurd hv q.1
  · obtain ⟨k', rfl⟩ : ∃ k', k = k' + 1 := ⟨k - 1, by omega⟩
    have e : (if a = 0 then 0 else if F (P a) a = 0 then upw P F k' (P a) else F (P a) a) = R := hR
    rw [if_neg (by omega), hb] at e
    by_cases hz : F b a = 0
    · rw [if_pos hz] at e
      exact Or.inr ⟨hz, k', by omega, e⟩
    · rw [if_neg hz] at e
      exact Or.inl ⟨hz, e⟩
theorem nx_start {x : MS} {r f : Nat} (hf : f ≤ 100) : (fstM x r f 0 x.nn ≠ 0 ∧ fstM x r f 0 x.nn = nxtM x r f) ∨ (fstM x r f 0 x.nn = 0 ∧ ∃ k, f ≤ k ∧ upw (parM x) (fun a b => fstM x r a b x.nn) k f = nxtM x r f) := by
  unfold nxtM nxt
  by_cases hz : fstM x r f 0 x.nn = 0
  · exact Or.inr ⟨hz, 100, hf, by rw [if_pos hz]⟩
  · exact Or.inl ⟨hz, by rw [if_neg hz]⟩
theorem isRep_N {r : Nat} (h : r < 3) : isRep (nI r) = true := decide_eq_true ⟨nI_pos (by omega), nI_ge h (by decide)⟩
theorem isOp_N {n o : Nat} (h : o < n) (hn : n < 2 ^ 31) : isOp n (nI o) = true := decide_eq_true ⟨nI_pos (by omega), nI_ge h hn⟩
theorem okM.line3 {x : MS} (h : okM x) (k : Nat) : x.line k < 1000 := (h.2.2 k).2.1
theorem okM.stp3 {x : MS} (h : okM x) (k : Nat) : x.stp k < 1000 := (h.2.2 k).2.2.1
theorem okM.let5 {x : MS} (h : okM x) (k : Nat) : x.let_ k < 65536 := (h.2.2 k).2.2.2.1
theorem okM.clk3 {x : MS} (h : okM x) (k : Nat) : x.clk k < 1000 := (h.2.2 k).2.2.2.2.2.1
theorem okM.spr5 {x : MS} (h : okM x) (k : Nat) : x.spr k < 65536 := (h.2.2 k).2.2.2.2.2.2.2
theorem okM_mk {nn len : Nat} {by_ line stp let_ oth clk txt spr : Nat → Nat} {app wts gon : Nat → Bool} (h1 : nn ≤ 100) (h2 : len ≤ 100) (h3 : ∀ k, by_ k < 3) (h4 : ∀ k, line k < 1000) (h5 : ∀ k, stp k < 1000) (h6 : ∀ k, let_ k < 65536) (h7 : ∀ k, oth k ≤ 100) (h8 : ∀ k, clk k < 1000) (h9 : ∀ k, txt k < 100) (h10 : ∀ k, spr k < 65536) : okM (mkM nn by_ line stp let_ oth clk app wts gon len txt spr) :=
  ⟨h1, h2, fun k => ⟨h3 k, h4 k, h5 k, h6 k, h7 k, h8 k, h9 k, h10 k⟩⟩
theorem up_lt {t : Nat → Nat} {n v B : Nat} (h : ∀ k, t k < B) (hv : v < B) : ∀ k, va_up t n v k < B := by
  intro k
  unfold va_up
  split
  · exact hv
  · exact h k
theorem up_le {t : Nat → Nat} {n v B : Nat} (h : ∀ k, t k ≤ B) (hv : v ≤ B) : ∀ k, va_up t n v k ≤ B := by
  intro k
  unfold va_up
  split
  · exact hv
  · exact h k
theorem cntF_le (by_ : Nat → Nat) (app : Nat → Bool) (r j : Nat) : ∀ n, cntF by_ app r j n ≤ n
  | 0 => Nat.le_refl 0
  | n + 1 => by
    have := cntF_le by_ app r j n
    unfold cntF
    split <;> omega
/-- the greatest stamp that r has applied, of the first n operations -/
def gstF (stp : Nat → Nat) (app : Nat → Bool) (r : Nat) : Nat → Nat
  | 0 => 0
  | n + 1 => if app (100 * r + n) = true ∧ gstF stp app r n < stp n then stp n else gstF stp app r n
def gstM (x : MS) (r n : Nat) : Nat := gstF x.stp x.app r n
theorem gstM_s (x : MS) (r n : Nat) : gstM x r (n + 1) = if x.app (100 * r + n) = true ∧ gstM x r n < x.stp n then x.stp n else gstM x r n := rfl
theorem gstM_t {x : MS} {r n : Nat} (h1 : x.app (100 * r + n) = true) (h2 : gstM x r n < x.stp n) : gstM x r (n + 1) = x.stp n := by rw [gstM_s, if_pos ⟨h1, h2⟩]
theorem gstM_f1 {x : MS} {r n : Nat} (h1 : x.app (100 * r + n) = false) : gstM x r (n + 1) = gstM x r n := by
  rw [gstM_s, if_neg (fun q => by rw [h1] at q; cases q.1)]
theorem gstM_f2 {x : MS} {r n : Nat} (h1 : x.stp n ≤ gstM x r n) : gstM x r (n + 1) = gstM x r n := by
  rw [gstM_s, if_neg (fun q => by omega)]
theorem gstM_lt {x : MS} (ok : okM x) (r : Nat) : ∀ n, gstM x r n < 2 ^ 31
  | 0 => (by decide : (0 : Nat) < 2 ^ 31)
  | n + 1 => by
    have := gstM_lt ok r n
    rw [gstM_s]
    split
    · exact ok.stp n
    · exact this
def clkU (c : Nat → Nat) (o : Nat) (g : Nat → Nat) : Nat → Nat → Nat
  | 0 => c
  | j + 1 => va_up (clkU c o g j) (3 * o + j) (g j)
theorem clkU_lt {c : Nat → Nat} {o B : Nat} {g : Nat → Nat} (hc : ∀ k, c k < B) (hg : ∀ j, g j < B) : ∀ j k, clkU c o g j k < B
  | 0 => hc
  | j + 1 => up_lt (clkU_lt hc hg j) (hg j)
/-- issue(r, c, to) -/
def issM (x : MS) (r ch t : Nat) : MS :=
  mkM (x.nn + 1) (va_up x.by_ x.nn r) (va_up x.line x.nn (cntF (va_up x.by_ x.nn r) x.app r r x.nn + 1)) (va_up x.stp x.nn (gstM x r x.nn + 1)) (va_up x.let_ x.nn ch) (va_up x.oth x.nn t)
    (clkU x.clk x.nn (fun j => cntF (va_up x.by_ x.nn r) (va_up x.app (100 * r + x.nn) true) r j (x.nn + 1)) 3) (va_up x.app (100 * r + x.nn) true) x.wts x.gon x.len x.txt x.spr
/-- walk(r): what it leaves in length and text, of the elements that it goes through -/
def wrtF (er : Nat → Bool) : List Nat → Nat × (Nat → Nat) → Nat × (Nat → Nat)
  | [], s => s
  | v :: vs, s => if er (v - 1) then wrtF er vs s else wrtF er vs (s.1 + 1, va_up s.2 s.1 (v - 1))
theorem wrtF_t {er : Nat → Bool} {v n : Nat} {t : Nat → Nat} {vs : List Nat} (h : er (v - 1) = true) : wrtF er (v :: vs) (n, t) = wrtF er vs (n, t) := by
  show (if er (v - 1) = true then _ else _) = _
  rw [if_pos h]
theorem wrtF_f {er : Nat → Bool} {v n : Nat} {t : Nat → Nat} {vs : List Nat} (h : er (v - 1) = false) : wrtF er (v :: vs) (n, t) = wrtF er vs (n + 1, va_up t n (v - 1)) := by
  show (if er (v - 1) = true then _ else _) = _
  rw [if_neg (by rw [h]; decide)]
def walked (x : MS) (r : Nat) (xs : List Nat) : MS := mkM x.nn x.by_ x.line x.stp x.let_ x.oth x.clk x.app x.wts x.gon (wrtF (fun f => ersM x r f x.nn) xs (0, x.txt)).1 (wrtF (fun f => ersM x r f x.nn) xs (0, x.txt)).2 x.spr
theorem okM_wt {x : MS} {n : Nat} {t : Nat → Nat} (ok : okM x) (h : n ≤ 100) (ht : ∀ k, t k < 100) : okM (mkM x.nn x.by_ x.line x.stp x.let_ x.oth x.clk x.app x.wts x.gon n t x.spr) :=
  ⟨ok.1, h, fun k => ⟨(ok.2.2 k).1, (ok.2.2 k).2.1, (ok.2.2 k).2.2.1, (ok.2.2 k).2.2.2.1, (ok.2.2 k).2.2.2.2.1, (ok.2.2 k).2.2.2.2.2.1, ht k, (ok.2.2 k).2.2.2.2.2.2.2⟩⟩
theorem up_lt100 {t : Nat → Nat} {n v : Nat} (h : ∀ k, t k < 100) (hv : v < 100) : ∀ k, va_up t n v k < 100 := by
  intro k
  unfold va_up
  split
  · exact hv
  · exact h k
theorem ch_next {nx : Nat → Nat} {v : Nat} {zs : List Nat} (h : chainP nx v zs) : (nx v = 0 ∧ zs = []) ∨ ∃ ys, zs = nx v :: ys ∧ nx v ≠ 0 ∧ chainP nx (nx v) ys := by
  cases zs with
  | nil => exact Or.inl ⟨h, rfl⟩
  | cons y ys =>
    obtain ⟨h1, h2, h3⟩ := h
    exact Or.inr ⟨ys, by rw [h1], by rw [h1]; exact h2, by rw [h1]; exact h3⟩
theorem ch_le {nx : Nat → Nat} {v N : Nat} {zs : List Nat} (h : (v = 0 ∧ zs = []) ∨ ∃ ys, zs = v :: ys ∧ v ≠ 0 ∧ chainP nx v ys) (hz : ∀ z ∈ zs, z ≤ N) (h0 : 0 ≤ N) : v ≤ N := by
  rcases h with ⟨q, -⟩ | ⟨ys, q, -, -⟩
  · rw [q]; exact h0
  · exact hz v (by rw [q]; exact List.mem_cons_self)
theorem wk_end {x : MS} {r v ln : Nat} {xs ys : List Nat} {t : Nat → Nat} (hv : (v = 0 ∧ ys = []) ∨ ∃ zs, ys = v :: zs ∧ v ≠ 0 ∧ chainP (nxtM x r) v zs) (h0 : v = 0) (h4 : wrtF (fun f => ersM x r f x.nn) ys (ln, t) = wrtF (fun f => ersM x r f x.nn) xs (0, x.txt)) : mkM x.nn x.by_ x.line x.stp x.let_ x.oth x.clk x.app x.wts x.gon ln t x.spr = walked x r xs := by
  rcases hv with ⟨-, q⟩ | ⟨zs, -, q, -⟩
  · subst q
    unfold walked
    rw [← h4]
    rfl
  · exact absurd h0 q
theorem isRep_of {z : Int32} (h : isRep z = true) : ∃ r : Nat, r < 3 ∧ z = nI r := by
  have h2 := of_decide_eq_true h
  rcases pk_ix z (n := 3) (by decide) with q | q | q
  · exact absurd q h2.1
  · exact absurd q h2.2
  · exact q
theorem isOp_of {n : Nat} {z : Int32} (h : isOp n z = true) (hn : n < 2 ^ 31 := by omega) : ∃ o : Nat, o < n ∧ z = nI o := by
  have h2 := of_decide_eq_true h
  rcases pk_ix z hn with q | q | q
  · exact absurd q h2.1
  · exact absurd q h2.2
  · exact q
def stM (x : MS) (a w : Nat → Bool) : MS := mkM x.nn x.by_ x.line x.stp x.let_ x.oth x.clk a w x.gon x.len x.txt x.spr
theorem okM_st {x : MS} {a w : Nat → Bool} (ok : okM x) : okM (mkM x.nn x.by_ x.line x.stp x.let_ x.oth x.clk a w x.gon x.len x.txt x.spr) := ok
/-- one pass of deliver over the first k operations: applied, waiting, how many -/
def pasF (x : MS) (r : Nat) (a w : Nat → Bool) : Nat → (Nat → Bool) × (Nat → Bool) × Nat
  | 0 => (a, w, 0)
  | k + 1 => if (pasF x r a w k).2.1 (100 * r + k) = true ∧ rdyM (stM x (pasF x r a w k).1 (pasF x r a w k).2.1) r k 3 = true then (va_up (pasF x r a w k).1 (100 * r + k) true, va_up (pasF x r a w k).2.1 (100 * r + k) false, (pasF x r a w k).2.2 + 1) else pasF x r a w k
theorem pasF_t {x : MS} {r k : Nat} {a w : Nat → Bool} (h1 : (pasF x r a w k).2.1 (100 * r + k) = true) (h2 : rdyM (stM x (pasF x r a w k).1 (pasF x r a w k).2.1) r k 3 = true) : pasF x r a w (k + 1) = (va_up (pasF x r a w k).1 (100 * r + k) true, va_up (pasF x r a w k).2.1 (100 * r + k) false, (pasF x r a w k).2.2 + 1) := by
  rw [pasF, if_pos ⟨h1, h2⟩]
theorem pasF_f1 {x : MS} {r k : Nat} {a w : Nat → Bool} (h1 : (pasF x r a w k).2.1 (100 * r + k) = false) : pasF x r a w (k + 1) = pasF x r a w k := by
  rw [pasF, if_neg (fun q => by rw [h1] at q; cases q.1)]
theorem pasF_f2 {x : MS} {r k : Nat} {a w : Nat → Bool} (h1 : rdyM (stM x (pasF x r a w k).1 (pasF x r a w k).2.1) r k 3 = false) : pasF x r a w (k + 1) = pasF x r a w k := by
  rw [pasF, if_neg (fun q => by rw [h1] at q; cases q.2)]
/-- deliver(r, o) -/
def dlvM (x : MS) (r o : Nat) : MS × Nat := if x.app (100 * r + o) = true ∨ x.wts (100 * r + o) = true then (x, 0) else (stM x (pasF x r x.app (va_up x.wts (100 * r + o) true) x.nn).1 (pasF x r x.app (va_up x.wts (100 * r + o) true) x.nn).2.1, (pasF x r x.app (va_up x.wts (100 * r + o) true) x.nn).2.2)
theorem dlvM_old {x : MS} {r o : Nat} (h : x.app (100 * r + o) = true ∨ x.wts (100 * r + o) = true) : dlvM x r o = (x, 0) := by rw [dlvM, if_pos h]
theorem dlvM_new {x : MS} {r o : Nat} (h1 : x.app (100 * r + o) = false) (h2 : x.wts (100 * r + o) = false) : dlvM x r o = (stM x (pasF x r x.app (va_up x.wts (100 * r + o) true) x.nn).1 (pasF x r x.app (va_up x.wts (100 * r + o) true) x.nn).2.1, (pasF x r x.app (va_up x.wts (100 * r + o) true) x.nn).2.2) := by
  rw [dlvM, if_neg (fun q => by rw [h1, h2] at q; rcases q with z | z <;> cases z)]
/-- a second pass would find nothing -/
def idlD (x : MS) (r o : Nat) : Prop := x.app (100 * r + o) = false → x.wts (100 * r + o) = false → pasF x r (pasF x r x.app (va_up x.wts (100 * r + o) true) x.nn).1 (pasF x r x.app (va_up x.wts (100 * r + o) true) x.nn).2.1 x.nn = ((pasF x r x.app (va_up x.wts (100 * r + o) true) x.nn).1, (pasF x r x.app (va_up x.wts (100 * r + o) true) x.nn).2.1, 0)
def dlPh (P : (Nat → Bool) × (Nat → Bool) × Nat) (a0 w0 : Nat → Bool) (n : Nat) (mo : Bool) (a w : Nat → Bool) (c : Nat) : Prop := (mo = false ∧ a = P.1 ∧ w = P.2.1 ∧ c = P.2.2 ∧ 1 ≤ n) ∨ (mo = true ∧ a = P.1 ∧ w = P.2.1 ∧ c = P.2.2 ∧ 2 ≤ n) ∨ (mo = true ∧ a = a0 ∧ w = w0 ∧ c = 0 ∧ 3 ≤ n)
theorem dl_pos {P : (Nat → Bool) × (Nat → Bool) × Nat} {a0 w0 a w : Nat → Bool} {n c : Nat} {mo : Bool} (h : dlPh P a0 w0 n mo a w c) : 0 < n := by
  rcases h with h | h | h <;> omega
theorem dl_step {x : MS} {r o n c : Nat} {a w : Nat → Bool} {mo : Bool} (hid : idlD x r o) (h1 : x.app (100 * r + o) = false) (h2 : x.wts (100 * r + o) = false) (h : dlPh (pasF x r x.app (va_up x.wts (100 * r + o) true) x.nn) x.app (va_up x.wts (100 * r + o) true) (n + 1) mo a w c) (hm : mo = true) : dlPh (pasF x r x.app (va_up x.wts (100 * r + o) true) x.nn) x.app (va_up x.wts (100 * r + o) true) n (decide (0 < (pasF x r a w x.nn).2.2)) (pasF x r a w x.nn).1 (pasF x r a w x.nn).2.1 (c + (pasF x r a w x.nn).2.2) := by
  have hid := hid h1 h2
  subst hm
  rcases h with ⟨q, -⟩ | ⟨-, rfl, rfl, rfl, q⟩ | ⟨-, rfl, rfl, rfl, q⟩
  · cases q
  · rw [hid]
    exact Or.inl ⟨rfl, rfl, rfl, rfl, by omega⟩
  · by_cases hz : 0 < (pasF x r x.app (va_up x.wts (100 * r + o) true) x.nn).2.2
    · exact Or.inr (Or.inl ⟨decide_eq_true hz, rfl, rfl, Nat.zero_add _, by omega⟩)
    · exact Or.inl ⟨decide_eq_false hz, rfl, rfl, Nat.zero_add _, by omega⟩
theorem dl_end {P : (Nat → Bool) × (Nat → Bool) × Nat} {a0 w0 a w : Nat → Bool} {n c : Nat} {mo : Bool} (h : dlPh P a0 w0 n mo a w c) (hm : mo = false) : a = P.1 ∧ w = P.2.1 ∧ c = P.2.2 := by
  rcases h with ⟨-, h1, h2, h3, -⟩ | ⟨q, -⟩ | ⟨q, -⟩
  · exact ⟨h1, h2, h3⟩
  · rw [hm] at q; cases q
  · rw [hm] at q; cases q
theorem dl_st {x : MS} {P : (Nat → Bool) × (Nat → Bool) × Nat} {a0 w0 a w : Nat → Bool} {n c : Nat} {mo : Bool} (h : dlPh P a0 w0 n mo a w c) (hm : mo = false) : mkM x.nn x.by_ x.line x.stp x.let_ x.oth x.clk a w x.gon x.len x.txt x.spr = stM x P.1 P.2.1 := by
  obtain ⟨h1, h2, -⟩ := dl_end h hm
  rw [h1, h2]; rfl
def RM_deliver (x : MS) (z1 z2 : Int32) (v : Int32) (u : MS) : Prop := ((isRep z1 = false ∨ isOp x.nn z2 = false) ∧ v = -1 ∧ u = x) ∨ ∃ r o : Nat, r < 3 ∧ z1 = nI r ∧ o < x.nn ∧ z2 = nI o ∧ v = nI (dlvM x r o).2 ∧ u = (dlvM x r o).1
theorem RM_deliver_N {x : MS} {r o : Nat} {v : Int32} {u : MS} (h : RM_deliver x (nI r) (nI o) v u) (hr : r < 3) (ho : o < x.nn) (hn : x.nn < 2 ^ 31 := by omega) : v = nI (dlvM x r o).2 ∧ u = (dlvM x r o).1 := by
  rcases h with ⟨q | q, -, -⟩ | ⟨r', o', h1, h2, h3, h4, h5, h6⟩
  · rw [isRep_N hr] at q; cases q
  · rw [isOp_N ho hn] at q; cases q
  · have e1 : r = r' := (nI_eq (by omega) (by omega)).mp h2
    have e2 : o = o' := (nI_eq (by omega) (by omega)).mp h4
    subst e1; subst e2
    exact ⟨h5, h6⟩
/-- sync(r, t), over the first o operations -/
def synF (x : MS) (r t : Nat) : Nat → MS × Nat
  | 0 => (x, 0)
  | o + 1 => if (synF x r t o).1.app (100 * t + o) = true then ((dlvM (synF x r t o).1 r o).1, (synF x r t o).2 + (dlvM (synF x r t o).1 r o).2) else synF x r t o
theorem synF_t {x : MS} {r t o : Nat} (h : (synF x r t o).1.app (100 * t + o) = true) : synF x r t (o + 1) = ((dlvM (synF x r t o).1 r o).1, (synF x r t o).2 + (dlvM (synF x r t o).1 r o).2) := by rw [synF, if_pos h]
theorem synF_f {x : MS} {r t o : Nat} (h : (synF x r t o).1.app (100 * t + o) = false) : synF x r t (o + 1) = synF x r t o := by rw [synF, if_neg (by rw [h]; decide)]
def syOK (x : MS) (r t o : Nat) : Prop := okM (synF x r t o).1 ∧ (synF x r t o).1.nn = x.nn ∧ (∀ k, k < (synF x r t o).1.nn → 1 ≤ (synF x r t o).1.line k) ∧ ∀ r', r' < 3 → ∀ o', o' < (synF x r t o).1.nn → idlD (synF x r t o).1 r' o'
def RM_sync (x : MS) (z1 z2 : Int32) (v : Int32) (u : MS) : Prop := ((isRep z1 = false ∨ isRep z2 = false) ∧ v = -1 ∧ u = x) ∨ ∃ r t : Nat, r < 3 ∧ z1 = nI r ∧ t < 3 ∧ z2 = nI t ∧ v = nI (synF x r t x.nn).2 ∧ u = (synF x r t x.nn).1
def gnM (x : MS) (g : Nat → Bool) : MS := mkM x.nn x.by_ x.line x.stp x.let_ x.oth x.clk x.app x.wts g x.len x.txt x.spr
/-- collect(r), over the first o operations -/
def colF (x : MS) (r : Nat) : Nat → (Nat → Bool) × Nat
  | 0 => (x.gon, 0)
  | o + 1 => if kpsM (gnM x (colF x r o).1) r o = true ∧ idlM (gnM x (colF x r o).1) r o = true then (va_up (colF x r o).1 (100 * r + o) true, (colF x r o).2 + 1) else colF x r o
theorem colF_t {x : MS} {r o : Nat} (h1 : kpsM (gnM x (colF x r o).1) r o = true) (h2 : idlM (gnM x (colF x r o).1) r o = true) : colF x r (o + 1) = (va_up (colF x r o).1 (100 * r + o) true, (colF x r o).2 + 1) := by rw [colF, if_pos ⟨h1, h2⟩]
theorem colF_f1 {x : MS} {r o : Nat} (h1 : kpsM (gnM x (colF x r o).1) r o = false) : colF x r (o + 1) = colF x r o := by rw [colF, if_neg (fun q => by rw [h1] at q; cases q.1)]
theorem colF_f2 {x : MS} {r o : Nat} (h1 : idlM (gnM x (colF x r o).1) r o = false) : colF x r (o + 1) = colF x r o := by rw [colF, if_neg (fun q => by rw [h1] at q; cases q.2)]
def RM_collect (x : MS) (z1 : Int32) (v : Int32) (u : MS) : Prop := (isRep z1 = false ∧ v = -1 ∧ u = x) ∨ ∃ r : Nat, r < 3 ∧ z1 = nI r ∧ v = nI (colF x r x.nn).2 ∧ u = gnM x (colF x r x.nn).1
def numF (g : Nat → Bool) : Nat → Nat
  | 0 => 0
  | n + 1 => if g n = true then numF g n + 1 else numF g n
theorem numF_t {g : Nat → Bool} {n : Nat} (h : g n = true) : numF g (n + 1) = numF g n + 1 := by rw [numF, if_pos h]
theorem numF_f {g : Nat → Bool} {n : Nat} (h : g n = false) : numF g (n + 1) = numF g n := by rw [numF, if_neg (by rw [h]; decide)]
def RM_num (g : Nat → Nat → Bool) (x : MS) (z1 : Int32) (v : Int32) (u : MS) : Prop := (isRep z1 = false ∧ v = -1 ∧ u = x) ∨ ∃ r : Nat, r < 3 ∧ z1 = nI r ∧ v = nI (numF (g r) x.nn) ∧ u = x
def RM_stamp (x : MS) (z1 : Int32) (v : Int32) (u : MS) : Prop := (isOp x.nn z1 = false ∧ v = -1 ∧ u = x) ∨ ∃ o : Nat, o < x.nn ∧ z1 = nI o ∧ v = nI (4 * x.stp o + x.by_ o) ∧ u = x
def RM_known (x : MS) (z1 z2 z3 : Int32) (v : Int32) (u : MS) : Prop := ((isRep z1 = false ∨ isRep z2 = false ∨ isRep z3 = false) ∧ v = -1 ∧ u = x) ∨ ∃ r i j : Nat, r < 3 ∧ z1 = nI r ∧ i < 3 ∧ z2 = nI i ∧ j < 3 ∧ z3 = nI j ∧ v = nI (knM x r i j) ∧ u = x
def RM_stable (x : MS) (z1 z2 : Int32) (v : Int32) (u : MS) : Prop := ((isRep z1 = false ∨ isOp x.nn z2 = false) ∧ v = bI false ∧ u = x) ∨ ∃ r o : Nat, r < 3 ∧ z1 = nI r ∧ o < x.nn ∧ z2 = nI o ∧ v = bI (stbM x r o 3) ∧ u = x
end
section
/-! THE CLASS's state, pure: the log, and a replica -/
def LgS : Type := Nat → Nat → Nat
def LgS.cnt (x : LgS) : Nat := x 0 0
def LgS.el (x : LgS) : Nat := x 1 0
def LgS.iss (x : LgS) : Nat → Nat := x 2
def LgS.stp (x : LgS) : Nat → Nat := x 3
def LgS.tgt (x : LgS) : Nat → Nat := x 4
def LgS.chr (x : LgS) : Nat → Nat := x 5
def LgS.clk (x : LgS) : Nat → Nat := x 6
def LgS.ord (x : LgS) : Nat → Nat := x 7
def mkL (cnt el : Nat) (iss stp tgt chr clk ord : Nat → Nat) : LgS
  | 0 => fun _ => cnt
  | 1 => fun _ => el
  | 2 => iss
  | 3 => stp
  | 4 => tgt
  | 5 => chr
  | 6 => clk
  | _ => ord
def RpS : Type := (Nat → Nat → Nat) × (Nat → Nat → Bool)
def RpS.self (y : RpS) : Nat := y.1 0 0
def RpS.tl (y : RpS) : Nat := y.1 1 0
def RpS.kc (y : RpS) : Nat := y.1 2 0
def RpS.wc (y : RpS) : Nat := y.1 3 0
def RpS.gs (y : RpS) : Nat := y.1 4 0
def RpS.txt (y : RpS) : Nat → Nat := y.1 5
def RpS.seen (y : RpS) : Nat → Nat → Nat := fun i => y.1 (i + 6)
def RpS.wts (y : RpS) : Nat → Bool := y.2 0
def RpS.ers (y : RpS) : Nat → Bool := y.2 1
def RpS.kpt (y : RpS) : Nat → Bool := y.2 2
def RpS.mgo (y : RpS) : Nat → Bool := y.2 3
def mkR1 (self : Nat) (seen : Nat → Nat → Nat) (txt : Nat → Nat) (tl kc wc gs : Nat) : Nat → Nat → Nat
  | 0 => fun _ => self
  | 1 => fun _ => tl
  | 2 => fun _ => kc
  | 3 => fun _ => wc
  | 4 => fun _ => gs
  | 5 => txt
  | i + 6 => seen i
def mkR2 (wts ers kpt mgo : Nat → Bool) : Nat → Nat → Bool
  | 0 => wts
  | 1 => ers
  | 2 => kpt
  | _ => mgo
def mkR (self : Nat) (seen : Nat → Nat → Nat) (wts ers kpt mgo : Nat → Bool) (txt : Nat → Nat) (tl kc wc gs : Nat) : RpS := (mkR1 self seen txt tl kc wc gs, mkR2 wts ers kpt mgo)
def okL (x : LgS) : Prop := x.cnt ≤ 100 ∧ x.el ≤ 100 ∧ ∀ k, x.iss k < 3 ∧ x.stp k < 1000 ∧ x.tgt k ≤ 100 ∧ x.chr k < 65536 ∧ x.clk k < 1000 ∧ x.ord k < 100
theorem okL.n {x : LgS} (h : okL x) : x.cnt ≤ 100 := h.1
theorem okL.e {x : LgS} (h : okL x) : x.el ≤ 100 := h.2.1
theorem okL.iss3 {x : LgS} (h : okL x) (k : Nat) : x.iss k < 3 := (h.2.2 k).1
theorem okL.iss {x : LgS} (h : okL x) (k : Nat) : x.iss k < 2 ^ 31 := Nat.lt_trans (h.2.2 k).1 (by decide)
theorem okL.stp {x : LgS} (h : okL x) (k : Nat) : x.stp k < 2 ^ 31 := Nat.lt_trans (h.2.2 k).2.1 (by decide)
theorem okL.tgt {x : LgS} (h : okL x) (k : Nat) : x.tgt k < 2 ^ 31 := Nat.lt_of_le_of_lt (h.2.2 k).2.2.1 (by decide)
theorem okL.tgt100 {x : LgS} (h : okL x) (k : Nat) : x.tgt k ≤ 100 := (h.2.2 k).2.2.1
theorem okL.chr {x : LgS} (h : okL x) (k : Nat) : x.chr k < 2 ^ 31 := Nat.lt_trans (h.2.2 k).2.2.2.1 (by decide)
theorem okL.clk {x : LgS} (h : okL x) (k : Nat) : x.clk k < 2 ^ 31 := Nat.lt_trans (h.2.2 k).2.2.2.2.1 (by decide)
theorem okL.ord {x : LgS} (h : okL x) (k : Nat) : x.ord k < 2 ^ 31 := Nat.lt_trans (h.2.2 k).2.2.2.2.2 (by decide)
theorem okL.ord100 {x : LgS} (h : okL x) (k : Nat) : x.ord k < 100 := (h.2.2 k).2.2.2.2.2
def okR (y : RpS) : Prop := y.self < 3 ∧ y.tl ≤ 100 ∧ y.kc < 1000 ∧ y.wc < 1000 ∧ y.gs < 1000 ∧ (∀ i j, y.seen i j < 1000) ∧ ∀ k, y.txt k < 100
theorem okR.self {y : RpS} (h : okR y) : y.self < 3 := h.1
theorem okR.tl {y : RpS} (h : okR y) : y.tl ≤ 100 := h.2.1
theorem okR.seen {y : RpS} (h : okR y) (i j : Nat) : y.seen i j < 2 ^ 31 := Nat.lt_trans (h.2.2.2.2.2.1 i j) (by decide)
theorem okR.txt {y : RpS} (h : okR y) (k : Nat) : y.txt k < 2 ^ 31 := Nat.lt_trans (h.2.2.2.2.2.2 k) (by decide)
theorem okR.txt100 {y : RpS} (h : okR y) (k : Nat) : y.txt k < 100 := h.2.2.2.2.2.2 k
/-- an operation's place in line -/
def plc (x : LgS) (o : Nat) : Nat := x.clk (o * 3 + x.iss o)
def gofL (x : LgS) (a b : Nat) : Bool := decide (x.stp b < x.stp a ∨ (x.stp a = x.stp b ∧ x.iss b < x.iss a))
def hasL (x : LgS) (y : RpS) (o : Nat) : Bool := decide (plc x o ≤ y.seen y.self (x.iss o))
def setL (x : LgS) (y : RpS) (o : Nat) : Bool := andF (fun i => decide (plc x o ≤ y.seen i (x.iss o))) true 3
def rdyL (x : LgS) (y : RpS) (o : Nat) : Bool := andF (fun j => decide (j = x.iss o ∨ x.clk (o * 3 + j) ≤ y.seen y.self j)) (decide (y.seen y.self (x.iss o) = plc x o - 1)) 3
def hldL (x : LgS) (y : RpS) (o : Nat) : Bool := !decide (x.chr o = 0) && (!decide (x.tgt o = 0) && (hasL x y o && !setL x y o))
def befR (y : RpS) (k : Nat) : Nat := if k = 0 then 0 else y.txt (k - 1) + 1
end
section
/-! The worlds: the reference's cells, the log's, a replica's; what a method's start says of the tables -/
abbrev tyA (cc : Nat → ClassId) : List (ClassId × FieldType) := [(cc 0, .int), (cc 1, .boolean), (cc 2, .char), (cc 3, .array .int), (cc 4, .object RP)]
abbrev wM (cc : Nat → ClassId) (q : Nat → Nat) (x : MS) : va_W :=
  [(q 0, .inr (3, [.int (nI x.nn), .ref (q 1), .ref (q 2), .ref (q 3), .ref (q 4), .ref (q 5), .ref (q 6), .ref (q 7), .ref (q 8), .ref (q 9), .int (nI x.len), .ref (q 10), .ref (q 11)])),
   (q 1, .inl (cc 0, 100, .inl (fun k => nI (x.by_ k)))), (q 2, .inl (cc 0, 100, .inl (fun k => nI (x.line k)))), (q 3, .inl (cc 0, 100, .inl (fun k => nI (x.stp k)))), (q 4, .inl (cc 0, 100, .inl (fun k => nI (x.let_ k)))),
   (q 5, .inl (cc 0, 100, .inl (fun k => sI (x.oth k)))), (q 6, .inl (cc 0, 300, .inl (fun k => nI (x.clk k)))), (q 7, .inl (cc 1, 300, .inl (fun k => bI (x.app k)))), (q 8, .inl (cc 1, 300, .inl (fun k => bI (x.wts k)))),
   (q 9, .inl (cc 1, 300, .inl (fun k => bI (x.gon k)))), (q 10, .inl (cc 0, 100, .inl (fun k => nI (x.txt k)))), (q 11, .inl (cc 0, 100, .inl (fun k => nI (x.spr k))))]
abbrev wL (cc : Nat → ClassId) (a : Nat → Nat) (x : LgS) : va_W :=
  [(a 0, .inr (0, [.ref (a 1), .ref (a 2), .ref (a 3), .ref (a 4), .ref (a 5), .ref (a 6), .int (nI x.cnt), .int (nI x.el)])),
   (a 1, .inl (cc 0, 100, .inl (fun k => nI (x.iss k)))), (a 2, .inl (cc 0, 100, .inl (fun k => nI (x.stp k)))), (a 3, .inl (cc 0, 100, .inl (fun k => sI (x.tgt k)))), (a 4, .inl (cc 2, 100, .inl (fun k => nI (x.chr k)))),
   (a 5, .inl (cc 0, 300, .inl (fun k => nI (x.clk k)))), (a 6, .inl (cc 0, 100, .inl (fun k => nI (x.ord k))))]
abbrev wR (cc : Nat → ClassId) (lg : Nat) (b : Nat → Nat) (y : RpS) : va_W :=
  [(b 0, .inr (1, [.int (nI y.self), .ref lg, .ref (b 1), .ref (b 5), .ref (b 6), .ref (b 7), .ref (b 8), .ref (b 9), .int (nI y.tl), .int (nI y.kc), .int (nI y.wc), .int (nI y.gs)])),
   (b 1, .inl (cc 3, 3, .inr (.inr (.inr (.inr (fun j => some (b (2 + j)))))))),
   (b 2, .inl (cc 0, 3, .inl (fun k => nI (y.seen 0 k)))), (b 3, .inl (cc 0, 3, .inl (fun k => nI (y.seen 1 k)))), (b 4, .inl (cc 0, 3, .inl (fun k => nI (y.seen 2 k)))),
   (b 5, .inl (cc 1, 100, .inl (fun k => bI (y.wts k)))), (b 6, .inl (cc 1, 100, .inl (fun k => bI (y.ers k)))), (b 7, .inl (cc 1, 100, .inl (fun k => bI (y.kpt k)))), (b 8, .inl (cc 1, 100, .inl (fun k => bI (y.mgo k)))),
   (b 9, .inl (cc 0, 100, .inl (fun k => nI (y.txt k))))]
abbrev wLR (cc : Nat → ClassId) (a b : Nat → Nat) (x : LgS) (y : RpS) : va_W := wL cc a x ++ wR cc (a 0) b y
theorem at_seen {cc : Nat → ClassId} {a b : Nat → Nat} {x : LgS} {y : RpS} {i : Nat} (hi : i < 3) : (wLR cc a b x y)[9 + i]? = some (b (2 + i), .inl (cc 0, 3, .inl (fun k => nI (y.seen i k)))) := by
  rcases (show i = 0 ∨ i = 1 ∨ i = 2 by omega) with rfl | rfl | rfl <;> rfl
def EN (D : va_G) (cc : Nat → ClassId) (U : State) : Prop := va_K D vwCl (tyA cc) U ∧ (∀ t ∈ nwF, va_Nw (.fieldLinkNest t.1 t.2.1 t.2.2.1 t.2.2.2.1 t.2.2.2.2 "TombstoneText") U) ∧ ∀ w ∈ wAll, ∀ args : Array Value, w.before args U = true
theorem EN.f {D : va_G} {cc : Nat → ClassId} {U : State} (h : EN D cc U) {t : String × Nat × String × String × String} (ht : t ∈ nwF) {args : Array Value} : (Cond.fieldLinkNest t.1 t.2.1 t.2.2.1 t.2.2.2.1 t.2.2.2.2 "TombstoneText").before args U = true := va_Nw.use rfl (h.2.1 t ht)
theorem wAll_ok {w : Cond} (h : w ∈ wAll) : (w.onTables && w.keeps) = true ∨ ∃ ty, w = .arrayClass ty := good_of_word (List.all_eq_true.mp wAll_good w h)
theorem EN.warm {D : va_G} {cc : Nat → ClassId} {s U : State} (h : EN D cc s) (hW : s.WarmedH U.vm) : EN D cc U := ⟨va_K.moved hW.alike h.1, fun t ht => va_Nw.warmF hW (h.2.1 t ht), fun w hw _ => word_at hW (wAll_ok hw) (h.2.2 w hw #[])⟩
theorem EN.ts {D : va_G} {cc : Nat → ClassId} {s : State} (h : EN D cc s) (args : Array Value) : ∀ w ∈ wAll, w.before args s = true := fun w hw => h.2.2 w hw args
theorem EN.call {D : va_G} {cc : Nat → ClassId} {U : State} {g : JFrame} {mk : MethodId} {a : Array Value} (h : EN D cc U) : EN D cc (U.calling g mk a) := h.warm (U := U.calling g mk a) (State.WarmedH.refl U)
/-- the words of a call to a method y whose own list is its code alone -/
theorem gd_V {own C : String} {idx : Nat} {y : MethodName} {c : ByteArray} {n : Nat} {r : Option FieldType} (h1 : Cond.methodLink own idx y ∈ wAll) (h2 : Cond.instanceMethod y ∈ wAll) (h3 : Cond.selects C y y ∈ wAll) (h4 : Cond.initialized C ∈ wAll) (h5 : Cond.code y c n r ∈ wAll) : GoodIn wAll (wsV own idx C y [.code y c n r]) := by
  intro w hw
  have hm : w ∈ wAll := by
    simp only [wsV, List.mem_append, List.mem_cons, List.not_mem_nil, or_false] at hw
    rcases hw with (rfl | rfl | rfl | rfl) | rfl <;> assumption
  exact ⟨hm, wAll_ok hm⟩
theorem gd_1 {y : MethodName} {c : ByteArray} {n : Nat} {r : Option FieldType} (h5 : Cond.code y c n r ∈ wAll) : GoodIn wAll [.code y c n r] := by
  intro w hw
  have hm : w ∈ wAll := by
    simp only [List.mem_cons, List.not_mem_nil, or_false] at hw
    subst hw; exact h5
  exact ⟨hm, wAll_ok hm⟩
theorem gd_S {own : String} {idx : Nat} {y : MethodName} {c : ByteArray} {n : Nat} {r : Option FieldType} (h1 : Cond.methodLink own idx y ∈ wAll) (h2 : Cond.static y ∈ wAll) (h4 : Cond.initialized y.cls ∈ wAll) (h5 : Cond.code y c n r ∈ wAll) : GoodIn wAll (va_wsS own idx y [.code y c n r]) := by
  intro w hw
  have hm : w ∈ wAll := by
    simp only [va_wsS, List.mem_append, List.mem_cons, List.not_mem_nil, or_false] at hw
    rcases hw with (rfl | rfl | rfl) | rfl <;> assumption
  exact ⟨hm, wAll_ok hm⟩
theorem rd_preV {D : va_G} {cc : Nat → ClassId} {w : va_W} {s : State} {H : Heap} {As : List Value} {ci q0 b N : Nat} {fs : List Value} {C : String} {T : u_T} (hP : va_P D vwCl w H) (hE : EN D cc s) (he : w[q0]? = some (b, .inr (ci, fs))) (hc : vwCl[ci]? = some (C, T, N)) :
    PreV s H C b (va_Pc (.ref b :: As) (fun U => va_P D vwCl w U.heap ∧ EN D cc U)) As :=
  ⟨fun _ _ _ _ q => ⟨q.1, q.2.1, q.2.2.call⟩, va_recv hE.1 hP hc he, fun U hU hW => ⟨rfl, by rw [hU]; exact hP, hE.warm hW⟩⟩
theorem rd_preS {D : va_G} {cc : Nat → ClassId} {w : va_W} {s : State} {H : Heap} {As : List Value} (hP : va_P D vwCl w H) (hE : EN D cc s) :
    PreS s H (va_Pc As (fun U => va_P D vwCl w U.heap ∧ EN D cc U)) As :=
  ⟨fun _ _ _ _ q => ⟨q.1, q.2.1, q.2.2.call⟩, fun U hU hW => ⟨rfl, by rw [hU]; exact hP, hE.warm hW⟩⟩
theorem preT {s : State} {H : Heap} {As : List Value} : PreS s H (va_Pc As (fun _ => True)) As := ⟨fun _ _ _ _ q => ⟨q.1, trivial⟩, fun _ _ _ => ⟨rfl, trivial⟩⟩
end
section
/-! Methods that write into their world's cells and make none -/
def WP (D : va_G) (cc : Nat → ClassId) (w : va_W) (sz : Nat) : State → Prop := fun U => U.heap.size = sz ∧ va_P D vwCl w U.heap ∧ EN D cc U ∧ va_D (fun _ => True) w
def WQ {S : Type} (D : va_G) (cc : Nat → ClassId) (A : Nat → Prop) (w' : S → va_W) : S → State → Prop := fun u t => va_P D vwCl (w' u) t.heap ∧ EN D cc t ∧ va_D A (w' u)
theorem wr_meti {l : Launch} {y : MethodName} {cc : ByteArray} {maxL : Nat} {ty : FieldType} {ws ws' : List Cond} {rm : Room} {S : Type} (own : String) (av : List Value) (D : va_G) (cn : Nat → ClassId) (w : va_W) (sz : Nat) (w' : S → va_W) (post : Int32 → S → Prop) (hy : plainName y.cls = true) (hw : ws = Cond.code y cc maxL (some ty) :: ws') (ho : y.cls = own) (hav : (lg_sl av).length ≤ maxL) (hn : ∀ v u, post v u → narrow ty (.int v) = .int v)
    (body : ∀ (p : Program) (e : Env) (s : State) (m : MethodId) (args : Array Value) (below : List Frame) (meth : Method) (c : Code) (Q : State → Prop) (A : Nat → Prop), CallFix p m c cc maxL s args ws own → va_P D vwCl w s.heap → EN D cn s → va_D A w → (∀ q, s.heap.size ≤ q → A q) →
      (∀ (H : Heap) (locs : List Loc) (pc : Nat) (ls : Array Slot) (v : Int32) (u : S), decode cc pc = .ok (.ireturn, 1) → va_S A s.heap H locs → va_P D vwCl (w' u) H → va_D A (w' u) → post v u → W p l e rm s m args below meth c H locs 0 0 Q (F0 m pc ls [.int v])) →
      ∀ ls : Array Slot, lv_has ls maxL (lv_args 0 av) → W p l e rm s m args below meth c s.heap [] 0 0 Q (F0 m 0 ls [])) :
    Met l y ws rm (va_Pc av (WP D cn w sz)) (va_Qi post (WQ D cn (va_A w sz) w') (va_A w sz)) 0 0 (va_A w sz) := by
  refine Met.ofW (cc := cc) (maxL := maxL) (ret := some ty) hy hw ?_
  intro p e s m args below meth c s₁ Bd hml hv
  obtain ⟨rfl, rfl, hP, hE, hD⟩ := hv
  have hr := Bd.returns
  have hlocks := Bd.notSynchronized
  rw [lg_entry_eq]
  refine body p e s m _ below meth c _ (va_A w s.heap.size) ⟨Bd.exec, Bd.bytes, hml, ?_, atoms_spec (ws := ws) Bd.pre⟩ hP hE hD.self (fun q h => Or.inr h) ?_ _ (lv_entry av hav)
  · rw [← ho]; exact findClass_of_methodNamed Bd.named
  · intro H locs pc ls v u hd hS hP1 hD1 hpo
    exact W.zret Bd.exec Bd.bytes hr (hn v u hpo) (fun t ht hW => ⟨⟨v, u, rfl, hpo, by rw [ht]; exact hP1, hE.warm hW, hD1⟩, hS.F ht⟩) hS.2.2 hd
theorem wr_metv {l : Launch} {y : MethodName} {cc : ByteArray} {maxL : Nat} {ws ws' : List Cond} {rm : Room} {S : Type} (own : String) (av : List Value) (D : va_G) (cn : Nat → ClassId) (w : va_W) (sz : Nat) (w' : S → va_W) (post : S → Prop) (hy : plainName y.cls = true) (hw : ws = Cond.code y cc maxL none :: ws') (ho : y.cls = own) (hav : (lg_sl av).length ≤ maxL)
    (body : ∀ (p : Program) (e : Env) (s : State) (m : MethodId) (args : Array Value) (below : List Frame) (meth : Method) (c : Code) (Q : State → Prop) (A : Nat → Prop), CallFix p m c cc maxL s args ws own → va_P D vwCl w s.heap → EN D cn s → va_D A w → (∀ q, s.heap.size ≤ q → A q) →
      (∀ (H : Heap) (locs : List Loc) (pc : Nat) (ls : Array Slot) (u : S), decode cc pc = .ok (.return_, 1) → va_S A s.heap H locs → va_P D vwCl (w' u) H → va_D A (w' u) → post u → W p l e rm s m args below meth c H locs 0 0 Q (F0 m pc ls [])) →
      ∀ ls : Array Slot, lv_has ls maxL (lv_args 0 av) → W p l e rm s m args below meth c s.heap [] 0 0 Q (F0 m 0 ls [])) :
    Met l y ws rm (va_Pc av (WP D cn w sz)) (va_Qv post (WQ D cn (va_A w sz) w') (va_A w sz)) 0 0 (va_A w sz) := by
  refine Met.ofW (cc := cc) (maxL := maxL) (ret := none) hy hw ?_
  intro p e s m args below meth c s₁ Bd hml hv
  obtain ⟨rfl, rfl, hP, hE, hD⟩ := hv
  have hr := Bd.returns
  have hlocks := Bd.notSynchronized
  rw [lg_entry_eq]
  refine body p e s m _ below meth c _ (va_A w s.heap.size) ⟨Bd.exec, Bd.bytes, hml, ?_, atoms_spec (ws := ws) Bd.pre⟩ hP hE hD.self (fun q h => Or.inr h) ?_ _ (lv_entry av hav)
  · rw [← ho]; exact findClass_of_methodNamed Bd.named
  · intro H locs pc ls u hd hS hP1 hD1 hpo
    exact W.vret Bd.exec Bd.bytes hr (fun t ht hW => ⟨⟨u, rfl, hpo, by rw [ht]; exact hP1, hE.warm hW, hD1⟩, hS.F ht⟩) hS.2.2 hd
theorem wr_preV {D : va_G} {cc : Nat → ClassId} {A : Nat → Prop} {w : va_W} {s : State} {H : Heap} {As : List Value} {ci q0 b N : Nat} {fs : List Value} {C : String} {T : u_T} (hP : va_P D vwCl w H) (hE : EN D cc s) (hD : va_D A w) (he : w[q0]? = some (b, .inr (ci, fs))) (hc : vwCl[ci]? = some (C, T, N)) :
    PreV s H C b (va_Pc (.ref b :: As) (WP D cc w H.size)) As :=
  ⟨fun _ _ _ _ q => ⟨q.1, q.2.1, q.2.2.1, q.2.2.2.1.call, q.2.2.2.2⟩, va_recv hE.1 hP hc he, fun U hU hW => ⟨rfl, by rw [hU], by rw [hU]; exact hP, hE.warm hW, hD.weaken (fun _ _ _ _ => trivial)⟩⟩
theorem wr_free {A : Nat → Prop} {w : va_W} {H0 H : Heap} {locs : List Loc} (hD : va_D A w) (hS : va_S A H0 H locs) (hA : ∀ q, H0.size ≤ q → A q) : ∀ q, va_A w H.size q → A q := by
  intro q h
  rcases h with ⟨k, e, h⟩ | h
  · exact hD.2 k (q, e) h
  · exact hA q (Nat.le_trans hS.1 h)
theorem P_left {D : va_G} {cl : List vw_C} {w1 w2 : va_W} {H : Heap} (h : va_P D cl (w1 ++ w2) H) : va_P D cl w1 H := fun k q hk => h k q (by
  have hl : k < w1.length := (List.getElem?_eq_some_iff.mp hk).1
  rw [List.getElem?_append_left hl]; exact hk)
theorem P_right {D : va_G} {cl : List vw_C} {w1 w2 : va_W} {H : Heap} (h : va_P D cl (w1 ++ w2) H) : va_P D cl w2 H := fun k q hk => h (w1.length + k) q (by
  rw [List.getElem?_append_right (by omega)]; rw [show w1.length + k - w1.length = k by omega]; exact hk)
theorem D_left {A : Nat → Prop} {w1 w2 : va_W} (h : va_D A (w1 ++ w2)) : va_D A w1 :=
  ⟨fun i j p q hi hj => h.1 i j p q (by rw [List.getElem?_append_left (List.getElem?_eq_some_iff.mp hi).1]; exact hi) (by rw [List.getElem?_append_left (List.getElem?_eq_some_iff.mp hj).1]; exact hj),
   fun k q hk => h.2 k q (by rw [List.getElem?_append_left (List.getElem?_eq_some_iff.mp hk).1]; exact hk)⟩
theorem D_right {A : Nat → Prop} {w1 w2 : va_W} (h : va_D A (w1 ++ w2)) : va_D A w2 :=
  ⟨fun i j p q hi hj e => by
      have := h.1 (w1.length + i) (w1.length + j) p q (by rw [List.getElem?_append_right (by omega), show w1.length + i - w1.length = i by omega]; exact hi) (by rw [List.getElem?_append_right (by omega), show w1.length + j - w1.length = j by omega]; exact hj) e
      omega,
   fun k q hk => h.2 (w1.length + k) q (by rw [List.getElem?_append_right (by omega), show w1.length + k - w1.length = k by omega]; exact hk)⟩
/-- the callee's cells stand first: behind the call they are changed, the rest stays -/
theorem wr_join {A : Nat → Prop} {D : va_G} {cl : List vw_C} {w1 w2 w1' : va_W} {H H1 : Heap} (hP : va_P D cl (w1 ++ w2) H) (hD : va_D A (w1 ++ w2)) (hk : ∀ q : Nat, q < H.size → ¬ va_A w1 H.size q → H1[q]? = H[q]?) (hF : ∀ q, va_A w1 H.size q → A q) (hP1 : va_P D cl w1' H1) (hD1 : va_D (va_A w1 H.size) w1') : va_P D cl (w1' ++ w2) H1 ∧ va_D A (w1' ++ w2) := by
  have apart : ∀ (k : Nat) (q : Nat × va_E), w2[k]? = some q → q.1 < H.size ∧ ¬ va_A w1 H.size q.1 := by
    intro k q hq
    have h2 : (w1 ++ w2)[w1.length + k]? = some q := by rw [List.getElem?_append_right (by omega), show w1.length + k - w1.length = k by omega]; exact hq
    have hl := (hP _ q h2).lt
    refine ⟨hl, fun h => ?_⟩
    rcases h with ⟨k2, e, h⟩ | h
    · have hk2 : k2 < w1.length := (List.getElem?_eq_some_iff.mp h).1
      have := hD.1 (w1.length + k) k2 q (q.1, e) h2 (by rw [List.getElem?_append_left hk2]; exact h) rfl
      omega
    · omega
  refine ⟨va_P.app hP1 (fun k q hq => ?_), va_D.app (hD1.weaken (fun k q _ h => hF q.1 h)) (D_right hD) (fun i j x y hx hy hxy => ?_)⟩
  · obtain ⟨g1, g2⟩ := apart k q hq
    exact (P_right hP k q hq).kept (hk q.1 g1 g2)
  · exact (apart j y hy).2 (by rw [← hxy]; exact hD1.2 i x hx)
section WC
variable {p : Program} {l : Launch} {e : Env} {R : Room} {s : State} {m : MethodId} {args : Array Value} {below : List Frame} {meth : Method} {c : Code} {H : Heap} {locs : List Loc} {cells slots : Nat} {Q : State → Prop}
variable {pc : Nat} {ls : Array Slot} {rest st0 : List Value} {a : Array Value} {A : Nat → Prop} {H0 : Heap} {D : va_G} {cc : Nat → ClassId} {w1 w2 : va_W}
theorem wr_calli {S : Type} {post : Int32 → S → Prop} {w' : S → va_W} (hr : va_Run p l e R s m args below meth c H locs cells slots 0 0 (F0 m pc ls st0) rest (va_Qi post (WQ D cc (va_A w1 H.size) w') (va_A w1 H.size) a) (va_A w1 H.size)) (hP : va_P D vwCl (w1 ++ w2) H) (hD : va_D A (w1 ++ w2)) (hS : va_S A H0 H locs) (hA : ∀ q, H0.size ≤ q → A q)
    (kk : ∀ (v : Int32) (u : S) (H : Heap) (locs : List Loc), post v u → va_P D vwCl (w' u ++ w2) H → va_D A (w' u ++ w2) → va_S A H0 H locs → W p l e R s m args below meth c H locs cells slots Q (F0 m (pc + 3) ls (.int v :: rest))) : W p l e R s m args below meth c H locs cells slots Q (F0 m pc ls st0) := by
  have hF := wr_free (D_left hD) hS hA
  refine va_calli hr hS (fun q _ h => hF q h) hF (fun v u t H1 locs1 ht hvm hpo hB hz hk hS1 => ?_)
  obtain ⟨hP1, hE1, hD1⟩ := hB
  rw [ht] at hP1
  obtain ⟨g1, g2⟩ := wr_join hP hD hk hF hP1 hD1
  exact kk v u H1 locs1 hpo g1 g2 hS1
theorem wr_callv {S : Type} {post : S → Prop} {w' : S → va_W} (hr : va_Run p l e R s m args below meth c H locs cells slots 0 0 (F0 m pc ls st0) rest (va_Qv post (WQ D cc (va_A w1 H.size) w') (va_A w1 H.size) a) (va_A w1 H.size)) (hP : va_P D vwCl (w1 ++ w2) H) (hD : va_D A (w1 ++ w2)) (hS : va_S A H0 H locs) (hA : ∀ q, H0.size ≤ q → A q)
    (kk : ∀ (u : S) (H : Heap) (locs : List Loc), post u → va_P D vwCl (w' u ++ w2) H → va_D A (w' u ++ w2) → va_S A H0 H locs → W p l e R s m args below meth c H locs cells slots Q (F0 m (pc + 3) ls rest)) : W p l e R s m args below meth c H locs cells slots Q (F0 m pc ls st0) := by
  have hF := wr_free (D_left hD) hS hA
  refine va_callv hr hS (fun q _ h => hF q h) hF (fun u t H1 locs1 ht hvm hpo hB hz hk hS1 => ?_)
  obtain ⟨hP1, hE1, hD1⟩ := hB
  rw [ht] at hP1
  obtain ⟨g1, g2⟩ := wr_join hP hD hk hF hP1 hD1
  exact kk u H1 locs1 hpo g1 g2 hS1
end WC
end
section
def rmM_isReplica : Room := { frames := 0, cells := 0, slots := 0, locals := 0 }
set_option maxHeartbeats 4000000 in
set_option maxRecDepth 100000 in
theorem kM_isReplica {l : Launch} (z : Int32) : Met l yM_isReplica wsM_isReplica rmM_isReplica (va_Pc [.int (z)] (fun _ => True)) (QcRead (bI (isRep z))) 0 0 (fun _ => False) := by
  refine rd_met RM [.int (z)] _ _ (by decide) rfl rfl (Nat.le_of_ble_eq_true rfl) (bI_z _) ?_
  intro p e s m args below meth c Q S hB kx ls hl
  obtain ⟨hx, hb, hml, hown, hts⟩ := id S
  have hl : lv_has ls 1 [(0, .int (z))] := hl
  refine lv_iload_n hx hb dM_isReplica_0 rfl (lv_at hl 0 rfl) ?_
  refine lv_if_lt (tgt := 13) hx hb dM_isReplica_1 (by decide) (fun c_1 => ?_) (fun c_1 => ?_)
  · refine lv_iconst (v := bI (false)) hx hb dM_isReplica_13 (by decide) ?_
    exact kx _ _ _ dM_isReplica_14 (by unfold isRep; first | (rw [decide_eq_true (show ¬ z < 0 ∧ ¬ nI 3 ≤ z from ⟨c_1, c_6⟩)]; done) | (rw [decide_eq_false (show ¬ (¬ z < 0 ∧ ¬ nI 3 ≤ z) from fun h => h.1 c_1)]; done) | (rw [decide_eq_false (show ¬ (¬ z < 0 ∧ ¬ nI 3 ≤ z) from fun h => h.2 c_6)]; done))
  · refine lv_iload_n hx hb dM_isReplica_4 rfl (lv_at hl 0 rfl) ?_
    refine lv_iconst (v := nI (3)) hx hb dM_isReplica_5 (by decide) ?_
    refine lv_icmp_ge (tgt := 13) hx hb dM_isReplica_6 (by decide) (fun c_6 => ?_) (fun c_6 => ?_)
    · refine lv_iconst (v := bI (false)) hx hb dM_isReplica_13 (by decide) ?_
      exact kx _ _ _ dM_isReplica_14 (by unfold isRep; first | (rw [decide_eq_true (show ¬ z < 0 ∧ ¬ nI 3 ≤ z from ⟨c_1, c_6⟩)]; done) | (rw [decide_eq_false (show ¬ (¬ z < 0 ∧ ¬ nI 3 ≤ z) from fun h => h.1 c_1)]; done) | (rw [decide_eq_false (show ¬ (¬ z < 0 ∧ ¬ nI 3 ≤ z) from fun h => h.2 c_6)]; done))
    · refine lv_iconst (v := bI (true)) hx hb dM_isReplica_9 (by decide) ?_
      refine lv_goto (tgt := 14) hx hb dM_isReplica_10 (by decide) ?_
      exact kx _ _ _ dM_isReplica_14 (by unfold isRep; first | (rw [decide_eq_true (show ¬ z < 0 ∧ ¬ nI 3 ≤ z from ⟨c_1, c_6⟩)]; done) | (rw [decide_eq_false (show ¬ (¬ z < 0 ∧ ¬ nI 3 ≤ z) from fun h => h.1 c_1)]; done) | (rw [decide_eq_false (show ¬ (¬ z < 0 ∧ ¬ nI 3 ≤ z) from fun h => h.2 c_6)]; done))

def rmM_isOperation : Room := { frames := 0, cells := 0, slots := 0, locals := 0 }
set_option maxHeartbeats 4000000 in
set_option maxRecDepth 100000 in
theorem kM_isOperation {l : Launch} (D : va_G) (cc : Nat → ClassId) (q : Nat → Nat) (x : MS) (z : Int32) (ok : okM x) : Met l yM_isOperation wsM_isOperation rmM_isOperation (va_Pc [.ref (q 0), .int (z)] (fun U => va_P D vwCl (wM cc q x) U.heap ∧ EN D cc U)) (QcRead (bI (isOp x.nn z))) 0 0 (fun _ => False) := by
  refine rd_met RM [.ref (q 0), .int (z)] _ _ (by decide) rfl rfl (Nat.le_of_ble_eq_true rfl) (bI_z _) ?_
  intro p e s m args below meth c Q S hB kx ls hl
  obtain ⟨hx, hb, hml, hown, hts⟩ := id S
  obtain ⟨hP, hE⟩ := hB
  have hK := hE.1
  have hts := hE.ts args
  have S : CallFix p m c cM_isOperation 2 s args wAll RM := ⟨hx, hb, hml, hown, hts⟩
  have hn := ok.n
  have hl : lv_has ls 2 [(0, .ref (q 0)), (1, .int (z))] := hl
  refine lv_iload_n hx hb dM_isOperation_0 rfl (lv_at hl 1 rfl) ?_
  refine lv_if_lt (tgt := 16) hx hb dM_isOperation_1 (by decide) (fun c_1 => ?_) (fun c_1 => ?_)
  · refine lv_iconst (v := bI (false)) hx hb dM_isOperation_16 (by decide) ?_
    exact kx _ _ _ dM_isOperation_17 (by unfold isOp; first | (rw [decide_eq_true (show ¬ z < 0 ∧ ¬ nI x.nn ≤ z from ⟨c_1, c_9⟩)]; done) | (rw [decide_eq_false (show ¬ (¬ z < 0 ∧ ¬ nI x.nn ≤ z) from fun h => h.1 c_1)]; done) | (rw [decide_eq_false (show ¬ (¬ z < 0 ∧ ¬ nI x.nn ≤ z) from fun h => h.2 c_9)]; done))
  · refine lv_iload_n hx hb dM_isOperation_4 rfl (lv_at hl 1 rfl) ?_
    refine lv_aload_n hx hb dM_isOperation_5 rfl (lv_at hl 0 rfl) ?_
    refine va_get (D := D) (ci := 3) (v := .int (nI (x.nn))) (C := RM) (T := TM) (N := 13) hx hb hts in_M hown hK hP 0 rfl rfl 0 (by decide) (hts _ wm_243) (fun _ h9 => h9) rfl dM_isOperation_6 ?_
    refine lv_icmp_ge (tgt := 16) hx hb dM_isOperation_9 (by decide) (fun c_9 => ?_) (fun c_9 => ?_)
    · refine lv_iconst (v := bI (false)) hx hb dM_isOperation_16 (by decide) ?_
      exact kx _ _ _ dM_isOperation_17 (by unfold isOp; first | (rw [decide_eq_true (show ¬ z < 0 ∧ ¬ nI x.nn ≤ z from ⟨c_1, c_9⟩)]; done) | (rw [decide_eq_false (show ¬ (¬ z < 0 ∧ ¬ nI x.nn ≤ z) from fun h => h.1 c_1)]; done) | (rw [decide_eq_false (show ¬ (¬ z < 0 ∧ ¬ nI x.nn ≤ z) from fun h => h.2 c_9)]; done))
    · refine lv_iconst (v := bI (true)) hx hb dM_isOperation_12 (by decide) ?_
      refine lv_goto (tgt := 17) hx hb dM_isOperation_13 (by decide) ?_
      exact kx _ _ _ dM_isOperation_17 (by unfold isOp; first | (rw [decide_eq_true (show ¬ z < 0 ∧ ¬ nI x.nn ≤ z from ⟨c_1, c_9⟩)]; done) | (rw [decide_eq_false (show ¬ (¬ z < 0 ∧ ¬ nI x.nn ≤ z) from fun h => h.1 c_1)]; done) | (rw [decide_eq_false (show ¬ (¬ z < 0 ∧ ¬ nI x.nn ≤ z) from fun h => h.2 c_9)]; done))

def rmM_has : Room := { frames := 0, cells := 0, slots := 0, locals := 0 }
set_option maxHeartbeats 4000000 in
set_option maxRecDepth 100000 in
theorem kM_has {l : Launch} (D : va_G) (cc : Nat → ClassId) (q : Nat → Nat) (x : MS) (r o : Nat) (hr : r < 3) (ho : o < 100) : Met l yM_has wsM_has rmM_has (va_Pc [.ref (q 0), .int (nI (r)), .int (nI (o))] (fun U => va_P D vwCl (wM cc q x) U.heap ∧ EN D cc U)) (QcRead (bI (x.app (100 * r + o)))) 0 0 (fun _ => False) := by
  refine rd_met RM [.ref (q 0), .int (nI (r)), .int (nI (o))] _ _ (by decide) rfl rfl (Nat.le_of_ble_eq_true rfl) (bI_z _) ?_
  intro p e s m args below meth c Q S hB kx ls hl
  obtain ⟨hx, hb, hml, hown, hts⟩ := id S
  obtain ⟨hP, hE⟩ := hB
  have hK := hE.1
  have hts := hE.ts args
  have S : CallFix p m c cM_has 3 s args wAll RM := ⟨hx, hb, hml, hown, hts⟩
  have hl : lv_has ls 3 [(0, .ref (q 0)), (1, .int (nI (r))), (2, .int (nI (o)))] := hl
  refine lv_aload_n hx hb dM_has_0 rfl (lv_at hl 0 rfl) ?_
  refine va_get (D := D) (ci := 3) (v := .ref (q 7)) (C := RM) (T := TM) (N := 13) hx hb hts in_M hown hK hP 0 rfl rfl 7 (by decide) (hts _ wm_250) (fun _ h9 => h9) rfl dM_has_1 ?_
  refine lv_bipush (v := nI (100)) hx hb dM_has_4 (by decide) ?_
  refine lv_iload_n hx hb dM_has_6 rfl (lv_at hl 1 rfl) ?_
  refine r_mul hx hb dM_has_7 ?_
  refine lv_iload_n hx hb dM_has_8 rfl (lv_at hl 2 rfl) ?_
  refine r_add hx hb dM_has_9 ?_
  refine r_zald (q0 := 7) (t0 := 1) hx hb hK hP rfl rfl (by omega) (by decide) dM_has_10 ?_
  exact kx _ _ _ dM_has_11 (rfl)

def rmM_count : Room := { frames := 1, cells := 0, slots := 0, locals := 22 }
set_option maxHeartbeats 4000000 in
set_option maxRecDepth 100000 in
theorem kM_count {l : Launch} (D : va_G) (cc : Nat → ClassId) (q : Nat → Nat) (x : MS) (r j : Nat) (hr : r < 3) (hj : j < 3) (ok : okM x) : Met l yM_count wsM_count rmM_count (va_Pc [.ref (q 0), .int (nI (r)), .int (nI (j))] (fun U => va_P D vwCl (wM cc q x) U.heap ∧ EN D cc U)) (QcRead (nI (cntM x r j x.nn))) 0 0 (fun _ => False) := by
  refine rd_met RM [.ref (q 0), .int (nI (r)), .int (nI (j))] _ _ (by decide) rfl rfl (Nat.le_of_ble_eq_true rfl) (vp_nar_int _) ?_
  intro p e s m args below meth c Q S hB kx ls hl
  obtain ⟨hx, hb, hml, hown, hts⟩ := id S
  obtain ⟨hP, hE⟩ := hB
  have hK := hE.1
  have hts := hE.ts args
  have S : CallFix p m c cM_count 5 s args wAll RM := ⟨hx, hb, hml, hown, hts⟩
  have hn := ok.n
  have hl : lv_has ls 5 [(0, .ref (q 0)), (1, .int (nI (r))), (2, .int (nI (j)))] := hl
  have L5 : ∀ (n : Nat) (o : Nat) (a : Nat)  (ls : Array Slot) (h1 : o ≤ x.nn) (h2 : x.nn - o < n) (h3 : a = cntM x r j o), lv_has ls 5 [(0, .ref (q 0)), (1, .int (nI (r))), (2, .int (nI (j))), (3, .int (nI (a))), (4, .int (nI (o)))] → W p l e rmM_count s m args below meth c s.heap [] 0 0 Q (F0 m 5 ls []) := by
    intro n
    induction n with
    | zero => intro o a ls h1 h2 h3 hl; exact absurd h2 (Nat.not_lt_zero _)
    | succ n ih =>
      intro o a ls h1 h2 h3 hl
      refine lv_iload hx hb dM_count_5 (lv_at hl 4 rfl) ?_
      refine lv_aload_n hx hb dM_count_7 rfl (lv_at hl 0 rfl) ?_
      refine va_get (D := D) (ci := 3) (v := .int (nI (x.nn))) (C := RM) (T := TM) (N := 13) hx hb hts in_M hown hK hP 0 rfl rfl 0 (by decide) (hts _ wm_243) (fun _ h9 => h9) rfl dM_count_8 ?_
      refine r_ge (by omega) (Nat.lt_of_le_of_lt ok.n (by decide)) (tgt := 49) hx hb dM_count_11 (by decide) (fun c_11 => ?_) (fun c_11 => ?_)
      · refine lv_iload_n hx hb dM_count_49 rfl (lv_at hl 3 rfl) ?_
        exact kx _ _ _ dM_count_50 (by rw [h3, show o = x.nn by omega])
      · refine lv_aload_n hx hb dM_count_14 rfl (lv_at hl 0 rfl) ?_
        refine va_get (D := D) (ci := 3) (v := .ref (q 1)) (C := RM) (T := TM) (N := 13) hx hb hts in_M hown hK hP 0 rfl rfl 1 (by decide) (hts _ wm_244) (fun _ h9 => h9) rfl dM_count_15 ?_
        refine lv_iload hx hb dM_count_18 (lv_at hl 4 rfl) ?_
        refine r_iald (q0 := 1) (t0 := 0) hx hb hK hP rfl rfl (by omega) (by decide) dM_count_20 ?_
        refine lv_iload_n hx hb dM_count_21 rfl (lv_at hl 2 rfl) ?_
        refine r_ne (ok.by_ (o)) (by omega) (tgt := 41) hx hb dM_count_22 (by decide) (fun c_22 => ?_) (fun c_22 => ?_)
        · refine lv_iload_n hx hb dM_count_41 rfl (lv_at hl 3 rfl) ?_
          refine lv_istore_n (lv' := [(3, .int (nI (a))), (0, .ref (q 0)), (1, .int (nI (r))), (2, .int (nI (j))), (4, .int (nI (o)))]) hx hb dM_count_42 rfl hl (by decide) rfl (fun ls hl => ?_)
          refine lv_iinc (v := nI (o + 1)) (lv' := [(4, .int (nI (o + 1))), (3, .int (nI (a))), (0, .ref (q 0)), (1, .int (nI (r))), (2, .int (nI (j)))]) hx hb dM_count_43 hl (k := 4) rfl (nI_1 _) (by decide) rfl (fun ls hl => ?_)
          refine lv_goto (tgt := 5) hx hb dM_count_46 (by decide) ?_
          exact ih  (o + 1) (a)  ls (by omega) (by omega) (by first | rfl | (rw [cntM_t c_22 c_32, h3]; done) | (rw [cntM_f1 c_22, h3]; done) | (rw [cntM_f2 c_32, h3]; done)) (lv_sub hl [2, 3, 4, 1, 0] rfl)
        · refine lv_aload_n hx hb dM_count_25 rfl (lv_at hl 0 rfl) ?_
          refine lv_iload_n hx hb dM_count_26 rfl (lv_at hl 1 rfl) ?_
          refine lv_iload hx hb dM_count_27 (lv_at hl 4 rfl) ?_
          refine W.callR (W.runV (As := [.int (nI (r)), .int (nI (o))]) (rest := []) S (kM_has D cc q x (r) (o) (by omega) (by omega)) (cwV 2 hts (gd_V wm_285 wm_286 wm_382 wm_4 wm_287) rfl rfl rfl (by decide +kernel) ⟨Nat.le_of_ble_eq_true rfl, Nat.le_of_ble_eq_true rfl⟩) (rd_preV (q0 := 0) hP hE rfl rfl) rfl rfl hl.1 rfl (lv_room (Nat.le_of_ble_eq_true rfl)) dM_count_29 ⟨Nat.le_of_ble_eq_true rfl, Nat.le_of_ble_eq_true rfl⟩) ?_
          refine W.eq (g2 := F0 m 32 ls [.int (bI (x.app (100 * (r) + (o))))]) rfl ?_
          refine r_eqB (tgt := 41) hx hb dM_count_32 (by decide) (fun c_32 => ?_) (fun c_32 => ?_)
          · refine lv_iload_n hx hb dM_count_41 rfl (lv_at hl 3 rfl) ?_
            refine lv_istore_n (lv' := [(3, .int (nI (a))), (0, .ref (q 0)), (1, .int (nI (r))), (2, .int (nI (j))), (4, .int (nI (o)))]) hx hb dM_count_42 rfl hl (by decide) rfl (fun ls hl => ?_)
            refine lv_iinc (v := nI (o + 1)) (lv' := [(4, .int (nI (o + 1))), (3, .int (nI (a))), (0, .ref (q 0)), (1, .int (nI (r))), (2, .int (nI (j)))]) hx hb dM_count_43 hl (k := 4) rfl (nI_1 _) (by decide) rfl (fun ls hl => ?_)
            refine lv_goto (tgt := 5) hx hb dM_count_46 (by decide) ?_
            exact ih  (o + 1) (a)  ls (by omega) (by omega) (by first | rfl | (rw [cntM_t c_22 c_32, h3]; done) | (rw [cntM_f1 c_22, h3]; done) | (rw [cntM_f2 c_32, h3]; done)) (lv_sub hl [2, 3, 4, 1, 0] rfl)
          · refine lv_iload_n hx hb dM_count_35 rfl (lv_at hl 3 rfl) ?_
            refine lv_iconst (v := nI (1)) hx hb dM_count_36 (by decide) ?_
            refine r_add hx hb dM_count_37 ?_
            refine lv_goto (tgt := 42) hx hb dM_count_38 (by decide) ?_
            refine lv_istore_n (lv' := [(3, .int (nI (a + 1))), (0, .ref (q 0)), (1, .int (nI (r))), (2, .int (nI (j))), (4, .int (nI (o)))]) hx hb dM_count_42 rfl hl (by decide) rfl (fun ls hl => ?_)
            refine lv_iinc (v := nI (o + 1)) (lv' := [(4, .int (nI (o + 1))), (3, .int (nI (a + 1))), (0, .ref (q 0)), (1, .int (nI (r))), (2, .int (nI (j)))]) hx hb dM_count_43 hl (k := 4) rfl (nI_1 _) (by decide) rfl (fun ls hl => ?_)
            refine lv_goto (tgt := 5) hx hb dM_count_46 (by decide) ?_
            exact ih  (o + 1) (a + 1)  ls (by omega) (by omega) (by first | rfl | (rw [cntM_t c_22 c_32, h3]; done) | (rw [cntM_f1 c_22, h3]; done) | (rw [cntM_f2 c_32, h3]; done)) (lv_sub hl [2, 3, 4, 1, 0] rfl)
  refine lv_iconst (v := nI (0)) hx hb dM_count_0 (by decide) ?_
  refine lv_istore_n (lv' := [(3, .int (nI (0))), (0, .ref (q 0)), (1, .int (nI (r))), (2, .int (nI (j)))]) hx hb dM_count_1 rfl hl (by decide) rfl (fun ls hl => ?_)
  refine lv_iconst (v := nI (0)) hx hb dM_count_2 (by decide) ?_
  refine lv_istore (lv' := [(4, .int (nI (0))), (3, .int (nI (0))), (0, .ref (q 0)), (1, .int (nI (r))), (2, .int (nI (j)))]) hx hb dM_count_3 hl (by decide) rfl (fun ls hl => ?_)
  exact L5 (x.nn + 1) (0) (0)  ls (by omega) (by omega) (by first | rfl | (rw [cntM_t c_22 c_32, h3]; done) | (rw [cntM_f1 c_22, h3]; done) | (rw [cntM_f2 c_32, h3]; done)) (lv_sub hl [2, 3, 4, 1, 0] rfl)

def rmM_sooner : Room := { frames := 0, cells := 0, slots := 0, locals := 0 }
set_option maxHeartbeats 4000000 in
set_option maxRecDepth 100000 in
theorem kM_sooner {l : Launch} (D : va_G) (cc : Nat → ClassId) (q : Nat → Nat) (x : MS) (a b : Nat) (ha : a < 100) (hb0 : b < 100) (ok : okM x) : Met l yM_sooner wsM_sooner rmM_sooner (va_Pc [.ref (q 0), .int (nI (a)), .int (nI (b))] (fun U => va_P D vwCl (wM cc q x) U.heap ∧ EN D cc U)) (QcRead (bI (snM x a b))) 0 0 (fun _ => False) := by
  refine rd_met RM [.ref (q 0), .int (nI (a)), .int (nI (b))] _ _ (by decide) rfl rfl (Nat.le_of_ble_eq_true rfl) (bI_z _) ?_
  intro p e s m args below meth c Q S hB kx ls hl
  obtain ⟨hx, hb, hml, hown, hts⟩ := id S
  obtain ⟨hP, hE⟩ := hB
  have hK := hE.1
  have hts := hE.ts args
  have S : CallFix p m c cM_sooner 3 s args wAll RM := ⟨hx, hb, hml, hown, hts⟩
  have hn := ok.n
  have hl : lv_has ls 3 [(0, .ref (q 0)), (1, .int (nI (a))), (2, .int (nI (b)))] := hl
  refine lv_aload_n hx hb dM_sooner_0 rfl (lv_at hl 0 rfl) ?_
  refine va_get (D := D) (ci := 3) (v := .ref (q 3)) (C := RM) (T := TM) (N := 13) hx hb hts in_M hown hK hP 0 rfl rfl 3 (by decide) (hts _ wm_246) (fun _ h9 => h9) rfl dM_sooner_1 ?_
  refine lv_iload_n hx hb dM_sooner_4 rfl (lv_at hl 1 rfl) ?_
  refine r_iald (q0 := 3) (t0 := 0) hx hb hK hP rfl rfl (by omega) (by decide) dM_sooner_5 ?_
  refine lv_aload_n hx hb dM_sooner_6 rfl (lv_at hl 0 rfl) ?_
  refine va_get (D := D) (ci := 3) (v := .ref (q 3)) (C := RM) (T := TM) (N := 13) hx hb hts in_M hown hK hP 0 rfl rfl 3 (by decide) (hts _ wm_246) (fun _ h9 => h9) rfl dM_sooner_7 ?_
  refine lv_iload_n hx hb dM_sooner_10 rfl (lv_at hl 2 rfl) ?_
  refine r_iald (q0 := 3) (t0 := 0) hx hb hK hP rfl rfl (by omega) (by decide) dM_sooner_11 ?_
  refine r_gt (ok.stp (a)) (ok.stp (b)) (tgt := 45) hx hb dM_sooner_12 (by decide) (fun c_12 => ?_) (fun c_12 => ?_)
  · refine lv_iconst (v := bI (true)) hx hb dM_sooner_45 (by decide) ?_
    refine lv_goto (tgt := 50) hx hb dM_sooner_46 (by decide) ?_
    exact kx _ _ _ dM_sooner_50 (by unfold snM; exact congrArg bI (Eq.symm (by first | exact decide_eq_true (by omega) | exact decide_eq_false (by omega))))
  · refine lv_aload_n hx hb dM_sooner_15 rfl (lv_at hl 0 rfl) ?_
    refine va_get (D := D) (ci := 3) (v := .ref (q 3)) (C := RM) (T := TM) (N := 13) hx hb hts in_M hown hK hP 0 rfl rfl 3 (by decide) (hts _ wm_246) (fun _ h9 => h9) rfl dM_sooner_16 ?_
    refine lv_iload_n hx hb dM_sooner_19 rfl (lv_at hl 1 rfl) ?_
    refine r_iald (q0 := 3) (t0 := 0) hx hb hK hP rfl rfl (by omega) (by decide) dM_sooner_20 ?_
    refine lv_aload_n hx hb dM_sooner_21 rfl (lv_at hl 0 rfl) ?_
    refine va_get (D := D) (ci := 3) (v := .ref (q 3)) (C := RM) (T := TM) (N := 13) hx hb hts in_M hown hK hP 0 rfl rfl 3 (by decide) (hts _ wm_246) (fun _ h9 => h9) rfl dM_sooner_22 ?_
    refine lv_iload_n hx hb dM_sooner_25 rfl (lv_at hl 2 rfl) ?_
    refine r_iald (q0 := 3) (t0 := 0) hx hb hK hP rfl rfl (by omega) (by decide) dM_sooner_26 ?_
    refine r_ne (ok.stp (a)) (ok.stp (b)) (tgt := 49) hx hb dM_sooner_27 (by decide) (fun c_27 => ?_) (fun c_27 => ?_)
    · refine lv_iconst (v := bI (false)) hx hb dM_sooner_49 (by decide) ?_
      exact kx _ _ _ dM_sooner_50 (by unfold snM; exact congrArg bI (Eq.symm (by first | exact decide_eq_true (by omega) | exact decide_eq_false (by omega))))
    · refine lv_aload_n hx hb dM_sooner_30 rfl (lv_at hl 0 rfl) ?_
      refine va_get (D := D) (ci := 3) (v := .ref (q 1)) (C := RM) (T := TM) (N := 13) hx hb hts in_M hown hK hP 0 rfl rfl 1 (by decide) (hts _ wm_244) (fun _ h9 => h9) rfl dM_sooner_31 ?_
      refine lv_iload_n hx hb dM_sooner_34 rfl (lv_at hl 1 rfl) ?_
      refine r_iald (q0 := 1) (t0 := 0) hx hb hK hP rfl rfl (by omega) (by decide) dM_sooner_35 ?_
      refine lv_aload_n hx hb dM_sooner_36 rfl (lv_at hl 0 rfl) ?_
      refine va_get (D := D) (ci := 3) (v := .ref (q 1)) (C := RM) (T := TM) (N := 13) hx hb hts in_M hown hK hP 0 rfl rfl 1 (by decide) (hts _ wm_244) (fun _ h9 => h9) rfl dM_sooner_37 ?_
      refine lv_iload_n hx hb dM_sooner_40 rfl (lv_at hl 2 rfl) ?_
      refine r_iald (q0 := 1) (t0 := 0) hx hb hK hP rfl rfl (by omega) (by decide) dM_sooner_41 ?_
      refine r_le (ok.by_ (a)) (ok.by_ (b)) (tgt := 49) hx hb dM_sooner_42 (by decide) (fun c_42 => ?_) (fun c_42 => ?_)
      · refine lv_iconst (v := bI (false)) hx hb dM_sooner_49 (by decide) ?_
        exact kx _ _ _ dM_sooner_50 (by unfold snM; exact congrArg bI (Eq.symm (by first | exact decide_eq_true (by omega) | exact decide_eq_false (by omega))))
      · refine lv_iconst (v := bI (true)) hx hb dM_sooner_45 (by decide) ?_
        refine lv_goto (tgt := 50) hx hb dM_sooner_46 (by decide) ?_
        exact kx _ _ _ dM_sooner_50 (by unfold snM; exact congrArg bI (Eq.symm (by first | exact decide_eq_true (by omega) | exact decide_eq_false (by omega))))

def rmM_first : Room := { frames := 1, cells := 0, slots := 0, locals := 22 }
set_option maxHeartbeats 4000000 in
set_option maxRecDepth 100000 in
theorem kM_first {l : Launch} (D : va_G) (cc : Nat → ClassId) (q : Nat → Nat) (x : MS) (r a b : Nat) (hr : r < 3) (ha : a ≤ 100) (hb0 : b ≤ 100) (ok : okM x) : Met l yM_first wsM_first rmM_first (va_Pc [.ref (q 0), .int (nI (r)), .int (sI (a)), .int (sI (b))] (fun U => va_P D vwCl (wM cc q x) U.heap ∧ EN D cc U)) (QcRead (sI (fstM x r a b x.nn))) 0 0 (fun _ => False) := by
  refine rd_met RM [.ref (q 0), .int (nI (r)), .int (sI (a)), .int (sI (b))] _ _ (by decide) rfl rfl (Nat.le_of_ble_eq_true rfl) (vp_nar_int _) ?_
  intro p e s m args below meth c Q S hB kx ls hl
  obtain ⟨hx, hb, hml, hown, hts⟩ := id S
  obtain ⟨hP, hE⟩ := hB
  have hK := hE.1
  have hts := hE.ts args
  have S : CallFix p m c cM_first 7 s args wAll RM := ⟨hx, hb, hml, hown, hts⟩
  have hn := ok.n
  have hl : lv_has ls 7 [(0, .ref (q 0)), (1, .int (nI (r))), (2, .int (sI (a))), (3, .int (sI (b)))] := hl
  have L6 : ∀ (n : Nat) (o : Nat) (v : Nat)  (ls : Array Slot) (h1 : o ≤ x.nn) (h2 : x.nn - o < n) (h3 : v = fstM x r a b o), lv_has ls 7 [(0, .ref (q 0)), (1, .int (nI (r))), (2, .int (sI (a))), (3, .int (sI (b))), (4, .int (sI (v))), (5, .int (nI (o)))] → W p l e rmM_first s m args below meth c s.heap [] 0 0 Q (F0 m 6 ls []) := by
    intro n
    induction n with
    | zero => intro o v ls h1 h2 h3 hl; exact absurd h2 (Nat.not_lt_zero _)
    | succ n ih =>
      intro o v ls h1 h2 h3 hl
      have hv : v ≤ o := h3 ▸ fstM_le x r a b o
      have J65 : ∀ (f : Bool)  (ls : Array Slot) (ho : o < x.nn) (hf : f = fitM x r a b o), lv_has ls 7 [(0, .ref (q 0)), (1, .int (nI (r))), (2, .int (sI (a))), (3, .int (sI (b))), (4, .int (sI (v))), (5, .int (nI (o)))] → W p l e rmM_first s m args below meth c s.heap [] 0 0 Q (F0 m 65 ls [.int (bI (f))]) := by
        intro f ls ho hf hl
        refine lv_istore (lv' := [(6, .int (bI (f))), (0, .ref (q 0)), (1, .int (nI (r))), (2, .int (sI (a))), (3, .int (sI (b))), (4, .int (sI (v))), (5, .int (nI (o)))]) hx hb dM_first_65 hl (by decide) rfl (fun ls hl => ?_)
        refine lv_iload hx hb dM_first_67 (lv_at hl 0 rfl) ?_
        refine r_eqB (tgt := 93) hx hb dM_first_69 (by decide) (fun c_69 => ?_) (fun c_69 => ?_)
        · refine lv_iload hx hb dM_first_93 (lv_at hl 5 rfl) ?_
          refine lv_istore (lv' := [(4, .int (sI (v))), (6, .int (bI (f))), (0, .ref (q 0)), (1, .int (nI (r))), (2, .int (sI (a))), (3, .int (sI (b))), (5, .int (nI (o)))]) hx hb dM_first_95 hl (by decide) rfl (fun ls hl => ?_)
          refine lv_iinc (v := nI (o + 1)) (lv' := [(5, .int (nI (o + 1))), (4, .int (sI (v))), (6, .int (bI (f))), (0, .ref (q 0)), (1, .int (nI (r))), (2, .int (sI (a))), (3, .int (sI (b)))]) hx hb dM_first_97 hl (k := 6) rfl (nI_1 _) (by decide) rfl (fun ls hl => ?_)
          refine lv_goto (tgt := 6) hx hb dM_first_100 (by decide) ?_
          exact ih  (o + 1) (v)  ls (by omega) (by omega) (by first | rfl | (rw [fstM_t (x := x) (r := r) (a := a) (b := b) (n := o) (by rw [← hf]; exact c_69) (Or.inl (by rw [← h3]; exact c_74))]; done) | (rw [fstM_t (x := x) (r := r) (a := a) (b := b) (n := o) (by rw [← hf]; exact c_69) (Or.inr (by rw [← h3]; exact c_85))]; done) | (rw [fstM_f1 (x := x) (r := r) (a := a) (b := b) (n := o) (by rw [← hf]; exact c_69)]; exact h3) | (rw [fstM_f2 (x := x) (r := r) (a := a) (b := b) (n := o) (by rw [← h3]; exact c_74) (by rw [← h3]; exact c_85)]; exact h3)) (lv_sub hl [3, 4, 5, 6, 1, 0] rfl)
        · refine lv_iload hx hb dM_first_72 (lv_at hl 5 rfl) ?_
          refine r_ltS (by omega) (tgt := 88) hx hb dM_first_74 (by decide) (fun c_74 => ?_) (fun c_74 => ?_)
          · refine lv_iload hx hb dM_first_88 (lv_at hl 6 rfl) ?_
            refine lv_goto (tgt := 95) hx hb dM_first_90 (by decide) ?_
            refine r_top (y := sI (o + 1)) ((sI_s _).symm) ?_
            refine lv_istore (lv' := [(4, .int (sI (o + 1))), (6, .int (bI (f))), (0, .ref (q 0)), (1, .int (nI (r))), (2, .int (sI (a))), (3, .int (sI (b))), (5, .int (nI (o)))]) hx hb dM_first_95 hl (by decide) rfl (fun ls hl => ?_)
            refine lv_iinc (v := nI (o + 1)) (lv' := [(5, .int (nI (o + 1))), (4, .int (sI (o + 1))), (6, .int (bI (f))), (0, .ref (q 0)), (1, .int (nI (r))), (2, .int (sI (a))), (3, .int (sI (b)))]) hx hb dM_first_97 hl (k := 6) rfl (nI_1 _) (by decide) rfl (fun ls hl => ?_)
            refine lv_goto (tgt := 6) hx hb dM_first_100 (by decide) ?_
            exact ih  (o + 1) (o + 1)  ls (by omega) (by omega) (by first | rfl | (rw [fstM_t (x := x) (r := r) (a := a) (b := b) (n := o) (by rw [← hf]; exact c_69) (Or.inl (by rw [← h3]; exact c_74))]; done) | (rw [fstM_t (x := x) (r := r) (a := a) (b := b) (n := o) (by rw [← hf]; exact c_69) (Or.inr (by rw [← h3]; exact c_85))]; done) | (rw [fstM_f1 (x := x) (r := r) (a := a) (b := b) (n := o) (by rw [← hf]; exact c_69)]; exact h3) | (rw [fstM_f2 (x := x) (r := r) (a := a) (b := b) (n := o) (by rw [← h3]; exact c_74) (by rw [← h3]; exact c_85)]; exact h3)) (lv_sub hl [3, 4, 5, 6, 1, 0] rfl)
          · refine lv_aload_n hx hb dM_first_77 rfl (lv_at hl 1 rfl) ?_
            refine lv_iload hx hb dM_first_78 (lv_at hl 6 rfl) ?_
            refine lv_iload hx hb dM_first_80 (lv_at hl 5 rfl) ?_
            refine r_top (y := nI (v - 1)) (sI_p c_74) ?_
            refine W.callR (W.runV (As := [.int (nI (o)), .int (nI (v - 1))]) (rest := []) S (kM_sooner D cc q x (o) (v - 1) (by omega) (by omega) ok) (cwV 2 hts (gd_V wm_288 wm_289 wm_383 wm_4 wm_290) rfl rfl rfl (by decide +kernel) ⟨Nat.le_of_ble_eq_true rfl, Nat.le_of_ble_eq_true rfl⟩) (rd_preV (q0 := 0) hP hE rfl rfl) rfl rfl hl.1 rfl (lv_room (Nat.le_of_ble_eq_true rfl)) dM_first_82 ⟨Nat.le_of_ble_eq_true rfl, Nat.le_of_ble_eq_true rfl⟩) ?_
            refine W.eq (g2 := F0 m 85 ls [.int (bI (snM x (o) (v - 1)))]) rfl ?_
            refine r_eqB (tgt := 93) hx hb dM_first_85 (by decide) (fun c_85 => ?_) (fun c_85 => ?_)
            · refine lv_iload hx hb dM_first_93 (lv_at hl 5 rfl) ?_
              refine lv_istore (lv' := [(4, .int (sI (v))), (6, .int (bI (f))), (0, .ref (q 0)), (1, .int (nI (r))), (2, .int (sI (a))), (3, .int (sI (b))), (5, .int (nI (o)))]) hx hb dM_first_95 hl (by decide) rfl (fun ls hl => ?_)
              refine lv_iinc (v := nI (o + 1)) (lv' := [(5, .int (nI (o + 1))), (4, .int (sI (v))), (6, .int (bI (f))), (0, .ref (q 0)), (1, .int (nI (r))), (2, .int (sI (a))), (3, .int (sI (b)))]) hx hb dM_first_97 hl (k := 6) rfl (nI_1 _) (by decide) rfl (fun ls hl => ?_)
              refine lv_goto (tgt := 6) hx hb dM_first_100 (by decide) ?_
              exact ih  (o + 1) (v)  ls (by omega) (by omega) (by first | rfl | (rw [fstM_t (x := x) (r := r) (a := a) (b := b) (n := o) (by rw [← hf]; exact c_69) (Or.inl (by rw [← h3]; exact c_74))]; done) | (rw [fstM_t (x := x) (r := r) (a := a) (b := b) (n := o) (by rw [← hf]; exact c_69) (Or.inr (by rw [← h3]; exact c_85))]; done) | (rw [fstM_f1 (x := x) (r := r) (a := a) (b := b) (n := o) (by rw [← hf]; exact c_69)]; exact h3) | (rw [fstM_f2 (x := x) (r := r) (a := a) (b := b) (n := o) (by rw [← h3]; exact c_74) (by rw [← h3]; exact c_85)]; exact h3)) (lv_sub hl [3, 4, 5, 6, 1, 0] rfl)
            · refine lv_iload hx hb dM_first_88 (lv_at hl 6 rfl) ?_
              refine lv_goto (tgt := 95) hx hb dM_first_90 (by decide) ?_
              refine r_top (y := sI (o + 1)) ((sI_s _).symm) ?_
              refine lv_istore (lv' := [(4, .int (sI (o + 1))), (6, .int (bI (f))), (0, .ref (q 0)), (1, .int (nI (r))), (2, .int (sI (a))), (3, .int (sI (b))), (5, .int (nI (o)))]) hx hb dM_first_95 hl (by decide) rfl (fun ls hl => ?_)
              refine lv_iinc (v := nI (o + 1)) (lv' := [(5, .int (nI (o + 1))), (4, .int (sI (o + 1))), (6, .int (bI (f))), (0, .ref (q 0)), (1, .int (nI (r))), (2, .int (sI (a))), (3, .int (sI (b)))]) hx hb dM_first_97 hl (k := 6) rfl (nI_1 _) (by decide) rfl (fun ls hl => ?_)
              refine lv_goto (tgt := 6) hx hb dM_first_100 (by decide) ?_
              exact ih  (o + 1) (o + 1)  ls (by omega) (by omega) (by first | rfl | (rw [fstM_t (x := x) (r := r) (a := a) (b := b) (n := o) (by rw [← hf]; exact c_69) (Or.inl (by rw [← h3]; exact c_74))]; done) | (rw [fstM_t (x := x) (r := r) (a := a) (b := b) (n := o) (by rw [← hf]; exact c_69) (Or.inr (by rw [← h3]; exact c_85))]; done) | (rw [fstM_f1 (x := x) (r := r) (a := a) (b := b) (n := o) (by rw [← hf]; exact c_69)]; exact h3) | (rw [fstM_f2 (x := x) (r := r) (a := a) (b := b) (n := o) (by rw [← h3]; exact c_74) (by rw [← h3]; exact c_85)]; exact h3)) (lv_sub hl [3, 4, 5, 6, 1, 0] rfl)
      refine lv_iload hx hb dM_first_6 (lv_at hl 5 rfl) ?_
      refine lv_aload_n hx hb dM_first_8 rfl (lv_at hl 0 rfl) ?_
      refine va_get (D := D) (ci := 3) (v := .int (nI (x.nn))) (C := RM) (T := TM) (N := 13) hx hb hts in_M hown hK hP 0 rfl rfl 0 (by decide) (hts _ wm_243) (fun _ h9 => h9) rfl dM_first_9 ?_
      refine r_ge (by omega) (Nat.lt_of_le_of_lt ok.n (by decide)) (tgt := 103) hx hb dM_first_12 (by decide) (fun c_12 => ?_) (fun c_12 => ?_)
      · refine lv_iload hx hb dM_first_103 (lv_at hl 4 rfl) ?_
        exact kx _ _ _ dM_first_105 (by rw [h3, show o = x.nn by omega])
      · refine lv_aload_n hx hb dM_first_15 rfl (lv_at hl 0 rfl) ?_
        refine lv_iload_n hx hb dM_first_16 rfl (lv_at hl 1 rfl) ?_
        refine lv_iload hx hb dM_first_17 (lv_at hl 5 rfl) ?_
        refine W.callR (W.runV (As := [.int (nI (r)), .int (nI (o))]) (rest := []) S (kM_has D cc q x (r) (o) (by omega) (by omega)) (cwV 2 hts (gd_V wm_285 wm_286 wm_382 wm_4 wm_287) rfl rfl rfl (by decide +kernel) ⟨Nat.le_of_ble_eq_true rfl, Nat.le_of_ble_eq_true rfl⟩) (rd_preV (q0 := 0) hP hE rfl rfl) rfl rfl hl.1 rfl (lv_room (Nat.le_of_ble_eq_true rfl)) dM_first_19 ⟨Nat.le_of_ble_eq_true rfl, Nat.le_of_ble_eq_true rfl⟩) ?_
        refine W.eq (g2 := F0 m 22 ls [.int (bI (x.app (100 * (r) + (o))))]) rfl ?_
        refine r_eqB (tgt := 64) hx hb dM_first_22 (by decide) (fun c_22 => ?_) (fun c_22 => ?_)
        · refine lv_iconst (v := bI (false)) hx hb dM_first_64 (by decide) ?_
          exact J65  (false)  ls (by omega) (by unfold fitM; first | (simp [c_22]; done) | (simp [c_22, show ¬ 0 < x.let_ o by omega]; done) | (simp [c_22, c_43]; done) | (simp [c_22, c_32, c_43, c_47]; done) | (simp [c_22, c_32, c_43, c_57, show ¬ b = 0 by omega]; done)) (lv_sub hl [0, 1, 2, 3, 4, 5] rfl)
        · refine lv_aload_n hx hb dM_first_25 rfl (lv_at hl 0 rfl) ?_
          refine va_get (D := D) (ci := 3) (v := .ref (q 4)) (C := RM) (T := TM) (N := 13) hx hb hts in_M hown hK hP 0 rfl rfl 4 (by decide) (hts _ wm_247) (fun _ h9 => h9) rfl dM_first_26 ?_
          refine lv_iload hx hb dM_first_29 (lv_at hl 5 rfl) ?_
          refine r_iald (q0 := 4) (t0 := 0) hx hb hK hP rfl rfl (by omega) (by decide) dM_first_31 ?_
          refine r_leN (ok.let_ (o)) (tgt := 64) hx hb dM_first_32 (by decide) (fun c_32 => ?_) (fun c_32 => ?_)
          · refine lv_iconst (v := bI (false)) hx hb dM_first_64 (by decide) ?_
            exact J65  (false)  ls (by omega) (by unfold fitM; first | (simp [c_22]; done) | (simp [c_22, show ¬ 0 < x.let_ o by omega]; done) | (simp [c_22, c_43]; done) | (simp [c_22, c_32, c_43, c_47]; done) | (simp [c_22, c_32, c_43, c_57, show ¬ b = 0 by omega]; done)) (lv_sub hl [0, 1, 2, 3, 4, 5] rfl)
          · refine lv_aload_n hx hb dM_first_35 rfl (lv_at hl 0 rfl) ?_
            refine va_get (D := D) (ci := 3) (v := .ref (q 5)) (C := RM) (T := TM) (N := 13) hx hb hts in_M hown hK hP 0 rfl rfl 5 (by decide) (hts _ wm_248) (fun _ h9 => h9) rfl dM_first_36 ?_
            refine lv_iload hx hb dM_first_39 (lv_at hl 5 rfl) ?_
            refine r_iald (q0 := 5) (t0 := 0) hx hb hK hP rfl rfl (by omega) (by decide) dM_first_41 ?_
            refine lv_iload_n hx hb dM_first_42 rfl (lv_at hl 2 rfl) ?_
            refine r_neS (ok.oth (o)) (by omega) (tgt := 64) hx hb dM_first_43 (by decide) (fun c_43 => ?_) (fun c_43 => ?_)
            · refine lv_iconst (v := bI (false)) hx hb dM_first_64 (by decide) ?_
              exact J65  (false)  ls (by omega) (by unfold fitM; first | (simp [c_22]; done) | (simp [c_22, show ¬ 0 < x.let_ o by omega]; done) | (simp [c_22, c_43]; done) | (simp [c_22, c_32, c_43, c_47]; done) | (simp [c_22, c_32, c_43, c_57, show ¬ b = 0 by omega]; done)) (lv_sub hl [0, 1, 2, 3, 4, 5] rfl)
            · refine lv_iload_n hx hb dM_first_46 rfl (lv_at hl 3 rfl) ?_
              refine r_ltS (by omega) (tgt := 60) hx hb dM_first_47 (by decide) (fun c_47 => ?_) (fun c_47 => ?_)
              · refine lv_iconst (v := bI (true)) hx hb dM_first_60 (by decide) ?_
                refine lv_goto (tgt := 65) hx hb dM_first_61 (by decide) ?_
                exact J65  (true)  ls (by omega) (by unfold fitM; first | (simp [c_22]; done) | (simp [c_22, show ¬ 0 < x.let_ o by omega]; done) | (simp [c_22, c_43]; done) | (simp [c_22, c_32, c_43, c_47]; done) | (simp [c_22, c_32, c_43, c_57, show ¬ b = 0 by omega]; done)) (lv_sub hl [0, 1, 2, 3, 4, 5] rfl)
              · refine lv_aload_n hx hb dM_first_50 rfl (lv_at hl 0 rfl) ?_
                refine lv_iload_n hx hb dM_first_51 rfl (lv_at hl 3 rfl) ?_
                refine r_top (y := nI (b - 1)) (sI_p c_47) ?_
                refine lv_iload hx hb dM_first_52 (lv_at hl 5 rfl) ?_
                refine W.callR (W.runV (As := [.int (nI (b - 1)), .int (nI (o))]) (rest := []) S (kM_sooner D cc q x (b - 1) (o) (by omega) (by omega) ok) (cwV 2 hts (gd_V wm_288 wm_289 wm_383 wm_4 wm_290) rfl rfl rfl (by decide +kernel) ⟨Nat.le_of_ble_eq_true rfl, Nat.le_of_ble_eq_true rfl⟩) (rd_preV (q0 := 0) hP hE rfl rfl) rfl rfl hl.1 rfl (lv_room (Nat.le_of_ble_eq_true rfl)) dM_first_54 ⟨Nat.le_of_ble_eq_true rfl, Nat.le_of_ble_eq_true rfl⟩) ?_
                refine W.eq (g2 := F0 m 57 ls [.int (bI (snM x (b - 1) (o)))]) rfl ?_
                refine r_eqB (tgt := 64) hx hb dM_first_57 (by decide) (fun c_57 => ?_) (fun c_57 => ?_)
                · refine lv_iconst (v := bI (false)) hx hb dM_first_64 (by decide) ?_
                  exact J65  (false)  ls (by omega) (by unfold fitM; first | (simp [c_22]; done) | (simp [c_22, show ¬ 0 < x.let_ o by omega]; done) | (simp [c_22, c_43]; done) | (simp [c_22, c_32, c_43, c_47]; done) | (simp [c_22, c_32, c_43, c_57, show ¬ b = 0 by omega]; done)) (lv_sub hl [0, 1, 2, 3, 4, 5] rfl)
                · refine lv_iconst (v := bI (true)) hx hb dM_first_60 (by decide) ?_
                  refine lv_goto (tgt := 65) hx hb dM_first_61 (by decide) ?_
                  exact J65  (true)  ls (by omega) (by unfold fitM; first | (simp [c_22]; done) | (simp [c_22, show ¬ 0 < x.let_ o by omega]; done) | (simp [c_22, c_43]; done) | (simp [c_22, c_32, c_43, c_47]; done) | (simp [c_22, c_32, c_43, c_57, show ¬ b = 0 by omega]; done)) (lv_sub hl [0, 1, 2, 3, 4, 5] rfl)
  refine lv_iconst (v := sI (0)) hx hb dM_first_0 (by decide) ?_
  refine lv_istore (lv' := [(4, .int (sI (0))), (0, .ref (q 0)), (1, .int (nI (r))), (2, .int (sI (a))), (3, .int (sI (b)))]) hx hb dM_first_1 hl (by decide) rfl (fun ls hl => ?_)
  refine lv_iconst (v := nI (0)) hx hb dM_first_3 (by decide) ?_
  refine lv_istore (lv' := [(5, .int (nI (0))), (4, .int (sI (0))), (0, .ref (q 0)), (1, .int (nI (r))), (2, .int (sI (a))), (3, .int (sI (b)))]) hx hb dM_first_4 hl (by decide) rfl (fun ls hl => ?_)
  exact L6 (x.nn + 1) (0) (0)  ls (by omega) (by omega) (by first | rfl | (rw [fstM_t (x := x) (r := r) (a := a) (b := b) (n := o) (by rw [← hf]; exact c_69) (Or.inl (by rw [← h3]; exact c_74))]; done) | (rw [fstM_t (x := x) (r := r) (a := a) (b := b) (n := o) (by rw [← hf]; exact c_69) (Or.inr (by rw [← h3]; exact c_85))]; done) | (rw [fstM_f1 (x := x) (r := r) (a := a) (b := b) (n := o) (by rw [← hf]; exact c_69)]; exact h3) | (rw [fstM_f2 (x := x) (r := r) (a := a) (b := b) (n := o) (by rw [← h3]; exact c_74) (by rw [← h3]; exact c_85)]; exact h3)) (lv_sub hl [2, 3, 4, 5, 1, 0] rfl)

def rmM_erased : Room := { frames := 1, cells := 0, slots := 0, locals := 22 }
set_option maxHeartbeats 4000000 in
set_option maxRecDepth 100000 in
theorem kM_erased {l : Launch} (D : va_G) (cc : Nat → ClassId) (q : Nat → Nat) (x : MS) (r f : Nat) (hr : r < 3) (hf : f < 100) (ok : okM x) : Met l yM_erased wsM_erased rmM_erased (va_Pc [.ref (q 0), .int (nI (r)), .int (nI (f))] (fun U => va_P D vwCl (wM cc q x) U.heap ∧ EN D cc U)) (QcRead (bI (ersM x r f x.nn))) 0 0 (fun _ => False) := by
  refine rd_met RM [.ref (q 0), .int (nI (r)), .int (nI (f))] _ _ (by decide) rfl rfl (Nat.le_of_ble_eq_true rfl) (bI_z _) ?_
  intro p e s m args below meth c Q S hB kx ls hl
  obtain ⟨hx, hb, hml, hown, hts⟩ := id S
  obtain ⟨hP, hE⟩ := hB
  have hK := hE.1
  have hts := hE.ts args
  have S : CallFix p m c cM_erased 5 s args wAll RM := ⟨hx, hb, hml, hown, hts⟩
  have hn := ok.n
  have hl : lv_has ls 5 [(0, .ref (q 0)), (1, .int (nI (r))), (2, .int (nI (f)))] := hl
  have L5 : ∀ (n : Nat) (o : Nat) (z : Bool)  (ls : Array Slot) (h1 : o ≤ x.nn) (h2 : x.nn - o < n) (h3 : z = ersM x r f o), lv_has ls 5 [(0, .ref (q 0)), (1, .int (nI (r))), (2, .int (nI (f))), (3, .int (bI (z))), (4, .int (nI (o)))] → W p l e rmM_erased s m args below meth c s.heap [] 0 0 Q (F0 m 5 ls []) := by
    intro n
    induction n with
    | zero => intro o z ls h1 h2 h3 hl; exact absurd h2 (Nat.not_lt_zero _)
    | succ n ih =>
      intro o z ls h1 h2 h3 hl
      refine lv_iload hx hb dM_erased_5 (lv_at hl 4 rfl) ?_
      refine lv_aload_n hx hb dM_erased_7 rfl (lv_at hl 0 rfl) ?_
      refine va_get (D := D) (ci := 3) (v := .int (nI (x.nn))) (C := RM) (T := TM) (N := 13) hx hb hts in_M hown hK hP 0 rfl rfl 0 (by decide) (hts _ wm_243) (fun _ h9 => h9) rfl dM_erased_8 ?_
      refine r_ge (by omega) (Nat.lt_of_le_of_lt ok.n (by decide)) (tgt := 61) hx hb dM_erased_11 (by decide) (fun c_11 => ?_) (fun c_11 => ?_)
      · refine lv_iload_n hx hb dM_erased_61 rfl (lv_at hl 3 rfl) ?_
        exact kx _ _ _ dM_erased_62 (by rw [h3, show o = x.nn by omega])
      · refine lv_iload_n hx hb dM_erased_14 rfl (lv_at hl 3 rfl) ?_
        refine r_neB (tgt := 49) hx hb dM_erased_15 (by decide) (fun c_15 => ?_) (fun c_15 => ?_)
        · refine lv_iconst (v := bI (true)) hx hb dM_erased_49 (by decide) ?_
          refine lv_goto (tgt := 54) hx hb dM_erased_50 (by decide) ?_
          refine lv_istore_n (lv' := [(3, .int (bI (true))), (0, .ref (q 0)), (1, .int (nI (r))), (2, .int (nI (f))), (4, .int (nI (o)))]) hx hb dM_erased_54 rfl hl (by decide) rfl (fun ls hl => ?_)
          refine lv_iinc (v := nI (o + 1)) (lv' := [(4, .int (nI (o + 1))), (3, .int (bI (true))), (0, .ref (q 0)), (1, .int (nI (r))), (2, .int (nI (f)))]) hx hb dM_erased_55 hl (k := 4) rfl (nI_1 _) (by decide) rfl (fun ls hl => ?_)
          refine lv_goto (tgt := 5) hx hb dM_erased_58 (by decide) ?_
          exact ih  (o + 1) (true)  ls (by omega) (by omega) (by first | rfl | (rw [ersM_s, ← h3]; first | (simp [c_15]; done) | (simp [c_15, c_25]; done) | (simp [c_15, c_25, c_36]; done) | (simp [c_15, c_25, c_36, c_46]; done))) (lv_sub hl [2, 3, 4, 1, 0] rfl)
        · refine lv_aload_n hx hb dM_erased_18 rfl (lv_at hl 0 rfl) ?_
          refine va_get (D := D) (ci := 3) (v := .ref (q 4)) (C := RM) (T := TM) (N := 13) hx hb hts in_M hown hK hP 0 rfl rfl 4 (by decide) (hts _ wm_247) (fun _ h9 => h9) rfl dM_erased_19 ?_
          refine lv_iload hx hb dM_erased_22 (lv_at hl 4 rfl) ?_
          refine r_iald (q0 := 4) (t0 := 0) hx hb hK hP rfl rfl (by omega) (by decide) dM_erased_24 ?_
          refine r_neN (ok.let_ (o)) (tgt := 53) hx hb dM_erased_25 (by decide) (fun c_25 => ?_) (fun c_25 => ?_)
          · refine lv_iconst (v := bI (false)) hx hb dM_erased_53 (by decide) ?_
            refine lv_istore_n (lv' := [(3, .int (bI (false))), (0, .ref (q 0)), (1, .int (nI (r))), (2, .int (nI (f))), (4, .int (nI (o)))]) hx hb dM_erased_54 rfl hl (by decide) rfl (fun ls hl => ?_)
            refine lv_iinc (v := nI (o + 1)) (lv' := [(4, .int (nI (o + 1))), (3, .int (bI (false))), (0, .ref (q 0)), (1, .int (nI (r))), (2, .int (nI (f)))]) hx hb dM_erased_55 hl (k := 4) rfl (nI_1 _) (by decide) rfl (fun ls hl => ?_)
            refine lv_goto (tgt := 5) hx hb dM_erased_58 (by decide) ?_
            exact ih  (o + 1) (false)  ls (by omega) (by omega) (by first | rfl | (rw [ersM_s, ← h3]; first | (simp [c_15]; done) | (simp [c_15, c_25]; done) | (simp [c_15, c_25, c_36]; done) | (simp [c_15, c_25, c_36, c_46]; done))) (lv_sub hl [2, 3, 4, 1, 0] rfl)
          · refine lv_aload_n hx hb dM_erased_28 rfl (lv_at hl 0 rfl) ?_
            refine va_get (D := D) (ci := 3) (v := .ref (q 5)) (C := RM) (T := TM) (N := 13) hx hb hts in_M hown hK hP 0 rfl rfl 5 (by decide) (hts _ wm_248) (fun _ h9 => h9) rfl dM_erased_29 ?_
            refine lv_iload hx hb dM_erased_32 (lv_at hl 4 rfl) ?_
            refine r_iald (q0 := 5) (t0 := 0) hx hb hK hP rfl rfl (by omega) (by decide) dM_erased_34 ?_
            refine lv_iload_n hx hb dM_erased_35 rfl (lv_at hl 2 rfl) ?_
            refine r_top (y := sI (f + 1)) (sI_s _).symm ?_
            refine r_neS (ok.oth (o)) (by omega) (tgt := 53) hx hb dM_erased_36 (by decide) (fun c_36 => ?_) (fun c_36 => ?_)
            · refine lv_iconst (v := bI (false)) hx hb dM_erased_53 (by decide) ?_
              refine lv_istore_n (lv' := [(3, .int (bI (false))), (0, .ref (q 0)), (1, .int (nI (r))), (2, .int (nI (f))), (4, .int (nI (o)))]) hx hb dM_erased_54 rfl hl (by decide) rfl (fun ls hl => ?_)
              refine lv_iinc (v := nI (o + 1)) (lv' := [(4, .int (nI (o + 1))), (3, .int (bI (false))), (0, .ref (q 0)), (1, .int (nI (r))), (2, .int (nI (f)))]) hx hb dM_erased_55 hl (k := 4) rfl (nI_1 _) (by decide) rfl (fun ls hl => ?_)
              refine lv_goto (tgt := 5) hx hb dM_erased_58 (by decide) ?_
              exact ih  (o + 1) (false)  ls (by omega) (by omega) (by first | rfl | (rw [ersM_s, ← h3]; first | (simp [c_15]; done) | (simp [c_15, c_25]; done) | (simp [c_15, c_25, c_36]; done) | (simp [c_15, c_25, c_36, c_46]; done))) (lv_sub hl [2, 3, 4, 1, 0] rfl)
            · refine lv_aload_n hx hb dM_erased_39 rfl (lv_at hl 0 rfl) ?_
              refine lv_iload_n hx hb dM_erased_40 rfl (lv_at hl 1 rfl) ?_
              refine lv_iload hx hb dM_erased_41 (lv_at hl 4 rfl) ?_
              refine W.callR (W.runV (As := [.int (nI (r)), .int (nI (o))]) (rest := []) S (kM_has D cc q x (r) (o) (by omega) (by omega)) (cwV 2 hts (gd_V wm_285 wm_286 wm_382 wm_4 wm_287) rfl rfl rfl (by decide +kernel) ⟨Nat.le_of_ble_eq_true rfl, Nat.le_of_ble_eq_true rfl⟩) (rd_preV (q0 := 0) hP hE rfl rfl) rfl rfl hl.1 rfl (lv_room (Nat.le_of_ble_eq_true rfl)) dM_erased_43 ⟨Nat.le_of_ble_eq_true rfl, Nat.le_of_ble_eq_true rfl⟩) ?_
              refine W.eq (g2 := F0 m 46 ls [.int (bI (x.app (100 * (r) + (o))))]) rfl ?_
              refine r_eqB (tgt := 53) hx hb dM_erased_46 (by decide) (fun c_46 => ?_) (fun c_46 => ?_)
              · refine lv_iconst (v := bI (false)) hx hb dM_erased_53 (by decide) ?_
                refine lv_istore_n (lv' := [(3, .int (bI (false))), (0, .ref (q 0)), (1, .int (nI (r))), (2, .int (nI (f))), (4, .int (nI (o)))]) hx hb dM_erased_54 rfl hl (by decide) rfl (fun ls hl => ?_)
                refine lv_iinc (v := nI (o + 1)) (lv' := [(4, .int (nI (o + 1))), (3, .int (bI (false))), (0, .ref (q 0)), (1, .int (nI (r))), (2, .int (nI (f)))]) hx hb dM_erased_55 hl (k := 4) rfl (nI_1 _) (by decide) rfl (fun ls hl => ?_)
                refine lv_goto (tgt := 5) hx hb dM_erased_58 (by decide) ?_
                exact ih  (o + 1) (false)  ls (by omega) (by omega) (by first | rfl | (rw [ersM_s, ← h3]; first | (simp [c_15]; done) | (simp [c_15, c_25]; done) | (simp [c_15, c_25, c_36]; done) | (simp [c_15, c_25, c_36, c_46]; done))) (lv_sub hl [2, 3, 4, 1, 0] rfl)
              · refine lv_iconst (v := bI (true)) hx hb dM_erased_49 (by decide) ?_
                refine lv_goto (tgt := 54) hx hb dM_erased_50 (by decide) ?_
                refine lv_istore_n (lv' := [(3, .int (bI (true))), (0, .ref (q 0)), (1, .int (nI (r))), (2, .int (nI (f))), (4, .int (nI (o)))]) hx hb dM_erased_54 rfl hl (by decide) rfl (fun ls hl => ?_)
                refine lv_iinc (v := nI (o + 1)) (lv' := [(4, .int (nI (o + 1))), (3, .int (bI (true))), (0, .ref (q 0)), (1, .int (nI (r))), (2, .int (nI (f)))]) hx hb dM_erased_55 hl (k := 4) rfl (nI_1 _) (by decide) rfl (fun ls hl => ?_)
                refine lv_goto (tgt := 5) hx hb dM_erased_58 (by decide) ?_
                exact ih  (o + 1) (true)  ls (by omega) (by omega) (by first | rfl | (rw [ersM_s, ← h3]; first | (simp [c_15]; done) | (simp [c_15, c_25]; done) | (simp [c_15, c_25, c_36]; done) | (simp [c_15, c_25, c_36, c_46]; done))) (lv_sub hl [2, 3, 4, 1, 0] rfl)
  refine lv_iconst (v := bI (false)) hx hb dM_erased_0 (by decide) ?_
  refine lv_istore_n (lv' := [(3, .int (bI (false))), (0, .ref (q 0)), (1, .int (nI (r))), (2, .int (nI (f)))]) hx hb dM_erased_1 rfl hl (by decide) rfl (fun ls hl => ?_)
  refine lv_iconst (v := nI (0)) hx hb dM_erased_2 (by decide) ?_
  refine lv_istore (lv' := [(4, .int (nI (0))), (3, .int (bI (false))), (0, .ref (q 0)), (1, .int (nI (r))), (2, .int (nI (f)))]) hx hb dM_erased_3 hl (by decide) rfl (fun ls hl => ?_)
  exact L5 (x.nn + 1) (0) (false)  ls (by omega) (by omega) (by first | rfl | (rw [ersM_s, ← h3]; first | (simp [c_15]; done) | (simp [c_15, c_25]; done) | (simp [c_15, c_25, c_36]; done) | (simp [c_15, c_25, c_36, c_46]; done))) (lv_sub hl [2, 3, 4, 1, 0] rfl)

def rmM_next : Room := { frames := 2, cells := 0, slots := 0, locals := 48 }
set_option maxHeartbeats 4000000 in
set_option maxRecDepth 100000 in
theorem kM_next {l : Launch} (D : va_G) (cc : Nat → ClassId) (q : Nat → Nat) (x : MS) (r f : Nat) (hr : r < 3) (hf : f ≤ x.nn) (hpar : ∀ k, k < x.nn → x.oth k ≤ k) (ok : okM x) : Met l yM_next wsM_next rmM_next (va_Pc [.ref (q 0), .int (nI (r)), .int (sI (f))] (fun U => va_P D vwCl (wM cc q x) U.heap ∧ EN D cc U)) (QcRead (sI (nxtM x r f))) 0 0 (fun _ => False) := by
  refine rd_met RM [.ref (q 0), .int (nI (r)), .int (sI (f))] _ _ (by decide) rfl rfl (Nat.le_of_ble_eq_true rfl) (vp_nar_int _) ?_
  intro p e s m args below meth c Q S hB kx ls hl
  obtain ⟨hx, hb, hml, hown, hts⟩ := id S
  obtain ⟨hP, hE⟩ := hB
  have hK := hE.1
  have hts := hE.ts args
  have S : CallFix p m c cM_next 5 s args wAll RM := ⟨hx, hb, hml, hown, hts⟩
  have hn := ok.n
  have hl : lv_has ls 5 [(0, .ref (q 0)), (1, .int (nI (r))), (2, .int (sI (f)))] := hl
  have L11 : ∀ (n : Nat) (v : Nat) (a : Nat)  (ls : Array Slot) (h0 : v ≤ 100) (h1 : a ≤ x.nn) (h2 : a < n) (h3 : (v ≠ 0 ∧ v = nxtM x r f) ∨ (v = 0 ∧ ∃ k, a ≤ k ∧ upw (parM x) (fun a b => fstM x r a b x.nn) k a = nxtM x r f)), lv_has ls 5 [(0, .ref (q 0)), (1, .int (nI (r))), (2, .int (sI (f))), (3, .int (sI (v))), (4, .int (sI (a)))] → W p l e rmM_next s m args below meth c s.heap [] 0 0 Q (F0 m 11 ls []) := by
    intro n
    induction n with
    | zero => intro v a ls h0 h1 h2 h3 hl; exact absurd h2 (Nat.not_lt_zero _)
    | succ n ih =>
      intro v a ls h0 h1 h2 h3 hl
      refine lv_iload_n hx hb dM_next_11 rfl (lv_at hl 3 rfl) ?_
      refine r_geS (by omega) (tgt := 47) hx hb dM_next_12 (by decide) (fun c_12 => ?_) (fun c_12 => ?_)
      · refine lv_iload_n hx hb dM_next_47 rfl (lv_at hl 3 rfl) ?_
        exact kx _ _ _ dM_next_48 (by first | rw [nx_ret h3 c_12] | rw [nx_end h3 c_12 c_17])
      · refine lv_iload hx hb dM_next_15 (lv_at hl 4 rfl) ?_
        refine r_ltS (by omega) (tgt := 47) hx hb dM_next_17 (by decide) (fun c_17 => ?_) (fun c_17 => ?_)
        · refine lv_iload_n hx hb dM_next_47 rfl (lv_at hl 3 rfl) ?_
          exact kx _ _ _ dM_next_48 (by first | rw [nx_ret h3 c_12] | rw [nx_end h3 c_12 c_17])
        · refine lv_aload_n hx hb dM_next_20 rfl (lv_at hl 0 rfl) ?_
          refine lv_iload_n hx hb dM_next_21 rfl (lv_at hl 1 rfl) ?_
          refine lv_aload_n hx hb dM_next_22 rfl (lv_at hl 0 rfl) ?_
          refine va_get (D := D) (ci := 3) (v := .ref (q 5)) (C := RM) (T := TM) (N := 13) hx hb hts in_M hown hK hP 0 rfl rfl 5 (by decide) (hts _ wm_248) (fun _ h9 => h9) rfl dM_next_23 ?_
          refine lv_iload hx hb dM_next_26 (lv_at hl 4 rfl) ?_
          refine r_top (y := nI (a - 1)) (sI_p c_17) ?_
          refine r_iald (q0 := 5) (t0 := 0) hx hb hK hP rfl rfl (by omega) (by decide) dM_next_28 ?_
          refine lv_iload hx hb dM_next_29 (lv_at hl 4 rfl) ?_
          refine W.callR (W.runV (As := [.int (nI (r)), .int (sI (x.oth (a - 1))), .int (sI (a))]) (rest := []) S (kM_first D cc q x (r) (x.oth (a - 1)) (a) (by omega) (ok.oth100 _) (by omega) ok) (cwV 3 hts (gd_V wm_282 wm_283 wm_381 wm_4 wm_284) rfl rfl rfl (by decide +kernel) ⟨Nat.le_of_ble_eq_true rfl, Nat.le_of_ble_eq_true rfl⟩) (rd_preV (q0 := 0) hP hE rfl rfl) rfl rfl hl.1 rfl (lv_room (Nat.le_of_ble_eq_true rfl)) dM_next_31 ⟨Nat.le_of_ble_eq_true rfl, Nat.le_of_ble_eq_true rfl⟩) ?_
          refine W.eq (g2 := F0 m 34 ls [.int (sI (fstM x (r) (x.oth (a - 1)) (a) x.nn))]) rfl ?_
          refine lv_istore_n (lv' := [(3, .int (sI (fstM x (r) (x.oth (a - 1)) (a) x.nn))), (0, .ref (q 0)), (1, .int (nI (r))), (2, .int (sI (f))), (4, .int (sI (a)))]) hx hb dM_next_34 rfl hl (by decide) rfl (fun ls hl => ?_)
          refine lv_aload_n hx hb dM_next_35 rfl (lv_at hl 1 rfl) ?_
          refine va_get (D := D) (ci := 3) (v := .ref (q 5)) (C := RM) (T := TM) (N := 13) hx hb hts in_M hown hK hP 0 rfl rfl 5 (by decide) (hts _ wm_248) (fun _ h9 => h9) rfl dM_next_36 ?_
          refine lv_iload hx hb dM_next_39 (lv_at hl 4 rfl) ?_
          refine r_top (y := nI (a - 1)) (sI_p c_17) ?_
          refine r_iald (q0 := 5) (t0 := 0) hx hb hK hP rfl rfl (by omega) (by decide) dM_next_41 ?_
          refine lv_istore (lv' := [(4, .int (sI (x.oth (a - 1)))), (3, .int (sI (fstM x (r) (x.oth (a - 1)) (a) x.nn))), (0, .ref (q 0)), (1, .int (nI (r))), (2, .int (sI (f)))]) hx hb dM_next_42 hl (by decide) rfl (fun ls hl => ?_)
          refine lv_goto (tgt := 11) hx hb dM_next_44 (by decide) ?_
          exact ih  (fstM x (r) (x.oth (a - 1)) (a) x.nn) (x.oth (a - 1))  ls (Nat.le_trans (fstM_le _ _ _ _ _) ok.n) (by first | exact hf | (have := hpar (a - 1) (by omega); omega)) (by first | (exact Nat.lt_succ_self f) | (have := hpar (a - 1) (by omega); omega)) (by first | exact nx_step (parM_p c_17) h3 c_12 c_17 (by have := hpar (a - 1) (by omega); omega) | exact nx_start (Nat.le_trans hf ok.n)) (lv_sub hl [2, 3, 4, 1, 0] rfl)
  refine lv_aload_n hx hb dM_next_0 rfl (lv_at hl 0 rfl) ?_
  refine lv_iload_n hx hb dM_next_1 rfl (lv_at hl 1 rfl) ?_
  refine lv_iload_n hx hb dM_next_2 rfl (lv_at hl 2 rfl) ?_
  refine lv_iconst (v := sI (0)) hx hb dM_next_3 (by decide) ?_
  refine W.callR (W.runV (As := [.int (nI (r)), .int (sI (f)), .int (sI (0))]) (rest := []) S (kM_first D cc q x (r) (f) (0) (by omega) (by omega) (by omega) ok) (cwV 3 hts (gd_V wm_282 wm_283 wm_381 wm_4 wm_284) rfl rfl rfl (by decide +kernel) ⟨Nat.le_of_ble_eq_true rfl, Nat.le_of_ble_eq_true rfl⟩) (rd_preV (q0 := 0) hP hE rfl rfl) rfl rfl hl.1 rfl (lv_room (Nat.le_of_ble_eq_true rfl)) dM_next_4 ⟨Nat.le_of_ble_eq_true rfl, Nat.le_of_ble_eq_true rfl⟩) ?_
  refine W.eq (g2 := F0 m 7 ls [.int (sI (fstM x (r) (f) (0) x.nn))]) rfl ?_
  refine lv_istore_n (lv' := [(3, .int (sI (fstM x (r) (f) (0) x.nn))), (0, .ref (q 0)), (1, .int (nI (r))), (2, .int (sI (f)))]) hx hb dM_next_7 rfl hl (by decide) rfl (fun ls hl => ?_)
  refine lv_iload_n hx hb dM_next_8 rfl (lv_at hl 3 rfl) ?_
  refine lv_istore (lv' := [(4, .int (sI (f))), (3, .int (sI (fstM x (r) (f) (0) x.nn))), (0, .ref (q 0)), (1, .int (nI (r))), (2, .int (sI (f)))]) hx hb dM_next_9 hl (by decide) rfl (fun ls hl => ?_)
  exact L11 (f + 1) (fstM x (r) (f) (0) x.nn) (f)  ls (Nat.le_trans (fstM_le _ _ _ _ _) ok.n) (by first | exact hf | (have := hpar (a - 1) (by omega); omega)) (by first | (exact Nat.lt_succ_self f) | (have := hpar (a - 1) (by omega); omega)) (by first | exact nx_step (parM_p c_17) h3 c_12 c_17 (by have := hpar (a - 1) (by omega); omega) | exact nx_start (Nat.le_trans hf ok.n)) (lv_sub hl [2, 3, 4, 1, 0] rfl)
end
section
def rmM_ready : Room := { frames := 2, cells := 0, slots := 0, locals := 46 }
set_option maxHeartbeats 4000000 in
set_option maxRecDepth 100000 in
theorem kM_ready {l : Launch} (D : va_G) (cc : Nat → ClassId) (q : Nat → Nat) (x : MS) (r o : Nat) (hr : r < 3) (ho : o < 100) (hl1 : 1 ≤ x.line o) (ok : okM x) : Met l yM_ready wsM_ready rmM_ready (va_Pc [.ref (q 0), .int (nI (r)), .int (nI (o))] (fun U => va_P D vwCl (wM cc q x) U.heap ∧ EN D cc U)) (QcRead (bI (rdyM x r o 3))) 0 0 (fun _ => False) := by
  refine rd_met RM [.ref (q 0), .int (nI (r)), .int (nI (o))] _ _ (by decide) rfl rfl (Nat.le_of_ble_eq_true rfl) (bI_z _) ?_
  intro p e s m args below meth c Q S hB kx ls hl
  obtain ⟨hx, hb, hml, hown, hts⟩ := id S
  obtain ⟨hP, hE⟩ := hB
  have hK := hE.1
  have hts := hE.ts args
  have S : CallFix p m c cM_ready 5 s args wAll RM := ⟨hx, hb, hml, hown, hts⟩
  have hn := ok.n
  have hlo := ok.line o
  have hl : lv_has ls 5 [(0, .ref (q 0)), (1, .int (nI (r))), (2, .int (nI (o)))] := hl
  have L31 : ∀ (n : Nat) (j : Nat) (z : Bool)  (ls : Array Slot) (h1 : j ≤ 3) (h2 : 3 - j < n) (h3 : z = rdyM x r o j), lv_has ls 5 [(0, .ref (q 0)), (1, .int (nI (r))), (2, .int (nI (o))), (3, .int (bI (z))), (4, .int (nI (j)))] → W p l e rmM_ready s m args below meth c s.heap [] 0 0 Q (F0 m 31 ls []) := by
    intro n
    induction n with
    | zero => intro j z ls h1 h2 h3 hl; exact absurd h2 (Nat.not_lt_zero _)
    | succ n ih =>
      intro j z ls h1 h2 h3 hl
      refine lv_iload hx hb dM_ready_31 (lv_at hl 4 rfl) ?_
      refine lv_iconst (v := nI (3)) hx hb dM_ready_33 (by decide) ?_
      refine r_ge (by omega) (by decide) (tgt := 85) hx hb dM_ready_34 (by decide) (fun c_34 => ?_) (fun c_34 => ?_)
      · refine lv_iload_n hx hb dM_ready_85 rfl (lv_at hl 3 rfl) ?_
        exact kx _ _ _ dM_ready_86 (by rw [h3, show j = 3 by omega])
      · refine lv_iload_n hx hb dM_ready_37 rfl (lv_at hl 3 rfl) ?_
        refine r_eqB (tgt := 77) hx hb dM_ready_38 (by decide) (fun c_38 => ?_) (fun c_38 => ?_)
        · refine lv_iconst (v := bI (false)) hx hb dM_ready_77 (by decide) ?_
          refine lv_istore_n (lv' := [(3, .int (bI (false))), (0, .ref (q 0)), (1, .int (nI (r))), (2, .int (nI (o))), (4, .int (nI (j)))]) hx hb dM_ready_78 rfl hl (by decide) rfl (fun ls hl => ?_)
          refine lv_iinc (v := nI (j + 1)) (lv' := [(4, .int (nI (j + 1))), (3, .int (bI (false))), (0, .ref (q 0)), (1, .int (nI (r))), (2, .int (nI (o)))]) hx hb dM_ready_79 hl (k := 4) rfl (nI_1 _) (by decide) rfl (fun ls hl => ?_)
          refine lv_goto (tgt := 31) hx hb dM_ready_82 (by decide) ?_
          exact ih  (j + 1) (false)  ls (by omega) (by omega) (by first | (exact (decide_eq_true c_19).symm) | (exact (decide_eq_false c_19).symm) | (rw [rdyM_s, ← h3]; first | (simp [c_38]; done) | (simp [c_38, c_49]; done) | (simp [c_38, c_49, c_70]; done) | (simp [c_38, c_49, show ¬ x.clk (3 * o + j) ≤ cntM x r j x.nn by omega]; done))) (lv_sub hl [2, 3, 4, 1, 0] rfl)
        · refine lv_iload hx hb dM_ready_41 (lv_at hl 4 rfl) ?_
          refine lv_aload_n hx hb dM_ready_43 rfl (lv_at hl 0 rfl) ?_
          refine va_get (D := D) (ci := 3) (v := .ref (q 1)) (C := RM) (T := TM) (N := 13) hx hb hts in_M hown hK hP 0 rfl rfl 1 (by decide) (hts _ wm_244) (fun _ h9 => h9) rfl dM_ready_44 ?_
          refine lv_iload_n hx hb dM_ready_47 rfl (lv_at hl 2 rfl) ?_
          refine r_iald (q0 := 1) (t0 := 0) hx hb hK hP rfl rfl (by omega) (by decide) dM_ready_48 ?_
          refine r_eq (by omega) (ok.by_ (o)) (tgt := 73) hx hb dM_ready_49 (by decide) (fun c_49 => ?_) (fun c_49 => ?_)
          · refine lv_iconst (v := bI (true)) hx hb dM_ready_73 (by decide) ?_
            refine lv_goto (tgt := 78) hx hb dM_ready_74 (by decide) ?_
            refine lv_istore_n (lv' := [(3, .int (bI (true))), (0, .ref (q 0)), (1, .int (nI (r))), (2, .int (nI (o))), (4, .int (nI (j)))]) hx hb dM_ready_78 rfl hl (by decide) rfl (fun ls hl => ?_)
            refine lv_iinc (v := nI (j + 1)) (lv' := [(4, .int (nI (j + 1))), (3, .int (bI (true))), (0, .ref (q 0)), (1, .int (nI (r))), (2, .int (nI (o)))]) hx hb dM_ready_79 hl (k := 4) rfl (nI_1 _) (by decide) rfl (fun ls hl => ?_)
            refine lv_goto (tgt := 31) hx hb dM_ready_82 (by decide) ?_
            exact ih  (j + 1) (true)  ls (by omega) (by omega) (by first | (exact (decide_eq_true c_19).symm) | (exact (decide_eq_false c_19).symm) | (rw [rdyM_s, ← h3]; first | (simp [c_38]; done) | (simp [c_38, c_49]; done) | (simp [c_38, c_49, c_70]; done) | (simp [c_38, c_49, show ¬ x.clk (3 * o + j) ≤ cntM x r j x.nn by omega]; done))) (lv_sub hl [2, 3, 4, 1, 0] rfl)
          · refine lv_aload_n hx hb dM_ready_52 rfl (lv_at hl 0 rfl) ?_
            refine lv_iload_n hx hb dM_ready_53 rfl (lv_at hl 1 rfl) ?_
            refine lv_iload hx hb dM_ready_54 (lv_at hl 4 rfl) ?_
            refine W.callR (W.runV (As := [.int (nI (r)), .int (nI (j))]) (rest := []) S (kM_count D cc q x (r) (j) (by omega) (by omega) ok) (cwV 2 hts (gd_V wm_297 wm_298 wm_386 wm_4 wm_299) rfl rfl rfl (by decide +kernel) ⟨Nat.le_of_ble_eq_true rfl, Nat.le_of_ble_eq_true rfl⟩) (rd_preV (q0 := 0) hP hE rfl rfl) rfl rfl hl.1 rfl (lv_room (Nat.le_of_ble_eq_true rfl)) dM_ready_56 ⟨Nat.le_of_ble_eq_true rfl, Nat.le_of_ble_eq_true rfl⟩) ?_
            refine W.eq (g2 := F0 m 59 ls [.int (nI (cntM x (r) (j) x.nn))]) rfl ?_
            refine lv_aload_n hx hb dM_ready_59 rfl (lv_at hl 0 rfl) ?_
            refine va_get (D := D) (ci := 3) (v := .ref (q 6)) (C := RM) (T := TM) (N := 13) hx hb hts in_M hown hK hP 0 rfl rfl 6 (by decide) (hts _ wm_249) (fun _ h9 => h9) rfl dM_ready_60 ?_
            refine lv_iconst (v := nI (3)) hx hb dM_ready_63 (by decide) ?_
            refine lv_iload_n hx hb dM_ready_64 rfl (lv_at hl 2 rfl) ?_
            refine r_mul hx hb dM_ready_65 ?_
            refine lv_iload hx hb dM_ready_66 (lv_at hl 4 rfl) ?_
            refine r_add hx hb dM_ready_68 ?_
            refine r_iald (q0 := 6) (t0 := 0) hx hb hK hP rfl rfl (by omega) (by decide) dM_ready_69 ?_
            refine r_lt (Nat.lt_of_le_of_lt (Nat.le_trans (cntM_le _ _ _ _) ok.n) (by decide)) (ok.clk ((3 * o) + j)) (tgt := 77) hx hb dM_ready_70 (by decide) (fun c_70 => ?_) (fun c_70 => ?_)
            · refine lv_iconst (v := bI (false)) hx hb dM_ready_77 (by decide) ?_
              refine lv_istore_n (lv' := [(3, .int (bI (false))), (0, .ref (q 0)), (1, .int (nI (r))), (2, .int (nI (o))), (4, .int (nI (j)))]) hx hb dM_ready_78 rfl hl (by decide) rfl (fun ls hl => ?_)
              refine lv_iinc (v := nI (j + 1)) (lv' := [(4, .int (nI (j + 1))), (3, .int (bI (false))), (0, .ref (q 0)), (1, .int (nI (r))), (2, .int (nI (o)))]) hx hb dM_ready_79 hl (k := 4) rfl (nI_1 _) (by decide) rfl (fun ls hl => ?_)
              refine lv_goto (tgt := 31) hx hb dM_ready_82 (by decide) ?_
              exact ih  (j + 1) (false)  ls (by omega) (by omega) (by first | (exact (decide_eq_true c_19).symm) | (exact (decide_eq_false c_19).symm) | (rw [rdyM_s, ← h3]; first | (simp [c_38]; done) | (simp [c_38, c_49]; done) | (simp [c_38, c_49, c_70]; done) | (simp [c_38, c_49, show ¬ x.clk (3 * o + j) ≤ cntM x r j x.nn by omega]; done))) (lv_sub hl [2, 3, 4, 1, 0] rfl)
            · refine lv_iconst (v := bI (true)) hx hb dM_ready_73 (by decide) ?_
              refine lv_goto (tgt := 78) hx hb dM_ready_74 (by decide) ?_
              refine lv_istore_n (lv' := [(3, .int (bI (true))), (0, .ref (q 0)), (1, .int (nI (r))), (2, .int (nI (o))), (4, .int (nI (j)))]) hx hb dM_ready_78 rfl hl (by decide) rfl (fun ls hl => ?_)
              refine lv_iinc (v := nI (j + 1)) (lv' := [(4, .int (nI (j + 1))), (3, .int (bI (true))), (0, .ref (q 0)), (1, .int (nI (r))), (2, .int (nI (o)))]) hx hb dM_ready_79 hl (k := 4) rfl (nI_1 _) (by decide) rfl (fun ls hl => ?_)
              refine lv_goto (tgt := 31) hx hb dM_ready_82 (by decide) ?_
              exact ih  (j + 1) (true)  ls (by omega) (by omega) (by first | (exact (decide_eq_true c_19).symm) | (exact (decide_eq_false c_19).symm) | (rw [rdyM_s, ← h3]; first | (simp [c_38]; done) | (simp [c_38, c_49]; done) | (simp [c_38, c_49, c_70]; done) | (simp [c_38, c_49, show ¬ x.clk (3 * o + j) ≤ cntM x r j x.nn by omega]; done))) (lv_sub hl [2, 3, 4, 1, 0] rfl)
  refine lv_aload_n hx hb dM_ready_0 rfl (lv_at hl 0 rfl) ?_
  refine lv_iload_n hx hb dM_ready_1 rfl (lv_at hl 1 rfl) ?_
  refine lv_aload_n hx hb dM_ready_2 rfl (lv_at hl 0 rfl) ?_
  refine va_get (D := D) (ci := 3) (v := .ref (q 1)) (C := RM) (T := TM) (N := 13) hx hb hts in_M hown hK hP 0 rfl rfl 1 (by decide) (hts _ wm_244) (fun _ h9 => h9) rfl dM_ready_3 ?_
  refine lv_iload_n hx hb dM_ready_6 rfl (lv_at hl 2 rfl) ?_
  refine r_iald (q0 := 1) (t0 := 0) hx hb hK hP rfl rfl (by omega) (by decide) dM_ready_7 ?_
  refine W.callR (W.runV (As := [.int (nI (r)), .int (nI (x.by_ o))]) (rest := []) S (kM_count D cc q x (r) (x.by_ o) (by omega) (ok.by3 _) ok) (cwV 2 hts (gd_V wm_297 wm_298 wm_386 wm_4 wm_299) rfl rfl rfl (by decide +kernel) ⟨Nat.le_of_ble_eq_true rfl, Nat.le_of_ble_eq_true rfl⟩) (rd_preV (q0 := 0) hP hE rfl rfl) rfl rfl hl.1 rfl (lv_room (Nat.le_of_ble_eq_true rfl)) dM_ready_8 ⟨Nat.le_of_ble_eq_true rfl, Nat.le_of_ble_eq_true rfl⟩) ?_
  refine W.eq (g2 := F0 m 11 ls [.int (nI (cntM x (r) (x.by_ o) x.nn))]) rfl ?_
  refine lv_aload_n hx hb dM_ready_11 rfl (lv_at hl 0 rfl) ?_
  refine va_get (D := D) (ci := 3) (v := .ref (q 2)) (C := RM) (T := TM) (N := 13) hx hb hts in_M hown hK hP 0 rfl rfl 2 (by decide) (hts _ wm_245) (fun _ h9 => h9) rfl dM_ready_12 ?_
  refine lv_iload_n hx hb dM_ready_15 rfl (lv_at hl 2 rfl) ?_
  refine r_iald (q0 := 2) (t0 := 0) hx hb hK hP rfl rfl (by omega) (by decide) dM_ready_16 ?_
  refine lv_iconst (v := nI (1)) hx hb dM_ready_17 (by decide) ?_
  refine r_sub (hl1) hx hb dM_ready_18 ?_
  refine r_ne (Nat.lt_of_le_of_lt (Nat.le_trans (cntM_le _ _ _ _) ok.n) (by decide)) (by omega) (tgt := 26) hx hb dM_ready_19 (by decide) (fun c_19 => ?_) (fun c_19 => ?_)
  · refine lv_iconst (v := bI (false)) hx hb dM_ready_26 (by decide) ?_
    refine lv_istore_n (lv' := [(3, .int (bI (false))), (0, .ref (q 0)), (1, .int (nI (r))), (2, .int (nI (o)))]) hx hb dM_ready_27 rfl hl (by decide) rfl (fun ls hl => ?_)
    refine lv_iconst (v := nI (0)) hx hb dM_ready_28 (by decide) ?_
    refine lv_istore (lv' := [(4, .int (nI (0))), (3, .int (bI (false))), (0, .ref (q 0)), (1, .int (nI (r))), (2, .int (nI (o)))]) hx hb dM_ready_29 hl (by decide) rfl (fun ls hl => ?_)
    exact L31 (4) (0) (false)  ls (by omega) (by omega) (by first | (exact (decide_eq_true c_19).symm) | (exact (decide_eq_false c_19).symm) | (rw [rdyM_s, ← h3]; first | (simp [c_38]; done) | (simp [c_38, c_49]; done) | (simp [c_38, c_49, c_70]; done) | (simp [c_38, c_49, show ¬ x.clk (3 * o + j) ≤ cntM x r j x.nn by omega]; done))) (lv_sub hl [2, 3, 4, 1, 0] rfl)
  · refine lv_iconst (v := bI (true)) hx hb dM_ready_22 (by decide) ?_
    refine lv_goto (tgt := 27) hx hb dM_ready_23 (by decide) ?_
    refine lv_istore_n (lv' := [(3, .int (bI (true))), (0, .ref (q 0)), (1, .int (nI (r))), (2, .int (nI (o)))]) hx hb dM_ready_27 rfl hl (by decide) rfl (fun ls hl => ?_)
    refine lv_iconst (v := nI (0)) hx hb dM_ready_28 (by decide) ?_
    refine lv_istore (lv' := [(4, .int (nI (0))), (3, .int (bI (true))), (0, .ref (q 0)), (1, .int (nI (r))), (2, .int (nI (o)))]) hx hb dM_ready_29 hl (by decide) rfl (fun ls hl => ?_)
    exact L31 (4) (0) (true)  ls (by omega) (by omega) (by first | (exact (decide_eq_true c_19).symm) | (exact (decide_eq_false c_19).symm) | (rw [rdyM_s, ← h3]; first | (simp [c_38]; done) | (simp [c_38, c_49]; done) | (simp [c_38, c_49, c_70]; done) | (simp [c_38, c_49, show ¬ x.clk (3 * o + j) ≤ cntM x r j x.nn by omega]; done))) (lv_sub hl [2, 3, 4, 1, 0] rfl)

def rmM_known : Room := { frames := 2, cells := 0, slots := 0, locals := 46 }
set_option maxHeartbeats 4000000 in
set_option maxRecDepth 100000 in
theorem kM_known {l : Launch} (D : va_G) (cc : Nat → ClassId) (q : Nat → Nat) (x : MS) (r i j : Nat) (hr : r < 3) (hi : i < 3) (hj : j < 3) (ok : okM x) : Met l yM_known wsM_known rmM_known (va_Pc [.ref (q 0), .int (nI (r)), .int (nI (i)), .int (nI (j))] (fun U => va_P D vwCl (wM cc q x) U.heap ∧ EN D cc U)) (QcRead (nI (knM x r i j))) 0 0 (fun _ => False) := by
  refine rd_met RM [.ref (q 0), .int (nI (r)), .int (nI (i)), .int (nI (j))] _ _ (by decide) rfl rfl (Nat.le_of_ble_eq_true rfl) (vp_nar_int _) ?_
  intro p e s m args below meth c Q S hB kx ls hl
  obtain ⟨hx, hb, hml, hown, hts⟩ := id S
  obtain ⟨hP, hE⟩ := hB
  have hK := hE.1
  have hts := hE.ts args
  have S : CallFix p m c cM_known 7 s args wAll RM := ⟨hx, hb, hml, hown, hts⟩
  have hn := ok.n
  have hl : lv_has ls 7 [(0, .ref (q 0)), (1, .int (nI (r))), (2, .int (nI (i))), (3, .int (nI (j)))] := hl
  have L44 : ∀ (n : Nat) (v : Nat) (w : Nat) (o : Nat)  (ls : Array Slot) (h0 : i ≠ r) (h1 : o ≤ x.nn) (h2 : x.nn - o < n) (h3 : v = (knwM x r i j o).2) (h4 : w = (knwM x r i j o).1), lv_has ls 7 [(0, .ref (q 0)), (1, .int (nI (r))), (2, .int (nI (i))), (3, .int (nI (j))), (4, .int (nI (v))), (5, .int (nI (w))), (6, .int (nI (o)))] → W p l e rmM_known s m args below meth c s.heap [] 0 0 Q (F0 m 44 ls []) := by
    intro n
    induction n with
    | zero => intro v w o ls h0 h1 h2 h3 h4 hl; exact absurd h2 (Nat.not_lt_zero _)
    | succ n ih =>
      intro v w o ls h0 h1 h2 h3 h4 hl
      have hw := knwM_lt ok r i j o
      rw [← h4] at hw
      refine lv_iload hx hb dM_known_44 (lv_at hl 6 rfl) ?_
      refine lv_aload_n hx hb dM_known_46 rfl (lv_at hl 0 rfl) ?_
      refine va_get (D := D) (ci := 3) (v := .int (nI (x.nn))) (C := RM) (T := TM) (N := 13) hx hb hts in_M hown hK hP 0 rfl rfl 0 (by decide) (hts _ wm_243) (fun _ h9 => h9) rfl dM_known_47 ?_
      refine r_ge (by omega) (Nat.lt_of_le_of_lt ok.n (by decide)) (tgt := 114) hx hb dM_known_50 (by decide) (fun c_50 => ?_) (fun c_50 => ?_)
      · refine lv_iload hx hb dM_known_114 (lv_at hl 4 rfl) ?_
        exact kx _ _ _ dM_known_116 (by unfold knM; rw [if_neg h0, h3, show o = x.nn by omega])
      · refine lv_aload_n hx hb dM_known_53 rfl (lv_at hl 0 rfl) ?_
        refine va_get (D := D) (ci := 3) (v := .ref (q 1)) (C := RM) (T := TM) (N := 13) hx hb hts in_M hown hK hP 0 rfl rfl 1 (by decide) (hts _ wm_244) (fun _ h9 => h9) rfl dM_known_54 ?_
        refine lv_iload hx hb dM_known_57 (lv_at hl 6 rfl) ?_
        refine r_iald (q0 := 1) (t0 := 0) hx hb hK hP rfl rfl (by omega) (by decide) dM_known_59 ?_
        refine lv_iload_n hx hb dM_known_60 rfl (lv_at hl 2 rfl) ?_
        refine r_ne (ok.by_ (o)) (by omega) (tgt := 108) hx hb dM_known_61 (by decide) (fun c_61 => ?_) (fun c_61 => ?_)
        · refine lv_iinc (v := nI (o + 1)) (lv' := [(6, .int (nI (o + 1))), (0, .ref (q 0)), (1, .int (nI (r))), (2, .int (nI (i))), (3, .int (nI (j))), (4, .int (nI (v))), (5, .int (nI (w)))]) hx hb dM_known_108 hl (k := 6) rfl (nI_1 _) (by decide) rfl (fun ls hl => ?_)
          refine lv_goto (tgt := 44) hx hb dM_known_111 (by decide) ?_
          exact ih  (v) (w) (o + 1)  ls (by first | exact h0 | exact c_25) (by omega) (by omega) (by first | rfl | (rw [knwM_t (x := x) (r := r) (i := i) (j := j) (n := o) c_61 c_71 (by rw [← h4]; exact c_83)]; done) | (rw [knwM_f c_61]; exact h3) | (rw [knwM_f2 c_71]; exact h3) | (rw [knwM_f3 (x := x) (r := r) (i := i) (j := j) (n := o) (by rw [← h4]; exact c_83)]; exact h3)) (by first | rfl | (rw [knwM_t (x := x) (r := r) (i := i) (j := j) (n := o) c_61 c_71 (by rw [← h4]; exact c_83)]; done) | (rw [knwM_f c_61]; exact h4) | (rw [knwM_f2 c_71]; exact h4) | (rw [knwM_f3 (x := x) (r := r) (i := i) (j := j) (n := o) (by rw [← h4]; exact c_83)]; exact h4)) (lv_sub hl [1, 2, 3, 4, 5, 6, 0] rfl)
        · refine lv_aload_n hx hb dM_known_64 rfl (lv_at hl 0 rfl) ?_
          refine lv_iload_n hx hb dM_known_65 rfl (lv_at hl 1 rfl) ?_
          refine lv_iload hx hb dM_known_66 (lv_at hl 6 rfl) ?_
          refine W.callR (W.runV (As := [.int (nI (r)), .int (nI (o))]) (rest := []) S (kM_has D cc q x (r) (o) (by omega) (by omega)) (cwV 2 hts (gd_V wm_285 wm_286 wm_382 wm_4 wm_287) rfl rfl rfl (by decide +kernel) ⟨Nat.le_of_ble_eq_true rfl, Nat.le_of_ble_eq_true rfl⟩) (rd_preV (q0 := 0) hP hE rfl rfl) rfl rfl hl.1 rfl (lv_room (Nat.le_of_ble_eq_true rfl)) dM_known_68 ⟨Nat.le_of_ble_eq_true rfl, Nat.le_of_ble_eq_true rfl⟩) ?_
          refine W.eq (g2 := F0 m 71 ls [.int (bI (x.app (100 * (r) + (o))))]) rfl ?_
          refine r_eqB (tgt := 108) hx hb dM_known_71 (by decide) (fun c_71 => ?_) (fun c_71 => ?_)
          · refine lv_iinc (v := nI (o + 1)) (lv' := [(6, .int (nI (o + 1))), (0, .ref (q 0)), (1, .int (nI (r))), (2, .int (nI (i))), (3, .int (nI (j))), (4, .int (nI (v))), (5, .int (nI (w)))]) hx hb dM_known_108 hl (k := 6) rfl (nI_1 _) (by decide) rfl (fun ls hl => ?_)
            refine lv_goto (tgt := 44) hx hb dM_known_111 (by decide) ?_
            exact ih  (v) (w) (o + 1)  ls (by first | exact h0 | exact c_25) (by omega) (by omega) (by first | rfl | (rw [knwM_t (x := x) (r := r) (i := i) (j := j) (n := o) c_61 c_71 (by rw [← h4]; exact c_83)]; done) | (rw [knwM_f c_61]; exact h3) | (rw [knwM_f2 c_71]; exact h3) | (rw [knwM_f3 (x := x) (r := r) (i := i) (j := j) (n := o) (by rw [← h4]; exact c_83)]; exact h3)) (by first | rfl | (rw [knwM_t (x := x) (r := r) (i := i) (j := j) (n := o) c_61 c_71 (by rw [← h4]; exact c_83)]; done) | (rw [knwM_f c_61]; exact h4) | (rw [knwM_f2 c_71]; exact h4) | (rw [knwM_f3 (x := x) (r := r) (i := i) (j := j) (n := o) (by rw [← h4]; exact c_83)]; exact h4)) (lv_sub hl [1, 2, 3, 4, 5, 6, 0] rfl)
          · refine lv_aload_n hx hb dM_known_74 rfl (lv_at hl 0 rfl) ?_
            refine va_get (D := D) (ci := 3) (v := .ref (q 2)) (C := RM) (T := TM) (N := 13) hx hb hts in_M hown hK hP 0 rfl rfl 2 (by decide) (hts _ wm_245) (fun _ h9 => h9) rfl dM_known_75 ?_
            refine lv_iload hx hb dM_known_78 (lv_at hl 6 rfl) ?_
            refine r_iald (q0 := 2) (t0 := 0) hx hb hK hP rfl rfl (by omega) (by decide) dM_known_80 ?_
            refine lv_iload hx hb dM_known_81 (lv_at hl 5 rfl) ?_
            refine r_le (ok.line (o)) (by omega) (tgt := 108) hx hb dM_known_83 (by decide) (fun c_83 => ?_) (fun c_83 => ?_)
            · refine lv_iinc (v := nI (o + 1)) (lv' := [(6, .int (nI (o + 1))), (0, .ref (q 0)), (1, .int (nI (r))), (2, .int (nI (i))), (3, .int (nI (j))), (4, .int (nI (v))), (5, .int (nI (w)))]) hx hb dM_known_108 hl (k := 6) rfl (nI_1 _) (by decide) rfl (fun ls hl => ?_)
              refine lv_goto (tgt := 44) hx hb dM_known_111 (by decide) ?_
              exact ih  (v) (w) (o + 1)  ls (by first | exact h0 | exact c_25) (by omega) (by omega) (by first | rfl | (rw [knwM_t (x := x) (r := r) (i := i) (j := j) (n := o) c_61 c_71 (by rw [← h4]; exact c_83)]; done) | (rw [knwM_f c_61]; exact h3) | (rw [knwM_f2 c_71]; exact h3) | (rw [knwM_f3 (x := x) (r := r) (i := i) (j := j) (n := o) (by rw [← h4]; exact c_83)]; exact h3)) (by first | rfl | (rw [knwM_t (x := x) (r := r) (i := i) (j := j) (n := o) c_61 c_71 (by rw [← h4]; exact c_83)]; done) | (rw [knwM_f c_61]; exact h4) | (rw [knwM_f2 c_71]; exact h4) | (rw [knwM_f3 (x := x) (r := r) (i := i) (j := j) (n := o) (by rw [← h4]; exact c_83)]; exact h4)) (lv_sub hl [1, 2, 3, 4, 5, 6, 0] rfl)
            · refine lv_aload_n hx hb dM_known_86 rfl (lv_at hl 0 rfl) ?_
              refine va_get (D := D) (ci := 3) (v := .ref (q 2)) (C := RM) (T := TM) (N := 13) hx hb hts in_M hown hK hP 0 rfl rfl 2 (by decide) (hts _ wm_245) (fun _ h9 => h9) rfl dM_known_87 ?_
              refine lv_iload hx hb dM_known_90 (lv_at hl 6 rfl) ?_
              refine r_iald (q0 := 2) (t0 := 0) hx hb hK hP rfl rfl (by omega) (by decide) dM_known_92 ?_
              refine lv_istore (lv' := [(5, .int (nI (x.line o))), (0, .ref (q 0)), (1, .int (nI (r))), (2, .int (nI (i))), (3, .int (nI (j))), (4, .int (nI (v))), (6, .int (nI (o)))]) hx hb dM_known_93 hl (by decide) rfl (fun ls hl => ?_)
              refine lv_aload_n hx hb dM_known_95 rfl (lv_at hl 1 rfl) ?_
              refine va_get (D := D) (ci := 3) (v := .ref (q 6)) (C := RM) (T := TM) (N := 13) hx hb hts in_M hown hK hP 0 rfl rfl 6 (by decide) (hts _ wm_249) (fun _ h9 => h9) rfl dM_known_96 ?_
              refine lv_iconst (v := nI (3)) hx hb dM_known_99 (by decide) ?_
              refine lv_iload hx hb dM_known_100 (lv_at hl 6 rfl) ?_
              refine r_mul hx hb dM_known_102 ?_
              refine lv_iload_n hx hb dM_known_103 rfl (lv_at hl 4 rfl) ?_
              refine r_add hx hb dM_known_104 ?_
              refine r_iald (q0 := 6) (t0 := 0) hx hb hK hP rfl rfl (by omega) (by decide) dM_known_105 ?_
              refine lv_istore (lv' := [(4, .int (nI (x.clk ((3 * o) + j)))), (5, .int (nI (x.line o))), (0, .ref (q 0)), (1, .int (nI (r))), (2, .int (nI (i))), (3, .int (nI (j))), (6, .int (nI (o)))]) hx hb dM_known_106 hl (by decide) rfl (fun ls hl => ?_)
              refine lv_iinc (v := nI (o + 1)) (lv' := [(6, .int (nI (o + 1))), (4, .int (nI (x.clk ((3 * o) + j)))), (5, .int (nI (x.line o))), (0, .ref (q 0)), (1, .int (nI (r))), (2, .int (nI (i))), (3, .int (nI (j)))]) hx hb dM_known_108 hl (k := 6) rfl (nI_1 _) (by decide) rfl (fun ls hl => ?_)
              refine lv_goto (tgt := 44) hx hb dM_known_111 (by decide) ?_
              exact ih  (x.clk ((3 * o) + j)) (x.line o) (o + 1)  ls (by first | exact h0 | exact c_25) (by omega) (by omega) (by first | rfl | (rw [knwM_t (x := x) (r := r) (i := i) (j := j) (n := o) c_61 c_71 (by rw [← h4]; exact c_83)]; done) | (rw [knwM_f c_61]; exact h3) | (rw [knwM_f2 c_71]; exact h3) | (rw [knwM_f3 (x := x) (r := r) (i := i) (j := j) (n := o) (by rw [← h4]; exact c_83)]; exact h3)) (by first | rfl | (rw [knwM_t (x := x) (r := r) (i := i) (j := j) (n := o) c_61 c_71 (by rw [← h4]; exact c_83)]; done) | (rw [knwM_f c_61]; exact h4) | (rw [knwM_f2 c_71]; exact h4) | (rw [knwM_f3 (x := x) (r := r) (i := i) (j := j) (n := o) (by rw [← h4]; exact c_83)]; exact h4)) (lv_sub hl [3, 4, 5, 6, 1, 2, 0] rfl)
  refine lv_iload_n hx hb dM_known_0 rfl (lv_at hl 1 rfl) ?_
  refine W.callR (W.runS (As := [.int (nI (r))]) (rest := []) S (kM_isReplica (nI (r))) (va_cwS 1 hts (gd_S wm_273 wm_274 wm_4 wm_275) rfl rfl rfl (by decide +kernel) ⟨Nat.le_of_ble_eq_true rfl, Nat.le_of_ble_eq_true rfl⟩) preT rfl rfl hl.1 rfl (lv_room (Nat.le_of_ble_eq_true rfl)) dM_known_1 ⟨Nat.le_of_ble_eq_true rfl, Nat.le_of_ble_eq_true rfl⟩) ?_
  refine W.eq (g2 := F0 m 4 ls [.int (bI (isRep (nI (r))))]) rfl ?_
  refine r_eqB (tgt := 21) hx hb dM_known_4 (by decide) (fun c_4 => absurd c_4 (by rw [isRep_N (show r < 3 by omega)]; decide)) (fun c_4 => ?_)
  refine lv_iload_n hx hb dM_known_7 rfl (lv_at hl 2 rfl) ?_
  refine W.callR (W.runS (As := [.int (nI (i))]) (rest := []) S (kM_isReplica (nI (i))) (va_cwS 1 hts (gd_S wm_273 wm_274 wm_4 wm_275) rfl rfl rfl (by decide +kernel) ⟨Nat.le_of_ble_eq_true rfl, Nat.le_of_ble_eq_true rfl⟩) preT rfl rfl hl.1 rfl (lv_room (Nat.le_of_ble_eq_true rfl)) dM_known_8 ⟨Nat.le_of_ble_eq_true rfl, Nat.le_of_ble_eq_true rfl⟩) ?_
  refine W.eq (g2 := F0 m 11 ls [.int (bI (isRep (nI (i))))]) rfl ?_
  refine r_eqB (tgt := 21) hx hb dM_known_11 (by decide) (fun c_11 => absurd c_11 (by rw [isRep_N (show i < 3 by omega)]; decide)) (fun c_11 => ?_)
  refine lv_iload_n hx hb dM_known_14 rfl (lv_at hl 3 rfl) ?_
  refine W.callR (W.runS (As := [.int (nI (j))]) (rest := []) S (kM_isReplica (nI (j))) (va_cwS 1 hts (gd_S wm_273 wm_274 wm_4 wm_275) rfl rfl rfl (by decide +kernel) ⟨Nat.le_of_ble_eq_true rfl, Nat.le_of_ble_eq_true rfl⟩) preT rfl rfl hl.1 rfl (lv_room (Nat.le_of_ble_eq_true rfl)) dM_known_15 ⟨Nat.le_of_ble_eq_true rfl, Nat.le_of_ble_eq_true rfl⟩) ?_
  refine W.eq (g2 := F0 m 18 ls [.int (bI (isRep (nI (j))))]) rfl ?_
  refine r_neB (tgt := 23) hx hb dM_known_18 (by decide) (fun c_18 => ?_) (fun c_18 => absurd c_18 (by rw [isRep_N (show j < 3 by omega)]; decide))
  refine lv_iload_n hx hb dM_known_23 rfl (lv_at hl 2 rfl) ?_
  refine lv_iload_n hx hb dM_known_24 rfl (lv_at hl 1 rfl) ?_
  refine r_ne (by omega) (by omega) (tgt := 35) hx hb dM_known_25 (by decide) (fun c_25 => ?_) (fun c_25 => ?_)
  · refine lv_iconst (v := nI (0)) hx hb dM_known_35 (by decide) ?_
    refine lv_istore (lv' := [(4, .int (nI (0))), (0, .ref (q 0)), (1, .int (nI (r))), (2, .int (nI (i))), (3, .int (nI (j)))]) hx hb dM_known_36 hl (by decide) rfl (fun ls hl => ?_)
    refine lv_iconst (v := nI (0)) hx hb dM_known_38 (by decide) ?_
    refine lv_istore (lv' := [(5, .int (nI (0))), (4, .int (nI (0))), (0, .ref (q 0)), (1, .int (nI (r))), (2, .int (nI (i))), (3, .int (nI (j)))]) hx hb dM_known_39 hl (by decide) rfl (fun ls hl => ?_)
    refine lv_iconst (v := nI (0)) hx hb dM_known_41 (by decide) ?_
    refine lv_istore (lv' := [(6, .int (nI (0))), (5, .int (nI (0))), (4, .int (nI (0))), (0, .ref (q 0)), (1, .int (nI (r))), (2, .int (nI (i))), (3, .int (nI (j)))]) hx hb dM_known_42 hl (by decide) rfl (fun ls hl => ?_)
    exact L44 (x.nn + 1) (0) (0) (0)  ls (by first | exact h0 | exact c_25) (by omega) (by omega) (by first | rfl | (rw [knwM_t (x := x) (r := r) (i := i) (j := j) (n := o) c_61 c_71 (by rw [← h4]; exact c_83)]; done) | (rw [knwM_f c_61]; exact h3) | (rw [knwM_f2 c_71]; exact h3) | (rw [knwM_f3 (x := x) (r := r) (i := i) (j := j) (n := o) (by rw [← h4]; exact c_83)]; exact h3)) (by first | rfl | (rw [knwM_t (x := x) (r := r) (i := i) (j := j) (n := o) c_61 c_71 (by rw [← h4]; exact c_83)]; done) | (rw [knwM_f c_61]; exact h4) | (rw [knwM_f2 c_71]; exact h4) | (rw [knwM_f3 (x := x) (r := r) (i := i) (j := j) (n := o) (by rw [← h4]; exact c_83)]; exact h4)) (lv_sub hl [3, 4, 5, 6, 2, 1, 0] rfl)
  · refine lv_aload_n hx hb dM_known_28 rfl (lv_at hl 0 rfl) ?_
    refine lv_iload_n hx hb dM_known_29 rfl (lv_at hl 1 rfl) ?_
    refine lv_iload_n hx hb dM_known_30 rfl (lv_at hl 3 rfl) ?_
    refine W.callR (W.runV (As := [.int (nI (r)), .int (nI (j))]) (rest := []) S (kM_count D cc q x (r) (j) (by omega) (by omega) ok) (cwV 2 hts (gd_V wm_297 wm_298 wm_386 wm_4 wm_299) rfl rfl rfl (by decide +kernel) ⟨Nat.le_of_ble_eq_true rfl, Nat.le_of_ble_eq_true rfl⟩) (rd_preV (q0 := 0) hP hE rfl rfl) rfl rfl hl.1 rfl (lv_room (Nat.le_of_ble_eq_true rfl)) dM_known_31 ⟨Nat.le_of_ble_eq_true rfl, Nat.le_of_ble_eq_true rfl⟩) ?_
    refine W.eq (g2 := F0 m 34 ls [.int (nI (cntM x (r) (j) x.nn))]) rfl ?_
    exact kx _ _ _ dM_known_34 (by unfold knM; rw [if_pos c_25])

def rmM_stable : Room := { frames := 3, cells := 0, slots := 0, locals := 72 }
set_option maxHeartbeats 4000000 in
set_option maxRecDepth 100000 in
theorem kM_stable {l : Launch} (D : va_G) (cc : Nat → ClassId) (q : Nat → Nat) (x : MS) (r o : Nat) (hr : r < 3) (ho : o < x.nn) (ok : okM x) : Met l yM_stable wsM_stable rmM_stable (va_Pc [.ref (q 0), .int (nI (r)), .int (nI (o))] (fun U => va_P D vwCl (wM cc q x) U.heap ∧ EN D cc U)) (QcRead (bI (stbM x r o 3))) 0 0 (fun _ => False) := by
  refine rd_met RM [.ref (q 0), .int (nI (r)), .int (nI (o))] _ _ (by decide) rfl rfl (Nat.le_of_ble_eq_true rfl) (bI_z _) ?_
  intro p e s m args below meth c Q S hB kx ls hl
  obtain ⟨hx, hb, hml, hown, hts⟩ := id S
  obtain ⟨hP, hE⟩ := hB
  have hK := hE.1
  have hts := hE.ts args
  have S : CallFix p m c cM_stable 5 s args wAll RM := ⟨hx, hb, hml, hown, hts⟩
  have hn := ok.n
  have hl : lv_has ls 5 [(0, .ref (q 0)), (1, .int (nI (r))), (2, .int (nI (o)))] := hl
  have L31 : ∀ (n : Nat) (j : Nat) (z : Bool)  (ls : Array Slot) (h1 : j ≤ 3) (h2 : 3 - j < n) (h3 : z = stbM x r o j), lv_has ls 5 [(0, .ref (q 0)), (1, .int (nI (r))), (2, .int (nI (o))), (3, .int (bI (z))), (4, .int (nI (j)))] → W p l e rmM_stable s m args below meth c s.heap [] 0 0 Q (F0 m 31 ls []) := by
    intro n
    induction n with
    | zero => intro j z ls h1 h2 h3 hl; exact absurd h2 (Nat.not_lt_zero _)
    | succ n ih =>
      intro j z ls h1 h2 h3 hl
      refine lv_iload hx hb dM_stable_31 (lv_at hl 4 rfl) ?_
      refine lv_iconst (v := nI (3)) hx hb dM_stable_33 (by decide) ?_
      refine r_ge (by omega) (by decide) (tgt := 75) hx hb dM_stable_34 (by decide) (fun c_34 => ?_) (fun c_34 => ?_)
      · refine lv_iload_n hx hb dM_stable_75 rfl (lv_at hl 3 rfl) ?_
        exact kx _ _ _ dM_stable_76 (by rw [h3, show j = 3 by omega])
      · refine lv_iload_n hx hb dM_stable_37 rfl (lv_at hl 3 rfl) ?_
        refine r_eqB (tgt := 67) hx hb dM_stable_38 (by decide) (fun c_38 => ?_) (fun c_38 => ?_)
        · refine lv_iconst (v := bI (false)) hx hb dM_stable_67 (by decide) ?_
          refine lv_istore_n (lv' := [(3, .int (bI (false))), (0, .ref (q 0)), (1, .int (nI (r))), (2, .int (nI (o))), (4, .int (nI (j)))]) hx hb dM_stable_68 rfl hl (by decide) rfl (fun ls hl => ?_)
          refine lv_iinc (v := nI (j + 1)) (lv' := [(4, .int (nI (j + 1))), (3, .int (bI (false))), (0, .ref (q 0)), (1, .int (nI (r))), (2, .int (nI (o)))]) hx hb dM_stable_69 hl (k := 4) rfl (nI_1 _) (by decide) rfl (fun ls hl => ?_)
          refine lv_goto (tgt := 31) hx hb dM_stable_72 (by decide) ?_
          exact ih  (j + 1) (false)  ls (by omega) (by omega) (by first | exact c_21.symm | (rw [stbM_s, ← h3]; first | (simp [c_38]; done) | (simp [c_38, c_60]; done) | (simp [c_38, show ¬ x.line o ≤ knM x r j (x.by_ o) by omega]; done))) (lv_sub hl [2, 3, 4, 1, 0] rfl)
        · refine lv_aload_n hx hb dM_stable_41 rfl (lv_at hl 0 rfl) ?_
          refine lv_iload_n hx hb dM_stable_42 rfl (lv_at hl 1 rfl) ?_
          refine lv_iload hx hb dM_stable_43 (lv_at hl 4 rfl) ?_
          refine lv_aload_n hx hb dM_stable_45 rfl (lv_at hl 0 rfl) ?_
          refine va_get (D := D) (ci := 3) (v := .ref (q 1)) (C := RM) (T := TM) (N := 13) hx hb hts in_M hown hK hP 0 rfl rfl 1 (by decide) (hts _ wm_244) (fun _ h9 => h9) rfl dM_stable_46 ?_
          refine lv_iload_n hx hb dM_stable_49 rfl (lv_at hl 2 rfl) ?_
          refine r_iald (q0 := 1) (t0 := 0) hx hb hK hP rfl rfl (by omega) (by decide) dM_stable_50 ?_
          refine W.callR (W.runV (As := [.int (nI (r)), .int (nI (j)), .int (nI (x.by_ o))]) (rest := []) S (kM_known D cc q x (r) (j) (x.by_ o) (by omega) (by omega) (ok.by3 _) ok) (cwV 3 hts (gd_V wm_327 wm_320 wm_321 wm_4 wm_322) rfl rfl rfl (by decide +kernel) ⟨Nat.le_of_ble_eq_true rfl, Nat.le_of_ble_eq_true rfl⟩) (rd_preV (q0 := 0) hP hE rfl rfl) rfl rfl hl.1 rfl (lv_room (Nat.le_of_ble_eq_true rfl)) dM_stable_51 ⟨Nat.le_of_ble_eq_true rfl, Nat.le_of_ble_eq_true rfl⟩) ?_
          refine W.eq (g2 := F0 m 54 ls [.int (nI (knM x (r) (j) (x.by_ o)))]) rfl ?_
          refine lv_aload_n hx hb dM_stable_54 rfl (lv_at hl 0 rfl) ?_
          refine va_get (D := D) (ci := 3) (v := .ref (q 2)) (C := RM) (T := TM) (N := 13) hx hb hts in_M hown hK hP 0 rfl rfl 2 (by decide) (hts _ wm_245) (fun _ h9 => h9) rfl dM_stable_55 ?_
          refine lv_iload_n hx hb dM_stable_58 rfl (lv_at hl 2 rfl) ?_
          refine r_iald (q0 := 2) (t0 := 0) hx hb hK hP rfl rfl (by omega) (by decide) dM_stable_59 ?_
          refine r_lt (knM_lt ok _ _ _) (ok.line (o)) (tgt := 67) hx hb dM_stable_60 (by decide) (fun c_60 => ?_) (fun c_60 => ?_)
          · refine lv_iconst (v := bI (false)) hx hb dM_stable_67 (by decide) ?_
            refine lv_istore_n (lv' := [(3, .int (bI (false))), (0, .ref (q 0)), (1, .int (nI (r))), (2, .int (nI (o))), (4, .int (nI (j)))]) hx hb dM_stable_68 rfl hl (by decide) rfl (fun ls hl => ?_)
            refine lv_iinc (v := nI (j + 1)) (lv' := [(4, .int (nI (j + 1))), (3, .int (bI (false))), (0, .ref (q 0)), (1, .int (nI (r))), (2, .int (nI (o)))]) hx hb dM_stable_69 hl (k := 4) rfl (nI_1 _) (by decide) rfl (fun ls hl => ?_)
            refine lv_goto (tgt := 31) hx hb dM_stable_72 (by decide) ?_
            exact ih  (j + 1) (false)  ls (by omega) (by omega) (by first | exact c_21.symm | (rw [stbM_s, ← h3]; first | (simp [c_38]; done) | (simp [c_38, c_60]; done) | (simp [c_38, show ¬ x.line o ≤ knM x r j (x.by_ o) by omega]; done))) (lv_sub hl [2, 3, 4, 1, 0] rfl)
          · refine lv_iconst (v := bI (true)) hx hb dM_stable_63 (by decide) ?_
            refine lv_goto (tgt := 68) hx hb dM_stable_64 (by decide) ?_
            refine lv_istore_n (lv' := [(3, .int (bI (true))), (0, .ref (q 0)), (1, .int (nI (r))), (2, .int (nI (o))), (4, .int (nI (j)))]) hx hb dM_stable_68 rfl hl (by decide) rfl (fun ls hl => ?_)
            refine lv_iinc (v := nI (j + 1)) (lv' := [(4, .int (nI (j + 1))), (3, .int (bI (true))), (0, .ref (q 0)), (1, .int (nI (r))), (2, .int (nI (o)))]) hx hb dM_stable_69 hl (k := 4) rfl (nI_1 _) (by decide) rfl (fun ls hl => ?_)
            refine lv_goto (tgt := 31) hx hb dM_stable_72 (by decide) ?_
            exact ih  (j + 1) (true)  ls (by omega) (by omega) (by first | exact c_21.symm | (rw [stbM_s, ← h3]; first | (simp [c_38]; done) | (simp [c_38, c_60]; done) | (simp [c_38, show ¬ x.line o ≤ knM x r j (x.by_ o) by omega]; done))) (lv_sub hl [2, 3, 4, 1, 0] rfl)
  refine lv_iload_n hx hb dM_stable_0 rfl (lv_at hl 1 rfl) ?_
  refine W.callR (W.runS (As := [.int (nI (r))]) (rest := []) S (kM_isReplica (nI (r))) (va_cwS 1 hts (gd_S wm_273 wm_274 wm_4 wm_275) rfl rfl rfl (by decide +kernel) ⟨Nat.le_of_ble_eq_true rfl, Nat.le_of_ble_eq_true rfl⟩) preT rfl rfl hl.1 rfl (lv_room (Nat.le_of_ble_eq_true rfl)) dM_stable_1 ⟨Nat.le_of_ble_eq_true rfl, Nat.le_of_ble_eq_true rfl⟩) ?_
  refine W.eq (g2 := F0 m 4 ls [.int (bI (isRep (nI (r))))]) rfl ?_
  refine r_eqB (tgt := 24) hx hb dM_stable_4 (by decide) (fun c_4 => absurd c_4 (by rw [isRep_N (show r < 3 by omega)]; decide)) (fun c_4 => ?_)
  refine lv_aload_n hx hb dM_stable_7 rfl (lv_at hl 0 rfl) ?_
  refine lv_iload_n hx hb dM_stable_8 rfl (lv_at hl 2 rfl) ?_
  refine W.callR (W.runV (As := [.int (nI (o))]) (rest := []) S (kM_isOperation D cc q x (nI (o)) ok) (cwV 1 hts (gd_V wm_308 wm_309 wm_387 wm_4 wm_310) rfl rfl rfl (by decide +kernel) ⟨Nat.le_of_ble_eq_true rfl, Nat.le_of_ble_eq_true rfl⟩) (rd_preV (q0 := 0) hP hE rfl rfl) rfl rfl hl.1 rfl (lv_room (Nat.le_of_ble_eq_true rfl)) dM_stable_9 ⟨Nat.le_of_ble_eq_true rfl, Nat.le_of_ble_eq_true rfl⟩) ?_
  refine W.eq (g2 := F0 m 12 ls [.int (bI (isOp x.nn (nI (o))))]) rfl ?_
  refine r_eqB (tgt := 24) hx hb dM_stable_12 (by decide) (fun c_12 => absurd c_12 (by rw [isOp_N ho (by omega)]; decide)) (fun c_12 => ?_)
  refine lv_aload_n hx hb dM_stable_15 rfl (lv_at hl 0 rfl) ?_
  refine lv_iload_n hx hb dM_stable_16 rfl (lv_at hl 1 rfl) ?_
  refine lv_iload_n hx hb dM_stable_17 rfl (lv_at hl 2 rfl) ?_
  refine W.callR (W.runV (As := [.int (nI (r)), .int (nI (o))]) (rest := []) S (kM_has D cc q x (r) (o) (by omega) (by omega)) (cwV 2 hts (gd_V wm_285 wm_286 wm_382 wm_4 wm_287) rfl rfl rfl (by decide +kernel) ⟨Nat.le_of_ble_eq_true rfl, Nat.le_of_ble_eq_true rfl⟩) (rd_preV (q0 := 0) hP hE rfl rfl) rfl rfl hl.1 rfl (lv_room (Nat.le_of_ble_eq_true rfl)) dM_stable_18 ⟨Nat.le_of_ble_eq_true rfl, Nat.le_of_ble_eq_true rfl⟩) ?_
  refine W.eq (g2 := F0 m 21 ls [.int (bI (x.app (100 * (r) + (o))))]) rfl ?_
  refine r_neB (tgt := 26) hx hb dM_stable_21 (by decide) (fun c_21 => ?_) (fun c_21 => ?_)
  · refine lv_iconst (v := bI (true)) hx hb dM_stable_26 (by decide) ?_
    refine lv_istore_n (lv' := [(3, .int (bI (true))), (0, .ref (q 0)), (1, .int (nI (r))), (2, .int (nI (o)))]) hx hb dM_stable_27 rfl hl (by decide) rfl (fun ls hl => ?_)
    refine lv_iconst (v := nI (0)) hx hb dM_stable_28 (by decide) ?_
    refine lv_istore (lv' := [(4, .int (nI (0))), (3, .int (bI (true))), (0, .ref (q 0)), (1, .int (nI (r))), (2, .int (nI (o)))]) hx hb dM_stable_29 hl (by decide) rfl (fun ls hl => ?_)
    exact L31 (4) (0) (true)  ls (by omega) (by omega) (by first | exact c_21.symm | (rw [stbM_s, ← h3]; first | (simp [c_38]; done) | (simp [c_38, c_60]; done) | (simp [c_38, show ¬ x.line o ≤ knM x r j (x.by_ o) by omega]; done))) (lv_sub hl [2, 3, 4, 1, 0] rfl)
  · refine lv_iconst (v := bI (false)) hx hb dM_stable_24 (by decide) ?_
    exact kx _ _ _ dM_stable_25 (by rw [stbM_no c_21])

def rmM_idle : Room := { frames := 4, cells := 0, slots := 0, locals := 96 }
set_option maxHeartbeats 4000000 in
set_option maxRecDepth 100000 in
theorem kM_idle {l : Launch} (D : va_G) (cc : Nat → ClassId) (q : Nat → Nat) (x : MS) (r f : Nat) (hr : r < 3) (hf : f < 100) (ok : okM x) : Met l yM_idle wsM_idle rmM_idle (va_Pc [.ref (q 0), .int (nI (r)), .int (nI (f))] (fun U => va_P D vwCl (wM cc q x) U.heap ∧ EN D cc U)) (QcRead (bI (idlM x r f))) 0 0 (fun _ => False) := by
  refine rd_met RM [.ref (q 0), .int (nI (r)), .int (nI (f))] _ _ (by decide) rfl rfl (Nat.le_of_ble_eq_true rfl) (bI_z _) ?_
  intro p e s m args below meth c Q S hB kx ls hl
  obtain ⟨hx, hb, hml, hown, hts⟩ := id S
  obtain ⟨hP, hE⟩ := hB
  have hK := hE.1
  have hts := hE.ts args
  have S : CallFix p m c cM_idle 6 s args wAll RM := ⟨hx, hb, hml, hown, hts⟩
  have hn := ok.n
  have hl : lv_has ls 6 [(0, .ref (q 0)), (1, .int (nI (r))), (2, .int (nI (f)))] := hl
  have L8 : ∀ (n : Nat) (z : Bool) (w : Bool) (o : Nat)  (ls : Array Slot) (h1 : o ≤ x.nn) (h2 : x.nn - o < n) (h3 : z = ideM x r f o) (h4 : w = idrM x r f o), lv_has ls 6 [(0, .ref (q 0)), (1, .int (nI (r))), (2, .int (nI (f))), (3, .int (bI (z))), (4, .int (bI (w))), (5, .int (nI (o)))] → W p l e rmM_idle s m args below meth c s.heap [] 0 0 Q (F0 m 8 ls []) := by
    intro n
    induction n with
    | zero => intro z w o ls h1 h2 h3 h4 hl; exact absurd h2 (Nat.not_lt_zero _)
    | succ n ih =>
      intro z w o ls h1 h2 h3 h4 hl
      have J68 : ∀ (z2 : Bool)  (ls : Array Slot) (ho : o < x.nn) (g2 : x.oth o = f + 1) (g3 : x.app (100 * r + o) = true) (g1 : z2 = ideM x r f (o + 1)), lv_has ls 6 [(0, .ref (q 0)), (1, .int (nI (r))), (2, .int (nI (f))), (3, .int (bI (z2))), (4, .int (bI (w))), (5, .int (nI (o)))] → W p l e rmM_idle s m args below meth c s.heap [] 0 0 Q (F0 m 68 ls []) := by
        intro z2 ls ho g2 g3 g1 hl
        refine lv_iload hx hb dM_idle_68 (lv_at hl 4 rfl) ?_
        refine r_eqB (tgt := 97) hx hb dM_idle_70 (by decide) (fun c_70 => ?_) (fun c_70 => ?_)
        · refine lv_iconst (v := bI (false)) hx hb dM_idle_97 (by decide) ?_
          refine lv_istore (lv' := [(4, .int (bI (false))), (0, .ref (q 0)), (1, .int (nI (r))), (2, .int (nI (f))), (3, .int (bI (z2))), (5, .int (nI (o)))]) hx hb dM_idle_98 hl (by decide) rfl (fun ls hl => ?_)
          refine lv_iinc (v := nI (o + 1)) (lv' := [(5, .int (nI (o + 1))), (4, .int (bI (false))), (0, .ref (q 0)), (1, .int (nI (r))), (2, .int (nI (f))), (3, .int (bI (z2)))]) hx hb dM_idle_100 hl (k := 5) rfl (nI_1 _) (by decide) rfl (fun ls hl => ?_)
          refine lv_goto (tgt := 8) hx hb dM_idle_103 (by decide) ?_
          exact ih  (z2) (false) (o + 1)  ls (by omega) (by omega) (by first | rfl | exact g1 | (rw [ideM_s, ← h3]; first | (simp [c_25]; done) | (simp [c_25, c_35]; done))) (by first | rfl | (rw [idrM_s, ← h4]; first | (simp [c_25]; done) | (simp [c_25, c_35]; done) | (simp [c_70]; done) | (simp [c_70, g2, g3, c_80]; done) | (simp [c_70, g2, g3, c_80, c_90]; done))) (lv_sub hl [2, 3, 4, 5, 1, 0] rfl)
        · refine lv_aload_n hx hb dM_idle_73 rfl (lv_at hl 0 rfl) ?_
          refine va_get (D := D) (ci := 3) (v := .ref (q 4)) (C := RM) (T := TM) (N := 13) hx hb hts in_M hown hK hP 0 rfl rfl 4 (by decide) (hts _ wm_247) (fun _ h9 => h9) rfl dM_idle_74 ?_
          refine lv_iload hx hb dM_idle_77 (lv_at hl 5 rfl) ?_
          refine r_iald (q0 := 4) (t0 := 0) hx hb hK hP rfl rfl (by omega) (by decide) dM_idle_79 ?_
          refine r_eqN (ok.let_ (o)) (tgt := 93) hx hb dM_idle_80 (by decide) (fun c_80 => ?_) (fun c_80 => ?_)
          · refine lv_iconst (v := bI (true)) hx hb dM_idle_93 (by decide) ?_
            refine lv_goto (tgt := 98) hx hb dM_idle_94 (by decide) ?_
            refine lv_istore (lv' := [(4, .int (bI (true))), (0, .ref (q 0)), (1, .int (nI (r))), (2, .int (nI (f))), (3, .int (bI (z2))), (5, .int (nI (o)))]) hx hb dM_idle_98 hl (by decide) rfl (fun ls hl => ?_)
            refine lv_iinc (v := nI (o + 1)) (lv' := [(5, .int (nI (o + 1))), (4, .int (bI (true))), (0, .ref (q 0)), (1, .int (nI (r))), (2, .int (nI (f))), (3, .int (bI (z2)))]) hx hb dM_idle_100 hl (k := 5) rfl (nI_1 _) (by decide) rfl (fun ls hl => ?_)
            refine lv_goto (tgt := 8) hx hb dM_idle_103 (by decide) ?_
            exact ih  (z2) (true) (o + 1)  ls (by omega) (by omega) (by first | rfl | exact g1 | (rw [ideM_s, ← h3]; first | (simp [c_25]; done) | (simp [c_25, c_35]; done))) (by first | rfl | (rw [idrM_s, ← h4]; first | (simp [c_25]; done) | (simp [c_25, c_35]; done) | (simp [c_70]; done) | (simp [c_70, g2, g3, c_80]; done) | (simp [c_70, g2, g3, c_80, c_90]; done))) (lv_sub hl [2, 3, 4, 5, 1, 0] rfl)
          · refine lv_aload_n hx hb dM_idle_83 rfl (lv_at hl 0 rfl) ?_
            refine lv_iload_n hx hb dM_idle_84 rfl (lv_at hl 1 rfl) ?_
            refine lv_iload hx hb dM_idle_85 (lv_at hl 5 rfl) ?_
            refine W.callR (W.runV (As := [.int (nI (r)), .int (nI (o))]) (rest := []) S (kM_stable D cc q x (r) (o) (by omega) (by omega) ok) (cwV 2 hts (gd_V wm_338 wm_324 wm_325 wm_4 wm_326) rfl rfl rfl (by decide +kernel) ⟨Nat.le_of_ble_eq_true rfl, Nat.le_of_ble_eq_true rfl⟩) (rd_preV (q0 := 0) hP hE rfl rfl) rfl rfl hl.1 rfl (lv_room (Nat.le_of_ble_eq_true rfl)) dM_idle_87 ⟨Nat.le_of_ble_eq_true rfl, Nat.le_of_ble_eq_true rfl⟩) ?_
            refine W.eq (g2 := F0 m 90 ls [.int (bI (stbM x (r) (o) 3))]) rfl ?_
            refine r_eqB (tgt := 97) hx hb dM_idle_90 (by decide) (fun c_90 => ?_) (fun c_90 => ?_)
            · refine lv_iconst (v := bI (false)) hx hb dM_idle_97 (by decide) ?_
              refine lv_istore (lv' := [(4, .int (bI (false))), (0, .ref (q 0)), (1, .int (nI (r))), (2, .int (nI (f))), (3, .int (bI (z2))), (5, .int (nI (o)))]) hx hb dM_idle_98 hl (by decide) rfl (fun ls hl => ?_)
              refine lv_iinc (v := nI (o + 1)) (lv' := [(5, .int (nI (o + 1))), (4, .int (bI (false))), (0, .ref (q 0)), (1, .int (nI (r))), (2, .int (nI (f))), (3, .int (bI (z2)))]) hx hb dM_idle_100 hl (k := 5) rfl (nI_1 _) (by decide) rfl (fun ls hl => ?_)
              refine lv_goto (tgt := 8) hx hb dM_idle_103 (by decide) ?_
              exact ih  (z2) (false) (o + 1)  ls (by omega) (by omega) (by first | rfl | exact g1 | (rw [ideM_s, ← h3]; first | (simp [c_25]; done) | (simp [c_25, c_35]; done))) (by first | rfl | (rw [idrM_s, ← h4]; first | (simp [c_25]; done) | (simp [c_25, c_35]; done) | (simp [c_70]; done) | (simp [c_70, g2, g3, c_80]; done) | (simp [c_70, g2, g3, c_80, c_90]; done))) (lv_sub hl [2, 3, 4, 5, 1, 0] rfl)
            · refine lv_iconst (v := bI (true)) hx hb dM_idle_93 (by decide) ?_
              refine lv_goto (tgt := 98) hx hb dM_idle_94 (by decide) ?_
              refine lv_istore (lv' := [(4, .int (bI (true))), (0, .ref (q 0)), (1, .int (nI (r))), (2, .int (nI (f))), (3, .int (bI (z2))), (5, .int (nI (o)))]) hx hb dM_idle_98 hl (by decide) rfl (fun ls hl => ?_)
              refine lv_iinc (v := nI (o + 1)) (lv' := [(5, .int (nI (o + 1))), (4, .int (bI (true))), (0, .ref (q 0)), (1, .int (nI (r))), (2, .int (nI (f))), (3, .int (bI (z2)))]) hx hb dM_idle_100 hl (k := 5) rfl (nI_1 _) (by decide) rfl (fun ls hl => ?_)
              refine lv_goto (tgt := 8) hx hb dM_idle_103 (by decide) ?_
              exact ih  (z2) (true) (o + 1)  ls (by omega) (by omega) (by first | rfl | exact g1 | (rw [ideM_s, ← h3]; first | (simp [c_25]; done) | (simp [c_25, c_35]; done))) (by first | rfl | (rw [idrM_s, ← h4]; first | (simp [c_25]; done) | (simp [c_25, c_35]; done) | (simp [c_70]; done) | (simp [c_70, g2, g3, c_80]; done) | (simp [c_70, g2, g3, c_80, c_90]; done))) (lv_sub hl [2, 3, 4, 5, 1, 0] rfl)
      refine lv_iload hx hb dM_idle_8 (lv_at hl 5 rfl) ?_
      refine lv_aload_n hx hb dM_idle_10 rfl (lv_at hl 0 rfl) ?_
      refine va_get (D := D) (ci := 3) (v := .int (nI (x.nn))) (C := RM) (T := TM) (N := 13) hx hb hts in_M hown hK hP 0 rfl rfl 0 (by decide) (hts _ wm_243) (fun _ h9 => h9) rfl dM_idle_11 ?_
      refine r_ge (by omega) (Nat.lt_of_le_of_lt ok.n (by decide)) (tgt := 106) hx hb dM_idle_14 (by decide) (fun c_14 => ?_) (fun c_14 => ?_)
      · refine lv_iload_n hx hb dM_idle_106 rfl (lv_at hl 3 rfl) ?_
        refine r_eqB (tgt := 119) hx hb dM_idle_107 (by decide) (fun c_107 => ?_) (fun c_107 => ?_)
        · refine lv_iconst (v := bI (false)) hx hb dM_idle_119 (by decide) ?_
          exact kx _ _ _ dM_idle_120 (by unfold idlM; rw [show x.nn = o by omega, ← h3, ← h4]; first | (simp [c_107]; done) | (simp [c_107, c_112]; done))
        · refine lv_iload hx hb dM_idle_110 (lv_at hl 4 rfl) ?_
          refine r_eqB (tgt := 119) hx hb dM_idle_112 (by decide) (fun c_112 => ?_) (fun c_112 => ?_)
          · refine lv_iconst (v := bI (false)) hx hb dM_idle_119 (by decide) ?_
            exact kx _ _ _ dM_idle_120 (by unfold idlM; rw [show x.nn = o by omega, ← h3, ← h4]; first | (simp [c_107]; done) | (simp [c_107, c_112]; done))
          · refine lv_iconst (v := bI (true)) hx hb dM_idle_115 (by decide) ?_
            refine lv_goto (tgt := 120) hx hb dM_idle_116 (by decide) ?_
            exact kx _ _ _ dM_idle_120 (by unfold idlM; rw [show x.nn = o by omega, ← h3, ← h4]; first | (simp [c_107]; done) | (simp [c_107, c_112]; done))
      · refine lv_aload_n hx hb dM_idle_17 rfl (lv_at hl 0 rfl) ?_
        refine va_get (D := D) (ci := 3) (v := .ref (q 5)) (C := RM) (T := TM) (N := 13) hx hb hts in_M hown hK hP 0 rfl rfl 5 (by decide) (hts _ wm_248) (fun _ h9 => h9) rfl dM_idle_18 ?_
        refine lv_iload hx hb dM_idle_21 (lv_at hl 5 rfl) ?_
        refine r_iald (q0 := 5) (t0 := 0) hx hb hK hP rfl rfl (by omega) (by decide) dM_idle_23 ?_
        refine lv_iload_n hx hb dM_idle_24 rfl (lv_at hl 2 rfl) ?_
        refine r_top (y := sI (f + 1)) (sI_s _).symm ?_
        refine r_neS (ok.oth (o)) (by omega) (tgt := 100) hx hb dM_idle_25 (by decide) (fun c_25 => ?_) (fun c_25 => ?_)
        · refine lv_iinc (v := nI (o + 1)) (lv' := [(5, .int (nI (o + 1))), (0, .ref (q 0)), (1, .int (nI (r))), (2, .int (nI (f))), (3, .int (bI (z))), (4, .int (bI (w)))]) hx hb dM_idle_100 hl (k := 5) rfl (nI_1 _) (by decide) rfl (fun ls hl => ?_)
          refine lv_goto (tgt := 8) hx hb dM_idle_103 (by decide) ?_
          exact ih  (z) (w) (o + 1)  ls (by omega) (by omega) (by first | rfl | exact g1 | (rw [ideM_s, ← h3]; first | (simp [c_25]; done) | (simp [c_25, c_35]; done))) (by first | rfl | (rw [idrM_s, ← h4]; first | (simp [c_25]; done) | (simp [c_25, c_35]; done) | (simp [c_70]; done) | (simp [c_70, g2, g3, c_80]; done) | (simp [c_70, g2, g3, c_80, c_90]; done))) (lv_sub hl [1, 2, 3, 4, 5, 0] rfl)
        · refine lv_aload_n hx hb dM_idle_28 rfl (lv_at hl 0 rfl) ?_
          refine lv_iload_n hx hb dM_idle_29 rfl (lv_at hl 1 rfl) ?_
          refine lv_iload hx hb dM_idle_30 (lv_at hl 5 rfl) ?_
          refine W.callR (W.runV (As := [.int (nI (r)), .int (nI (o))]) (rest := []) S (kM_has D cc q x (r) (o) (by omega) (by omega)) (cwV 2 hts (gd_V wm_285 wm_286 wm_382 wm_4 wm_287) rfl rfl rfl (by decide +kernel) ⟨Nat.le_of_ble_eq_true rfl, Nat.le_of_ble_eq_true rfl⟩) (rd_preV (q0 := 0) hP hE rfl rfl) rfl rfl hl.1 rfl (lv_room (Nat.le_of_ble_eq_true rfl)) dM_idle_32 ⟨Nat.le_of_ble_eq_true rfl, Nat.le_of_ble_eq_true rfl⟩) ?_
          refine W.eq (g2 := F0 m 35 ls [.int (bI (x.app (100 * (r) + (o))))]) rfl ?_
          refine r_eqB (tgt := 100) hx hb dM_idle_35 (by decide) (fun c_35 => ?_) (fun c_35 => ?_)
          · refine lv_iinc (v := nI (o + 1)) (lv' := [(5, .int (nI (o + 1))), (0, .ref (q 0)), (1, .int (nI (r))), (2, .int (nI (f))), (3, .int (bI (z))), (4, .int (bI (w)))]) hx hb dM_idle_100 hl (k := 5) rfl (nI_1 _) (by decide) rfl (fun ls hl => ?_)
            refine lv_goto (tgt := 8) hx hb dM_idle_103 (by decide) ?_
            exact ih  (z) (w) (o + 1)  ls (by omega) (by omega) (by first | rfl | exact g1 | (rw [ideM_s, ← h3]; first | (simp [c_25]; done) | (simp [c_25, c_35]; done))) (by first | rfl | (rw [idrM_s, ← h4]; first | (simp [c_25]; done) | (simp [c_25, c_35]; done) | (simp [c_70]; done) | (simp [c_70, g2, g3, c_80]; done) | (simp [c_70, g2, g3, c_80, c_90]; done))) (lv_sub hl [1, 2, 3, 4, 5, 0] rfl)
          · refine lv_iload_n hx hb dM_idle_38 rfl (lv_at hl 3 rfl) ?_
            refine r_neB (tgt := 62) hx hb dM_idle_39 (by decide) (fun c_39 => ?_) (fun c_39 => ?_)
            · refine lv_iconst (v := bI (true)) hx hb dM_idle_62 (by decide) ?_
              refine lv_goto (tgt := 67) hx hb dM_idle_63 (by decide) ?_
              refine lv_istore_n (lv' := [(3, .int (bI (true))), (0, .ref (q 0)), (1, .int (nI (r))), (2, .int (nI (f))), (4, .int (bI (w))), (5, .int (nI (o)))]) hx hb dM_idle_67 rfl hl (by decide) rfl (fun ls hl => ?_)
              exact J68  (true)  ls (by omega) (c_25) (c_35) (by rw [ideM_s, ← h3]; first | (simp [c_39]; done) | (simp [c_39, c_25, c_35, c_49]; done) | (simp [c_39, c_25, c_35, c_49, c_59]; done)) (lv_sub hl [1, 2, 3, 0, 4, 5] rfl)
            · refine lv_aload_n hx hb dM_idle_42 rfl (lv_at hl 0 rfl) ?_
              refine va_get (D := D) (ci := 3) (v := .ref (q 4)) (C := RM) (T := TM) (N := 13) hx hb hts in_M hown hK hP 0 rfl rfl 4 (by decide) (hts _ wm_247) (fun _ h9 => h9) rfl dM_idle_43 ?_
              refine lv_iload hx hb dM_idle_46 (lv_at hl 5 rfl) ?_
              refine r_iald (q0 := 4) (t0 := 0) hx hb hK hP rfl rfl (by omega) (by decide) dM_idle_48 ?_
              refine r_neN (ok.let_ (o)) (tgt := 66) hx hb dM_idle_49 (by decide) (fun c_49 => ?_) (fun c_49 => ?_)
              · refine lv_iconst (v := bI (false)) hx hb dM_idle_66 (by decide) ?_
                refine lv_istore_n (lv' := [(3, .int (bI (false))), (0, .ref (q 0)), (1, .int (nI (r))), (2, .int (nI (f))), (4, .int (bI (w))), (5, .int (nI (o)))]) hx hb dM_idle_67 rfl hl (by decide) rfl (fun ls hl => ?_)
                exact J68  (false)  ls (by omega) (c_25) (c_35) (by rw [ideM_s, ← h3]; first | (simp [c_39]; done) | (simp [c_39, c_25, c_35, c_49]; done) | (simp [c_39, c_25, c_35, c_49, c_59]; done)) (lv_sub hl [1, 2, 3, 0, 4, 5] rfl)
              · refine lv_aload_n hx hb dM_idle_52 rfl (lv_at hl 0 rfl) ?_
                refine lv_iload_n hx hb dM_idle_53 rfl (lv_at hl 1 rfl) ?_
                refine lv_iload hx hb dM_idle_54 (lv_at hl 5 rfl) ?_
                refine W.callR (W.runV (As := [.int (nI (r)), .int (nI (o))]) (rest := []) S (kM_stable D cc q x (r) (o) (by omega) (by omega) ok) (cwV 2 hts (gd_V wm_338 wm_324 wm_325 wm_4 wm_326) rfl rfl rfl (by decide +kernel) ⟨Nat.le_of_ble_eq_true rfl, Nat.le_of_ble_eq_true rfl⟩) (rd_preV (q0 := 0) hP hE rfl rfl) rfl rfl hl.1 rfl (lv_room (Nat.le_of_ble_eq_true rfl)) dM_idle_56 ⟨Nat.le_of_ble_eq_true rfl, Nat.le_of_ble_eq_true rfl⟩) ?_
                refine W.eq (g2 := F0 m 59 ls [.int (bI (stbM x (r) (o) 3))]) rfl ?_
                refine r_eqB (tgt := 66) hx hb dM_idle_59 (by decide) (fun c_59 => ?_) (fun c_59 => ?_)
                · refine lv_iconst (v := bI (false)) hx hb dM_idle_66 (by decide) ?_
                  refine lv_istore_n (lv' := [(3, .int (bI (false))), (0, .ref (q 0)), (1, .int (nI (r))), (2, .int (nI (f))), (4, .int (bI (w))), (5, .int (nI (o)))]) hx hb dM_idle_67 rfl hl (by decide) rfl (fun ls hl => ?_)
                  exact J68  (false)  ls (by omega) (c_25) (c_35) (by rw [ideM_s, ← h3]; first | (simp [c_39]; done) | (simp [c_39, c_25, c_35, c_49]; done) | (simp [c_39, c_25, c_35, c_49, c_59]; done)) (lv_sub hl [1, 2, 3, 0, 4, 5] rfl)
                · refine lv_iconst (v := bI (true)) hx hb dM_idle_62 (by decide) ?_
                  refine lv_goto (tgt := 67) hx hb dM_idle_63 (by decide) ?_
                  refine lv_istore_n (lv' := [(3, .int (bI (true))), (0, .ref (q 0)), (1, .int (nI (r))), (2, .int (nI (f))), (4, .int (bI (w))), (5, .int (nI (o)))]) hx hb dM_idle_67 rfl hl (by decide) rfl (fun ls hl => ?_)
                  exact J68  (true)  ls (by omega) (c_25) (c_35) (by rw [ideM_s, ← h3]; first | (simp [c_39]; done) | (simp [c_39, c_25, c_35, c_49]; done) | (simp [c_39, c_25, c_35, c_49, c_59]; done)) (lv_sub hl [1, 2, 3, 0, 4, 5] rfl)
  refine lv_iconst (v := bI (false)) hx hb dM_idle_0 (by decide) ?_
  refine lv_istore_n (lv' := [(3, .int (bI (false))), (0, .ref (q 0)), (1, .int (nI (r))), (2, .int (nI (f)))]) hx hb dM_idle_1 rfl hl (by decide) rfl (fun ls hl => ?_)
  refine lv_iconst (v := bI (true)) hx hb dM_idle_2 (by decide) ?_
  refine lv_istore (lv' := [(4, .int (bI (true))), (3, .int (bI (false))), (0, .ref (q 0)), (1, .int (nI (r))), (2, .int (nI (f)))]) hx hb dM_idle_3 hl (by decide) rfl (fun ls hl => ?_)
  refine lv_iconst (v := nI (0)) hx hb dM_idle_5 (by decide) ?_
  refine lv_istore (lv' := [(5, .int (nI (0))), (4, .int (bI (true))), (3, .int (bI (false))), (0, .ref (q 0)), (1, .int (nI (r))), (2, .int (nI (f)))]) hx hb dM_idle_6 hl (by decide) rfl (fun ls hl => ?_)
  exact L8 (x.nn + 1) (false) (true) (0)  ls (by omega) (by omega) (by first | rfl | exact g1 | (rw [ideM_s, ← h3]; first | (simp [c_25]; done) | (simp [c_25, c_35]; done))) (by first | rfl | (rw [idrM_s, ← h4]; first | (simp [c_25]; done) | (simp [c_25, c_35]; done) | (simp [c_70]; done) | (simp [c_70, g2, g3, c_80]; done) | (simp [c_70, g2, g3, c_80, c_90]; done))) (lv_sub hl [3, 4, 5, 2, 1, 0] rfl)

def rmM_keeps : Room := { frames := 1, cells := 0, slots := 0, locals := 22 }
set_option maxHeartbeats 4000000 in
set_option maxRecDepth 100000 in
theorem kM_keeps {l : Launch} (D : va_G) (cc : Nat → ClassId) (q : Nat → Nat) (x : MS) (r o : Nat) (hr : r < 3) (ho : o < 100) (ok : okM x) : Met l yM_keeps wsM_keeps rmM_keeps (va_Pc [.ref (q 0), .int (nI (r)), .int (nI (o))] (fun U => va_P D vwCl (wM cc q x) U.heap ∧ EN D cc U)) (QcRead (bI (kpsM x r o))) 0 0 (fun _ => False) := by
  refine rd_met RM [.ref (q 0), .int (nI (r)), .int (nI (o))] _ _ (by decide) rfl rfl (Nat.le_of_ble_eq_true rfl) (bI_z _) ?_
  intro p e s m args below meth c Q S hB kx ls hl
  obtain ⟨hx, hb, hml, hown, hts⟩ := id S
  obtain ⟨hP, hE⟩ := hB
  have hK := hE.1
  have hts := hE.ts args
  have S : CallFix p m c cM_keeps 3 s args wAll RM := ⟨hx, hb, hml, hown, hts⟩
  have hn := ok.n
  have hl : lv_has ls 3 [(0, .ref (q 0)), (1, .int (nI (r))), (2, .int (nI (o)))] := hl
  refine lv_aload_n hx hb dM_keeps_0 rfl (lv_at hl 0 rfl) ?_
  refine va_get (D := D) (ci := 3) (v := .ref (q 4)) (C := RM) (T := TM) (N := 13) hx hb hts in_M hown hK hP 0 rfl rfl 4 (by decide) (hts _ wm_247) (fun _ h9 => h9) rfl dM_keeps_1 ?_
  refine lv_iload_n hx hb dM_keeps_4 rfl (lv_at hl 2 rfl) ?_
  refine r_iald (q0 := 4) (t0 := 0) hx hb hK hP rfl rfl (by omega) (by decide) dM_keeps_5 ?_
  refine r_leN (ok.let_ (o)) (tgt := 36) hx hb dM_keeps_6 (by decide) (fun c_6 => ?_) (fun c_6 => ?_)
  · refine lv_iconst (v := bI (false)) hx hb dM_keeps_36 (by decide) ?_
    exact kx _ _ _ dM_keeps_37 (by unfold kpsM; first | (simp [c_6]; done) | (simp [c_6, c_15]; done) | (simp [c_6, c_15, c_29]; done))
  · refine lv_aload_n hx hb dM_keeps_9 rfl (lv_at hl 0 rfl) ?_
    refine lv_iload_n hx hb dM_keeps_10 rfl (lv_at hl 1 rfl) ?_
    refine lv_iload_n hx hb dM_keeps_11 rfl (lv_at hl 2 rfl) ?_
    refine W.callR (W.runV (As := [.int (nI (r)), .int (nI (o))]) (rest := []) S (kM_has D cc q x (r) (o) (by omega) (by omega)) (cwV 2 hts (gd_V wm_285 wm_286 wm_382 wm_4 wm_287) rfl rfl rfl (by decide +kernel) ⟨Nat.le_of_ble_eq_true rfl, Nat.le_of_ble_eq_true rfl⟩) (rd_preV (q0 := 0) hP hE rfl rfl) rfl rfl hl.1 rfl (lv_room (Nat.le_of_ble_eq_true rfl)) dM_keeps_12 ⟨Nat.le_of_ble_eq_true rfl, Nat.le_of_ble_eq_true rfl⟩) ?_
    refine W.eq (g2 := F0 m 15 ls [.int (bI (x.app (100 * (r) + (o))))]) rfl ?_
    refine r_eqB (tgt := 36) hx hb dM_keeps_15 (by decide) (fun c_15 => ?_) (fun c_15 => ?_)
    · refine lv_iconst (v := bI (false)) hx hb dM_keeps_36 (by decide) ?_
      exact kx _ _ _ dM_keeps_37 (by unfold kpsM; first | (simp [c_6]; done) | (simp [c_6, c_15]; done) | (simp [c_6, c_15, c_29]; done))
    · refine lv_aload_n hx hb dM_keeps_18 rfl (lv_at hl 0 rfl) ?_
      refine va_get (D := D) (ci := 3) (v := .ref (q 9)) (C := RM) (T := TM) (N := 13) hx hb hts in_M hown hK hP 0 rfl rfl 9 (by decide) (hts _ wm_252) (fun _ h9 => h9) rfl dM_keeps_19 ?_
      refine lv_bipush (v := nI (100)) hx hb dM_keeps_22 (by decide) ?_
      refine lv_iload_n hx hb dM_keeps_24 rfl (lv_at hl 1 rfl) ?_
      refine r_mul hx hb dM_keeps_25 ?_
      refine lv_iload_n hx hb dM_keeps_26 rfl (lv_at hl 2 rfl) ?_
      refine r_add hx hb dM_keeps_27 ?_
      refine r_zald (q0 := 9) (t0 := 1) hx hb hK hP rfl rfl (by omega) (by decide) dM_keeps_28 ?_
      refine r_neB (tgt := 36) hx hb dM_keeps_29 (by decide) (fun c_29 => ?_) (fun c_29 => ?_)
      · refine lv_iconst (v := bI (false)) hx hb dM_keeps_36 (by decide) ?_
        exact kx _ _ _ dM_keeps_37 (by unfold kpsM; first | (simp [c_6]; done) | (simp [c_6, c_15]; done) | (simp [c_6, c_15, c_29]; done))
      · refine lv_iconst (v := bI (true)) hx hb dM_keeps_32 (by decide) ?_
        refine lv_goto (tgt := 37) hx hb dM_keeps_33 (by decide) ?_
        exact kx _ _ _ dM_keeps_37 (by unfold kpsM; first | (simp [c_6]; done) | (simp [c_6, c_15]; done) | (simp [c_6, c_15, c_29]; done))

def rmM_operations : Room := { frames := 0, cells := 0, slots := 0, locals := 0 }
set_option maxHeartbeats 4000000 in
set_option maxRecDepth 100000 in
theorem kM_operations {l : Launch} (D : va_G) (cc : Nat → ClassId) (q : Nat → Nat) (x : MS) (ok : okM x) : Met l yM_operations wsM_operations rmM_operations (va_Pc [.ref (q 0)] (fun U => va_P D vwCl (wM cc q x) U.heap ∧ EN D cc U)) (QcRead (nI x.nn)) 0 0 (fun _ => False) := by
  refine rd_met RM [.ref (q 0)] _ _ (by decide) rfl rfl (Nat.le_of_ble_eq_true rfl) (vp_nar_int _) ?_
  intro p e s m args below meth c Q S hB kx ls hl
  obtain ⟨hx, hb, hml, hown, hts⟩ := id S
  obtain ⟨hP, hE⟩ := hB
  have hK := hE.1
  have hts := hE.ts args
  have S : CallFix p m c cM_operations 1 s args wAll RM := ⟨hx, hb, hml, hown, hts⟩
  have hn := ok.n
  have hl : lv_has ls 1 [(0, .ref (q 0))] := hl
  refine lv_aload_n hx hb dM_operations_0 rfl (lv_at hl 0 rfl) ?_
  refine va_get (D := D) (ci := 3) (v := .int (nI (x.nn))) (C := RM) (T := TM) (N := 13) hx hb hts in_M hown hK hP 0 rfl rfl 0 (by decide) (hts _ wm_243) (fun _ h9 => h9) rfl dM_operations_1 ?_
  exact kx _ _ _ dM_operations_4 (rfl)
end
section
theorem nxtM_wt (x : MS) (n r v : Nat) (t : Nat → Nat) : nxtM (mkM x.nn x.by_ x.line x.stp x.let_ x.oth x.clk x.app x.wts x.gon n t x.spr) r v = nxtM x r v := rfl
theorem ersM_wt (x : MS) (n r v k : Nat) (t : Nat → Nat) : ersM (mkM x.nn x.by_ x.line x.stp x.let_ x.oth x.clk x.app x.wts x.gon n t x.spr) r v k = ersM x r v k := rfl
theorem tst_2 (cc : Nat → ClassId) (q : Nat → Nat) (x : MS) (n v : Nat) (t : Nat → Nat) : (wM cc q (mkM x.nn x.by_ x.line x.stp x.let_ x.oth x.clk x.app x.wts x.gon n t x.spr)).set 10 (q 10, .inl (cc 0, 100, .inl (fun j => nI (va_up t n v j)))) = wM cc q (mkM x.nn x.by_ x.line x.stp x.let_ x.oth x.clk x.app x.wts x.gon n (va_up t n v) x.spr) := rfl
def rmM_walk : Room := { frames := 3, cells := 0, slots := 0, locals := 72 }
set_option maxHeartbeats 4000000 in
set_option maxRecDepth 100000 in
theorem kM_walk {l : Launch} (D : va_G) (cc : Nat → ClassId) (q : Nat → Nat) (x : MS) (sz : Nat) (r : Nat) (xs : List Nat) (hr : r < 3) (hpar : ∀ k, k < x.nn → x.oth k ≤ k) (ok : okM x) (hch : chainP (nxtM x r) 0 xs) (hlen : xs.length ≤ 100) (hle : ∀ v ∈ xs, v ≤ x.nn) : Met l yM_walk wsM_walk rmM_walk (va_Pc [.ref (q 0), .int (nI (r))] (WP D cc (wM cc q x) sz)) (va_Qv (fun _ : Unit => True) (WQ D cc (va_A (wM cc q x) sz) (fun _ : Unit => wM cc q (walked x r xs))) (va_A (wM cc q x) sz)) 0 0 (va_A (wM cc q x) sz) := by
  refine wr_metv RM [.ref (q 0), .int (nI (r))] D cc (wM cc q x) sz (fun _ : Unit => wM cc q (walked x r xs)) _ (by decide) rfl rfl (Nat.le_of_ble_eq_true rfl) ?_
  intro p e s m args below meth c Q A S hP hE hD hA kx ls hl
  obtain ⟨hx, hb, hml, hown, hts⟩ := id S
  have hK := hE.1
  have hts := hE.ts args
  have S : CallFix p m c cM_walk 3 s args wAll RM := ⟨hx, hb, hml, hown, hts⟩
  have hS : va_S A s.heap s.heap [] := va_S.rf
  have hn := ok.n
  have hv0 := ch_next hch
  have hl : lv_has ls 3 [(0, .ref (q 0)), (1, .int (nI (r)))] := hl
  have L12 : ∀ (n : Nat) (v : Nat) (ys : List Nat) (ln : Nat) (t : Nat → Nat) (H : Heap) (locs : List Loc) (hP : va_P D vwCl (wM cc q (mkM x.nn x.by_ x.line x.stp x.let_ x.oth x.clk x.app x.wts x.gon ln t x.spr)) H) (hD : va_D A (wM cc q (mkM x.nn x.by_ x.line x.stp x.let_ x.oth x.clk x.app x.wts x.gon ln t x.spr))) (hS : va_S A s.heap H locs) (ls : Array Slot) (h0 : v ≤ x.nn) (hv : (v = 0 ∧ ys = []) ∨ ∃ zs, ys = v :: zs ∧ v ≠ 0 ∧ chainP (nxtM x r) v zs) (h2 : ys.length < n) (h3 : ln + ys.length ≤ 100) (h4 : wrtF (fun f => ersM x r f x.nn) ys (ln, t) = wrtF (fun f => ersM x r f x.nn) xs (0, x.txt)) (h5 : ∀ z ∈ ys, z ≤ x.nn) (h6 : ∀ k, t k < 100), lv_has ls 3 [(0, .ref (q 0)), (1, .int (nI (r))), (2, .int (sI (v)))] → W p l e rmM_walk s m args below meth c H locs 0 0 Q (F0 m 12 ls []) := by
    intro n
    induction n with
    | zero => intro v ys ln t H locs hP hD hS ls h0 hv h2 h3 h4 h5 h6 hl; exact absurd h2 (Nat.not_lt_zero _)
    | succ n ih =>
      intro v ys ln t H locs hP hD hS ls h0 hv h2 h3 h4 h5 h6 hl
      have ok2 : okM (mkM x.nn x.by_ x.line x.stp x.let_ x.oth x.clk x.app x.wts x.gon ln t x.spr) := okM_wt ok (by omega) h6
      refine lv_iload_n hx hb dM_walk_12 rfl (lv_at hl 2 rfl) ?_
      refine r_ltS (by omega) (tgt := 55) hx hb dM_walk_13 (by decide) (fun c_13 => ?_) (fun c_13 => ?_)
      · exact kx _ _ _ _ () dM_walk_55 hS (by rw [← wk_end hv c_13 h4]; exact hP) (by rw [← wk_end hv c_13 h4]; exact hD) trivial
      · obtain ⟨zs, rfl, hz2, hz3⟩ := hv.resolve_left (fun q => by omega)
        refine lv_aload_n hx hb dM_walk_16 rfl (lv_at hl 0 rfl) ?_
        refine lv_iload_n hx hb dM_walk_17 rfl (lv_at hl 1 rfl) ?_
        refine lv_iload_n hx hb dM_walk_18 rfl (lv_at hl 2 rfl) ?_
        refine r_top (y := nI (v - 1)) (sI_p c_13) ?_
        refine W.callR (W.runV (As := [.int (nI (r)), .int (nI (v - 1))]) (rest := []) S (kM_erased D cc q (mkM x.nn x.by_ x.line x.stp x.let_ x.oth x.clk x.app x.wts x.gon ln t x.spr) (r) (v - 1) (by omega) (by omega) ok2) (cwV 2 hts (gd_V wm_291 wm_292 wm_384 wm_4 wm_293) rfl rfl rfl (by decide +kernel) ⟨Nat.le_of_ble_eq_true rfl, Nat.le_of_ble_eq_true rfl⟩) (rd_preV (q0 := 0) hP hE rfl rfl) rfl rfl hl.1 rfl (lv_room (Nat.le_of_ble_eq_true rfl)) dM_walk_19 ⟨Nat.le_of_ble_eq_true rfl, Nat.le_of_ble_eq_true rfl⟩) ?_
        refine W.eq (g2 := F0 m 22 ls [.int (bI (ersM (mkM x.nn x.by_ x.line x.stp x.let_ x.oth x.clk x.app x.wts x.gon ln t x.spr) (r) (v - 1) (mkM x.nn x.by_ x.line x.stp x.let_ x.oth x.clk x.app x.wts x.gon ln t x.spr).nn))]) rfl ?_
        refine r_top (y := bI (ersM x (r) (v - 1) x.nn)) rfl ?_
        refine r_neB (tgt := 45) hx hb dM_walk_22 (by decide) (fun c_22 => ?_) (fun c_22 => ?_)
        · refine lv_aload_n hx hb dM_walk_45 rfl (lv_at hl 0 rfl) ?_
          refine lv_iload_n hx hb dM_walk_46 rfl (lv_at hl 1 rfl) ?_
          refine lv_iload_n hx hb dM_walk_47 rfl (lv_at hl 2 rfl) ?_
          refine W.callR (W.runV (As := [.int (nI (r)), .int (sI (v))]) (rest := []) S (kM_next D cc q (mkM x.nn x.by_ x.line x.stp x.let_ x.oth x.clk x.app x.wts x.gon ln t x.spr) (r) (v) (by omega) (h0) hpar ok2) (cwV 2 hts (gd_V wm_279 wm_280 wm_380 wm_4 wm_281) rfl rfl rfl (by decide +kernel) ⟨Nat.le_of_ble_eq_true rfl, Nat.le_of_ble_eq_true rfl⟩) (rd_preV (q0 := 0) hP hE rfl rfl) rfl rfl hl.1 rfl (lv_room (Nat.le_of_ble_eq_true rfl)) dM_walk_48 ⟨Nat.le_of_ble_eq_true rfl, Nat.le_of_ble_eq_true rfl⟩) ?_
          refine W.eq (g2 := F0 m 51 ls [.int (sI (nxtM (mkM x.nn x.by_ x.line x.stp x.let_ x.oth x.clk x.app x.wts x.gon ln t x.spr) (r) (v)))]) rfl ?_
          refine r_top (y := sI (nxtM x (r) (v))) rfl ?_
          refine lv_istore_n (lv' := [(2, .int (sI (nxtM x (r) (v)))), (0, .ref (q 0)), (1, .int (nI (r)))]) hx hb dM_walk_51 rfl hl (by decide) rfl (fun ls hl => ?_)
          refine lv_goto (tgt := 12) hx hb dM_walk_52 (by decide) ?_
          exact ih  (nxtM x (r) (v)) (zs) (ln) (t) H locs hP hD hS ls (by first | exact ch_le hv0 hle (Nat.zero_le _) | exact ch_le (ch_next hz3) (fun z hz => h5 z (List.mem_cons_of_mem _ hz)) (Nat.zero_le _)) (by first | exact hv0 | exact ch_next hz3) (by first | exact Nat.lt_succ_self _ | (simp only [List.length_cons] at h2; omega)) (by first | (rw [Nat.zero_add]; exact hlen) | (simp only [List.length_cons] at h3; omega)) (by first | rfl | (rw [← h4, wrtF_t c_22]; done) | (rw [← h4, wrtF_f c_22]; done)) (by first | exact hle | exact (fun z hz => h5 z (List.mem_cons_of_mem _ hz))) (by first | exact ok.txt100 | exact h6 | exact up_lt100 h6 (by omega)) (lv_sub hl [1, 2, 0] rfl)
        · refine lv_aload_n hx hb dM_walk_25 rfl (lv_at hl 0 rfl) ?_
          refine va_get (D := D) (ci := 3) (v := .ref (q 10)) (C := RM) (T := TM) (N := 13) hx hb hts in_M hown hK hP 0 rfl rfl 11 (by decide) (hts _ wm_254) (fun _ h9 => h9) rfl dM_walk_26 ?_
          refine lv_aload_n hx hb dM_walk_29 rfl (lv_at hl 0 rfl) ?_
          refine va_get (D := D) (ci := 3) (v := .int (nI (ln))) (C := RM) (T := TM) (N := 13) hx hb hts in_M hown hK hP 0 rfl rfl 10 (by decide) (hts _ wm_253) (fun _ h9 => h9) rfl dM_walk_30 ?_
          refine lv_iload_n hx hb dM_walk_33 rfl (lv_at hl 2 rfl) ?_
          refine r_top (y := nI (v - 1)) (sI_p c_13) ?_
          refine r_iast nI t (v - 1) (q0 := 10) (t0 := 0) hx hb hK hP hD hS rfl rfl (by have := h3; simp only [List.length_cons] at this; show ln < 100; omega) (by decide) dM_walk_34 (fun H locs hP hD hS => ?_)
          have hP : va_P D vwCl (wM cc q (mkM x.nn x.by_ x.line x.stp x.let_ x.oth x.clk x.app x.wts x.gon ln (va_up t ln (v - 1)) x.spr)) H := hP
          have hD : va_D A (wM cc q (mkM x.nn x.by_ x.line x.stp x.let_ x.oth x.clk x.app x.wts x.gon ln (va_up t ln (v - 1)) x.spr)) := hD
          have ok3 : okM (mkM x.nn x.by_ x.line x.stp x.let_ x.oth x.clk x.app x.wts x.gon ln (va_up t ln (v - 1)) x.spr) := okM_wt ok (by omega) (up_lt100 h6 (by omega))
          refine lv_aload_n hx hb dM_walk_35 rfl (lv_at hl 0 rfl) ?_
          refine lv_dup hx hb dM_walk_36 rfl ?_
          refine va_get (D := D) (ci := 3) (v := .int (nI (ln))) (C := RM) (T := TM) (N := 13) hx hb hts in_M hown hK hP 0 rfl rfl 10 (by decide) (hts _ wm_253) (fun _ h9 => h9) rfl dM_walk_37 ?_
          refine lv_iconst (v := nI (1)) hx hb dM_walk_40 (by decide) ?_
          refine r_add hx hb dM_walk_41 ?_
          refine va_put (D := D) (ci := 3) (v := .int (nI (ln + 1))) (ty := .int) (C := RM) (T := TM) (N := 13) hx hb hts in_M tyM tyM_ok nmM hown hK hP hD hS 0 rfl rfl 10 (by decide) (hts _ wm_253) (fun _ h9 => h9) rfl (by decide +kernel) rfl rfl (Nat.le_of_ble_eq_true rfl) dM_walk_42 (fun H locs hP hD hS => ?_)
          have hP : va_P D vwCl (wM cc q (mkM x.nn x.by_ x.line x.stp x.let_ x.oth x.clk x.app x.wts x.gon (ln + 1) (va_up t ln (v - 1)) x.spr)) H := hP
          have hD : va_D A (wM cc q (mkM x.nn x.by_ x.line x.stp x.let_ x.oth x.clk x.app x.wts x.gon (ln + 1) (va_up t ln (v - 1)) x.spr)) := hD
          have ok4 : okM (mkM x.nn x.by_ x.line x.stp x.let_ x.oth x.clk x.app x.wts x.gon (ln + 1) (va_up t ln (v - 1)) x.spr) := okM_wt ok (by have := h3; simp only [List.length_cons] at this; omega) (up_lt100 h6 (by omega))
          refine lv_aload_n hx hb dM_walk_45 rfl (lv_at hl 0 rfl) ?_
          refine lv_iload_n hx hb dM_walk_46 rfl (lv_at hl 1 rfl) ?_
          refine lv_iload_n hx hb dM_walk_47 rfl (lv_at hl 2 rfl) ?_
          refine W.callR (W.runV (As := [.int (nI (r)), .int (sI (v))]) (rest := []) S (kM_next D cc q (mkM x.nn x.by_ x.line x.stp x.let_ x.oth x.clk x.app x.wts x.gon (ln + 1) (va_up t ln (v - 1)) x.spr) (r) (v) (by omega) (h0) hpar ok4) (cwV 2 hts (gd_V wm_279 wm_280 wm_380 wm_4 wm_281) rfl rfl rfl (by decide +kernel) ⟨Nat.le_of_ble_eq_true rfl, Nat.le_of_ble_eq_true rfl⟩) (rd_preV (q0 := 0) hP hE rfl rfl) rfl rfl hl.1 rfl (lv_room (Nat.le_of_ble_eq_true rfl)) dM_walk_48 ⟨Nat.le_of_ble_eq_true rfl, Nat.le_of_ble_eq_true rfl⟩) ?_
          refine W.eq (g2 := F0 m 51 ls [.int (sI (nxtM (mkM x.nn x.by_ x.line x.stp x.let_ x.oth x.clk x.app x.wts x.gon (ln + 1) (va_up t ln (v - 1)) x.spr) (r) (v)))]) rfl ?_
          refine r_top (y := sI (nxtM x (r) (v))) rfl ?_
          refine lv_istore_n (lv' := [(2, .int (sI (nxtM x (r) (v)))), (0, .ref (q 0)), (1, .int (nI (r)))]) hx hb dM_walk_51 rfl hl (by decide) rfl (fun ls hl => ?_)
          refine lv_goto (tgt := 12) hx hb dM_walk_52 (by decide) ?_
          exact ih  (nxtM x (r) (v)) (zs) (ln + 1) (va_up t ln (v - 1)) H locs hP hD hS ls (by first | exact ch_le hv0 hle (Nat.zero_le _) | exact ch_le (ch_next hz3) (fun z hz => h5 z (List.mem_cons_of_mem _ hz)) (Nat.zero_le _)) (by first | exact hv0 | exact ch_next hz3) (by first | exact Nat.lt_succ_self _ | (simp only [List.length_cons] at h2; omega)) (by first | (rw [Nat.zero_add]; exact hlen) | (simp only [List.length_cons] at h3; omega)) (by first | rfl | (rw [← h4, wrtF_t c_22]; done) | (rw [← h4, wrtF_f c_22]; done)) (by first | exact hle | exact (fun z hz => h5 z (List.mem_cons_of_mem _ hz))) (by first | exact ok.txt100 | exact h6 | exact up_lt100 h6 (by omega)) (lv_sub hl [1, 2, 0] rfl)
  refine lv_aload_n hx hb dM_walk_0 rfl (lv_at hl 0 rfl) ?_
  refine lv_iconst (v := nI (0)) hx hb dM_walk_1 (by decide) ?_
  refine va_put (D := D) (ci := 3) (v := .int (nI (0))) (ty := .int) (C := RM) (T := TM) (N := 13) hx hb hts in_M tyM tyM_ok nmM hown hK hP hD hS 0 rfl rfl 10 (by decide) (hts _ wm_253) (fun _ h9 => h9) rfl (by decide +kernel) rfl rfl (Nat.le_of_ble_eq_true rfl) dM_walk_2 (fun H locs hP hD hS => ?_)
  have hP : va_P D vwCl (wM cc q (mkM x.nn x.by_ x.line x.stp x.let_ x.oth x.clk x.app x.wts x.gon 0 x.txt x.spr)) H := hP
  have hD : va_D A (wM cc q (mkM x.nn x.by_ x.line x.stp x.let_ x.oth x.clk x.app x.wts x.gon 0 x.txt x.spr)) := hD
  have ok1 : okM (mkM x.nn x.by_ x.line x.stp x.let_ x.oth x.clk x.app x.wts x.gon 0 x.txt x.spr) := okM_wt ok (by decide) ok.txt100
  refine lv_aload_n hx hb dM_walk_5 rfl (lv_at hl 0 rfl) ?_
  refine lv_iload_n hx hb dM_walk_6 rfl (lv_at hl 1 rfl) ?_
  refine lv_iconst (v := sI (0)) hx hb dM_walk_7 (by decide) ?_
  refine W.callR (W.runV (As := [.int (nI (r)), .int (sI (0))]) (rest := []) S (kM_next D cc q (mkM x.nn x.by_ x.line x.stp x.let_ x.oth x.clk x.app x.wts x.gon 0 x.txt x.spr) (r) (0) (by omega) (Nat.zero_le _) hpar ok1) (cwV 2 hts (gd_V wm_279 wm_280 wm_380 wm_4 wm_281) rfl rfl rfl (by decide +kernel) ⟨Nat.le_of_ble_eq_true rfl, Nat.le_of_ble_eq_true rfl⟩) (rd_preV (q0 := 0) hP hE rfl rfl) rfl rfl hl.1 rfl (lv_room (Nat.le_of_ble_eq_true rfl)) dM_walk_8 ⟨Nat.le_of_ble_eq_true rfl, Nat.le_of_ble_eq_true rfl⟩) ?_
  refine W.eq (g2 := F0 m 11 ls [.int (sI (nxtM (mkM x.nn x.by_ x.line x.stp x.let_ x.oth x.clk x.app x.wts x.gon 0 x.txt x.spr) (r) (0)))]) rfl ?_
  refine r_top (y := sI (nxtM x (r) (0))) rfl ?_
  refine lv_istore_n (lv' := [(2, .int (sI (nxtM x (r) (0)))), (0, .ref (q 0)), (1, .int (nI (r)))]) hx hb dM_walk_11 rfl hl (by decide) rfl (fun ls hl => ?_)
  exact L12 (xs.length + 1) (nxtM x (r) (0)) (xs) (0) (x.txt) H locs hP hD hS ls (by first | exact ch_le hv0 hle (Nat.zero_le _) | exact ch_le (ch_next hz3) (fun z hz => h5 z (List.mem_cons_of_mem _ hz)) (Nat.zero_le _)) (by first | exact hv0 | exact ch_next hz3) (by first | exact Nat.lt_succ_self _ | (simp only [List.length_cons] at h2; omega)) (by first | (rw [Nat.zero_add]; exact hlen) | (simp only [List.length_cons] at h3; omega)) (by first | rfl | (rw [← h4, wrtF_t c_22]; done) | (rw [← h4, wrtF_f c_22]; done)) (by first | exact hle | exact (fun z hz => h5 z (List.mem_cons_of_mem _ hz))) (by first | exact ok.txt100 | exact h6 | exact up_lt100 h6 (by omega)) (lv_sub hl [1, 2, 0] rfl)
end
section
def rmM_issue : Room := { frames := 2, cells := 0, slots := 0, locals := 46 }
set_option maxHeartbeats 4000000 in
set_option maxRecDepth 100000 in
theorem kM_issue {l : Launch} (D : va_G) (cc : Nat → ClassId) (q : Nat → Nat) (x : MS) (sz : Nat) (r ch t : Nat) (hr : r < 3) (hch : ch < 65536) (ht : t ≤ 100) (hnn : x.nn < 100) (hg : gstM x r x.nn < 999) (ok : okM x) : Met l yM_issue wsM_issue rmM_issue (va_Pc [.ref (q 0), .int (nI (r)), .int (nI (ch)), .int (sI (t))] (WP D cc (wM cc q x) sz)) (va_Qi (fun v (_ : Unit) => v = nI x.nn) (WQ D cc (va_A (wM cc q x) sz) (fun _ : Unit => wM cc q (issM x r ch t))) (va_A (wM cc q x) sz)) 0 0 (va_A (wM cc q x) sz) := by
  refine wr_meti RM [.ref (q 0), .int (nI (r)), .int (nI (ch)), .int (sI (t))] D cc (wM cc q x) sz (fun _ : Unit => wM cc q (issM x r ch t)) _ (by decide) rfl rfl (Nat.le_of_ble_eq_true rfl) (fun v _ _ => vp_nar_int v) ?_
  intro p e s m args below meth c Q A S hP hE hD hA kx ls hl
  obtain ⟨hx, hb, hml, hown, hts⟩ := id S
  have hK := hE.1
  have hts := hE.ts args
  have S : CallFix p m c cM_issue 7 s args wAll RM := ⟨hx, hb, hml, hown, hts⟩
  have hS : va_S A s.heap s.heap [] := va_S.rf
  have hn := ok.n
  have hl : lv_has ls 7 [(0, .ref (q 0)), (1, .int (nI (r))), (2, .int (nI (ch))), (3, .int (sI (t)))] := hl
  have L137 : ∀ (n : Nat) (j : Nat) (H : Heap) (locs : List Loc) (hP : va_P D vwCl (wM cc q (mkM (x.nn + 1) (va_up x.by_ x.nn r) (va_up x.line x.nn (cntF (va_up x.by_ x.nn r) x.app r r x.nn + 1)) (va_up x.stp x.nn (gstM x r x.nn + 1)) (va_up x.let_ x.nn ch) (va_up x.oth x.nn t) (clkU x.clk x.nn (fun j => cntF (va_up x.by_ x.nn r) (va_up x.app (100 * r + x.nn) true) r j (x.nn + 1)) j) (va_up x.app (100 * r + x.nn) true) x.wts x.gon x.len x.txt x.spr)) H) (hD : va_D A (wM cc q (mkM (x.nn + 1) (va_up x.by_ x.nn r) (va_up x.line x.nn (cntF (va_up x.by_ x.nn r) x.app r r x.nn + 1)) (va_up x.stp x.nn (gstM x r x.nn + 1)) (va_up x.let_ x.nn ch) (va_up x.oth x.nn t) (clkU x.clk x.nn (fun j => cntF (va_up x.by_ x.nn r) (va_up x.app (100 * r + x.nn) true) r j (x.nn + 1)) j) (va_up x.app (100 * r + x.nn) true) x.wts x.gon x.len x.txt x.spr))) (hS : va_S A s.heap H locs) (ls : Array Slot) (h1 : j ≤ 3) (h2 : 3 - j < n), lv_has ls 7 [(0, .ref (q 0)), (1, .int (nI (r))), (2, .int (nI (ch))), (3, .int (sI (t))), (4, .int (nI (x.nn))), (6, .int (nI (j)))] → W p l e rmM_issue s m args below meth c H locs 0 0 Q (F0 m 137 ls []) := by
    intro n
    induction n with
    | zero => intro j H locs hP hD hS ls h1 h2 hl; exact absurd h2 (Nat.not_lt_zero _)
    | succ n ih2 =>
      intro j H locs hP hD hS ls h1 h2 hl
      have ok8 := (show okM (mkM (x.nn + 1) (va_up x.by_ x.nn r) (va_up x.line x.nn (cntF (va_up x.by_ x.nn r) x.app r r x.nn + 1)) (va_up x.stp x.nn (gstM x r x.nn + 1)) (va_up x.let_ x.nn ch) (va_up x.oth x.nn t) (clkU x.clk x.nn (fun j => cntF (va_up x.by_ x.nn r) (va_up x.app (100 * r + x.nn) true) r j (x.nn + 1)) j) (va_up x.app (100 * r + x.nn) true) x.wts x.gon x.len x.txt x.spr) from okM_mk (by omega) ok.len (up_lt ok.by3 hr) (up_lt ok.line3 (by have := cntF_le (va_up x.by_ x.nn r) x.app r r x.nn; omega)) (up_lt ok.stp3 (by omega)) (up_lt ok.let5 hch) (up_le ok.oth100 ht) (clkU_lt ok.clk3 (fun j => by have := cntF_le (va_up x.by_ x.nn r) (va_up x.app (100 * r + x.nn) true) r j (x.nn + 1); omega) j) ok.txt100 ok.spr5)
      refine lv_iload hx hb dM_issue_137 (lv_at hl 5 rfl) ?_
      refine lv_iconst (v := nI (3)) hx hb dM_issue_139 (by decide) ?_
      refine r_ge (by omega) (by decide) (tgt := 168) hx hb dM_issue_140 (by decide) (fun c_140 => ?_) (fun c_140 => ?_)
      · refine lv_iload hx hb dM_issue_168 (lv_at hl 4 rfl) ?_
        obtain rfl : j = 3 := by omega
        exact kx _ _ _ _ _ () dM_issue_170 hS hP hD rfl
      · refine lv_aload_n hx hb dM_issue_143 rfl (lv_at hl 0 rfl) ?_
        refine va_get (D := D) (ci := 3) (v := .ref (q 6)) (C := RM) (T := TM) (N := 13) hx hb hts in_M hown hK hP 0 rfl rfl 6 (by decide) (hts _ wm_249) (fun _ h9 => h9) rfl dM_issue_144 ?_
        refine lv_iconst (v := nI (3)) hx hb dM_issue_147 (by decide) ?_
        refine lv_iload hx hb dM_issue_148 (lv_at hl 4 rfl) ?_
        refine r_mul hx hb dM_issue_150 ?_
        refine lv_iload hx hb dM_issue_151 (lv_at hl 5 rfl) ?_
        refine r_add hx hb dM_issue_153 ?_
        refine lv_aload_n hx hb dM_issue_154 rfl (lv_at hl 0 rfl) ?_
        refine lv_iload_n hx hb dM_issue_155 rfl (lv_at hl 1 rfl) ?_
        refine lv_iload hx hb dM_issue_156 (lv_at hl 5 rfl) ?_
        refine W.callR (W.runV (As := [.int (nI (r)), .int (nI (j))]) (rest := [.int (nI ((3 * x.nn) + j)), .ref (q 6)]) S (kM_count D cc q (mkM (x.nn + 1) (va_up x.by_ x.nn r) (va_up x.line x.nn (cntF (va_up x.by_ x.nn r) x.app r r x.nn + 1)) (va_up x.stp x.nn (gstM x r x.nn + 1)) (va_up x.let_ x.nn ch) (va_up x.oth x.nn t) (clkU x.clk x.nn (fun j => cntF (va_up x.by_ x.nn r) (va_up x.app (100 * r + x.nn) true) r j (x.nn + 1)) j) (va_up x.app (100 * r + x.nn) true) x.wts x.gon x.len x.txt x.spr) (r) (j) (by omega) (by omega) ok8) (cwV 2 hts (gd_V wm_297 wm_298 wm_386 wm_4 wm_299) rfl rfl rfl (by decide +kernel) ⟨Nat.le_of_ble_eq_true rfl, Nat.le_of_ble_eq_true rfl⟩) (rd_preV (q0 := 0) hP hE rfl rfl) rfl rfl hl.1 rfl (lv_room (Nat.le_of_ble_eq_true rfl)) dM_issue_158 ⟨Nat.le_of_ble_eq_true rfl, Nat.le_of_ble_eq_true rfl⟩) ?_
        refine W.eq (g2 := F0 m 161 ls [.int (nI (cntM (mkM (x.nn + 1) (va_up x.by_ x.nn r) (va_up x.line x.nn (cntF (va_up x.by_ x.nn r) x.app r r x.nn + 1)) (va_up x.stp x.nn (gstM x r x.nn + 1)) (va_up x.let_ x.nn ch) (va_up x.oth x.nn t) (clkU x.clk x.nn (fun j => cntF (va_up x.by_ x.nn r) (va_up x.app (100 * r + x.nn) true) r j (x.nn + 1)) j) (va_up x.app (100 * r + x.nn) true) x.wts x.gon x.len x.txt x.spr) (r) (j) (mkM (x.nn + 1) (va_up x.by_ x.nn r) (va_up x.line x.nn (cntF (va_up x.by_ x.nn r) x.app r r x.nn + 1)) (va_up x.stp x.nn (gstM x r x.nn + 1)) (va_up x.let_ x.nn ch) (va_up x.oth x.nn t) (clkU x.clk x.nn (fun j => cntF (va_up x.by_ x.nn r) (va_up x.app (100 * r + x.nn) true) r j (x.nn + 1)) j) (va_up x.app (100 * r + x.nn) true) x.wts x.gon x.len x.txt x.spr).nn)), .int (nI ((3 * x.nn) + j)), .ref (q 6)]) rfl ?_
        refine r_top (y := nI (cntF (va_up x.by_ x.nn r) (va_up x.app (100 * r + x.nn) true) r j (x.nn + 1))) rfl ?_
        refine r_iast nI ((clkU x.clk x.nn (fun j => cntF (va_up x.by_ x.nn r) (va_up x.app (100 * r + x.nn) true) r j (x.nn + 1)) j)) (cntF (va_up x.by_ x.nn r) (va_up x.app (100 * r + x.nn) true) r j (x.nn + 1)) (q0 := 6) (t0 := 0) hx hb hK hP hD hS rfl rfl (by omega) (by decide) dM_issue_161 (fun H locs hP hD hS => ?_)
        have hP : va_P D vwCl (wM cc q (mkM (x.nn + 1) (va_up x.by_ x.nn r) (va_up x.line x.nn (cntF (va_up x.by_ x.nn r) x.app r r x.nn + 1)) (va_up x.stp x.nn (gstM x r x.nn + 1)) (va_up x.let_ x.nn ch) (va_up x.oth x.nn t) (clkU x.clk x.nn (fun j => cntF (va_up x.by_ x.nn r) (va_up x.app (100 * r + x.nn) true) r j (x.nn + 1)) (j + 1)) (va_up x.app (100 * r + x.nn) true) x.wts x.gon x.len x.txt x.spr)) H := hP
        have hD : va_D A (wM cc q (mkM (x.nn + 1) (va_up x.by_ x.nn r) (va_up x.line x.nn (cntF (va_up x.by_ x.nn r) x.app r r x.nn + 1)) (va_up x.stp x.nn (gstM x r x.nn + 1)) (va_up x.let_ x.nn ch) (va_up x.oth x.nn t) (clkU x.clk x.nn (fun j => cntF (va_up x.by_ x.nn r) (va_up x.app (100 * r + x.nn) true) r j (x.nn + 1)) (j + 1)) (va_up x.app (100 * r + x.nn) true) x.wts x.gon x.len x.txt x.spr)) := hD
        refine lv_iinc (v := nI (j + 1)) (lv' := [(6, .int (nI (j + 1))), (0, .ref (q 0)), (1, .int (nI (r))), (2, .int (nI (ch))), (3, .int (sI (t))), (4, .int (nI (x.nn)))]) hx hb dM_issue_162 hl (k := 5) rfl (nI_1 _) (by decide) rfl (fun ls hl => ?_)
        refine lv_goto (tgt := 137) hx hb dM_issue_165 (by decide) ?_
        exact ih2  (j + 1) H locs hP hD hS ls (by omega) (by omega) (lv_sub hl [1, 2, 3, 4, 5, 0] rfl)
  have L12 : ∀ (n : Nat) (g : Nat) (k : Nat) (H : Heap) (locs : List Loc) (hP : va_P D vwCl (wM cc q (x)) H) (hD : va_D A (wM cc q (x))) (hS : va_S A s.heap H locs) (ls : Array Slot) (h1 : k ≤ x.nn) (h2 : x.nn - k < n) (h3 : g = gstM x r k), lv_has ls 7 [(0, .ref (q 0)), (1, .int (nI (r))), (2, .int (nI (ch))), (3, .int (sI (t))), (4, .int (nI (x.nn))), (5, .int (nI (g))), (6, .int (nI (k)))] → W p l e rmM_issue s m args below meth c H locs 0 0 Q (F0 m 12 ls []) := by
    intro n
    induction n with
    | zero => intro g k H locs hP hD hS ls h1 h2 h3 hl; exact absurd h2 (Nat.not_lt_zero _)
    | succ n ih =>
      intro g k H locs hP hD hS ls h1 h2 h3 hl
      have hgl := gstM_lt ok r k
      rw [← h3] at hgl
      refine lv_iload hx hb dM_issue_12 (lv_at hl 6 rfl) ?_
      refine lv_iload hx hb dM_issue_14 (lv_at hl 4 rfl) ?_
      refine r_ge (by omega) (by omega) (tgt := 61) hx hb dM_issue_16 (by decide) (fun c_16 => ?_) (fun c_16 => ?_)
      · obtain rfl : k = x.nn := by omega
        subst h3
        refine lv_aload_n hx hb dM_issue_61 rfl (lv_at hl 0 rfl) ?_
        refine va_get (D := D) (ci := 3) (v := .ref (q 1)) (C := RM) (T := TM) (N := 13) hx hb hts in_M hown hK hP 0 rfl rfl 1 (by decide) (hts _ wm_244) (fun _ h9 => h9) rfl dM_issue_62 ?_
        refine lv_iload hx hb dM_issue_65 (lv_at hl 4 rfl) ?_
        refine lv_iload_n hx hb dM_issue_67 rfl (lv_at hl 1 rfl) ?_
        refine r_iast nI x.by_ (r) (q0 := 1) (t0 := 0) hx hb hK hP hD hS rfl rfl (by omega) (by decide) dM_issue_68 (fun H locs hP hD hS => ?_)
        have hP : va_P D vwCl (wM cc q (mkM x.nn (va_up x.by_ x.nn r) x.line x.stp x.let_ x.oth x.clk x.app x.wts x.gon x.len x.txt x.spr)) H := hP
        have hD : va_D A (wM cc q (mkM x.nn (va_up x.by_ x.nn r) x.line x.stp x.let_ x.oth x.clk x.app x.wts x.gon x.len x.txt x.spr)) := hD
        refine lv_aload_n hx hb dM_issue_69 rfl (lv_at hl 0 rfl) ?_
        refine va_get (D := D) (ci := 3) (v := .ref (q 3)) (C := RM) (T := TM) (N := 13) hx hb hts in_M hown hK hP 0 rfl rfl 3 (by decide) (hts _ wm_246) (fun _ h9 => h9) rfl dM_issue_70 ?_
        refine lv_iload hx hb dM_issue_73 (lv_at hl 4 rfl) ?_
        refine lv_iload hx hb dM_issue_75 (lv_at hl 5 rfl) ?_
        refine lv_iconst (v := nI (1)) hx hb dM_issue_77 (by decide) ?_
        refine r_add hx hb dM_issue_78 ?_
        refine r_iast nI x.stp ((gstM x r x.nn) + 1) (q0 := 3) (t0 := 0) hx hb hK hP hD hS rfl rfl (by omega) (by decide) dM_issue_79 (fun H locs hP hD hS => ?_)
        have hP : va_P D vwCl (wM cc q (mkM x.nn (va_up x.by_ x.nn r) x.line (va_up x.stp x.nn (gstM x r x.nn + 1)) x.let_ x.oth x.clk x.app x.wts x.gon x.len x.txt x.spr)) H := hP
        have hD : va_D A (wM cc q (mkM x.nn (va_up x.by_ x.nn r) x.line (va_up x.stp x.nn (gstM x r x.nn + 1)) x.let_ x.oth x.clk x.app x.wts x.gon x.len x.txt x.spr)) := hD
        refine lv_aload_n hx hb dM_issue_80 rfl (lv_at hl 0 rfl) ?_
        refine va_get (D := D) (ci := 3) (v := .ref (q 4)) (C := RM) (T := TM) (N := 13) hx hb hts in_M hown hK hP 0 rfl rfl 4 (by decide) (hts _ wm_247) (fun _ h9 => h9) rfl dM_issue_81 ?_
        refine lv_iload hx hb dM_issue_84 (lv_at hl 4 rfl) ?_
        refine lv_iload_n hx hb dM_issue_86 rfl (lv_at hl 2 rfl) ?_
        refine r_iast nI x.let_ (ch) (q0 := 4) (t0 := 0) hx hb hK hP hD hS rfl rfl (by omega) (by decide) dM_issue_87 (fun H locs hP hD hS => ?_)
        have hP : va_P D vwCl (wM cc q (mkM x.nn (va_up x.by_ x.nn r) x.line (va_up x.stp x.nn (gstM x r x.nn + 1)) (va_up x.let_ x.nn ch) x.oth x.clk x.app x.wts x.gon x.len x.txt x.spr)) H := hP
        have hD : va_D A (wM cc q (mkM x.nn (va_up x.by_ x.nn r) x.line (va_up x.stp x.nn (gstM x r x.nn + 1)) (va_up x.let_ x.nn ch) x.oth x.clk x.app x.wts x.gon x.len x.txt x.spr)) := hD
        refine lv_aload_n hx hb dM_issue_88 rfl (lv_at hl 0 rfl) ?_
        refine va_get (D := D) (ci := 3) (v := .ref (q 5)) (C := RM) (T := TM) (N := 13) hx hb hts in_M hown hK hP 0 rfl rfl 5 (by decide) (hts _ wm_248) (fun _ h9 => h9) rfl dM_issue_89 ?_
        refine lv_iload hx hb dM_issue_92 (lv_at hl 4 rfl) ?_
        refine lv_iload_n hx hb dM_issue_94 rfl (lv_at hl 3 rfl) ?_
        refine r_iast sI x.oth (t) (q0 := 5) (t0 := 0) hx hb hK hP hD hS rfl rfl (by omega) (by decide) dM_issue_95 (fun H locs hP hD hS => ?_)
        have hP : va_P D vwCl (wM cc q (mkM x.nn (va_up x.by_ x.nn r) x.line (va_up x.stp x.nn (gstM x r x.nn + 1)) (va_up x.let_ x.nn ch) (va_up x.oth x.nn t) x.clk x.app x.wts x.gon x.len x.txt x.spr)) H := hP
        have hD : va_D A (wM cc q (mkM x.nn (va_up x.by_ x.nn r) x.line (va_up x.stp x.nn (gstM x r x.nn + 1)) (va_up x.let_ x.nn ch) (va_up x.oth x.nn t) x.clk x.app x.wts x.gon x.len x.txt x.spr)) := hD
        have ok4 : okM (mkM x.nn (va_up x.by_ x.nn r) x.line (va_up x.stp x.nn (gstM x r x.nn + 1)) (va_up x.let_ x.nn ch) (va_up x.oth x.nn t) x.clk x.app x.wts x.gon x.len x.txt x.spr) := okM_mk ok.n ok.len (up_lt ok.by3 hr) ok.line3 (up_lt ok.stp3 (by omega)) (up_lt ok.let5 hch) (up_le ok.oth100 ht) ok.clk3 ok.txt100 ok.spr5
        refine lv_aload_n hx hb dM_issue_96 rfl (lv_at hl 0 rfl) ?_
        refine va_get (D := D) (ci := 3) (v := .ref (q 2)) (C := RM) (T := TM) (N := 13) hx hb hts in_M hown hK hP 0 rfl rfl 2 (by decide) (hts _ wm_245) (fun _ h9 => h9) rfl dM_issue_97 ?_
        refine lv_iload hx hb dM_issue_100 (lv_at hl 4 rfl) ?_
        refine lv_aload_n hx hb dM_issue_102 rfl (lv_at hl 0 rfl) ?_
        refine lv_iload_n hx hb dM_issue_103 rfl (lv_at hl 1 rfl) ?_
        refine lv_iload_n hx hb dM_issue_104 rfl (lv_at hl 1 rfl) ?_
        refine W.callR (W.runV (As := [.int (nI (r)), .int (nI (r))]) (rest := [.int (nI (x.nn)), .ref (q 2)]) S (kM_count D cc q (mkM x.nn (va_up x.by_ x.nn r) x.line (va_up x.stp x.nn (gstM x r x.nn + 1)) (va_up x.let_ x.nn ch) (va_up x.oth x.nn t) x.clk x.app x.wts x.gon x.len x.txt x.spr) (r) (r) (by omega) (by omega) ok4) (cwV 2 hts (gd_V wm_297 wm_298 wm_386 wm_4 wm_299) rfl rfl rfl (by decide +kernel) ⟨Nat.le_of_ble_eq_true rfl, Nat.le_of_ble_eq_true rfl⟩) (rd_preV (q0 := 0) hP hE rfl rfl) rfl rfl hl.1 rfl (lv_room (Nat.le_of_ble_eq_true rfl)) dM_issue_105 ⟨Nat.le_of_ble_eq_true rfl, Nat.le_of_ble_eq_true rfl⟩) ?_
        refine W.eq (g2 := F0 m 108 ls [.int (nI (cntM (mkM x.nn (va_up x.by_ x.nn r) x.line (va_up x.stp x.nn (gstM x r x.nn + 1)) (va_up x.let_ x.nn ch) (va_up x.oth x.nn t) x.clk x.app x.wts x.gon x.len x.txt x.spr) (r) (r) (mkM x.nn (va_up x.by_ x.nn r) x.line (va_up x.stp x.nn (gstM x r x.nn + 1)) (va_up x.let_ x.nn ch) (va_up x.oth x.nn t) x.clk x.app x.wts x.gon x.len x.txt x.spr).nn)), .int (nI (x.nn)), .ref (q 2)]) rfl ?_
        refine r_top (y := nI (cntF (va_up x.by_ x.nn r) x.app r r x.nn)) rfl ?_
        refine lv_iconst (v := nI (1)) hx hb dM_issue_108 (by decide) ?_
        refine r_add hx hb dM_issue_109 ?_
        refine r_iast nI x.line ((cntF (va_up x.by_ x.nn r) x.app r r x.nn) + 1) (q0 := 2) (t0 := 0) hx hb hK hP hD hS rfl rfl (by omega) (by decide) dM_issue_110 (fun H locs hP hD hS => ?_)
        have hP : va_P D vwCl (wM cc q (mkM x.nn (va_up x.by_ x.nn r) (va_up x.line x.nn (cntF (va_up x.by_ x.nn r) x.app r r x.nn + 1)) (va_up x.stp x.nn (gstM x r x.nn + 1)) (va_up x.let_ x.nn ch) (va_up x.oth x.nn t) x.clk x.app x.wts x.gon x.len x.txt x.spr)) H := hP
        have hD : va_D A (wM cc q (mkM x.nn (va_up x.by_ x.nn r) (va_up x.line x.nn (cntF (va_up x.by_ x.nn r) x.app r r x.nn + 1)) (va_up x.stp x.nn (gstM x r x.nn + 1)) (va_up x.let_ x.nn ch) (va_up x.oth x.nn t) x.clk x.app x.wts x.gon x.len x.txt x.spr)) := hD
        refine lv_aload_n hx hb dM_issue_111 rfl (lv_at hl 0 rfl) ?_
        refine lv_dup hx hb dM_issue_112 rfl ?_
        refine va_get (D := D) (ci := 3) (v := .int (nI (x.nn))) (C := RM) (T := TM) (N := 13) hx hb hts in_M hown hK hP 0 rfl rfl 0 (by decide) (hts _ wm_243) (fun _ h9 => h9) rfl dM_issue_113 ?_
        refine lv_iconst (v := nI (1)) hx hb dM_issue_116 (by decide) ?_
        refine r_add hx hb dM_issue_117 ?_
        refine va_put (D := D) (ci := 3) (v := .int (nI (x.nn + 1))) (ty := .int) (C := RM) (T := TM) (N := 13) hx hb hts in_M tyM tyM_ok nmM hown hK hP hD hS 0 rfl rfl 0 (by decide) (hts _ wm_243) (fun _ h9 => h9) rfl (by decide +kernel) rfl rfl (Nat.le_of_ble_eq_true rfl) dM_issue_118 (fun H locs hP hD hS => ?_)
        have hP : va_P D vwCl (wM cc q (mkM (x.nn + 1) (va_up x.by_ x.nn r) (va_up x.line x.nn (cntF (va_up x.by_ x.nn r) x.app r r x.nn + 1)) (va_up x.stp x.nn (gstM x r x.nn + 1)) (va_up x.let_ x.nn ch) (va_up x.oth x.nn t) x.clk x.app x.wts x.gon x.len x.txt x.spr)) H := hP
        have hD : va_D A (wM cc q (mkM (x.nn + 1) (va_up x.by_ x.nn r) (va_up x.line x.nn (cntF (va_up x.by_ x.nn r) x.app r r x.nn + 1)) (va_up x.stp x.nn (gstM x r x.nn + 1)) (va_up x.let_ x.nn ch) (va_up x.oth x.nn t) x.clk x.app x.wts x.gon x.len x.txt x.spr)) := hD
        refine lv_aload_n hx hb dM_issue_121 rfl (lv_at hl 0 rfl) ?_
        refine va_get (D := D) (ci := 3) (v := .ref (q 7)) (C := RM) (T := TM) (N := 13) hx hb hts in_M hown hK hP 0 rfl rfl 7 (by decide) (hts _ wm_250) (fun _ h9 => h9) rfl dM_issue_122 ?_
        refine lv_bipush (v := nI (100)) hx hb dM_issue_125 (by decide) ?_
        refine lv_iload_n hx hb dM_issue_127 rfl (lv_at hl 1 rfl) ?_
        refine r_mul hx hb dM_issue_128 ?_
        refine lv_iload hx hb dM_issue_129 (lv_at hl 4 rfl) ?_
        refine r_add hx hb dM_issue_131 ?_
        refine lv_iconst (v := nI (1)) hx hb dM_issue_132 (by decide) ?_
        refine r_top (y := bI (true)) (by decide) ?_
        refine r_zast x.app (true) (q0 := 7) (t0 := 1) hx hb hK hP hD hS rfl rfl (by omega) (by decide) dM_issue_133 (fun H locs hP hD hS => ?_)
        have hP : va_P D vwCl (wM cc q (mkM (x.nn + 1) (va_up x.by_ x.nn r) (va_up x.line x.nn (cntF (va_up x.by_ x.nn r) x.app r r x.nn + 1)) (va_up x.stp x.nn (gstM x r x.nn + 1)) (va_up x.let_ x.nn ch) (va_up x.oth x.nn t) x.clk (va_up x.app (100 * r + x.nn) true) x.wts x.gon x.len x.txt x.spr)) H := hP
        have hD : va_D A (wM cc q (mkM (x.nn + 1) (va_up x.by_ x.nn r) (va_up x.line x.nn (cntF (va_up x.by_ x.nn r) x.app r r x.nn + 1)) (va_up x.stp x.nn (gstM x r x.nn + 1)) (va_up x.let_ x.nn ch) (va_up x.oth x.nn t) x.clk (va_up x.app (100 * r + x.nn) true) x.wts x.gon x.len x.txt x.spr)) := hD
        have ok7 : okM (mkM (x.nn + 1) (va_up x.by_ x.nn r) (va_up x.line x.nn (cntF (va_up x.by_ x.nn r) x.app r r x.nn + 1)) (va_up x.stp x.nn (gstM x r x.nn + 1)) (va_up x.let_ x.nn ch) (va_up x.oth x.nn t) x.clk (va_up x.app (100 * r + x.nn) true) x.wts x.gon x.len x.txt x.spr) := okM_mk (by omega) ok.len (up_lt ok.by3 hr) (up_lt ok.line3 (by have := cntF_le (va_up x.by_ x.nn r) x.app r r x.nn; omega)) (up_lt ok.stp3 (by omega)) (up_lt ok.let5 hch) (up_le ok.oth100 ht) ok.clk3 ok.txt100 ok.spr5
        refine lv_iconst (v := nI (0)) hx hb dM_issue_134 (by decide) ?_
        refine lv_istore (lv' := [(6, .int (nI (0))), (0, .ref (q 0)), (1, .int (nI (r))), (2, .int (nI (ch))), (3, .int (sI (t))), (4, .int (nI (x.nn))), (5, .int (nI (gstM x r x.nn)))]) hx hb dM_issue_135 hl (by decide) rfl (fun ls hl => ?_)
        exact L137 (4) (0) H locs hP hD hS ls (by omega) (by omega) (lv_sub hl [1, 2, 3, 4, 5, 0] rfl)
      · refine lv_aload_n hx hb dM_issue_19 rfl (lv_at hl 0 rfl) ?_
        refine lv_iload_n hx hb dM_issue_20 rfl (lv_at hl 1 rfl) ?_
        refine lv_iload hx hb dM_issue_21 (lv_at hl 6 rfl) ?_
        refine W.callR (W.runV (As := [.int (nI (r)), .int (nI (k))]) (rest := []) S (kM_has D cc q x (r) (k) (by omega) (by omega)) (cwV 2 hts (gd_V wm_285 wm_286 wm_382 wm_4 wm_287) rfl rfl rfl (by decide +kernel) ⟨Nat.le_of_ble_eq_true rfl, Nat.le_of_ble_eq_true rfl⟩) (rd_preV (q0 := 0) hP hE rfl rfl) rfl rfl hl.1 rfl (lv_room (Nat.le_of_ble_eq_true rfl)) dM_issue_23 ⟨Nat.le_of_ble_eq_true rfl, Nat.le_of_ble_eq_true rfl⟩) ?_
        refine W.eq (g2 := F0 m 26 ls [.int (bI (x.app (100 * (r) + (k))))]) rfl ?_
        refine r_eqB (tgt := 51) hx hb dM_issue_26 (by decide) (fun c_26 => ?_) (fun c_26 => ?_)
        · refine lv_iload hx hb dM_issue_51 (lv_at hl 5 rfl) ?_
          refine lv_istore (lv' := [(5, .int (nI (g))), (0, .ref (q 0)), (1, .int (nI (r))), (2, .int (nI (ch))), (3, .int (sI (t))), (4, .int (nI (x.nn))), (6, .int (nI (k)))]) hx hb dM_issue_53 hl (by decide) rfl (fun ls hl => ?_)
          refine lv_iinc (v := nI (k + 1)) (lv' := [(6, .int (nI (k + 1))), (5, .int (nI (g))), (0, .ref (q 0)), (1, .int (nI (r))), (2, .int (nI (ch))), (3, .int (sI (t))), (4, .int (nI (x.nn)))]) hx hb dM_issue_55 hl (k := 6) rfl (nI_1 _) (by decide) rfl (fun ls hl => ?_)
          refine lv_goto (tgt := 12) hx hb dM_issue_58 (by decide) ?_
          exact ih  (g) (k + 1) H locs hP hD hS ls (by omega) (by omega) (by first | rfl | (rw [gstM_t (x := x) (r := r) (n := k) c_26 (by rw [← h3]; exact c_38)]; done) | (rw [gstM_f1 (x := x) (r := r) (n := k) c_26]; exact h3) | (rw [gstM_f2 (x := x) (r := r) (n := k) (by rw [← h3]; exact c_38)]; exact h3)) (lv_sub hl [2, 3, 4, 5, 6, 1, 0] rfl)
        · refine lv_aload_n hx hb dM_issue_29 rfl (lv_at hl 0 rfl) ?_
          refine va_get (D := D) (ci := 3) (v := .ref (q 3)) (C := RM) (T := TM) (N := 13) hx hb hts in_M hown hK hP 0 rfl rfl 3 (by decide) (hts _ wm_246) (fun _ h9 => h9) rfl dM_issue_30 ?_
          refine lv_iload hx hb dM_issue_33 (lv_at hl 6 rfl) ?_
          refine r_iald (q0 := 3) (t0 := 0) hx hb hK hP rfl rfl (by omega) (by decide) dM_issue_35 ?_
          refine lv_iload hx hb dM_issue_36 (lv_at hl 5 rfl) ?_
          refine r_le (ok.stp (k)) (by omega) (tgt := 51) hx hb dM_issue_38 (by decide) (fun c_38 => ?_) (fun c_38 => ?_)
          · refine lv_iload hx hb dM_issue_51 (lv_at hl 5 rfl) ?_
            refine lv_istore (lv' := [(5, .int (nI (g))), (0, .ref (q 0)), (1, .int (nI (r))), (2, .int (nI (ch))), (3, .int (sI (t))), (4, .int (nI (x.nn))), (6, .int (nI (k)))]) hx hb dM_issue_53 hl (by decide) rfl (fun ls hl => ?_)
            refine lv_iinc (v := nI (k + 1)) (lv' := [(6, .int (nI (k + 1))), (5, .int (nI (g))), (0, .ref (q 0)), (1, .int (nI (r))), (2, .int (nI (ch))), (3, .int (sI (t))), (4, .int (nI (x.nn)))]) hx hb dM_issue_55 hl (k := 6) rfl (nI_1 _) (by decide) rfl (fun ls hl => ?_)
            refine lv_goto (tgt := 12) hx hb dM_issue_58 (by decide) ?_
            exact ih  (g) (k + 1) H locs hP hD hS ls (by omega) (by omega) (by first | rfl | (rw [gstM_t (x := x) (r := r) (n := k) c_26 (by rw [← h3]; exact c_38)]; done) | (rw [gstM_f1 (x := x) (r := r) (n := k) c_26]; exact h3) | (rw [gstM_f2 (x := x) (r := r) (n := k) (by rw [← h3]; exact c_38)]; exact h3)) (lv_sub hl [2, 3, 4, 5, 6, 1, 0] rfl)
          · refine lv_aload_n hx hb dM_issue_41 rfl (lv_at hl 0 rfl) ?_
            refine va_get (D := D) (ci := 3) (v := .ref (q 3)) (C := RM) (T := TM) (N := 13) hx hb hts in_M hown hK hP 0 rfl rfl 3 (by decide) (hts _ wm_246) (fun _ h9 => h9) rfl dM_issue_42 ?_
            refine lv_iload hx hb dM_issue_45 (lv_at hl 6 rfl) ?_
            refine r_iald (q0 := 3) (t0 := 0) hx hb hK hP rfl rfl (by omega) (by decide) dM_issue_47 ?_
            refine lv_goto (tgt := 53) hx hb dM_issue_48 (by decide) ?_
            refine lv_istore (lv' := [(5, .int (nI (x.stp k))), (0, .ref (q 0)), (1, .int (nI (r))), (2, .int (nI (ch))), (3, .int (sI (t))), (4, .int (nI (x.nn))), (6, .int (nI (k)))]) hx hb dM_issue_53 hl (by decide) rfl (fun ls hl => ?_)
            refine lv_iinc (v := nI (k + 1)) (lv' := [(6, .int (nI (k + 1))), (5, .int (nI (x.stp k))), (0, .ref (q 0)), (1, .int (nI (r))), (2, .int (nI (ch))), (3, .int (sI (t))), (4, .int (nI (x.nn)))]) hx hb dM_issue_55 hl (k := 6) rfl (nI_1 _) (by decide) rfl (fun ls hl => ?_)
            refine lv_goto (tgt := 12) hx hb dM_issue_58 (by decide) ?_
            exact ih  (x.stp k) (k + 1) H locs hP hD hS ls (by omega) (by omega) (by first | rfl | (rw [gstM_t (x := x) (r := r) (n := k) c_26 (by rw [← h3]; exact c_38)]; done) | (rw [gstM_f1 (x := x) (r := r) (n := k) c_26]; exact h3) | (rw [gstM_f2 (x := x) (r := r) (n := k) (by rw [← h3]; exact c_38)]; exact h3)) (lv_sub hl [2, 3, 4, 5, 6, 1, 0] rfl)
  refine lv_aload_n hx hb dM_issue_0 rfl (lv_at hl 0 rfl) ?_
  refine va_get (D := D) (ci := 3) (v := .int (nI (x.nn))) (C := RM) (T := TM) (N := 13) hx hb hts in_M hown hK hP 0 rfl rfl 0 (by decide) (hts _ wm_243) (fun _ h9 => h9) rfl dM_issue_1 ?_
  refine lv_istore (lv' := [(4, .int (nI (x.nn))), (0, .ref (q 0)), (1, .int (nI (r))), (2, .int (nI (ch))), (3, .int (sI (t)))]) hx hb dM_issue_4 hl (by decide) rfl (fun ls hl => ?_)
  refine lv_iconst (v := nI (0)) hx hb dM_issue_6 (by decide) ?_
  refine lv_istore (lv' := [(5, .int (nI (0))), (4, .int (nI (x.nn))), (0, .ref (q 0)), (1, .int (nI (r))), (2, .int (nI (ch))), (3, .int (sI (t)))]) hx hb dM_issue_7 hl (by decide) rfl (fun ls hl => ?_)
  refine lv_iconst (v := nI (0)) hx hb dM_issue_9 (by decide) ?_
  refine lv_istore (lv' := [(6, .int (nI (0))), (5, .int (nI (0))), (4, .int (nI (x.nn))), (0, .ref (q 0)), (1, .int (nI (r))), (2, .int (nI (ch))), (3, .int (sI (t)))]) hx hb dM_issue_10 hl (by decide) rfl (fun ls hl => ?_)
  exact L12 (x.nn + 1) (0) (0) s.heap [] hP hD hS ls (by omega) (by omega) (by first | rfl | (rw [gstM_t (x := x) (r := r) (n := k) c_26 (by rw [← h3]; exact c_38)]; done) | (rw [gstM_f1 (x := x) (r := r) (n := k) c_26]; exact h3) | (rw [gstM_f2 (x := x) (r := r) (n := k) (by rw [← h3]; exact c_38)]; exact h3)) (lv_sub hl [3, 4, 5, 6, 2, 1, 0] rfl)
end
section
def rmM_deliver : Room := { frames := 3, cells := 0, slots := 0, locals := 70 }
set_option maxHeartbeats 4000000 in
set_option maxRecDepth 100000 in
theorem kM_deliver {l : Launch} (D : va_G) (cc : Nat → ClassId) (q : Nat → Nat) (x : MS) (sz : Nat) (z1 z2 : Int32) (hl1 : ∀ k, k < x.nn → 1 ≤ x.line k) (hid : ∀ r o, r < 3 → o < x.nn → idlD x r o) (ok : okM x) : Met l yM_deliver wsM_deliver rmM_deliver (va_Pc [.ref (q 0), .int (z1), .int (z2)] (WP D cc (wM cc q x) sz)) (va_Qi (RM_deliver x z1 z2) (WQ D cc (va_A (wM cc q x) sz) (fun u : MS => wM cc q u)) (va_A (wM cc q x) sz)) 0 0 (va_A (wM cc q x) sz) := by
  refine wr_meti RM [.ref (q 0), .int (z1), .int (z2)] D cc (wM cc q x) sz (fun u : MS => wM cc q u) _ (by decide) rfl rfl (Nat.le_of_ble_eq_true rfl) (fun v _ _ => vp_nar_int v) ?_
  intro p e s m args below meth c Q A S hP hE hD hA kx ls hl
  obtain ⟨hx, hb, hml, hown, hts⟩ := id S
  have hK := hE.1
  have hts := hE.ts args
  have S : CallFix p m c cM_deliver 6 s args wAll RM := ⟨hx, hb, hml, hown, hts⟩
  have hS : va_S A s.heap s.heap [] := va_S.rf
  have hn := ok.n
  have hl : lv_has ls 6 [(0, .ref (q 0)), (1, .int (z1)), (2, .int (z2))] := hl
  refine lv_iload_n hx hb dM_deliver_0 rfl (lv_at hl 1 rfl) ?_
  refine W.callR (W.runS (As := [.int (z1)]) (rest := []) S (kM_isReplica ((z1))) (va_cwS 1 hts (gd_S wm_273 wm_274 wm_4 wm_275) rfl rfl rfl (by decide +kernel) ⟨Nat.le_of_ble_eq_true rfl, Nat.le_of_ble_eq_true rfl⟩) preT rfl rfl hl.1 rfl (lv_room (Nat.le_of_ble_eq_true rfl)) dM_deliver_1 ⟨Nat.le_of_ble_eq_true rfl, Nat.le_of_ble_eq_true rfl⟩) ?_
  refine W.eq (g2 := F0 m 4 ls [.int (bI (isRep ((z1))))]) rfl ?_
  refine r_eqB (tgt := 15) hx hb dM_deliver_4 (by decide) (fun c_4 => ?_) (fun c_4 => ?_)
  · refine lv_iconst (v := sI (0)) hx hb dM_deliver_15 (by decide) ?_
    exact kx _ _ _ _ _ (x) dM_deliver_16 hS hP hD (by first | exact Or.inl ⟨Or.inl c_4, sI_0, rfl⟩ | exact Or.inl ⟨Or.inr c_12, sI_0, rfl⟩)
  · obtain ⟨r, hr_r, rfl⟩ := isRep_of c_4
    refine lv_aload_n hx hb dM_deliver_7 rfl (lv_at hl 0 rfl) ?_
    refine lv_iload_n hx hb dM_deliver_8 rfl (lv_at hl 2 rfl) ?_
    refine W.callR (W.runV (As := [.int (z2)]) (rest := []) S (kM_isOperation D cc q x ((z2)) ok) (cwV 1 hts (gd_V wm_308 wm_309 wm_387 wm_4 wm_310) rfl rfl rfl (by decide +kernel) ⟨Nat.le_of_ble_eq_true rfl, Nat.le_of_ble_eq_true rfl⟩) (rd_preV (q0 := 0) hP hE rfl rfl) rfl rfl hl.1 rfl (lv_room (Nat.le_of_ble_eq_true rfl)) dM_deliver_9 ⟨Nat.le_of_ble_eq_true rfl, Nat.le_of_ble_eq_true rfl⟩) ?_
    refine W.eq (g2 := F0 m 12 ls [.int (bI (isOp x.nn ((z2))))]) rfl ?_
    refine r_neB (tgt := 17) hx hb dM_deliver_12 (by decide) (fun c_12 => ?_) (fun c_12 => ?_)
    · obtain ⟨o, ho_o, rfl⟩ := isOp_of c_12
      refine lv_aload_n hx hb dM_deliver_17 rfl (lv_at hl 0 rfl) ?_
      refine lv_iload_n hx hb dM_deliver_18 rfl (lv_at hl 1 rfl) ?_
      refine lv_iload_n hx hb dM_deliver_19 rfl (lv_at hl 2 rfl) ?_
      refine W.callR (W.runV (As := [.int (nI (r)), .int (nI (o))]) (rest := []) S (kM_has D cc q x (r) (o) (by omega) (by omega)) (cwV 2 hts (gd_V wm_285 wm_286 wm_382 wm_4 wm_287) rfl rfl rfl (by decide +kernel) ⟨Nat.le_of_ble_eq_true rfl, Nat.le_of_ble_eq_true rfl⟩) (rd_preV (q0 := 0) hP hE rfl rfl) rfl rfl hl.1 rfl (lv_room (Nat.le_of_ble_eq_true rfl)) dM_deliver_20 ⟨Nat.le_of_ble_eq_true rfl, Nat.le_of_ble_eq_true rfl⟩) ?_
      refine W.eq (g2 := F0 m 23 ls [.int (bI (x.app (100 * (r) + (o))))]) rfl ?_
      refine r_neB (tgt := 40) hx hb dM_deliver_23 (by decide) (fun c_23 => ?_) (fun c_23 => ?_)
      · refine lv_iconst (v := nI (0)) hx hb dM_deliver_40 (by decide) ?_
        exact kx _ _ _ _ _ (x) dM_deliver_41 hS hP hD (by first | exact Or.inr ⟨r, o, hr_r, rfl, ho_o, rfl, by rw [dlvM_old (Or.inl c_23)], by rw [dlvM_old (Or.inl c_23)]⟩ | exact Or.inr ⟨r, o, hr_r, rfl, ho_o, rfl, by rw [dlvM_old (Or.inr c_37)], by rw [dlvM_old (Or.inr c_37)]⟩)
      · refine lv_aload_n hx hb dM_deliver_26 rfl (lv_at hl 0 rfl) ?_
        refine va_get (D := D) (ci := 3) (v := .ref (q 8)) (C := RM) (T := TM) (N := 13) hx hb hts in_M hown hK hP 0 rfl rfl 8 (by decide) (hts _ wm_251) (fun _ h9 => h9) rfl dM_deliver_27 ?_
        refine lv_bipush (v := nI (100)) hx hb dM_deliver_30 (by decide) ?_
        refine lv_iload_n hx hb dM_deliver_32 rfl (lv_at hl 1 rfl) ?_
        refine r_mul hx hb dM_deliver_33 ?_
        refine lv_iload_n hx hb dM_deliver_34 rfl (lv_at hl 2 rfl) ?_
        refine r_add hx hb dM_deliver_35 ?_
        refine r_zald (q0 := 8) (t0 := 1) hx hb hK hP rfl rfl (by omega) (by decide) dM_deliver_36 ?_
        refine r_eqB (tgt := 42) hx hb dM_deliver_37 (by decide) (fun c_37 => ?_) (fun c_37 => ?_)
        · refine lv_aload_n hx hb dM_deliver_42 rfl (lv_at hl 0 rfl) ?_
          refine va_get (D := D) (ci := 3) (v := .ref (q 8)) (C := RM) (T := TM) (N := 13) hx hb hts in_M hown hK hP 0 rfl rfl 8 (by decide) (hts _ wm_251) (fun _ h9 => h9) rfl dM_deliver_43 ?_
          refine lv_bipush (v := nI (100)) hx hb dM_deliver_46 (by decide) ?_
          refine lv_iload_n hx hb dM_deliver_48 rfl (lv_at hl 1 rfl) ?_
          refine r_mul hx hb dM_deliver_49 ?_
          refine lv_iload_n hx hb dM_deliver_50 rfl (lv_at hl 2 rfl) ?_
          refine r_add hx hb dM_deliver_51 ?_
          refine lv_iconst (v := nI (1)) hx hb dM_deliver_52 (by decide) ?_
          refine r_top (y := bI (true)) (by decide) ?_
          refine r_zast x.wts (true) (q0 := 8) (t0 := 1) hx hb hK hP hD hS rfl rfl (by omega) (by decide) dM_deliver_53 (fun H locs hP hD hS => ?_)
          have hP : va_P D vwCl (wM cc q (mkM x.nn x.by_ x.line x.stp x.let_ x.oth x.clk x.app (va_up x.wts (100 * r + o) true) x.gon x.len x.txt x.spr)) H := hP
          have hD : va_D A (wM cc q (mkM x.nn x.by_ x.line x.stp x.let_ x.oth x.clk x.app (va_up x.wts (100 * r + o) true) x.gon x.len x.txt x.spr)) := hD
          have ok1 : okM (mkM x.nn x.by_ x.line x.stp x.let_ x.oth x.clk x.app (va_up x.wts (100 * r + o) true) x.gon x.len x.txt x.spr) := okM_st ok
          refine lv_iconst (v := nI (0)) hx hb dM_deliver_54 (by decide) ?_
          refine lv_istore_n (lv' := [(3, .int (nI (0))), (0, .ref (q 0)), (1, .int (nI (r))), (2, .int (nI (o)))]) hx hb dM_deliver_55 rfl hl (by decide) rfl (fun ls hl => ?_)
          have L59 : ∀ (n : Nat) (nc : Nat) (mo : Bool) (a : Nat → Bool) (w : Nat → Bool) (H : Heap) (locs : List Loc) (hP : va_P D vwCl (wM cc q (mkM x.nn x.by_ x.line x.stp x.let_ x.oth x.clk a w x.gon x.len x.txt x.spr)) H) (hD : va_D A (wM cc q (mkM x.nn x.by_ x.line x.stp x.let_ x.oth x.clk a w x.gon x.len x.txt x.spr))) (hS : va_S A s.heap H locs) (ls : Array Slot) (h2 : 0 < n) (h3 : dlPh (pasF x r x.app (va_up x.wts (100 * r + o) true) x.nn) x.app (va_up x.wts (100 * r + o) true) n mo a w nc), lv_has ls 6 [(0, .ref (q 0)), (1, .int (nI (r))), (2, .int (nI (o))), (3, .int (nI (nc))), (4, .int (bI (mo)))] → W p l e rmM_deliver s m args below meth c H locs 0 0 Q (F0 m 59 ls []) := by
            intro n
            induction n with
            | zero => intro nc mo a w H locs hP hD hS ls h2 h3 hl; exact absurd h2 (Nat.not_lt_zero _)
            | succ n ih =>
              intro nc mo a w H locs hP hD hS ls h2 h3 hl
              have ok2 : okM (mkM x.nn x.by_ x.line x.stp x.let_ x.oth x.clk a w x.gon x.len x.txt x.spr) := okM_st ok
              refine lv_iload hx hb dM_deliver_59 (lv_at hl 4 rfl) ?_
              refine r_eqB (tgt := 145) hx hb dM_deliver_61 (by decide) (fun c_61 => ?_) (fun c_61 => ?_)
              · refine lv_iload_n hx hb dM_deliver_145 rfl (lv_at hl 3 rfl) ?_
                exact kx _ _ _ _ _ (mkM x.nn x.by_ x.line x.stp x.let_ x.oth x.clk a w x.gon x.len x.txt x.spr) dM_deliver_146 hS hP hD (Or.inr ⟨r, o, hr_r, rfl, ho_o, rfl, by rw [dlvM_new c_23 c_37]; exact congrArg nI (dl_end h3 c_61).2.2, by rw [dlvM_new c_23 c_37]; exact (dl_st h3 c_61)⟩)
              · have L70 : ∀ (n : Nat) (c2 : Nat) (m2 : Bool) (k : Nat) (H : Heap) (locs : List Loc) (hP : va_P D vwCl (wM cc q (mkM x.nn x.by_ x.line x.stp x.let_ x.oth x.clk ((pasF x r a w k).1) ((pasF x r a w k).2.1) x.gon x.len x.txt x.spr)) H) (hD : va_D A (wM cc q (mkM x.nn x.by_ x.line x.stp x.let_ x.oth x.clk ((pasF x r a w k).1) ((pasF x r a w k).2.1) x.gon x.len x.txt x.spr))) (hS : va_S A s.heap H locs) (ls : Array Slot) (h4 : k ≤ x.nn) (h5 : x.nn - k < n) (g1 : c2 = nc + (pasF x r a w k).2.2) (g2 : m2 = decide (0 < (pasF x r a w k).2.2)), lv_has ls 6 [(0, .ref (q 0)), (1, .int (nI (r))), (2, .int (nI (o))), (3, .int (nI (c2))), (4, .int (bI (m2))), (5, .int (nI (k)))] → W p l e rmM_deliver s m args below meth c H locs 0 0 Q (F0 m 70 ls []) := by
                  intro n
                  induction n with
                  | zero => intro c2 m2 k H locs hP hD hS ls h4 h5 g1 g2 hl; exact absurd h5 (Nat.not_lt_zero _)
                  | succ n ih2 =>
                    intro c2 m2 k H locs hP hD hS ls h4 h5 g1 g2 hl
                    have ok3 : okM (mkM x.nn x.by_ x.line x.stp x.let_ x.oth x.clk ((pasF x r a w k).1) ((pasF x r a w k).2.1) x.gon x.len x.txt x.spr) := okM_st ok
                    refine lv_iload hx hb dM_deliver_70 (lv_at hl 5 rfl) ?_
                    refine lv_aload_n hx hb dM_deliver_72 rfl (lv_at hl 0 rfl) ?_
                    refine va_get (D := D) (ci := 3) (v := .int (nI (x.nn))) (C := RM) (T := TM) (N := 13) hx hb hts in_M hown hK hP 0 rfl rfl 0 (by decide) (hts _ wm_243) (fun _ h9 => h9) rfl dM_deliver_73 ?_
                    refine r_ge (by omega) (Nat.lt_of_le_of_lt ok3.n (by decide)) (tgt := 142) hx hb dM_deliver_76 (by decide) (fun c_76 => ?_) (fun c_76 => ?_)
                    · obtain rfl : k = x.nn := by omega
                      refine lv_goto (tgt := 59) hx hb dM_deliver_142 (by decide) ?_
                      exact ih  (c2) (m2) ((pasF x r a w x.nn).1) ((pasF x r a w x.nn).2.1) H locs hP hD hS ls (by first | decide | exact dl_pos (dl_step (hid r o hr_r ho_o) c_23 c_37 h3 c_61)) (by first | exact Or.inr (Or.inr ⟨rfl, rfl, rfl, rfl, Nat.le_refl 3⟩) | (rw [g1, g2]; exact dl_step (hid r o hr_r ho_o) c_23 c_37 h3 c_61)) (lv_sub hl [0, 1, 2, 3, 4] rfl)
                    · refine lv_aload_n hx hb dM_deliver_79 rfl (lv_at hl 0 rfl) ?_
                      refine va_get (D := D) (ci := 3) (v := .ref (q 8)) (C := RM) (T := TM) (N := 13) hx hb hts in_M hown hK hP 0 rfl rfl 8 (by decide) (hts _ wm_251) (fun _ h9 => h9) rfl dM_deliver_80 ?_
                      refine lv_bipush (v := nI (100)) hx hb dM_deliver_83 (by decide) ?_
                      refine lv_iload_n hx hb dM_deliver_85 rfl (lv_at hl 1 rfl) ?_
                      refine r_mul hx hb dM_deliver_86 ?_
                      refine lv_iload hx hb dM_deliver_87 (lv_at hl 5 rfl) ?_
                      refine r_add hx hb dM_deliver_89 ?_
                      refine r_zald (q0 := 8) (t0 := 1) hx hb hK hP rfl rfl (by omega) (by decide) dM_deliver_90 ?_
                      refine r_eqB (tgt := 136) hx hb dM_deliver_91 (by decide) (fun c_91 => ?_) (fun c_91 => ?_)
                      · refine lv_iinc (v := nI (k + 1)) (lv' := [(5, .int (nI (k + 1))), (0, .ref (q 0)), (1, .int (nI (r))), (2, .int (nI (o))), (3, .int (nI (c2))), (4, .int (bI (m2)))]) hx hb dM_deliver_136 hl (k := 5) rfl (nI_1 _) (by decide) rfl (fun ls hl => ?_)
                        refine lv_goto (tgt := 70) hx hb dM_deliver_139 (by decide) ?_
                        have hP : va_P D vwCl (wM cc q (mkM x.nn x.by_ x.line x.stp x.let_ x.oth x.clk ((pasF x r a w (k + 1)).1) ((pasF x r a w (k + 1)).2.1) x.gon x.len x.txt x.spr)) H := by first | (rw [pasF_t c_91 c_101]; exact hP) | (rw [pasF_f1 c_91]; exact hP) | (rw [pasF_f2 c_101]; exact hP)
                        have hD : va_D A (wM cc q (mkM x.nn x.by_ x.line x.stp x.let_ x.oth x.clk ((pasF x r a w (k + 1)).1) ((pasF x r a w (k + 1)).2.1) x.gon x.len x.txt x.spr)) := by first | (rw [pasF_t c_91 c_101]; exact hD) | (rw [pasF_f1 c_91]; exact hD) | (rw [pasF_f2 c_101]; exact hD)
                        exact ih2  (c2) (m2) (k + 1) H locs hP hD hS ls (by omega) (by omega) (by first | rfl | (rw [pasF_t c_91 c_101, g1]; rfl) | (rw [pasF_f1 c_91]; exact g1) | (rw [pasF_f2 c_101]; exact g1)) (by first | rfl | (rw [pasF_t c_91 c_101]; exact (decide_eq_true (Nat.succ_pos _)).symm) | (rw [pasF_f1 c_91]; exact g2) | (rw [pasF_f2 c_101]; exact g2)) (lv_sub hl [1, 2, 3, 4, 5, 0] rfl)
                      · refine lv_aload_n hx hb dM_deliver_94 rfl (lv_at hl 0 rfl) ?_
                        refine lv_iload_n hx hb dM_deliver_95 rfl (lv_at hl 1 rfl) ?_
                        refine lv_iload hx hb dM_deliver_96 (lv_at hl 5 rfl) ?_
                        refine W.callR (W.runV (As := [.int (nI (r)), .int (nI (k))]) (rest := []) S (kM_ready D cc q (mkM x.nn x.by_ x.line x.stp x.let_ x.oth x.clk ((pasF x r a w k).1) ((pasF x r a w k).2.1) x.gon x.len x.txt x.spr) (r) (k) (by omega) (by omega) (hl1 _ (by omega)) ok3) (cwV 2 hts (gd_V wm_311 wm_312 wm_388 wm_4 wm_313) rfl rfl rfl (by decide +kernel) ⟨Nat.le_of_ble_eq_true rfl, Nat.le_of_ble_eq_true rfl⟩) (rd_preV (q0 := 0) hP hE rfl rfl) rfl rfl hl.1 rfl (lv_room (Nat.le_of_ble_eq_true rfl)) dM_deliver_98 ⟨Nat.le_of_ble_eq_true rfl, Nat.le_of_ble_eq_true rfl⟩) ?_
                        refine W.eq (g2 := F0 m 101 ls [.int (bI (rdyM (mkM x.nn x.by_ x.line x.stp x.let_ x.oth x.clk ((pasF x r a w k).1) ((pasF x r a w k).2.1) x.gon x.len x.txt x.spr) (r) (k) 3))]) rfl ?_
                        refine r_eqB (tgt := 136) hx hb dM_deliver_101 (by decide) (fun c_101 => ?_) (fun c_101 => ?_)
                        · refine lv_iinc (v := nI (k + 1)) (lv' := [(5, .int (nI (k + 1))), (0, .ref (q 0)), (1, .int (nI (r))), (2, .int (nI (o))), (3, .int (nI (c2))), (4, .int (bI (m2)))]) hx hb dM_deliver_136 hl (k := 5) rfl (nI_1 _) (by decide) rfl (fun ls hl => ?_)
                          refine lv_goto (tgt := 70) hx hb dM_deliver_139 (by decide) ?_
                          have hP : va_P D vwCl (wM cc q (mkM x.nn x.by_ x.line x.stp x.let_ x.oth x.clk ((pasF x r a w (k + 1)).1) ((pasF x r a w (k + 1)).2.1) x.gon x.len x.txt x.spr)) H := by first | (rw [pasF_t c_91 c_101]; exact hP) | (rw [pasF_f1 c_91]; exact hP) | (rw [pasF_f2 c_101]; exact hP)
                          have hD : va_D A (wM cc q (mkM x.nn x.by_ x.line x.stp x.let_ x.oth x.clk ((pasF x r a w (k + 1)).1) ((pasF x r a w (k + 1)).2.1) x.gon x.len x.txt x.spr)) := by first | (rw [pasF_t c_91 c_101]; exact hD) | (rw [pasF_f1 c_91]; exact hD) | (rw [pasF_f2 c_101]; exact hD)
                          exact ih2  (c2) (m2) (k + 1) H locs hP hD hS ls (by omega) (by omega) (by first | rfl | (rw [pasF_t c_91 c_101, g1]; rfl) | (rw [pasF_f1 c_91]; exact g1) | (rw [pasF_f2 c_101]; exact g1)) (by first | rfl | (rw [pasF_t c_91 c_101]; exact (decide_eq_true (Nat.succ_pos _)).symm) | (rw [pasF_f1 c_91]; exact g2) | (rw [pasF_f2 c_101]; exact g2)) (lv_sub hl [1, 2, 3, 4, 5, 0] rfl)
                        · refine lv_aload_n hx hb dM_deliver_104 rfl (lv_at hl 0 rfl) ?_
                          refine va_get (D := D) (ci := 3) (v := .ref (q 8)) (C := RM) (T := TM) (N := 13) hx hb hts in_M hown hK hP 0 rfl rfl 8 (by decide) (hts _ wm_251) (fun _ h9 => h9) rfl dM_deliver_105 ?_
                          refine lv_bipush (v := nI (100)) hx hb dM_deliver_108 (by decide) ?_
                          refine lv_iload_n hx hb dM_deliver_110 rfl (lv_at hl 1 rfl) ?_
                          refine r_mul hx hb dM_deliver_111 ?_
                          refine lv_iload hx hb dM_deliver_112 (lv_at hl 5 rfl) ?_
                          refine r_add hx hb dM_deliver_114 ?_
                          refine lv_iconst (v := nI (0)) hx hb dM_deliver_115 (by decide) ?_
                          refine r_top (y := bI (false)) (by decide) ?_
                          refine r_zast (((pasF x r a w k).2.1)) (false) (q0 := 8) (t0 := 1) hx hb hK hP hD hS rfl rfl (by omega) (by decide) dM_deliver_116 (fun H locs hP hD hS => ?_)
                          have hP : va_P D vwCl (wM cc q (mkM x.nn x.by_ x.line x.stp x.let_ x.oth x.clk ((pasF x r a w k).1) (va_up (pasF x r a w k).2.1 (100 * r + k) false) x.gon x.len x.txt x.spr)) H := hP
                          have hD : va_D A (wM cc q (mkM x.nn x.by_ x.line x.stp x.let_ x.oth x.clk ((pasF x r a w k).1) (va_up (pasF x r a w k).2.1 (100 * r + k) false) x.gon x.len x.txt x.spr)) := hD
                          refine lv_aload_n hx hb dM_deliver_117 rfl (lv_at hl 0 rfl) ?_
                          refine va_get (D := D) (ci := 3) (v := .ref (q 7)) (C := RM) (T := TM) (N := 13) hx hb hts in_M hown hK hP 0 rfl rfl 7 (by decide) (hts _ wm_250) (fun _ h9 => h9) rfl dM_deliver_118 ?_
                          refine lv_bipush (v := nI (100)) hx hb dM_deliver_121 (by decide) ?_
                          refine lv_iload_n hx hb dM_deliver_123 rfl (lv_at hl 1 rfl) ?_
                          refine r_mul hx hb dM_deliver_124 ?_
                          refine lv_iload hx hb dM_deliver_125 (lv_at hl 5 rfl) ?_
                          refine r_add hx hb dM_deliver_127 ?_
                          refine lv_iconst (v := nI (1)) hx hb dM_deliver_128 (by decide) ?_
                          refine r_top (y := bI (true)) (by decide) ?_
                          refine r_zast (((pasF x r a w k).1)) (true) (q0 := 7) (t0 := 1) hx hb hK hP hD hS rfl rfl (by omega) (by decide) dM_deliver_129 (fun H locs hP hD hS => ?_)
                          have hP : va_P D vwCl (wM cc q (mkM x.nn x.by_ x.line x.stp x.let_ x.oth x.clk (va_up (pasF x r a w k).1 (100 * r + k) true) (va_up (pasF x r a w k).2.1 (100 * r + k) false) x.gon x.len x.txt x.spr)) H := hP
                          have hD : va_D A (wM cc q (mkM x.nn x.by_ x.line x.stp x.let_ x.oth x.clk (va_up (pasF x r a w k).1 (100 * r + k) true) (va_up (pasF x r a w k).2.1 (100 * r + k) false) x.gon x.len x.txt x.spr)) := hD
                          refine lv_iinc (v := nI (c2 + 1)) (lv' := [(3, .int (nI (c2 + 1))), (0, .ref (q 0)), (1, .int (nI (r))), (2, .int (nI (o))), (4, .int (bI (m2))), (5, .int (nI (k)))]) hx hb dM_deliver_130 hl (k := 3) rfl (nI_1 _) (by decide) rfl (fun ls hl => ?_)
                          refine lv_iconst (v := bI (true)) hx hb dM_deliver_133 (by decide) ?_
                          refine lv_istore (lv' := [(4, .int (bI (true))), (3, .int (nI (c2 + 1))), (0, .ref (q 0)), (1, .int (nI (r))), (2, .int (nI (o))), (5, .int (nI (k)))]) hx hb dM_deliver_134 hl (by decide) rfl (fun ls hl => ?_)
                          refine lv_iinc (v := nI (k + 1)) (lv' := [(5, .int (nI (k + 1))), (4, .int (bI (true))), (3, .int (nI (c2 + 1))), (0, .ref (q 0)), (1, .int (nI (r))), (2, .int (nI (o)))]) hx hb dM_deliver_136 hl (k := 5) rfl (nI_1 _) (by decide) rfl (fun ls hl => ?_)
                          refine lv_goto (tgt := 70) hx hb dM_deliver_139 (by decide) ?_
                          have hP : va_P D vwCl (wM cc q (mkM x.nn x.by_ x.line x.stp x.let_ x.oth x.clk ((pasF x r a w (k + 1)).1) ((pasF x r a w (k + 1)).2.1) x.gon x.len x.txt x.spr)) H := by first | (rw [pasF_t c_91 c_101]; exact hP) | (rw [pasF_f1 c_91]; exact hP) | (rw [pasF_f2 c_101]; exact hP)
                          have hD : va_D A (wM cc q (mkM x.nn x.by_ x.line x.stp x.let_ x.oth x.clk ((pasF x r a w (k + 1)).1) ((pasF x r a w (k + 1)).2.1) x.gon x.len x.txt x.spr)) := by first | (rw [pasF_t c_91 c_101]; exact hD) | (rw [pasF_f1 c_91]; exact hD) | (rw [pasF_f2 c_101]; exact hD)
                          exact ih2  (c2 + 1) (true) (k + 1) H locs hP hD hS ls (by omega) (by omega) (by first | rfl | (rw [pasF_t c_91 c_101, g1]; rfl) | (rw [pasF_f1 c_91]; exact g1) | (rw [pasF_f2 c_101]; exact g1)) (by first | rfl | (rw [pasF_t c_91 c_101]; exact (decide_eq_true (Nat.succ_pos _)).symm) | (rw [pasF_f1 c_91]; exact g2) | (rw [pasF_f2 c_101]; exact g2)) (lv_sub hl [3, 4, 5, 2, 1, 0] rfl)
                refine lv_iconst (v := bI (false)) hx hb dM_deliver_64 (by decide) ?_
                refine lv_istore (lv' := [(4, .int (bI (false))), (0, .ref (q 0)), (1, .int (nI (r))), (2, .int (nI (o))), (3, .int (nI (nc)))]) hx hb dM_deliver_65 hl (by decide) rfl (fun ls hl => ?_)
                refine lv_iconst (v := nI (0)) hx hb dM_deliver_67 (by decide) ?_
                refine lv_istore (lv' := [(5, .int (nI (0))), (4, .int (bI (false))), (0, .ref (q 0)), (1, .int (nI (r))), (2, .int (nI (o))), (3, .int (nI (nc)))]) hx hb dM_deliver_68 hl (by decide) rfl (fun ls hl => ?_)
                exact L70 (x.nn + 1) (nc) (false) (0) H locs hP hD hS ls (by omega) (by omega) (by first | rfl | (rw [pasF_t c_91 c_101, g1]; rfl) | (rw [pasF_f1 c_91]; exact g1) | (rw [pasF_f2 c_101]; exact g1)) (by first | rfl | (rw [pasF_t c_91 c_101]; exact (decide_eq_true (Nat.succ_pos _)).symm) | (rw [pasF_f1 c_91]; exact g2) | (rw [pasF_f2 c_101]; exact g2)) (lv_sub hl [2, 3, 4, 5, 1, 0] rfl)
          refine lv_iconst (v := bI (true)) hx hb dM_deliver_56 (by decide) ?_
          refine lv_istore (lv' := [(4, .int (bI (true))), (3, .int (nI (0))), (0, .ref (q 0)), (1, .int (nI (r))), (2, .int (nI (o)))]) hx hb dM_deliver_57 hl (by decide) rfl (fun ls hl => ?_)
          exact L59 (3) (0) (true) (x.app) (va_up x.wts (100 * r + o) true) H locs hP hD hS ls (by first | decide | exact dl_pos (dl_step (hid r o hr_r ho_o) c_23 c_37 h3 c_61)) (by first | exact Or.inr (Or.inr ⟨rfl, rfl, rfl, rfl, Nat.le_refl 3⟩) | (rw [g1, g2]; exact dl_step (hid r o hr_r ho_o) c_23 c_37 h3 c_61)) (lv_sub hl [2, 3, 4, 1, 0] rfl)
        · refine lv_iconst (v := nI (0)) hx hb dM_deliver_40 (by decide) ?_
          exact kx _ _ _ _ _ (x) dM_deliver_41 hS hP hD (by first | exact Or.inr ⟨r, o, hr_r, rfl, ho_o, rfl, by rw [dlvM_old (Or.inl c_23)], by rw [dlvM_old (Or.inl c_23)]⟩ | exact Or.inr ⟨r, o, hr_r, rfl, ho_o, rfl, by rw [dlvM_old (Or.inr c_37)], by rw [dlvM_old (Or.inr c_37)]⟩)
    · refine lv_iconst (v := sI (0)) hx hb dM_deliver_15 (by decide) ?_
      exact kx _ _ _ _ _ (x) dM_deliver_16 hS hP hD (by first | exact Or.inl ⟨Or.inl c_4, sI_0, rfl⟩ | exact Or.inl ⟨Or.inr c_12, sI_0, rfl⟩)
end
section
def rmM_sync : Room := { frames := 4, cells := 0, slots := 0, locals := 95 }
set_option maxHeartbeats 4000000 in
set_option maxRecDepth 100000 in
theorem kM_sync {l : Launch} (D : va_G) (cc : Nat → ClassId) (q : Nat → Nat) (x : MS) (sz : Nat) (z1 z2 : Int32) (hsy : ∀ r t o, r < 3 → t < 3 → o ≤ x.nn → syOK x r t o) (ok : okM x) : Met l yM_sync wsM_sync rmM_sync (va_Pc [.ref (q 0), .int (z1), .int (z2)] (WP D cc (wM cc q x) sz)) (va_Qi (RM_sync x z1 z2) (WQ D cc (va_A (wM cc q x) sz) (fun u : MS => wM cc q u)) (va_A (wM cc q x) sz)) 0 0 (va_A (wM cc q x) sz) := by
  refine wr_meti RM [.ref (q 0), .int (z1), .int (z2)] D cc (wM cc q x) sz (fun u : MS => wM cc q u) _ (by decide) rfl rfl (Nat.le_of_ble_eq_true rfl) (fun v _ _ => vp_nar_int v) ?_
  intro p e s m args below meth c Q A S hP hE hD hA kx ls hl
  obtain ⟨hx, hb, hml, hown, hts⟩ := id S
  have hK := hE.1
  have hts := hE.ts args
  have S : CallFix p m c cM_sync 5 s args wAll RM := ⟨hx, hb, hml, hown, hts⟩
  have hS : va_S A s.heap s.heap [] := va_S.rf
  have hn := ok.n
  have hl : lv_has ls 5 [(0, .ref (q 0)), (1, .int (z1)), (2, .int (z2))] := hl
  refine lv_iload_n hx hb dM_sync_0 rfl (lv_at hl 1 rfl) ?_
  refine W.callR (W.runS (As := [.int (z1)]) (rest := []) S (kM_isReplica ((z1))) (va_cwS 1 hts (gd_S wm_273 wm_274 wm_4 wm_275) rfl rfl rfl (by decide +kernel) ⟨Nat.le_of_ble_eq_true rfl, Nat.le_of_ble_eq_true rfl⟩) preT rfl rfl hl.1 rfl (lv_room (Nat.le_of_ble_eq_true rfl)) dM_sync_1 ⟨Nat.le_of_ble_eq_true rfl, Nat.le_of_ble_eq_true rfl⟩) ?_
  refine W.eq (g2 := F0 m 4 ls [.int (bI (isRep ((z1))))]) rfl ?_
  refine r_eqB (tgt := 14) hx hb dM_sync_4 (by decide) (fun c_4 => ?_) (fun c_4 => ?_)
  · refine lv_iconst (v := sI (0)) hx hb dM_sync_14 (by decide) ?_
    exact kx _ _ _ _ _ (x) dM_sync_15 hS hP hD (by first | exact Or.inl ⟨Or.inl c_4, sI_0, rfl⟩ | exact Or.inl ⟨Or.inr c_11, sI_0, rfl⟩)
  · obtain ⟨r, hr_r, rfl⟩ := isRep_of c_4
    refine lv_iload_n hx hb dM_sync_7 rfl (lv_at hl 2 rfl) ?_
    refine W.callR (W.runS (As := [.int (z2)]) (rest := []) S (kM_isReplica ((z2))) (va_cwS 1 hts (gd_S wm_273 wm_274 wm_4 wm_275) rfl rfl rfl (by decide +kernel) ⟨Nat.le_of_ble_eq_true rfl, Nat.le_of_ble_eq_true rfl⟩) preT rfl rfl hl.1 rfl (lv_room (Nat.le_of_ble_eq_true rfl)) dM_sync_8 ⟨Nat.le_of_ble_eq_true rfl, Nat.le_of_ble_eq_true rfl⟩) ?_
    refine W.eq (g2 := F0 m 11 ls [.int (bI (isRep ((z2))))]) rfl ?_
    refine r_neB (tgt := 16) hx hb dM_sync_11 (by decide) (fun c_11 => ?_) (fun c_11 => ?_)
    · obtain ⟨t, hr_t, rfl⟩ := isRep_of c_11
      have L21 : ∀ (n : Nat) (c2 : Nat) (o : Nat) (H : Heap) (locs : List Loc) (hP : va_P D vwCl (wM cc q ((synF x r t o).1)) H) (hD : va_D A (wM cc q ((synF x r t o).1))) (hS : va_S A s.heap H locs) (ls : Array Slot) (h1 : o ≤ x.nn) (h2 : x.nn - o < n) (g1 : c2 = (synF x r t o).2), lv_has ls 5 [(0, .ref (q 0)), (1, .int (nI (r))), (2, .int (nI (t))), (3, .int (nI (c2))), (4, .int (nI (o)))] → W p l e rmM_sync s m args below meth c H locs 0 0 Q (F0 m 21 ls []) := by
        intro n
        induction n with
        | zero => intro c2 o H locs hP hD hS ls h1 h2 g1 hl; exact absurd h2 (Nat.not_lt_zero _)
        | succ n ih =>
          intro c2 o H locs hP hD hS ls h1 h2 g1 hl
          have hy := hsy r t o hr_r hr_t h1
          have ok2 := hy.1
          have hnn := hy.2.1
          refine lv_iload hx hb dM_sync_21 (lv_at hl 4 rfl) ?_
          refine lv_aload_n hx hb dM_sync_23 rfl (lv_at hl 0 rfl) ?_
          refine va_get (D := D) (ci := 3) (v := .int (nI (((synF x r t o).1).nn))) (C := RM) (T := TM) (N := 13) hx hb hts in_M hown hK hP 0 rfl rfl 0 (by decide) (hts _ wm_243) (fun _ h9 => h9) rfl dM_sync_24 ?_
          refine r_ge (by omega) (Nat.lt_of_le_of_lt ok2.n (by decide)) (tgt := 60) hx hb dM_sync_27 (by decide) (fun c_27 => ?_) (fun c_27 => ?_)
          · refine lv_iload_n hx hb dM_sync_60 rfl (lv_at hl 3 rfl) ?_
            obtain rfl : o = x.nn := by omega
            exact kx _ _ _ _ _ ((synF x r t x.nn).1) dM_sync_61 hS hP hD (Or.inr ⟨r, t, hr_r, rfl, hr_t, rfl, by rw [g1], rfl⟩)
          · refine lv_iload_n hx hb dM_sync_30 rfl (lv_at hl 3 rfl) ?_
            refine lv_aload_n hx hb dM_sync_31 rfl (lv_at hl 0 rfl) ?_
            refine lv_iload_n hx hb dM_sync_32 rfl (lv_at hl 2 rfl) ?_
            refine lv_iload hx hb dM_sync_33 (lv_at hl 4 rfl) ?_
            refine W.callR (W.runV (As := [.int (nI (t)), .int (nI (o))]) (rest := [.int (nI (c2))]) S (kM_has D cc q ((synF x r t o).1) (t) (o) (by omega) (by omega)) (cwV 2 hts (gd_V wm_285 wm_286 wm_382 wm_4 wm_287) rfl rfl rfl (by decide +kernel) ⟨Nat.le_of_ble_eq_true rfl, Nat.le_of_ble_eq_true rfl⟩) (rd_preV (q0 := 0) hP hE rfl rfl) rfl rfl hl.1 rfl (lv_room (Nat.le_of_ble_eq_true rfl)) dM_sync_35 ⟨Nat.le_of_ble_eq_true rfl, Nat.le_of_ble_eq_true rfl⟩) ?_
            refine W.eq (g2 := F0 m 38 ls [.int (bI (((synF x r t o).1).app (100 * (t) + (o)))), .int (nI (c2))]) rfl ?_
            refine r_eqB (tgt := 51) hx hb dM_sync_38 (by decide) (fun c_38 => ?_) (fun c_38 => ?_)
            · refine lv_iconst (v := nI (0)) hx hb dM_sync_51 (by decide) ?_
              refine r_add hx hb dM_sync_52 ?_
              refine lv_istore_n (lv' := [(3, .int (nI (c2 + 0))), (0, .ref (q 0)), (1, .int (nI (r))), (2, .int (nI (t))), (4, .int (nI (o)))]) hx hb dM_sync_53 rfl hl (by decide) rfl (fun ls hl => ?_)
              refine lv_iinc (v := nI (o + 1)) (lv' := [(4, .int (nI (o + 1))), (3, .int (nI (c2 + 0))), (0, .ref (q 0)), (1, .int (nI (r))), (2, .int (nI (t)))]) hx hb dM_sync_54 hl (k := 4) rfl (nI_1 _) (by decide) rfl (fun ls hl => ?_)
              refine lv_goto (tgt := 21) hx hb dM_sync_57 (by decide) ?_
              have hP : va_P D vwCl (wM cc q ((synF x r t (o + 1)).1)) H := by first | (rw [synF_t c_38]; exact hP) | (rw [synF_f c_38]; exact hP)
              have hD : va_D A (wM cc q ((synF x r t (o + 1)).1)) := by first | (rw [synF_t c_38]; exact hD) | (rw [synF_f c_38]; exact hD)
              exact ih  (c2 + 0) (o + 1) H locs hP hD hS ls (by omega) (by omega) (by first | rfl | (rw [synF_t c_38, g1]; done) | (rw [synF_f c_38]; exact g1)) (lv_sub hl [2, 3, 4, 1, 0] rfl)
            · refine lv_aload_n hx hb dM_sync_41 rfl (lv_at hl 0 rfl) ?_
              refine lv_iload_n hx hb dM_sync_42 rfl (lv_at hl 1 rfl) ?_
              refine lv_iload hx hb dM_sync_43 (lv_at hl 4 rfl) ?_
              refine wr_calli (w2 := []) (va_runV (As := [.int (nI (r)), .int (nI (o))]) (rest := [.int (nI (c2))]) S (kM_deliver D cc q ((synF x r t o).1) (H.size) (nI (r)) (nI (o)) (hy.2.2.1) (fun r o h1 h2 => hy.2.2.2 r h1 o h2) (hy.1)) (cwV 2 hts (gd_V wm_318 wm_305 wm_306 wm_4 wm_307) rfl rfl rfl (by decide +kernel) ⟨Nat.le_of_ble_eq_true rfl, Nat.le_of_ble_eq_true rfl⟩) (wr_preV (q0 := 0) hP hE hD rfl rfl) rfl rfl hl.1 rfl (lv_room (Nat.le_of_ble_eq_true rfl)) dM_sync_45 ⟨Nat.le_of_ble_eq_true rfl, Nat.le_of_ble_eq_true rfl⟩) (by rw [List.append_nil]; exact hP) (by rw [List.append_nil]; exact hD) hS hA (fun v_45 u H locs hpo hP hD hS => ?_)
              rw [List.append_nil] at hP hD
              obtain ⟨rfl, rfl⟩ := RM_deliver_N hpo hr_r (by omega)
              have hP : va_P D vwCl (wM cc q ((dlvM ((synF x r t o).1) r o).1)) H := hP
              have hD : va_D A (wM cc q ((dlvM ((synF x r t o).1) r o).1)) := hD
              refine lv_goto (tgt := 52) hx hb dM_sync_48 (by decide) ?_
              refine r_add hx hb dM_sync_52 ?_
              refine lv_istore_n (lv' := [(3, .int (nI (c2 + ((dlvM ((synF x r t o).1) r o).2)))), (0, .ref (q 0)), (1, .int (nI (r))), (2, .int (nI (t))), (4, .int (nI (o)))]) hx hb dM_sync_53 rfl hl (by decide) rfl (fun ls hl => ?_)
              refine lv_iinc (v := nI (o + 1)) (lv' := [(4, .int (nI (o + 1))), (3, .int (nI (c2 + ((dlvM ((synF x r t o).1) r o).2)))), (0, .ref (q 0)), (1, .int (nI (r))), (2, .int (nI (t)))]) hx hb dM_sync_54 hl (k := 4) rfl (nI_1 _) (by decide) rfl (fun ls hl => ?_)
              refine lv_goto (tgt := 21) hx hb dM_sync_57 (by decide) ?_
              have hP : va_P D vwCl (wM cc q ((synF x r t (o + 1)).1)) H := by first | (rw [synF_t c_38]; exact hP) | (rw [synF_f c_38]; exact hP)
              have hD : va_D A (wM cc q ((synF x r t (o + 1)).1)) := by first | (rw [synF_t c_38]; exact hD) | (rw [synF_f c_38]; exact hD)
              exact ih  (c2 + ((dlvM ((synF x r t o).1) r o).2)) (o + 1) H locs hP hD hS ls (by omega) (by omega) (by first | rfl | (rw [synF_t c_38, g1]; done) | (rw [synF_f c_38]; exact g1)) (lv_sub hl [2, 3, 4, 1, 0] rfl)
      refine lv_iconst (v := nI (0)) hx hb dM_sync_16 (by decide) ?_
      refine lv_istore_n (lv' := [(3, .int (nI (0))), (0, .ref (q 0)), (1, .int (nI (r))), (2, .int (nI (t)))]) hx hb dM_sync_17 rfl hl (by decide) rfl (fun ls hl => ?_)
      refine lv_iconst (v := nI (0)) hx hb dM_sync_18 (by decide) ?_
      refine lv_istore (lv' := [(4, .int (nI (0))), (3, .int (nI (0))), (0, .ref (q 0)), (1, .int (nI (r))), (2, .int (nI (t)))]) hx hb dM_sync_19 hl (by decide) rfl (fun ls hl => ?_)
      exact L21 (x.nn + 1) (0) (0) s.heap [] hP hD hS ls (by omega) (by omega) (by first | rfl | (rw [synF_t c_38, g1]; done) | (rw [synF_f c_38]; exact g1)) (lv_sub hl [2, 3, 4, 1, 0] rfl)
    · refine lv_iconst (v := sI (0)) hx hb dM_sync_14 (by decide) ?_
      exact kx _ _ _ _ _ (x) dM_sync_15 hS hP hD (by first | exact Or.inl ⟨Or.inl c_4, sI_0, rfl⟩ | exact Or.inl ⟨Or.inr c_11, sI_0, rfl⟩)

def rmM_collect : Room := { frames := 5, cells := 0, slots := 0, locals := 121 }
set_option maxHeartbeats 4000000 in
set_option maxRecDepth 100000 in
theorem kM_collect {l : Launch} (D : va_G) (cc : Nat → ClassId) (q : Nat → Nat) (x : MS) (sz : Nat) (z1 : Int32) (ok : okM x) : Met l yM_collect wsM_collect rmM_collect (va_Pc [.ref (q 0), .int (z1)] (WP D cc (wM cc q x) sz)) (va_Qi (RM_collect x z1) (WQ D cc (va_A (wM cc q x) sz) (fun u : MS => wM cc q u)) (va_A (wM cc q x) sz)) 0 0 (va_A (wM cc q x) sz) := by
  refine wr_meti RM [.ref (q 0), .int (z1)] D cc (wM cc q x) sz (fun u : MS => wM cc q u) _ (by decide) rfl rfl (Nat.le_of_ble_eq_true rfl) (fun v _ _ => vp_nar_int v) ?_
  intro p e s m args below meth c Q A S hP hE hD hA kx ls hl
  obtain ⟨hx, hb, hml, hown, hts⟩ := id S
  have hK := hE.1
  have hts := hE.ts args
  have S : CallFix p m c cM_collect 4 s args wAll RM := ⟨hx, hb, hml, hown, hts⟩
  have hS : va_S A s.heap s.heap [] := va_S.rf
  have hn := ok.n
  have hl : lv_has ls 4 [(0, .ref (q 0)), (1, .int (z1))] := hl
  refine lv_iload_n hx hb dM_collect_0 rfl (lv_at hl 1 rfl) ?_
  refine W.callR (W.runS (As := [.int (z1)]) (rest := []) S (kM_isReplica ((z1))) (va_cwS 1 hts (gd_S wm_273 wm_274 wm_4 wm_275) rfl rfl rfl (by decide +kernel) ⟨Nat.le_of_ble_eq_true rfl, Nat.le_of_ble_eq_true rfl⟩) preT rfl rfl hl.1 rfl (lv_room (Nat.le_of_ble_eq_true rfl)) dM_collect_1 ⟨Nat.le_of_ble_eq_true rfl, Nat.le_of_ble_eq_true rfl⟩) ?_
  refine W.eq (g2 := F0 m 4 ls [.int (bI (isRep ((z1))))]) rfl ?_
  refine r_neB (tgt := 9) hx hb dM_collect_4 (by decide) (fun c_4 => ?_) (fun c_4 => ?_)
  · obtain ⟨r, hr_r, rfl⟩ := isRep_of c_4
    have L13 : ∀ (n : Nat) (c2 : Nat) (o : Nat) (H : Heap) (locs : List Loc) (hP : va_P D vwCl (wM cc q (mkM x.nn x.by_ x.line x.stp x.let_ x.oth x.clk x.app x.wts ((colF x r o).1) x.len x.txt x.spr)) H) (hD : va_D A (wM cc q (mkM x.nn x.by_ x.line x.stp x.let_ x.oth x.clk x.app x.wts ((colF x r o).1) x.len x.txt x.spr))) (hS : va_S A s.heap H locs) (ls : Array Slot) (h1 : o ≤ x.nn) (h2 : x.nn - o < n) (g1 : c2 = (colF x r o).2), lv_has ls 4 [(0, .ref (q 0)), (1, .int (nI (r))), (2, .int (nI (c2))), (3, .int (nI (o)))] → W p l e rmM_collect s m args below meth c H locs 0 0 Q (F0 m 13 ls []) := by
      intro n
      induction n with
      | zero => intro c2 o H locs hP hD hS ls h1 h2 g1 hl; exact absurd h2 (Nat.not_lt_zero _)
      | succ n ih =>
        intro c2 o H locs hP hD hS ls h1 h2 g1 hl
        have ok2 : okM (mkM x.nn x.by_ x.line x.stp x.let_ x.oth x.clk x.app x.wts ((colF x r o).1) x.len x.txt x.spr) := ok
        refine lv_iload_n hx hb dM_collect_13 rfl (lv_at hl 3 rfl) ?_
        refine lv_aload_n hx hb dM_collect_14 rfl (lv_at hl 0 rfl) ?_
        refine va_get (D := D) (ci := 3) (v := .int (nI (x.nn))) (C := RM) (T := TM) (N := 13) hx hb hts in_M hown hK hP 0 rfl rfl 0 (by decide) (hts _ wm_243) (fun _ h9 => h9) rfl dM_collect_15 ?_
        refine r_ge (by omega) (Nat.lt_of_le_of_lt ok2.n (by decide)) (tgt := 60) hx hb dM_collect_18 (by decide) (fun c_18 => ?_) (fun c_18 => ?_)
        · refine lv_iload_n hx hb dM_collect_60 rfl (lv_at hl 2 rfl) ?_
          obtain rfl : o = x.nn := by omega
          exact kx _ _ _ _ _ (gnM x (colF x r x.nn).1) dM_collect_61 hS hP hD (Or.inr ⟨r, hr_r, rfl, by rw [g1], rfl⟩)
        · refine lv_aload_n hx hb dM_collect_21 rfl (lv_at hl 0 rfl) ?_
          refine lv_iload_n hx hb dM_collect_22 rfl (lv_at hl 1 rfl) ?_
          refine lv_iload_n hx hb dM_collect_23 rfl (lv_at hl 3 rfl) ?_
          refine W.callR (W.runV (As := [.int (nI (r)), .int (nI (o))]) (rest := []) S (kM_keeps D cc q (mkM x.nn x.by_ x.line x.stp x.let_ x.oth x.clk x.app x.wts ((colF x r o).1) x.len x.txt x.spr) (r) (o) (by omega) (by omega) ok2) (cwV 2 hts (gd_V wm_332 wm_333 wm_389 wm_4 wm_334) rfl rfl rfl (by decide +kernel) ⟨Nat.le_of_ble_eq_true rfl, Nat.le_of_ble_eq_true rfl⟩) (rd_preV (q0 := 0) hP hE rfl rfl) rfl rfl hl.1 rfl (lv_room (Nat.le_of_ble_eq_true rfl)) dM_collect_24 ⟨Nat.le_of_ble_eq_true rfl, Nat.le_of_ble_eq_true rfl⟩) ?_
          refine W.eq (g2 := F0 m 27 ls [.int (bI (kpsM (mkM x.nn x.by_ x.line x.stp x.let_ x.oth x.clk x.app x.wts ((colF x r o).1) x.len x.txt x.spr) (r) (o)))]) rfl ?_
          refine r_eqB (tgt := 54) hx hb dM_collect_27 (by decide) (fun c_27 => ?_) (fun c_27 => ?_)
          · refine lv_iinc (v := nI (o + 1)) (lv' := [(3, .int (nI (o + 1))), (0, .ref (q 0)), (1, .int (nI (r))), (2, .int (nI (c2)))]) hx hb dM_collect_54 hl (k := 3) rfl (nI_1 _) (by decide) rfl (fun ls hl => ?_)
            refine lv_goto (tgt := 13) hx hb dM_collect_57 (by decide) ?_
            have hP : va_P D vwCl (wM cc q (mkM x.nn x.by_ x.line x.stp x.let_ x.oth x.clk x.app x.wts ((colF x r (o + 1)).1) x.len x.txt x.spr)) H := by first | (rw [colF_t c_27 c_36]; exact hP) | (rw [colF_f1 c_27]; exact hP) | (rw [colF_f2 c_36]; exact hP)
            have hD : va_D A (wM cc q (mkM x.nn x.by_ x.line x.stp x.let_ x.oth x.clk x.app x.wts ((colF x r (o + 1)).1) x.len x.txt x.spr)) := by first | (rw [colF_t c_27 c_36]; exact hD) | (rw [colF_f1 c_27]; exact hD) | (rw [colF_f2 c_36]; exact hD)
            exact ih  (c2) (o + 1) H locs hP hD hS ls (by omega) (by omega) (by first | rfl | (rw [colF_t c_27 c_36, g1]; done) | (rw [colF_f1 c_27]; exact g1) | (rw [colF_f2 c_36]; exact g1)) (lv_sub hl [1, 2, 3, 0] rfl)
          · refine lv_aload_n hx hb dM_collect_30 rfl (lv_at hl 0 rfl) ?_
            refine lv_iload_n hx hb dM_collect_31 rfl (lv_at hl 1 rfl) ?_
            refine lv_iload_n hx hb dM_collect_32 rfl (lv_at hl 3 rfl) ?_
            refine W.callR (W.runV (As := [.int (nI (r)), .int (nI (o))]) (rest := []) S (kM_idle D cc q (mkM x.nn x.by_ x.line x.stp x.let_ x.oth x.clk x.app x.wts ((colF x r o).1) x.len x.txt x.spr) (r) (o) (by omega) (by omega) ok2) (cwV 2 hts (gd_V wm_335 wm_336 wm_390 wm_4 wm_337) rfl rfl rfl (by decide +kernel) ⟨Nat.le_of_ble_eq_true rfl, Nat.le_of_ble_eq_true rfl⟩) (rd_preV (q0 := 0) hP hE rfl rfl) rfl rfl hl.1 rfl (lv_room (Nat.le_of_ble_eq_true rfl)) dM_collect_33 ⟨Nat.le_of_ble_eq_true rfl, Nat.le_of_ble_eq_true rfl⟩) ?_
            refine W.eq (g2 := F0 m 36 ls [.int (bI (idlM (mkM x.nn x.by_ x.line x.stp x.let_ x.oth x.clk x.app x.wts ((colF x r o).1) x.len x.txt x.spr) (r) (o)))]) rfl ?_
            refine r_eqB (tgt := 54) hx hb dM_collect_36 (by decide) (fun c_36 => ?_) (fun c_36 => ?_)
            · refine lv_iinc (v := nI (o + 1)) (lv' := [(3, .int (nI (o + 1))), (0, .ref (q 0)), (1, .int (nI (r))), (2, .int (nI (c2)))]) hx hb dM_collect_54 hl (k := 3) rfl (nI_1 _) (by decide) rfl (fun ls hl => ?_)
              refine lv_goto (tgt := 13) hx hb dM_collect_57 (by decide) ?_
              have hP : va_P D vwCl (wM cc q (mkM x.nn x.by_ x.line x.stp x.let_ x.oth x.clk x.app x.wts ((colF x r (o + 1)).1) x.len x.txt x.spr)) H := by first | (rw [colF_t c_27 c_36]; exact hP) | (rw [colF_f1 c_27]; exact hP) | (rw [colF_f2 c_36]; exact hP)
              have hD : va_D A (wM cc q (mkM x.nn x.by_ x.line x.stp x.let_ x.oth x.clk x.app x.wts ((colF x r (o + 1)).1) x.len x.txt x.spr)) := by first | (rw [colF_t c_27 c_36]; exact hD) | (rw [colF_f1 c_27]; exact hD) | (rw [colF_f2 c_36]; exact hD)
              exact ih  (c2) (o + 1) H locs hP hD hS ls (by omega) (by omega) (by first | rfl | (rw [colF_t c_27 c_36, g1]; done) | (rw [colF_f1 c_27]; exact g1) | (rw [colF_f2 c_36]; exact g1)) (lv_sub hl [1, 2, 3, 0] rfl)
            · refine lv_aload_n hx hb dM_collect_39 rfl (lv_at hl 0 rfl) ?_
              refine va_get (D := D) (ci := 3) (v := .ref (q 9)) (C := RM) (T := TM) (N := 13) hx hb hts in_M hown hK hP 0 rfl rfl 9 (by decide) (hts _ wm_252) (fun _ h9 => h9) rfl dM_collect_40 ?_
              refine lv_bipush (v := nI (100)) hx hb dM_collect_43 (by decide) ?_
              refine lv_iload_n hx hb dM_collect_45 rfl (lv_at hl 1 rfl) ?_
              refine r_mul hx hb dM_collect_46 ?_
              refine lv_iload_n hx hb dM_collect_47 rfl (lv_at hl 3 rfl) ?_
              refine r_add hx hb dM_collect_48 ?_
              refine lv_iconst (v := nI (1)) hx hb dM_collect_49 (by decide) ?_
              refine r_top (y := bI (true)) (by decide) ?_
              refine r_zast (((colF x r o).1)) (true) (q0 := 9) (t0 := 1) hx hb hK hP hD hS rfl rfl (by omega) (by decide) dM_collect_50 (fun H locs hP hD hS => ?_)
              have hP : va_P D vwCl (wM cc q (mkM x.nn x.by_ x.line x.stp x.let_ x.oth x.clk x.app x.wts (va_up (colF x r o).1 (100 * r + o) true) x.len x.txt x.spr)) H := hP
              have hD : va_D A (wM cc q (mkM x.nn x.by_ x.line x.stp x.let_ x.oth x.clk x.app x.wts (va_up (colF x r o).1 (100 * r + o) true) x.len x.txt x.spr)) := hD
              refine lv_iinc (v := nI (c2 + 1)) (lv' := [(2, .int (nI (c2 + 1))), (0, .ref (q 0)), (1, .int (nI (r))), (3, .int (nI (o)))]) hx hb dM_collect_51 hl (k := 2) rfl (nI_1 _) (by decide) rfl (fun ls hl => ?_)
              refine lv_iinc (v := nI (o + 1)) (lv' := [(3, .int (nI (o + 1))), (2, .int (nI (c2 + 1))), (0, .ref (q 0)), (1, .int (nI (r)))]) hx hb dM_collect_54 hl (k := 3) rfl (nI_1 _) (by decide) rfl (fun ls hl => ?_)
              refine lv_goto (tgt := 13) hx hb dM_collect_57 (by decide) ?_
              have hP : va_P D vwCl (wM cc q (mkM x.nn x.by_ x.line x.stp x.let_ x.oth x.clk x.app x.wts ((colF x r (o + 1)).1) x.len x.txt x.spr)) H := by first | (rw [colF_t c_27 c_36]; exact hP) | (rw [colF_f1 c_27]; exact hP) | (rw [colF_f2 c_36]; exact hP)
              have hD : va_D A (wM cc q (mkM x.nn x.by_ x.line x.stp x.let_ x.oth x.clk x.app x.wts ((colF x r (o + 1)).1) x.len x.txt x.spr)) := by first | (rw [colF_t c_27 c_36]; exact hD) | (rw [colF_f1 c_27]; exact hD) | (rw [colF_f2 c_36]; exact hD)
              exact ih  (c2 + 1) (o + 1) H locs hP hD hS ls (by omega) (by omega) (by first | rfl | (rw [colF_t c_27 c_36, g1]; done) | (rw [colF_f1 c_27]; exact g1) | (rw [colF_f2 c_36]; exact g1)) (lv_sub hl [2, 3, 1, 0] rfl)
    refine lv_iconst (v := nI (0)) hx hb dM_collect_9 (by decide) ?_
    refine lv_istore_n (lv' := [(2, .int (nI (0))), (0, .ref (q 0)), (1, .int (nI (r)))]) hx hb dM_collect_10 rfl hl (by decide) rfl (fun ls hl => ?_)
    refine lv_iconst (v := nI (0)) hx hb dM_collect_11 (by decide) ?_
    refine lv_istore_n (lv' := [(3, .int (nI (0))), (2, .int (nI (0))), (0, .ref (q 0)), (1, .int (nI (r)))]) hx hb dM_collect_12 rfl hl (by decide) rfl (fun ls hl => ?_)
    exact L13 (x.nn + 1) (0) (0) s.heap [] hP hD hS ls (by omega) (by omega) (by first | rfl | (rw [colF_t c_27 c_36, g1]; done) | (rw [colF_f1 c_27]; exact g1) | (rw [colF_f2 c_36]; exact g1)) (lv_sub hl [2, 3, 1, 0] rfl)
  · refine lv_iconst (v := sI (0)) hx hb dM_collect_7 (by decide) ?_
    exact kx _ _ _ _ _ (x) dM_collect_8 hS hP hD (Or.inl ⟨c_4, sI_0, rfl⟩)

def rmM_kept : Room := { frames := 2, cells := 0, slots := 0, locals := 44 }
set_option maxHeartbeats 4000000 in
set_option maxRecDepth 100000 in
theorem kM_kept {l : Launch} (D : va_G) (cc : Nat → ClassId) (q : Nat → Nat) (x : MS) (sz : Nat) (z1 : Int32) (ok : okM x) : Met l yM_kept wsM_kept rmM_kept (va_Pc [.ref (q 0), .int (z1)] (WP D cc (wM cc q x) sz)) (va_Qi (RM_num (fun r o => kpsM x r o) x z1) (WQ D cc (va_A (wM cc q x) sz) (fun u : MS => wM cc q u)) (va_A (wM cc q x) sz)) 0 0 (va_A (wM cc q x) sz) := by
  refine wr_meti RM [.ref (q 0), .int (z1)] D cc (wM cc q x) sz (fun u : MS => wM cc q u) _ (by decide) rfl rfl (Nat.le_of_ble_eq_true rfl) (fun v _ _ => vp_nar_int v) ?_
  intro p e s m args below meth c Q A S hP hE hD hA kx ls hl
  obtain ⟨hx, hb, hml, hown, hts⟩ := id S
  have hK := hE.1
  have hts := hE.ts args
  have S : CallFix p m c cM_kept 4 s args wAll RM := ⟨hx, hb, hml, hown, hts⟩
  have hS : va_S A s.heap s.heap [] := va_S.rf
  have hn := ok.n
  have hl : lv_has ls 4 [(0, .ref (q 0)), (1, .int (z1))] := hl
  refine lv_iload_n hx hb dM_kept_0 rfl (lv_at hl 1 rfl) ?_
  refine W.callR (W.runS (As := [.int (z1)]) (rest := []) S (kM_isReplica ((z1))) (va_cwS 1 hts (gd_S wm_273 wm_274 wm_4 wm_275) rfl rfl rfl (by decide +kernel) ⟨Nat.le_of_ble_eq_true rfl, Nat.le_of_ble_eq_true rfl⟩) preT rfl rfl hl.1 rfl (lv_room (Nat.le_of_ble_eq_true rfl)) dM_kept_1 ⟨Nat.le_of_ble_eq_true rfl, Nat.le_of_ble_eq_true rfl⟩) ?_
  refine W.eq (g2 := F0 m 4 ls [.int (bI (isRep ((z1))))]) rfl ?_
  refine r_neB (tgt := 9) hx hb dM_kept_4 (by decide) (fun c_4 => ?_) (fun c_4 => ?_)
  · obtain ⟨r, hr_r, rfl⟩ := isRep_of c_4
    have L13 : ∀ (n : Nat) (c2 : Nat) (o : Nat) (H : Heap) (locs : List Loc) (hP : va_P D vwCl (wM cc q (x)) H) (hD : va_D A (wM cc q (x))) (hS : va_S A s.heap H locs) (ls : Array Slot) (h1 : o ≤ x.nn) (h2 : x.nn - o < n) (g1 : c2 = numF (fun o => kpsM x r o) o), lv_has ls 4 [(0, .ref (q 0)), (1, .int (nI (r))), (2, .int (nI (c2))), (3, .int (nI (o)))] → W p l e rmM_kept s m args below meth c H locs 0 0 Q (F0 m 13 ls []) := by
      intro n
      induction n with
      | zero => intro c2 o H locs hP hD hS ls h1 h2 g1 hl; exact absurd h2 (Nat.not_lt_zero _)
      | succ n ih =>
        intro c2 o H locs hP hD hS ls h1 h2 g1 hl
        refine lv_iload_n hx hb dM_kept_13 rfl (lv_at hl 3 rfl) ?_
        refine lv_aload_n hx hb dM_kept_14 rfl (lv_at hl 0 rfl) ?_
        refine va_get (D := D) (ci := 3) (v := .int (nI (x.nn))) (C := RM) (T := TM) (N := 13) hx hb hts in_M hown hK hP 0 rfl rfl 0 (by decide) (hts _ wm_243) (fun _ h9 => h9) rfl dM_kept_15 ?_
        refine r_ge (by omega) (Nat.lt_of_le_of_lt ok.n (by decide)) (tgt := 44) hx hb dM_kept_18 (by decide) (fun c_18 => ?_) (fun c_18 => ?_)
        · refine lv_iload_n hx hb dM_kept_44 rfl (lv_at hl 2 rfl) ?_
          obtain rfl : o = x.nn := by omega
          exact kx _ _ _ _ _ (x) dM_kept_45 hS hP hD (Or.inr ⟨r, hr_r, rfl, by rw [g1], rfl⟩)
        · refine lv_aload_n hx hb dM_kept_21 rfl (lv_at hl 0 rfl) ?_
          refine lv_iload_n hx hb dM_kept_22 rfl (lv_at hl 1 rfl) ?_
          refine lv_iload_n hx hb dM_kept_23 rfl (lv_at hl 3 rfl) ?_
          refine W.callR (W.runV (As := [.int (nI (r)), .int (nI (o))]) (rest := []) S (kM_keeps D cc q x (r) (o) (by omega) (by omega) ok) (cwV 2 hts (gd_V wm_332 wm_333 wm_389 wm_4 wm_334) rfl rfl rfl (by decide +kernel) ⟨Nat.le_of_ble_eq_true rfl, Nat.le_of_ble_eq_true rfl⟩) (rd_preV (q0 := 0) hP hE rfl rfl) rfl rfl hl.1 rfl (lv_room (Nat.le_of_ble_eq_true rfl)) dM_kept_24 ⟨Nat.le_of_ble_eq_true rfl, Nat.le_of_ble_eq_true rfl⟩) ?_
          refine W.eq (g2 := F0 m 27 ls [.int (bI (kpsM x (r) (o)))]) rfl ?_
          refine r_eqB (tgt := 36) hx hb dM_kept_27 (by decide) (fun c_27 => ?_) (fun c_27 => ?_)
          · refine lv_iload_n hx hb dM_kept_36 rfl (lv_at hl 2 rfl) ?_
            refine lv_istore_n (lv' := [(2, .int (nI (c2))), (0, .ref (q 0)), (1, .int (nI (r))), (3, .int (nI (o)))]) hx hb dM_kept_37 rfl hl (by decide) rfl (fun ls hl => ?_)
            refine lv_iinc (v := nI (o + 1)) (lv' := [(3, .int (nI (o + 1))), (2, .int (nI (c2))), (0, .ref (q 0)), (1, .int (nI (r)))]) hx hb dM_kept_38 hl (k := 3) rfl (nI_1 _) (by decide) rfl (fun ls hl => ?_)
            refine lv_goto (tgt := 13) hx hb dM_kept_41 (by decide) ?_
            exact ih  (c2) (o + 1) H locs hP hD hS ls (by omega) (by omega) (by first | rfl | (rw [numF_t (g := fun o => kpsM x r o) c_27, g1]; done) | (rw [numF_f (g := fun o => kpsM x r o) c_27, g1]; done)) (lv_sub hl [2, 3, 1, 0] rfl)
          · refine lv_iload_n hx hb dM_kept_30 rfl (lv_at hl 2 rfl) ?_
            refine lv_iconst (v := nI (1)) hx hb dM_kept_31 (by decide) ?_
            refine r_add hx hb dM_kept_32 ?_
            refine lv_goto (tgt := 37) hx hb dM_kept_33 (by decide) ?_
            refine lv_istore_n (lv' := [(2, .int (nI (c2 + 1))), (0, .ref (q 0)), (1, .int (nI (r))), (3, .int (nI (o)))]) hx hb dM_kept_37 rfl hl (by decide) rfl (fun ls hl => ?_)
            refine lv_iinc (v := nI (o + 1)) (lv' := [(3, .int (nI (o + 1))), (2, .int (nI (c2 + 1))), (0, .ref (q 0)), (1, .int (nI (r)))]) hx hb dM_kept_38 hl (k := 3) rfl (nI_1 _) (by decide) rfl (fun ls hl => ?_)
            refine lv_goto (tgt := 13) hx hb dM_kept_41 (by decide) ?_
            exact ih  (c2 + 1) (o + 1) H locs hP hD hS ls (by omega) (by omega) (by first | rfl | (rw [numF_t (g := fun o => kpsM x r o) c_27, g1]; done) | (rw [numF_f (g := fun o => kpsM x r o) c_27, g1]; done)) (lv_sub hl [2, 3, 1, 0] rfl)
    refine lv_iconst (v := nI (0)) hx hb dM_kept_9 (by decide) ?_
    refine lv_istore_n (lv' := [(2, .int (nI (0))), (0, .ref (q 0)), (1, .int (nI (r)))]) hx hb dM_kept_10 rfl hl (by decide) rfl (fun ls hl => ?_)
    refine lv_iconst (v := nI (0)) hx hb dM_kept_11 (by decide) ?_
    refine lv_istore_n (lv' := [(3, .int (nI (0))), (2, .int (nI (0))), (0, .ref (q 0)), (1, .int (nI (r)))]) hx hb dM_kept_12 rfl hl (by decide) rfl (fun ls hl => ?_)
    exact L13 (x.nn + 1) (0) (0) s.heap [] hP hD hS ls (by omega) (by omega) (by first | rfl | (rw [numF_t (g := fun o => kpsM x r o) c_27, g1]; done) | (rw [numF_f (g := fun o => kpsM x r o) c_27, g1]; done)) (lv_sub hl [2, 3, 1, 0] rfl)
  · refine lv_iconst (v := sI (0)) hx hb dM_kept_7 (by decide) ?_
    exact kx _ _ _ _ _ (x) dM_kept_8 hS hP hD (Or.inl ⟨c_4, sI_0, rfl⟩)

def rmM_waiting : Room := { frames := 1, cells := 0, slots := 0, locals := 20 }
set_option maxHeartbeats 4000000 in
set_option maxRecDepth 100000 in
theorem kM_waiting {l : Launch} (D : va_G) (cc : Nat → ClassId) (q : Nat → Nat) (x : MS) (sz : Nat) (z1 : Int32) (ok : okM x) : Met l yM_waiting wsM_waiting rmM_waiting (va_Pc [.ref (q 0), .int (z1)] (WP D cc (wM cc q x) sz)) (va_Qi (RM_num (fun r o => x.wts (100 * r + o)) x z1) (WQ D cc (va_A (wM cc q x) sz) (fun u : MS => wM cc q u)) (va_A (wM cc q x) sz)) 0 0 (va_A (wM cc q x) sz) := by
  refine wr_meti RM [.ref (q 0), .int (z1)] D cc (wM cc q x) sz (fun u : MS => wM cc q u) _ (by decide) rfl rfl (Nat.le_of_ble_eq_true rfl) (fun v _ _ => vp_nar_int v) ?_
  intro p e s m args below meth c Q A S hP hE hD hA kx ls hl
  obtain ⟨hx, hb, hml, hown, hts⟩ := id S
  have hK := hE.1
  have hts := hE.ts args
  have S : CallFix p m c cM_waiting 4 s args wAll RM := ⟨hx, hb, hml, hown, hts⟩
  have hS : va_S A s.heap s.heap [] := va_S.rf
  have hn := ok.n
  have hl : lv_has ls 4 [(0, .ref (q 0)), (1, .int (z1))] := hl
  refine lv_iload_n hx hb dM_waiting_0 rfl (lv_at hl 1 rfl) ?_
  refine W.callR (W.runS (As := [.int (z1)]) (rest := []) S (kM_isReplica ((z1))) (va_cwS 1 hts (gd_S wm_273 wm_274 wm_4 wm_275) rfl rfl rfl (by decide +kernel) ⟨Nat.le_of_ble_eq_true rfl, Nat.le_of_ble_eq_true rfl⟩) preT rfl rfl hl.1 rfl (lv_room (Nat.le_of_ble_eq_true rfl)) dM_waiting_1 ⟨Nat.le_of_ble_eq_true rfl, Nat.le_of_ble_eq_true rfl⟩) ?_
  refine W.eq (g2 := F0 m 4 ls [.int (bI (isRep ((z1))))]) rfl ?_
  refine r_neB (tgt := 9) hx hb dM_waiting_4 (by decide) (fun c_4 => ?_) (fun c_4 => ?_)
  · obtain ⟨r, hr_r, rfl⟩ := isRep_of c_4
    have L13 : ∀ (n : Nat) (c2 : Nat) (o : Nat) (H : Heap) (locs : List Loc) (hP : va_P D vwCl (wM cc q (x)) H) (hD : va_D A (wM cc q (x))) (hS : va_S A s.heap H locs) (ls : Array Slot) (h1 : o ≤ x.nn) (h2 : x.nn - o < n) (g1 : c2 = numF (fun o => x.wts (100 * r + o)) o), lv_has ls 4 [(0, .ref (q 0)), (1, .int (nI (r))), (2, .int (nI (c2))), (3, .int (nI (o)))] → W p l e rmM_waiting s m args below meth c H locs 0 0 Q (F0 m 13 ls []) := by
      intro n
      induction n with
      | zero => intro c2 o H locs hP hD hS ls h1 h2 g1 hl; exact absurd h2 (Nat.not_lt_zero _)
      | succ n ih =>
        intro c2 o H locs hP hD hS ls h1 h2 g1 hl
        refine lv_iload_n hx hb dM_waiting_13 rfl (lv_at hl 3 rfl) ?_
        refine lv_aload_n hx hb dM_waiting_14 rfl (lv_at hl 0 rfl) ?_
        refine va_get (D := D) (ci := 3) (v := .int (nI (x.nn))) (C := RM) (T := TM) (N := 13) hx hb hts in_M hown hK hP 0 rfl rfl 0 (by decide) (hts _ wm_243) (fun _ h9 => h9) rfl dM_waiting_15 ?_
        refine r_ge (by omega) (Nat.lt_of_le_of_lt ok.n (by decide)) (tgt := 49) hx hb dM_waiting_18 (by decide) (fun c_18 => ?_) (fun c_18 => ?_)
        · refine lv_iload_n hx hb dM_waiting_49 rfl (lv_at hl 2 rfl) ?_
          obtain rfl : o = x.nn := by omega
          exact kx _ _ _ _ _ (x) dM_waiting_50 hS hP hD (Or.inr ⟨r, hr_r, rfl, by rw [g1], rfl⟩)
        · refine lv_aload_n hx hb dM_waiting_21 rfl (lv_at hl 0 rfl) ?_
          refine va_get (D := D) (ci := 3) (v := .ref (q 8)) (C := RM) (T := TM) (N := 13) hx hb hts in_M hown hK hP 0 rfl rfl 8 (by decide) (hts _ wm_251) (fun _ h9 => h9) rfl dM_waiting_22 ?_
          refine lv_bipush (v := nI (100)) hx hb dM_waiting_25 (by decide) ?_
          refine lv_iload_n hx hb dM_waiting_27 rfl (lv_at hl 1 rfl) ?_
          refine r_mul hx hb dM_waiting_28 ?_
          refine lv_iload_n hx hb dM_waiting_29 rfl (lv_at hl 3 rfl) ?_
          refine r_add hx hb dM_waiting_30 ?_
          refine r_zald (q0 := 8) (t0 := 1) hx hb hK hP rfl rfl (by omega) (by decide) dM_waiting_31 ?_
          refine r_eqB (tgt := 41) hx hb dM_waiting_32 (by decide) (fun c_32 => ?_) (fun c_32 => ?_)
          · refine lv_iload_n hx hb dM_waiting_41 rfl (lv_at hl 2 rfl) ?_
            refine lv_istore_n (lv' := [(2, .int (nI (c2))), (0, .ref (q 0)), (1, .int (nI (r))), (3, .int (nI (o)))]) hx hb dM_waiting_42 rfl hl (by decide) rfl (fun ls hl => ?_)
            refine lv_iinc (v := nI (o + 1)) (lv' := [(3, .int (nI (o + 1))), (2, .int (nI (c2))), (0, .ref (q 0)), (1, .int (nI (r)))]) hx hb dM_waiting_43 hl (k := 3) rfl (nI_1 _) (by decide) rfl (fun ls hl => ?_)
            refine lv_goto (tgt := 13) hx hb dM_waiting_46 (by decide) ?_
            exact ih  (c2) (o + 1) H locs hP hD hS ls (by omega) (by omega) (by first | rfl | (rw [numF_t (g := fun o => x.wts (100 * r + o)) c_32, g1]; done) | (rw [numF_f (g := fun o => x.wts (100 * r + o)) c_32, g1]; done)) (lv_sub hl [2, 3, 1, 0] rfl)
          · refine lv_iload_n hx hb dM_waiting_35 rfl (lv_at hl 2 rfl) ?_
            refine lv_iconst (v := nI (1)) hx hb dM_waiting_36 (by decide) ?_
            refine r_add hx hb dM_waiting_37 ?_
            refine lv_goto (tgt := 42) hx hb dM_waiting_38 (by decide) ?_
            refine lv_istore_n (lv' := [(2, .int (nI (c2 + 1))), (0, .ref (q 0)), (1, .int (nI (r))), (3, .int (nI (o)))]) hx hb dM_waiting_42 rfl hl (by decide) rfl (fun ls hl => ?_)
            refine lv_iinc (v := nI (o + 1)) (lv' := [(3, .int (nI (o + 1))), (2, .int (nI (c2 + 1))), (0, .ref (q 0)), (1, .int (nI (r)))]) hx hb dM_waiting_43 hl (k := 3) rfl (nI_1 _) (by decide) rfl (fun ls hl => ?_)
            refine lv_goto (tgt := 13) hx hb dM_waiting_46 (by decide) ?_
            exact ih  (c2 + 1) (o + 1) H locs hP hD hS ls (by omega) (by omega) (by first | rfl | (rw [numF_t (g := fun o => x.wts (100 * r + o)) c_32, g1]; done) | (rw [numF_f (g := fun o => x.wts (100 * r + o)) c_32, g1]; done)) (lv_sub hl [2, 3, 1, 0] rfl)
    refine lv_iconst (v := nI (0)) hx hb dM_waiting_9 (by decide) ?_
    refine lv_istore_n (lv' := [(2, .int (nI (0))), (0, .ref (q 0)), (1, .int (nI (r)))]) hx hb dM_waiting_10 rfl hl (by decide) rfl (fun ls hl => ?_)
    refine lv_iconst (v := nI (0)) hx hb dM_waiting_11 (by decide) ?_
    refine lv_istore_n (lv' := [(3, .int (nI (0))), (2, .int (nI (0))), (0, .ref (q 0)), (1, .int (nI (r)))]) hx hb dM_waiting_12 rfl hl (by decide) rfl (fun ls hl => ?_)
    exact L13 (x.nn + 1) (0) (0) s.heap [] hP hD hS ls (by omega) (by omega) (by first | rfl | (rw [numF_t (g := fun o => x.wts (100 * r + o)) c_32, g1]; done) | (rw [numF_f (g := fun o => x.wts (100 * r + o)) c_32, g1]; done)) (lv_sub hl [2, 3, 1, 0] rfl)
  · refine lv_iconst (v := sI (0)) hx hb dM_waiting_7 (by decide) ?_
    exact kx _ _ _ _ _ (x) dM_waiting_8 hS hP hD (Or.inl ⟨c_4, sI_0, rfl⟩)

set_option maxHeartbeats 4000000 in
set_option maxRecDepth 100000 in
theorem kM_operations_p {l : Launch} (D : va_G) (cc : Nat → ClassId) (q : Nat → Nat) (x : MS) (sz : Nat) (ok : okM x) : Met l yM_operations wsM_operations rmM_operations (va_Pc [.ref (q 0)] (WP D cc (wM cc q x) sz)) (va_Qi (fun v u => v = nI x.nn ∧ u = x) (WQ D cc (va_A (wM cc q x) sz) (fun u : MS => wM cc q u)) (va_A (wM cc q x) sz)) 0 0 (va_A (wM cc q x) sz) := by
  refine wr_meti RM [.ref (q 0)] D cc (wM cc q x) sz (fun u : MS => wM cc q u) _ (by decide) rfl rfl (Nat.le_of_ble_eq_true rfl) (fun v _ _ => vp_nar_int v) ?_
  intro p e s m args below meth c Q A S hP hE hD hA kx ls hl
  obtain ⟨hx, hb, hml, hown, hts⟩ := id S
  have hK := hE.1
  have hts := hE.ts args
  have S : CallFix p m c cM_operations 1 s args wAll RM := ⟨hx, hb, hml, hown, hts⟩
  have hS : va_S A s.heap s.heap [] := va_S.rf
  have hn := ok.n
  have hl : lv_has ls 1 [(0, .ref (q 0))] := hl
  refine lv_aload_n hx hb dM_operations_0 rfl (lv_at hl 0 rfl) ?_
  refine va_get (D := D) (ci := 3) (v := .int (nI (x.nn))) (C := RM) (T := TM) (N := 13) hx hb hts in_M hown hK hP 0 rfl rfl 0 (by decide) (hts _ wm_243) (fun _ h9 => h9) rfl dM_operations_1 ?_
  exact kx _ _ _ _ _ (x) dM_operations_4 hS hP hD (⟨rfl, rfl⟩)

def rmM_stamp : Room := { frames := 1, cells := 0, slots := 0, locals := 21 }
set_option maxHeartbeats 4000000 in
set_option maxRecDepth 100000 in
theorem kM_stamp {l : Launch} (D : va_G) (cc : Nat → ClassId) (q : Nat → Nat) (x : MS) (sz : Nat) (z1 : Int32) (ok : okM x) : Met l yM_stamp wsM_stamp rmM_stamp (va_Pc [.ref (q 0), .int (z1)] (WP D cc (wM cc q x) sz)) (va_Qi (RM_stamp x z1) (WQ D cc (va_A (wM cc q x) sz) (fun u : MS => wM cc q u)) (va_A (wM cc q x) sz)) 0 0 (va_A (wM cc q x) sz) := by
  refine wr_meti RM [.ref (q 0), .int (z1)] D cc (wM cc q x) sz (fun u : MS => wM cc q u) _ (by decide) rfl rfl (Nat.le_of_ble_eq_true rfl) (fun v _ _ => vp_nar_int v) ?_
  intro p e s m args below meth c Q A S hP hE hD hA kx ls hl
  obtain ⟨hx, hb, hml, hown, hts⟩ := id S
  have hK := hE.1
  have hts := hE.ts args
  have S : CallFix p m c cM_stamp 2 s args wAll RM := ⟨hx, hb, hml, hown, hts⟩
  have hS : va_S A s.heap s.heap [] := va_S.rf
  have hn := ok.n
  have hl : lv_has ls 2 [(0, .ref (q 0)), (1, .int (z1))] := hl
  refine lv_aload_n hx hb dM_stamp_0 rfl (lv_at hl 0 rfl) ?_
  refine lv_iload_n hx hb dM_stamp_1 rfl (lv_at hl 1 rfl) ?_
  refine W.callR (W.runV (As := [.int (z1)]) (rest := []) S (kM_isOperation D cc q x ((z1)) ok) (cwV 1 hts (gd_V wm_308 wm_309 wm_387 wm_4 wm_310) rfl rfl rfl (by decide +kernel) ⟨Nat.le_of_ble_eq_true rfl, Nat.le_of_ble_eq_true rfl⟩) (rd_preV (q0 := 0) hP hE rfl rfl) rfl rfl hl.1 rfl (lv_room (Nat.le_of_ble_eq_true rfl)) dM_stamp_2 ⟨Nat.le_of_ble_eq_true rfl, Nat.le_of_ble_eq_true rfl⟩) ?_
  refine W.eq (g2 := F0 m 5 ls [.int (bI (isOp x.nn ((z1))))]) rfl ?_
  refine r_eqB (tgt := 26) hx hb dM_stamp_5 (by decide) (fun c_5 => ?_) (fun c_5 => ?_)
  · refine lv_iconst (v := sI (0)) hx hb dM_stamp_26 (by decide) ?_
    exact kx _ _ _ _ _ (x) dM_stamp_27 hS hP hD (by first | exact Or.inl ⟨c_5, sI_0, rfl⟩ | exact Or.inr ⟨o, ho_o, rfl, rfl, rfl⟩)
  · obtain ⟨o, ho_o, rfl⟩ := isOp_of c_5
    refine lv_iconst (v := nI (4)) hx hb dM_stamp_8 (by decide) ?_
    refine lv_aload_n hx hb dM_stamp_9 rfl (lv_at hl 0 rfl) ?_
    refine va_get (D := D) (ci := 3) (v := .ref (q 3)) (C := RM) (T := TM) (N := 13) hx hb hts in_M hown hK hP 0 rfl rfl 3 (by decide) (hts _ wm_246) (fun _ h9 => h9) rfl dM_stamp_10 ?_
    refine lv_iload_n hx hb dM_stamp_13 rfl (lv_at hl 1 rfl) ?_
    refine r_iald (q0 := 3) (t0 := 0) hx hb hK hP rfl rfl (by omega) (by decide) dM_stamp_14 ?_
    refine r_mul hx hb dM_stamp_15 ?_
    refine lv_aload_n hx hb dM_stamp_16 rfl (lv_at hl 0 rfl) ?_
    refine va_get (D := D) (ci := 3) (v := .ref (q 1)) (C := RM) (T := TM) (N := 13) hx hb hts in_M hown hK hP 0 rfl rfl 1 (by decide) (hts _ wm_244) (fun _ h9 => h9) rfl dM_stamp_17 ?_
    refine lv_iload_n hx hb dM_stamp_20 rfl (lv_at hl 1 rfl) ?_
    refine r_iald (q0 := 1) (t0 := 0) hx hb hK hP rfl rfl (by omega) (by decide) dM_stamp_21 ?_
    refine r_add hx hb dM_stamp_22 ?_
    refine lv_goto (tgt := 27) hx hb dM_stamp_23 (by decide) ?_
    exact kx _ _ _ _ _ (x) dM_stamp_27 hS hP hD (by first | exact Or.inl ⟨c_5, sI_0, rfl⟩ | exact Or.inr ⟨o, ho_o, rfl, rfl, rfl⟩)

set_option maxHeartbeats 4000000 in
set_option maxRecDepth 100000 in
theorem kM_known_p {l : Launch} (D : va_G) (cc : Nat → ClassId) (q : Nat → Nat) (x : MS) (sz : Nat) (z1 z2 z3 : Int32) (ok : okM x) : Met l yM_known wsM_known rmM_known (va_Pc [.ref (q 0), .int (z1), .int (z2), .int (z3)] (WP D cc (wM cc q x) sz)) (va_Qi (RM_known x z1 z2 z3) (WQ D cc (va_A (wM cc q x) sz) (fun u : MS => wM cc q u)) (va_A (wM cc q x) sz)) 0 0 (va_A (wM cc q x) sz) := by
  refine wr_meti RM [.ref (q 0), .int (z1), .int (z2), .int (z3)] D cc (wM cc q x) sz (fun u : MS => wM cc q u) _ (by decide) rfl rfl (Nat.le_of_ble_eq_true rfl) (fun v _ _ => vp_nar_int v) ?_
  intro p e s m args below meth c Q A S hP hE hD hA kx ls hl
  obtain ⟨hx, hb, hml, hown, hts⟩ := id S
  have hK := hE.1
  have hts := hE.ts args
  have S : CallFix p m c cM_known 7 s args wAll RM := ⟨hx, hb, hml, hown, hts⟩
  have hS : va_S A s.heap s.heap [] := va_S.rf
  have hn := ok.n
  have hl : lv_has ls 7 [(0, .ref (q 0)), (1, .int (z1)), (2, .int (z2)), (3, .int (z3))] := hl
  refine lv_iload_n hx hb dM_known_0 rfl (lv_at hl 1 rfl) ?_
  refine W.callR (W.runS (As := [.int (z1)]) (rest := []) S (kM_isReplica ((z1))) (va_cwS 1 hts (gd_S wm_273 wm_274 wm_4 wm_275) rfl rfl rfl (by decide +kernel) ⟨Nat.le_of_ble_eq_true rfl, Nat.le_of_ble_eq_true rfl⟩) preT rfl rfl hl.1 rfl (lv_room (Nat.le_of_ble_eq_true rfl)) dM_known_1 ⟨Nat.le_of_ble_eq_true rfl, Nat.le_of_ble_eq_true rfl⟩) ?_
  refine W.eq (g2 := F0 m 4 ls [.int (bI (isRep ((z1))))]) rfl ?_
  refine r_eqB (tgt := 21) hx hb dM_known_4 (by decide) (fun c_4 => ?_) (fun c_4 => ?_)
  · refine lv_iconst (v := sI (0)) hx hb dM_known_21 (by decide) ?_
    exact kx _ _ _ _ _ (x) dM_known_22 hS hP hD (by first | exact Or.inl ⟨Or.inl c_4, sI_0, rfl⟩ | exact Or.inl ⟨Or.inr (Or.inl c_11), sI_0, rfl⟩ | exact Or.inl ⟨Or.inr (Or.inr c_18), sI_0, rfl⟩)
  · obtain ⟨r, hr_r, rfl⟩ := isRep_of c_4
    refine lv_iload_n hx hb dM_known_7 rfl (lv_at hl 2 rfl) ?_
    refine W.callR (W.runS (As := [.int (z2)]) (rest := []) S (kM_isReplica ((z2))) (va_cwS 1 hts (gd_S wm_273 wm_274 wm_4 wm_275) rfl rfl rfl (by decide +kernel) ⟨Nat.le_of_ble_eq_true rfl, Nat.le_of_ble_eq_true rfl⟩) preT rfl rfl hl.1 rfl (lv_room (Nat.le_of_ble_eq_true rfl)) dM_known_8 ⟨Nat.le_of_ble_eq_true rfl, Nat.le_of_ble_eq_true rfl⟩) ?_
    refine W.eq (g2 := F0 m 11 ls [.int (bI (isRep ((z2))))]) rfl ?_
    refine r_eqB (tgt := 21) hx hb dM_known_11 (by decide) (fun c_11 => ?_) (fun c_11 => ?_)
    · refine lv_iconst (v := sI (0)) hx hb dM_known_21 (by decide) ?_
      exact kx _ _ _ _ _ (x) dM_known_22 hS hP hD (by first | exact Or.inl ⟨Or.inl c_4, sI_0, rfl⟩ | exact Or.inl ⟨Or.inr (Or.inl c_11), sI_0, rfl⟩ | exact Or.inl ⟨Or.inr (Or.inr c_18), sI_0, rfl⟩)
    · obtain ⟨i, hr_i, rfl⟩ := isRep_of c_11
      refine lv_iload_n hx hb dM_known_14 rfl (lv_at hl 3 rfl) ?_
      refine W.callR (W.runS (As := [.int (z3)]) (rest := []) S (kM_isReplica ((z3))) (va_cwS 1 hts (gd_S wm_273 wm_274 wm_4 wm_275) rfl rfl rfl (by decide +kernel) ⟨Nat.le_of_ble_eq_true rfl, Nat.le_of_ble_eq_true rfl⟩) preT rfl rfl hl.1 rfl (lv_room (Nat.le_of_ble_eq_true rfl)) dM_known_15 ⟨Nat.le_of_ble_eq_true rfl, Nat.le_of_ble_eq_true rfl⟩) ?_
      refine W.eq (g2 := F0 m 18 ls [.int (bI (isRep ((z3))))]) rfl ?_
      refine r_neB (tgt := 23) hx hb dM_known_18 (by decide) (fun c_18 => ?_) (fun c_18 => ?_)
      · obtain ⟨j, hr_j, rfl⟩ := isRep_of c_18
        refine lv_iload_n hx hb dM_known_23 rfl (lv_at hl 2 rfl) ?_
        refine lv_iload_n hx hb dM_known_24 rfl (lv_at hl 1 rfl) ?_
        refine r_ne (by omega) (by omega) (tgt := 35) hx hb dM_known_25 (by decide) (fun c_25 => ?_) (fun c_25 => ?_)
        · have L44 : ∀ (n : Nat) (v : Nat) (w : Nat) (o : Nat) (H : Heap) (locs : List Loc) (hP : va_P D vwCl (wM cc q (x)) H) (hD : va_D A (wM cc q (x))) (hS : va_S A s.heap H locs) (ls : Array Slot) (h0 : i ≠ r) (h1 : o ≤ x.nn) (h2 : x.nn - o < n) (h3 : v = (knwM x r i j o).2) (h4 : w = (knwM x r i j o).1), lv_has ls 7 [(0, .ref (q 0)), (1, .int (nI (r))), (2, .int (nI (i))), (3, .int (nI (j))), (4, .int (nI (v))), (5, .int (nI (w))), (6, .int (nI (o)))] → W p l e rmM_known s m args below meth c H locs 0 0 Q (F0 m 44 ls []) := by
            intro n
            induction n with
            | zero => intro v w o H locs hP hD hS ls h0 h1 h2 h3 h4 hl; exact absurd h2 (Nat.not_lt_zero _)
            | succ n ih =>
              intro v w o H locs hP hD hS ls h0 h1 h2 h3 h4 hl
              have hw := knwM_lt ok r i j o
              rw [← h4] at hw
              refine lv_iload hx hb dM_known_44 (lv_at hl 6 rfl) ?_
              refine lv_aload_n hx hb dM_known_46 rfl (lv_at hl 0 rfl) ?_
              refine va_get (D := D) (ci := 3) (v := .int (nI (x.nn))) (C := RM) (T := TM) (N := 13) hx hb hts in_M hown hK hP 0 rfl rfl 0 (by decide) (hts _ wm_243) (fun _ h9 => h9) rfl dM_known_47 ?_
              refine r_ge (by omega) (Nat.lt_of_le_of_lt ok.n (by decide)) (tgt := 114) hx hb dM_known_50 (by decide) (fun c_50 => ?_) (fun c_50 => ?_)
              · refine lv_iload hx hb dM_known_114 (lv_at hl 4 rfl) ?_
                exact kx _ _ _ _ _ (x) dM_known_116 hS hP hD (Or.inr ⟨r, i, j, hr_r, rfl, hr_i, rfl, hr_j, rfl, by unfold knM; rw [if_neg h0, h3, show o = x.nn by omega], rfl⟩)
              · refine lv_aload_n hx hb dM_known_53 rfl (lv_at hl 0 rfl) ?_
                refine va_get (D := D) (ci := 3) (v := .ref (q 1)) (C := RM) (T := TM) (N := 13) hx hb hts in_M hown hK hP 0 rfl rfl 1 (by decide) (hts _ wm_244) (fun _ h9 => h9) rfl dM_known_54 ?_
                refine lv_iload hx hb dM_known_57 (lv_at hl 6 rfl) ?_
                refine r_iald (q0 := 1) (t0 := 0) hx hb hK hP rfl rfl (by omega) (by decide) dM_known_59 ?_
                refine lv_iload_n hx hb dM_known_60 rfl (lv_at hl 2 rfl) ?_
                refine r_ne (ok.by_ (o)) (by omega) (tgt := 108) hx hb dM_known_61 (by decide) (fun c_61 => ?_) (fun c_61 => ?_)
                · refine lv_iinc (v := nI (o + 1)) (lv' := [(6, .int (nI (o + 1))), (0, .ref (q 0)), (1, .int (nI (r))), (2, .int (nI (i))), (3, .int (nI (j))), (4, .int (nI (v))), (5, .int (nI (w)))]) hx hb dM_known_108 hl (k := 6) rfl (nI_1 _) (by decide) rfl (fun ls hl => ?_)
                  refine lv_goto (tgt := 44) hx hb dM_known_111 (by decide) ?_
                  exact ih  (v) (w) (o + 1) H locs hP hD hS ls (by first | exact h0 | exact c_25) (by omega) (by omega) (by first | rfl | (rw [knwM_t (x := x) (r := r) (i := i) (j := j) (n := o) c_61 c_71 (by rw [← h4]; exact c_83)]; done) | (rw [knwM_f c_61]; exact h3) | (rw [knwM_f2 c_71]; exact h3) | (rw [knwM_f3 (x := x) (r := r) (i := i) (j := j) (n := o) (by rw [← h4]; exact c_83)]; exact h3)) (by first | rfl | (rw [knwM_t (x := x) (r := r) (i := i) (j := j) (n := o) c_61 c_71 (by rw [← h4]; exact c_83)]; done) | (rw [knwM_f c_61]; exact h4) | (rw [knwM_f2 c_71]; exact h4) | (rw [knwM_f3 (x := x) (r := r) (i := i) (j := j) (n := o) (by rw [← h4]; exact c_83)]; exact h4)) (lv_sub hl [1, 2, 3, 4, 5, 6, 0] rfl)
                · refine lv_aload_n hx hb dM_known_64 rfl (lv_at hl 0 rfl) ?_
                  refine lv_iload_n hx hb dM_known_65 rfl (lv_at hl 1 rfl) ?_
                  refine lv_iload hx hb dM_known_66 (lv_at hl 6 rfl) ?_
                  refine W.callR (W.runV (As := [.int (nI (r)), .int (nI (o))]) (rest := []) S (kM_has D cc q x (r) (o) (by omega) (by omega)) (cwV 2 hts (gd_V wm_285 wm_286 wm_382 wm_4 wm_287) rfl rfl rfl (by decide +kernel) ⟨Nat.le_of_ble_eq_true rfl, Nat.le_of_ble_eq_true rfl⟩) (rd_preV (q0 := 0) hP hE rfl rfl) rfl rfl hl.1 rfl (lv_room (Nat.le_of_ble_eq_true rfl)) dM_known_68 ⟨Nat.le_of_ble_eq_true rfl, Nat.le_of_ble_eq_true rfl⟩) ?_
                  refine W.eq (g2 := F0 m 71 ls [.int (bI (x.app (100 * (r) + (o))))]) rfl ?_
                  refine r_eqB (tgt := 108) hx hb dM_known_71 (by decide) (fun c_71 => ?_) (fun c_71 => ?_)
                  · refine lv_iinc (v := nI (o + 1)) (lv' := [(6, .int (nI (o + 1))), (0, .ref (q 0)), (1, .int (nI (r))), (2, .int (nI (i))), (3, .int (nI (j))), (4, .int (nI (v))), (5, .int (nI (w)))]) hx hb dM_known_108 hl (k := 6) rfl (nI_1 _) (by decide) rfl (fun ls hl => ?_)
                    refine lv_goto (tgt := 44) hx hb dM_known_111 (by decide) ?_
                    exact ih  (v) (w) (o + 1) H locs hP hD hS ls (by first | exact h0 | exact c_25) (by omega) (by omega) (by first | rfl | (rw [knwM_t (x := x) (r := r) (i := i) (j := j) (n := o) c_61 c_71 (by rw [← h4]; exact c_83)]; done) | (rw [knwM_f c_61]; exact h3) | (rw [knwM_f2 c_71]; exact h3) | (rw [knwM_f3 (x := x) (r := r) (i := i) (j := j) (n := o) (by rw [← h4]; exact c_83)]; exact h3)) (by first | rfl | (rw [knwM_t (x := x) (r := r) (i := i) (j := j) (n := o) c_61 c_71 (by rw [← h4]; exact c_83)]; done) | (rw [knwM_f c_61]; exact h4) | (rw [knwM_f2 c_71]; exact h4) | (rw [knwM_f3 (x := x) (r := r) (i := i) (j := j) (n := o) (by rw [← h4]; exact c_83)]; exact h4)) (lv_sub hl [1, 2, 3, 4, 5, 6, 0] rfl)
                  · refine lv_aload_n hx hb dM_known_74 rfl (lv_at hl 0 rfl) ?_
                    refine va_get (D := D) (ci := 3) (v := .ref (q 2)) (C := RM) (T := TM) (N := 13) hx hb hts in_M hown hK hP 0 rfl rfl 2 (by decide) (hts _ wm_245) (fun _ h9 => h9) rfl dM_known_75 ?_
                    refine lv_iload hx hb dM_known_78 (lv_at hl 6 rfl) ?_
                    refine r_iald (q0 := 2) (t0 := 0) hx hb hK hP rfl rfl (by omega) (by decide) dM_known_80 ?_
                    refine lv_iload hx hb dM_known_81 (lv_at hl 5 rfl) ?_
                    refine r_le (ok.line (o)) (by omega) (tgt := 108) hx hb dM_known_83 (by decide) (fun c_83 => ?_) (fun c_83 => ?_)
                    · refine lv_iinc (v := nI (o + 1)) (lv' := [(6, .int (nI (o + 1))), (0, .ref (q 0)), (1, .int (nI (r))), (2, .int (nI (i))), (3, .int (nI (j))), (4, .int (nI (v))), (5, .int (nI (w)))]) hx hb dM_known_108 hl (k := 6) rfl (nI_1 _) (by decide) rfl (fun ls hl => ?_)
                      refine lv_goto (tgt := 44) hx hb dM_known_111 (by decide) ?_
                      exact ih  (v) (w) (o + 1) H locs hP hD hS ls (by first | exact h0 | exact c_25) (by omega) (by omega) (by first | rfl | (rw [knwM_t (x := x) (r := r) (i := i) (j := j) (n := o) c_61 c_71 (by rw [← h4]; exact c_83)]; done) | (rw [knwM_f c_61]; exact h3) | (rw [knwM_f2 c_71]; exact h3) | (rw [knwM_f3 (x := x) (r := r) (i := i) (j := j) (n := o) (by rw [← h4]; exact c_83)]; exact h3)) (by first | rfl | (rw [knwM_t (x := x) (r := r) (i := i) (j := j) (n := o) c_61 c_71 (by rw [← h4]; exact c_83)]; done) | (rw [knwM_f c_61]; exact h4) | (rw [knwM_f2 c_71]; exact h4) | (rw [knwM_f3 (x := x) (r := r) (i := i) (j := j) (n := o) (by rw [← h4]; exact c_83)]; exact h4)) (lv_sub hl [1, 2, 3, 4, 5, 6, 0] rfl)
                    · refine lv_aload_n hx hb dM_known_86 rfl (lv_at hl 0 rfl) ?_
                      refine va_get (D := D) (ci := 3) (v := .ref (q 2)) (C := RM) (T := TM) (N := 13) hx hb hts in_M hown hK hP 0 rfl rfl 2 (by decide) (hts _ wm_245) (fun _ h9 => h9) rfl dM_known_87 ?_
                      refine lv_iload hx hb dM_known_90 (lv_at hl 6 rfl) ?_
                      refine r_iald (q0 := 2) (t0 := 0) hx hb hK hP rfl rfl (by omega) (by decide) dM_known_92 ?_
                      refine lv_istore (lv' := [(5, .int (nI (x.line o))), (0, .ref (q 0)), (1, .int (nI (r))), (2, .int (nI (i))), (3, .int (nI (j))), (4, .int (nI (v))), (6, .int (nI (o)))]) hx hb dM_known_93 hl (by decide) rfl (fun ls hl => ?_)
                      refine lv_aload_n hx hb dM_known_95 rfl (lv_at hl 1 rfl) ?_
                      refine va_get (D := D) (ci := 3) (v := .ref (q 6)) (C := RM) (T := TM) (N := 13) hx hb hts in_M hown hK hP 0 rfl rfl 6 (by decide) (hts _ wm_249) (fun _ h9 => h9) rfl dM_known_96 ?_
                      refine lv_iconst (v := nI (3)) hx hb dM_known_99 (by decide) ?_
                      refine lv_iload hx hb dM_known_100 (lv_at hl 6 rfl) ?_
                      refine r_mul hx hb dM_known_102 ?_
                      refine lv_iload_n hx hb dM_known_103 rfl (lv_at hl 4 rfl) ?_
                      refine r_add hx hb dM_known_104 ?_
                      refine r_iald (q0 := 6) (t0 := 0) hx hb hK hP rfl rfl (by omega) (by decide) dM_known_105 ?_
                      refine lv_istore (lv' := [(4, .int (nI (x.clk ((3 * o) + j)))), (5, .int (nI (x.line o))), (0, .ref (q 0)), (1, .int (nI (r))), (2, .int (nI (i))), (3, .int (nI (j))), (6, .int (nI (o)))]) hx hb dM_known_106 hl (by decide) rfl (fun ls hl => ?_)
                      refine lv_iinc (v := nI (o + 1)) (lv' := [(6, .int (nI (o + 1))), (4, .int (nI (x.clk ((3 * o) + j)))), (5, .int (nI (x.line o))), (0, .ref (q 0)), (1, .int (nI (r))), (2, .int (nI (i))), (3, .int (nI (j)))]) hx hb dM_known_108 hl (k := 6) rfl (nI_1 _) (by decide) rfl (fun ls hl => ?_)
                      refine lv_goto (tgt := 44) hx hb dM_known_111 (by decide) ?_
                      exact ih  (x.clk ((3 * o) + j)) (x.line o) (o + 1) H locs hP hD hS ls (by first | exact h0 | exact c_25) (by omega) (by omega) (by first | rfl | (rw [knwM_t (x := x) (r := r) (i := i) (j := j) (n := o) c_61 c_71 (by rw [← h4]; exact c_83)]; done) | (rw [knwM_f c_61]; exact h3) | (rw [knwM_f2 c_71]; exact h3) | (rw [knwM_f3 (x := x) (r := r) (i := i) (j := j) (n := o) (by rw [← h4]; exact c_83)]; exact h3)) (by first | rfl | (rw [knwM_t (x := x) (r := r) (i := i) (j := j) (n := o) c_61 c_71 (by rw [← h4]; exact c_83)]; done) | (rw [knwM_f c_61]; exact h4) | (rw [knwM_f2 c_71]; exact h4) | (rw [knwM_f3 (x := x) (r := r) (i := i) (j := j) (n := o) (by rw [← h4]; exact c_83)]; exact h4)) (lv_sub hl [3, 4, 5, 6, 1, 2, 0] rfl)
          refine lv_iconst (v := nI (0)) hx hb dM_known_35 (by decide) ?_
          refine lv_istore (lv' := [(4, .int (nI (0))), (0, .ref (q 0)), (1, .int (nI (r))), (2, .int (nI (i))), (3, .int (nI (j)))]) hx hb dM_known_36 hl (by decide) rfl (fun ls hl => ?_)
          refine lv_iconst (v := nI (0)) hx hb dM_known_38 (by decide) ?_
          refine lv_istore (lv' := [(5, .int (nI (0))), (4, .int (nI (0))), (0, .ref (q 0)), (1, .int (nI (r))), (2, .int (nI (i))), (3, .int (nI (j)))]) hx hb dM_known_39 hl (by decide) rfl (fun ls hl => ?_)
          refine lv_iconst (v := nI (0)) hx hb dM_known_41 (by decide) ?_
          refine lv_istore (lv' := [(6, .int (nI (0))), (5, .int (nI (0))), (4, .int (nI (0))), (0, .ref (q 0)), (1, .int (nI (r))), (2, .int (nI (i))), (3, .int (nI (j)))]) hx hb dM_known_42 hl (by decide) rfl (fun ls hl => ?_)
          exact L44 (x.nn + 1) (0) (0) (0) s.heap [] hP hD hS ls (by first | exact h0 | exact c_25) (by omega) (by omega) (by first | rfl | (rw [knwM_t (x := x) (r := r) (i := i) (j := j) (n := o) c_61 c_71 (by rw [← h4]; exact c_83)]; done) | (rw [knwM_f c_61]; exact h3) | (rw [knwM_f2 c_71]; exact h3) | (rw [knwM_f3 (x := x) (r := r) (i := i) (j := j) (n := o) (by rw [← h4]; exact c_83)]; exact h3)) (by first | rfl | (rw [knwM_t (x := x) (r := r) (i := i) (j := j) (n := o) c_61 c_71 (by rw [← h4]; exact c_83)]; done) | (rw [knwM_f c_61]; exact h4) | (rw [knwM_f2 c_71]; exact h4) | (rw [knwM_f3 (x := x) (r := r) (i := i) (j := j) (n := o) (by rw [← h4]; exact c_83)]; exact h4)) (lv_sub hl [3, 4, 5, 6, 2, 1, 0] rfl)
        · refine lv_aload_n hx hb dM_known_28 rfl (lv_at hl 0 rfl) ?_
          refine lv_iload_n hx hb dM_known_29 rfl (lv_at hl 1 rfl) ?_
          refine lv_iload_n hx hb dM_known_30 rfl (lv_at hl 3 rfl) ?_
          refine W.callR (W.runV (As := [.int (nI (r)), .int (nI (j))]) (rest := []) S (kM_count D cc q x (r) (j) (by omega) (by omega) ok) (cwV 2 hts (gd_V wm_297 wm_298 wm_386 wm_4 wm_299) rfl rfl rfl (by decide +kernel) ⟨Nat.le_of_ble_eq_true rfl, Nat.le_of_ble_eq_true rfl⟩) (rd_preV (q0 := 0) hP hE rfl rfl) rfl rfl hl.1 rfl (lv_room (Nat.le_of_ble_eq_true rfl)) dM_known_31 ⟨Nat.le_of_ble_eq_true rfl, Nat.le_of_ble_eq_true rfl⟩) ?_
          refine W.eq (g2 := F0 m 34 ls [.int (nI (cntM x (r) (j) x.nn))]) rfl ?_
          exact kx _ _ _ _ _ (x) dM_known_34 hS hP hD (Or.inr ⟨r, i, j, hr_r, rfl, hr_i, rfl, hr_j, rfl, by unfold knM; rw [if_pos c_25], rfl⟩)
      · refine lv_iconst (v := sI (0)) hx hb dM_known_21 (by decide) ?_
        exact kx _ _ _ _ _ (x) dM_known_22 hS hP hD (by first | exact Or.inl ⟨Or.inl c_4, sI_0, rfl⟩ | exact Or.inl ⟨Or.inr (Or.inl c_11), sI_0, rfl⟩ | exact Or.inl ⟨Or.inr (Or.inr c_18), sI_0, rfl⟩)

set_option maxHeartbeats 4000000 in
set_option maxRecDepth 100000 in
theorem kM_stable_p {l : Launch} (D : va_G) (cc : Nat → ClassId) (q : Nat → Nat) (x : MS) (sz : Nat) (z1 z2 : Int32) (ok : okM x) : Met l yM_stable wsM_stable rmM_stable (va_Pc [.ref (q 0), .int (z1), .int (z2)] (WP D cc (wM cc q x) sz)) (va_Qi (RM_stable x z1 z2) (WQ D cc (va_A (wM cc q x) sz) (fun u : MS => wM cc q u)) (va_A (wM cc q x) sz)) 0 0 (va_A (wM cc q x) sz) := by
  refine wr_meti RM [.ref (q 0), .int (z1), .int (z2)] D cc (wM cc q x) sz (fun u : MS => wM cc q u) _ (by decide) rfl rfl (Nat.le_of_ble_eq_true rfl) (fun v u h => by rcases h with ⟨-, rfl, -⟩ | ⟨_, _, _, _, _, _, rfl, -⟩ <;> exact bI_z _) ?_
  intro p e s m args below meth c Q A S hP hE hD hA kx ls hl
  obtain ⟨hx, hb, hml, hown, hts⟩ := id S
  have hK := hE.1
  have hts := hE.ts args
  have S : CallFix p m c cM_stable 5 s args wAll RM := ⟨hx, hb, hml, hown, hts⟩
  have hS : va_S A s.heap s.heap [] := va_S.rf
  have hn := ok.n
  have hl : lv_has ls 5 [(0, .ref (q 0)), (1, .int (z1)), (2, .int (z2))] := hl
  refine lv_iload_n hx hb dM_stable_0 rfl (lv_at hl 1 rfl) ?_
  refine W.callR (W.runS (As := [.int (z1)]) (rest := []) S (kM_isReplica ((z1))) (va_cwS 1 hts (gd_S wm_273 wm_274 wm_4 wm_275) rfl rfl rfl (by decide +kernel) ⟨Nat.le_of_ble_eq_true rfl, Nat.le_of_ble_eq_true rfl⟩) preT rfl rfl hl.1 rfl (lv_room (Nat.le_of_ble_eq_true rfl)) dM_stable_1 ⟨Nat.le_of_ble_eq_true rfl, Nat.le_of_ble_eq_true rfl⟩) ?_
  refine W.eq (g2 := F0 m 4 ls [.int (bI (isRep ((z1))))]) rfl ?_
  refine r_eqB (tgt := 24) hx hb dM_stable_4 (by decide) (fun c_4 => ?_) (fun c_4 => ?_)
  · refine lv_iconst (v := bI (false)) hx hb dM_stable_24 (by decide) ?_
    exact kx _ _ _ _ _ (x) dM_stable_25 hS hP hD (by first | exact Or.inl ⟨Or.inl c_4, rfl, rfl⟩ | exact Or.inl ⟨Or.inr c_12, rfl, rfl⟩ | exact Or.inr ⟨r, o, hr_r, rfl, ho_o, rfl, by rw [stbM_no c_21], rfl⟩)
  · obtain ⟨r, hr_r, rfl⟩ := isRep_of c_4
    refine lv_aload_n hx hb dM_stable_7 rfl (lv_at hl 0 rfl) ?_
    refine lv_iload_n hx hb dM_stable_8 rfl (lv_at hl 2 rfl) ?_
    refine W.callR (W.runV (As := [.int (z2)]) (rest := []) S (kM_isOperation D cc q x ((z2)) ok) (cwV 1 hts (gd_V wm_308 wm_309 wm_387 wm_4 wm_310) rfl rfl rfl (by decide +kernel) ⟨Nat.le_of_ble_eq_true rfl, Nat.le_of_ble_eq_true rfl⟩) (rd_preV (q0 := 0) hP hE rfl rfl) rfl rfl hl.1 rfl (lv_room (Nat.le_of_ble_eq_true rfl)) dM_stable_9 ⟨Nat.le_of_ble_eq_true rfl, Nat.le_of_ble_eq_true rfl⟩) ?_
    refine W.eq (g2 := F0 m 12 ls [.int (bI (isOp x.nn ((z2))))]) rfl ?_
    refine r_eqB (tgt := 24) hx hb dM_stable_12 (by decide) (fun c_12 => ?_) (fun c_12 => ?_)
    · refine lv_iconst (v := bI (false)) hx hb dM_stable_24 (by decide) ?_
      exact kx _ _ _ _ _ (x) dM_stable_25 hS hP hD (by first | exact Or.inl ⟨Or.inl c_4, rfl, rfl⟩ | exact Or.inl ⟨Or.inr c_12, rfl, rfl⟩ | exact Or.inr ⟨r, o, hr_r, rfl, ho_o, rfl, by rw [stbM_no c_21], rfl⟩)
    · obtain ⟨o, ho_o, rfl⟩ := isOp_of c_12
      refine lv_aload_n hx hb dM_stable_15 rfl (lv_at hl 0 rfl) ?_
      refine lv_iload_n hx hb dM_stable_16 rfl (lv_at hl 1 rfl) ?_
      refine lv_iload_n hx hb dM_stable_17 rfl (lv_at hl 2 rfl) ?_
      refine W.callR (W.runV (As := [.int (nI (r)), .int (nI (o))]) (rest := []) S (kM_has D cc q x (r) (o) (by omega) (by omega)) (cwV 2 hts (gd_V wm_285 wm_286 wm_382 wm_4 wm_287) rfl rfl rfl (by decide +kernel) ⟨Nat.le_of_ble_eq_true rfl, Nat.le_of_ble_eq_true rfl⟩) (rd_preV (q0 := 0) hP hE rfl rfl) rfl rfl hl.1 rfl (lv_room (Nat.le_of_ble_eq_true rfl)) dM_stable_18 ⟨Nat.le_of_ble_eq_true rfl, Nat.le_of_ble_eq_true rfl⟩) ?_
      refine W.eq (g2 := F0 m 21 ls [.int (bI (x.app (100 * (r) + (o))))]) rfl ?_
      refine r_neB (tgt := 26) hx hb dM_stable_21 (by decide) (fun c_21 => ?_) (fun c_21 => ?_)
      · have L31 : ∀ (n : Nat) (j : Nat) (z : Bool) (H : Heap) (locs : List Loc) (hP : va_P D vwCl (wM cc q (x)) H) (hD : va_D A (wM cc q (x))) (hS : va_S A s.heap H locs) (ls : Array Slot) (h1 : j ≤ 3) (h2 : 3 - j < n) (h3 : z = stbM x r o j), lv_has ls 5 [(0, .ref (q 0)), (1, .int (nI (r))), (2, .int (nI (o))), (3, .int (bI (z))), (4, .int (nI (j)))] → W p l e rmM_stable s m args below meth c H locs 0 0 Q (F0 m 31 ls []) := by
          intro n
          induction n with
          | zero => intro j z H locs hP hD hS ls h1 h2 h3 hl; exact absurd h2 (Nat.not_lt_zero _)
          | succ n ih =>
            intro j z H locs hP hD hS ls h1 h2 h3 hl
            refine lv_iload hx hb dM_stable_31 (lv_at hl 4 rfl) ?_
            refine lv_iconst (v := nI (3)) hx hb dM_stable_33 (by decide) ?_
            refine r_ge (by omega) (by decide) (tgt := 75) hx hb dM_stable_34 (by decide) (fun c_34 => ?_) (fun c_34 => ?_)
            · refine lv_iload_n hx hb dM_stable_75 rfl (lv_at hl 3 rfl) ?_
              exact kx _ _ _ _ _ (x) dM_stable_76 hS hP hD (Or.inr ⟨r, o, hr_r, rfl, ho_o, rfl, by rw [h3, show j = 3 by omega], rfl⟩)
            · refine lv_iload_n hx hb dM_stable_37 rfl (lv_at hl 3 rfl) ?_
              refine r_eqB (tgt := 67) hx hb dM_stable_38 (by decide) (fun c_38 => ?_) (fun c_38 => ?_)
              · refine lv_iconst (v := bI (false)) hx hb dM_stable_67 (by decide) ?_
                refine lv_istore_n (lv' := [(3, .int (bI (false))), (0, .ref (q 0)), (1, .int (nI (r))), (2, .int (nI (o))), (4, .int (nI (j)))]) hx hb dM_stable_68 rfl hl (by decide) rfl (fun ls hl => ?_)
                refine lv_iinc (v := nI (j + 1)) (lv' := [(4, .int (nI (j + 1))), (3, .int (bI (false))), (0, .ref (q 0)), (1, .int (nI (r))), (2, .int (nI (o)))]) hx hb dM_stable_69 hl (k := 4) rfl (nI_1 _) (by decide) rfl (fun ls hl => ?_)
                refine lv_goto (tgt := 31) hx hb dM_stable_72 (by decide) ?_
                exact ih  (j + 1) (false) H locs hP hD hS ls (by omega) (by omega) (by first | exact c_21.symm | (rw [stbM_s, ← h3]; first | (simp [c_38]; done) | (simp [c_38, c_60]; done) | (simp [c_38, show ¬ x.line o ≤ knM x r j (x.by_ o) by omega]; done))) (lv_sub hl [2, 3, 4, 1, 0] rfl)
              · refine lv_aload_n hx hb dM_stable_41 rfl (lv_at hl 0 rfl) ?_
                refine lv_iload_n hx hb dM_stable_42 rfl (lv_at hl 1 rfl) ?_
                refine lv_iload hx hb dM_stable_43 (lv_at hl 4 rfl) ?_
                refine lv_aload_n hx hb dM_stable_45 rfl (lv_at hl 0 rfl) ?_
                refine va_get (D := D) (ci := 3) (v := .ref (q 1)) (C := RM) (T := TM) (N := 13) hx hb hts in_M hown hK hP 0 rfl rfl 1 (by decide) (hts _ wm_244) (fun _ h9 => h9) rfl dM_stable_46 ?_
                refine lv_iload_n hx hb dM_stable_49 rfl (lv_at hl 2 rfl) ?_
                refine r_iald (q0 := 1) (t0 := 0) hx hb hK hP rfl rfl (by omega) (by decide) dM_stable_50 ?_
                refine W.callR (W.runV (As := [.int (nI (r)), .int (nI (j)), .int (nI (x.by_ o))]) (rest := []) S (kM_known D cc q x (r) (j) (x.by_ o) (by omega) (by omega) (ok.by3 _) ok) (cwV 3 hts (gd_V wm_327 wm_320 wm_321 wm_4 wm_322) rfl rfl rfl (by decide +kernel) ⟨Nat.le_of_ble_eq_true rfl, Nat.le_of_ble_eq_true rfl⟩) (rd_preV (q0 := 0) hP hE rfl rfl) rfl rfl hl.1 rfl (lv_room (Nat.le_of_ble_eq_true rfl)) dM_stable_51 ⟨Nat.le_of_ble_eq_true rfl, Nat.le_of_ble_eq_true rfl⟩) ?_
                refine W.eq (g2 := F0 m 54 ls [.int (nI (knM x (r) (j) (x.by_ o)))]) rfl ?_
                refine lv_aload_n hx hb dM_stable_54 rfl (lv_at hl 0 rfl) ?_
                refine va_get (D := D) (ci := 3) (v := .ref (q 2)) (C := RM) (T := TM) (N := 13) hx hb hts in_M hown hK hP 0 rfl rfl 2 (by decide) (hts _ wm_245) (fun _ h9 => h9) rfl dM_stable_55 ?_
                refine lv_iload_n hx hb dM_stable_58 rfl (lv_at hl 2 rfl) ?_
                refine r_iald (q0 := 2) (t0 := 0) hx hb hK hP rfl rfl (by omega) (by decide) dM_stable_59 ?_
                refine r_lt (knM_lt ok _ _ _) (ok.line (o)) (tgt := 67) hx hb dM_stable_60 (by decide) (fun c_60 => ?_) (fun c_60 => ?_)
                · refine lv_iconst (v := bI (false)) hx hb dM_stable_67 (by decide) ?_
                  refine lv_istore_n (lv' := [(3, .int (bI (false))), (0, .ref (q 0)), (1, .int (nI (r))), (2, .int (nI (o))), (4, .int (nI (j)))]) hx hb dM_stable_68 rfl hl (by decide) rfl (fun ls hl => ?_)
                  refine lv_iinc (v := nI (j + 1)) (lv' := [(4, .int (nI (j + 1))), (3, .int (bI (false))), (0, .ref (q 0)), (1, .int (nI (r))), (2, .int (nI (o)))]) hx hb dM_stable_69 hl (k := 4) rfl (nI_1 _) (by decide) rfl (fun ls hl => ?_)
                  refine lv_goto (tgt := 31) hx hb dM_stable_72 (by decide) ?_
                  exact ih  (j + 1) (false) H locs hP hD hS ls (by omega) (by omega) (by first | exact c_21.symm | (rw [stbM_s, ← h3]; first | (simp [c_38]; done) | (simp [c_38, c_60]; done) | (simp [c_38, show ¬ x.line o ≤ knM x r j (x.by_ o) by omega]; done))) (lv_sub hl [2, 3, 4, 1, 0] rfl)
                · refine lv_iconst (v := bI (true)) hx hb dM_stable_63 (by decide) ?_
                  refine lv_goto (tgt := 68) hx hb dM_stable_64 (by decide) ?_
                  refine lv_istore_n (lv' := [(3, .int (bI (true))), (0, .ref (q 0)), (1, .int (nI (r))), (2, .int (nI (o))), (4, .int (nI (j)))]) hx hb dM_stable_68 rfl hl (by decide) rfl (fun ls hl => ?_)
                  refine lv_iinc (v := nI (j + 1)) (lv' := [(4, .int (nI (j + 1))), (3, .int (bI (true))), (0, .ref (q 0)), (1, .int (nI (r))), (2, .int (nI (o)))]) hx hb dM_stable_69 hl (k := 4) rfl (nI_1 _) (by decide) rfl (fun ls hl => ?_)
                  refine lv_goto (tgt := 31) hx hb dM_stable_72 (by decide) ?_
                  exact ih  (j + 1) (true) H locs hP hD hS ls (by omega) (by omega) (by first | exact c_21.symm | (rw [stbM_s, ← h3]; first | (simp [c_38]; done) | (simp [c_38, c_60]; done) | (simp [c_38, show ¬ x.line o ≤ knM x r j (x.by_ o) by omega]; done))) (lv_sub hl [2, 3, 4, 1, 0] rfl)
        refine lv_iconst (v := bI (true)) hx hb dM_stable_26 (by decide) ?_
        refine lv_istore_n (lv' := [(3, .int (bI (true))), (0, .ref (q 0)), (1, .int (nI (r))), (2, .int (nI (o)))]) hx hb dM_stable_27 rfl hl (by decide) rfl (fun ls hl => ?_)
        refine lv_iconst (v := nI (0)) hx hb dM_stable_28 (by decide) ?_
        refine lv_istore (lv' := [(4, .int (nI (0))), (3, .int (bI (true))), (0, .ref (q 0)), (1, .int (nI (r))), (2, .int (nI (o)))]) hx hb dM_stable_29 hl (by decide) rfl (fun ls hl => ?_)
        exact L31 (4) (0) (true) s.heap [] hP hD hS ls (by omega) (by omega) (by first | exact c_21.symm | (rw [stbM_s, ← h3]; first | (simp [c_38]; done) | (simp [c_38, c_60]; done) | (simp [c_38, show ¬ x.line o ≤ knM x r j (x.by_ o) by omega]; done))) (lv_sub hl [2, 3, 4, 1, 0] rfl)
      · refine lv_iconst (v := bI (false)) hx hb dM_stable_24 (by decide) ?_
        exact kx _ _ _ _ _ (x) dM_stable_25 hS hP hD (by first | exact Or.inl ⟨Or.inl c_4, rfl, rfl⟩ | exact Or.inl ⟨Or.inr c_12, rfl, rfl⟩ | exact Or.inr ⟨r, o, hr_r, rfl, ho_o, rfl, by rw [stbM_no c_21], rfl⟩)
end
section
/-! The reference's public methods that walk: what they answer -/
theorem z_le {z : Int32} {n : Nat} (h0 : ¬ z < 0) (h : z ≤ nI n) (hn : n ≤ 100) : ∃ p : Nat, p ≤ n ∧ z = nI p := nI_of2 (nI_toInt (show n < 2 ^ 31 by omega)) h0 h
theorem z_lt {z : Int32} {n : Nat} (h0 : ¬ z < 0) (h : ¬ nI n ≤ z) (hn : n ≤ 100) : ∃ p : Nat, p < n ∧ z = nI p := by
  rcases pk_ix z (n := n) (by omega) with q | q | q
  · exact absurd q h0
  · exact absurd q h
  · exact q
theorem z_ge0 {z : Int32} (h : 0 ≤ z) : ¬ z < 0 := Int32.not_lt.mpr h
theorem wrt_ok {er : Nat → Bool} : ∀ (vs : List Nat) (n : Nat) (t : Nat → Nat), n + vs.length ≤ 100 → (∀ k, t k < 100) → (∀ v ∈ vs, v ≤ 100) → (wrtF er vs (n, t)).1 ≤ 100 ∧ ∀ k, (wrtF er vs (n, t)).2 k < 100
  | [], n, t, h1, h2, _ => ⟨by simpa [wrtF] using h1, h2⟩
  | v :: vs, n, t, h1, h2, h3 => by
    simp only [List.length_cons] at h1
    cases hc : er (v - 1) with
    | true => rw [wrtF_t hc]; exact wrt_ok vs n t (by omega) h2 (fun z hz => h3 z (List.mem_cons_of_mem _ hz))
    | false =>
      rw [wrtF_f hc]
      have := h3 v List.mem_cons_self
      exact wrt_ok vs (n + 1) _ (by omega) (up_lt100 h2 (by omega)) (fun z hz => h3 z (List.mem_cons_of_mem _ hz))
/-- the elements that a walk of each replica goes through -/
def xsOK (x : MS) (xs : Nat → List Nat) : Prop := ∀ r, r < 3 → chainP (nxtM x r) 0 (xs r) ∧ (xs r).length ≤ 100 ∧ ∀ v ∈ xs r, v ≤ x.nn
theorem okM_walked {x : MS} {r : Nat} {vs : List Nat} (ok : okM x) (h1 : vs.length ≤ 100) (h2 : ∀ v ∈ vs, v ≤ x.nn) : okM (walked x r vs) := by
  have hn := ok.n
  have h := wrt_ok (er := fun f => ersM x r f x.nn) vs 0 x.txt (by omega) ok.txt100 (fun v hv => Nat.le_trans (h2 v hv) hn)
  exact okM_wt ok h.1 h.2
def befM (x : MS) (p : Nat) : Nat := if p = 0 then 0 else x.txt (p - 1) + 1
def RM_insert (x : MS) (xs : Nat → List Nat) (z1 z2 : Int32) (k : Nat) (v : Int32) (u : MS) : Prop :=
  ((isRep z1 = false ∨ k < 32 ∨ 126 < k) ∧ v = -1 ∧ u = x) ∨ ∃ r : Nat, r < 3 ∧ z1 = nI r ∧ 32 ≤ k ∧ k ≤ 126 ∧
    (((z2 < 0 ∨ ¬ z2 ≤ nI (walked x r (xs r)).len) ∧ v = -1 ∧ u = walked x r (xs r)) ∨ ∃ p : Nat, p ≤ (walked x r (xs r)).len ∧ z2 = nI p ∧
      ((x.nn = 100 ∧ v = -2 ∧ u = walked x r (xs r)) ∨ (x.nn < 100 ∧ v = nI x.nn ∧ u = issM (walked x r (xs r)) r k (befM (walked x r (xs r)) p))))
def RM_erase (x : MS) (xs : Nat → List Nat) (z1 z2 : Int32) (v : Int32) (u : MS) : Prop :=
  (isRep z1 = false ∧ v = -1 ∧ u = x) ∨ ∃ r : Nat, r < 3 ∧ z1 = nI r ∧
    (((z2 < 0 ∨ nI (walked x r (xs r)).len ≤ z2) ∧ v = -1 ∧ u = walked x r (xs r)) ∨ ∃ p : Nat, p < (walked x r (xs r)).len ∧ z2 = nI p ∧
      ((x.nn = 100 ∧ v = -2 ∧ u = walked x r (xs r)) ∨ (x.nn < 100 ∧ v = nI x.nn ∧ u = issM (walked x r (xs r)) r 0 ((walked x r (xs r)).txt p + 1))))
def RM_length (x : MS) (xs : Nat → List Nat) (z1 : Int32) (v : Int32) (u : MS) : Prop := (isRep z1 = false ∧ v = -1 ∧ u = x) ∨ ∃ r : Nat, r < 3 ∧ z1 = nI r ∧ v = nI (walked x r (xs r)).len ∧ u = walked x r (xs r)
def RM_at (x : MS) (xs : Nat → List Nat) (z1 z2 : Int32) (v : Int32) (u : MS) : Prop :=
  ((isRep z1 = false ∨ ¬ 0 ≤ z2) ∧ v = -1 ∧ u = x) ∨ ∃ r : Nat, r < 3 ∧ z1 = nI r ∧ 0 ≤ z2 ∧ u = walked x r (xs r) ∧ ((nI (walked x r (xs r)).len ≤ z2 ∧ v = -1) ∨ ∃ p : Nat, p < (walked x r (xs r)).len ∧ z2 = nI p ∧ v = nI (x.let_ ((walked x r (xs r)).txt p)))
/-- position: the last place of o in the text, a code -/
def posF (t : Nat → Nat) (o : Nat) : Nat → Nat
  | 0 => 0
  | k + 1 => if t k = o then k + 1 else posF t o k
theorem posF_t {t : Nat → Nat} {o k : Nat} (h : t k = o) : posF t o (k + 1) = k + 1 := by rw [posF, if_pos h]
theorem posF_f {t : Nat → Nat} {o k : Nat} (h : ¬ t k = o) : posF t o (k + 1) = posF t o k := by rw [posF, if_neg h]
theorem posF_le (t : Nat → Nat) (o : Nat) : ∀ k, posF t o k ≤ k
  | 0 => Nat.le_refl 0
  | k + 1 => by
    have := posF_le t o k
    unfold posF
    split <;> omega
def RM_position (x : MS) (xs : Nat → List Nat) (z1 z2 : Int32) (v : Int32) (u : MS) : Prop :=
  ((isRep z1 = false ∨ isOp x.nn z2 = false) ∧ v = -1 ∧ u = x) ∨ ∃ r o : Nat, r < 3 ∧ z1 = nI r ∧ o < x.nn ∧ z2 = nI o ∧ v = sI (posF (walked x r (xs r)).txt o (walked x r (xs r)).len) ∧ u = walked x r (xs r)
def sprU (s0 f : Nat → Nat) : Nat → Nat → Nat
  | 0 => s0
  | k + 1 => va_up (sprU s0 f k) k (f k)
theorem sprU_lt {s0 f : Nat → Nat} {B : Nat} (h0 : ∀ k, s0 k < B) (hf : ∀ k, f k < B) : ∀ j k, sprU s0 f j k < B
  | 0 => h0
  | j + 1 => up_lt (sprU_lt h0 hf j) (hf j)
theorem andF_mono {g : Nat → Bool} {b : Bool} {k : Nat} (h : andF g b k = false) : ∀ {n : Nat}, k ≤ n → andF g b n = false
  | 0, hk => by
    have : k = 0 := by omega
    subst this; exact h
  | n + 1, hk => by
    by_cases hz : k = n + 1
    · subst hz; exact h
    · show (andF g b n && g n) = false
      rw [andF_mono h (show k ≤ n by omega), Bool.false_and]
/-- same(r, t): the state before its second walk, and what it answers -/
def smM (x : MS) (xs : Nat → List Nat) (r : Nat) : MS :=
  mkM x.nn x.by_ x.line x.stp x.let_ x.oth x.clk x.app x.wts x.gon (walked x r (xs r)).len (walked x r (xs r)).txt (sprU x.spr (fun k => x.let_ ((walked x r (xs r)).txt k)) (walked x r (xs r)).len)
def smA (x : MS) (xs : Nat → List Nat) (r t : Nat) : Bool :=
  andF (fun k => decide ((walked (smM x xs r) t (xs t)).spr k = x.let_ ((walked (smM x xs r) t (xs t)).txt k))) (decide ((walked x r (xs r)).len = (walked (smM x xs r) t (xs t)).len)) (walked x r (xs r)).len
def RM_same (x : MS) (xs : Nat → List Nat) (z1 z2 : Int32) (v : Int32) (u : MS) : Prop :=
  ((isRep z1 = false ∨ isRep z2 = false) ∧ v = bI false ∧ u = x) ∨ ∃ r t : Nat, r < 3 ∧ z1 = nI r ∧ t < 3 ∧ z2 = nI t ∧ v = bI (smA x xs r t) ∧ u = walked (smM x xs r) t (xs t)
theorem andF_s (g : Nat → Bool) (b : Bool) (n : Nat) : andF g b (n + 1) = (andF g b n && g n) := rfl
end
section
def rmM_insert : Room := { frames := 4, cells := 0, slots := 0, locals := 94 }
set_option maxHeartbeats 4000000 in
set_option maxRecDepth 100000 in
theorem kM_insert {l : Launch} (D : va_G) (cc : Nat → ClassId) (q : Nat → Nat) (x : MS) (sz : Nat) (z1 z2 : Int32) (k : Nat) (hk : k < 65536) (xs : Nat → List Nat) (hxs : xsOK x xs) (hpar : ∀ k, k < x.nn → x.oth k ≤ k) (hg : ∀ r, r < 3 → gstM x r x.nn < 999) (ok : okM x) : Met l yM_insert wsM_insert rmM_insert (va_Pc [.ref (q 0), .int (z1), .int (z2), .int (nI (k))] (WP D cc (wM cc q x) sz)) (va_Qi (RM_insert x xs z1 z2 k) (WQ D cc (va_A (wM cc q x) sz) (fun u : MS => wM cc q u)) (va_A (wM cc q x) sz)) 0 0 (va_A (wM cc q x) sz) := by
  refine wr_meti RM [.ref (q 0), .int (z1), .int (z2), .int (nI (k))] D cc (wM cc q x) sz (fun u : MS => wM cc q u) _ (by decide) rfl rfl (Nat.le_of_ble_eq_true rfl) (fun v _ _ => vp_nar_int v) ?_
  intro p e s m args below meth c Q A S hP hE hD hA kx ls hl
  obtain ⟨hx, hb, hml, hown, hts⟩ := id S
  have hK := hE.1
  have hts := hE.ts args
  have S : CallFix p m c cM_insert 4 s args wAll RM := ⟨hx, hb, hml, hown, hts⟩
  have hS : va_S A s.heap s.heap [] := va_S.rf
  have hn := ok.n
  have hl : lv_has ls 4 [(0, .ref (q 0)), (1, .int (z1)), (2, .int (z2)), (3, .int (nI (k)))] := hl
  refine lv_iload_n hx hb dM_insert_0 rfl (lv_at hl 1 rfl) ?_
  refine W.callR (W.runS (As := [.int (z1)]) (rest := []) S (kM_isReplica ((z1))) (va_cwS 1 hts (gd_S wm_273 wm_274 wm_4 wm_275) rfl rfl rfl (by decide +kernel) ⟨Nat.le_of_ble_eq_true rfl, Nat.le_of_ble_eq_true rfl⟩) preT rfl rfl hl.1 rfl (lv_room (Nat.le_of_ble_eq_true rfl)) dM_insert_1 ⟨Nat.le_of_ble_eq_true rfl, Nat.le_of_ble_eq_true rfl⟩) ?_
  refine W.eq (g2 := F0 m 4 ls [.int (bI (isRep ((z1))))]) rfl ?_
  refine r_eqB (tgt := 19) hx hb dM_insert_4 (by decide) (fun c_4 => ?_) (fun c_4 => ?_)
  · refine lv_iconst (v := sI (0)) hx hb dM_insert_19 (by decide) ?_
    exact kx _ _ _ _ _ (x) dM_insert_20 hS hP hD (by first | exact Or.inl ⟨Or.inl c_4, sI_0, rfl⟩ | exact Or.inl ⟨Or.inr (Or.inl c_10), sI_0, rfl⟩ | exact Or.inl ⟨Or.inr (Or.inr c_16), sI_0, rfl⟩)
  · refine lv_iload_n hx hb dM_insert_7 rfl (lv_at hl 3 rfl) ?_
    refine lv_bipush (v := nI (32)) hx hb dM_insert_8 (by decide) ?_
    refine r_lt (by omega) (by decide) (tgt := 19) hx hb dM_insert_10 (by decide) (fun c_10 => ?_) (fun c_10 => ?_)
    · refine lv_iconst (v := sI (0)) hx hb dM_insert_19 (by decide) ?_
      exact kx _ _ _ _ _ (x) dM_insert_20 hS hP hD (by first | exact Or.inl ⟨Or.inl c_4, sI_0, rfl⟩ | exact Or.inl ⟨Or.inr (Or.inl c_10), sI_0, rfl⟩ | exact Or.inl ⟨Or.inr (Or.inr c_16), sI_0, rfl⟩)
    · refine lv_iload_n hx hb dM_insert_13 rfl (lv_at hl 3 rfl) ?_
      refine lv_bipush (v := nI (126)) hx hb dM_insert_14 (by decide) ?_
      refine r_le (by omega) (by decide) (tgt := 21) hx hb dM_insert_16 (by decide) (fun c_16 => ?_) (fun c_16 => ?_)
      · obtain ⟨r, hr_r, rfl⟩ := isRep_of c_4
        refine lv_aload_n hx hb dM_insert_21 rfl (lv_at hl 0 rfl) ?_
        refine lv_iload_n hx hb dM_insert_22 rfl (lv_at hl 1 rfl) ?_
        refine wr_callv (w2 := []) (va_runV (As := [.int (nI (r))]) (rest := []) S (kM_walk D cc q (x) (s.heap.size) r (xs r) hr_r hpar ok (hxs r hr_r).1 (hxs r hr_r).2.1 (hxs r hr_r).2.2) (cwV 1 hts (gd_V wm_276 wm_277 wm_379 wm_4 wm_278) rfl rfl rfl (by decide +kernel) ⟨Nat.le_of_ble_eq_true rfl, Nat.le_of_ble_eq_true rfl⟩) (wr_preV (q0 := 0) hP hE hD rfl rfl) rfl rfl hl.1 rfl (lv_room (Nat.le_of_ble_eq_true rfl)) dM_insert_23 ⟨Nat.le_of_ble_eq_true rfl, Nat.le_of_ble_eq_true rfl⟩) (by rw [List.append_nil]; exact hP) (by rw [List.append_nil]; exact hD) hS hA (fun u H locs hpo hP hD hS => ?_)
        rw [List.append_nil] at hP hD
        have hP : va_P D vwCl (wM cc q (walked x r (xs r))) H := hP
        have hD : va_D A (wM cc q (walked x r (xs r))) := hD
        have okw : okM (walked x r (xs r)) := okM_walked ok (hxs r hr_r).2.1 (hxs r hr_r).2.2
        refine lv_iload_n hx hb dM_insert_26 rfl (lv_at hl 2 rfl) ?_
        refine lv_if_lt (tgt := 38) hx hb dM_insert_27 (by decide) (fun c_27 => ?_) (fun c_27 => ?_)
        · refine lv_iconst (v := sI (0)) hx hb dM_insert_38 (by decide) ?_
          exact kx _ _ _ _ _ (walked x r (xs r)) dM_insert_39 hS hP hD (by first | exact Or.inr ⟨r, hr_r, rfl, c_10, c_16, Or.inl ⟨Or.inl c_27, sI_0, rfl⟩⟩ | exact Or.inr ⟨r, hr_r, rfl, c_10, c_16, Or.inl ⟨Or.inr c_35, sI_0, rfl⟩⟩)
        · refine lv_iload_n hx hb dM_insert_30 rfl (lv_at hl 2 rfl) ?_
          refine lv_aload_n hx hb dM_insert_31 rfl (lv_at hl 0 rfl) ?_
          refine va_get (D := D) (ci := 3) (v := .int (nI ((walked x r (xs r)).len))) (C := RM) (T := TM) (N := 13) hx hb hts in_M hown hK hP 0 rfl rfl 10 (by decide) (hts _ wm_253) (fun _ h9 => h9) rfl dM_insert_32 ?_
          refine lv_icmp_le (tgt := 40) hx hb dM_insert_35 (by decide) (fun c_35 => ?_) (fun c_35 => ?_)
          · obtain ⟨p, hp_p, rfl⟩ := z_le (c_27) c_35 okw.len
            have hle := okw.len
            refine lv_aload_n hx hb dM_insert_40 rfl (lv_at hl 0 rfl) ?_
            refine va_get (D := D) (ci := 3) (v := .int (nI ((walked x r (xs r)).nn))) (C := RM) (T := TM) (N := 13) hx hb hts in_M hown hK hP 0 rfl rfl 0 (by decide) (hts _ wm_243) (fun _ h9 => h9) rfl dM_insert_41 ?_
            refine lv_bipush (v := nI (100)) hx hb dM_insert_44 (by decide) ?_
            refine r_ne (Nat.lt_of_le_of_lt okw.n (by decide)) (by decide) (tgt := 52) hx hb dM_insert_46 (by decide) (fun c_46 => ?_) (fun c_46 => ?_)
            · refine lv_aload_n hx hb dM_insert_52 rfl (lv_at hl 0 rfl) ?_
              refine lv_iload_n hx hb dM_insert_53 rfl (lv_at hl 1 rfl) ?_
              refine lv_iload_n hx hb dM_insert_54 rfl (lv_at hl 3 rfl) ?_
              refine lv_iload_n hx hb dM_insert_55 rfl (lv_at hl 2 rfl) ?_
              refine r_neN (by omega) (tgt := 63) hx hb dM_insert_56 (by decide) (fun c_56 => ?_) (fun c_56 => ?_)
              · refine lv_aload_n hx hb dM_insert_63 rfl (lv_at hl 0 rfl) ?_
                refine va_get (D := D) (ci := 3) (v := .ref (q 10)) (C := RM) (T := TM) (N := 13) hx hb hts in_M hown hK hP 0 rfl rfl 11 (by decide) (hts _ wm_254) (fun _ h9 => h9) rfl dM_insert_64 ?_
                refine lv_iload_n hx hb dM_insert_67 rfl (lv_at hl 2 rfl) ?_
                refine lv_iconst (v := nI (1)) hx hb dM_insert_68 (by decide) ?_
                refine r_sub (by omega) hx hb dM_insert_69 ?_
                refine r_iald (q0 := 10) (t0 := 0) hx hb hK hP rfl rfl (by have := okw.len; omega) (by decide) dM_insert_70 ?_
                refine r_top (y := sI (((walked x r (xs r)).txt) (p - 1) + 1)) (sI_s _).symm ?_
                refine wr_calli (w2 := []) (va_runV (As := [.int (nI (r)), .int (nI (k)), .int (sI (((walked x r (xs r)).txt) (p - 1) + 1))]) (rest := []) S (kM_issue D cc q (walked x r (xs r)) (H.size) (r) (k) (((walked x r (xs r)).txt) (p - 1) + 1) hr_r (by omega) (by first | exact Nat.zero_le _ | (have := okw.txt100 (p - 1); omega)) (by have := okw.n; omega) (hg r hr_r) okw) (cwV 3 hts (gd_V wm_294 wm_295 wm_385 wm_4 wm_296) rfl rfl rfl (by decide +kernel) ⟨Nat.le_of_ble_eq_true rfl, Nat.le_of_ble_eq_true rfl⟩) (wr_preV (q0 := 0) hP hE hD rfl rfl) rfl rfl hl.1 rfl (lv_room (Nat.le_of_ble_eq_true rfl)) dM_insert_71 ⟨Nat.le_of_ble_eq_true rfl, Nat.le_of_ble_eq_true rfl⟩) (by rw [List.append_nil]; exact hP) (by rw [List.append_nil]; exact hD) hS hA (fun v_71 u H locs hpo hP hD hS => ?_)
                rw [List.append_nil] at hP hD
                subst hpo
                have hP : va_P D vwCl (wM cc q (issM (walked x r (xs r)) (r) (k) (((walked x r (xs r)).txt) (p - 1) + 1))) H := hP
                have hD : va_D A (wM cc q (issM (walked x r (xs r)) (r) (k) (((walked x r (xs r)).txt) (p - 1) + 1))) := hD
                exact kx _ _ _ _ _ (issM (walked x r (xs r)) (r) (k) (((walked x r (xs r)).txt) (p - 1) + 1)) dM_insert_74 hS hP hD (Or.inr ⟨r, hr_r, rfl, c_10, c_16, Or.inr ⟨p, hp_p, rfl, Or.inr ⟨Nat.lt_of_le_of_ne ok.n c_46, rfl, by unfold befM; first | (rw [if_pos c_56]; done) | (rw [if_neg c_56]; done)⟩⟩⟩)
              · refine lv_iconst (v := sI (0)) hx hb dM_insert_59 (by decide) ?_
                refine lv_goto (tgt := 71) hx hb dM_insert_60 (by decide) ?_
                refine wr_calli (w2 := []) (va_runV (As := [.int (nI (r)), .int (nI (k)), .int (sI (0))]) (rest := []) S (kM_issue D cc q (walked x r (xs r)) (H.size) (r) (k) (0) hr_r (by omega) (by first | exact Nat.zero_le _ | (have := okw.txt100 (p - 1); omega)) (by have := okw.n; omega) (hg r hr_r) okw) (cwV 3 hts (gd_V wm_294 wm_295 wm_385 wm_4 wm_296) rfl rfl rfl (by decide +kernel) ⟨Nat.le_of_ble_eq_true rfl, Nat.le_of_ble_eq_true rfl⟩) (wr_preV (q0 := 0) hP hE hD rfl rfl) rfl rfl hl.1 rfl (lv_room (Nat.le_of_ble_eq_true rfl)) dM_insert_71 ⟨Nat.le_of_ble_eq_true rfl, Nat.le_of_ble_eq_true rfl⟩) (by rw [List.append_nil]; exact hP) (by rw [List.append_nil]; exact hD) hS hA (fun v_71 u H locs hpo hP hD hS => ?_)
                rw [List.append_nil] at hP hD
                subst hpo
                have hP : va_P D vwCl (wM cc q (issM (walked x r (xs r)) (r) (k) (0))) H := hP
                have hD : va_D A (wM cc q (issM (walked x r (xs r)) (r) (k) (0))) := hD
                exact kx _ _ _ _ _ (issM (walked x r (xs r)) (r) (k) (0)) dM_insert_74 hS hP hD (Or.inr ⟨r, hr_r, rfl, c_10, c_16, Or.inr ⟨p, hp_p, rfl, Or.inr ⟨Nat.lt_of_le_of_ne ok.n c_46, rfl, by unfold befM; first | (rw [if_pos c_56]; done) | (rw [if_neg c_56]; done)⟩⟩⟩)
            · refine lv_bipush (v := (-2)) hx hb dM_insert_49 (by decide) ?_
              exact kx _ _ _ _ _ (walked x r (xs r)) dM_insert_51 hS hP hD (Or.inr ⟨r, hr_r, rfl, c_10, c_16, Or.inr ⟨p, hp_p, rfl, Or.inl ⟨c_46, rfl, rfl⟩⟩⟩)
          · refine lv_iconst (v := sI (0)) hx hb dM_insert_38 (by decide) ?_
            exact kx _ _ _ _ _ (walked x r (xs r)) dM_insert_39 hS hP hD (by first | exact Or.inr ⟨r, hr_r, rfl, c_10, c_16, Or.inl ⟨Or.inl c_27, sI_0, rfl⟩⟩ | exact Or.inr ⟨r, hr_r, rfl, c_10, c_16, Or.inl ⟨Or.inr c_35, sI_0, rfl⟩⟩)
      · refine lv_iconst (v := sI (0)) hx hb dM_insert_19 (by decide) ?_
        exact kx _ _ _ _ _ (x) dM_insert_20 hS hP hD (by first | exact Or.inl ⟨Or.inl c_4, sI_0, rfl⟩ | exact Or.inl ⟨Or.inr (Or.inl c_10), sI_0, rfl⟩ | exact Or.inl ⟨Or.inr (Or.inr c_16), sI_0, rfl⟩)

def rmM_erase : Room := { frames := 4, cells := 0, slots := 0, locals := 94 }
set_option maxHeartbeats 4000000 in
set_option maxRecDepth 100000 in
theorem kM_erase {l : Launch} (D : va_G) (cc : Nat → ClassId) (q : Nat → Nat) (x : MS) (sz : Nat) (z1 z2 : Int32) (xs : Nat → List Nat) (hxs : xsOK x xs) (hpar : ∀ k, k < x.nn → x.oth k ≤ k) (hg : ∀ r, r < 3 → gstM x r x.nn < 999) (ok : okM x) : Met l yM_erase wsM_erase rmM_erase (va_Pc [.ref (q 0), .int (z1), .int (z2)] (WP D cc (wM cc q x) sz)) (va_Qi (RM_erase x xs z1 z2) (WQ D cc (va_A (wM cc q x) sz) (fun u : MS => wM cc q u)) (va_A (wM cc q x) sz)) 0 0 (va_A (wM cc q x) sz) := by
  refine wr_meti RM [.ref (q 0), .int (z1), .int (z2)] D cc (wM cc q x) sz (fun u : MS => wM cc q u) _ (by decide) rfl rfl (Nat.le_of_ble_eq_true rfl) (fun v _ _ => vp_nar_int v) ?_
  intro p e s m args below meth c Q A S hP hE hD hA kx ls hl
  obtain ⟨hx, hb, hml, hown, hts⟩ := id S
  have hK := hE.1
  have hts := hE.ts args
  have S : CallFix p m c cM_erase 3 s args wAll RM := ⟨hx, hb, hml, hown, hts⟩
  have hS : va_S A s.heap s.heap [] := va_S.rf
  have hn := ok.n
  have hl : lv_has ls 3 [(0, .ref (q 0)), (1, .int (z1)), (2, .int (z2))] := hl
  refine lv_iload_n hx hb dM_erase_0 rfl (lv_at hl 1 rfl) ?_
  refine W.callR (W.runS (As := [.int (z1)]) (rest := []) S (kM_isReplica ((z1))) (va_cwS 1 hts (gd_S wm_273 wm_274 wm_4 wm_275) rfl rfl rfl (by decide +kernel) ⟨Nat.le_of_ble_eq_true rfl, Nat.le_of_ble_eq_true rfl⟩) preT rfl rfl hl.1 rfl (lv_room (Nat.le_of_ble_eq_true rfl)) dM_erase_1 ⟨Nat.le_of_ble_eq_true rfl, Nat.le_of_ble_eq_true rfl⟩) ?_
  refine W.eq (g2 := F0 m 4 ls [.int (bI (isRep ((z1))))]) rfl ?_
  refine r_neB (tgt := 9) hx hb dM_erase_4 (by decide) (fun c_4 => ?_) (fun c_4 => ?_)
  · obtain ⟨r, hr_r, rfl⟩ := isRep_of c_4
    refine lv_aload_n hx hb dM_erase_9 rfl (lv_at hl 0 rfl) ?_
    refine lv_iload_n hx hb dM_erase_10 rfl (lv_at hl 1 rfl) ?_
    refine wr_callv (w2 := []) (va_runV (As := [.int (nI (r))]) (rest := []) S (kM_walk D cc q (x) (s.heap.size) r (xs r) hr_r hpar ok (hxs r hr_r).1 (hxs r hr_r).2.1 (hxs r hr_r).2.2) (cwV 1 hts (gd_V wm_276 wm_277 wm_379 wm_4 wm_278) rfl rfl rfl (by decide +kernel) ⟨Nat.le_of_ble_eq_true rfl, Nat.le_of_ble_eq_true rfl⟩) (wr_preV (q0 := 0) hP hE hD rfl rfl) rfl rfl hl.1 rfl (lv_room (Nat.le_of_ble_eq_true rfl)) dM_erase_11 ⟨Nat.le_of_ble_eq_true rfl, Nat.le_of_ble_eq_true rfl⟩) (by rw [List.append_nil]; exact hP) (by rw [List.append_nil]; exact hD) hS hA (fun u H locs hpo hP hD hS => ?_)
    rw [List.append_nil] at hP hD
    have hP : va_P D vwCl (wM cc q (walked x r (xs r))) H := hP
    have hD : va_D A (wM cc q (walked x r (xs r))) := hD
    have okw : okM (walked x r (xs r)) := okM_walked ok (hxs r hr_r).2.1 (hxs r hr_r).2.2
    refine lv_iload_n hx hb dM_erase_14 rfl (lv_at hl 2 rfl) ?_
    refine lv_if_lt (tgt := 26) hx hb dM_erase_15 (by decide) (fun c_15 => ?_) (fun c_15 => ?_)
    · refine lv_iconst (v := sI (0)) hx hb dM_erase_26 (by decide) ?_
      exact kx _ _ _ _ _ (walked x r (xs r)) dM_erase_27 hS hP hD (by first | exact Or.inr ⟨r, hr_r, rfl, Or.inl ⟨Or.inl c_15, sI_0, rfl⟩⟩ | exact Or.inr ⟨r, hr_r, rfl, Or.inl ⟨Or.inr (Int32.not_lt.mp c_23), sI_0, rfl⟩⟩)
    · refine lv_iload_n hx hb dM_erase_18 rfl (lv_at hl 2 rfl) ?_
      refine lv_aload_n hx hb dM_erase_19 rfl (lv_at hl 0 rfl) ?_
      refine va_get (D := D) (ci := 3) (v := .int (nI ((walked x r (xs r)).len))) (C := RM) (T := TM) (N := 13) hx hb hts in_M hown hK hP 0 rfl rfl 10 (by decide) (hts _ wm_253) (fun _ h9 => h9) rfl dM_erase_20 ?_
      refine lv_icmp_lt (tgt := 28) hx hb dM_erase_23 (by decide) (fun c_23 => ?_) (fun c_23 => ?_)
      · obtain ⟨p, hp_p, rfl⟩ := z_lt (c_15) (Int32.not_le.mpr c_23) okw.len
        have hle := okw.len
        refine lv_aload_n hx hb dM_erase_28 rfl (lv_at hl 0 rfl) ?_
        refine va_get (D := D) (ci := 3) (v := .int (nI ((walked x r (xs r)).nn))) (C := RM) (T := TM) (N := 13) hx hb hts in_M hown hK hP 0 rfl rfl 0 (by decide) (hts _ wm_243) (fun _ h9 => h9) rfl dM_erase_29 ?_
        refine lv_bipush (v := nI (100)) hx hb dM_erase_32 (by decide) ?_
        refine r_ne (Nat.lt_of_le_of_lt okw.n (by decide)) (by decide) (tgt := 40) hx hb dM_erase_34 (by decide) (fun c_34 => ?_) (fun c_34 => ?_)
        · refine lv_aload_n hx hb dM_erase_40 rfl (lv_at hl 0 rfl) ?_
          refine lv_iload_n hx hb dM_erase_41 rfl (lv_at hl 1 rfl) ?_
          refine lv_iconst (v := nI (0)) hx hb dM_erase_42 (by decide) ?_
          refine lv_aload_n hx hb dM_erase_43 rfl (lv_at hl 0 rfl) ?_
          refine va_get (D := D) (ci := 3) (v := .ref (q 10)) (C := RM) (T := TM) (N := 13) hx hb hts in_M hown hK hP 0 rfl rfl 11 (by decide) (hts _ wm_254) (fun _ h9 => h9) rfl dM_erase_44 ?_
          refine lv_iload_n hx hb dM_erase_47 rfl (lv_at hl 2 rfl) ?_
          refine r_iald (q0 := 10) (t0 := 0) hx hb hK hP rfl rfl (by have := okw.len; omega) (by decide) dM_erase_48 ?_
          refine r_top (y := sI (((walked x r (xs r)).txt) p + 1)) (sI_s _).symm ?_
          refine wr_calli (w2 := []) (va_runV (As := [.int (nI (r)), .int (nI (0)), .int (sI (((walked x r (xs r)).txt) p + 1))]) (rest := []) S (kM_issue D cc q (walked x r (xs r)) (H.size) (r) (0) (((walked x r (xs r)).txt) p + 1) hr_r (by omega) (by have := okw.txt100 p; omega) (by have := okw.n; omega) (hg r hr_r) okw) (cwV 3 hts (gd_V wm_294 wm_295 wm_385 wm_4 wm_296) rfl rfl rfl (by decide +kernel) ⟨Nat.le_of_ble_eq_true rfl, Nat.le_of_ble_eq_true rfl⟩) (wr_preV (q0 := 0) hP hE hD rfl rfl) rfl rfl hl.1 rfl (lv_room (Nat.le_of_ble_eq_true rfl)) dM_erase_49 ⟨Nat.le_of_ble_eq_true rfl, Nat.le_of_ble_eq_true rfl⟩) (by rw [List.append_nil]; exact hP) (by rw [List.append_nil]; exact hD) hS hA (fun v_49 u H locs hpo hP hD hS => ?_)
          rw [List.append_nil] at hP hD
          subst hpo
          have hP : va_P D vwCl (wM cc q (issM (walked x r (xs r)) (r) (0) (((walked x r (xs r)).txt) p + 1))) H := hP
          have hD : va_D A (wM cc q (issM (walked x r (xs r)) (r) (0) (((walked x r (xs r)).txt) p + 1))) := hD
          exact kx _ _ _ _ _ (issM (walked x r (xs r)) (r) (0) (((walked x r (xs r)).txt) p + 1)) dM_erase_52 hS hP hD (Or.inr ⟨r, hr_r, rfl, Or.inr ⟨p, hp_p, rfl, Or.inr ⟨Nat.lt_of_le_of_ne ok.n c_34, rfl, rfl⟩⟩⟩)
        · refine lv_bipush (v := (-2)) hx hb dM_erase_37 (by decide) ?_
          exact kx _ _ _ _ _ (walked x r (xs r)) dM_erase_39 hS hP hD (Or.inr ⟨r, hr_r, rfl, Or.inr ⟨p, hp_p, rfl, Or.inl ⟨c_34, rfl, rfl⟩⟩⟩)
      · refine lv_iconst (v := sI (0)) hx hb dM_erase_26 (by decide) ?_
        exact kx _ _ _ _ _ (walked x r (xs r)) dM_erase_27 hS hP hD (by first | exact Or.inr ⟨r, hr_r, rfl, Or.inl ⟨Or.inl c_15, sI_0, rfl⟩⟩ | exact Or.inr ⟨r, hr_r, rfl, Or.inl ⟨Or.inr (Int32.not_lt.mp c_23), sI_0, rfl⟩⟩)
  · refine lv_iconst (v := sI (0)) hx hb dM_erase_7 (by decide) ?_
    exact kx _ _ _ _ _ (x) dM_erase_8 hS hP hD (Or.inl ⟨c_4, sI_0, rfl⟩)

def rmM_length : Room := { frames := 4, cells := 0, slots := 0, locals := 94 }
set_option maxHeartbeats 4000000 in
set_option maxRecDepth 100000 in
theorem kM_length {l : Launch} (D : va_G) (cc : Nat → ClassId) (q : Nat → Nat) (x : MS) (sz : Nat) (z1 : Int32) (xs : Nat → List Nat) (hxs : xsOK x xs) (hpar : ∀ k, k < x.nn → x.oth k ≤ k) (ok : okM x) : Met l yM_length wsM_length rmM_length (va_Pc [.ref (q 0), .int (z1)] (WP D cc (wM cc q x) sz)) (va_Qi (RM_length x xs z1) (WQ D cc (va_A (wM cc q x) sz) (fun u : MS => wM cc q u)) (va_A (wM cc q x) sz)) 0 0 (va_A (wM cc q x) sz) := by
  refine wr_meti RM [.ref (q 0), .int (z1)] D cc (wM cc q x) sz (fun u : MS => wM cc q u) _ (by decide) rfl rfl (Nat.le_of_ble_eq_true rfl) (fun v _ _ => vp_nar_int v) ?_
  intro p e s m args below meth c Q A S hP hE hD hA kx ls hl
  obtain ⟨hx, hb, hml, hown, hts⟩ := id S
  have hK := hE.1
  have hts := hE.ts args
  have S : CallFix p m c cM_length 2 s args wAll RM := ⟨hx, hb, hml, hown, hts⟩
  have hS : va_S A s.heap s.heap [] := va_S.rf
  have hn := ok.n
  have hl : lv_has ls 2 [(0, .ref (q 0)), (1, .int (z1))] := hl
  refine lv_iload_n hx hb dM_length_0 rfl (lv_at hl 1 rfl) ?_
  refine W.callR (W.runS (As := [.int (z1)]) (rest := []) S (kM_isReplica ((z1))) (va_cwS 1 hts (gd_S wm_273 wm_274 wm_4 wm_275) rfl rfl rfl (by decide +kernel) ⟨Nat.le_of_ble_eq_true rfl, Nat.le_of_ble_eq_true rfl⟩) preT rfl rfl hl.1 rfl (lv_room (Nat.le_of_ble_eq_true rfl)) dM_length_1 ⟨Nat.le_of_ble_eq_true rfl, Nat.le_of_ble_eq_true rfl⟩) ?_
  refine W.eq (g2 := F0 m 4 ls [.int (bI (isRep ((z1))))]) rfl ?_
  refine r_neB (tgt := 9) hx hb dM_length_4 (by decide) (fun c_4 => ?_) (fun c_4 => ?_)
  · obtain ⟨r, hr_r, rfl⟩ := isRep_of c_4
    refine lv_aload_n hx hb dM_length_9 rfl (lv_at hl 0 rfl) ?_
    refine lv_iload_n hx hb dM_length_10 rfl (lv_at hl 1 rfl) ?_
    refine wr_callv (w2 := []) (va_runV (As := [.int (nI (r))]) (rest := []) S (kM_walk D cc q (x) (s.heap.size) r (xs r) hr_r hpar ok (hxs r hr_r).1 (hxs r hr_r).2.1 (hxs r hr_r).2.2) (cwV 1 hts (gd_V wm_276 wm_277 wm_379 wm_4 wm_278) rfl rfl rfl (by decide +kernel) ⟨Nat.le_of_ble_eq_true rfl, Nat.le_of_ble_eq_true rfl⟩) (wr_preV (q0 := 0) hP hE hD rfl rfl) rfl rfl hl.1 rfl (lv_room (Nat.le_of_ble_eq_true rfl)) dM_length_11 ⟨Nat.le_of_ble_eq_true rfl, Nat.le_of_ble_eq_true rfl⟩) (by rw [List.append_nil]; exact hP) (by rw [List.append_nil]; exact hD) hS hA (fun u H locs hpo hP hD hS => ?_)
    rw [List.append_nil] at hP hD
    have hP : va_P D vwCl (wM cc q (walked x r (xs r))) H := hP
    have hD : va_D A (wM cc q (walked x r (xs r))) := hD
    have okw : okM (walked x r (xs r)) := okM_walked ok (hxs r hr_r).2.1 (hxs r hr_r).2.2
    refine lv_aload_n hx hb dM_length_14 rfl (lv_at hl 0 rfl) ?_
    refine va_get (D := D) (ci := 3) (v := .int (nI ((walked x r (xs r)).len))) (C := RM) (T := TM) (N := 13) hx hb hts in_M hown hK hP 0 rfl rfl 10 (by decide) (hts _ wm_253) (fun _ h9 => h9) rfl dM_length_15 ?_
    exact kx _ _ _ _ _ (walked x r (xs r)) dM_length_18 hS hP hD (Or.inr ⟨r, hr_r, rfl, rfl, rfl⟩)
  · refine lv_iconst (v := sI (0)) hx hb dM_length_7 (by decide) ?_
    exact kx _ _ _ _ _ (x) dM_length_8 hS hP hD (Or.inl ⟨c_4, sI_0, rfl⟩)

def rmM_at : Room := { frames := 4, cells := 0, slots := 0, locals := 94 }
set_option maxHeartbeats 4000000 in
set_option maxRecDepth 100000 in
theorem kM_at {l : Launch} (D : va_G) (cc : Nat → ClassId) (q : Nat → Nat) (x : MS) (sz : Nat) (z1 z2 : Int32) (xs : Nat → List Nat) (hxs : xsOK x xs) (hpar : ∀ k, k < x.nn → x.oth k ≤ k) (ok : okM x) : Met l yM_at wsM_at rmM_at (va_Pc [.ref (q 0), .int (z1), .int (z2)] (WP D cc (wM cc q x) sz)) (va_Qi (RM_at x xs z1 z2) (WQ D cc (va_A (wM cc q x) sz) (fun u : MS => wM cc q u)) (va_A (wM cc q x) sz)) 0 0 (va_A (wM cc q x) sz) := by
  refine wr_meti RM [.ref (q 0), .int (z1), .int (z2)] D cc (wM cc q x) sz (fun u : MS => wM cc q u) _ (by decide) rfl rfl (Nat.le_of_ble_eq_true rfl) (fun v _ _ => vp_nar_int v) ?_
  intro p e s m args below meth c Q A S hP hE hD hA kx ls hl
  obtain ⟨hx, hb, hml, hown, hts⟩ := id S
  have hK := hE.1
  have hts := hE.ts args
  have S : CallFix p m c cM_at 3 s args wAll RM := ⟨hx, hb, hml, hown, hts⟩
  have hS : va_S A s.heap s.heap [] := va_S.rf
  have hn := ok.n
  have hl : lv_has ls 3 [(0, .ref (q 0)), (1, .int (z1)), (2, .int (z2))] := hl
  refine lv_iload_n hx hb dM_at_0 rfl (lv_at hl 1 rfl) ?_
  refine W.callR (W.runS (As := [.int (z1)]) (rest := []) S (kM_isReplica ((z1))) (va_cwS 1 hts (gd_S wm_273 wm_274 wm_4 wm_275) rfl rfl rfl (by decide +kernel) ⟨Nat.le_of_ble_eq_true rfl, Nat.le_of_ble_eq_true rfl⟩) preT rfl rfl hl.1 rfl (lv_room (Nat.le_of_ble_eq_true rfl)) dM_at_1 ⟨Nat.le_of_ble_eq_true rfl, Nat.le_of_ble_eq_true rfl⟩) ?_
  refine W.eq (g2 := F0 m 4 ls [.int (bI (isRep ((z1))))]) rfl ?_
  refine r_eqB (tgt := 11) hx hb dM_at_4 (by decide) (fun c_4 => ?_) (fun c_4 => ?_)
  · refine lv_iconst (v := sI (0)) hx hb dM_at_11 (by decide) ?_
    exact kx _ _ _ _ _ (x) dM_at_12 hS hP hD (by first | exact Or.inl ⟨Or.inl c_4, sI_0, rfl⟩ | exact Or.inl ⟨Or.inr c_8, sI_0, rfl⟩)
  · refine lv_iload_n hx hb dM_at_7 rfl (lv_at hl 2 rfl) ?_
    refine lv_if_ge (tgt := 13) hx hb dM_at_8 (by decide) (fun c_8 => ?_) (fun c_8 => ?_)
    · obtain ⟨r, hr_r, rfl⟩ := isRep_of c_4
      refine lv_aload_n hx hb dM_at_13 rfl (lv_at hl 0 rfl) ?_
      refine lv_iload_n hx hb dM_at_14 rfl (lv_at hl 1 rfl) ?_
      refine wr_callv (w2 := []) (va_runV (As := [.int (nI (r))]) (rest := []) S (kM_walk D cc q (x) (s.heap.size) r (xs r) hr_r hpar ok (hxs r hr_r).1 (hxs r hr_r).2.1 (hxs r hr_r).2.2) (cwV 1 hts (gd_V wm_276 wm_277 wm_379 wm_4 wm_278) rfl rfl rfl (by decide +kernel) ⟨Nat.le_of_ble_eq_true rfl, Nat.le_of_ble_eq_true rfl⟩) (wr_preV (q0 := 0) hP hE hD rfl rfl) rfl rfl hl.1 rfl (lv_room (Nat.le_of_ble_eq_true rfl)) dM_at_15 ⟨Nat.le_of_ble_eq_true rfl, Nat.le_of_ble_eq_true rfl⟩) (by rw [List.append_nil]; exact hP) (by rw [List.append_nil]; exact hD) hS hA (fun u H locs hpo hP hD hS => ?_)
      rw [List.append_nil] at hP hD
      have hP : va_P D vwCl (wM cc q (walked x r (xs r))) H := hP
      have hD : va_D A (wM cc q (walked x r (xs r))) := hD
      have okw : okM (walked x r (xs r)) := okM_walked ok (hxs r hr_r).2.1 (hxs r hr_r).2.2
      refine lv_iload_n hx hb dM_at_18 rfl (lv_at hl 2 rfl) ?_
      refine lv_aload_n hx hb dM_at_19 rfl (lv_at hl 0 rfl) ?_
      refine va_get (D := D) (ci := 3) (v := .int (nI ((walked x r (xs r)).len))) (C := RM) (T := TM) (N := 13) hx hb hts in_M hown hK hP 0 rfl rfl 10 (by decide) (hts _ wm_253) (fun _ h9 => h9) rfl dM_at_20 ?_
      refine lv_icmp_ge (tgt := 40) hx hb dM_at_23 (by decide) (fun c_23 => ?_) (fun c_23 => ?_)
      · refine lv_iconst (v := sI (0)) hx hb dM_at_40 (by decide) ?_
        exact kx _ _ _ _ _ (walked x r (xs r)) dM_at_41 hS hP hD (by first | exact Or.inr ⟨r, hr_r, rfl, c_8, rfl, Or.inl ⟨c_23, sI_0⟩⟩ | exact Or.inr ⟨r, hr_r, rfl, c_8, rfl, Or.inr ⟨p, hp_p, rfl, rfl⟩⟩)
      · obtain ⟨p, hp_p, rfl⟩ := z_lt (z_ge0 c_8) c_23 okw.len
        have hle := okw.len
        refine lv_aload_n hx hb dM_at_26 rfl (lv_at hl 0 rfl) ?_
        refine va_get (D := D) (ci := 3) (v := .ref (q 4)) (C := RM) (T := TM) (N := 13) hx hb hts in_M hown hK hP 0 rfl rfl 4 (by decide) (hts _ wm_247) (fun _ h9 => h9) rfl dM_at_27 ?_
        refine lv_aload_n hx hb dM_at_30 rfl (lv_at hl 0 rfl) ?_
        refine va_get (D := D) (ci := 3) (v := .ref (q 10)) (C := RM) (T := TM) (N := 13) hx hb hts in_M hown hK hP 0 rfl rfl 11 (by decide) (hts _ wm_254) (fun _ h9 => h9) rfl dM_at_31 ?_
        refine lv_iload_n hx hb dM_at_34 rfl (lv_at hl 2 rfl) ?_
        refine r_iald (q0 := 10) (t0 := 0) hx hb hK hP rfl rfl (by have := okw.len; omega) (by decide) dM_at_35 ?_
        refine r_iald (q0 := 4) (t0 := 0) hx hb hK hP rfl rfl (okw.txt100 _) (by decide) dM_at_36 ?_
        refine lv_goto (tgt := 41) hx hb dM_at_37 (by decide) ?_
        exact kx _ _ _ _ _ (walked x r (xs r)) dM_at_41 hS hP hD (by first | exact Or.inr ⟨r, hr_r, rfl, c_8, rfl, Or.inl ⟨c_23, sI_0⟩⟩ | exact Or.inr ⟨r, hr_r, rfl, c_8, rfl, Or.inr ⟨p, hp_p, rfl, rfl⟩⟩)
    · refine lv_iconst (v := sI (0)) hx hb dM_at_11 (by decide) ?_
      exact kx _ _ _ _ _ (x) dM_at_12 hS hP hD (by first | exact Or.inl ⟨Or.inl c_4, sI_0, rfl⟩ | exact Or.inl ⟨Or.inr c_8, sI_0, rfl⟩)

def rmM_position : Room := { frames := 4, cells := 0, slots := 0, locals := 94 }
set_option maxHeartbeats 4000000 in
set_option maxRecDepth 100000 in
theorem kM_position {l : Launch} (D : va_G) (cc : Nat → ClassId) (q : Nat → Nat) (x : MS) (sz : Nat) (z1 z2 : Int32) (xs : Nat → List Nat) (hxs : xsOK x xs) (hpar : ∀ k, k < x.nn → x.oth k ≤ k) (ok : okM x) : Met l yM_position wsM_position rmM_position (va_Pc [.ref (q 0), .int (z1), .int (z2)] (WP D cc (wM cc q x) sz)) (va_Qi (RM_position x xs z1 z2) (WQ D cc (va_A (wM cc q x) sz) (fun u : MS => wM cc q u)) (va_A (wM cc q x) sz)) 0 0 (va_A (wM cc q x) sz) := by
  refine wr_meti RM [.ref (q 0), .int (z1), .int (z2)] D cc (wM cc q x) sz (fun u : MS => wM cc q u) _ (by decide) rfl rfl (Nat.le_of_ble_eq_true rfl) (fun v _ _ => vp_nar_int v) ?_
  intro p e s m args below meth c Q A S hP hE hD hA kx ls hl
  obtain ⟨hx, hb, hml, hown, hts⟩ := id S
  have hK := hE.1
  have hts := hE.ts args
  have S : CallFix p m c cM_position 5 s args wAll RM := ⟨hx, hb, hml, hown, hts⟩
  have hS : va_S A s.heap s.heap [] := va_S.rf
  have hn := ok.n
  have hl : lv_has ls 5 [(0, .ref (q 0)), (1, .int (z1)), (2, .int (z2))] := hl
  refine lv_iload_n hx hb dM_position_0 rfl (lv_at hl 1 rfl) ?_
  refine W.callR (W.runS (As := [.int (z1)]) (rest := []) S (kM_isReplica ((z1))) (va_cwS 1 hts (gd_S wm_273 wm_274 wm_4 wm_275) rfl rfl rfl (by decide +kernel) ⟨Nat.le_of_ble_eq_true rfl, Nat.le_of_ble_eq_true rfl⟩) preT rfl rfl hl.1 rfl (lv_room (Nat.le_of_ble_eq_true rfl)) dM_position_1 ⟨Nat.le_of_ble_eq_true rfl, Nat.le_of_ble_eq_true rfl⟩) ?_
  refine W.eq (g2 := F0 m 4 ls [.int (bI (isRep ((z1))))]) rfl ?_
  refine r_eqB (tgt := 15) hx hb dM_position_4 (by decide) (fun c_4 => ?_) (fun c_4 => ?_)
  · refine lv_iconst (v := sI (0)) hx hb dM_position_15 (by decide) ?_
    exact kx _ _ _ _ _ (x) dM_position_16 hS hP hD (by first | exact Or.inl ⟨Or.inl c_4, sI_0, rfl⟩ | exact Or.inl ⟨Or.inr c_12, sI_0, rfl⟩)
  · obtain ⟨r, hr_r, rfl⟩ := isRep_of c_4
    refine lv_aload_n hx hb dM_position_7 rfl (lv_at hl 0 rfl) ?_
    refine lv_iload_n hx hb dM_position_8 rfl (lv_at hl 2 rfl) ?_
    refine W.callR (W.runV (As := [.int (z2)]) (rest := []) S (kM_isOperation D cc q x ((z2)) ok) (cwV 1 hts (gd_V wm_308 wm_309 wm_387 wm_4 wm_310) rfl rfl rfl (by decide +kernel) ⟨Nat.le_of_ble_eq_true rfl, Nat.le_of_ble_eq_true rfl⟩) (rd_preV (q0 := 0) hP hE rfl rfl) rfl rfl hl.1 rfl (lv_room (Nat.le_of_ble_eq_true rfl)) dM_position_9 ⟨Nat.le_of_ble_eq_true rfl, Nat.le_of_ble_eq_true rfl⟩) ?_
    refine W.eq (g2 := F0 m 12 ls [.int (bI (isOp x.nn ((z2))))]) rfl ?_
    refine r_neB (tgt := 17) hx hb dM_position_12 (by decide) (fun c_12 => ?_) (fun c_12 => ?_)
    · obtain ⟨o, ho_o, rfl⟩ := isOp_of c_12
      refine lv_aload_n hx hb dM_position_17 rfl (lv_at hl 0 rfl) ?_
      refine lv_iload_n hx hb dM_position_18 rfl (lv_at hl 1 rfl) ?_
      refine wr_callv (w2 := []) (va_runV (As := [.int (nI (r))]) (rest := []) S (kM_walk D cc q (x) (s.heap.size) r (xs r) hr_r hpar ok (hxs r hr_r).1 (hxs r hr_r).2.1 (hxs r hr_r).2.2) (cwV 1 hts (gd_V wm_276 wm_277 wm_379 wm_4 wm_278) rfl rfl rfl (by decide +kernel) ⟨Nat.le_of_ble_eq_true rfl, Nat.le_of_ble_eq_true rfl⟩) (wr_preV (q0 := 0) hP hE hD rfl rfl) rfl rfl hl.1 rfl (lv_room (Nat.le_of_ble_eq_true rfl)) dM_position_19 ⟨Nat.le_of_ble_eq_true rfl, Nat.le_of_ble_eq_true rfl⟩) (by rw [List.append_nil]; exact hP) (by rw [List.append_nil]; exact hD) hS hA (fun u H locs hpo hP hD hS => ?_)
      rw [List.append_nil] at hP hD
      have hP : va_P D vwCl (wM cc q (walked x r (xs r))) H := hP
      have hD : va_D A (wM cc q (walked x r (xs r))) := hD
      have okw : okM (walked x r (xs r)) := okM_walked ok (hxs r hr_r).2.1 (hxs r hr_r).2.2
      have L27 : ∀ (n : Nat) (c2 : Nat) (k : Nat) (H : Heap) (locs : List Loc) (hP : va_P D vwCl (wM cc q (walked x r (xs r))) H) (hD : va_D A (wM cc q (walked x r (xs r)))) (hS : va_S A s.heap H locs) (ls : Array Slot) (h1 : k ≤ (walked x r (xs r)).len) (h2 : (walked x r (xs r)).len - k < n) (g1 : c2 = posF (walked x r (xs r)).txt o k), lv_has ls 5 [(0, .ref (q 0)), (1, .int (nI (r))), (2, .int (nI (o))), (3, .int (sI (c2))), (4, .int (nI (k)))] → W p l e rmM_position s m args below meth c H locs 0 0 Q (F0 m 27 ls []) := by
        intro n
        induction n with
        | zero => intro c2 k H locs hP hD hS ls h1 h2 g1 hl; exact absurd h2 (Nat.not_lt_zero _)
        | succ n ih =>
          intro c2 k H locs hP hD hS ls h1 h2 g1 hl
          have hle := okw.len
          refine lv_iload hx hb dM_position_27 (lv_at hl 4 rfl) ?_
          refine lv_aload_n hx hb dM_position_29 rfl (lv_at hl 0 rfl) ?_
          refine va_get (D := D) (ci := 3) (v := .int (nI ((walked x r (xs r)).len))) (C := RM) (T := TM) (N := 13) hx hb hts in_M hown hK hP 0 rfl rfl 10 (by decide) (hts _ wm_253) (fun _ h9 => h9) rfl dM_position_30 ?_
          refine r_ge (by omega) (Nat.lt_of_le_of_lt okw.len (by decide)) (tgt := 60) hx hb dM_position_33 (by decide) (fun c_33 => ?_) (fun c_33 => ?_)
          · refine lv_iload_n hx hb dM_position_60 rfl (lv_at hl 3 rfl) ?_
            obtain rfl : k = (walked x r (xs r)).len := by omega
            exact kx _ _ _ _ _ (walked x r (xs r)) dM_position_61 hS hP hD (Or.inr ⟨r, o, hr_r, rfl, ho_o, rfl, by rw [g1], rfl⟩)
          · refine lv_aload_n hx hb dM_position_36 rfl (lv_at hl 0 rfl) ?_
            refine va_get (D := D) (ci := 3) (v := .ref (q 10)) (C := RM) (T := TM) (N := 13) hx hb hts in_M hown hK hP 0 rfl rfl 11 (by decide) (hts _ wm_254) (fun _ h9 => h9) rfl dM_position_37 ?_
            refine lv_iload hx hb dM_position_40 (lv_at hl 4 rfl) ?_
            refine r_iald (q0 := 10) (t0 := 0) hx hb hK hP rfl rfl (by have := okw.len; omega) (by decide) dM_position_42 ?_
            refine lv_iload_n hx hb dM_position_43 rfl (lv_at hl 2 rfl) ?_
            refine r_ne (okw.txt (k)) (by omega) (tgt := 52) hx hb dM_position_44 (by decide) (fun c_44 => ?_) (fun c_44 => ?_)
            · refine lv_iload_n hx hb dM_position_52 rfl (lv_at hl 3 rfl) ?_
              refine lv_istore_n (lv' := [(3, .int (sI (c2))), (0, .ref (q 0)), (1, .int (nI (r))), (2, .int (nI (o))), (4, .int (nI (k)))]) hx hb dM_position_53 rfl hl (by decide) rfl (fun ls hl => ?_)
              refine lv_iinc (v := nI (k + 1)) (lv' := [(4, .int (nI (k + 1))), (3, .int (sI (c2))), (0, .ref (q 0)), (1, .int (nI (r))), (2, .int (nI (o)))]) hx hb dM_position_54 hl (k := 4) rfl (nI_1 _) (by decide) rfl (fun ls hl => ?_)
              refine lv_goto (tgt := 27) hx hb dM_position_57 (by decide) ?_
              exact ih  (c2) (k + 1) H locs hP hD hS ls (by omega) (by omega) (by first | rfl | (rw [posF_t c_44]; done) | (rw [posF_f c_44]; exact g1)) (lv_sub hl [2, 3, 4, 1, 0] rfl)
            · refine lv_iload hx hb dM_position_47 (lv_at hl 4 rfl) ?_
              refine lv_goto (tgt := 53) hx hb dM_position_49 (by decide) ?_
              refine r_top (y := sI (k + 1)) ((sI_s _).symm) ?_
              refine lv_istore_n (lv' := [(3, .int (sI (k + 1))), (0, .ref (q 0)), (1, .int (nI (r))), (2, .int (nI (o))), (4, .int (nI (k)))]) hx hb dM_position_53 rfl hl (by decide) rfl (fun ls hl => ?_)
              refine lv_iinc (v := nI (k + 1)) (lv' := [(4, .int (nI (k + 1))), (3, .int (sI (k + 1))), (0, .ref (q 0)), (1, .int (nI (r))), (2, .int (nI (o)))]) hx hb dM_position_54 hl (k := 4) rfl (nI_1 _) (by decide) rfl (fun ls hl => ?_)
              refine lv_goto (tgt := 27) hx hb dM_position_57 (by decide) ?_
              exact ih  (k + 1) (k + 1) H locs hP hD hS ls (by omega) (by omega) (by first | rfl | (rw [posF_t c_44]; done) | (rw [posF_f c_44]; exact g1)) (lv_sub hl [2, 3, 4, 1, 0] rfl)
      refine lv_iconst (v := sI (0)) hx hb dM_position_22 (by decide) ?_
      refine lv_istore_n (lv' := [(3, .int (sI (0))), (0, .ref (q 0)), (1, .int (nI (r))), (2, .int (nI (o)))]) hx hb dM_position_23 rfl hl (by decide) rfl (fun ls hl => ?_)
      refine lv_iconst (v := nI (0)) hx hb dM_position_24 (by decide) ?_
      refine lv_istore (lv' := [(4, .int (nI (0))), (3, .int (sI (0))), (0, .ref (q 0)), (1, .int (nI (r))), (2, .int (nI (o)))]) hx hb dM_position_25 hl (by decide) rfl (fun ls hl => ?_)
      exact L27 ((walked x r (xs r)).len + 1) (0) (0) H locs hP hD hS ls (by omega) (by omega) (by first | rfl | (rw [posF_t c_44]; done) | (rw [posF_f c_44]; exact g1)) (lv_sub hl [2, 3, 4, 1, 0] rfl)
    · refine lv_iconst (v := sI (0)) hx hb dM_position_15 (by decide) ?_
      exact kx _ _ _ _ _ (x) dM_position_16 hS hP hD (by first | exact Or.inl ⟨Or.inl c_4, sI_0, rfl⟩ | exact Or.inl ⟨Or.inr c_12, sI_0, rfl⟩)

def rmM_same : Room := { frames := 4, cells := 0, slots := 0, locals := 94 }
set_option maxHeartbeats 4000000 in
set_option maxRecDepth 100000 in
theorem kM_same {l : Launch} (D : va_G) (cc : Nat → ClassId) (q : Nat → Nat) (x : MS) (sz : Nat) (z1 z2 : Int32) (xs : Nat → List Nat) (hxs : xsOK x xs) (hpar : ∀ k, k < x.nn → x.oth k ≤ k) (ok : okM x) : Met l yM_same wsM_same rmM_same (va_Pc [.ref (q 0), .int (z1), .int (z2)] (WP D cc (wM cc q x) sz)) (va_Qi (RM_same x xs z1 z2) (WQ D cc (va_A (wM cc q x) sz) (fun u : MS => wM cc q u)) (va_A (wM cc q x) sz)) 0 0 (va_A (wM cc q x) sz) := by
  refine wr_meti RM [.ref (q 0), .int (z1), .int (z2)] D cc (wM cc q x) sz (fun u : MS => wM cc q u) _ (by decide) rfl rfl (Nat.le_of_ble_eq_true rfl) (fun v u h => by rcases h with ⟨-, rfl, -⟩ | ⟨_, _, _, _, _, _, rfl, -⟩ <;> exact bI_z _) ?_
  intro p e s m args below meth c Q A S hP hE hD hA kx ls hl
  obtain ⟨hx, hb, hml, hown, hts⟩ := id S
  have hK := hE.1
  have hts := hE.ts args
  have S : CallFix p m c cM_same 6 s args wAll RM := ⟨hx, hb, hml, hown, hts⟩
  have hS : va_S A s.heap s.heap [] := va_S.rf
  have hn := ok.n
  have hl : lv_has ls 6 [(0, .ref (q 0)), (1, .int (z1)), (2, .int (z2))] := hl
  refine lv_iload_n hx hb dM_same_0 rfl (lv_at hl 1 rfl) ?_
  refine W.callR (W.runS (As := [.int (z1)]) (rest := []) S (kM_isReplica ((z1))) (va_cwS 1 hts (gd_S wm_273 wm_274 wm_4 wm_275) rfl rfl rfl (by decide +kernel) ⟨Nat.le_of_ble_eq_true rfl, Nat.le_of_ble_eq_true rfl⟩) preT rfl rfl hl.1 rfl (lv_room (Nat.le_of_ble_eq_true rfl)) dM_same_1 ⟨Nat.le_of_ble_eq_true rfl, Nat.le_of_ble_eq_true rfl⟩) ?_
  refine W.eq (g2 := F0 m 4 ls [.int (bI (isRep ((z1))))]) rfl ?_
  refine r_eqB (tgt := 14) hx hb dM_same_4 (by decide) (fun c_4 => ?_) (fun c_4 => ?_)
  · refine lv_iconst (v := bI (false)) hx hb dM_same_14 (by decide) ?_
    exact kx _ _ _ _ _ (x) dM_same_15 hS hP hD (by first | exact Or.inl ⟨Or.inl c_4, rfl, rfl⟩ | exact Or.inl ⟨Or.inr c_11, rfl, rfl⟩)
  · obtain ⟨r, hr_r, rfl⟩ := isRep_of c_4
    refine lv_iload_n hx hb dM_same_7 rfl (lv_at hl 2 rfl) ?_
    refine W.callR (W.runS (As := [.int (z2)]) (rest := []) S (kM_isReplica ((z2))) (va_cwS 1 hts (gd_S wm_273 wm_274 wm_4 wm_275) rfl rfl rfl (by decide +kernel) ⟨Nat.le_of_ble_eq_true rfl, Nat.le_of_ble_eq_true rfl⟩) preT rfl rfl hl.1 rfl (lv_room (Nat.le_of_ble_eq_true rfl)) dM_same_8 ⟨Nat.le_of_ble_eq_true rfl, Nat.le_of_ble_eq_true rfl⟩) ?_
    refine W.eq (g2 := F0 m 11 ls [.int (bI (isRep ((z2))))]) rfl ?_
    refine r_neB (tgt := 16) hx hb dM_same_11 (by decide) (fun c_11 => ?_) (fun c_11 => ?_)
    · obtain ⟨t, hr_t, rfl⟩ := isRep_of c_11
      refine lv_aload_n hx hb dM_same_16 rfl (lv_at hl 0 rfl) ?_
      refine lv_iload_n hx hb dM_same_17 rfl (lv_at hl 1 rfl) ?_
      refine wr_callv (w2 := []) (va_runV (As := [.int (nI (r))]) (rest := []) S (kM_walk D cc q (x) (s.heap.size) r (xs r) hr_r hpar ok (hxs r hr_r).1 (hxs r hr_r).2.1 (hxs r hr_r).2.2) (cwV 1 hts (gd_V wm_276 wm_277 wm_379 wm_4 wm_278) rfl rfl rfl (by decide +kernel) ⟨Nat.le_of_ble_eq_true rfl, Nat.le_of_ble_eq_true rfl⟩) (wr_preV (q0 := 0) hP hE hD rfl rfl) rfl rfl hl.1 rfl (lv_room (Nat.le_of_ble_eq_true rfl)) dM_same_18 ⟨Nat.le_of_ble_eq_true rfl, Nat.le_of_ble_eq_true rfl⟩) (by rw [List.append_nil]; exact hP) (by rw [List.append_nil]; exact hD) hS hA (fun u H locs hpo hP hD hS => ?_)
      rw [List.append_nil] at hP hD
      have hP : va_P D vwCl (wM cc q (walked x r (xs r))) H := hP
      have hD : va_D A (wM cc q (walked x r (xs r))) := hD
      have okw : okM (walked x r (xs r)) := okM_walked ok (hxs r hr_r).2.1 (hxs r hr_r).2.2
      refine lv_aload_n hx hb dM_same_21 rfl (lv_at hl 0 rfl) ?_
      refine va_get (D := D) (ci := 3) (v := .int (nI ((walked x r (xs r)).len))) (C := RM) (T := TM) (N := 13) hx hb hts in_M hown hK hP 0 rfl rfl 10 (by decide) (hts _ wm_253) (fun _ h9 => h9) rfl dM_same_22 ?_
      refine lv_istore_n (lv' := [(3, .int (nI ((walked x r (xs r)).len))), (0, .ref (q 0)), (1, .int (nI (r))), (2, .int (nI (t)))]) hx hb dM_same_25 rfl hl (by decide) rfl (fun ls hl => ?_)
      have L29 : ∀ (n : Nat) (k : Nat) (H : Heap) (locs : List Loc) (hP : va_P D vwCl (wM cc q (mkM x.nn x.by_ x.line x.stp x.let_ x.oth x.clk x.app x.wts x.gon ((walked x r (xs r)).len) ((walked x r (xs r)).txt) (sprU x.spr (fun k => x.let_ ((walked x r (xs r)).txt k)) k))) H) (hD : va_D A (wM cc q (mkM x.nn x.by_ x.line x.stp x.let_ x.oth x.clk x.app x.wts x.gon ((walked x r (xs r)).len) ((walked x r (xs r)).txt) (sprU x.spr (fun k => x.let_ ((walked x r (xs r)).txt k)) k)))) (hS : va_S A s.heap H locs) (ls : Array Slot) (h1 : k ≤ (walked x r (xs r)).len) (h2 : (walked x r (xs r)).len - k < n), lv_has ls 6 [(0, .ref (q 0)), (1, .int (nI (r))), (2, .int (nI (t))), (3, .int (nI ((walked x r (xs r)).len))), (4, .int (nI (k)))] → W p l e rmM_same s m args below meth c H locs 0 0 Q (F0 m 29 ls []) := by
        intro n
        induction n with
        | zero => intro k H locs hP hD hS ls h1 h2 hl; exact absurd h2 (Nat.not_lt_zero _)
        | succ n ih =>
          intro k H locs hP hD hS ls h1 h2 hl
          have hle := okw.len
          have ok5 : okM (mkM x.nn x.by_ x.line x.stp x.let_ x.oth x.clk x.app x.wts x.gon ((walked x r (xs r)).len) ((walked x r (xs r)).txt) (sprU x.spr (fun k => x.let_ ((walked x r (xs r)).txt k)) k)) := okM_mk ok.n okw.len ok.by3 ok.line3 ok.stp3 ok.let5 ok.oth100 ok.clk3 okw.txt100 (sprU_lt ok.spr5 (fun k => ok.let5 _) k)
          refine lv_iload hx hb dM_same_29 (lv_at hl 4 rfl) ?_
          refine lv_iload_n hx hb dM_same_31 rfl (lv_at hl 3 rfl) ?_
          refine r_ge (by omega) (Nat.lt_of_le_of_lt okw.len (by decide)) (tgt := 60) hx hb dM_same_32 (by decide) (fun c_32 => ?_) (fun c_32 => ?_)
          · obtain rfl : k = (walked x r (xs r)).len := by omega
            have hP : va_P D vwCl (wM cc q (smM x xs r)) H := hP
            have hD : va_D A (wM cc q (smM x xs r)) := hD
            have oks : okM (smM x xs r) := okM_mk ok.n okw.len ok.by3 ok.line3 ok.stp3 ok.let5 ok.oth100 ok.clk3 okw.txt100 (sprU_lt ok.spr5 (fun k => ok.let5 _) _)
            refine lv_aload_n hx hb dM_same_60 rfl (lv_at hl 0 rfl) ?_
            refine lv_iload_n hx hb dM_same_61 rfl (lv_at hl 2 rfl) ?_
            refine wr_callv (w2 := []) (va_runV (As := [.int (nI (t))]) (rest := []) S (kM_walk D cc q (smM x xs r) (H.size) t (xs t) hr_t hpar oks (hxs t hr_t).1 (hxs t hr_t).2.1 (hxs t hr_t).2.2) (cwV 1 hts (gd_V wm_276 wm_277 wm_379 wm_4 wm_278) rfl rfl rfl (by decide +kernel) ⟨Nat.le_of_ble_eq_true rfl, Nat.le_of_ble_eq_true rfl⟩) (wr_preV (q0 := 0) hP hE hD rfl rfl) rfl rfl hl.1 rfl (lv_room (Nat.le_of_ble_eq_true rfl)) dM_same_62 ⟨Nat.le_of_ble_eq_true rfl, Nat.le_of_ble_eq_true rfl⟩) (by rw [List.append_nil]; exact hP) (by rw [List.append_nil]; exact hD) hS hA (fun u H locs hpo hP hD hS => ?_)
            rw [List.append_nil] at hP hD
            have hP : va_P D vwCl (wM cc q (walked (smM x xs r) t (xs t))) H := hP
            have hD : va_D A (wM cc q (walked (smM x xs r) t (xs t))) := hD
            have okv : okM (walked (smM x xs r) t (xs t)) := okM_walked oks (hxs t hr_t).2.1 (hxs t hr_t).2.2
            have L83 : ∀ (n : Nat) (z : Bool) (k2 : Nat) (H : Heap) (locs : List Loc) (hP : va_P D vwCl (wM cc q (walked (smM x xs r) t (xs t))) H) (hD : va_D A (wM cc q (walked (smM x xs r) t (xs t)))) (hS : va_S A s.heap H locs) (ls : Array Slot) (h1 : k2 ≤ (walked x r (xs r)).len) (h3 : (walked x r (xs r)).len - k2 < n) (g1 : z = andF (fun k => decide ((walked (smM x xs r) t (xs t)).spr k = x.let_ ((walked (smM x xs r) t (xs t)).txt k))) (decide ((walked x r (xs r)).len = (walked (smM x xs r) t (xs t)).len)) k2), lv_has ls 6 [(0, .ref (q 0)), (1, .int (nI (r))), (2, .int (nI (t))), (3, .int (nI ((walked x r (xs r)).len))), (4, .int (bI (z))), (5, .int (nI (k2)))] → W p l e rmM_same s m args below meth c H locs 0 0 Q (F0 m 83 ls []) := by
              intro n
              induction n with
              | zero => intro z k2 H locs hP hD hS ls h1 h3 g1 hl; exact absurd h3 (Nat.not_lt_zero _)
              | succ n ih2 =>
                intro z k2 H locs hP hD hS ls h1 h3 g1 hl
                have hle := okw.len
                refine lv_iload hx hb dM_same_83 (lv_at hl 5 rfl) ?_
                refine lv_iload_n hx hb dM_same_85 rfl (lv_at hl 3 rfl) ?_
                refine r_ge (by omega) (Nat.lt_of_le_of_lt okw.len (by decide)) (tgt := 129) hx hb dM_same_86 (by decide) (fun c_86 => ?_) (fun c_86 => ?_)
                · refine lv_iload hx hb dM_same_129 (lv_at hl 4 rfl) ?_
                  exact kx _ _ _ _ _ (walked (smM x xs r) t (xs t)) dM_same_131 hS hP hD (Or.inr ⟨r, t, hr_r, rfl, hr_t, rfl, by unfold smA; first | (rw [g1, show k2 = (walked x r (xs r)).len by omega]; done) | (rw [andF_mono (g1 ▸ c_91) h1, c_91]; done), rfl⟩)
                · refine lv_iload hx hb dM_same_89 (lv_at hl 4 rfl) ?_
                  refine r_eqB (tgt := 129) hx hb dM_same_91 (by decide) (fun c_91 => ?_) (fun c_91 => ?_)
                  · refine lv_iload hx hb dM_same_129 (lv_at hl 4 rfl) ?_
                    exact kx _ _ _ _ _ (walked (smM x xs r) t (xs t)) dM_same_131 hS hP hD (Or.inr ⟨r, t, hr_r, rfl, hr_t, rfl, by unfold smA; first | (rw [g1, show k2 = (walked x r (xs r)).len by omega]; done) | (rw [andF_mono (g1 ▸ c_91) h1, c_91]; done), rfl⟩)
                  · refine lv_aload_n hx hb dM_same_94 rfl (lv_at hl 0 rfl) ?_
                    refine va_get (D := D) (ci := 3) (v := .ref (q 11)) (C := RM) (T := TM) (N := 13) hx hb hts in_M hown hK hP 0 rfl rfl 12 (by decide) (hts _ wm_255) (fun _ h9 => h9) rfl dM_same_95 ?_
                    refine lv_iload hx hb dM_same_98 (lv_at hl 5 rfl) ?_
                    refine r_iald (q0 := 11) (t0 := 0) hx hb hK hP rfl rfl (by have := okw.len; omega) (by decide) dM_same_100 ?_
                    refine lv_aload_n hx hb dM_same_101 rfl (lv_at hl 0 rfl) ?_
                    refine va_get (D := D) (ci := 3) (v := .ref (q 4)) (C := RM) (T := TM) (N := 13) hx hb hts in_M hown hK hP 0 rfl rfl 4 (by decide) (hts _ wm_247) (fun _ h9 => h9) rfl dM_same_102 ?_
                    refine lv_aload_n hx hb dM_same_105 rfl (lv_at hl 0 rfl) ?_
                    refine va_get (D := D) (ci := 3) (v := .ref (q 10)) (C := RM) (T := TM) (N := 13) hx hb hts in_M hown hK hP 0 rfl rfl 11 (by decide) (hts _ wm_254) (fun _ h9 => h9) rfl dM_same_106 ?_
                    refine lv_iload hx hb dM_same_109 (lv_at hl 5 rfl) ?_
                    refine r_iald (q0 := 10) (t0 := 0) hx hb hK hP rfl rfl (by have := okw.len; omega) (by decide) dM_same_111 ?_
                    refine r_iald (q0 := 4) (t0 := 0) hx hb hK hP rfl rfl (okv.txt100 _) (by decide) dM_same_112 ?_
                    refine r_ne (okv.spr (k2)) (okv.let_ (((walked (smM x xs r) t (xs t)).txt) k2)) (tgt := 120) hx hb dM_same_113 (by decide) (fun c_113 => ?_) (fun c_113 => ?_)
                    · refine lv_iconst (v := bI (false)) hx hb dM_same_120 (by decide) ?_
                      refine lv_istore (lv' := [(4, .int (bI (false))), (0, .ref (q 0)), (1, .int (nI (r))), (2, .int (nI (t))), (3, .int (nI ((walked x r (xs r)).len))), (5, .int (nI (k2)))]) hx hb dM_same_121 hl (by decide) rfl (fun ls hl => ?_)
                      refine lv_iinc (v := nI (k2 + 1)) (lv' := [(5, .int (nI (k2 + 1))), (4, .int (bI (false))), (0, .ref (q 0)), (1, .int (nI (r))), (2, .int (nI (t))), (3, .int (nI ((walked x r (xs r)).len)))]) hx hb dM_same_123 hl (k := 5) rfl (nI_1 _) (by decide) rfl (fun ls hl => ?_)
                      refine lv_goto (tgt := 83) hx hb dM_same_126 (by decide) ?_
                      exact ih2  (false) (k2 + 1) H locs hP hD hS ls (by omega) (by omega) (by first | (exact (decide_eq_true c_70).symm) | (exact (decide_eq_false c_70).symm) | (refine (andF_s _ _ _ ).trans ?_ |>.symm; rw [← g1, c_91, Bool.true_and]; first | exact decide_eq_true c_113 | exact decide_eq_false c_113)) (lv_sub hl [2, 3, 4, 5, 1, 0] rfl)
                    · refine lv_iconst (v := bI (true)) hx hb dM_same_116 (by decide) ?_
                      refine lv_goto (tgt := 121) hx hb dM_same_117 (by decide) ?_
                      refine lv_istore (lv' := [(4, .int (bI (true))), (0, .ref (q 0)), (1, .int (nI (r))), (2, .int (nI (t))), (3, .int (nI ((walked x r (xs r)).len))), (5, .int (nI (k2)))]) hx hb dM_same_121 hl (by decide) rfl (fun ls hl => ?_)
                      refine lv_iinc (v := nI (k2 + 1)) (lv' := [(5, .int (nI (k2 + 1))), (4, .int (bI (true))), (0, .ref (q 0)), (1, .int (nI (r))), (2, .int (nI (t))), (3, .int (nI ((walked x r (xs r)).len)))]) hx hb dM_same_123 hl (k := 5) rfl (nI_1 _) (by decide) rfl (fun ls hl => ?_)
                      refine lv_goto (tgt := 83) hx hb dM_same_126 (by decide) ?_
                      exact ih2  (true) (k2 + 1) H locs hP hD hS ls (by omega) (by omega) (by first | (exact (decide_eq_true c_70).symm) | (exact (decide_eq_false c_70).symm) | (refine (andF_s _ _ _ ).trans ?_ |>.symm; rw [← g1, c_91, Bool.true_and]; first | exact decide_eq_true c_113 | exact decide_eq_false c_113)) (lv_sub hl [2, 3, 4, 5, 1, 0] rfl)
            refine lv_iload_n hx hb dM_same_65 rfl (lv_at hl 3 rfl) ?_
            refine lv_aload_n hx hb dM_same_66 rfl (lv_at hl 0 rfl) ?_
            refine va_get (D := D) (ci := 3) (v := .int (nI ((walked (smM x xs r) t (xs t)).len))) (C := RM) (T := TM) (N := 13) hx hb hts in_M hown hK hP 0 rfl rfl 10 (by decide) (hts _ wm_253) (fun _ h9 => h9) rfl dM_same_67 ?_
            refine r_ne (Nat.lt_of_le_of_lt okw.len (by decide)) (Nat.lt_of_le_of_lt okv.len (by decide)) (tgt := 77) hx hb dM_same_70 (by decide) (fun c_70 => ?_) (fun c_70 => ?_)
            · refine lv_iconst (v := bI (false)) hx hb dM_same_77 (by decide) ?_
              refine lv_istore (lv' := [(4, .int (bI (false))), (0, .ref (q 0)), (1, .int (nI (r))), (2, .int (nI (t))), (3, .int (nI ((walked x r (xs r)).len)))]) hx hb dM_same_78 hl (by decide) rfl (fun ls hl => ?_)
              refine lv_iconst (v := nI (0)) hx hb dM_same_80 (by decide) ?_
              refine lv_istore (lv' := [(5, .int (nI (0))), (4, .int (bI (false))), (0, .ref (q 0)), (1, .int (nI (r))), (2, .int (nI (t))), (3, .int (nI ((walked x r (xs r)).len)))]) hx hb dM_same_81 hl (by decide) rfl (fun ls hl => ?_)
              exact L83 ((walked x r (xs r)).len + 1) (false) (0) H locs hP hD hS ls (by omega) (by omega) (by first | (exact (decide_eq_true c_70).symm) | (exact (decide_eq_false c_70).symm) | (refine (andF_s _ _ _ ).trans ?_ |>.symm; rw [← g1, c_91, Bool.true_and]; first | exact decide_eq_true c_113 | exact decide_eq_false c_113)) (lv_sub hl [2, 3, 4, 5, 1, 0] rfl)
            · refine lv_iconst (v := bI (true)) hx hb dM_same_73 (by decide) ?_
              refine lv_goto (tgt := 78) hx hb dM_same_74 (by decide) ?_
              refine lv_istore (lv' := [(4, .int (bI (true))), (0, .ref (q 0)), (1, .int (nI (r))), (2, .int (nI (t))), (3, .int (nI ((walked x r (xs r)).len)))]) hx hb dM_same_78 hl (by decide) rfl (fun ls hl => ?_)
              refine lv_iconst (v := nI (0)) hx hb dM_same_80 (by decide) ?_
              refine lv_istore (lv' := [(5, .int (nI (0))), (4, .int (bI (true))), (0, .ref (q 0)), (1, .int (nI (r))), (2, .int (nI (t))), (3, .int (nI ((walked x r (xs r)).len)))]) hx hb dM_same_81 hl (by decide) rfl (fun ls hl => ?_)
              exact L83 ((walked x r (xs r)).len + 1) (true) (0) H locs hP hD hS ls (by omega) (by omega) (by first | (exact (decide_eq_true c_70).symm) | (exact (decide_eq_false c_70).symm) | (refine (andF_s _ _ _ ).trans ?_ |>.symm; rw [← g1, c_91, Bool.true_and]; first | exact decide_eq_true c_113 | exact decide_eq_false c_113)) (lv_sub hl [2, 3, 4, 5, 1, 0] rfl)
          · refine lv_aload_n hx hb dM_same_35 rfl (lv_at hl 0 rfl) ?_
            refine va_get (D := D) (ci := 3) (v := .ref (q 11)) (C := RM) (T := TM) (N := 13) hx hb hts in_M hown hK hP 0 rfl rfl 12 (by decide) (hts _ wm_255) (fun _ h9 => h9) rfl dM_same_36 ?_
            refine lv_iload hx hb dM_same_39 (lv_at hl 4 rfl) ?_
            refine lv_aload_n hx hb dM_same_41 rfl (lv_at hl 0 rfl) ?_
            refine va_get (D := D) (ci := 3) (v := .ref (q 4)) (C := RM) (T := TM) (N := 13) hx hb hts in_M hown hK hP 0 rfl rfl 4 (by decide) (hts _ wm_247) (fun _ h9 => h9) rfl dM_same_42 ?_
            refine lv_aload_n hx hb dM_same_45 rfl (lv_at hl 0 rfl) ?_
            refine va_get (D := D) (ci := 3) (v := .ref (q 10)) (C := RM) (T := TM) (N := 13) hx hb hts in_M hown hK hP 0 rfl rfl 11 (by decide) (hts _ wm_254) (fun _ h9 => h9) rfl dM_same_46 ?_
            refine lv_iload hx hb dM_same_49 (lv_at hl 4 rfl) ?_
            refine r_iald (q0 := 10) (t0 := 0) hx hb hK hP rfl rfl (by have := okw.len; omega) (by decide) dM_same_51 ?_
            refine r_iald (q0 := 4) (t0 := 0) hx hb hK hP rfl rfl (okw.txt100 _) (by decide) dM_same_52 ?_
            refine r_iast nI ((sprU x.spr (fun k => x.let_ ((walked x r (xs r)).txt k)) k)) (x.let_ (((walked x r (xs r)).txt) k)) (q0 := 11) (t0 := 0) hx hb hK hP hD hS rfl rfl (by have := okw.len; omega) (by decide) dM_same_53 (fun H locs hP hD hS => ?_)
            have hP : va_P D vwCl (wM cc q (mkM x.nn x.by_ x.line x.stp x.let_ x.oth x.clk x.app x.wts x.gon ((walked x r (xs r)).len) ((walked x r (xs r)).txt) (sprU x.spr (fun k => x.let_ ((walked x r (xs r)).txt k)) (k + 1)))) H := hP
            have hD : va_D A (wM cc q (mkM x.nn x.by_ x.line x.stp x.let_ x.oth x.clk x.app x.wts x.gon ((walked x r (xs r)).len) ((walked x r (xs r)).txt) (sprU x.spr (fun k => x.let_ ((walked x r (xs r)).txt k)) (k + 1)))) := hD
            refine lv_iinc (v := nI (k + 1)) (lv' := [(4, .int (nI (k + 1))), (0, .ref (q 0)), (1, .int (nI (r))), (2, .int (nI (t))), (3, .int (nI ((walked x r (xs r)).len)))]) hx hb dM_same_54 hl (k := 4) rfl (nI_1 _) (by decide) rfl (fun ls hl => ?_)
            refine lv_goto (tgt := 29) hx hb dM_same_57 (by decide) ?_
            exact ih  (k + 1) H locs hP hD hS ls (by omega) (by omega) (lv_sub hl [1, 2, 3, 4, 0] rfl)
      refine lv_iconst (v := nI (0)) hx hb dM_same_26 (by decide) ?_
      refine lv_istore (lv' := [(4, .int (nI (0))), (3, .int (nI ((walked x r (xs r)).len))), (0, .ref (q 0)), (1, .int (nI (r))), (2, .int (nI (t)))]) hx hb dM_same_27 hl (by decide) rfl (fun ls hl => ?_)
      exact L29 ((walked x r (xs r)).len + 1) (0) H locs hP hD hS ls (by omega) (by omega) (lv_sub hl [2, 3, 4, 1, 0] rfl)
    · refine lv_iconst (v := bI (false)) hx hb dM_same_14 (by decide) ?_
      exact kx _ _ _ _ _ (x) dM_same_15 hS hP hD (by first | exact Or.inl ⟨Or.inl c_4, rfl, rfl⟩ | exact Or.inl ⟨Or.inr c_11, rfl, rfl⟩)
end
section
def rmL_isFull : Room := { frames := 0, cells := 0, slots := 0, locals := 0 }
set_option maxHeartbeats 4000000 in
set_option maxRecDepth 100000 in
theorem kL_isFull {l : Launch} (D : va_G) (cc : Nat → ClassId) (a : Nat → Nat) (x : LgS) (ok : okL x) : Met l yL_isFull wsL_isFull rmL_isFull (va_Pc [.ref (a 0)] (fun U => va_P D vwCl (wL cc a x) U.heap ∧ EN D cc U)) (QcRead (bI (decide (100 ≤ x.cnt)))) 0 0 (fun _ => False) := by
  refine rd_met RL [.ref (a 0)] _ _ (by decide) rfl rfl (Nat.le_of_ble_eq_true rfl) (bI_z _) ?_
  intro p e s m args below meth c Q S hB kx ls hl
  obtain ⟨hx, hb, hml, hown, hts⟩ := id S
  obtain ⟨hP, hE⟩ := hB
  have hK := hE.1
  have hts := hE.ts args
  have S : CallFix p m c cL_isFull 1 s args wAll RL := ⟨hx, hb, hml, hown, hts⟩
  have hn := ok.n
  have he := ok.e
  have hl : lv_has ls 1 [(0, .ref (a 0))] := hl
  refine lv_aload_n hx hb dL_isFull_0 rfl (lv_at hl 0 rfl) ?_
  refine va_get (D := D) (ci := 0) (v := .int (nI (x.cnt))) (C := RL) (T := TL) (N := 8) hx hb hts in_L hown hK hP 0 rfl rfl 6 (by decide) (hts _ wm_25) (fun _ h9 => h9) rfl dL_isFull_1 ?_
  refine lv_bipush (v := nI (100)) hx hb dL_isFull_4 (by decide) ?_
  refine r_lt (Nat.lt_of_le_of_lt ok.n (by decide)) (by decide) (tgt := 13) hx hb dL_isFull_6 (by decide) (fun c_6 => ?_) (fun c_6 => ?_)
  · refine lv_iconst (v := bI (false)) hx hb dL_isFull_13 (by decide) ?_
    exact kx _ _ _ dL_isFull_14 (by first | exact congrArg bI (decide_eq_true c_6).symm | exact congrArg bI (decide_eq_false (by omega)).symm)
  · refine lv_iconst (v := bI (true)) hx hb dL_isFull_9 (by decide) ?_
    refine lv_goto (tgt := 14) hx hb dL_isFull_10 (by decide) ?_
    exact kx _ _ _ dL_isFull_14 (by first | exact congrArg bI (decide_eq_true c_6).symm | exact congrArg bI (decide_eq_false (by omega)).symm)

def rmL_isIssued : Room := { frames := 0, cells := 0, slots := 0, locals := 0 }
set_option maxHeartbeats 4000000 in
set_option maxRecDepth 100000 in
theorem kL_isIssued {l : Launch} (D : va_G) (cc : Nat → ClassId) (a : Nat → Nat) (x : LgS) (z : Int32) (ok : okL x) : Met l yL_isIssued wsL_isIssued rmL_isIssued (va_Pc [.ref (a 0), .int (z)] (fun U => va_P D vwCl (wL cc a x) U.heap ∧ EN D cc U)) (QcRead (bI (isOp x.cnt z))) 0 0 (fun _ => False) := by
  refine rd_met RL [.ref (a 0), .int (z)] _ _ (by decide) rfl rfl (Nat.le_of_ble_eq_true rfl) (bI_z _) ?_
  intro p e s m args below meth c Q S hB kx ls hl
  obtain ⟨hx, hb, hml, hown, hts⟩ := id S
  obtain ⟨hP, hE⟩ := hB
  have hK := hE.1
  have hts := hE.ts args
  have S : CallFix p m c cL_isIssued 2 s args wAll RL := ⟨hx, hb, hml, hown, hts⟩
  have hn := ok.n
  have he := ok.e
  have hl : lv_has ls 2 [(0, .ref (a 0)), (1, .int (z))] := hl
  refine lv_iload_n hx hb dL_isIssued_0 rfl (lv_at hl 1 rfl) ?_
  refine lv_if_lt (tgt := 16) hx hb dL_isIssued_1 (by decide) (fun c_1 => ?_) (fun c_1 => ?_)
  · refine lv_iconst (v := bI (false)) hx hb dL_isIssued_16 (by decide) ?_
    exact kx _ _ _ dL_isIssued_17 (by unfold isOp; first | (rw [decide_eq_true (show ¬ z < 0 ∧ ¬ nI x.cnt ≤ z from ⟨c_1, c_9⟩)]; done) | (rw [decide_eq_false (show ¬ (¬ z < 0 ∧ ¬ nI x.cnt ≤ z) from fun h => h.1 c_1)]; done) | (rw [decide_eq_false (show ¬ (¬ z < 0 ∧ ¬ nI x.cnt ≤ z) from fun h => h.2 c_9)]; done))
  · refine lv_iload_n hx hb dL_isIssued_4 rfl (lv_at hl 1 rfl) ?_
    refine lv_aload_n hx hb dL_isIssued_5 rfl (lv_at hl 0 rfl) ?_
    refine va_get (D := D) (ci := 0) (v := .int (nI (x.cnt))) (C := RL) (T := TL) (N := 8) hx hb hts in_L hown hK hP 0 rfl rfl 6 (by decide) (hts _ wm_25) (fun _ h9 => h9) rfl dL_isIssued_6 ?_
    refine lv_icmp_ge (tgt := 16) hx hb dL_isIssued_9 (by decide) (fun c_9 => ?_) (fun c_9 => ?_)
    · refine lv_iconst (v := bI (false)) hx hb dL_isIssued_16 (by decide) ?_
      exact kx _ _ _ dL_isIssued_17 (by unfold isOp; first | (rw [decide_eq_true (show ¬ z < 0 ∧ ¬ nI x.cnt ≤ z from ⟨c_1, c_9⟩)]; done) | (rw [decide_eq_false (show ¬ (¬ z < 0 ∧ ¬ nI x.cnt ≤ z) from fun h => h.1 c_1)]; done) | (rw [decide_eq_false (show ¬ (¬ z < 0 ∧ ¬ nI x.cnt ≤ z) from fun h => h.2 c_9)]; done))
    · refine lv_iconst (v := bI (true)) hx hb dL_isIssued_12 (by decide) ?_
      refine lv_goto (tgt := 17) hx hb dL_isIssued_13 (by decide) ?_
      exact kx _ _ _ dL_isIssued_17 (by unfold isOp; first | (rw [decide_eq_true (show ¬ z < 0 ∧ ¬ nI x.cnt ≤ z from ⟨c_1, c_9⟩)]; done) | (rw [decide_eq_false (show ¬ (¬ z < 0 ∧ ¬ nI x.cnt ≤ z) from fun h => h.1 c_1)]; done) | (rw [decide_eq_false (show ¬ (¬ z < 0 ∧ ¬ nI x.cnt ≤ z) from fun h => h.2 c_9)]; done))

def rmL_isErase : Room := { frames := 0, cells := 0, slots := 0, locals := 0 }
set_option maxHeartbeats 4000000 in
set_option maxRecDepth 100000 in
theorem kL_isErase {l : Launch} (D : va_G) (cc : Nat → ClassId) (a : Nat → Nat) (x : LgS) (o : Nat) (ho : o < 100) (ok : okL x) : Met l yL_isErase wsL_isErase rmL_isErase (va_Pc [.ref (a 0), .int (nI (o))] (fun U => va_P D vwCl (wL cc a x) U.heap ∧ EN D cc U)) (QcRead (bI (decide (x.chr o = 0)))) 0 0 (fun _ => False) := by
  refine rd_met RL [.ref (a 0), .int (nI (o))] _ _ (by decide) rfl rfl (Nat.le_of_ble_eq_true rfl) (bI_z _) ?_
  intro p e s m args below meth c Q S hB kx ls hl
  obtain ⟨hx, hb, hml, hown, hts⟩ := id S
  obtain ⟨hP, hE⟩ := hB
  have hK := hE.1
  have hts := hE.ts args
  have S : CallFix p m c cL_isErase 2 s args wAll RL := ⟨hx, hb, hml, hown, hts⟩
  have hn := ok.n
  have he := ok.e
  have hl : lv_has ls 2 [(0, .ref (a 0)), (1, .int (nI (o)))] := hl
  refine lv_aload_n hx hb dL_isErase_0 rfl (lv_at hl 0 rfl) ?_
  refine va_get (D := D) (ci := 0) (v := .ref (a 4)) (C := RL) (T := TL) (N := 8) hx hb hts in_L hown hK hP 0 rfl rfl 3 (by decide) (hts _ wm_22) (fun _ h9 => h9) rfl dL_isErase_1 ?_
  refine lv_iload_n hx hb dL_isErase_4 rfl (lv_at hl 1 rfl) ?_
  refine r_cald (q0 := 4) (t0 := 2) hx hb hK hP rfl rfl (by omega) (by decide) dL_isErase_5 ?_
  refine r_neN (ok.chr (o)) (tgt := 13) hx hb dL_isErase_6 (by decide) (fun c_6 => ?_) (fun c_6 => ?_)
  · refine lv_iconst (v := bI (false)) hx hb dL_isErase_13 (by decide) ?_
    exact kx _ _ _ dL_isErase_14 (by first | exact congrArg bI (decide_eq_true c_6).symm | exact congrArg bI (decide_eq_false c_6).symm)
  · refine lv_iconst (v := bI (true)) hx hb dL_isErase_9 (by decide) ?_
    refine lv_goto (tgt := 14) hx hb dL_isErase_10 (by decide) ?_
    exact kx _ _ _ dL_isErase_14 (by first | exact congrArg bI (decide_eq_true c_6).symm | exact congrArg bI (decide_eq_false c_6).symm)

def rmL_clockOf : Room := { frames := 0, cells := 0, slots := 0, locals := 0 }
set_option maxHeartbeats 4000000 in
set_option maxRecDepth 100000 in
theorem kL_clockOf {l : Launch} (D : va_G) (cc : Nat → ClassId) (a : Nat → Nat) (x : LgS) (o j : Nat) (ho : o < 100) (hj : j < 3) (ok : okL x) : Met l yL_clockOf wsL_clockOf rmL_clockOf (va_Pc [.ref (a 0), .int (nI (o)), .int (nI (j))] (fun U => va_P D vwCl (wL cc a x) U.heap ∧ EN D cc U)) (QcRead (nI (x.clk (o * 3 + j)))) 0 0 (fun _ => False) := by
  refine rd_met RL [.ref (a 0), .int (nI (o)), .int (nI (j))] _ _ (by decide) rfl rfl (Nat.le_of_ble_eq_true rfl) (vp_nar_int _) ?_
  intro p e s m args below meth c Q S hB kx ls hl
  obtain ⟨hx, hb, hml, hown, hts⟩ := id S
  obtain ⟨hP, hE⟩ := hB
  have hK := hE.1
  have hts := hE.ts args
  have S : CallFix p m c cL_clockOf 3 s args wAll RL := ⟨hx, hb, hml, hown, hts⟩
  have hn := ok.n
  have he := ok.e
  have hl : lv_has ls 3 [(0, .ref (a 0)), (1, .int (nI (o))), (2, .int (nI (j)))] := hl
  refine lv_aload_n hx hb dL_clockOf_0 rfl (lv_at hl 0 rfl) ?_
  refine va_get (D := D) (ci := 0) (v := .ref (a 5)) (C := RL) (T := TL) (N := 8) hx hb hts in_L hown hK hP 0 rfl rfl 4 (by decide) (hts _ wm_23) (fun _ h9 => h9) rfl dL_clockOf_1 ?_
  refine lv_iload_n hx hb dL_clockOf_4 rfl (lv_at hl 1 rfl) ?_
  refine lv_iconst (v := nI (3)) hx hb dL_clockOf_5 (by decide) ?_
  refine r_mul hx hb dL_clockOf_6 ?_
  refine lv_iload_n hx hb dL_clockOf_7 rfl (lv_at hl 2 rfl) ?_
  refine r_add hx hb dL_clockOf_8 ?_
  refine r_iald (q0 := 5) (t0 := 0) hx hb hK hP rfl rfl (by omega) (by decide) dL_clockOf_9 ?_
  exact kx _ _ _ dL_clockOf_10 (rfl)

def rmL_placeInLine : Room := { frames := 1, cells := 0, slots := 0, locals := 22 }
set_option maxHeartbeats 4000000 in
set_option maxRecDepth 100000 in
theorem kL_placeInLine {l : Launch} (D : va_G) (cc : Nat → ClassId) (a : Nat → Nat) (x : LgS) (o : Nat) (ho : o < 100) (ok : okL x) : Met l yL_placeInLine wsL_placeInLine rmL_placeInLine (va_Pc [.ref (a 0), .int (nI (o))] (fun U => va_P D vwCl (wL cc a x) U.heap ∧ EN D cc U)) (QcRead (nI (plc x o))) 0 0 (fun _ => False) := by
  refine rd_met RL [.ref (a 0), .int (nI (o))] _ _ (by decide) rfl rfl (Nat.le_of_ble_eq_true rfl) (vp_nar_int _) ?_
  intro p e s m args below meth c Q S hB kx ls hl
  obtain ⟨hx, hb, hml, hown, hts⟩ := id S
  obtain ⟨hP, hE⟩ := hB
  have hK := hE.1
  have hts := hE.ts args
  have S : CallFix p m c cL_placeInLine 2 s args wAll RL := ⟨hx, hb, hml, hown, hts⟩
  have hn := ok.n
  have he := ok.e
  have hl : lv_has ls 2 [(0, .ref (a 0)), (1, .int (nI (o)))] := hl
  refine lv_aload_n hx hb dL_placeInLine_0 rfl (lv_at hl 0 rfl) ?_
  refine lv_iload_n hx hb dL_placeInLine_1 rfl (lv_at hl 1 rfl) ?_
  refine lv_aload_n hx hb dL_placeInLine_2 rfl (lv_at hl 0 rfl) ?_
  refine va_get (D := D) (ci := 0) (v := .ref (a 1)) (C := RL) (T := TL) (N := 8) hx hb hts in_L hown hK hP 0 rfl rfl 0 (by decide) (hts _ wm_19) (fun _ h9 => h9) rfl dL_placeInLine_3 ?_
  refine lv_iload_n hx hb dL_placeInLine_6 rfl (lv_at hl 1 rfl) ?_
  refine r_iald (q0 := 1) (t0 := 0) hx hb hK hP rfl rfl (by omega) (by decide) dL_placeInLine_7 ?_
  refine W.callR (W.runV (As := [.int (nI (o)), .int (nI (x.iss o))]) (rest := []) S (kL_clockOf D cc a x (o) (x.iss o) (by omega) (ok.iss3 _) ok) (cwV 2 hts (gd_V wm_119 wm_112 wm_113 wm_2 wm_114) rfl rfl rfl (by decide +kernel) ⟨Nat.le_of_ble_eq_true rfl, Nat.le_of_ble_eq_true rfl⟩) (rd_preV (q0 := 0) hP hE rfl rfl) rfl rfl hl.1 rfl (lv_room (Nat.le_of_ble_eq_true rfl)) dL_placeInLine_8 ⟨Nat.le_of_ble_eq_true rfl, Nat.le_of_ble_eq_true rfl⟩) ?_
  refine W.eq (g2 := F0 m 11 ls [.int (nI (x.clk ((o) * 3 + (x.iss o))))]) rfl ?_
  exact kx _ _ _ dL_placeInLine_11 (rfl)

def rmL_goesFirst : Room := { frames := 0, cells := 0, slots := 0, locals := 0 }
set_option maxHeartbeats 4000000 in
set_option maxRecDepth 100000 in
theorem kL_goesFirst {l : Launch} (D : va_G) (cc : Nat → ClassId) (a : Nat → Nat) (x : LgS) (u v : Nat) (hu : u < 100) (hv : v < 100) (ok : okL x) : Met l yL_goesFirst wsL_goesFirst rmL_goesFirst (va_Pc [.ref (a 0), .int (nI (u)), .int (nI (v))] (fun U => va_P D vwCl (wL cc a x) U.heap ∧ EN D cc U)) (QcRead (bI (gofL x u v))) 0 0 (fun _ => False) := by
  refine rd_met RL [.ref (a 0), .int (nI (u)), .int (nI (v))] _ _ (by decide) rfl rfl (Nat.le_of_ble_eq_true rfl) (bI_z _) ?_
  intro p e s m args below meth c Q S hB kx ls hl
  obtain ⟨hx, hb, hml, hown, hts⟩ := id S
  obtain ⟨hP, hE⟩ := hB
  have hK := hE.1
  have hts := hE.ts args
  have S : CallFix p m c cL_goesFirst 3 s args wAll RL := ⟨hx, hb, hml, hown, hts⟩
  have hn := ok.n
  have he := ok.e
  have hl : lv_has ls 3 [(0, .ref (a 0)), (1, .int (nI (u))), (2, .int (nI (v)))] := hl
  refine lv_aload_n hx hb dL_goesFirst_0 rfl (lv_at hl 0 rfl) ?_
  refine va_get (D := D) (ci := 0) (v := .ref (a 2)) (C := RL) (T := TL) (N := 8) hx hb hts in_L hown hK hP 0 rfl rfl 1 (by decide) (hts _ wm_20) (fun _ h9 => h9) rfl dL_goesFirst_1 ?_
  refine lv_iload_n hx hb dL_goesFirst_4 rfl (lv_at hl 1 rfl) ?_
  refine r_iald (q0 := 2) (t0 := 0) hx hb hK hP rfl rfl (by omega) (by decide) dL_goesFirst_5 ?_
  refine lv_aload_n hx hb dL_goesFirst_6 rfl (lv_at hl 0 rfl) ?_
  refine va_get (D := D) (ci := 0) (v := .ref (a 2)) (C := RL) (T := TL) (N := 8) hx hb hts in_L hown hK hP 0 rfl rfl 1 (by decide) (hts _ wm_20) (fun _ h9 => h9) rfl dL_goesFirst_7 ?_
  refine lv_iload_n hx hb dL_goesFirst_10 rfl (lv_at hl 2 rfl) ?_
  refine r_iald (q0 := 2) (t0 := 0) hx hb hK hP rfl rfl (by omega) (by decide) dL_goesFirst_11 ?_
  refine r_eq (ok.stp (u)) (ok.stp (v)) (tgt := 36) hx hb dL_goesFirst_12 (by decide) (fun c_12 => ?_) (fun c_12 => ?_)
  · refine lv_aload_n hx hb dL_goesFirst_36 rfl (lv_at hl 0 rfl) ?_
    refine va_get (D := D) (ci := 0) (v := .ref (a 1)) (C := RL) (T := TL) (N := 8) hx hb hts in_L hown hK hP 0 rfl rfl 0 (by decide) (hts _ wm_19) (fun _ h9 => h9) rfl dL_goesFirst_37 ?_
    refine lv_iload_n hx hb dL_goesFirst_40 rfl (lv_at hl 1 rfl) ?_
    refine r_iald (q0 := 1) (t0 := 0) hx hb hK hP rfl rfl (by omega) (by decide) dL_goesFirst_41 ?_
    refine lv_aload_n hx hb dL_goesFirst_42 rfl (lv_at hl 0 rfl) ?_
    refine va_get (D := D) (ci := 0) (v := .ref (a 1)) (C := RL) (T := TL) (N := 8) hx hb hts in_L hown hK hP 0 rfl rfl 0 (by decide) (hts _ wm_19) (fun _ h9 => h9) rfl dL_goesFirst_43 ?_
    refine lv_iload_n hx hb dL_goesFirst_46 rfl (lv_at hl 2 rfl) ?_
    refine r_iald (q0 := 1) (t0 := 0) hx hb hK hP rfl rfl (by omega) (by decide) dL_goesFirst_47 ?_
    refine r_le (ok.iss (u)) (ok.iss (v)) (tgt := 55) hx hb dL_goesFirst_48 (by decide) (fun c_48 => ?_) (fun c_48 => ?_)
    · refine lv_iconst (v := bI (false)) hx hb dL_goesFirst_55 (by decide) ?_
      exact kx _ _ _ dL_goesFirst_56 (by unfold gofL; exact congrArg bI (Eq.symm (by first | exact decide_eq_true (by omega) | exact decide_eq_false (by omega))))
    · refine lv_iconst (v := bI (true)) hx hb dL_goesFirst_51 (by decide) ?_
      refine lv_goto (tgt := 56) hx hb dL_goesFirst_52 (by decide) ?_
      exact kx _ _ _ dL_goesFirst_56 (by unfold gofL; exact congrArg bI (Eq.symm (by first | exact decide_eq_true (by omega) | exact decide_eq_false (by omega))))
  · refine lv_aload_n hx hb dL_goesFirst_15 rfl (lv_at hl 0 rfl) ?_
    refine va_get (D := D) (ci := 0) (v := .ref (a 2)) (C := RL) (T := TL) (N := 8) hx hb hts in_L hown hK hP 0 rfl rfl 1 (by decide) (hts _ wm_20) (fun _ h9 => h9) rfl dL_goesFirst_16 ?_
    refine lv_iload_n hx hb dL_goesFirst_19 rfl (lv_at hl 1 rfl) ?_
    refine r_iald (q0 := 2) (t0 := 0) hx hb hK hP rfl rfl (by omega) (by decide) dL_goesFirst_20 ?_
    refine lv_aload_n hx hb dL_goesFirst_21 rfl (lv_at hl 0 rfl) ?_
    refine va_get (D := D) (ci := 0) (v := .ref (a 2)) (C := RL) (T := TL) (N := 8) hx hb hts in_L hown hK hP 0 rfl rfl 1 (by decide) (hts _ wm_20) (fun _ h9 => h9) rfl dL_goesFirst_22 ?_
    refine lv_iload_n hx hb dL_goesFirst_25 rfl (lv_at hl 2 rfl) ?_
    refine r_iald (q0 := 2) (t0 := 0) hx hb hK hP rfl rfl (by omega) (by decide) dL_goesFirst_26 ?_
    refine r_le (ok.stp (u)) (ok.stp (v)) (tgt := 34) hx hb dL_goesFirst_27 (by decide) (fun c_27 => ?_) (fun c_27 => ?_)
    · refine lv_iconst (v := bI (false)) hx hb dL_goesFirst_34 (by decide) ?_
      exact kx _ _ _ dL_goesFirst_35 (by unfold gofL; exact congrArg bI (Eq.symm (by first | exact decide_eq_true (by omega) | exact decide_eq_false (by omega))))
    · refine lv_iconst (v := bI (true)) hx hb dL_goesFirst_30 (by decide) ?_
      refine lv_goto (tgt := 35) hx hb dL_goesFirst_31 (by decide) ?_
      exact kx _ _ _ dL_goesFirst_35 (by unfold gofL; exact congrArg bI (Eq.symm (by first | exact decide_eq_true (by omega) | exact decide_eq_false (by omega))))

def rmP_elementAt : Room := { frames := 0, cells := 0, slots := 0, locals := 0 }
set_option maxHeartbeats 4000000 in
set_option maxRecDepth 100000 in
theorem kP_elementAt {l : Launch} (D : va_G) (cc : Nat → ClassId) (a b : Nat → Nat) (x : LgS) (y : RpS) (k : Nat) (hk : k < y.tl) (kr : okR y) : Met l yP_elementAt wsP_elementAt rmP_elementAt (va_Pc [.ref (b 0), .int (nI (k))] (fun U => va_P D vwCl (wLR cc a b x y) U.heap ∧ EN D cc U)) (QcRead (nI (y.txt k))) 0 0 (fun _ => False) := by
  refine rd_met RP [.ref (b 0), .int (nI (k))] _ _ (by decide) rfl rfl (Nat.le_of_ble_eq_true rfl) (vp_nar_int _) ?_
  intro p e s m args below meth c Q S hB kx ls hl
  obtain ⟨hx, hb, hml, hown, hts⟩ := id S
  obtain ⟨hP, hE⟩ := hB
  have hK := hE.1
  have hts := hE.ts args
  have S : CallFix p m c cP_elementAt 2 s args wAll RP := ⟨hx, hb, hml, hown, hts⟩
  have hself := kr.self
  have htl := kr.tl
  have hl : lv_has ls 2 [(0, .ref (b 0)), (1, .int (nI (k)))] := hl
  refine lv_iload_n hx hb dP_elementAt_0 rfl (lv_at hl 1 rfl) ?_
  refine r_ltN (by omega) (tgt := 21) hx hb dP_elementAt_1 (by decide) ?_
  refine lv_iload_n hx hb dP_elementAt_4 rfl (lv_at hl 1 rfl) ?_
  refine lv_aload_n hx hb dP_elementAt_5 rfl (lv_at hl 0 rfl) ?_
  refine va_get (D := D) (ci := 1) (v := .int (nI (y.tl))) (C := RP) (T := TP) (N := 12) hx hb hts in_P hown hK hP 7 rfl rfl 8 (by decide) (hts _ wm_52) (fun _ h9 => h9) rfl dP_elementAt_6 ?_
  refine r_ge (by omega) (Nat.lt_of_le_of_lt kr.tl (by decide)) (tgt := 21) hx hb dP_elementAt_9 (by decide) (fun c_9 => absurd c_9 (by omega)) (fun c_9 => ?_)
  refine lv_aload_n hx hb dP_elementAt_12 rfl (lv_at hl 0 rfl) ?_
  refine va_get (D := D) (ci := 1) (v := .ref (b 9)) (C := RP) (T := TP) (N := 12) hx hb hts in_P hown hK hP 7 rfl rfl 7 (by decide) (hts _ wm_51) (fun _ h9 => h9) rfl dP_elementAt_13 ?_
  refine lv_iload_n hx hb dP_elementAt_16 rfl (lv_at hl 1 rfl) ?_
  refine r_iald (q0 := 16) (t0 := 0) hx hb hK hP rfl rfl (by omega) (by decide) dP_elementAt_17 ?_
  refine lv_goto (tgt := 22) hx hb dP_elementAt_18 (by decide) ?_
  exact kx _ _ _ dP_elementAt_22 (rfl)

def rmP_elementBefore : Room := { frames := 0, cells := 0, slots := 0, locals := 0 }
set_option maxHeartbeats 4000000 in
set_option maxRecDepth 100000 in
theorem kP_elementBefore {l : Launch} (D : va_G) (cc : Nat → ClassId) (a b : Nat → Nat) (x : LgS) (y : RpS) (k : Nat) (hk : k ≤ y.tl) (kr : okR y) : Met l yP_elementBefore wsP_elementBefore rmP_elementBefore (va_Pc [.ref (b 0), .int (nI (k))] (fun U => va_P D vwCl (wLR cc a b x y) U.heap ∧ EN D cc U)) (QcRead (sI (befR y k))) 0 0 (fun _ => False) := by
  refine rd_met RP [.ref (b 0), .int (nI (k))] _ _ (by decide) rfl rfl (Nat.le_of_ble_eq_true rfl) (vp_nar_int _) ?_
  intro p e s m args below meth c Q S hB kx ls hl
  obtain ⟨hx, hb, hml, hown, hts⟩ := id S
  obtain ⟨hP, hE⟩ := hB
  have hK := hE.1
  have hts := hE.ts args
  have S : CallFix p m c cP_elementBefore 2 s args wAll RP := ⟨hx, hb, hml, hown, hts⟩
  have hself := kr.self
  have htl := kr.tl
  have hl : lv_has ls 2 [(0, .ref (b 0)), (1, .int (nI (k)))] := hl
  refine lv_iload_n hx hb dP_elementBefore_0 rfl (lv_at hl 1 rfl) ?_
  refine r_neN (by omega) (tgt := 8) hx hb dP_elementBefore_1 (by decide) (fun c_1 => ?_) (fun c_1 => ?_)
  · refine lv_aload_n hx hb dP_elementBefore_8 rfl (lv_at hl 0 rfl) ?_
    refine va_get (D := D) (ci := 1) (v := .ref (b 9)) (C := RP) (T := TP) (N := 12) hx hb hts in_P hown hK hP 7 rfl rfl 7 (by decide) (hts _ wm_51) (fun _ h9 => h9) rfl dP_elementBefore_9 ?_
    refine lv_iload_n hx hb dP_elementBefore_12 rfl (lv_at hl 1 rfl) ?_
    refine lv_iconst (v := nI (1)) hx hb dP_elementBefore_13 (by decide) ?_
    refine r_sub (by omega) hx hb dP_elementBefore_14 ?_
    refine r_iald (q0 := 16) (t0 := 0) hx hb hK hP rfl rfl (by omega) (by decide) dP_elementBefore_15 ?_
    exact kx _ _ _ dP_elementBefore_16 (by unfold befR; first | (rw [if_pos c_1]; done) | (rw [if_neg c_1, sI_s]; done))
  · refine lv_iconst (v := sI (0)) hx hb dP_elementBefore_4 (by decide) ?_
    refine lv_goto (tgt := 16) hx hb dP_elementBefore_5 (by decide) ?_
    exact kx _ _ _ dP_elementBefore_16 (by unfold befR; first | (rw [if_pos c_1]; done) | (rw [if_neg c_1, sI_s]; done))

def rmP_hasApplied : Room := { frames := 2, cells := 0, slots := 0, locals := 43 }
set_option maxHeartbeats 4000000 in
set_option maxRecDepth 100000 in
theorem kP_hasApplied {l : Launch} (D : va_G) (cc : Nat → ClassId) (a b : Nat → Nat) (x : LgS) (y : RpS) (o : Nat) (ho : o < 100) (ok : okL x) (kr : okR y) : Met l yP_hasApplied wsP_hasApplied rmP_hasApplied (va_Pc [.ref (b 0), .int (nI (o))] (fun U => va_P D vwCl (wLR cc a b x y) U.heap ∧ EN D cc U)) (QcRead (bI (hasL x y o))) 0 0 (fun _ => False) := by
  refine rd_met RP [.ref (b 0), .int (nI (o))] _ _ (by decide) rfl rfl (Nat.le_of_ble_eq_true rfl) (bI_z _) ?_
  intro p e s m args below meth c Q S hB kx ls hl
  obtain ⟨hx, hb, hml, hown, hts⟩ := id S
  obtain ⟨hP, hE⟩ := hB
  have hK := hE.1
  have hts := hE.ts args
  have S : CallFix p m c cP_hasApplied 2 s args wAll RP := ⟨hx, hb, hml, hown, hts⟩
  have hn := ok.n
  have he := ok.e
  have hself := kr.self
  have htl := kr.tl
  have hi3 := ok.iss3 o
  have hl : lv_has ls 2 [(0, .ref (b 0)), (1, .int (nI (o)))] := hl
  refine lv_aload_n hx hb dP_hasApplied_0 rfl (lv_at hl 0 rfl) ?_
  refine va_get (D := D) (ci := 1) (v := .ref (a 0)) (C := RP) (T := TP) (N := 12) hx hb hts in_P hown hK hP 7 rfl rfl 1 (by decide) (hts _ wm_45) (fun _ h9 => h9) rfl dP_hasApplied_1 ?_
  refine lv_iload_n hx hb dP_hasApplied_4 rfl (lv_at hl 1 rfl) ?_
  refine W.callR (W.runV (As := [.int (nI (o))]) (rest := []) S (kL_placeInLine D cc a x (o) (by omega) ok) (cwV 1 hts (gd_V wm_115 wm_116 wm_117 wm_2 wm_118) rfl rfl rfl (by decide +kernel) ⟨Nat.le_of_ble_eq_true rfl, Nat.le_of_ble_eq_true rfl⟩) (rd_preV (q0 := 0) (P_left hP) hE rfl rfl) rfl rfl hl.1 rfl (lv_room (Nat.le_of_ble_eq_true rfl)) dP_hasApplied_5 ⟨Nat.le_of_ble_eq_true rfl, Nat.le_of_ble_eq_true rfl⟩) ?_
  refine W.eq (g2 := F0 m 8 ls [.int (nI (plc x (o)))]) rfl ?_
  refine lv_aload_n hx hb dP_hasApplied_8 rfl (lv_at hl 0 rfl) ?_
  refine va_get (D := D) (ci := 1) (v := .ref (b 1)) (C := RP) (T := TP) (N := 12) hx hb hts in_P hown hK hP 7 rfl rfl 2 (by decide) (hts _ wm_46) (fun _ h9 => h9) rfl dP_hasApplied_9 ?_
  refine lv_aload_n hx hb dP_hasApplied_12 rfl (lv_at hl 0 rfl) ?_
  refine va_get (D := D) (ci := 1) (v := .int (nI (y.self))) (C := RP) (T := TP) (N := 12) hx hb hts in_P hown hK hP 7 rfl rfl 0 (by decide) (hts _ wm_44) (fun _ h9 => h9) rfl dP_hasApplied_13 ?_
  refine r_aald (q0 := 8) (t0 := 3) (f := (fun j => b (2 + j))) hx hb hK hP rfl rfl (by omega) (by decide) dP_hasApplied_16 ?_
  refine lv_aload_n hx hb dP_hasApplied_17 rfl (lv_at hl 0 rfl) ?_
  refine va_get (D := D) (ci := 1) (v := .ref (a 0)) (C := RP) (T := TP) (N := 12) hx hb hts in_P hown hK hP 7 rfl rfl 1 (by decide) (hts _ wm_45) (fun _ h9 => h9) rfl dP_hasApplied_18 ?_
  refine va_getN (D := D) (ci := 0) (v := .ref (a 1)) (C := RL) (T := TL) (N := 8) hx hb hts in_L hown hK hP 0 rfl rfl 0 (by decide) (hE.f nf_0) (fun _ h9 => h9) rfl dP_hasApplied_21 ?_
  refine lv_iload_n hx hb dP_hasApplied_24 rfl (lv_at hl 1 rfl) ?_
  refine r_iald (q0 := 1) (t0 := 0) hx hb hK hP rfl rfl (by omega) (by decide) dP_hasApplied_25 ?_
  refine r_iald (q0 := 9 + (y.self)) (t0 := 0) hx hb hK hP (at_seen (by omega)) rfl (by omega) (by decide) dP_hasApplied_26 ?_
  refine r_gt (ok.clk _) (kr.seen (y.self) (x.iss o)) (tgt := 34) hx hb dP_hasApplied_27 (by decide) (fun c_27 => ?_) (fun c_27 => ?_)
  · refine lv_iconst (v := bI (false)) hx hb dP_hasApplied_34 (by decide) ?_
    exact kx _ _ _ dP_hasApplied_35 (by unfold hasL; first | exact congrArg bI (decide_eq_true c_27).symm | exact congrArg bI (decide_eq_false (by omega)).symm)
  · refine lv_iconst (v := bI (true)) hx hb dP_hasApplied_30 (by decide) ?_
    refine lv_goto (tgt := 35) hx hb dP_hasApplied_31 (by decide) ?_
    exact kx _ _ _ dP_hasApplied_35 (by unfold hasL; first | exact congrArg bI (decide_eq_true c_27).symm | exact congrArg bI (decide_eq_false (by omega)).symm)

def rmP_isSettled : Room := { frames := 2, cells := 0, slots := 0, locals := 43 }
set_option maxHeartbeats 4000000 in
set_option maxRecDepth 100000 in
theorem kP_isSettled {l : Launch} (D : va_G) (cc : Nat → ClassId) (a b : Nat → Nat) (x : LgS) (y : RpS) (o : Nat) (ho : o < 100) (ok : okL x) (kr : okR y) : Met l yP_isSettled wsP_isSettled rmP_isSettled (va_Pc [.ref (b 0), .int (nI (o))] (fun U => va_P D vwCl (wLR cc a b x y) U.heap ∧ EN D cc U)) (QcRead (bI (setL x y o))) 0 0 (fun _ => False) := by
  refine rd_met RP [.ref (b 0), .int (nI (o))] _ _ (by decide) rfl rfl (Nat.le_of_ble_eq_true rfl) (bI_z _) ?_
  intro p e s m args below meth c Q S hB kx ls hl
  obtain ⟨hx, hb, hml, hown, hts⟩ := id S
  obtain ⟨hP, hE⟩ := hB
  have hK := hE.1
  have hts := hE.ts args
  have S : CallFix p m c cP_isSettled 5 s args wAll RP := ⟨hx, hb, hml, hown, hts⟩
  have hn := ok.n
  have he := ok.e
  have hself := kr.self
  have htl := kr.tl
  have hi3 := ok.iss3 o
  have hl : lv_has ls 5 [(0, .ref (b 0)), (1, .int (nI (o)))] := hl
  have L22 : ∀ (n : Nat) (i : Nat)  (ls : Array Slot) (h1 : i ≤ 3) (h2 : 3 - i < n) (h3 : ∀ k, k < i → plc x o ≤ y.seen k (x.iss o)), lv_has ls 5 [(0, .ref (b 0)), (1, .int (nI (o))), (2, .int (nI (x.iss o))), (3, .int (nI (plc x o))), (4, .int (nI (i)))] → W p l e rmP_isSettled s m args below meth c s.heap [] 0 0 Q (F0 m 22 ls []) := by
    intro n
    induction n with
    | zero => intro i ls h1 h2 h3 hl; exact absurd h2 (Nat.not_lt_zero _)
    | succ n ih =>
      intro i ls h1 h2 h3 hl
      refine lv_iload hx hb dP_isSettled_22 (lv_at hl 4 rfl) ?_
      refine lv_iconst (v := nI (3)) hx hb dP_isSettled_24 (by decide) ?_
      refine r_ge (by omega) (by decide) (tgt := 49) hx hb dP_isSettled_25 (by decide) (fun c_25 => ?_) (fun c_25 => ?_)
      · refine lv_iconst (v := bI (true)) hx hb dP_isSettled_49 (by decide) ?_
        exact kx _ _ _ dP_isSettled_50 (by unfold setL; rw [andF_t rfl (fun k hk => decide_eq_true (h3 k (by omega)))])
      · refine lv_aload_n hx hb dP_isSettled_28 rfl (lv_at hl 0 rfl) ?_
        refine va_get (D := D) (ci := 1) (v := .ref (b 1)) (C := RP) (T := TP) (N := 12) hx hb hts in_P hown hK hP 7 rfl rfl 2 (by decide) (hts _ wm_46) (fun _ h9 => h9) rfl dP_isSettled_29 ?_
        refine lv_iload hx hb dP_isSettled_32 (lv_at hl 4 rfl) ?_
        refine r_aald (q0 := 8) (t0 := 3) (f := (fun j => b (2 + j))) hx hb hK hP rfl rfl (by omega) (by decide) dP_isSettled_34 ?_
        refine lv_iload_n hx hb dP_isSettled_35 rfl (lv_at hl 2 rfl) ?_
        refine r_iald (q0 := 9 + i) (t0 := 0) hx hb hK hP (at_seen (by omega)) rfl (by omega) (by decide) dP_isSettled_36 ?_
        refine lv_iload_n hx hb dP_isSettled_37 rfl (lv_at hl 3 rfl) ?_
        refine r_ge (kr.seen i (x.iss o)) (ok.clk _) (tgt := 43) hx hb dP_isSettled_38 (by decide) (fun c_38 => ?_) (fun c_38 => ?_)
        · refine lv_iinc (v := nI (i + 1)) (lv' := [(4, .int (nI (i + 1))), (0, .ref (b 0)), (1, .int (nI (o))), (2, .int (nI (x.iss o))), (3, .int (nI (plc x o)))]) hx hb dP_isSettled_43 hl (k := 4) rfl (nI_1 _) (by decide) rfl (fun ls hl => ?_)
          refine lv_goto (tgt := 22) hx hb dP_isSettled_46 (by decide) ?_
          exact ih  (i + 1)  ls (by omega) (by omega) (by first | exact (fun k hk => absurd hk (Nat.not_lt_zero k)) | exact lt_s h3 c_38) (lv_sub hl [1, 2, 3, 4, 0] rfl)
        · refine lv_iconst (v := bI (false)) hx hb dP_isSettled_41 (by decide) ?_
          exact kx _ _ _ dP_isSettled_42 (by unfold setL; rw [andF_f (i := i) (by omega) (decide_eq_false (by omega))])
  refine lv_aload_n hx hb dP_isSettled_0 rfl (lv_at hl 0 rfl) ?_
  refine va_get (D := D) (ci := 1) (v := .ref (a 0)) (C := RP) (T := TP) (N := 12) hx hb hts in_P hown hK hP 7 rfl rfl 1 (by decide) (hts _ wm_45) (fun _ h9 => h9) rfl dP_isSettled_1 ?_
  refine va_getN (D := D) (ci := 0) (v := .ref (a 1)) (C := RL) (T := TL) (N := 8) hx hb hts in_L hown hK hP 0 rfl rfl 0 (by decide) (hE.f nf_0) (fun _ h9 => h9) rfl dP_isSettled_4 ?_
  refine lv_iload_n hx hb dP_isSettled_7 rfl (lv_at hl 1 rfl) ?_
  refine r_iald (q0 := 1) (t0 := 0) hx hb hK hP rfl rfl (by omega) (by decide) dP_isSettled_8 ?_
  refine lv_istore_n (lv' := [(2, .int (nI (x.iss o))), (0, .ref (b 0)), (1, .int (nI (o)))]) hx hb dP_isSettled_9 rfl hl (by decide) rfl (fun ls hl => ?_)
  refine lv_aload_n hx hb dP_isSettled_10 rfl (lv_at hl 1 rfl) ?_
  refine va_get (D := D) (ci := 1) (v := .ref (a 0)) (C := RP) (T := TP) (N := 12) hx hb hts in_P hown hK hP 7 rfl rfl 1 (by decide) (hts _ wm_45) (fun _ h9 => h9) rfl dP_isSettled_11 ?_
  refine lv_iload_n hx hb dP_isSettled_14 rfl (lv_at hl 2 rfl) ?_
  refine W.callR (W.runV (As := [.int (nI (o))]) (rest := []) S (kL_placeInLine D cc a x (o) (by omega) ok) (cwV 1 hts (gd_V wm_115 wm_116 wm_117 wm_2 wm_118) rfl rfl rfl (by decide +kernel) ⟨Nat.le_of_ble_eq_true rfl, Nat.le_of_ble_eq_true rfl⟩) (rd_preV (q0 := 0) (P_left hP) hE rfl rfl) rfl rfl hl.1 rfl (lv_room (Nat.le_of_ble_eq_true rfl)) dP_isSettled_15 ⟨Nat.le_of_ble_eq_true rfl, Nat.le_of_ble_eq_true rfl⟩) ?_
  refine W.eq (g2 := F0 m 18 ls [.int (nI (plc x (o)))]) rfl ?_
  refine lv_istore_n (lv' := [(3, .int (nI (plc x (o)))), (2, .int (nI (x.iss o))), (0, .ref (b 0)), (1, .int (nI (o)))]) hx hb dP_isSettled_18 rfl hl (by decide) rfl (fun ls hl => ?_)
  refine lv_iconst (v := nI (0)) hx hb dP_isSettled_19 (by decide) ?_
  refine lv_istore (lv' := [(4, .int (nI (0))), (3, .int (nI (plc x (o)))), (2, .int (nI (x.iss o))), (0, .ref (b 0)), (1, .int (nI (o)))]) hx hb dP_isSettled_20 hl (by decide) rfl (fun ls hl => ?_)
  exact L22 (4) (0)  ls (by omega) (by omega) (by first | exact (fun k hk => absurd hk (Nat.not_lt_zero k)) | exact lt_s h3 c_38) (lv_sub hl [3, 4, 2, 1, 0] rfl)

def rmP_isReady : Room := { frames := 2, cells := 0, slots := 0, locals := 43 }
set_option maxHeartbeats 4000000 in
set_option maxRecDepth 100000 in
theorem kP_isReady {l : Launch} (D : va_G) (cc : Nat → ClassId) (a b : Nat → Nat) (x : LgS) (y : RpS) (o : Nat) (ho : o < 100) (hp1 : 1 ≤ plc x o) (ok : okL x) (kr : okR y) : Met l yP_isReady wsP_isReady rmP_isReady (va_Pc [.ref (b 0), .int (nI (o))] (fun U => va_P D vwCl (wLR cc a b x y) U.heap ∧ EN D cc U)) (QcRead (bI (rdyL x y o))) 0 0 (fun _ => False) := by
  refine rd_met RP [.ref (b 0), .int (nI (o))] _ _ (by decide) rfl rfl (Nat.le_of_ble_eq_true rfl) (bI_z _) ?_
  intro p e s m args below meth c Q S hB kx ls hl
  obtain ⟨hx, hb, hml, hown, hts⟩ := id S
  obtain ⟨hP, hE⟩ := hB
  have hK := hE.1
  have hts := hE.ts args
  have S : CallFix p m c cP_isReady 4 s args wAll RP := ⟨hx, hb, hml, hown, hts⟩
  have hn := ok.n
  have he := ok.e
  have hself := kr.self
  have htl := kr.tl
  have hi3 := ok.iss3 o
  have hpl : plc x o < 2 ^ 31 := ok.clk _
  have hl : lv_has ls 4 [(0, .ref (b 0)), (1, .int (nI (o)))] := hl
  have L38 : ∀ (n : Nat) (j : Nat)  (ls : Array Slot) (h0 : y.seen y.self (x.iss o) = plc x o - 1) (h1 : j ≤ 3) (h2 : 3 - j < n) (h3 : ∀ k, k < j → k = x.iss o ∨ x.clk (o * 3 + k) ≤ y.seen y.self k), lv_has ls 4 [(0, .ref (b 0)), (1, .int (nI (o))), (2, .int (nI (x.iss o))), (3, .int (nI (j)))] → W p l e rmP_isReady s m args below meth c s.heap [] 0 0 Q (F0 m 38 ls []) := by
    intro n
    induction n with
    | zero => intro j ls h0 h1 h2 h3 hl; exact absurd h2 (Nat.not_lt_zero _)
    | succ n ih =>
      intro j ls h0 h1 h2 h3 hl
      refine lv_iload_n hx hb dP_isReady_38 rfl (lv_at hl 3 rfl) ?_
      refine lv_iconst (v := nI (3)) hx hb dP_isReady_39 (by decide) ?_
      refine r_ge (by omega) (by decide) (tgt := 79) hx hb dP_isReady_40 (by decide) (fun c_40 => ?_) (fun c_40 => ?_)
      · refine lv_iconst (v := bI (true)) hx hb dP_isReady_79 (by decide) ?_
        exact kx _ _ _ dP_isReady_80 (by unfold rdyL; rw [andF_t (decide_eq_true h0) (fun k hk => decide_eq_true (h3 k (by omega)))])
      · refine lv_iload_n hx hb dP_isReady_43 rfl (lv_at hl 3 rfl) ?_
        refine lv_iload_n hx hb dP_isReady_44 rfl (lv_at hl 2 rfl) ?_
        refine r_eq (by omega) (by omega) (tgt := 73) hx hb dP_isReady_45 (by decide) (fun c_45 => ?_) (fun c_45 => ?_)
        · refine lv_iinc (v := nI (j + 1)) (lv' := [(3, .int (nI (j + 1))), (0, .ref (b 0)), (1, .int (nI (o))), (2, .int (nI (x.iss o)))]) hx hb dP_isReady_73 hl (k := 3) rfl (nI_1 _) (by decide) rfl (fun ls hl => ?_)
          refine lv_goto (tgt := 38) hx hb dP_isReady_76 (by decide) ?_
          exact ih  (j + 1)  ls (by first | exact h0 | exact c_31) (by omega) (by omega) (by first | exact (fun k hk => absurd hk (Nat.not_lt_zero k)) | exact lt_s h3 (Or.inl c_45) | exact lt_s h3 (Or.inr c_68)) (lv_sub hl [1, 2, 3, 0] rfl)
        · refine lv_aload_n hx hb dP_isReady_48 rfl (lv_at hl 0 rfl) ?_
          refine va_get (D := D) (ci := 1) (v := .ref (b 1)) (C := RP) (T := TP) (N := 12) hx hb hts in_P hown hK hP 7 rfl rfl 2 (by decide) (hts _ wm_46) (fun _ h9 => h9) rfl dP_isReady_49 ?_
          refine lv_aload_n hx hb dP_isReady_52 rfl (lv_at hl 0 rfl) ?_
          refine va_get (D := D) (ci := 1) (v := .int (nI (y.self))) (C := RP) (T := TP) (N := 12) hx hb hts in_P hown hK hP 7 rfl rfl 0 (by decide) (hts _ wm_44) (fun _ h9 => h9) rfl dP_isReady_53 ?_
          refine r_aald (q0 := 8) (t0 := 3) (f := (fun j => b (2 + j))) hx hb hK hP rfl rfl (by omega) (by decide) dP_isReady_56 ?_
          refine lv_iload_n hx hb dP_isReady_57 rfl (lv_at hl 3 rfl) ?_
          refine r_iald (q0 := 9 + (y.self)) (t0 := 0) hx hb hK hP (at_seen (by omega)) rfl (by omega) (by decide) dP_isReady_58 ?_
          refine lv_aload_n hx hb dP_isReady_59 rfl (lv_at hl 0 rfl) ?_
          refine va_get (D := D) (ci := 1) (v := .ref (a 0)) (C := RP) (T := TP) (N := 12) hx hb hts in_P hown hK hP 7 rfl rfl 1 (by decide) (hts _ wm_45) (fun _ h9 => h9) rfl dP_isReady_60 ?_
          refine lv_iload_n hx hb dP_isReady_63 rfl (lv_at hl 1 rfl) ?_
          refine lv_iload_n hx hb dP_isReady_64 rfl (lv_at hl 3 rfl) ?_
          refine W.callR (W.runV (As := [.int (nI (o)), .int (nI (j))]) (rest := [.int (nI (y.seen (y.self) j))]) S (kL_clockOf D cc a x (o) (j) (by omega) (by omega) ok) (cwV 2 hts (gd_V wm_111 wm_112 wm_113 wm_2 wm_114) rfl rfl rfl (by decide +kernel) ⟨Nat.le_of_ble_eq_true rfl, Nat.le_of_ble_eq_true rfl⟩) (rd_preV (q0 := 0) (P_left hP) hE rfl rfl) rfl rfl hl.1 rfl (lv_room (Nat.le_of_ble_eq_true rfl)) dP_isReady_65 ⟨Nat.le_of_ble_eq_true rfl, Nat.le_of_ble_eq_true rfl⟩) ?_
          refine W.eq (g2 := F0 m 68 ls [.int (nI (x.clk ((o) * 3 + (j)))), .int (nI (y.seen (y.self) j))]) rfl ?_
          refine r_ge (kr.seen (y.self) (j)) (ok.clk _) (tgt := 73) hx hb dP_isReady_68 (by decide) (fun c_68 => ?_) (fun c_68 => ?_)
          · refine lv_iinc (v := nI (j + 1)) (lv' := [(3, .int (nI (j + 1))), (0, .ref (b 0)), (1, .int (nI (o))), (2, .int (nI (x.iss o)))]) hx hb dP_isReady_73 hl (k := 3) rfl (nI_1 _) (by decide) rfl (fun ls hl => ?_)
            refine lv_goto (tgt := 38) hx hb dP_isReady_76 (by decide) ?_
            exact ih  (j + 1)  ls (by first | exact h0 | exact c_31) (by omega) (by omega) (by first | exact (fun k hk => absurd hk (Nat.not_lt_zero k)) | exact lt_s h3 (Or.inl c_45) | exact lt_s h3 (Or.inr c_68)) (lv_sub hl [1, 2, 3, 0] rfl)
          · refine lv_iconst (v := bI (false)) hx hb dP_isReady_71 (by decide) ?_
            exact kx _ _ _ dP_isReady_72 (by unfold rdyL; rw [andF_f (i := j) (by omega) (decide_eq_false (by omega))])
  refine lv_aload_n hx hb dP_isReady_0 rfl (lv_at hl 0 rfl) ?_
  refine va_get (D := D) (ci := 1) (v := .ref (a 0)) (C := RP) (T := TP) (N := 12) hx hb hts in_P hown hK hP 7 rfl rfl 1 (by decide) (hts _ wm_45) (fun _ h9 => h9) rfl dP_isReady_1 ?_
  refine va_getN (D := D) (ci := 0) (v := .ref (a 1)) (C := RL) (T := TL) (N := 8) hx hb hts in_L hown hK hP 0 rfl rfl 0 (by decide) (hE.f nf_0) (fun _ h9 => h9) rfl dP_isReady_4 ?_
  refine lv_iload_n hx hb dP_isReady_7 rfl (lv_at hl 1 rfl) ?_
  refine r_iald (q0 := 1) (t0 := 0) hx hb hK hP rfl rfl (by omega) (by decide) dP_isReady_8 ?_
  refine lv_istore_n (lv' := [(2, .int (nI (x.iss o))), (0, .ref (b 0)), (1, .int (nI (o)))]) hx hb dP_isReady_9 rfl hl (by decide) rfl (fun ls hl => ?_)
  refine lv_aload_n hx hb dP_isReady_10 rfl (lv_at hl 1 rfl) ?_
  refine va_get (D := D) (ci := 1) (v := .ref (b 1)) (C := RP) (T := TP) (N := 12) hx hb hts in_P hown hK hP 7 rfl rfl 2 (by decide) (hts _ wm_46) (fun _ h9 => h9) rfl dP_isReady_11 ?_
  refine lv_aload_n hx hb dP_isReady_14 rfl (lv_at hl 1 rfl) ?_
  refine va_get (D := D) (ci := 1) (v := .int (nI (y.self))) (C := RP) (T := TP) (N := 12) hx hb hts in_P hown hK hP 7 rfl rfl 0 (by decide) (hts _ wm_44) (fun _ h9 => h9) rfl dP_isReady_15 ?_
  refine r_aald (q0 := 8) (t0 := 3) (f := (fun j => b (2 + j))) hx hb hK hP rfl rfl (by omega) (by decide) dP_isReady_18 ?_
  refine lv_iload_n hx hb dP_isReady_19 rfl (lv_at hl 0 rfl) ?_
  refine r_iald (q0 := 9 + (y.self)) (t0 := 0) hx hb hK hP (at_seen (by omega)) rfl (by omega) (by decide) dP_isReady_20 ?_
  refine lv_aload_n hx hb dP_isReady_21 rfl (lv_at hl 1 rfl) ?_
  refine va_get (D := D) (ci := 1) (v := .ref (a 0)) (C := RP) (T := TP) (N := 12) hx hb hts in_P hown hK hP 7 rfl rfl 1 (by decide) (hts _ wm_45) (fun _ h9 => h9) rfl dP_isReady_22 ?_
  refine lv_iload_n hx hb dP_isReady_25 rfl (lv_at hl 2 rfl) ?_
  refine W.callR (W.runV (As := [.int (nI (o))]) (rest := [.int (nI (y.seen (y.self) (x.iss o)))]) S (kL_placeInLine D cc a x (o) (by omega) ok) (cwV 1 hts (gd_V wm_115 wm_116 wm_117 wm_2 wm_118) rfl rfl rfl (by decide +kernel) ⟨Nat.le_of_ble_eq_true rfl, Nat.le_of_ble_eq_true rfl⟩) (rd_preV (q0 := 0) (P_left hP) hE rfl rfl) rfl rfl hl.1 rfl (lv_room (Nat.le_of_ble_eq_true rfl)) dP_isReady_26 ⟨Nat.le_of_ble_eq_true rfl, Nat.le_of_ble_eq_true rfl⟩) ?_
  refine W.eq (g2 := F0 m 29 ls [.int (nI (plc x (o))), .int (nI (y.seen (y.self) (x.iss o)))]) rfl ?_
  refine lv_iconst (v := nI (1)) hx hb dP_isReady_29 (by decide) ?_
  refine r_sub (hp1) hx hb dP_isReady_30 ?_
  refine r_eq (kr.seen (y.self) (x.iss o)) (by omega) (tgt := 36) hx hb dP_isReady_31 (by decide) (fun c_31 => ?_) (fun c_31 => ?_)
  · refine lv_iconst (v := nI (0)) hx hb dP_isReady_36 (by decide) ?_
    refine lv_istore_n (lv' := [(3, .int (nI (0))), (2, .int (nI (x.iss o))), (0, .ref (b 0)), (1, .int (nI (o)))]) hx hb dP_isReady_37 rfl hl (by decide) rfl (fun ls hl => ?_)
    exact L38 (4) (0)  ls (by first | exact h0 | exact c_31) (by omega) (by omega) (by first | exact (fun k hk => absurd hk (Nat.not_lt_zero k)) | exact lt_s h3 (Or.inl c_45) | exact lt_s h3 (Or.inr c_68)) (lv_sub hl [2, 3, 1, 0] rfl)
  · refine lv_iconst (v := bI (false)) hx hb dP_isReady_34 (by decide) ?_
    exact kx _ _ _ dP_isReady_35 (by unfold rdyL; rw [decide_eq_false c_31, andF_fb])

def rmP_holdsItsTarget : Room := { frames := 3, cells := 0, slots := 0, locals := 67 }
set_option maxHeartbeats 4000000 in
set_option maxRecDepth 100000 in
theorem kP_holdsItsTarget {l : Launch} (D : va_G) (cc : Nat → ClassId) (a b : Nat → Nat) (x : LgS) (y : RpS) (o : Nat) (ho : o < 100) (ok : okL x) (kr : okR y) : Met l yP_holdsItsTarget wsP_holdsItsTarget rmP_holdsItsTarget (va_Pc [.ref (b 0), .int (nI (o))] (fun U => va_P D vwCl (wLR cc a b x y) U.heap ∧ EN D cc U)) (QcRead (bI (hldL x y o))) 0 0 (fun _ => False) := by
  refine rd_met RP [.ref (b 0), .int (nI (o))] _ _ (by decide) rfl rfl (Nat.le_of_ble_eq_true rfl) (bI_z _) ?_
  intro p e s m args below meth c Q S hB kx ls hl
  obtain ⟨hx, hb, hml, hown, hts⟩ := id S
  obtain ⟨hP, hE⟩ := hB
  have hK := hE.1
  have hts := hE.ts args
  have S : CallFix p m c cP_holdsItsTarget 2 s args wAll RP := ⟨hx, hb, hml, hown, hts⟩
  have hn := ok.n
  have he := ok.e
  have hself := kr.self
  have htl := kr.tl
  have z31 : (0 : Nat) < 2 ^ 31 := by decide
  have hl : lv_has ls 2 [(0, .ref (b 0)), (1, .int (nI (o)))] := hl
  refine lv_aload_n hx hb dP_holdsItsTarget_0 rfl (lv_at hl 0 rfl) ?_
  refine va_get (D := D) (ci := 1) (v := .ref (a 0)) (C := RP) (T := TP) (N := 12) hx hb hts in_P hown hK hP 7 rfl rfl 1 (by decide) (hts _ wm_45) (fun _ h9 => h9) rfl dP_holdsItsTarget_1 ?_
  refine lv_iload_n hx hb dP_holdsItsTarget_4 rfl (lv_at hl 1 rfl) ?_
  refine W.callR (W.runV (As := [.int (nI (o))]) (rest := []) S (kL_isErase D cc a x (o) (by omega) ok) (cwV 1 hts (gd_V wm_123 wm_124 wm_125 wm_2 wm_126) rfl rfl rfl (by decide +kernel) ⟨Nat.le_of_ble_eq_true rfl, Nat.le_of_ble_eq_true rfl⟩) (rd_preV (q0 := 0) (P_left hP) hE rfl rfl) rfl rfl hl.1 rfl (lv_room (Nat.le_of_ble_eq_true rfl)) dP_holdsItsTarget_5 ⟨Nat.le_of_ble_eq_true rfl, Nat.le_of_ble_eq_true rfl⟩) ?_
  refine W.eq (g2 := F0 m 8 ls [.int (bI (decide (x.chr (o) = 0)))]) rfl ?_
  refine r_neB (tgt := 44) hx hb dP_holdsItsTarget_8 (by decide) (fun c_8 => ?_) (fun c_8 => ?_)
  · refine lv_iconst (v := bI (false)) hx hb dP_holdsItsTarget_44 (by decide) ?_
    exact kx _ _ _ dP_holdsItsTarget_45 (by unfold hldL; first | (simp [c_8]; done) | (simp [c_8, c_21]; done) | (simp [c_8, c_21, c_29]; done) | (simp [c_8, c_21, c_29, c_37]; done))
  · refine lv_aload_n hx hb dP_holdsItsTarget_11 rfl (lv_at hl 0 rfl) ?_
    refine va_get (D := D) (ci := 1) (v := .ref (a 0)) (C := RP) (T := TP) (N := 12) hx hb hts in_P hown hK hP 7 rfl rfl 1 (by decide) (hts _ wm_45) (fun _ h9 => h9) rfl dP_holdsItsTarget_12 ?_
    refine va_getN (D := D) (ci := 0) (v := .ref (a 3)) (C := RL) (T := TL) (N := 8) hx hb hts in_L hown hK hP 0 rfl rfl 2 (by decide) (hE.f nf_4) (fun _ h9 => h9) rfl dP_holdsItsTarget_15 ?_
    refine lv_iload_n hx hb dP_holdsItsTarget_18 rfl (lv_at hl 1 rfl) ?_
    refine r_iald (q0 := 3) (t0 := 0) hx hb hK hP rfl rfl (by omega) (by decide) dP_holdsItsTarget_19 ?_
    refine lv_iconst (v := sI (0)) hx hb dP_holdsItsTarget_20 (by decide) ?_
    refine r_eqS (ok.tgt (o)) (by omega) (tgt := 44) hx hb dP_holdsItsTarget_21 (by decide) (fun c_21 => ?_) (fun c_21 => ?_)
    · refine lv_iconst (v := bI (false)) hx hb dP_holdsItsTarget_44 (by decide) ?_
      exact kx _ _ _ dP_holdsItsTarget_45 (by unfold hldL; first | (simp [c_8]; done) | (simp [c_8, c_21]; done) | (simp [c_8, c_21, c_29]; done) | (simp [c_8, c_21, c_29, c_37]; done))
    · refine lv_aload_n hx hb dP_holdsItsTarget_24 rfl (lv_at hl 0 rfl) ?_
      refine lv_iload_n hx hb dP_holdsItsTarget_25 rfl (lv_at hl 1 rfl) ?_
      refine W.callR (W.runV (As := [.int (nI (o))]) (rest := []) S (kP_hasApplied D cc a b x y (o) (by omega) ok kr) (cwV 1 hts (gd_V wm_130 wm_131 wm_132 wm_3 wm_133) rfl rfl rfl (by decide +kernel) ⟨Nat.le_of_ble_eq_true rfl, Nat.le_of_ble_eq_true rfl⟩) (rd_preV (q0 := 7) hP hE rfl rfl) rfl rfl hl.1 rfl (lv_room (Nat.le_of_ble_eq_true rfl)) dP_holdsItsTarget_26 ⟨Nat.le_of_ble_eq_true rfl, Nat.le_of_ble_eq_true rfl⟩) ?_
      refine W.eq (g2 := F0 m 29 ls [.int (bI (hasL x y (o)))]) rfl ?_
      refine r_eqB (tgt := 44) hx hb dP_holdsItsTarget_29 (by decide) (fun c_29 => ?_) (fun c_29 => ?_)
      · refine lv_iconst (v := bI (false)) hx hb dP_holdsItsTarget_44 (by decide) ?_
        exact kx _ _ _ dP_holdsItsTarget_45 (by unfold hldL; first | (simp [c_8]; done) | (simp [c_8, c_21]; done) | (simp [c_8, c_21, c_29]; done) | (simp [c_8, c_21, c_29, c_37]; done))
      · refine lv_aload_n hx hb dP_holdsItsTarget_32 rfl (lv_at hl 0 rfl) ?_
        refine lv_iload_n hx hb dP_holdsItsTarget_33 rfl (lv_at hl 1 rfl) ?_
        refine W.callR (W.runV (As := [.int (nI (o))]) (rest := []) S (kP_isSettled D cc a b x y (o) (by omega) ok kr) (cwV 1 hts (gd_V wm_181 wm_182 wm_183 wm_3 wm_184) rfl rfl rfl (by decide +kernel) ⟨Nat.le_of_ble_eq_true rfl, Nat.le_of_ble_eq_true rfl⟩) (rd_preV (q0 := 7) hP hE rfl rfl) rfl rfl hl.1 rfl (lv_room (Nat.le_of_ble_eq_true rfl)) dP_holdsItsTarget_34 ⟨Nat.le_of_ble_eq_true rfl, Nat.le_of_ble_eq_true rfl⟩) ?_
        refine W.eq (g2 := F0 m 37 ls [.int (bI (setL x y (o)))]) rfl ?_
        refine r_neB (tgt := 44) hx hb dP_holdsItsTarget_37 (by decide) (fun c_37 => ?_) (fun c_37 => ?_)
        · refine lv_iconst (v := bI (false)) hx hb dP_holdsItsTarget_44 (by decide) ?_
          exact kx _ _ _ dP_holdsItsTarget_45 (by unfold hldL; first | (simp [c_8]; done) | (simp [c_8, c_21]; done) | (simp [c_8, c_21, c_29]; done) | (simp [c_8, c_21, c_29, c_37]; done))
        · refine lv_iconst (v := bI (true)) hx hb dP_holdsItsTarget_40 (by decide) ?_
          refine lv_goto (tgt := 45) hx hb dP_holdsItsTarget_41 (by decide) ?_
          exact kx _ _ _ dP_holdsItsTarget_45 (by unfold hldL; first | (simp [c_8]; done) | (simp [c_8, c_21]; done) | (simp [c_8, c_21, c_29]; done) | (simp [c_8, c_21, c_29, c_37]; done))
end
section
/-! The class's methods that write: what they do, pure -/
def shU (ord : Nat → Nat) (el i : Nat) : Nat → Nat := fun j => if i < j ∧ j ≤ el then ord (j - 1) else ord j
theorem shU_el (ord : Nat → Nat) (el : Nat) : shU ord el el = ord := by
  funext j
  unfold shU
  rw [if_neg (by omega)]
theorem shU_lo {ord : Nat → Nat} {el i j : Nat} (h : j ≤ i) : shU ord el i j = ord j := by
  unfold shU
  rw [if_neg (by omega)]
theorem shU_step {ord : Nat → Nat} {el i : Nat} (h1 : 0 < i) (h2 : i ≤ el) : va_up (shU ord el i) i (shU ord el i (i - 1)) = shU ord el (i - 1) := by
  rw [shU_lo (show i - 1 ≤ i by omega)]
  funext j
  unfold va_up shU
  by_cases hj : j = i
  · rw [if_pos hj, if_pos (by omega), hj]
  · rw [if_neg hj]
    by_cases hq : i < j ∧ j ≤ el
    · rw [if_pos hq, if_pos (by omega)]
    · rw [if_neg hq, if_neg (by omega)]
theorem shU_lt {ord : Nat → Nat} {el B : Nat} (h : ∀ k, ord k < B) (i : Nat) : ∀ k, shU ord el i k < B := by
  intro k
  unfold shU
  split <;> exact h _
/-- where the places behind t begin -/
def ibP (x : LgS) (t ib : Nat) : Prop := (t = 0 ∧ ib = 0) ∨ ∃ i, i < x.el ∧ (∀ k, k < i → x.ord k + 1 ≠ t) ∧ x.ord i + 1 = t ∧ ib = i + 1
/-- the place of a new element e -/
def plP (x : LgS) (e ib k : Nat) : Prop := ibP x (x.tgt e) ib ∧ ib ≤ k ∧ k ≤ x.el ∧ (∀ j, ib ≤ j → j < k → gofL x (x.ord j) e = true) ∧ (k < x.el → gofL x (x.ord k) e = false)
def pioL (x : LgS) (k e : Nat) : LgS := mkL x.cnt (x.el + 1) x.iss x.stp x.tgt x.chr x.clk (va_up (shU x.ord x.el k) k e)
theorem okL.iss0 {x : LgS} (h : okL x) (k : Nat) : x.iss k < 3 := (h.2.2 k).1
theorem okL.stp3 {x : LgS} (h : okL x) (k : Nat) : x.stp k < 1000 := (h.2.2 k).2.1
theorem okL.chr5 {x : LgS} (h : okL x) (k : Nat) : x.chr k < 65536 := (h.2.2 k).2.2.2.1
theorem okL.clk3 {x : LgS} (h : okL x) (k : Nat) : x.clk k < 1000 := (h.2.2 k).2.2.2.2.1
theorem okL_mk {cnt el : Nat} {iss stp tgt chr clk ord : Nat → Nat} (h1 : cnt ≤ 100) (h2 : el ≤ 100) (h3 : ∀ k, iss k < 3) (h4 : ∀ k, stp k < 1000) (h5 : ∀ k, tgt k ≤ 100) (h6 : ∀ k, chr k < 65536) (h7 : ∀ k, clk k < 1000) (h8 : ∀ k, ord k < 100) : okL (mkL cnt el iss stp tgt chr clk ord) := ⟨h1, h2, fun k => ⟨h3 k, h4 k, h5 k, h6 k, h7 k, h8 k⟩⟩
theorem nI_max {a b : Nat} (ha : a < 2 ^ 31) (hb : b < 2 ^ 31) : (if nI a < nI b then nI b else nI a) = nI (max a b) := by
  by_cases h : a < b
  · rw [if_pos ((nI_ltI ha hb).mpr h), Nat.max_eq_right (by omega)]
  · rw [if_neg (fun q => h ((nI_ltI ha hb).mp q)), Nat.max_eq_left (by omega)]
def clkV (c : Nat → Nat) (o : Nat) (g : Nat → Nat) : Nat → Nat → Nat
  | 0 => c
  | j + 1 => va_up (clkV c o g j) (o * 3 + j) (g j)
theorem clkV_lt {c : Nat → Nat} {o B : Nat} {g : Nat → Nat} (hc : ∀ k, c k < B) (hg : ∀ j, g j < B) : ∀ j k, clkV c o g j k < B
  | 0 => hc
  | j + 1 => up_lt (clkV_lt hc hg j) (hg j)
theorem clkV_e {c : Nat → Nat} {o j v : Nat} {g : Nat → Nat} (h : g j = v) : va_up (clkV c o g j) (o * 3 + j) v = clkV c o g (j + 1) := by rw [← h]; rfl
/-- record, up to the order -/
def rec5 (x : LgS) (i s t ch : Nat) (f : Nat → Nat) : LgS := mkL (x.cnt + 1) x.el (va_up x.iss x.cnt i) (va_up x.stp x.cnt s) (va_up x.tgt x.cnt t) (va_up x.chr x.cnt ch) (clkV x.clk x.cnt (fun j => f j + if j = i then 1 else 0) 3) x.ord
def recL (x : LgS) (i s t ch : Nat) (f : Nat → Nat) (k : Nat) : LgS := if ch = 0 then rec5 x i s t ch f else pioL (rec5 x i s t ch f) k x.cnt
abbrev wLw (cc : Nat → ClassId) (a : Nat → Nat) (x : LgS) (rw_ : Nat) (f : Nat → Nat) : va_W := wL cc a x ++ [(rw_, .inl (cc 0, 3, .inl (fun k => nI (f k))))]
/-- a replica's rows of what is seen -/
def sU (s : Nat → Nat → Nat) (i : Nat) (g : Nat → Nat) : Nat → Nat → Nat → Nat
  | 0 => s
  | j + 1 => va_up (sU s i g j) i (va_up (sU s i g j i) j (g j))
theorem up2_lt {s : Nat → Nat → Nat} {i B : Nat} {f : Nat → Nat} (h : ∀ i j, s i j < B) (hf : ∀ j, f j < B) : ∀ i' j, va_up s i f i' j < B := by
  intro i' j
  unfold va_up
  split
  · exact hf j
  · exact h i' j
theorem sU_lt {s : Nat → Nat → Nat} {i B : Nat} {g : Nat → Nat} (h : ∀ i j, s i j < B) (hg : ∀ j, g j < B) : ∀ j i' k, sU s i g j i' k < B
  | 0 => h
  | j + 1 => up2_lt (sU_lt h hg j) (up_lt (sU_lt h hg j i) (hg j))
theorem set_seen {cc : Nat → ClassId} {a b : Nat → Nat} {x : LgS} {self : Nat} {seen : Nat → Nat → Nat} {wts ers kpt mgo : Nat → Bool} {txt : Nat → Nat} {tl kc wc gs i k v : Nat} (hi : i < 3) :
    (wLR cc a b x (mkR self seen wts ers kpt mgo txt tl kc wc gs)).set (9 + i) (b (2 + i), .inl (cc 0, 3, .inl (fun j => nI (va_up (seen i) k v j)))) = wLR cc a b x (mkR self (va_up seen i (va_up (seen i) k v)) wts ers kpt mgo txt tl kc wc gs) := by
  rcases (show i = 0 ∨ i = 1 ∨ i = 2 by omega) with rfl | rfl | rfl <;> rfl
def apSeen (x : LgS) (y : RpS) (o : Nat) : Nat → Nat → Nat := va_up (sU y.seen (x.iss o) (fun j => x.clk (o * 3 + j)) 3) y.self (va_up (sU y.seen (x.iss o) (fun j => x.clk (o * 3 + j)) 3 y.self) (x.iss o) (plc x o))
/-- apply(o) -/
def applyR (x : LgS) (y : RpS) (o : Nat) : RpS :=
  if x.chr o = 0 then mkR y.self (apSeen x y o) y.wts (va_up y.ers (x.tgt o - 1) true) y.kpt y.mgo y.txt y.tl y.kc y.wc (max y.gs (x.stp o))
  else mkR y.self (apSeen x y o) y.wts y.ers (va_up y.kpt o true) y.mgo y.txt y.tl (y.kc + 1) y.wc (max y.gs (x.stp o))
theorem okR.kc {y : RpS} (h : okR y) : y.kc < 1000 := h.2.2.1
theorem okR.wc {y : RpS} (h : okR y) : y.wc < 1000 := h.2.2.2.1
theorem okR.gs {y : RpS} (h : okR y) : y.gs < 1000 := h.2.2.2.2.1
theorem okR.seen3 {y : RpS} (h : okR y) (i j : Nat) : y.seen i j < 1000 := h.2.2.2.2.2.1 i j
theorem okR_mk {self : Nat} {seen : Nat → Nat → Nat} {wts ers kpt mgo : Nat → Bool} {txt : Nat → Nat} {tl kc wc gs : Nat} (h1 : self < 3) (h2 : tl ≤ 100) (h3 : kc < 1000) (h4 : wc < 1000) (h5 : gs < 1000) (h6 : ∀ i j, seen i j < 1000) (h7 : ∀ k, txt k < 100) : okR (mkR self seen wts ers kpt mgo txt tl kc wc gs) := ⟨h1, h2, h3, h4, h5, h6, h7⟩
/-- rewriteText, over the first i places -/
def rwF (x : LgS) (y : RpS) : Nat → Nat × (Nat → Nat)
  | 0 => (0, y.txt)
  | i + 1 => if hasL x y (x.ord i) = true ∧ y.ers (x.ord i) = false then ((rwF x y i).1 + 1, va_up (rwF x y i).2 (rwF x y i).1 (x.ord i)) else rwF x y i
theorem rwF_t {x : LgS} {y : RpS} {i : Nat} (h1 : hasL x y (x.ord i) = true) (h2 : y.ers (x.ord i) = false) : rwF x y (i + 1) = ((rwF x y i).1 + 1, va_up (rwF x y i).2 (rwF x y i).1 (x.ord i)) := by rw [rwF, if_pos ⟨h1, h2⟩]
theorem rwF_f1 {x : LgS} {y : RpS} {i : Nat} (h1 : hasL x y (x.ord i) = false) : rwF x y (i + 1) = rwF x y i := by rw [rwF, if_neg (fun q => by rw [h1] at q; cases q.1)]
theorem rwF_f2 {x : LgS} {y : RpS} {i : Nat} (h1 : y.ers (x.ord i) = true) : rwF x y (i + 1) = rwF x y i := by rw [rwF, if_neg (fun q => by rw [h1] at q; cases q.2)]
theorem rwF_le (x : LgS) (y : RpS) : ∀ i, (rwF x y i).1 ≤ i
  | 0 => Nat.le_refl 0
  | i + 1 => by
    have := rwF_le x y i
    unfold rwF
    split
    · show (rwF x y i).1 + 1 ≤ i + 1
      omega
    · omega
theorem rwF_lt {x : LgS} {y : RpS} (ok : okL x) (kr : okR y) : ∀ i k, (rwF x y i).2 k < 100
  | 0 => kr.txt100
  | i + 1 => by
    intro k
    have := rwF_lt ok kr i
    unfold rwF
    split
    · exact up_lt100 this (ok.ord100 i) k
    · exact this k
def rwR (x : LgS) (y : RpS) : RpS := mkR y.self y.seen y.wts y.ers y.kpt y.mgo (rwF x y x.el).2 (rwF x y x.el).1 y.kc y.wc y.gs
/-- receive(o) -/
def rcvR (x : LgS) (y : RpS) (o : Nat) : RpS := if hasL x y o = false ∧ y.wts o = false then mkR y.self y.seen (va_up y.wts o true) y.ers y.kpt y.mgo y.txt y.tl y.kc (y.wc + 1) y.gs else y
/-- markWhatMayGo -/
def mkG1 (x : LgS) (y : RpS) : Nat → Nat → Bool
  | 0 => y.mgo
  | o + 1 => if x.chr o = 0 ∧ setL x y o = true then va_up (va_up (mkG1 x y o) o false) (x.tgt o - 1) true else va_up (mkG1 x y o) o false
def mkG2 (x : LgS) (y : RpS) : Nat → Nat → Bool
  | 0 => mkG1 x y x.cnt
  | o + 1 => if hldL x y o = true then va_up (mkG2 x y o) (x.tgt o - 1) false else mkG2 x y o
def mgR (x : LgS) (y : RpS) : RpS := mkR y.self y.seen y.wts y.ers y.kpt (mkG2 x y x.cnt) y.txt y.tl y.kc y.wc y.gs
/-- dropErased, over the first o operations -/
def drF (g k : Nat → Bool) : Nat → (Nat → Bool) × Nat
  | 0 => (k, 0)
  | o + 1 => if g o = true ∧ (drF g k o).1 o = true then (va_up (drF g k o).1 o false, (drF g k o).2 + 1) else drF g k o
def drR (x : LgS) (y : RpS) : RpS := mkR y.self y.seen y.wts y.ers (drF (mkG2 x y x.cnt) y.kpt x.cnt).1 (mkG2 x y x.cnt) y.txt y.tl (y.kc - (drF (mkG2 x y x.cnt) y.kpt x.cnt).2) y.wc y.gs
/-- applyReady, over the first o operations -/
def wtR (y : RpS) (o : Nat) : RpS := mkR y.self y.seen (va_up y.wts o false) y.ers y.kpt y.mgo y.txt y.tl y.kc (y.wc - 1) y.gs
def aprF (x : LgS) (y : RpS) : Nat → RpS × Nat
  | 0 => (y, 0)
  | o + 1 => if (aprF x y o).1.wts o = true ∧ rdyL x (aprF x y o).1 o = true then (applyR x (wtR (aprF x y o).1 o) o, (aprF x y o).2 + 1) else aprF x y o
def aprR (x : LgS) (y : RpS) : RpS := if 0 < (aprF x y x.cnt).2 then rwR x (aprF x y x.cnt).1 else (aprF x y x.cnt).1
theorem nI_dec {i : Nat} (h : 0 < i) : nI i + Int32.ofInt (-1) = nI (i - 1) := by
  obtain ⟨k, rfl⟩ : ∃ k, i = k + 1 := ⟨i - 1, by omega⟩
  have e : Int32.ofInt (-1) = -1 := by decide
  rw [e, pk_m1, Nat.add_sub_cancel]
end
section
def rmL_indexBehind : Room := { frames := 1, cells := 0, slots := 0, locals := 21 }
set_option maxHeartbeats 4000000 in
set_option maxRecDepth 100000 in
theorem kL_indexBehind {l : Launch} (D : va_G) (cc : Nat → ClassId) (a : Nat → Nat) (x : LgS) (t ib : Nat) (ht : t ≤ 100) (hib : ibP x t ib) (ok : okL x) : Met l yL_indexBehind wsL_indexBehind rmL_indexBehind (va_Pc [.ref (a 0), .int (sI (t))] (fun U => va_P D vwCl (wL cc a x) U.heap ∧ EN D cc U)) (QcRead (nI ib)) 0 0 (fun _ => False) := by
  refine rd_met RL [.ref (a 0), .int (sI (t))] _ _ (by decide) rfl rfl (Nat.le_of_ble_eq_true rfl) (vp_nar_int _) ?_
  intro p e s m args below meth c Q S hB kx ls hl
  obtain ⟨hx, hb, hml, hown, hts⟩ := id S
  obtain ⟨hP, hE⟩ := hB
  have hK := hE.1
  have hts := hE.ts args
  have S : CallFix p m c cL_indexBehind 3 s args wAll RL := ⟨hx, hb, hml, hown, hts⟩
  have hn := ok.n
  have he := ok.e
  have hl : lv_has ls 3 [(0, .ref (a 0)), (1, .int (sI (t)))] := hl
  have L7 : ∀ (n : Nat) (k : Nat)  (ls : Array Slot) (h0 : ¬ t = 0) (h1 : ∀ j, j < k → x.ord j + 1 ≠ t) (h2 : x.el - k < n), lv_has ls 3 [(0, .ref (a 0)), (1, .int (sI (t))), (2, .int (nI (k)))] → W p l e rmL_indexBehind s m args below meth c s.heap [] 0 0 Q (F0 m 7 ls []) := by
    intro n
    induction n with
    | zero => intro k ls h0 h1 h2 hl; exact absurd h2 (Nat.not_lt_zero _)
    | succ n ih =>
      intro k ls h0 h1 h2 hl
      obtain ⟨i, hi1, hne, hi3, hi4⟩ := hib.resolve_left (fun q => h0 q.1)
      have h3 : k ≤ i := Nat.le_of_not_lt (fun q => h1 i q hi3)
      refine lv_iload_n hx hb dL_indexBehind_7 rfl (lv_at hl 2 rfl) ?_
      refine lv_aload_n hx hb dL_indexBehind_8 rfl (lv_at hl 0 rfl) ?_
      refine va_get (D := D) (ci := 0) (v := .int (nI (x.el))) (C := RL) (T := TL) (N := 8) hx hb hts in_L hown hK hP 0 rfl rfl 7 (by decide) (hts _ wm_26) (fun _ h9 => h9) rfl dL_indexBehind_9 ?_
      refine r_ge (by omega) (Nat.lt_of_le_of_lt ok.e (by decide)) (tgt := 31) hx hb dL_indexBehind_12 (by decide) (fun c_12 => absurd c_12 (by omega)) (fun c_12 => ?_)
      refine lv_aload_n hx hb dL_indexBehind_15 rfl (lv_at hl 0 rfl) ?_
      refine va_get (D := D) (ci := 0) (v := .ref (a 6)) (C := RL) (T := TL) (N := 8) hx hb hts in_L hown hK hP 0 rfl rfl 5 (by decide) (hts _ wm_24) (fun _ h9 => h9) rfl dL_indexBehind_16 ?_
      refine lv_iload_n hx hb dL_indexBehind_19 rfl (lv_at hl 2 rfl) ?_
      refine r_iald (q0 := 6) (t0 := 0) hx hb hK hP rfl rfl (by omega) (by decide) dL_indexBehind_20 ?_
      refine lv_iload_n hx hb dL_indexBehind_21 rfl (lv_at hl 1 rfl) ?_
      refine r_top2 (y := sI (x.ord k + 1)) (sI_s _).symm ?_
      refine r_eqS (by have := ok.ord100 k; omega) (by omega) (tgt := 31) hx hb dL_indexBehind_22 (by decide) (fun c_22 => ?_) (fun c_22 => ?_)
      · refine lv_iload_n hx hb dL_indexBehind_31 rfl (lv_at hl 2 rfl) ?_
        refine lv_iconst (v := nI (1)) hx hb dL_indexBehind_32 (by decide) ?_
        refine r_add hx hb dL_indexBehind_33 ?_
        refine lv_aload_n hx hb dL_indexBehind_34 rfl (lv_at hl 0 rfl) ?_
        refine va_get (D := D) (ci := 0) (v := .int (nI (x.el))) (C := RL) (T := TL) (N := 8) hx hb hts in_L hown hK hP 0 rfl rfl 7 (by decide) (hts _ wm_26) (fun _ h9 => h9) rfl dL_indexBehind_35 ?_
        refine va_mmin hx hb (hml.trans hl.1.symm) hown (hts _ wm_102) (hts _ wm_103) (hts _ wm_5) (hts _ wm_104) (Nat.le_of_ble_eq_true rfl) (Nat.le_of_ble_eq_true rfl) (Nat.le_of_ble_eq_true rfl) (Nat.le_of_ble_eq_true rfl) dL_indexBehind_38 ?_
        refine r_top (y := nI (k + 1)) (if_neg (nI_nlt (by omega) (by omega))) ?_
        refine lv_istore_n (lv' := [(2, .int (nI (k + 1))), (0, .ref (a 0)), (1, .int (sI (t)))]) hx hb dL_indexBehind_41 rfl hl (by decide) rfl (fun ls hl => ?_)
        refine lv_iload_n hx hb dL_indexBehind_42 rfl (lv_at hl 0 rfl) ?_
        exact kx _ _ _ dL_indexBehind_43 (by first | (rcases hib with ⟨-, q⟩ | ⟨i, -, -, h2, -⟩ <;> first | (rw [q]; done) | (exfalso; omega)) | (rw [hi4, (show k = i from (Nat.lt_or_ge k i).elim (fun z => absurd c_22 (hne k z)) (fun z => Nat.le_antisymm h3 z))]))
      · refine lv_iinc (v := nI (k + 1)) (lv' := [(2, .int (nI (k + 1))), (0, .ref (a 0)), (1, .int (sI (t)))]) hx hb dL_indexBehind_25 hl (k := 2) rfl (nI_1 _) (by decide) rfl (fun ls hl => ?_)
        refine lv_goto (tgt := 7) hx hb dL_indexBehind_28 (by decide) ?_
        exact ih  (k + 1)  ls (by first | exact c_4 | exact h0) (by first | exact (fun j hj => absurd hj (Nat.not_lt_zero j)) | exact lt_s h1 c_22) (by omega) (lv_sub hl [1, 2, 0] rfl)
  refine lv_iconst (v := nI (0)) hx hb dL_indexBehind_0 (by decide) ?_
  refine lv_istore_n (lv' := [(2, .int (nI (0))), (0, .ref (a 0)), (1, .int (sI (t)))]) hx hb dL_indexBehind_1 rfl hl (by decide) rfl (fun ls hl => ?_)
  refine lv_iload_n hx hb dL_indexBehind_2 rfl (lv_at hl 2 rfl) ?_
  refine lv_iconst (v := sI (0)) hx hb dL_indexBehind_3 (by decide) ?_
  refine r_eqS (by omega) (by omega) (tgt := 42) hx hb dL_indexBehind_4 (by decide) (fun c_4 => ?_) (fun c_4 => ?_)
  · refine lv_iload_n hx hb dL_indexBehind_42 rfl (lv_at hl 0 rfl) ?_
    exact kx _ _ _ dL_indexBehind_43 (by first | (rcases hib with ⟨-, q⟩ | ⟨i, -, -, h2, -⟩ <;> first | (rw [q]; done) | (exfalso; omega)) | (rw [hi4, (show k = i from (Nat.lt_or_ge k i).elim (fun z => absurd c_22 (hne k z)) (fun z => Nat.le_antisymm h3 z))]))
  · exact L7 (x.el + 1) (0)  ls (by first | exact c_4 | exact h0) (by first | exact (fun j hj => absurd hj (Nat.not_lt_zero j)) | exact lt_s h1 c_22) (by omega) (lv_sub hl [1, 2, 0] rfl)

def rmL_putInOrder : Room := { frames := 2, cells := 0, slots := 0, locals := 43 }
set_option maxHeartbeats 4000000 in
set_option maxRecDepth 100000 in
theorem kL_putInOrder {l : Launch} (D : va_G) (cc : Nat → ClassId) (a : Nat → Nat) (x : LgS) (sz : Nat) (o ib k : Nat) (ho : o < 100) (hel : x.el < 100) (hpl : plP x o ib k) (ok : okL x) : Met l yL_putInOrder wsL_putInOrder rmL_putInOrder (va_Pc [.ref (a 0), .int (nI (o))] (WP D cc (wL cc a (x)) sz)) (va_Qv (fun _ : Unit => True) (WQ D cc (va_A (wL cc a (x)) sz) (fun _ : Unit => wL cc a (pioL x k o))) (va_A (wL cc a (x)) sz)) 0 0 (va_A (wL cc a (x)) sz) := by
  refine wr_metv RL [.ref (a 0), .int (nI (o))] D cc (wL cc a (x)) sz (fun _ : Unit => wL cc a (pioL x k o)) _ (by decide) rfl rfl (Nat.le_of_ble_eq_true rfl) ?_
  intro p e s m args below meth c Q A S hP hE hD hA kx ls hl
  obtain ⟨hx, hb, hml, hown, hts⟩ := id S
  have hK := hE.1
  have hts := hE.ts args
  have S : CallFix p m c cL_putInOrder 4 s args wAll RL := ⟨hx, hb, hml, hown, hts⟩
  have hS : va_S A s.heap s.heap [] := va_S.rf
  have hn := ok.n
  have he := ok.e
  obtain ⟨hpl1, hpl2, hpl3, hpl4, hpl5⟩ := id hpl
  have hl : lv_has ls 4 [(0, .ref (a 0)), (1, .int (nI (o)))] := hl
  have L44 : ∀ (n : Nat) (i : Nat) (H : Heap) (locs : List Loc) (hP : va_P D vwCl (wL cc a (mkL x.cnt x.el x.iss x.stp x.tgt x.chr x.clk (shU x.ord x.el i))) H) (hD : va_D A (wL cc a (mkL x.cnt x.el x.iss x.stp x.tgt x.chr x.clk (shU x.ord x.el i)))) (hS : va_S A s.heap H locs) (ls : Array Slot) (h1 : k ≤ i) (h2 : i ≤ x.el) (h3 : i < n), lv_has ls 4 [(0, .ref (a 0)), (1, .int (nI (o))), (2, .int (nI (k))), (3, .int (nI (i)))] → W p l e rmL_putInOrder s m args below meth c H locs 0 0 Q (F0 m 44 ls []) := by
    intro n
    induction n with
    | zero => intro i H locs hP hD hS ls h1 h2 h3 hl; exact absurd h3 (Nat.not_lt_zero _)
    | succ n ih2 =>
      intro i H locs hP hD hS ls h1 h2 h3 hl
      have ok4 : okL (mkL x.cnt x.el x.iss x.stp x.tgt x.chr x.clk (shU x.ord x.el i)) := okL_mk ok.n ok.e ok.iss0 ok.stp3 ok.tgt100 ok.chr5 ok.clk3 (shU_lt ok.ord100 i)
      refine lv_iload_n hx hb dL_putInOrder_44 rfl (lv_at hl 3 rfl) ?_
      refine lv_iload_n hx hb dL_putInOrder_45 rfl (lv_at hl 2 rfl) ?_
      refine r_le (by omega) (by omega) (tgt := 69) hx hb dL_putInOrder_46 (by decide) (fun c_46 => ?_) (fun c_46 => ?_)
      · obtain rfl : k = i := by omega
        refine lv_aload_n hx hb dL_putInOrder_69 rfl (lv_at hl 0 rfl) ?_
        refine va_get (D := D) (ci := 0) (v := .ref (a 6)) (C := RL) (T := TL) (N := 8) hx hb hts in_L hown hK hP 0 rfl rfl 5 (by decide) (hts _ wm_24) (fun _ h9 => h9) rfl dL_putInOrder_70 ?_
        refine lv_iload_n hx hb dL_putInOrder_73 rfl (lv_at hl 2 rfl) ?_
        refine lv_iload_n hx hb dL_putInOrder_74 rfl (lv_at hl 1 rfl) ?_
        refine r_iast nI ((shU x.ord x.el k)) (o) (q0 := 6) (t0 := 0) hx hb hK hP hD hS rfl rfl (by omega) (by decide) dL_putInOrder_75 (fun H locs hP hD hS => ?_)
        have hP : va_P D vwCl (wL cc a (mkL x.cnt x.el x.iss x.stp x.tgt x.chr x.clk (va_up (shU x.ord x.el k) k o))) H := hP
        have hD : va_D A (wL cc a (mkL x.cnt x.el x.iss x.stp x.tgt x.chr x.clk (va_up (shU x.ord x.el k) k o))) := hD
        have ok5 : okL (mkL x.cnt x.el x.iss x.stp x.tgt x.chr x.clk (va_up (shU x.ord x.el k) k o)) := okL_mk ok.n ok.e ok.iss0 ok.stp3 ok.tgt100 ok.chr5 ok.clk3 (up_lt (shU_lt ok.ord100 k) ho)
        refine lv_aload_n hx hb dL_putInOrder_76 rfl (lv_at hl 0 rfl) ?_
        refine lv_dup hx hb dL_putInOrder_77 rfl ?_
        refine va_get (D := D) (ci := 0) (v := .int (nI (x.el))) (C := RL) (T := TL) (N := 8) hx hb hts in_L hown hK hP 0 rfl rfl 7 (by decide) (hts _ wm_26) (fun _ h9 => h9) rfl dL_putInOrder_78 ?_
        refine lv_iconst (v := nI (1)) hx hb dL_putInOrder_81 (by decide) ?_
        refine r_add hx hb dL_putInOrder_82 ?_
        refine va_put (D := D) (ci := 0) (v := .int (nI (x.el + 1))) (ty := .int) (C := RL) (T := TL) (N := 8) hx hb hts in_L tyL tyL_ok nmL hown hK hP hD hS 0 rfl rfl 7 (by decide) (hts _ wm_26) (fun _ h9 => h9) rfl (by decide +kernel) rfl rfl (Nat.le_of_ble_eq_true rfl) dL_putInOrder_83 (fun H locs hP hD hS => ?_)
        have hP : va_P D vwCl (wL cc a (mkL x.cnt (x.el + 1) x.iss x.stp x.tgt x.chr x.clk (va_up (shU x.ord x.el k) k o))) H := hP
        have hD : va_D A (wL cc a (mkL x.cnt (x.el + 1) x.iss x.stp x.tgt x.chr x.clk (va_up (shU x.ord x.el k) k o))) := hD
        exact kx _ _ _ _ (()) dL_putInOrder_86 hS hP hD (trivial)
      · refine lv_aload_n hx hb dL_putInOrder_49 rfl (lv_at hl 0 rfl) ?_
        refine va_get (D := D) (ci := 0) (v := .ref (a 6)) (C := RL) (T := TL) (N := 8) hx hb hts in_L hown hK hP 0 rfl rfl 5 (by decide) (hts _ wm_24) (fun _ h9 => h9) rfl dL_putInOrder_50 ?_
        refine lv_iload_n hx hb dL_putInOrder_53 rfl (lv_at hl 3 rfl) ?_
        refine lv_aload_n hx hb dL_putInOrder_54 rfl (lv_at hl 0 rfl) ?_
        refine va_get (D := D) (ci := 0) (v := .ref (a 6)) (C := RL) (T := TL) (N := 8) hx hb hts in_L hown hK hP 0 rfl rfl 5 (by decide) (hts _ wm_24) (fun _ h9 => h9) rfl dL_putInOrder_55 ?_
        refine lv_iload_n hx hb dL_putInOrder_58 rfl (lv_at hl 3 rfl) ?_
        refine lv_iconst (v := nI (1)) hx hb dL_putInOrder_59 (by decide) ?_
        refine r_sub (by omega) hx hb dL_putInOrder_60 ?_
        refine r_iald (q0 := 6) (t0 := 0) hx hb hK hP rfl rfl (by omega) (by decide) dL_putInOrder_61 ?_
        refine r_iast nI ((shU x.ord x.el i)) ((shU x.ord x.el i) (i - 1)) (q0 := 6) (t0 := 0) hx hb hK hP hD hS rfl rfl (by omega) (by decide) dL_putInOrder_62 (fun H locs hP hD hS => ?_)
        have hP : va_P D vwCl (wL cc a (mkL x.cnt x.el x.iss x.stp x.tgt x.chr x.clk (va_up (shU x.ord x.el i) i ((shU x.ord x.el i) (i - 1))))) H := hP
        have hD : va_D A (wL cc a (mkL x.cnt x.el x.iss x.stp x.tgt x.chr x.clk (va_up (shU x.ord x.el i) i ((shU x.ord x.el i) (i - 1))))) := hD
        refine lv_iinc (v := nI (i - 1)) (lv' := [(3, .int (nI (i - 1))), (0, .ref (a 0)), (1, .int (nI (o))), (2, .int (nI (k)))]) hx hb dL_putInOrder_63 hl (k := 3) rfl (by exact nI_dec (by omega)) (by decide) rfl (fun ls hl => ?_)
        refine lv_goto (tgt := 44) hx hb dL_putInOrder_66 (by decide) ?_
        have hP : va_P D vwCl (wL cc a (mkL x.cnt x.el x.iss x.stp x.tgt x.chr x.clk (shU x.ord x.el (i - 1)))) H := by rw [← shU_step (by omega) (by omega)]; exact hP
        have hD : va_D A (wL cc a (mkL x.cnt x.el x.iss x.stp x.tgt x.chr x.clk (shU x.ord x.el (i - 1)))) := by rw [← shU_step (by omega) (by omega)]; exact hD
        exact ih2  (i - 1) H locs hP hD hS ls (by omega) (by omega) (by omega) (lv_sub hl [1, 2, 3, 0] rfl)
  have L11 : ∀ (n : Nat) (j : Nat) (H : Heap) (locs : List Loc) (hP : va_P D vwCl (wL cc a (x)) H) (hD : va_D A (wL cc a (x))) (hS : va_S A s.heap H locs) (ls : Array Slot) (h0 : ib ≤ j) (h1 : j ≤ k) (h2 : x.el - j < n), lv_has ls 4 [(0, .ref (a 0)), (1, .int (nI (o))), (2, .int (nI (j)))] → W p l e rmL_putInOrder s m args below meth c H locs 0 0 Q (F0 m 11 ls []) := by
    intro n
    induction n with
    | zero => intro j H locs hP hD hS ls h0 h1 h2 hl; exact absurd h2 (Nat.not_lt_zero _)
    | succ n ih =>
      intro j H locs hP hD hS ls h0 h1 h2 hl
      refine lv_iload_n hx hb dL_putInOrder_11 rfl (lv_at hl 2 rfl) ?_
      refine lv_aload_n hx hb dL_putInOrder_12 rfl (lv_at hl 0 rfl) ?_
      refine va_get (D := D) (ci := 0) (v := .int (nI (x.el))) (C := RL) (T := TL) (N := 8) hx hb hts in_L hown hK hP 0 rfl rfl 7 (by decide) (hts _ wm_26) (fun _ h9 => h9) rfl dL_putInOrder_13 ?_
      refine r_ge (by omega) (Nat.lt_of_le_of_lt ok.e (by decide)) (tgt := 39) hx hb dL_putInOrder_16 (by decide) (fun c_16 => ?_) (fun c_16 => ?_)
      · obtain rfl : k = j := Eq.symm (by first | exact Nat.le_antisymm h1 (Nat.le_of_not_lt fun q => Nat.not_lt.mpr c_16 (Nat.lt_of_lt_of_le q hpl3)) | exact Nat.le_antisymm h1 (Nat.le_of_not_lt fun q => by rw [hpl4 j h0 q] at c_30; cases c_30))
        refine lv_aload_n hx hb dL_putInOrder_39 rfl (lv_at hl 0 rfl) ?_
        refine va_get (D := D) (ci := 0) (v := .int (nI (x.el))) (C := RL) (T := TL) (N := 8) hx hb hts in_L hown hK hP 0 rfl rfl 7 (by decide) (hts _ wm_26) (fun _ h9 => h9) rfl dL_putInOrder_40 ?_
        refine lv_istore_n (lv' := [(3, .int (nI (x.el))), (0, .ref (a 0)), (1, .int (nI (o))), (2, .int (nI (k)))]) hx hb dL_putInOrder_43 rfl hl (by decide) rfl (fun ls hl => ?_)
        have hP : va_P D vwCl (wL cc a (mkL x.cnt x.el x.iss x.stp x.tgt x.chr x.clk (shU x.ord x.el x.el))) H := by rw [shU_el]; exact hP
        have hD : va_D A (wL cc a (mkL x.cnt x.el x.iss x.stp x.tgt x.chr x.clk (shU x.ord x.el x.el))) := by rw [shU_el]; exact hD
        exact L44 (x.el + 1) (x.el) H locs hP hD hS ls (by omega) (by omega) (by omega) (lv_sub hl [1, 2, 3, 0] rfl)
      · refine lv_aload_n hx hb dL_putInOrder_19 rfl (lv_at hl 0 rfl) ?_
        refine lv_aload_n hx hb dL_putInOrder_20 rfl (lv_at hl 0 rfl) ?_
        refine va_get (D := D) (ci := 0) (v := .ref (a 6)) (C := RL) (T := TL) (N := 8) hx hb hts in_L hown hK hP 0 rfl rfl 5 (by decide) (hts _ wm_24) (fun _ h9 => h9) rfl dL_putInOrder_21 ?_
        refine lv_iload_n hx hb dL_putInOrder_24 rfl (lv_at hl 2 rfl) ?_
        refine r_iald (q0 := 6) (t0 := 0) hx hb hK hP rfl rfl (by omega) (by decide) dL_putInOrder_25 ?_
        refine lv_iload_n hx hb dL_putInOrder_26 rfl (lv_at hl 1 rfl) ?_
        refine W.callR (W.runV (As := [.int (nI (x.ord j)), .int (nI (o))]) (rest := []) S (kL_goesFirst D cc a x (x.ord j) (o) (ok.ord100 _) (by omega) ok) (cwV 2 hts (gd_V wm_105 wm_106 wm_373 wm_2 wm_107) rfl rfl rfl (by decide +kernel) ⟨Nat.le_of_ble_eq_true rfl, Nat.le_of_ble_eq_true rfl⟩) (rd_preV (q0 := 0) hP hE rfl rfl) rfl rfl hl.1 rfl (lv_room (Nat.le_of_ble_eq_true rfl)) dL_putInOrder_27 ⟨Nat.le_of_ble_eq_true rfl, Nat.le_of_ble_eq_true rfl⟩) ?_
        refine W.eq (g2 := F0 m 30 ls [.int (bI (gofL x (x.ord j) (o)))]) rfl ?_
        refine r_eqB (tgt := 39) hx hb dL_putInOrder_30 (by decide) (fun c_30 => ?_) (fun c_30 => ?_)
        · obtain rfl : k = j := Eq.symm (by first | exact Nat.le_antisymm h1 (Nat.le_of_not_lt fun q => Nat.not_lt.mpr c_16 (Nat.lt_of_lt_of_le q hpl3)) | exact Nat.le_antisymm h1 (Nat.le_of_not_lt fun q => by rw [hpl4 j h0 q] at c_30; cases c_30))
          refine lv_aload_n hx hb dL_putInOrder_39 rfl (lv_at hl 0 rfl) ?_
          refine va_get (D := D) (ci := 0) (v := .int (nI (x.el))) (C := RL) (T := TL) (N := 8) hx hb hts in_L hown hK hP 0 rfl rfl 7 (by decide) (hts _ wm_26) (fun _ h9 => h9) rfl dL_putInOrder_40 ?_
          refine lv_istore_n (lv' := [(3, .int (nI (x.el))), (0, .ref (a 0)), (1, .int (nI (o))), (2, .int (nI (k)))]) hx hb dL_putInOrder_43 rfl hl (by decide) rfl (fun ls hl => ?_)
          have hP : va_P D vwCl (wL cc a (mkL x.cnt x.el x.iss x.stp x.tgt x.chr x.clk (shU x.ord x.el x.el))) H := by rw [shU_el]; exact hP
          have hD : va_D A (wL cc a (mkL x.cnt x.el x.iss x.stp x.tgt x.chr x.clk (shU x.ord x.el x.el))) := by rw [shU_el]; exact hD
          exact L44 (x.el + 1) (x.el) H locs hP hD hS ls (by omega) (by omega) (by omega) (lv_sub hl [1, 2, 3, 0] rfl)
        · refine lv_iinc (v := nI (j + 1)) (lv' := [(2, .int (nI (j + 1))), (0, .ref (a 0)), (1, .int (nI (o)))]) hx hb dL_putInOrder_33 hl (k := 2) rfl (nI_1 _) (by decide) rfl (fun ls hl => ?_)
          refine lv_goto (tgt := 11) hx hb dL_putInOrder_36 (by decide) ?_
          exact ih  (j + 1) H locs hP hD hS ls (by omega) (by first | exact hpl2 | exact Nat.lt_of_le_of_ne h1 (fun q => by rw [q] at c_30 c_16; rw [hpl5 c_16] at c_30; cases c_30)) (by omega) (lv_sub hl [1, 2, 0] rfl)
  refine lv_aload_n hx hb dL_putInOrder_0 rfl (lv_at hl 0 rfl) ?_
  refine lv_aload_n hx hb dL_putInOrder_1 rfl (lv_at hl 0 rfl) ?_
  refine va_get (D := D) (ci := 0) (v := .ref (a 3)) (C := RL) (T := TL) (N := 8) hx hb hts in_L hown hK hP 0 rfl rfl 2 (by decide) (hts _ wm_21) (fun _ h9 => h9) rfl dL_putInOrder_2 ?_
  refine lv_iload_n hx hb dL_putInOrder_5 rfl (lv_at hl 1 rfl) ?_
  refine r_iald (q0 := 3) (t0 := 0) hx hb hK hP rfl rfl (by omega) (by decide) dL_putInOrder_6 ?_
  refine W.callR (W.runV (As := [.int (sI (x.tgt o))]) (rest := []) S (kL_indexBehind D cc a x (x.tgt o) (ib) (ok.tgt100 _) (hpl.1) ok) (cwV 1 hts (gd_V wm_99 wm_100 wm_372 wm_2 wm_101) rfl rfl rfl (by decide +kernel) ⟨Nat.le_of_ble_eq_true rfl, Nat.le_of_ble_eq_true rfl⟩) (rd_preV (q0 := 0) hP hE rfl rfl) rfl rfl hl.1 rfl (lv_room (Nat.le_of_ble_eq_true rfl)) dL_putInOrder_7 ⟨Nat.le_of_ble_eq_true rfl, Nat.le_of_ble_eq_true rfl⟩) ?_
  refine W.eq (g2 := F0 m 10 ls [.int (nI (ib))]) rfl ?_
  refine lv_istore_n (lv' := [(2, .int (nI (ib))), (0, .ref (a 0)), (1, .int (nI (o)))]) hx hb dL_putInOrder_10 rfl hl (by decide) rfl (fun ls hl => ?_)
  exact L11 (x.el + 1) (ib) s.heap [] hP hD hS ls (by omega) (by first | exact hpl2 | exact Nat.lt_of_le_of_ne h1 (fun q => by rw [q] at c_30 c_16; rw [hpl5 c_16] at c_30; cases c_30)) (by omega) (lv_sub hl [1, 2, 0] rfl)
end
section
theorem mkG1_t {x : LgS} {y : RpS} {o : Nat} (h1 : decide (x.chr o = 0) = true) (h2 : setL x y o = true) : mkG1 x y (o + 1) = va_up (va_up (mkG1 x y o) o false) (x.tgt o - 1) true := by rw [mkG1, if_pos ⟨of_decide_eq_true h1, h2⟩]
theorem mkG1_f1 {x : LgS} {y : RpS} {o : Nat} (h1 : decide (x.chr o = 0) = false) : mkG1 x y (o + 1) = va_up (mkG1 x y o) o false := by rw [mkG1, if_neg (fun q => of_decide_eq_false h1 q.1)]
theorem mkG1_f2 {x : LgS} {y : RpS} {o : Nat} (h1 : setL x y o = false) : mkG1 x y (o + 1) = va_up (mkG1 x y o) o false := by rw [mkG1, if_neg (fun q => by rw [h1] at q; cases q.2)]
theorem mkG2_t {x : LgS} {y : RpS} {o : Nat} (h1 : hldL x y o = true) : mkG2 x y (o + 1) = va_up (mkG2 x y o) (x.tgt o - 1) false := by rw [mkG2, if_pos h1]
theorem mkG2_f {x : LgS} {y : RpS} {o : Nat} (h1 : hldL x y o = false) : mkG2 x y (o + 1) = mkG2 x y o := by rw [mkG2, if_neg (by rw [h1]; decide)]
theorem hld_tgt {x : LgS} {y : RpS} {o : Nat} (h : hldL x y o = true) : 0 < x.tgt o := by
  unfold hldL at h
  simp only [Bool.and_eq_true, Bool.not_eq_true', decide_eq_false_iff_not] at h
  omega
theorem drF_t {g k : Nat → Bool} {o : Nat} (h1 : g o = true) (h2 : (drF g k o).1 o = true) : drF g k (o + 1) = (va_up (drF g k o).1 o false, (drF g k o).2 + 1) := by rw [drF, if_pos ⟨h1, h2⟩]
theorem drF_f1 {g k : Nat → Bool} {o : Nat} (h1 : g o = false) : drF g k (o + 1) = drF g k o := by rw [drF, if_neg (fun q => by rw [h1] at q; cases q.1)]
theorem drF_f2 {g k : Nat → Bool} {o : Nat} (h1 : (drF g k o).1 o = false) : drF g k (o + 1) = drF g k o := by rw [drF, if_neg (fun q => by rw [h1] at q; cases q.2)]
theorem drF_le (g k : Nat → Bool) : ∀ o, (drF g k o).2 ≤ o
  | 0 => Nat.le_refl 0
  | o + 1 => by
    have := drF_le g k o
    unfold drF
    split
    · show (drF g k o).2 + 1 ≤ o + 1
      omega
    · omega
theorem aprF_t {x : LgS} {y : RpS} {o : Nat} (h1 : (aprF x y o).1.wts o = true) (h2 : rdyL x (aprF x y o).1 o = true) : aprF x y (o + 1) = (applyR x (wtR (aprF x y o).1 o) o, (aprF x y o).2 + 1) := by rw [aprF, if_pos ⟨h1, h2⟩]
theorem aprF_f1 {x : LgS} {y : RpS} {o : Nat} (h1 : (aprF x y o).1.wts o = false) : aprF x y (o + 1) = aprF x y o := by rw [aprF, if_neg (fun q => by rw [h1] at q; cases q.1)]
theorem aprF_f2 {x : LgS} {y : RpS} {o : Nat} (h1 : rdyL x (aprF x y o).1 o = false) : aprF x y (o + 1) = aprF x y o := by rw [aprF, if_neg (fun q => by rw [h1] at q; cases q.2)]
theorem aprF_le (x : LgS) (y : RpS) : ∀ o, (aprF x y o).2 ≤ o
  | 0 => Nat.le_refl 0
  | o + 1 => by
    have := aprF_le x y o
    unfold aprF
    split
    · show (aprF x y o).2 + 1 ≤ o + 1
      omega
    · omega
/-- what applyReady needs on its way -/
def apOK (x : LgS) (y : RpS) (o : Nat) : Prop := okR (aprF x y o).1 ∧ (aprF x y o).1.kc < 900 ∧ ((aprF x y o).1.wts o = true → 1 ≤ (aprF x y o).1.wc)
theorem okR_wt {y : RpS} {o : Nat} (kr : okR y) : okR (wtR y o) := okR_mk kr.self kr.tl kr.kc (Nat.lt_of_le_of_lt (Nat.sub_le _ _) kr.wc) kr.gs kr.seen3 kr.txt100
/-- a replica's cells but row i of what is seen -/
def wRx (cc : Nat → ClassId) (lg : Nat) (b : Nat → Nat) (y : RpS) (i : Nat) : va_W :=
  [(b 0, .inr (1, [.int (nI y.self), .ref lg, .ref (b 1), .ref (b 5), .ref (b 6), .ref (b 7), .ref (b 8), .ref (b 9), .int (nI y.tl), .int (nI y.kc), .int (nI y.wc), .int (nI y.gs)])),
   (b 1, .inl (cc 3, 3, .inr (.inr (.inr (.inr (fun j => some (b (2 + j)))))))),
   (if i = 0 then (b 3, .inl (cc 0, 3, .inl (fun k => nI (y.seen 1 k)))) else (b 2, .inl (cc 0, 3, .inl (fun k => nI (y.seen 0 k))))), (if i = 2 then (b 3, .inl (cc 0, 3, .inl (fun k => nI (y.seen 1 k)))) else (b 4, .inl (cc 0, 3, .inl (fun k => nI (y.seen 2 k))))),
   (b 5, .inl (cc 1, 100, .inl (fun k => bI (y.wts k)))), (b 6, .inl (cc 1, 100, .inl (fun k => bI (y.ers k)))), (b 7, .inl (cc 1, 100, .inl (fun k => bI (y.kpt k)))), (b 8, .inl (cc 1, 100, .inl (fun k => bI (y.mgo k)))),
   (b 9, .inl (cc 0, 100, .inl (fun k => nI (y.txt k))))]
section LRS
variable {D : va_G} {cl : List vw_C} {A : Nat → Prop} {cc : Nat → ClassId} {a b : Nat → Nat} {x : LgS} {y : RpS} {H : Heap} {i : Nat}
theorem lr_P (hi : i < 3) (h : va_P D cl (wLR cc a b x y) H) : va_P D cl (wLw cc a x (b (2 + i)) (y.seen i) ++ wRx cc (a 0) b y i) H := by
  rcases (show i = 0 ∨ i = 1 ∨ i = 2 by omega) with rfl | rfl | rfl
  · exact h.sub [0, 1, 2, 3, 4, 5, 6, 9, 7, 8, 10, 11, 12, 13, 14, 15, 16] rfl
  · exact h.sub [0, 1, 2, 3, 4, 5, 6, 10, 7, 8, 9, 11, 12, 13, 14, 15, 16] rfl
  · exact h.sub [0, 1, 2, 3, 4, 5, 6, 11, 7, 8, 9, 10, 12, 13, 14, 15, 16] rfl
theorem lr_D (hi : i < 3) (h : va_D A (wLR cc a b x y)) : va_D A (wLw cc a x (b (2 + i)) (y.seen i) ++ wRx cc (a 0) b y i) := by
  rcases (show i = 0 ∨ i = 1 ∨ i = 2 by omega) with rfl | rfl | rfl
  · exact h.sub [0, 1, 2, 3, 4, 5, 6, 9, 7, 8, 10, 11, 12, 13, 14, 15, 16] (by decide) rfl
  · exact h.sub [0, 1, 2, 3, 4, 5, 6, 10, 7, 8, 9, 11, 12, 13, 14, 15, 16] (by decide) rfl
  · exact h.sub [0, 1, 2, 3, 4, 5, 6, 11, 7, 8, 9, 10, 12, 13, 14, 15, 16] (by decide) rfl
theorem lr_P' (hi : i < 3) (h : va_P D cl (wLw cc a x (b (2 + i)) (y.seen i) ++ wRx cc (a 0) b y i) H) : va_P D cl (wLR cc a b x y) H := by
  rcases (show i = 0 ∨ i = 1 ∨ i = 2 by omega) with rfl | rfl | rfl
  · exact h.sub [0, 1, 2, 3, 4, 5, 6, 8, 9, 7, 10, 11, 12, 13, 14, 15, 16] rfl
  · exact h.sub [0, 1, 2, 3, 4, 5, 6, 8, 9, 10, 7, 11, 12, 13, 14, 15, 16] rfl
  · exact h.sub [0, 1, 2, 3, 4, 5, 6, 8, 9, 10, 11, 7, 12, 13, 14, 15, 16] rfl
theorem lr_D' (hi : i < 3) (h : va_D A (wLw cc a x (b (2 + i)) (y.seen i) ++ wRx cc (a 0) b y i)) : va_D A (wLR cc a b x y) := by
  rcases (show i = 0 ∨ i = 1 ∨ i = 2 by omega) with rfl | rfl | rfl
  · exact h.sub [0, 1, 2, 3, 4, 5, 6, 8, 9, 7, 10, 11, 12, 13, 14, 15, 16] (by decide) rfl
  · exact h.sub [0, 1, 2, 3, 4, 5, 6, 8, 9, 10, 7, 11, 12, 13, 14, 15, 16] (by decide) rfl
  · exact h.sub [0, 1, 2, 3, 4, 5, 6, 8, 9, 10, 11, 7, 12, 13, 14, 15, 16] (by decide) rfl
end LRS
end
section
def rmL_record : Room := { frames := 3, cells := 0, slots := 0, locals := 66 }
set_option maxHeartbeats 4000000 in
set_option maxRecDepth 100000 in
theorem kL_record {l : Launch} (D : va_G) (cc : Nat → ClassId) (a : Nat → Nat) (x : LgS) (rw_ : Nat) (f : Nat → Nat) (hf : ∀ k, f k < 900) (sz : Nat) (i sv t ch ib k : Nat) (hi : i < 3) (hsv : sv < 1000) (ht : t ≤ 100) (hch : ch < 65536) (hc : x.cnt < 100) (hel : x.el < 100) (hpl : ¬ ch = 0 → plP (rec5 x i sv t ch f) x.cnt ib k) (ok : okL x) : Met l yL_record wsL_record rmL_record (va_Pc [.ref (a 0), .int (nI (i)), .int (nI (sv)), .ref (rw_), .int (sI (t)), .int (nI (ch))] (WP D cc (wLw cc a (x) rw_ f) sz)) (va_Qi (fun v (_ : Unit) => v = nI x.cnt) (WQ D cc (va_A (wLw cc a (x) rw_ f) sz) (fun _ : Unit => wLw cc a (recL x i sv t ch f k) rw_ f)) (va_A (wLw cc a (x) rw_ f) sz)) 0 0 (va_A (wLw cc a (x) rw_ f) sz) := by
  refine wr_meti RL [.ref (a 0), .int (nI (i)), .int (nI (sv)), .ref (rw_), .int (sI (t)), .int (nI (ch))] D cc (wLw cc a (x) rw_ f) sz (fun _ : Unit => wLw cc a (recL x i sv t ch f k) rw_ f) _ (by decide) rfl rfl (Nat.le_of_ble_eq_true rfl) (fun v _ _ => vp_nar_int v) ?_
  intro p e s m args below meth c Q A S hP hE hD hA kx ls hl
  obtain ⟨hx, hb, hml, hown, hts⟩ := id S
  have hK := hE.1
  have hts := hE.ts args
  have S : CallFix p m c cL_record 8 s args wAll RL := ⟨hx, hb, hml, hown, hts⟩
  have hS : va_S A s.heap s.heap [] := va_S.rf
  have hn := ok.n
  have he := ok.e
  have hl : lv_has ls 8 [(0, .ref (a 0)), (1, .int (nI (i))), (2, .int (nI (sv))), (3, .ref (rw_)), (4, .int (sI (t))), (5, .int (nI (ch)))] := hl
  have L53 : ∀ (n : Nat) (j : Nat) (H : Heap) (locs : List Loc) (hP : va_P D vwCl (wLw cc a (mkL (x.cnt + 1) x.el (va_up x.iss x.cnt i) (va_up x.stp x.cnt sv) (va_up x.tgt x.cnt t) (va_up x.chr x.cnt ch) (clkV x.clk x.cnt (fun j => f j + if j = i then 1 else 0) j) x.ord) rw_ f) H) (hD : va_D A (wLw cc a (mkL (x.cnt + 1) x.el (va_up x.iss x.cnt i) (va_up x.stp x.cnt sv) (va_up x.tgt x.cnt t) (va_up x.chr x.cnt ch) (clkV x.clk x.cnt (fun j => f j + if j = i then 1 else 0) j) x.ord) rw_ f)) (hS : va_S A s.heap H locs) (ls : Array Slot) (h1 : j ≤ 3) (h2 : 3 - j < n), lv_has ls 8 [(0, .ref (a 0)), (1, .int (nI (i))), (2, .int (nI (sv))), (3, .ref (rw_)), (4, .int (sI (t))), (5, .int (nI (ch))), (6, .int (nI (x.cnt))), (7, .int (nI (j)))] → W p l e rmL_record s m args below meth c H locs 0 0 Q (F0 m 53 ls []) := by
    intro n
    induction n with
    | zero => intro j H locs hP hD hS ls h1 h2 hl; exact absurd h2 (Nat.not_lt_zero _)
    | succ n ih =>
      intro j H locs hP hD hS ls h1 h2 hl
      have ok6 : okL (mkL (x.cnt + 1) x.el (va_up x.iss x.cnt i) (va_up x.stp x.cnt sv) (va_up x.tgt x.cnt t) (va_up x.chr x.cnt ch) (clkV x.clk x.cnt (fun j => f j + if j = i then 1 else 0) j) x.ord) := okL_mk (by omega) ok.e (up_lt ok.iss0 hi) (up_lt ok.stp3 hsv) (up_le ok.tgt100 ht) (up_lt ok.chr5 hch) (clkV_lt ok.clk3 (fun j => by have := hf j; split <;> omega) j) ok.ord100
      refine lv_iload hx hb dL_record_53 (lv_at hl 7 rfl) ?_
      refine lv_iconst (v := nI (3)) hx hb dL_record_55 (by decide) ?_
      refine r_ge (by omega) (by decide) (tgt := 93) hx hb dL_record_56 (by decide) (fun c_56 => ?_) (fun c_56 => ?_)
      · obtain rfl : j = 3 := by omega
        have hP : va_P D vwCl (wLw cc a (rec5 x i sv t ch f) rw_ f) H := hP
        have hD : va_D A (wLw cc a (rec5 x i sv t ch f) rw_ f) := hD
        have ok7 : okL (rec5 x i sv t ch f) := okL_mk (by omega) ok.e (up_lt ok.iss0 hi) (up_lt ok.stp3 hsv) (up_le ok.tgt100 ht) (up_lt ok.chr5 hch) (clkV_lt ok.clk3 (fun j => by have := hf j; split <;> omega) 3) ok.ord100
        refine lv_iload hx hb dL_record_93 (lv_at hl 5 rfl) ?_
        refine r_eqN (by omega) (tgt := 104) hx hb dL_record_95 (by decide) (fun c_95 => ?_) (fun c_95 => ?_)
        · refine lv_iload hx hb dL_record_104 (lv_at hl 6 rfl) ?_
          exact kx _ _ _ _ _ (()) dL_record_106 hS (by unfold recL; first | (rw [if_pos c_95]; exact hP) | (rw [if_neg c_95]; exact hP)) (by unfold recL; first | (rw [if_pos c_95]; exact hD) | (rw [if_neg c_95]; exact hD)) (rfl)
        · refine lv_aload_n hx hb dL_record_98 rfl (lv_at hl 0 rfl) ?_
          refine lv_iload hx hb dL_record_99 (lv_at hl 6 rfl) ?_
          refine wr_callv (w2 := [(rw_, .inl (cc 0, 3, .inl (fun k => nI (f k))))]) (va_runV (As := [.int (nI (x.cnt))]) (rest := []) S (kL_putInOrder D cc a (rec5 x i sv t ch f) (H.size) x.cnt ib k (by omega) hel (hpl c_95) ok7) (cwV 1 hts (gd_V wm_96 wm_97 wm_371 wm_2 wm_98) rfl rfl rfl (by decide +kernel) ⟨Nat.le_of_ble_eq_true rfl, Nat.le_of_ble_eq_true rfl⟩) (wr_preV (q0 := 0) (P_left hP) hE (D_left hD) rfl rfl) rfl rfl hl.1 rfl (lv_room (Nat.le_of_ble_eq_true rfl)) dL_record_101 ⟨Nat.le_of_ble_eq_true rfl, Nat.le_of_ble_eq_true rfl⟩) hP hD hS hA (fun u H locs hpo hP hD hS => ?_)
          have hP : va_P D vwCl (wLw cc a (pioL (rec5 x i sv t ch f) k x.cnt) rw_ f) H := hP
          have hD : va_D A (wLw cc a (pioL (rec5 x i sv t ch f) k x.cnt) rw_ f) := hD
          refine lv_iload hx hb dL_record_104 (lv_at hl 6 rfl) ?_
          exact kx _ _ _ _ _ (()) dL_record_106 hS (by unfold recL; first | (rw [if_pos c_95]; exact hP) | (rw [if_neg c_95]; exact hP)) (by unfold recL; first | (rw [if_pos c_95]; exact hD) | (rw [if_neg c_95]; exact hD)) (rfl)
      · refine lv_aload_n hx hb dL_record_59 rfl (lv_at hl 0 rfl) ?_
        refine va_get (D := D) (ci := 0) (v := .ref (a 5)) (C := RL) (T := TL) (N := 8) hx hb hts in_L hown hK hP 0 rfl rfl 4 (by decide) (hts _ wm_23) (fun _ h9 => h9) rfl dL_record_60 ?_
        refine lv_iload hx hb dL_record_63 (lv_at hl 6 rfl) ?_
        refine lv_iconst (v := nI (3)) hx hb dL_record_65 (by decide) ?_
        refine r_mul hx hb dL_record_66 ?_
        refine lv_iload hx hb dL_record_67 (lv_at hl 7 rfl) ?_
        refine r_add hx hb dL_record_69 ?_
        refine lv_aload_n hx hb dL_record_70 rfl (lv_at hl 3 rfl) ?_
        refine lv_iload hx hb dL_record_71 (lv_at hl 7 rfl) ?_
        refine r_iald (q0 := 7) (t0 := 0) hx hb hK hP rfl rfl (by omega) (by decide) dL_record_73 ?_
        refine lv_iload hx hb dL_record_74 (lv_at hl 7 rfl) ?_
        refine lv_iload_n hx hb dL_record_76 rfl (lv_at hl 1 rfl) ?_
        refine r_ne (by omega) (by omega) (tgt := 84) hx hb dL_record_77 (by decide) (fun c_77 => ?_) (fun c_77 => ?_)
        · refine lv_iconst (v := nI (0)) hx hb dL_record_84 (by decide) ?_
          refine r_add hx hb dL_record_85 ?_
          refine r_iast nI ((clkV x.clk x.cnt (fun j => f j + if j = i then 1 else 0) j)) ((f j) + 0) (q0 := 5) (t0 := 0) hx hb hK hP hD hS rfl rfl (by omega) (by decide) dL_record_86 (fun H locs hP hD hS => ?_)
          have hP : va_P D vwCl (wLw cc a (mkL (x.cnt + 1) x.el (va_up x.iss x.cnt i) (va_up x.stp x.cnt sv) (va_up x.tgt x.cnt t) (va_up x.chr x.cnt ch) (va_up (clkV x.clk x.cnt (fun j => f j + if j = i then 1 else 0) j) (x.cnt * 3 + j) ((f j) + 0)) x.ord) rw_ f) H := hP
          have hD : va_D A (wLw cc a (mkL (x.cnt + 1) x.el (va_up x.iss x.cnt i) (va_up x.stp x.cnt sv) (va_up x.tgt x.cnt t) (va_up x.chr x.cnt ch) (va_up (clkV x.clk x.cnt (fun j => f j + if j = i then 1 else 0) j) (x.cnt * 3 + j) ((f j) + 0)) x.ord) rw_ f) := hD
          refine lv_iinc (v := nI (j + 1)) (lv' := [(7, .int (nI (j + 1))), (0, .ref (a 0)), (1, .int (nI (i))), (2, .int (nI (sv))), (3, .ref (rw_)), (4, .int (sI (t))), (5, .int (nI (ch))), (6, .int (nI (x.cnt)))]) hx hb dL_record_87 hl (k := 7) rfl (nI_1 _) (by decide) rfl (fun ls hl => ?_)
          refine lv_goto (tgt := 53) hx hb dL_record_90 (by decide) ?_
          have hP : va_P D vwCl (wLw cc a (mkL (x.cnt + 1) x.el (va_up x.iss x.cnt i) (va_up x.stp x.cnt sv) (va_up x.tgt x.cnt t) (va_up x.chr x.cnt ch) (clkV x.clk x.cnt (fun j => f j + if j = i then 1 else 0) (j + 1)) x.ord) rw_ f) H := by first | (rw [← clkV_e (g := (fun j => f j + if j = i then 1 else 0)) (j := j) (show f j + (if j = i then 1 else 0) = f j + 1 by rw [if_pos c_77])]; exact hP) | (rw [← clkV_e (g := (fun j => f j + if j = i then 1 else 0)) (j := j) (show f j + (if j = i then 1 else 0) = f j + 0 by rw [if_neg c_77])]; exact hP)
          have hD : va_D A (wLw cc a (mkL (x.cnt + 1) x.el (va_up x.iss x.cnt i) (va_up x.stp x.cnt sv) (va_up x.tgt x.cnt t) (va_up x.chr x.cnt ch) (clkV x.clk x.cnt (fun j => f j + if j = i then 1 else 0) (j + 1)) x.ord) rw_ f) := by first | (rw [← clkV_e (g := (fun j => f j + if j = i then 1 else 0)) (j := j) (show f j + (if j = i then 1 else 0) = f j + 1 by rw [if_pos c_77])]; exact hD) | (rw [← clkV_e (g := (fun j => f j + if j = i then 1 else 0)) (j := j) (show f j + (if j = i then 1 else 0) = f j + 0 by rw [if_neg c_77])]; exact hD)
          exact ih  (j + 1) H locs hP hD hS ls (by omega) (by omega) (lv_sub hl [1, 2, 3, 4, 5, 6, 7, 0] rfl)
        · refine lv_iconst (v := nI (1)) hx hb dL_record_80 (by decide) ?_
          refine lv_goto (tgt := 85) hx hb dL_record_81 (by decide) ?_
          refine r_add hx hb dL_record_85 ?_
          refine r_iast nI ((clkV x.clk x.cnt (fun j => f j + if j = i then 1 else 0) j)) ((f j) + 1) (q0 := 5) (t0 := 0) hx hb hK hP hD hS rfl rfl (by omega) (by decide) dL_record_86 (fun H locs hP hD hS => ?_)
          have hP : va_P D vwCl (wLw cc a (mkL (x.cnt + 1) x.el (va_up x.iss x.cnt i) (va_up x.stp x.cnt sv) (va_up x.tgt x.cnt t) (va_up x.chr x.cnt ch) (va_up (clkV x.clk x.cnt (fun j => f j + if j = i then 1 else 0) j) (x.cnt * 3 + j) ((f j) + 1)) x.ord) rw_ f) H := hP
          have hD : va_D A (wLw cc a (mkL (x.cnt + 1) x.el (va_up x.iss x.cnt i) (va_up x.stp x.cnt sv) (va_up x.tgt x.cnt t) (va_up x.chr x.cnt ch) (va_up (clkV x.clk x.cnt (fun j => f j + if j = i then 1 else 0) j) (x.cnt * 3 + j) ((f j) + 1)) x.ord) rw_ f) := hD
          refine lv_iinc (v := nI (j + 1)) (lv' := [(7, .int (nI (j + 1))), (0, .ref (a 0)), (1, .int (nI (i))), (2, .int (nI (sv))), (3, .ref (rw_)), (4, .int (sI (t))), (5, .int (nI (ch))), (6, .int (nI (x.cnt)))]) hx hb dL_record_87 hl (k := 7) rfl (nI_1 _) (by decide) rfl (fun ls hl => ?_)
          refine lv_goto (tgt := 53) hx hb dL_record_90 (by decide) ?_
          have hP : va_P D vwCl (wLw cc a (mkL (x.cnt + 1) x.el (va_up x.iss x.cnt i) (va_up x.stp x.cnt sv) (va_up x.tgt x.cnt t) (va_up x.chr x.cnt ch) (clkV x.clk x.cnt (fun j => f j + if j = i then 1 else 0) (j + 1)) x.ord) rw_ f) H := by first | (rw [← clkV_e (g := (fun j => f j + if j = i then 1 else 0)) (j := j) (show f j + (if j = i then 1 else 0) = f j + 1 by rw [if_pos c_77])]; exact hP) | (rw [← clkV_e (g := (fun j => f j + if j = i then 1 else 0)) (j := j) (show f j + (if j = i then 1 else 0) = f j + 0 by rw [if_neg c_77])]; exact hP)
          have hD : va_D A (wLw cc a (mkL (x.cnt + 1) x.el (va_up x.iss x.cnt i) (va_up x.stp x.cnt sv) (va_up x.tgt x.cnt t) (va_up x.chr x.cnt ch) (clkV x.clk x.cnt (fun j => f j + if j = i then 1 else 0) (j + 1)) x.ord) rw_ f) := by first | (rw [← clkV_e (g := (fun j => f j + if j = i then 1 else 0)) (j := j) (show f j + (if j = i then 1 else 0) = f j + 1 by rw [if_pos c_77])]; exact hD) | (rw [← clkV_e (g := (fun j => f j + if j = i then 1 else 0)) (j := j) (show f j + (if j = i then 1 else 0) = f j + 0 by rw [if_neg c_77])]; exact hD)
          exact ih  (j + 1) H locs hP hD hS ls (by omega) (by omega) (lv_sub hl [1, 2, 3, 4, 5, 6, 7, 0] rfl)
  refine lv_aload_n hx hb dL_record_0 rfl (lv_at hl 0 rfl) ?_
  refine va_get (D := D) (ci := 0) (v := .int (nI (x.cnt))) (C := RL) (T := TL) (N := 8) hx hb hts in_L hown hK hP 0 rfl rfl 6 (by decide) (hts _ wm_25) (fun _ h9 => h9) rfl dL_record_1 ?_
  refine lv_istore (lv' := [(6, .int (nI (x.cnt))), (0, .ref (a 0)), (1, .int (nI (i))), (2, .int (nI (sv))), (3, .ref (rw_)), (4, .int (sI (t))), (5, .int (nI (ch)))]) hx hb dL_record_4 hl (by decide) rfl (fun ls hl => ?_)
  refine lv_aload_n hx hb dL_record_6 rfl (lv_at hl 1 rfl) ?_
  refine lv_dup hx hb dL_record_7 rfl ?_
  refine va_get (D := D) (ci := 0) (v := .int (nI (x.cnt))) (C := RL) (T := TL) (N := 8) hx hb hts in_L hown hK hP 0 rfl rfl 6 (by decide) (hts _ wm_25) (fun _ h9 => h9) rfl dL_record_8 ?_
  refine lv_iconst (v := nI (1)) hx hb dL_record_11 (by decide) ?_
  refine r_add hx hb dL_record_12 ?_
  refine va_put (D := D) (ci := 0) (v := .int (nI (x.cnt + 1))) (ty := .int) (C := RL) (T := TL) (N := 8) hx hb hts in_L tyL tyL_ok nmL hown hK hP hD hS 0 rfl rfl 6 (by decide) (hts _ wm_25) (fun _ h9 => h9) rfl (by decide +kernel) rfl rfl (Nat.le_of_ble_eq_true rfl) dL_record_13 (fun H locs hP hD hS => ?_)
  have hP : va_P D vwCl (wLw cc a (mkL (x.cnt + 1) x.el x.iss x.stp x.tgt x.chr x.clk x.ord) rw_ f) H := hP
  have hD : va_D A (wLw cc a (mkL (x.cnt + 1) x.el x.iss x.stp x.tgt x.chr x.clk x.ord) rw_ f) := hD
  refine lv_aload_n hx hb dL_record_16 rfl (lv_at hl 1 rfl) ?_
  refine va_get (D := D) (ci := 0) (v := .ref (a 1)) (C := RL) (T := TL) (N := 8) hx hb hts in_L hown hK hP 0 rfl rfl 0 (by decide) (hts _ wm_19) (fun _ h9 => h9) rfl dL_record_17 ?_
  refine lv_iload hx hb dL_record_20 (lv_at hl 0 rfl) ?_
  refine lv_iload_n hx hb dL_record_22 rfl (lv_at hl 2 rfl) ?_
  refine r_iast nI x.iss (i) (q0 := 1) (t0 := 0) hx hb hK hP hD hS rfl rfl (by omega) (by decide) dL_record_23 (fun H locs hP hD hS => ?_)
  have hP : va_P D vwCl (wLw cc a (mkL (x.cnt + 1) x.el (va_up x.iss x.cnt i) x.stp x.tgt x.chr x.clk x.ord) rw_ f) H := hP
  have hD : va_D A (wLw cc a (mkL (x.cnt + 1) x.el (va_up x.iss x.cnt i) x.stp x.tgt x.chr x.clk x.ord) rw_ f) := hD
  refine lv_aload_n hx hb dL_record_24 rfl (lv_at hl 1 rfl) ?_
  refine va_get (D := D) (ci := 0) (v := .ref (a 2)) (C := RL) (T := TL) (N := 8) hx hb hts in_L hown hK hP 0 rfl rfl 1 (by decide) (hts _ wm_20) (fun _ h9 => h9) rfl dL_record_25 ?_
  refine lv_iload hx hb dL_record_28 (lv_at hl 0 rfl) ?_
  refine lv_iload_n hx hb dL_record_30 rfl (lv_at hl 3 rfl) ?_
  refine r_iast nI x.stp (sv) (q0 := 2) (t0 := 0) hx hb hK hP hD hS rfl rfl (by omega) (by decide) dL_record_31 (fun H locs hP hD hS => ?_)
  have hP : va_P D vwCl (wLw cc a (mkL (x.cnt + 1) x.el (va_up x.iss x.cnt i) (va_up x.stp x.cnt sv) x.tgt x.chr x.clk x.ord) rw_ f) H := hP
  have hD : va_D A (wLw cc a (mkL (x.cnt + 1) x.el (va_up x.iss x.cnt i) (va_up x.stp x.cnt sv) x.tgt x.chr x.clk x.ord) rw_ f) := hD
  refine lv_aload_n hx hb dL_record_32 rfl (lv_at hl 1 rfl) ?_
  refine va_get (D := D) (ci := 0) (v := .ref (a 3)) (C := RL) (T := TL) (N := 8) hx hb hts in_L hown hK hP 0 rfl rfl 2 (by decide) (hts _ wm_21) (fun _ h9 => h9) rfl dL_record_33 ?_
  refine lv_iload hx hb dL_record_36 (lv_at hl 0 rfl) ?_
  refine lv_iload hx hb dL_record_38 (lv_at hl 5 rfl) ?_
  refine r_iast sI x.tgt (t) (q0 := 3) (t0 := 0) hx hb hK hP hD hS rfl rfl (by omega) (by decide) dL_record_40 (fun H locs hP hD hS => ?_)
  have hP : va_P D vwCl (wLw cc a (mkL (x.cnt + 1) x.el (va_up x.iss x.cnt i) (va_up x.stp x.cnt sv) (va_up x.tgt x.cnt t) x.chr x.clk x.ord) rw_ f) H := hP
  have hD : va_D A (wLw cc a (mkL (x.cnt + 1) x.el (va_up x.iss x.cnt i) (va_up x.stp x.cnt sv) (va_up x.tgt x.cnt t) x.chr x.clk x.ord) rw_ f) := hD
  refine lv_aload_n hx hb dL_record_41 rfl (lv_at hl 1 rfl) ?_
  refine va_get (D := D) (ci := 0) (v := .ref (a 4)) (C := RL) (T := TL) (N := 8) hx hb hts in_L hown hK hP 0 rfl rfl 3 (by decide) (hts _ wm_22) (fun _ h9 => h9) rfl dL_record_42 ?_
  refine lv_iload hx hb dL_record_45 (lv_at hl 0 rfl) ?_
  refine lv_iload hx hb dL_record_47 (lv_at hl 6 rfl) ?_
  refine r_cast x.chr (ch) (hch) (q0 := 4) (t0 := 2) hx hb hK hP hD hS rfl rfl (by omega) (by decide) dL_record_49 (fun H locs hP hD hS => ?_)
  have hP : va_P D vwCl (wLw cc a (mkL (x.cnt + 1) x.el (va_up x.iss x.cnt i) (va_up x.stp x.cnt sv) (va_up x.tgt x.cnt t) (va_up x.chr x.cnt ch) x.clk x.ord) rw_ f) H := hP
  have hD : va_D A (wLw cc a (mkL (x.cnt + 1) x.el (va_up x.iss x.cnt i) (va_up x.stp x.cnt sv) (va_up x.tgt x.cnt t) (va_up x.chr x.cnt ch) x.clk x.ord) rw_ f) := hD
  refine lv_iconst (v := nI (0)) hx hb dL_record_50 (by decide) ?_
  refine lv_istore (lv' := [(7, .int (nI (0))), (6, .int (nI (x.cnt))), (0, .ref (a 0)), (1, .int (nI (i))), (2, .int (nI (sv))), (3, .ref (rw_)), (4, .int (sI (t))), (5, .int (nI (ch)))]) hx hb dL_record_51 hl (by decide) rfl (fun ls hl => ?_)
  exact L53 (4) (0) H locs hP hD hS ls (by omega) (by omega) (lv_sub hl [2, 3, 4, 5, 6, 7, 1, 0] rfl)

def rmP_apply : Room := { frames := 2, cells := 0, slots := 0, locals := 43 }
set_option maxHeartbeats 4000000 in
set_option maxRecDepth 100000 in
theorem kP_apply {l : Launch} (D : va_G) (cc : Nat → ClassId) (a b : Nat → Nat) (x : LgS) (y : RpS) (sz : Nat) (o : Nat) (ho : o < 100) (ht : x.chr o = 0 → 0 < x.tgt o) (ok : okL x) (kr : okR y) : Met l yP_apply wsP_apply rmP_apply (va_Pc [.ref (b 0), .int (nI (o))] (WP D cc (wLR cc a b (x) (y)) sz)) (va_Qv (fun _ : Unit => True) (WQ D cc (va_A (wLR cc a b (x) (y)) sz) (fun _ : Unit => wLR cc a b x (applyR x y o))) (va_A (wLR cc a b (x) (y)) sz)) 0 0 (va_A (wLR cc a b (x) (y)) sz) := by
  refine wr_metv RP [.ref (b 0), .int (nI (o))] D cc (wLR cc a b (x) (y)) sz (fun _ : Unit => wLR cc a b x (applyR x y o)) _ (by decide) rfl rfl (Nat.le_of_ble_eq_true rfl) ?_
  intro p e s m args below meth c Q A S hP hE hD hA kx ls hl
  obtain ⟨hx, hb, hml, hown, hts⟩ := id S
  have hK := hE.1
  have hts := hE.ts args
  have S : CallFix p m c cP_apply 4 s args wAll RP := ⟨hx, hb, hml, hown, hts⟩
  have hS : va_S A s.heap s.heap [] := va_S.rf
  have hn := ok.n
  have he := ok.e
  have hself := kr.self
  have htl := kr.tl
  have hi3 := ok.iss3 o
  have hl : lv_has ls 4 [(0, .ref (b 0)), (1, .int (nI (o)))] := hl
  have L12 : ∀ (n : Nat) (j : Nat) (H : Heap) (locs : List Loc) (hP : va_P D vwCl (wLR cc a b (x) (mkR y.self (sU y.seen (x.iss o) (fun j => x.clk (o * 3 + j)) j) y.wts y.ers y.kpt y.mgo y.txt y.tl y.kc y.wc y.gs)) H) (hD : va_D A (wLR cc a b (x) (mkR y.self (sU y.seen (x.iss o) (fun j => x.clk (o * 3 + j)) j) y.wts y.ers y.kpt y.mgo y.txt y.tl y.kc y.wc y.gs))) (hS : va_S A s.heap H locs) (ls : Array Slot) (h1 : j ≤ 3) (h2 : 3 - j < n), lv_has ls 4 [(0, .ref (b 0)), (1, .int (nI (o))), (2, .int (nI (x.iss o))), (3, .int (nI (j)))] → W p l e rmP_apply s m args below meth c H locs 0 0 Q (F0 m 12 ls []) := by
    intro n
    induction n with
    | zero => intro j H locs hP hD hS ls h1 h2 hl; exact absurd h2 (Nat.not_lt_zero _)
    | succ n ih =>
      intro j H locs hP hD hS ls h1 h2 hl
      refine lv_iload_n hx hb dP_apply_12 rfl (lv_at hl 3 rfl) ?_
      refine lv_iconst (v := nI (3)) hx hb dP_apply_13 (by decide) ?_
      refine r_ge (by omega) (by decide) (tgt := 40) hx hb dP_apply_14 (by decide) (fun c_14 => ?_) (fun c_14 => ?_)
      · obtain rfl : j = 3 := by omega
        refine lv_aload_n hx hb dP_apply_40 rfl (lv_at hl 0 rfl) ?_
        refine va_get (D := D) (ci := 1) (v := .ref (b 1)) (C := RP) (T := TP) (N := 12) hx hb hts in_P hown hK hP 7 rfl rfl 2 (by decide) (hts _ wm_46) (fun _ h9 => h9) rfl dP_apply_41 ?_
        refine lv_aload_n hx hb dP_apply_44 rfl (lv_at hl 0 rfl) ?_
        refine va_get (D := D) (ci := 1) (v := .int (nI (y.self))) (C := RP) (T := TP) (N := 12) hx hb hts in_P hown hK hP 7 rfl rfl 0 (by decide) (hts _ wm_44) (fun _ h9 => h9) rfl dP_apply_45 ?_
        refine r_aald (q0 := 8) (t0 := 3) (f := (fun j => b (2 + j))) hx hb hK hP rfl rfl (by omega) (by decide) dP_apply_48 ?_
        refine lv_iload_n hx hb dP_apply_49 rfl (lv_at hl 2 rfl) ?_
        refine lv_aload_n hx hb dP_apply_50 rfl (lv_at hl 0 rfl) ?_
        refine va_get (D := D) (ci := 1) (v := .ref (a 0)) (C := RP) (T := TP) (N := 12) hx hb hts in_P hown hK hP 7 rfl rfl 1 (by decide) (hts _ wm_45) (fun _ h9 => h9) rfl dP_apply_51 ?_
        refine lv_iload_n hx hb dP_apply_54 rfl (lv_at hl 1 rfl) ?_
        refine W.callR (W.runV (As := [.int (nI (o))]) (rest := [.int (nI (x.iss o)), .ref (b (2 + (y.self)))]) S (kL_placeInLine D cc a x (o) (by omega) ok) (cwV 1 hts (gd_V wm_115 wm_116 wm_117 wm_2 wm_118) rfl rfl rfl (by decide +kernel) ⟨Nat.le_of_ble_eq_true rfl, Nat.le_of_ble_eq_true rfl⟩) (rd_preV (q0 := 0) (P_left hP) hE rfl rfl) rfl rfl hl.1 rfl (lv_room (Nat.le_of_ble_eq_true rfl)) dP_apply_55 ⟨Nat.le_of_ble_eq_true rfl, Nat.le_of_ble_eq_true rfl⟩) ?_
        refine W.eq (g2 := F0 m 58 ls [.int (nI (plc x (o))), .int (nI (x.iss o)), .ref (b (2 + (y.self)))]) rfl ?_
        refine r_iast nI ((sU y.seen (x.iss o) (fun j => x.clk (o * 3 + j)) 3) (y.self)) (plc x (o)) (q0 := 9 + (y.self)) (t0 := 0) hx hb hK hP hD hS (at_seen (by omega)) rfl (by omega) (by decide) dP_apply_58 (fun H locs hP hD hS => ?_)
        rw [set_seen (by omega)] at hP hD
        have hP : va_P D vwCl (wLR cc a b (x) (mkR y.self (apSeen x y o) y.wts y.ers y.kpt y.mgo y.txt y.tl y.kc y.wc y.gs)) H := hP
        have hD : va_D A (wLR cc a b (x) (mkR y.self (apSeen x y o) y.wts y.ers y.kpt y.mgo y.txt y.tl y.kc y.wc y.gs)) := hD
        refine lv_aload_n hx hb dP_apply_59 rfl (lv_at hl 0 rfl) ?_
        refine lv_aload_n hx hb dP_apply_60 rfl (lv_at hl 0 rfl) ?_
        refine va_get (D := D) (ci := 1) (v := .int (nI (y.gs))) (C := RP) (T := TP) (N := 12) hx hb hts in_P hown hK hP 7 rfl rfl 11 (by decide) (hts _ wm_55) (fun _ h9 => h9) rfl dP_apply_61 ?_
        refine lv_aload_n hx hb dP_apply_64 rfl (lv_at hl 0 rfl) ?_
        refine va_get (D := D) (ci := 1) (v := .ref (a 0)) (C := RP) (T := TP) (N := 12) hx hb hts in_P hown hK hP 7 rfl rfl 1 (by decide) (hts _ wm_45) (fun _ h9 => h9) rfl dP_apply_65 ?_
        refine va_getN (D := D) (ci := 0) (v := .ref (a 2)) (C := RL) (T := TL) (N := 8) hx hb hts in_L hown hK hP 0 rfl rfl 1 (by decide) (hE.f nf_3) (fun _ h9 => h9) rfl dP_apply_68 ?_
        refine lv_iload_n hx hb dP_apply_71 rfl (lv_at hl 1 rfl) ?_
        refine r_iald (q0 := 2) (t0 := 0) hx hb hK hP rfl rfl (by omega) (by decide) dP_apply_72 ?_
        refine va_mmax hx hb (hml.trans hl.1.symm) hown (hts _ wm_120) (hts _ wm_121) (hts _ wm_5) (hts _ wm_122) (Nat.le_of_ble_eq_true rfl) (Nat.le_of_ble_eq_true rfl) (Nat.le_of_ble_eq_true rfl) (Nat.le_of_ble_eq_true rfl) dP_apply_73 ?_
        refine r_top (y := nI (max y.gs (x.stp o))) (nI_max (by have := kr.gs; omega) (ok.stp _)) ?_
        refine va_put (D := D) (ci := 1) (v := .int (nI (max y.gs (x.stp o)))) (ty := .int) (C := RP) (T := TP) (N := 12) hx hb hts in_P tyP tyP_ok nmP hown hK hP hD hS 7 rfl rfl 11 (by decide) (hts _ wm_55) (fun _ h9 => h9) rfl (by decide +kernel) rfl rfl (Nat.le_of_ble_eq_true rfl) dP_apply_76 (fun H locs hP hD hS => ?_)
        have hP : va_P D vwCl (wLR cc a b (x) (mkR y.self (apSeen x y o) y.wts y.ers y.kpt y.mgo y.txt y.tl y.kc y.wc (max y.gs (x.stp o)))) H := hP
        have hD : va_D A (wLR cc a b (x) (mkR y.self (apSeen x y o) y.wts y.ers y.kpt y.mgo y.txt y.tl y.kc y.wc (max y.gs (x.stp o)))) := hD
        refine lv_aload_n hx hb dP_apply_79 rfl (lv_at hl 0 rfl) ?_
        refine va_get (D := D) (ci := 1) (v := .ref (a 0)) (C := RP) (T := TP) (N := 12) hx hb hts in_P hown hK hP 7 rfl rfl 1 (by decide) (hts _ wm_45) (fun _ h9 => h9) rfl dP_apply_80 ?_
        refine lv_iload_n hx hb dP_apply_83 rfl (lv_at hl 1 rfl) ?_
        refine W.callR (W.runV (As := [.int (nI (o))]) (rest := []) S (kL_isErase D cc a x (o) (by omega) ok) (cwV 1 hts (gd_V wm_123 wm_124 wm_125 wm_2 wm_126) rfl rfl rfl (by decide +kernel) ⟨Nat.le_of_ble_eq_true rfl, Nat.le_of_ble_eq_true rfl⟩) (rd_preV (q0 := 0) (P_left hP) hE rfl rfl) rfl rfl hl.1 rfl (lv_room (Nat.le_of_ble_eq_true rfl)) dP_apply_84 ⟨Nat.le_of_ble_eq_true rfl, Nat.le_of_ble_eq_true rfl⟩) ?_
        refine W.eq (g2 := F0 m 87 ls [.int (bI (decide (x.chr (o) = 0)))]) rfl ?_
        refine r_eqB (tgt := 108) hx hb dP_apply_87 (by decide) (fun c_87 => ?_) (fun c_87 => ?_)
        · refine lv_aload_n hx hb dP_apply_108 rfl (lv_at hl 0 rfl) ?_
          refine va_get (D := D) (ci := 1) (v := .ref (b 7)) (C := RP) (T := TP) (N := 12) hx hb hts in_P hown hK hP 7 rfl rfl 5 (by decide) (hts _ wm_49) (fun _ h9 => h9) rfl dP_apply_109 ?_
          refine lv_iload_n hx hb dP_apply_112 rfl (lv_at hl 1 rfl) ?_
          refine lv_iconst (v := bI (true)) hx hb dP_apply_113 (by decide) ?_
          refine r_zast y.kpt (true) (q0 := 14) (t0 := 1) hx hb hK hP hD hS rfl rfl (by omega) (by decide) dP_apply_114 (fun H locs hP hD hS => ?_)
          have hP : va_P D vwCl (wLR cc a b (x) (mkR y.self (apSeen x y o) y.wts y.ers (va_up y.kpt o true) y.mgo y.txt y.tl y.kc y.wc (max y.gs (x.stp o)))) H := hP
          have hD : va_D A (wLR cc a b (x) (mkR y.self (apSeen x y o) y.wts y.ers (va_up y.kpt o true) y.mgo y.txt y.tl y.kc y.wc (max y.gs (x.stp o)))) := hD
          refine lv_aload_n hx hb dP_apply_115 rfl (lv_at hl 0 rfl) ?_
          refine lv_dup hx hb dP_apply_116 rfl ?_
          refine va_get (D := D) (ci := 1) (v := .int (nI (y.kc))) (C := RP) (T := TP) (N := 12) hx hb hts in_P hown hK hP 7 rfl rfl 9 (by decide) (hts _ wm_53) (fun _ h9 => h9) rfl dP_apply_117 ?_
          refine lv_iconst (v := nI (1)) hx hb dP_apply_120 (by decide) ?_
          refine r_add hx hb dP_apply_121 ?_
          refine va_put (D := D) (ci := 1) (v := .int (nI (y.kc + 1))) (ty := .int) (C := RP) (T := TP) (N := 12) hx hb hts in_P tyP tyP_ok nmP hown hK hP hD hS 7 rfl rfl 9 (by decide) (hts _ wm_53) (fun _ h9 => h9) rfl (by decide +kernel) rfl rfl (Nat.le_of_ble_eq_true rfl) dP_apply_122 (fun H locs hP hD hS => ?_)
          have hP : va_P D vwCl (wLR cc a b (x) (mkR y.self (apSeen x y o) y.wts y.ers (va_up y.kpt o true) y.mgo y.txt y.tl (y.kc + 1) y.wc (max y.gs (x.stp o)))) H := hP
          have hD : va_D A (wLR cc a b (x) (mkR y.self (apSeen x y o) y.wts y.ers (va_up y.kpt o true) y.mgo y.txt y.tl (y.kc + 1) y.wc (max y.gs (x.stp o)))) := hD
          exact kx _ _ _ _ (()) dP_apply_125 hS (by unfold applyR; first | (rw [if_pos (of_decide_eq_true c_87)]; exact hP) | (rw [if_neg (of_decide_eq_false c_87)]; exact hP)) (by unfold applyR; first | (rw [if_pos (of_decide_eq_true c_87)]; exact hD) | (rw [if_neg (of_decide_eq_false c_87)]; exact hD)) (trivial)
        · refine lv_aload_n hx hb dP_apply_90 rfl (lv_at hl 0 rfl) ?_
          refine va_get (D := D) (ci := 1) (v := .ref (b 6)) (C := RP) (T := TP) (N := 12) hx hb hts in_P hown hK hP 7 rfl rfl 4 (by decide) (hts _ wm_48) (fun _ h9 => h9) rfl dP_apply_91 ?_
          refine lv_aload_n hx hb dP_apply_94 rfl (lv_at hl 0 rfl) ?_
          refine va_get (D := D) (ci := 1) (v := .ref (a 0)) (C := RP) (T := TP) (N := 12) hx hb hts in_P hown hK hP 7 rfl rfl 1 (by decide) (hts _ wm_45) (fun _ h9 => h9) rfl dP_apply_95 ?_
          refine va_getN (D := D) (ci := 0) (v := .ref (a 3)) (C := RL) (T := TL) (N := 8) hx hb hts in_L hown hK hP 0 rfl rfl 2 (by decide) (hE.f nf_4) (fun _ h9 => h9) rfl dP_apply_98 ?_
          refine lv_iload_n hx hb dP_apply_101 rfl (lv_at hl 1 rfl) ?_
          refine r_iald (q0 := 3) (t0 := 0) hx hb hK hP rfl rfl (by omega) (by decide) dP_apply_102 ?_
          refine r_top (y := nI ((x.tgt o) - 1)) (sI_p (ht (of_decide_eq_true c_87))) ?_
          refine lv_iconst (v := bI (true)) hx hb dP_apply_103 (by decide) ?_
          refine r_zast y.ers (true) (q0 := 13) (t0 := 1) hx hb hK hP hD hS rfl rfl (by have := ok.tgt100 o; have := ht (of_decide_eq_true c_87); omega) (by decide) dP_apply_104 (fun H locs hP hD hS => ?_)
          have hP : va_P D vwCl (wLR cc a b (x) (mkR y.self (apSeen x y o) y.wts (va_up y.ers (x.tgt o - 1) true) y.kpt y.mgo y.txt y.tl y.kc y.wc (max y.gs (x.stp o)))) H := hP
          have hD : va_D A (wLR cc a b (x) (mkR y.self (apSeen x y o) y.wts (va_up y.ers (x.tgt o - 1) true) y.kpt y.mgo y.txt y.tl y.kc y.wc (max y.gs (x.stp o)))) := hD
          refine lv_goto (tgt := 125) hx hb dP_apply_105 (by decide) ?_
          exact kx _ _ _ _ (()) dP_apply_125 hS (by unfold applyR; first | (rw [if_pos (of_decide_eq_true c_87)]; exact hP) | (rw [if_neg (of_decide_eq_false c_87)]; exact hP)) (by unfold applyR; first | (rw [if_pos (of_decide_eq_true c_87)]; exact hD) | (rw [if_neg (of_decide_eq_false c_87)]; exact hD)) (trivial)
      · refine lv_aload_n hx hb dP_apply_17 rfl (lv_at hl 0 rfl) ?_
        refine va_get (D := D) (ci := 1) (v := .ref (b 1)) (C := RP) (T := TP) (N := 12) hx hb hts in_P hown hK hP 7 rfl rfl 2 (by decide) (hts _ wm_46) (fun _ h9 => h9) rfl dP_apply_18 ?_
        refine lv_iload_n hx hb dP_apply_21 rfl (lv_at hl 2 rfl) ?_
        refine r_aald (q0 := 8) (t0 := 3) (f := (fun j => b (2 + j))) hx hb hK hP rfl rfl (by omega) (by decide) dP_apply_22 ?_
        refine lv_iload_n hx hb dP_apply_23 rfl (lv_at hl 3 rfl) ?_
        refine lv_aload_n hx hb dP_apply_24 rfl (lv_at hl 0 rfl) ?_
        refine va_get (D := D) (ci := 1) (v := .ref (a 0)) (C := RP) (T := TP) (N := 12) hx hb hts in_P hown hK hP 7 rfl rfl 1 (by decide) (hts _ wm_45) (fun _ h9 => h9) rfl dP_apply_25 ?_
        refine lv_iload_n hx hb dP_apply_28 rfl (lv_at hl 1 rfl) ?_
        refine lv_iload_n hx hb dP_apply_29 rfl (lv_at hl 3 rfl) ?_
        refine W.callR (W.runV (As := [.int (nI (o)), .int (nI (j))]) (rest := [.int (nI (j)), .ref (b (2 + (x.iss o)))]) S (kL_clockOf D cc a x (o) (j) (by omega) (by omega) ok) (cwV 2 hts (gd_V wm_111 wm_112 wm_113 wm_2 wm_114) rfl rfl rfl (by decide +kernel) ⟨Nat.le_of_ble_eq_true rfl, Nat.le_of_ble_eq_true rfl⟩) (rd_preV (q0 := 0) (P_left hP) hE rfl rfl) rfl rfl hl.1 rfl (lv_room (Nat.le_of_ble_eq_true rfl)) dP_apply_30 ⟨Nat.le_of_ble_eq_true rfl, Nat.le_of_ble_eq_true rfl⟩) ?_
        refine W.eq (g2 := F0 m 33 ls [.int (nI (x.clk ((o) * 3 + (j)))), .int (nI (j)), .ref (b (2 + (x.iss o)))]) rfl ?_
        refine r_iast nI ((sU y.seen (x.iss o) (fun j => x.clk (o * 3 + j)) j) (x.iss o)) (x.clk ((o) * 3 + (j))) (q0 := 9 + (x.iss o)) (t0 := 0) hx hb hK hP hD hS (at_seen (by omega)) rfl (by omega) (by decide) dP_apply_33 (fun H locs hP hD hS => ?_)
        rw [set_seen (by omega)] at hP hD
        have hP : va_P D vwCl (wLR cc a b (x) (mkR y.self (sU y.seen (x.iss o) (fun j => x.clk (o * 3 + j)) (j + 1)) y.wts y.ers y.kpt y.mgo y.txt y.tl y.kc y.wc y.gs)) H := hP
        have hD : va_D A (wLR cc a b (x) (mkR y.self (sU y.seen (x.iss o) (fun j => x.clk (o * 3 + j)) (j + 1)) y.wts y.ers y.kpt y.mgo y.txt y.tl y.kc y.wc y.gs)) := hD
        refine lv_iinc (v := nI (j + 1)) (lv' := [(3, .int (nI (j + 1))), (0, .ref (b 0)), (1, .int (nI (o))), (2, .int (nI (x.iss o)))]) hx hb dP_apply_34 hl (k := 3) rfl (nI_1 _) (by decide) rfl (fun ls hl => ?_)
        refine lv_goto (tgt := 12) hx hb dP_apply_37 (by decide) ?_
        exact ih  (j + 1) H locs hP hD hS ls (by omega) (by omega) (lv_sub hl [1, 2, 3, 0] rfl)
  refine lv_aload_n hx hb dP_apply_0 rfl (lv_at hl 0 rfl) ?_
  refine va_get (D := D) (ci := 1) (v := .ref (a 0)) (C := RP) (T := TP) (N := 12) hx hb hts in_P hown hK hP 7 rfl rfl 1 (by decide) (hts _ wm_45) (fun _ h9 => h9) rfl dP_apply_1 ?_
  refine va_getN (D := D) (ci := 0) (v := .ref (a 1)) (C := RL) (T := TL) (N := 8) hx hb hts in_L hown hK hP 0 rfl rfl 0 (by decide) (hE.f nf_0) (fun _ h9 => h9) rfl dP_apply_4 ?_
  refine lv_iload_n hx hb dP_apply_7 rfl (lv_at hl 1 rfl) ?_
  refine r_iald (q0 := 1) (t0 := 0) hx hb hK hP rfl rfl (by omega) (by decide) dP_apply_8 ?_
  refine lv_istore_n (lv' := [(2, .int (nI (x.iss o))), (0, .ref (b 0)), (1, .int (nI (o)))]) hx hb dP_apply_9 rfl hl (by decide) rfl (fun ls hl => ?_)
  refine lv_iconst (v := nI (0)) hx hb dP_apply_10 (by decide) ?_
  refine lv_istore_n (lv' := [(3, .int (nI (0))), (2, .int (nI (x.iss o))), (0, .ref (b 0)), (1, .int (nI (o)))]) hx hb dP_apply_11 rfl hl (by decide) rfl (fun ls hl => ?_)
  exact L12 (4) (0) s.heap [] hP hD hS ls (by omega) (by omega) (lv_sub hl [2, 3, 1, 0] rfl)

def rmP_rewriteText : Room := { frames := 3, cells := 0, slots := 0, locals := 64 }
set_option maxHeartbeats 4000000 in
set_option maxRecDepth 100000 in
theorem kP_rewriteText {l : Launch} (D : va_G) (cc : Nat → ClassId) (a b : Nat → Nat) (x : LgS) (y : RpS) (sz : Nat) (ok : okL x) (kr : okR y) : Met l yP_rewriteText wsP_rewriteText rmP_rewriteText (va_Pc [.ref (b 0)] (WP D cc (wLR cc a b (x) (y)) sz)) (va_Qv (fun _ : Unit => True) (WQ D cc (va_A (wLR cc a b (x) (y)) sz) (fun _ : Unit => wLR cc a b x (rwR x y))) (va_A (wLR cc a b (x) (y)) sz)) 0 0 (va_A (wLR cc a b (x) (y)) sz) := by
  refine wr_metv RP [.ref (b 0)] D cc (wLR cc a b (x) (y)) sz (fun _ : Unit => wLR cc a b x (rwR x y)) _ (by decide) rfl rfl (Nat.le_of_ble_eq_true rfl) ?_
  intro p e s m args below meth c Q A S hP hE hD hA kx ls hl
  obtain ⟨hx, hb, hml, hown, hts⟩ := id S
  have hK := hE.1
  have hts := hE.ts args
  have S : CallFix p m c cP_rewriteText 3 s args wAll RP := ⟨hx, hb, hml, hown, hts⟩
  have hS : va_S A s.heap s.heap [] := va_S.rf
  have hn := ok.n
  have he := ok.e
  have hself := kr.self
  have htl := kr.tl
  have hl : lv_has ls 3 [(0, .ref (b 0))] := hl
  have L7 : ∀ (n : Nat) (i : Nat) (H : Heap) (locs : List Loc) (hP : va_P D vwCl (wLR cc a b (x) (mkR y.self y.seen y.wts y.ers y.kpt y.mgo ((rwF x y i).2) ((rwF x y i).1) y.kc y.wc y.gs)) H) (hD : va_D A (wLR cc a b (x) (mkR y.self y.seen y.wts y.ers y.kpt y.mgo ((rwF x y i).2) ((rwF x y i).1) y.kc y.wc y.gs))) (hS : va_S A s.heap H locs) (ls : Array Slot) (h1 : i ≤ x.el) (h2 : x.el - i < n), lv_has ls 3 [(0, .ref (b 0)), (1, .int (nI (i)))] → W p l e rmP_rewriteText s m args below meth c H locs 0 0 Q (F0 m 7 ls []) := by
    intro n
    induction n with
    | zero => intro i H locs hP hD hS ls h1 h2 hl; exact absurd h2 (Nat.not_lt_zero _)
    | succ n ih =>
      intro i H locs hP hD hS ls h1 h2 hl
      have kr2 : okR (mkR y.self y.seen y.wts y.ers y.kpt y.mgo ((rwF x y i).2) ((rwF x y i).1) y.kc y.wc y.gs) := okR_mk kr.self (by have := rwF_le x y i; omega) kr.kc kr.wc kr.gs kr.seen3 (rwF_lt ok kr i)
      refine lv_iload_n hx hb dP_rewriteText_7 rfl (lv_at hl 1 rfl) ?_
      refine lv_aload_n hx hb dP_rewriteText_8 rfl (lv_at hl 0 rfl) ?_
      refine va_get (D := D) (ci := 1) (v := .ref (a 0)) (C := RP) (T := TP) (N := 12) hx hb hts in_P hown hK hP 7 rfl rfl 1 (by decide) (hts _ wm_45) (fun _ h9 => h9) rfl dP_rewriteText_9 ?_
      refine va_getN (D := D) (ci := 0) (v := .int (nI (x.el))) (C := RL) (T := TL) (N := 8) hx hb hts in_L hown hK hP 0 rfl rfl 7 (by decide) (hE.f nf_10) (fun _ h9 => h9) rfl dP_rewriteText_12 ?_
      refine r_ge (by omega) (Nat.lt_of_le_of_lt ok.e (by decide)) (tgt := 71) hx hb dP_rewriteText_15 (by decide) (fun c_15 => ?_) (fun c_15 => ?_)
      · obtain rfl : i = x.el := by omega
        exact kx _ _ _ _ (()) dP_rewriteText_71 hS hP hD (trivial)
      · refine lv_aload_n hx hb dP_rewriteText_18 rfl (lv_at hl 0 rfl) ?_
        refine va_get (D := D) (ci := 1) (v := .ref (a 0)) (C := RP) (T := TP) (N := 12) hx hb hts in_P hown hK hP 7 rfl rfl 1 (by decide) (hts _ wm_45) (fun _ h9 => h9) rfl dP_rewriteText_19 ?_
        refine va_getN (D := D) (ci := 0) (v := .ref (a 6)) (C := RL) (T := TL) (N := 8) hx hb hts in_L hown hK hP 0 rfl rfl 5 (by decide) (hE.f nf_7) (fun _ h9 => h9) rfl dP_rewriteText_22 ?_
        refine lv_iload_n hx hb dP_rewriteText_25 rfl (lv_at hl 1 rfl) ?_
        refine r_iald (q0 := 6) (t0 := 0) hx hb hK hP rfl rfl (by omega) (by decide) dP_rewriteText_26 ?_
        refine lv_istore_n (lv' := [(2, .int (nI (x.ord i))), (0, .ref (b 0)), (1, .int (nI (i)))]) hx hb dP_rewriteText_27 rfl hl (by decide) rfl (fun ls hl => ?_)
        refine lv_aload_n hx hb dP_rewriteText_28 rfl (lv_at hl 1 rfl) ?_
        refine lv_iload_n hx hb dP_rewriteText_29 rfl (lv_at hl 0 rfl) ?_
        refine W.callR (W.runV (As := [.int (nI (x.ord i))]) (rest := []) S (kP_hasApplied D cc a b x (mkR y.self y.seen y.wts y.ers y.kpt y.mgo ((rwF x y i).2) ((rwF x y i).1) y.kc y.wc y.gs) (x.ord i) (ok.ord100 _) ok kr2) (cwV 1 hts (gd_V wm_130 wm_131 wm_132 wm_3 wm_133) rfl rfl rfl (by decide +kernel) ⟨Nat.le_of_ble_eq_true rfl, Nat.le_of_ble_eq_true rfl⟩) (rd_preV (q0 := 7) hP hE rfl rfl) rfl rfl hl.1 rfl (lv_room (Nat.le_of_ble_eq_true rfl)) dP_rewriteText_30 ⟨Nat.le_of_ble_eq_true rfl, Nat.le_of_ble_eq_true rfl⟩) ?_
        refine W.eq (g2 := F0 m 33 ls [.int (bI (hasL x (mkR y.self y.seen y.wts y.ers y.kpt y.mgo ((rwF x y i).2) ((rwF x y i).1) y.kc y.wc y.gs) (x.ord i)))]) rfl ?_
        refine r_top (y := bI (hasL x y (x.ord i))) rfl ?_
        refine r_eqB (tgt := 65) hx hb dP_rewriteText_33 (by decide) (fun c_33 => ?_) (fun c_33 => ?_)
        · refine lv_iinc (v := nI (i + 1)) (lv' := [(1, .int (nI (i + 1))), (2, .int (nI (x.ord i))), (0, .ref (b 0))]) hx hb dP_rewriteText_65 hl (k := 2) rfl (nI_1 _) (by decide) rfl (fun ls hl => ?_)
          refine lv_goto (tgt := 7) hx hb dP_rewriteText_68 (by decide) ?_
          have hP : va_P D vwCl (wLR cc a b x (mkR y.self y.seen y.wts y.ers y.kpt y.mgo ((rwF x y (i + 1)).2) ((rwF x y (i + 1)).1) y.kc y.wc y.gs)) H := by first | (rw [rwF_t (x := x) (y := y) (i := i) c_33 c_42]; exact hP) | (rw [rwF_f1 (x := x) (y := y) (i := i) c_33]; exact hP) | (rw [rwF_f2 (x := x) (y := y) (i := i) c_42]; exact hP)
          have hD : va_D A (wLR cc a b x (mkR y.self y.seen y.wts y.ers y.kpt y.mgo ((rwF x y (i + 1)).2) ((rwF x y (i + 1)).1) y.kc y.wc y.gs)) := by first | (rw [rwF_t (x := x) (y := y) (i := i) c_33 c_42]; exact hD) | (rw [rwF_f1 (x := x) (y := y) (i := i) c_33]; exact hD) | (rw [rwF_f2 (x := x) (y := y) (i := i) c_42]; exact hD)
          exact ih  (i + 1) H locs hP hD hS ls (by omega) (by omega) (lv_sub hl [2, 0] rfl)
        · refine lv_aload_n hx hb dP_rewriteText_36 rfl (lv_at hl 1 rfl) ?_
          refine va_get (D := D) (ci := 1) (v := .ref (b 6)) (C := RP) (T := TP) (N := 12) hx hb hts in_P hown hK hP 7 rfl rfl 4 (by decide) (hts _ wm_48) (fun _ h9 => h9) rfl dP_rewriteText_37 ?_
          refine lv_iload_n hx hb dP_rewriteText_40 rfl (lv_at hl 0 rfl) ?_
          refine r_zald (q0 := 13) (t0 := 1) hx hb hK hP rfl rfl (ok.ord100 _) (by decide) dP_rewriteText_41 ?_
          refine r_neB (tgt := 65) hx hb dP_rewriteText_42 (by decide) (fun c_42 => ?_) (fun c_42 => ?_)
          · refine lv_iinc (v := nI (i + 1)) (lv' := [(1, .int (nI (i + 1))), (2, .int (nI (x.ord i))), (0, .ref (b 0))]) hx hb dP_rewriteText_65 hl (k := 2) rfl (nI_1 _) (by decide) rfl (fun ls hl => ?_)
            refine lv_goto (tgt := 7) hx hb dP_rewriteText_68 (by decide) ?_
            have hP : va_P D vwCl (wLR cc a b x (mkR y.self y.seen y.wts y.ers y.kpt y.mgo ((rwF x y (i + 1)).2) ((rwF x y (i + 1)).1) y.kc y.wc y.gs)) H := by first | (rw [rwF_t (x := x) (y := y) (i := i) c_33 c_42]; exact hP) | (rw [rwF_f1 (x := x) (y := y) (i := i) c_33]; exact hP) | (rw [rwF_f2 (x := x) (y := y) (i := i) c_42]; exact hP)
            have hD : va_D A (wLR cc a b x (mkR y.self y.seen y.wts y.ers y.kpt y.mgo ((rwF x y (i + 1)).2) ((rwF x y (i + 1)).1) y.kc y.wc y.gs)) := by first | (rw [rwF_t (x := x) (y := y) (i := i) c_33 c_42]; exact hD) | (rw [rwF_f1 (x := x) (y := y) (i := i) c_33]; exact hD) | (rw [rwF_f2 (x := x) (y := y) (i := i) c_42]; exact hD)
            exact ih  (i + 1) H locs hP hD hS ls (by omega) (by omega) (lv_sub hl [2, 0] rfl)
          · refine lv_aload_n hx hb dP_rewriteText_45 rfl (lv_at hl 1 rfl) ?_
            refine va_get (D := D) (ci := 1) (v := .ref (b 9)) (C := RP) (T := TP) (N := 12) hx hb hts in_P hown hK hP 7 rfl rfl 7 (by decide) (hts _ wm_51) (fun _ h9 => h9) rfl dP_rewriteText_46 ?_
            refine lv_aload_n hx hb dP_rewriteText_49 rfl (lv_at hl 1 rfl) ?_
            refine va_get (D := D) (ci := 1) (v := .int (nI ((rwF x y i).1))) (C := RP) (T := TP) (N := 12) hx hb hts in_P hown hK hP 7 rfl rfl 8 (by decide) (hts _ wm_52) (fun _ h9 => h9) rfl dP_rewriteText_50 ?_
            refine lv_iload_n hx hb dP_rewriteText_53 rfl (lv_at hl 0 rfl) ?_
            refine r_iast nI (((rwF x y i).2)) (x.ord i) (q0 := 16) (t0 := 0) hx hb hK hP hD hS rfl rfl (by have := rwF_le x y i; omega) (by decide) dP_rewriteText_54 (fun H locs hP hD hS => ?_)
            have hP : va_P D vwCl (wLR cc a b (x) (mkR y.self y.seen y.wts y.ers y.kpt y.mgo (va_up (rwF x y i).2 (rwF x y i).1 (x.ord i)) ((rwF x y i).1) y.kc y.wc y.gs)) H := hP
            have hD : va_D A (wLR cc a b (x) (mkR y.self y.seen y.wts y.ers y.kpt y.mgo (va_up (rwF x y i).2 (rwF x y i).1 (x.ord i)) ((rwF x y i).1) y.kc y.wc y.gs)) := hD
            refine lv_aload_n hx hb dP_rewriteText_55 rfl (lv_at hl 1 rfl) ?_
            refine lv_dup hx hb dP_rewriteText_56 rfl ?_
            refine va_get (D := D) (ci := 1) (v := .int (nI ((rwF x y i).1))) (C := RP) (T := TP) (N := 12) hx hb hts in_P hown hK hP 7 rfl rfl 8 (by decide) (hts _ wm_52) (fun _ h9 => h9) rfl dP_rewriteText_57 ?_
            refine lv_iconst (v := nI (1)) hx hb dP_rewriteText_60 (by decide) ?_
            refine r_add hx hb dP_rewriteText_61 ?_
            refine va_put (D := D) (ci := 1) (v := .int (nI (((rwF x y i).1) + 1))) (ty := .int) (C := RP) (T := TP) (N := 12) hx hb hts in_P tyP tyP_ok nmP hown hK hP hD hS 7 rfl rfl 8 (by decide) (hts _ wm_52) (fun _ h9 => h9) rfl (by decide +kernel) rfl rfl (Nat.le_of_ble_eq_true rfl) dP_rewriteText_62 (fun H locs hP hD hS => ?_)
            have hP : va_P D vwCl (wLR cc a b (x) (mkR y.self y.seen y.wts y.ers y.kpt y.mgo (va_up (rwF x y i).2 (rwF x y i).1 (x.ord i)) ((rwF x y i).1 + 1) y.kc y.wc y.gs)) H := hP
            have hD : va_D A (wLR cc a b (x) (mkR y.self y.seen y.wts y.ers y.kpt y.mgo (va_up (rwF x y i).2 (rwF x y i).1 (x.ord i)) ((rwF x y i).1 + 1) y.kc y.wc y.gs)) := hD
            refine lv_iinc (v := nI (i + 1)) (lv' := [(1, .int (nI (i + 1))), (2, .int (nI (x.ord i))), (0, .ref (b 0))]) hx hb dP_rewriteText_65 hl (k := 2) rfl (nI_1 _) (by decide) rfl (fun ls hl => ?_)
            refine lv_goto (tgt := 7) hx hb dP_rewriteText_68 (by decide) ?_
            have hP : va_P D vwCl (wLR cc a b x (mkR y.self y.seen y.wts y.ers y.kpt y.mgo ((rwF x y (i + 1)).2) ((rwF x y (i + 1)).1) y.kc y.wc y.gs)) H := by first | (rw [rwF_t (x := x) (y := y) (i := i) c_33 c_42]; exact hP) | (rw [rwF_f1 (x := x) (y := y) (i := i) c_33]; exact hP) | (rw [rwF_f2 (x := x) (y := y) (i := i) c_42]; exact hP)
            have hD : va_D A (wLR cc a b x (mkR y.self y.seen y.wts y.ers y.kpt y.mgo ((rwF x y (i + 1)).2) ((rwF x y (i + 1)).1) y.kc y.wc y.gs)) := by first | (rw [rwF_t (x := x) (y := y) (i := i) c_33 c_42]; exact hD) | (rw [rwF_f1 (x := x) (y := y) (i := i) c_33]; exact hD) | (rw [rwF_f2 (x := x) (y := y) (i := i) c_42]; exact hD)
            exact ih  (i + 1) H locs hP hD hS ls (by omega) (by omega) (lv_sub hl [2, 0] rfl)
  refine lv_aload_n hx hb dP_rewriteText_0 rfl (lv_at hl 0 rfl) ?_
  refine lv_iconst (v := nI (0)) hx hb dP_rewriteText_1 (by decide) ?_
  refine va_put (D := D) (ci := 1) (v := .int (nI (0))) (ty := .int) (C := RP) (T := TP) (N := 12) hx hb hts in_P tyP tyP_ok nmP hown hK hP hD hS 7 rfl rfl 8 (by decide) (hts _ wm_52) (fun _ h9 => h9) rfl (by decide +kernel) rfl rfl (Nat.le_of_ble_eq_true rfl) dP_rewriteText_2 (fun H locs hP hD hS => ?_)
  have hP : va_P D vwCl (wLR cc a b (x) (mkR y.self y.seen y.wts y.ers y.kpt y.mgo y.txt 0 y.kc y.wc y.gs)) H := hP
  have hD : va_D A (wLR cc a b (x) (mkR y.self y.seen y.wts y.ers y.kpt y.mgo y.txt 0 y.kc y.wc y.gs)) := hD
  refine lv_iconst (v := nI (0)) hx hb dP_rewriteText_5 (by decide) ?_
  refine lv_istore_n (lv' := [(1, .int (nI (0))), (0, .ref (b 0))]) hx hb dP_rewriteText_6 rfl hl (by decide) rfl (fun ls hl => ?_)
  exact L7 (x.el + 1) (0) H locs hP hD hS ls (by omega) (by omega) (lv_sub hl [1, 0] rfl)

def rmP_receive : Room := { frames := 3, cells := 0, slots := 0, locals := 64 }
set_option maxHeartbeats 4000000 in
set_option maxRecDepth 100000 in
theorem kP_receive {l : Launch} (D : va_G) (cc : Nat → ClassId) (a b : Nat → Nat) (x : LgS) (y : RpS) (sz : Nat) (o : Nat) (ho : o < 100) (ok : okL x) (kr : okR y) : Met l yP_receive wsP_receive rmP_receive (va_Pc [.ref (b 0), .int (nI (o))] (WP D cc (wLR cc a b (x) (y)) sz)) (va_Qv (fun _ : Unit => True) (WQ D cc (va_A (wLR cc a b (x) (y)) sz) (fun _ : Unit => wLR cc a b x (rcvR x y o))) (va_A (wLR cc a b (x) (y)) sz)) 0 0 (va_A (wLR cc a b (x) (y)) sz) := by
  refine wr_metv RP [.ref (b 0), .int (nI (o))] D cc (wLR cc a b (x) (y)) sz (fun _ : Unit => wLR cc a b x (rcvR x y o)) _ (by decide) rfl rfl (Nat.le_of_ble_eq_true rfl) ?_
  intro p e s m args below meth c Q A S hP hE hD hA kx ls hl
  obtain ⟨hx, hb, hml, hown, hts⟩ := id S
  have hK := hE.1
  have hts := hE.ts args
  have S : CallFix p m c cP_receive 2 s args wAll RP := ⟨hx, hb, hml, hown, hts⟩
  have hS : va_S A s.heap s.heap [] := va_S.rf
  have hn := ok.n
  have he := ok.e
  have hself := kr.self
  have htl := kr.tl
  have hl : lv_has ls 2 [(0, .ref (b 0)), (1, .int (nI (o)))] := hl
  refine lv_aload_n hx hb dP_receive_0 rfl (lv_at hl 0 rfl) ?_
  refine lv_iload_n hx hb dP_receive_1 rfl (lv_at hl 1 rfl) ?_
  refine W.callR (W.runV (As := [.int (nI (o))]) (rest := []) S (kP_hasApplied D cc a b x y (o) (by omega) ok kr) (cwV 1 hts (gd_V wm_130 wm_131 wm_132 wm_3 wm_133) rfl rfl rfl (by decide +kernel) ⟨Nat.le_of_ble_eq_true rfl, Nat.le_of_ble_eq_true rfl⟩) (rd_preV (q0 := 7) hP hE rfl rfl) rfl rfl hl.1 rfl (lv_room (Nat.le_of_ble_eq_true rfl)) dP_receive_2 ⟨Nat.le_of_ble_eq_true rfl, Nat.le_of_ble_eq_true rfl⟩) ?_
  refine W.eq (g2 := F0 m 5 ls [.int (bI (hasL x y (o)))]) rfl ?_
  refine r_neB (tgt := 34) hx hb dP_receive_5 (by decide) (fun c_5 => ?_) (fun c_5 => ?_)
  · exact kx _ _ _ _ (()) dP_receive_34 hS (by unfold rcvR; first | (rw [if_pos ⟨c_5, c_14⟩]; exact hP) | (rw [if_neg (show ¬ (hasL x y o = false ∧ y.wts o = false) from fun q => Bool.noConfusion (c_5.symm.trans q.1))]; exact hP) | (rw [if_neg (show ¬ (hasL x y o = false ∧ y.wts o = false) from fun q => Bool.noConfusion (c_14.symm.trans q.2))]; exact hP)) (by unfold rcvR; first | (rw [if_pos ⟨c_5, c_14⟩]; exact hD) | (rw [if_neg (show ¬ (hasL x y o = false ∧ y.wts o = false) from fun q => Bool.noConfusion (c_5.symm.trans q.1))]; exact hD) | (rw [if_neg (show ¬ (hasL x y o = false ∧ y.wts o = false) from fun q => Bool.noConfusion (c_14.symm.trans q.2))]; exact hD)) (trivial)
  · refine lv_aload_n hx hb dP_receive_8 rfl (lv_at hl 0 rfl) ?_
    refine va_get (D := D) (ci := 1) (v := .ref (b 5)) (C := RP) (T := TP) (N := 12) hx hb hts in_P hown hK hP 7 rfl rfl 3 (by decide) (hts _ wm_47) (fun _ h9 => h9) rfl dP_receive_9 ?_
    refine lv_iload_n hx hb dP_receive_12 rfl (lv_at hl 1 rfl) ?_
    refine r_zald (q0 := 12) (t0 := 1) hx hb hK hP rfl rfl (by omega) (by decide) dP_receive_13 ?_
    refine r_neB (tgt := 34) hx hb dP_receive_14 (by decide) (fun c_14 => ?_) (fun c_14 => ?_)
    · exact kx _ _ _ _ (()) dP_receive_34 hS (by unfold rcvR; first | (rw [if_pos ⟨c_5, c_14⟩]; exact hP) | (rw [if_neg (show ¬ (hasL x y o = false ∧ y.wts o = false) from fun q => Bool.noConfusion (c_5.symm.trans q.1))]; exact hP) | (rw [if_neg (show ¬ (hasL x y o = false ∧ y.wts o = false) from fun q => Bool.noConfusion (c_14.symm.trans q.2))]; exact hP)) (by unfold rcvR; first | (rw [if_pos ⟨c_5, c_14⟩]; exact hD) | (rw [if_neg (show ¬ (hasL x y o = false ∧ y.wts o = false) from fun q => Bool.noConfusion (c_5.symm.trans q.1))]; exact hD) | (rw [if_neg (show ¬ (hasL x y o = false ∧ y.wts o = false) from fun q => Bool.noConfusion (c_14.symm.trans q.2))]; exact hD)) (trivial)
    · refine lv_aload_n hx hb dP_receive_17 rfl (lv_at hl 0 rfl) ?_
      refine va_get (D := D) (ci := 1) (v := .ref (b 5)) (C := RP) (T := TP) (N := 12) hx hb hts in_P hown hK hP 7 rfl rfl 3 (by decide) (hts _ wm_47) (fun _ h9 => h9) rfl dP_receive_18 ?_
      refine lv_iload_n hx hb dP_receive_21 rfl (lv_at hl 1 rfl) ?_
      refine lv_iconst (v := bI (true)) hx hb dP_receive_22 (by decide) ?_
      refine r_zast y.wts (true) (q0 := 12) (t0 := 1) hx hb hK hP hD hS rfl rfl (by omega) (by decide) dP_receive_23 (fun H locs hP hD hS => ?_)
      have hP : va_P D vwCl (wLR cc a b (x) (mkR y.self y.seen (va_up y.wts o true) y.ers y.kpt y.mgo y.txt y.tl y.kc y.wc y.gs)) H := hP
      have hD : va_D A (wLR cc a b (x) (mkR y.self y.seen (va_up y.wts o true) y.ers y.kpt y.mgo y.txt y.tl y.kc y.wc y.gs)) := hD
      refine lv_aload_n hx hb dP_receive_24 rfl (lv_at hl 0 rfl) ?_
      refine lv_dup hx hb dP_receive_25 rfl ?_
      refine va_get (D := D) (ci := 1) (v := .int (nI (y.wc))) (C := RP) (T := TP) (N := 12) hx hb hts in_P hown hK hP 7 rfl rfl 10 (by decide) (hts _ wm_54) (fun _ h9 => h9) rfl dP_receive_26 ?_
      refine lv_iconst (v := nI (1)) hx hb dP_receive_29 (by decide) ?_
      refine r_add hx hb dP_receive_30 ?_
      refine va_put (D := D) (ci := 1) (v := .int (nI (y.wc + 1))) (ty := .int) (C := RP) (T := TP) (N := 12) hx hb hts in_P tyP tyP_ok nmP hown hK hP hD hS 7 rfl rfl 10 (by decide) (hts _ wm_54) (fun _ h9 => h9) rfl (by decide +kernel) rfl rfl (Nat.le_of_ble_eq_true rfl) dP_receive_31 (fun H locs hP hD hS => ?_)
      have hP : va_P D vwCl (wLR cc a b (x) (mkR y.self y.seen (va_up y.wts o true) y.ers y.kpt y.mgo y.txt y.tl y.kc (y.wc + 1) y.gs)) H := hP
      have hD : va_D A (wLR cc a b (x) (mkR y.self y.seen (va_up y.wts o true) y.ers y.kpt y.mgo y.txt y.tl y.kc (y.wc + 1) y.gs)) := hD
      exact kx _ _ _ _ (()) dP_receive_34 hS (by unfold rcvR; first | (rw [if_pos ⟨c_5, c_14⟩]; exact hP) | (rw [if_neg (show ¬ (hasL x y o = false ∧ y.wts o = false) from fun q => Bool.noConfusion (c_5.symm.trans q.1))]; exact hP) | (rw [if_neg (show ¬ (hasL x y o = false ∧ y.wts o = false) from fun q => Bool.noConfusion (c_14.symm.trans q.2))]; exact hP)) (by unfold rcvR; first | (rw [if_pos ⟨c_5, c_14⟩]; exact hD) | (rw [if_neg (show ¬ (hasL x y o = false ∧ y.wts o = false) from fun q => Bool.noConfusion (c_5.symm.trans q.1))]; exact hD) | (rw [if_neg (show ¬ (hasL x y o = false ∧ y.wts o = false) from fun q => Bool.noConfusion (c_14.symm.trans q.2))]; exact hD)) (trivial)
end
section
/-! two replicas beside the log -/
abbrev wLRR (cc : Nat → ClassId) (a b d : Nat → Nat) (x : LgS) (y y2 : RpS) : va_W := wLR cc a b x y ++ wR cc (a 0) d y2
theorem lrr_P2 {D : va_G} {cl : List vw_C} {cc : Nat → ClassId} {a b d : Nat → Nat} {x : LgS} {y y2 : RpS} {H : Heap} (h : va_P D cl (wLRR cc a b d x y y2) H) : va_P D cl (wLR cc a d x y2) H := va_P.app (P_left (P_left h)) (P_right h)
/-- receiveAllOf, over the first o operations -/
def rcaF (x : LgS) (y y2 : RpS) : Nat → RpS
  | 0 => y
  | o + 1 => if hasL x y2 o = true then rcvR x (rcaF x y y2 o) o else rcaF x y y2 o
theorem rcaF_t {x : LgS} {y y2 : RpS} {o : Nat} (h : hasL x y2 o = true) : rcaF x y y2 (o + 1) = rcvR x (rcaF x y y2 o) o := by rw [rcaF, if_pos h]
theorem rcaF_f {x : LgS} {y y2 : RpS} {o : Nat} (h : hasL x y2 o = false) : rcaF x y y2 (o + 1) = rcaF x y y2 o := by rw [rcaF, if_neg (by rw [h]; decide)]
theorem hasL_rcv (x : LgS) (y : RpS) (o k : Nat) : hasL x (rcvR x y o) k = hasL x y k := by
  unfold rcvR
  split <;> rfl
theorem hasL_rca (x : LgS) (y y2 : RpS) (k : Nat) : ∀ o, hasL x (rcaF x y y2 o) k = hasL x y k
  | 0 => rfl
  | o + 1 => by
    rw [rcaF]
    split
    · rw [hasL_rcv, hasL_rca x y y2 k o]
    · exact hasL_rca x y y2 k o
def ridP (y : RpS) (z : Int32) (v : Nat) : Prop := (v = 0 ∧ ∀ k, k < y.tl → ¬ nI (y.txt k) = z) ∨ ∃ i, i < y.tl ∧ v = i + 1 ∧ nI (y.txt i) = z ∧ ∀ k, k < i → ¬ nI (y.txt k) = z
def eatP (y : RpS) (z : Int32) (v : Nat) : Prop := (v = 0 ∧ (z < 0 ∨ nI y.tl ≤ z)) ∨ ∃ k, k < y.tl ∧ z = nI k ∧ v = y.txt k + 1
def rdlA (x : LgS) (y y2 : RpS) : Bool := andF (fun i => decide (x.chr (y.txt i) = x.chr (y2.txt i))) (decide (y.tl = y2.tl)) y.tl
end
section
def rmP_positionOf : Room := { frames := 0, cells := 0, slots := 0, locals := 0 }
set_option maxHeartbeats 4000000 in
set_option maxRecDepth 100000 in
theorem kP_positionOf {l : Launch} (D : va_G) (cc : Nat → ClassId) (a b : Nat → Nat) (x : LgS) (y : RpS) (z : Int32) (v : Nat) (hv : ridP y z v) (kr : okR y) : Met l yP_positionOf wsP_positionOf rmP_positionOf (va_Pc [.ref (b 0), .int (z)] (fun U => va_P D vwCl (wLR cc a b (x) (y)) U.heap ∧ EN D cc U)) (QcRead (sI v)) 0 0 (fun _ => False) := by
  refine rd_met RP [.ref (b 0), .int (z)] _ _ (by decide) rfl rfl (Nat.le_of_ble_eq_true rfl) (vp_nar_int _) ?_
  intro p e s m args below meth c Q S hB kx ls hl
  obtain ⟨hx, hb, hml, hown, hts⟩ := id S
  obtain ⟨hP, hE⟩ := hB
  have hK := hE.1
  have hts := hE.ts args
  have S : CallFix p m c cP_positionOf 3 s args wAll RP := ⟨hx, hb, hml, hown, hts⟩
  have hself := kr.self
  have htl := kr.tl
  have hl : lv_has ls 3 [(0, .ref (b 0)), (1, .int (z))] := hl
  have L2 : ∀ (n : Nat) (k : Nat)  (ls : Array Slot) (h1 : ∀ j, j < k → ¬ nI (y.txt j) = z) (h2 : y.tl - k < n) (h4 : k ≤ y.tl), lv_has ls 3 [(0, .ref (b 0)), (1, .int (z)), (2, .int (nI (k)))] → W p l e rmP_positionOf s m args below meth c s.heap [] 0 0 Q (F0 m 2 ls []) := by
    intro n
    induction n with
    | zero => intro k ls h1 h2 h4 hl; exact absurd h2 (Nat.not_lt_zero _)
    | succ n ih =>
      intro k ls h1 h2 h4 hl
      refine lv_iload_n hx hb dP_positionOf_2 rfl (lv_at hl 2 rfl) ?_
      refine lv_aload_n hx hb dP_positionOf_3 rfl (lv_at hl 0 rfl) ?_
      refine va_get (D := D) (ci := 1) (v := .int (nI (y.tl))) (C := RP) (T := TP) (N := 12) hx hb hts in_P hown hK hP 7 rfl rfl 8 (by decide) (hts _ wm_52) (fun _ h9 => h9) rfl dP_positionOf_4 ?_
      refine r_ge (by omega) (Nat.lt_of_le_of_lt kr.tl (by decide)) (tgt := 28) hx hb dP_positionOf_7 (by decide) (fun c_7 => ?_) (fun c_7 => ?_)
      · refine lv_iconst (v := sI (0)) hx hb dP_positionOf_28 (by decide) ?_
        exact kx _ _ _ dP_positionOf_29 (by rcases hv with ⟨q, -⟩ | ⟨i, q1, q2, q3, q4⟩ <;> first | rw [q] | exact absurd q3 (h1 i (by omega)))
      · refine lv_aload_n hx hb dP_positionOf_10 rfl (lv_at hl 0 rfl) ?_
        refine va_get (D := D) (ci := 1) (v := .ref (b 9)) (C := RP) (T := TP) (N := 12) hx hb hts in_P hown hK hP 7 rfl rfl 7 (by decide) (hts _ wm_51) (fun _ h9 => h9) rfl dP_positionOf_11 ?_
        refine lv_iload_n hx hb dP_positionOf_14 rfl (lv_at hl 2 rfl) ?_
        refine r_iald (q0 := 16) (t0 := 0) hx hb hK hP rfl rfl (by omega) (by decide) dP_positionOf_15 ?_
        refine lv_iload_n hx hb dP_positionOf_16 rfl (lv_at hl 1 rfl) ?_
        refine lv_icmp_ne (tgt := 22) hx hb dP_positionOf_17 (by decide) (fun c_17 => ?_) (fun c_17 => ?_)
        · refine lv_iinc (v := nI (k + 1)) (lv' := [(2, .int (nI (k + 1))), (0, .ref (b 0)), (1, .int (z))]) hx hb dP_positionOf_22 hl (k := 2) rfl (nI_1 _) (by decide) rfl (fun ls hl => ?_)
          refine lv_goto (tgt := 2) hx hb dP_positionOf_25 (by decide) ?_
          exact ih  (k + 1)  ls (by first | exact (fun j hj => absurd hj (Nat.not_lt_zero j)) | exact lt_s h1 c_17) (by omega) (by omega) (lv_sub hl [1, 2, 0] rfl)
        · refine lv_iload_n hx hb dP_positionOf_20 rfl (lv_at hl 2 rfl) ?_
          exact kx _ _ _ dP_positionOf_21 (by rcases hv with ⟨-, q⟩ | ⟨i, q1, q2, q3, q4⟩ <;> first | exact absurd c_17 (q k (by omega)) | (rw [q2, sI_s]; exact congrArg nI (Nat.le_antisymm (Nat.le_of_not_lt fun w => h1 i w q3) (Nat.le_of_not_lt fun w => q4 k w c_17))))
  refine lv_iconst (v := nI (0)) hx hb dP_positionOf_0 (by decide) ?_
  refine lv_istore_n (lv' := [(2, .int (nI (0))), (0, .ref (b 0)), (1, .int (z))]) hx hb dP_positionOf_1 rfl hl (by decide) rfl (fun ls hl => ?_)
  exact L2 (y.tl + 1) (0)  ls (by first | exact (fun j hj => absurd hj (Nat.not_lt_zero j)) | exact lt_s h1 c_17) (by omega) (by omega) (lv_sub hl [1, 2, 0] rfl)

set_option maxHeartbeats 4000000 in
set_option maxRecDepth 100000 in
theorem kP_elementAt_z {l : Launch} (D : va_G) (cc : Nat → ClassId) (a b : Nat → Nat) (x : LgS) (y : RpS) (z : Int32) (v : Nat) (hv : eatP y z v) (kr : okR y) : Met l yP_elementAt wsP_elementAt rmP_elementAt (va_Pc [.ref (b 0), .int (z)] (fun U => va_P D vwCl (wLR cc a b (x) (y)) U.heap ∧ EN D cc U)) (QcRead (sI v)) 0 0 (fun _ => False) := by
  refine rd_met RP [.ref (b 0), .int (z)] _ _ (by decide) rfl rfl (Nat.le_of_ble_eq_true rfl) (vp_nar_int _) ?_
  intro p e s m args below meth c Q S hB kx ls hl
  obtain ⟨hx, hb, hml, hown, hts⟩ := id S
  obtain ⟨hP, hE⟩ := hB
  have hK := hE.1
  have hts := hE.ts args
  have S : CallFix p m c cP_elementAt 2 s args wAll RP := ⟨hx, hb, hml, hown, hts⟩
  have hself := kr.self
  have htl := kr.tl
  have hl : lv_has ls 2 [(0, .ref (b 0)), (1, .int (z))] := hl
  refine lv_iload_n hx hb dP_elementAt_0 rfl (lv_at hl 1 rfl) ?_
  refine lv_if_lt (tgt := 21) hx hb dP_elementAt_1 (by decide) (fun c_1 => ?_) (fun c_1 => ?_)
  · refine lv_iconst (v := sI (0)) hx hb dP_elementAt_21 (by decide) ?_
    exact kx _ _ _ dP_elementAt_22 (by rcases hv with ⟨q, q1 | q1⟩ | ⟨i, q1, q2, q3⟩ <;> first | (rw [q]; done) | exact absurd q1 c_1 | exact absurd q1 c_9 | (rw [q3, sI_s, (nI_eq (by omega) (by omega)).mp q2]; done) | exact absurd (by rw [q2]; exact nI_pos (by omega)) (not_not_intro c_1) | exact absurd (by rw [q2]; exact nI_ge q1 (by omega)) (not_not_intro c_9))
  · refine lv_iload_n hx hb dP_elementAt_4 rfl (lv_at hl 1 rfl) ?_
    refine lv_aload_n hx hb dP_elementAt_5 rfl (lv_at hl 0 rfl) ?_
    refine va_get (D := D) (ci := 1) (v := .int (nI (y.tl))) (C := RP) (T := TP) (N := 12) hx hb hts in_P hown hK hP 7 rfl rfl 8 (by decide) (hts _ wm_52) (fun _ h9 => h9) rfl dP_elementAt_6 ?_
    refine lv_icmp_ge (tgt := 21) hx hb dP_elementAt_9 (by decide) (fun c_9 => ?_) (fun c_9 => ?_)
    · refine lv_iconst (v := sI (0)) hx hb dP_elementAt_21 (by decide) ?_
      exact kx _ _ _ dP_elementAt_22 (by rcases hv with ⟨q, q1 | q1⟩ | ⟨i, q1, q2, q3⟩ <;> first | (rw [q]; done) | exact absurd q1 c_1 | exact absurd q1 c_9 | (rw [q3, sI_s, (nI_eq (by omega) (by omega)).mp q2]; done) | exact absurd (by rw [q2]; exact nI_pos (by omega)) (not_not_intro c_1) | exact absurd (by rw [q2]; exact nI_ge q1 (by omega)) (not_not_intro c_9))
    · obtain ⟨k, hk, rfl⟩ := z_lt c_1 c_9 kr.tl
      refine lv_aload_n hx hb dP_elementAt_12 rfl (lv_at hl 0 rfl) ?_
      refine va_get (D := D) (ci := 1) (v := .ref (b 9)) (C := RP) (T := TP) (N := 12) hx hb hts in_P hown hK hP 7 rfl rfl 7 (by decide) (hts _ wm_51) (fun _ h9 => h9) rfl dP_elementAt_13 ?_
      refine lv_iload_n hx hb dP_elementAt_16 rfl (lv_at hl 1 rfl) ?_
      refine r_iald (q0 := 16) (t0 := 0) hx hb hK hP rfl rfl (by omega) (by decide) dP_elementAt_17 ?_
      refine lv_goto (tgt := 22) hx hb dP_elementAt_18 (by decide) ?_
      exact kx _ _ _ dP_elementAt_22 (by rcases hv with ⟨q, q1 | q1⟩ | ⟨i, q1, q2, q3⟩ <;> first | (rw [q]; done) | exact absurd q1 c_1 | exact absurd q1 c_9 | (rw [q3, sI_s, (nI_eq (by omega) (by omega)).mp q2]; done) | exact absurd (by rw [q2]; exact nI_pos (by omega)) (not_not_intro c_1) | exact absurd (by rw [q2]; exact nI_ge q1 (by omega)) (not_not_intro c_9))

def rmP_readsLike : Room := { frames := 0, cells := 0, slots := 0, locals := 0 }
set_option maxHeartbeats 4000000 in
set_option maxRecDepth 100000 in
theorem kP_readsLike {l : Launch} (D : va_G) (cc : Nat → ClassId) (a b d : Nat → Nat) (x : LgS) (y y2 : RpS) (ok : okL x) (kr : okR y) (kr2 : okR y2) : Met l yP_readsLike wsP_readsLike rmP_readsLike (va_Pc [.ref (b 0), .ref (d 0)] (fun U => va_P D vwCl (wLRR cc a b d (x) (y) y2) U.heap ∧ EN D cc U)) (QcRead (bI (rdlA x y y2))) 0 0 (fun _ => False) := by
  refine rd_met RP [.ref (b 0), .ref (d 0)] _ _ (by decide) rfl rfl (Nat.le_of_ble_eq_true rfl) (bI_z _) ?_
  intro p e s m args below meth c Q S hB kx ls hl
  obtain ⟨hx, hb, hml, hown, hts⟩ := id S
  obtain ⟨hP, hE⟩ := hB
  have hK := hE.1
  have hts := hE.ts args
  have S : CallFix p m c cP_readsLike 3 s args wAll RP := ⟨hx, hb, hml, hown, hts⟩
  have hn := ok.n
  have he := ok.e
  have hself := kr.self
  have htl := kr.tl
  have hl : lv_has ls 3 [(0, .ref (b 0)), (1, .ref (d 0))] := hl
  have L15 : ∀ (n : Nat) (i : Nat)  (ls : Array Slot) (h0 : y.tl = y2.tl) (h1 : i ≤ y.tl) (h2 : y.tl - i < n) (h3 : ∀ k, k < i → x.chr (y.txt k) = x.chr (y2.txt k)), lv_has ls 3 [(0, .ref (b 0)), (1, .ref (d 0)), (2, .int (nI (i)))] → W p l e rmP_readsLike s m args below meth c s.heap [] 0 0 Q (F0 m 15 ls []) := by
    intro n
    induction n with
    | zero => intro i ls h0 h1 h2 h3 hl; exact absurd h2 (Nat.not_lt_zero _)
    | succ n ih =>
      intro i ls h0 h1 h2 h3 hl
      refine lv_iload_n hx hb dP_readsLike_15 rfl (lv_at hl 2 rfl) ?_
      refine lv_aload_n hx hb dP_readsLike_16 rfl (lv_at hl 0 rfl) ?_
      refine va_get (D := D) (ci := 1) (v := .int (nI (y.tl))) (C := RP) (T := TP) (N := 12) hx hb hts in_P hown hK hP 7 rfl rfl 8 (by decide) (hts _ wm_52) (fun _ h9 => h9) rfl dP_readsLike_17 ?_
      refine r_ge (by omega) (Nat.lt_of_le_of_lt kr.tl (by decide)) (tgt := 62) hx hb dP_readsLike_20 (by decide) (fun c_20 => ?_) (fun c_20 => ?_)
      · refine lv_iconst (v := bI (true)) hx hb dP_readsLike_62 (by decide) ?_
        exact kx _ _ _ dP_readsLike_63 (by unfold rdlA; rw [andF_t (decide_eq_true h0) (fun k hk => decide_eq_true (h3 k (by omega)))])
      · refine lv_aload_n hx hb dP_readsLike_23 rfl (lv_at hl 0 rfl) ?_
        refine va_get (D := D) (ci := 1) (v := .ref (a 0)) (C := RP) (T := TP) (N := 12) hx hb hts in_P hown hK hP 7 rfl rfl 1 (by decide) (hts _ wm_45) (fun _ h9 => h9) rfl dP_readsLike_24 ?_
        refine va_getN (D := D) (ci := 0) (v := .ref (a 4)) (C := RL) (T := TL) (N := 8) hx hb hts in_L hown hK hP 0 rfl rfl 3 (by decide) (hE.f nf_5) (fun _ h9 => h9) rfl dP_readsLike_27 ?_
        refine lv_aload_n hx hb dP_readsLike_30 rfl (lv_at hl 0 rfl) ?_
        refine va_get (D := D) (ci := 1) (v := .ref (b 9)) (C := RP) (T := TP) (N := 12) hx hb hts in_P hown hK hP 7 rfl rfl 7 (by decide) (hts _ wm_51) (fun _ h9 => h9) rfl dP_readsLike_31 ?_
        refine lv_iload_n hx hb dP_readsLike_34 rfl (lv_at hl 2 rfl) ?_
        refine r_iald (q0 := 16) (t0 := 0) hx hb hK hP rfl rfl (by omega) (by decide) dP_readsLike_35 ?_
        refine r_cald (q0 := 4) (t0 := 2) hx hb hK hP rfl rfl (kr.txt100 _) (by decide) dP_readsLike_36 ?_
        refine lv_aload_n hx hb dP_readsLike_37 rfl (lv_at hl 0 rfl) ?_
        refine va_get (D := D) (ci := 1) (v := .ref (a 0)) (C := RP) (T := TP) (N := 12) hx hb hts in_P hown hK hP 7 rfl rfl 1 (by decide) (hts _ wm_45) (fun _ h9 => h9) rfl dP_readsLike_38 ?_
        refine va_getN (D := D) (ci := 0) (v := .ref (a 4)) (C := RL) (T := TL) (N := 8) hx hb hts in_L hown hK hP 0 rfl rfl 3 (by decide) (hE.f nf_5) (fun _ h9 => h9) rfl dP_readsLike_41 ?_
        refine lv_aload_n hx hb dP_readsLike_44 rfl (lv_at hl 1 rfl) ?_
        refine va_get (D := D) (ci := 1) (v := .ref (d 9)) (C := RP) (T := TP) (N := 12) hx hb hts in_P hown hK hP 17 rfl rfl 7 (by decide) (hts _ wm_51) (fun _ h9 => h9) rfl dP_readsLike_45 ?_
        refine lv_iload_n hx hb dP_readsLike_48 rfl (lv_at hl 2 rfl) ?_
        refine r_iald (q0 := 26) (t0 := 0) hx hb hK hP rfl rfl (by omega) (by decide) dP_readsLike_49 ?_
        refine r_cald (q0 := 4) (t0 := 2) hx hb hK hP rfl rfl (kr2.txt100 _) (by decide) dP_readsLike_50 ?_
        refine r_eq (ok.chr (y.txt i)) (ok.chr (y2.txt i)) (tgt := 56) hx hb dP_readsLike_51 (by decide) (fun c_51 => ?_) (fun c_51 => ?_)
        · refine lv_iinc (v := nI (i + 1)) (lv' := [(2, .int (nI (i + 1))), (0, .ref (b 0)), (1, .ref (d 0))]) hx hb dP_readsLike_56 hl (k := 2) rfl (nI_1 _) (by decide) rfl (fun ls hl => ?_)
          refine lv_goto (tgt := 15) hx hb dP_readsLike_59 (by decide) ?_
          exact ih  (i + 1)  ls (by first | exact h0 | exact c_8 | rfl) (by omega) (by omega) (by first | exact (fun j hj => absurd hj (Nat.not_lt_zero j)) | exact lt_s h3 c_51) (lv_sub hl [1, 2, 0] rfl)
        · refine lv_iconst (v := bI (false)) hx hb dP_readsLike_54 (by decide) ?_
          exact kx _ _ _ dP_readsLike_55 (by unfold rdlA; rw [andF_f (i := i) (by omega) (decide_eq_false c_51)])
  refine lv_aload_n hx hb dP_readsLike_0 rfl (lv_at hl 0 rfl) ?_
  refine va_get (D := D) (ci := 1) (v := .int (nI (y.tl))) (C := RP) (T := TP) (N := 12) hx hb hts in_P hown hK hP 7 rfl rfl 8 (by decide) (hts _ wm_52) (fun _ h9 => h9) rfl dP_readsLike_1 ?_
  refine lv_aload_n hx hb dP_readsLike_4 rfl (lv_at hl 1 rfl) ?_
  refine va_get (D := D) (ci := 1) (v := .int (nI (y2.tl))) (C := RP) (T := TP) (N := 12) hx hb hts in_P hown hK hP 17 rfl rfl 8 (by decide) (hts _ wm_52) (fun _ h9 => h9) rfl dP_readsLike_5 ?_
  refine r_eq (Nat.lt_of_le_of_lt kr.tl (by decide)) (Nat.lt_of_le_of_lt kr2.tl (by decide)) (tgt := 13) hx hb dP_readsLike_8 (by decide) (fun c_8 => ?_) (fun c_8 => ?_)
  · refine lv_iconst (v := nI (0)) hx hb dP_readsLike_13 (by decide) ?_
    refine lv_istore_n (lv' := [(2, .int (nI (0))), (0, .ref (b 0)), (1, .ref (d 0))]) hx hb dP_readsLike_14 rfl hl (by decide) rfl (fun ls hl => ?_)
    exact L15 (y.tl + 1) (0)  ls (by first | exact h0 | exact c_8 | rfl) (by omega) (by omega) (by first | exact (fun j hj => absurd hj (Nat.not_lt_zero j)) | exact lt_s h3 c_51) (lv_sub hl [1, 2, 0] rfl)
  · refine lv_iconst (v := bI (false)) hx hb dP_readsLike_11 (by decide) ?_
    exact kx _ _ _ dP_readsLike_12 (by unfold rdlA; rw [decide_eq_false c_8, andF_fb])

set_option maxHeartbeats 4000000 in
set_option maxRecDepth 100000 in
theorem kP_readsLike_s {l : Launch} (D : va_G) (cc : Nat → ClassId) (a b : Nat → Nat) (x : LgS) (y : RpS) (ok : okL x) (kr : okR y) : Met l yP_readsLike wsP_readsLike rmP_readsLike (va_Pc [.ref (b 0), .ref (b 0)] (fun U => va_P D vwCl (wLR cc a b (x) (y)) U.heap ∧ EN D cc U)) (QcRead (bI (rdlA x y y))) 0 0 (fun _ => False) := by
  refine rd_met RP [.ref (b 0), .ref (b 0)] _ _ (by decide) rfl rfl (Nat.le_of_ble_eq_true rfl) (bI_z _) ?_
  intro p e s m args below meth c Q S hB kx ls hl
  obtain ⟨hx, hb, hml, hown, hts⟩ := id S
  obtain ⟨hP, hE⟩ := hB
  have hK := hE.1
  have hts := hE.ts args
  have S : CallFix p m c cP_readsLike 3 s args wAll RP := ⟨hx, hb, hml, hown, hts⟩
  have hn := ok.n
  have he := ok.e
  have hself := kr.self
  have htl := kr.tl
  have hl : lv_has ls 3 [(0, .ref (b 0)), (1, .ref (b 0))] := hl
  have L15 : ∀ (n : Nat) (i : Nat)  (ls : Array Slot) (h0 : y.tl = y.tl) (h1 : i ≤ y.tl) (h2 : y.tl - i < n) (h3 : ∀ k, k < i → x.chr (y.txt k) = x.chr (y.txt k)), lv_has ls 3 [(0, .ref (b 0)), (1, .ref (b 0)), (2, .int (nI (i)))] → W p l e rmP_readsLike s m args below meth c s.heap [] 0 0 Q (F0 m 15 ls []) := by
    intro n
    induction n with
    | zero => intro i ls h0 h1 h2 h3 hl; exact absurd h2 (Nat.not_lt_zero _)
    | succ n ih =>
      intro i ls h0 h1 h2 h3 hl
      refine lv_iload_n hx hb dP_readsLike_15 rfl (lv_at hl 2 rfl) ?_
      refine lv_aload_n hx hb dP_readsLike_16 rfl (lv_at hl 0 rfl) ?_
      refine va_get (D := D) (ci := 1) (v := .int (nI (y.tl))) (C := RP) (T := TP) (N := 12) hx hb hts in_P hown hK hP 7 rfl rfl 8 (by decide) (hts _ wm_52) (fun _ h9 => h9) rfl dP_readsLike_17 ?_
      refine r_ge (by omega) (Nat.lt_of_le_of_lt kr.tl (by decide)) (tgt := 62) hx hb dP_readsLike_20 (by decide) (fun c_20 => ?_) (fun c_20 => ?_)
      · refine lv_iconst (v := bI (true)) hx hb dP_readsLike_62 (by decide) ?_
        exact kx _ _ _ dP_readsLike_63 (by unfold rdlA; rw [andF_t (decide_eq_true h0) (fun k hk => decide_eq_true (h3 k (by omega)))])
      · refine lv_aload_n hx hb dP_readsLike_23 rfl (lv_at hl 0 rfl) ?_
        refine va_get (D := D) (ci := 1) (v := .ref (a 0)) (C := RP) (T := TP) (N := 12) hx hb hts in_P hown hK hP 7 rfl rfl 1 (by decide) (hts _ wm_45) (fun _ h9 => h9) rfl dP_readsLike_24 ?_
        refine va_getN (D := D) (ci := 0) (v := .ref (a 4)) (C := RL) (T := TL) (N := 8) hx hb hts in_L hown hK hP 0 rfl rfl 3 (by decide) (hE.f nf_5) (fun _ h9 => h9) rfl dP_readsLike_27 ?_
        refine lv_aload_n hx hb dP_readsLike_30 rfl (lv_at hl 0 rfl) ?_
        refine va_get (D := D) (ci := 1) (v := .ref (b 9)) (C := RP) (T := TP) (N := 12) hx hb hts in_P hown hK hP 7 rfl rfl 7 (by decide) (hts _ wm_51) (fun _ h9 => h9) rfl dP_readsLike_31 ?_
        refine lv_iload_n hx hb dP_readsLike_34 rfl (lv_at hl 2 rfl) ?_
        refine r_iald (q0 := 16) (t0 := 0) hx hb hK hP rfl rfl (by omega) (by decide) dP_readsLike_35 ?_
        refine r_cald (q0 := 4) (t0 := 2) hx hb hK hP rfl rfl (kr.txt100 _) (by decide) dP_readsLike_36 ?_
        refine lv_aload_n hx hb dP_readsLike_37 rfl (lv_at hl 0 rfl) ?_
        refine va_get (D := D) (ci := 1) (v := .ref (a 0)) (C := RP) (T := TP) (N := 12) hx hb hts in_P hown hK hP 7 rfl rfl 1 (by decide) (hts _ wm_45) (fun _ h9 => h9) rfl dP_readsLike_38 ?_
        refine va_getN (D := D) (ci := 0) (v := .ref (a 4)) (C := RL) (T := TL) (N := 8) hx hb hts in_L hown hK hP 0 rfl rfl 3 (by decide) (hE.f nf_5) (fun _ h9 => h9) rfl dP_readsLike_41 ?_
        refine lv_aload_n hx hb dP_readsLike_44 rfl (lv_at hl 1 rfl) ?_
        refine va_get (D := D) (ci := 1) (v := .ref (b 9)) (C := RP) (T := TP) (N := 12) hx hb hts in_P hown hK hP 7 rfl rfl 7 (by decide) (hts _ wm_51) (fun _ h9 => h9) rfl dP_readsLike_45 ?_
        refine lv_iload_n hx hb dP_readsLike_48 rfl (lv_at hl 2 rfl) ?_
        refine r_iald (q0 := 16) (t0 := 0) hx hb hK hP rfl rfl (by omega) (by decide) dP_readsLike_49 ?_
        refine r_cald (q0 := 4) (t0 := 2) hx hb hK hP rfl rfl (kr.txt100 _) (by decide) dP_readsLike_50 ?_
        refine r_eq (ok.chr (y.txt i)) (ok.chr (y.txt i)) (tgt := 56) hx hb dP_readsLike_51 (by decide) (fun c_51 => ?_) (fun c_51 => ?_)
        · refine lv_iinc (v := nI (i + 1)) (lv' := [(2, .int (nI (i + 1))), (0, .ref (b 0)), (1, .ref (b 0))]) hx hb dP_readsLike_56 hl (k := 2) rfl (nI_1 _) (by decide) rfl (fun ls hl => ?_)
          refine lv_goto (tgt := 15) hx hb dP_readsLike_59 (by decide) ?_
          exact ih  (i + 1)  ls (by first | exact h0 | exact c_8 | rfl) (by omega) (by omega) (by first | exact (fun j hj => absurd hj (Nat.not_lt_zero j)) | exact lt_s h3 c_51) (lv_sub hl [1, 2, 0] rfl)
        · refine lv_iconst (v := bI (false)) hx hb dP_readsLike_54 (by decide) ?_
          exact kx _ _ _ dP_readsLike_55 (by unfold rdlA; rw [andF_f (i := i) (by omega) (decide_eq_false c_51)])
  refine lv_aload_n hx hb dP_readsLike_0 rfl (lv_at hl 0 rfl) ?_
  refine va_get (D := D) (ci := 1) (v := .int (nI (y.tl))) (C := RP) (T := TP) (N := 12) hx hb hts in_P hown hK hP 7 rfl rfl 8 (by decide) (hts _ wm_52) (fun _ h9 => h9) rfl dP_readsLike_1 ?_
  refine lv_aload_n hx hb dP_readsLike_4 rfl (lv_at hl 1 rfl) ?_
  refine va_get (D := D) (ci := 1) (v := .int (nI (y.tl))) (C := RP) (T := TP) (N := 12) hx hb hts in_P hown hK hP 7 rfl rfl 8 (by decide) (hts _ wm_52) (fun _ h9 => h9) rfl dP_readsLike_5 ?_
  refine r_eq (Nat.lt_of_le_of_lt kr.tl (by decide)) (Nat.lt_of_le_of_lt kr.tl (by decide)) (tgt := 13) hx hb dP_readsLike_8 (by decide) (fun c_8 => ?_) (fun c_8 => absurd rfl c_8)
  refine lv_iconst (v := nI (0)) hx hb dP_readsLike_13 (by decide) ?_
  refine lv_istore_n (lv' := [(2, .int (nI (0))), (0, .ref (b 0)), (1, .ref (b 0))]) hx hb dP_readsLike_14 rfl hl (by decide) rfl (fun ls hl => ?_)
  exact L15 (y.tl + 1) (0)  ls (by first | exact h0 | exact c_8 | rfl) (by omega) (by omega) (by first | exact (fun j hj => absurd hj (Nat.not_lt_zero j)) | exact lt_s h3 c_51) (lv_sub hl [1, 2, 0] rfl)

def rmP_receiveAllOf : Room := { frames := 4, cells := 0, slots := 0, locals := 85 }
set_option maxHeartbeats 4000000 in
set_option maxRecDepth 100000 in
theorem kP_receiveAllOf {l : Launch} (D : va_G) (cc : Nat → ClassId) (a b d : Nat → Nat) (x : LgS) (y y2 : RpS) (sz : Nat) (hkr : ∀ o, o ≤ x.cnt → okR (rcaF x y y2 o)) (ok : okL x) (kr : okR y) (kr2 : okR y2) : Met l yP_receiveAllOf wsP_receiveAllOf rmP_receiveAllOf (va_Pc [.ref (b 0), .ref (d 0)] (WP D cc (wLRR cc a b d (x) (y) y2) sz)) (va_Qv (fun _ : Unit => True) (WQ D cc (va_A (wLRR cc a b d (x) (y) y2) sz) (fun _ : Unit => wLRR cc a b d (x) (rcaF x y y2 x.cnt) y2)) (va_A (wLRR cc a b d (x) (y) y2) sz)) 0 0 (va_A (wLRR cc a b d (x) (y) y2) sz) := by
  refine wr_metv RP [.ref (b 0), .ref (d 0)] D cc (wLRR cc a b d (x) (y) y2) sz (fun _ : Unit => wLRR cc a b d (x) (rcaF x y y2 x.cnt) y2) _ (by decide) rfl rfl (Nat.le_of_ble_eq_true rfl) ?_
  intro p e s m args below meth c Q A S hP hE hD hA kx ls hl
  obtain ⟨hx, hb, hml, hown, hts⟩ := id S
  have hK := hE.1
  have hts := hE.ts args
  have S : CallFix p m c cP_receiveAllOf 3 s args wAll RP := ⟨hx, hb, hml, hown, hts⟩
  have hS : va_S A s.heap s.heap [] := va_S.rf
  have hn := ok.n
  have he := ok.e
  have hself := kr.self
  have htl := kr.tl
  have hl : lv_has ls 3 [(0, .ref (b 0)), (1, .ref (d 0))] := hl
  have L2 : ∀ (n : Nat) (o : Nat) (H : Heap) (locs : List Loc) (hP : va_P D vwCl (wLRR cc a b d (x) (rcaF x y y2 o) y2) H) (hD : va_D A (wLRR cc a b d (x) (rcaF x y y2 o) y2)) (hS : va_S A s.heap H locs) (ls : Array Slot) (h1 : o ≤ x.cnt) (h2 : x.cnt - o < n), lv_has ls 3 [(0, .ref (b 0)), (1, .ref (d 0)), (2, .int (nI (o)))] → W p l e rmP_receiveAllOf s m args below meth c H locs 0 0 Q (F0 m 2 ls []) := by
    intro n
    induction n with
    | zero => intro o H locs hP hD hS ls h1 h2 hl; exact absurd h2 (Nat.not_lt_zero _)
    | succ n ih =>
      intro o H locs hP hD hS ls h1 h2 hl
      have kr3 := hkr o h1
      refine lv_iload_n hx hb dP_receiveAllOf_2 rfl (lv_at hl 2 rfl) ?_
      refine lv_aload_n hx hb dP_receiveAllOf_3 rfl (lv_at hl 0 rfl) ?_
      refine va_get (D := D) (ci := 1) (v := .ref (a 0)) (C := RP) (T := TP) (N := 12) hx hb hts in_P hown hK hP 7 rfl rfl 1 (by decide) (hts _ wm_45) (fun _ h9 => h9) rfl dP_receiveAllOf_4 ?_
      refine va_getN (D := D) (ci := 0) (v := .int (nI (x.cnt))) (C := RL) (T := TL) (N := 8) hx hb hts in_L hown hK hP 0 rfl rfl 6 (by decide) (hE.f nf_8) (fun _ h9 => h9) rfl dP_receiveAllOf_7 ?_
      refine r_ge (by omega) (Nat.lt_of_le_of_lt ok.n (by decide)) (tgt := 32) hx hb dP_receiveAllOf_10 (by decide) (fun c_10 => ?_) (fun c_10 => ?_)
      · obtain rfl : o = x.cnt := by omega
        exact kx _ _ _ _ (()) dP_receiveAllOf_32 hS hP hD (trivial)
      · refine lv_aload_n hx hb dP_receiveAllOf_13 rfl (lv_at hl 1 rfl) ?_
        refine lv_iload_n hx hb dP_receiveAllOf_14 rfl (lv_at hl 2 rfl) ?_
        refine W.callR (W.runV (As := [.int (nI (o))]) (rest := []) S (kP_hasApplied D cc a d x y2 (o) (by omega) ok kr2) (cwV 1 hts (gd_V wm_130 wm_131 wm_132 wm_3 wm_133) rfl rfl rfl (by decide +kernel) ⟨Nat.le_of_ble_eq_true rfl, Nat.le_of_ble_eq_true rfl⟩) (rd_preV (q0 := 7) (lrr_P2 hP) hE rfl rfl) rfl rfl hl.1 rfl (lv_room (Nat.le_of_ble_eq_true rfl)) dP_receiveAllOf_15 ⟨Nat.le_of_ble_eq_true rfl, Nat.le_of_ble_eq_true rfl⟩) ?_
        refine W.eq (g2 := F0 m 18 ls [.int (bI (hasL x y2 (o)))]) rfl ?_
        refine r_eqB (tgt := 26) hx hb dP_receiveAllOf_18 (by decide) (fun c_18 => ?_) (fun c_18 => ?_)
        · refine lv_iinc (v := nI (o + 1)) (lv' := [(2, .int (nI (o + 1))), (0, .ref (b 0)), (1, .ref (d 0))]) hx hb dP_receiveAllOf_26 hl (k := 2) rfl (nI_1 _) (by decide) rfl (fun ls hl => ?_)
          refine lv_goto (tgt := 2) hx hb dP_receiveAllOf_29 (by decide) ?_
          have hP : va_P D vwCl (wLRR cc a b d (x) (rcaF x y y2 (o + 1)) y2) H := by first | (rw [rcaF_t c_18]; exact hP) | (rw [rcaF_f c_18]; exact hP)
          have hD : va_D A (wLRR cc a b d (x) (rcaF x y y2 (o + 1)) y2) := by first | (rw [rcaF_t c_18]; exact hD) | (rw [rcaF_f c_18]; exact hD)
          exact ih  (o + 1) H locs hP hD hS ls (by omega) (by omega) (lv_sub hl [1, 2, 0] rfl)
        · refine lv_aload_n hx hb dP_receiveAllOf_21 rfl (lv_at hl 0 rfl) ?_
          refine lv_iload_n hx hb dP_receiveAllOf_22 rfl (lv_at hl 2 rfl) ?_
          refine wr_callv (w2 := wR cc (a 0) d y2) (va_runV (As := [.int (nI (o))]) (rest := []) S (kP_receive D cc a b x (rcaF x y y2 o) (H.size) o (by omega) ok kr3) (cwV 1 hts (gd_V wm_169 wm_151 wm_152 wm_3 wm_153) rfl rfl rfl (by decide +kernel) ⟨Nat.le_of_ble_eq_true rfl, Nat.le_of_ble_eq_true rfl⟩) (wr_preV (q0 := 7) (P_left hP) hE (D_left hD) rfl rfl) rfl rfl hl.1 rfl (lv_room (Nat.le_of_ble_eq_true rfl)) dP_receiveAllOf_23 ⟨Nat.le_of_ble_eq_true rfl, Nat.le_of_ble_eq_true rfl⟩) hP hD hS hA (fun u H locs hpo hP hD hS => ?_)
          have hP : va_P D vwCl (wLRR cc a b d (x) (rcvR x (rcaF x y y2 o) o) y2) H := hP
          have hD : va_D A (wLRR cc a b d (x) (rcvR x (rcaF x y y2 o) o) y2) := hD
          refine lv_iinc (v := nI (o + 1)) (lv' := [(2, .int (nI (o + 1))), (0, .ref (b 0)), (1, .ref (d 0))]) hx hb dP_receiveAllOf_26 hl (k := 2) rfl (nI_1 _) (by decide) rfl (fun ls hl => ?_)
          refine lv_goto (tgt := 2) hx hb dP_receiveAllOf_29 (by decide) ?_
          have hP : va_P D vwCl (wLRR cc a b d (x) (rcaF x y y2 (o + 1)) y2) H := by first | (rw [rcaF_t c_18]; exact hP) | (rw [rcaF_f c_18]; exact hP)
          have hD : va_D A (wLRR cc a b d (x) (rcaF x y y2 (o + 1)) y2) := by first | (rw [rcaF_t c_18]; exact hD) | (rw [rcaF_f c_18]; exact hD)
          exact ih  (o + 1) H locs hP hD hS ls (by omega) (by omega) (lv_sub hl [1, 2, 0] rfl)
  refine lv_iconst (v := nI (0)) hx hb dP_receiveAllOf_0 (by decide) ?_
  refine lv_istore_n (lv' := [(2, .int (nI (0))), (0, .ref (b 0)), (1, .ref (d 0))]) hx hb dP_receiveAllOf_1 rfl hl (by decide) rfl (fun ls hl => ?_)
  exact L2 (x.cnt + 1) (0) s.heap [] hP hD hS ls (by omega) (by omega) (lv_sub hl [1, 2, 0] rfl)

set_option maxHeartbeats 4000000 in
set_option maxRecDepth 100000 in
theorem kP_receiveAllOf_s {l : Launch} (D : va_G) (cc : Nat → ClassId) (a b : Nat → Nat) (x : LgS) (y : RpS) (sz : Nat) (hkr : ∀ o, o ≤ x.cnt → okR (rcaF x y y o)) (ok : okL x) (kr : okR y) : Met l yP_receiveAllOf wsP_receiveAllOf rmP_receiveAllOf (va_Pc [.ref (b 0), .ref (b 0)] (WP D cc (wLR cc a b (x) (y)) sz)) (va_Qv (fun _ : Unit => True) (WQ D cc (va_A (wLR cc a b (x) (y)) sz) (fun _ : Unit => wLR cc a b (x) (rcaF x y y x.cnt))) (va_A (wLR cc a b (x) (y)) sz)) 0 0 (va_A (wLR cc a b (x) (y)) sz) := by
  refine wr_metv RP [.ref (b 0), .ref (b 0)] D cc (wLR cc a b (x) (y)) sz (fun _ : Unit => wLR cc a b (x) (rcaF x y y x.cnt)) _ (by decide) rfl rfl (Nat.le_of_ble_eq_true rfl) ?_
  intro p e s m args below meth c Q A S hP hE hD hA kx ls hl
  obtain ⟨hx, hb, hml, hown, hts⟩ := id S
  have hK := hE.1
  have hts := hE.ts args
  have S : CallFix p m c cP_receiveAllOf 3 s args wAll RP := ⟨hx, hb, hml, hown, hts⟩
  have hS : va_S A s.heap s.heap [] := va_S.rf
  have hn := ok.n
  have he := ok.e
  have hself := kr.self
  have htl := kr.tl
  have hl : lv_has ls 3 [(0, .ref (b 0)), (1, .ref (b 0))] := hl
  have L2 : ∀ (n : Nat) (o : Nat) (H : Heap) (locs : List Loc) (hP : va_P D vwCl (wLR cc a b (x) (rcaF x y y o)) H) (hD : va_D A (wLR cc a b (x) (rcaF x y y o))) (hS : va_S A s.heap H locs) (ls : Array Slot) (h1 : o ≤ x.cnt) (h2 : x.cnt - o < n), lv_has ls 3 [(0, .ref (b 0)), (1, .ref (b 0)), (2, .int (nI (o)))] → W p l e rmP_receiveAllOf s m args below meth c H locs 0 0 Q (F0 m 2 ls []) := by
    intro n
    induction n with
    | zero => intro o H locs hP hD hS ls h1 h2 hl; exact absurd h2 (Nat.not_lt_zero _)
    | succ n ih =>
      intro o H locs hP hD hS ls h1 h2 hl
      have kr3 := hkr o h1
      refine lv_iload_n hx hb dP_receiveAllOf_2 rfl (lv_at hl 2 rfl) ?_
      refine lv_aload_n hx hb dP_receiveAllOf_3 rfl (lv_at hl 0 rfl) ?_
      refine va_get (D := D) (ci := 1) (v := .ref (a 0)) (C := RP) (T := TP) (N := 12) hx hb hts in_P hown hK hP 7 rfl rfl 1 (by decide) (hts _ wm_45) (fun _ h9 => h9) rfl dP_receiveAllOf_4 ?_
      refine va_getN (D := D) (ci := 0) (v := .int (nI (x.cnt))) (C := RL) (T := TL) (N := 8) hx hb hts in_L hown hK hP 0 rfl rfl 6 (by decide) (hE.f nf_8) (fun _ h9 => h9) rfl dP_receiveAllOf_7 ?_
      refine r_ge (by omega) (Nat.lt_of_le_of_lt ok.n (by decide)) (tgt := 32) hx hb dP_receiveAllOf_10 (by decide) (fun c_10 => ?_) (fun c_10 => ?_)
      · obtain rfl : o = x.cnt := by omega
        exact kx _ _ _ _ (()) dP_receiveAllOf_32 hS hP hD (trivial)
      · refine lv_aload_n hx hb dP_receiveAllOf_13 rfl (lv_at hl 1 rfl) ?_
        refine lv_iload_n hx hb dP_receiveAllOf_14 rfl (lv_at hl 2 rfl) ?_
        refine W.callR (W.runV (As := [.int (nI (o))]) (rest := []) S (kP_hasApplied D cc a b x (rcaF x y y o) (o) (by omega) ok kr3) (cwV 1 hts (gd_V wm_130 wm_131 wm_132 wm_3 wm_133) rfl rfl rfl (by decide +kernel) ⟨Nat.le_of_ble_eq_true rfl, Nat.le_of_ble_eq_true rfl⟩) (rd_preV (q0 := 7) hP hE rfl rfl) rfl rfl hl.1 rfl (lv_room (Nat.le_of_ble_eq_true rfl)) dP_receiveAllOf_15 ⟨Nat.le_of_ble_eq_true rfl, Nat.le_of_ble_eq_true rfl⟩) ?_
        refine W.eq (g2 := F0 m 18 ls [.int (bI (hasL x (rcaF x y y o) (o)))]) rfl ?_
        refine r_eqB (tgt := 26) hx hb dP_receiveAllOf_18 (by decide) (fun c_18 => ?_) (fun c_18 => ?_)
        · refine lv_iinc (v := nI (o + 1)) (lv' := [(2, .int (nI (o + 1))), (0, .ref (b 0)), (1, .ref (b 0))]) hx hb dP_receiveAllOf_26 hl (k := 2) rfl (nI_1 _) (by decide) rfl (fun ls hl => ?_)
          refine lv_goto (tgt := 2) hx hb dP_receiveAllOf_29 (by decide) ?_
          have hP : va_P D vwCl (wLR cc a b (x) (rcaF x y y (o + 1))) H := by first | (rw [rcaF_t (show hasL x y o = true from by rw [← hasL_rca x y y o o]; exact c_18)]; exact hP) | (rw [rcaF_f (show hasL x y o = false from by rw [← hasL_rca x y y o o]; exact c_18)]; exact hP)
          have hD : va_D A (wLR cc a b (x) (rcaF x y y (o + 1))) := by first | (rw [rcaF_t (show hasL x y o = true from by rw [← hasL_rca x y y o o]; exact c_18)]; exact hD) | (rw [rcaF_f (show hasL x y o = false from by rw [← hasL_rca x y y o o]; exact c_18)]; exact hD)
          exact ih  (o + 1) H locs hP hD hS ls (by omega) (by omega) (lv_sub hl [1, 2, 0] rfl)
        · refine lv_aload_n hx hb dP_receiveAllOf_21 rfl (lv_at hl 0 rfl) ?_
          refine lv_iload_n hx hb dP_receiveAllOf_22 rfl (lv_at hl 2 rfl) ?_
          refine wr_callv (w2 := []) (va_runV (As := [.int (nI (o))]) (rest := []) S (kP_receive D cc a b x (rcaF x y y o) (H.size) o (by omega) ok kr3) (cwV 1 hts (gd_V wm_169 wm_151 wm_152 wm_3 wm_153) rfl rfl rfl (by decide +kernel) ⟨Nat.le_of_ble_eq_true rfl, Nat.le_of_ble_eq_true rfl⟩) (wr_preV (q0 := 7) hP hE hD rfl rfl) rfl rfl hl.1 rfl (lv_room (Nat.le_of_ble_eq_true rfl)) dP_receiveAllOf_23 ⟨Nat.le_of_ble_eq_true rfl, Nat.le_of_ble_eq_true rfl⟩) (by rw [List.append_nil]; exact hP) (by rw [List.append_nil]; exact hD) hS hA (fun u H locs hpo hP hD hS => ?_)
          rw [List.append_nil] at hP hD
          have hP : va_P D vwCl (wLR cc a b (x) (rcvR x (rcaF x y y o) o)) H := hP
          have hD : va_D A (wLR cc a b (x) (rcvR x (rcaF x y y o) o)) := hD
          refine lv_iinc (v := nI (o + 1)) (lv' := [(2, .int (nI (o + 1))), (0, .ref (b 0)), (1, .ref (b 0))]) hx hb dP_receiveAllOf_26 hl (k := 2) rfl (nI_1 _) (by decide) rfl (fun ls hl => ?_)
          refine lv_goto (tgt := 2) hx hb dP_receiveAllOf_29 (by decide) ?_
          have hP : va_P D vwCl (wLR cc a b (x) (rcaF x y y (o + 1))) H := by first | (rw [rcaF_t (show hasL x y o = true from by rw [← hasL_rca x y y o o]; exact c_18)]; exact hP) | (rw [rcaF_f (show hasL x y o = false from by rw [← hasL_rca x y y o o]; exact c_18)]; exact hP)
          have hD : va_D A (wLR cc a b (x) (rcaF x y y (o + 1))) := by first | (rw [rcaF_t (show hasL x y o = true from by rw [← hasL_rca x y y o o]; exact c_18)]; exact hD) | (rw [rcaF_f (show hasL x y o = false from by rw [← hasL_rca x y y o o]; exact c_18)]; exact hD)
          exact ih  (o + 1) H locs hP hD hS ls (by omega) (by omega) (lv_sub hl [1, 2, 0] rfl)
  refine lv_iconst (v := nI (0)) hx hb dP_receiveAllOf_0 (by decide) ?_
  refine lv_istore_n (lv' := [(2, .int (nI (0))), (0, .ref (b 0)), (1, .ref (b 0))]) hx hb dP_receiveAllOf_1 rfl hl (by decide) rfl (fun ls hl => ?_)
  exact L2 (x.cnt + 1) (0) s.heap [] hP hD hS ls (by omega) (by omega) (lv_sub hl [1, 2, 0] rfl)

def rmP_markWhatMayGo : Room := { frames := 4, cells := 0, slots := 0, locals := 88 }
set_option maxHeartbeats 4000000 in
set_option maxRecDepth 100000 in
theorem kP_markWhatMayGo {l : Launch} (D : va_G) (cc : Nat → ClassId) (a b : Nat → Nat) (x : LgS) (y : RpS) (sz : Nat) (ht : ∀ o, o < x.cnt → x.chr o = 0 → 0 < x.tgt o) (ok : okL x) (kr : okR y) : Met l yP_markWhatMayGo wsP_markWhatMayGo rmP_markWhatMayGo (va_Pc [.ref (b 0)] (WP D cc (wLR cc a b (x) (y)) sz)) (va_Qv (fun _ : Unit => True) (WQ D cc (va_A (wLR cc a b (x) (y)) sz) (fun _ : Unit => wLR cc a b x (mgR x y))) (va_A (wLR cc a b (x) (y)) sz)) 0 0 (va_A (wLR cc a b (x) (y)) sz) := by
  refine wr_metv RP [.ref (b 0)] D cc (wLR cc a b (x) (y)) sz (fun _ : Unit => wLR cc a b x (mgR x y)) _ (by decide) rfl rfl (Nat.le_of_ble_eq_true rfl) ?_
  intro p e s m args below meth c Q A S hP hE hD hA kx ls hl
  obtain ⟨hx, hb, hml, hown, hts⟩ := id S
  have hK := hE.1
  have hts := hE.ts args
  have S : CallFix p m c cP_markWhatMayGo 2 s args wAll RP := ⟨hx, hb, hml, hown, hts⟩
  have hS : va_S A s.heap s.heap [] := va_S.rf
  have hn := ok.n
  have he := ok.e
  have hself := kr.self
  have htl := kr.tl
  have hl : lv_has ls 2 [(0, .ref (b 0))] := hl
  have L62 : ∀ (n : Nat) (o : Nat) (H : Heap) (locs : List Loc) (hP : va_P D vwCl (wLR cc a b (x) (mkR y.self y.seen y.wts y.ers y.kpt (mkG2 x y o) y.txt y.tl y.kc y.wc y.gs)) H) (hD : va_D A (wLR cc a b (x) (mkR y.self y.seen y.wts y.ers y.kpt (mkG2 x y o) y.txt y.tl y.kc y.wc y.gs))) (hS : va_S A s.heap H locs) (ls : Array Slot) (h1 : o ≤ x.cnt) (h2 : x.cnt - o < n), lv_has ls 2 [(0, .ref (b 0)), (1, .int (nI (o)))] → W p l e rmP_markWhatMayGo s m args below meth c H locs 0 0 Q (F0 m 62 ls []) := by
    intro n
    induction n with
    | zero => intro o H locs hP hD hS ls h1 h2 hl; exact absurd h2 (Nat.not_lt_zero _)
    | succ n ih2 =>
      intro o H locs hP hD hS ls h1 h2 hl
      have kr3 : okR (mkR y.self y.seen y.wts y.ers y.kpt (mkG2 x y o) y.txt y.tl y.kc y.wc y.gs) := kr
      refine lv_iload_n hx hb dP_markWhatMayGo_62 rfl (lv_at hl 1 rfl) ?_
      refine lv_aload_n hx hb dP_markWhatMayGo_63 rfl (lv_at hl 0 rfl) ?_
      refine va_get (D := D) (ci := 1) (v := .ref (a 0)) (C := RP) (T := TP) (N := 12) hx hb hts in_P hown hK hP 7 rfl rfl 1 (by decide) (hts _ wm_45) (fun _ h9 => h9) rfl dP_markWhatMayGo_64 ?_
      refine va_getN (D := D) (ci := 0) (v := .int (nI (x.cnt))) (C := RL) (T := TL) (N := 8) hx hb hts in_L hown hK hP 0 rfl rfl 6 (by decide) (hE.f nf_8) (fun _ h9 => h9) rfl dP_markWhatMayGo_67 ?_
      refine r_ge (by omega) (Nat.lt_of_le_of_lt ok.n (by decide)) (tgt := 102) hx hb dP_markWhatMayGo_70 (by decide) (fun c_70 => ?_) (fun c_70 => ?_)
      · obtain rfl : o = x.cnt := by omega
        exact kx _ _ _ _ (()) dP_markWhatMayGo_102 hS hP hD (trivial)
      · refine lv_aload_n hx hb dP_markWhatMayGo_73 rfl (lv_at hl 0 rfl) ?_
        refine lv_iload_n hx hb dP_markWhatMayGo_74 rfl (lv_at hl 1 rfl) ?_
        refine W.callR (W.runV (As := [.int (nI (o))]) (rest := []) S (kP_holdsItsTarget D cc a b x (mkR y.self y.seen y.wts y.ers y.kpt (mkG2 x y o) y.txt y.tl y.kc y.wc y.gs) (o) (by omega) ok kr3) (cwV 1 hts (gd_V wm_185 wm_186 wm_378 wm_3 wm_187) rfl rfl rfl (by decide +kernel) ⟨Nat.le_of_ble_eq_true rfl, Nat.le_of_ble_eq_true rfl⟩) (rd_preV (q0 := 7) hP hE rfl rfl) rfl rfl hl.1 rfl (lv_room (Nat.le_of_ble_eq_true rfl)) dP_markWhatMayGo_75 ⟨Nat.le_of_ble_eq_true rfl, Nat.le_of_ble_eq_true rfl⟩) ?_
        refine W.eq (g2 := F0 m 78 ls [.int (bI (hldL x (mkR y.self y.seen y.wts y.ers y.kpt (mkG2 x y o) y.txt y.tl y.kc y.wc y.gs) (o)))]) rfl ?_
        refine r_top (y := bI (hldL x y (o))) rfl ?_
        refine r_eqB (tgt := 96) hx hb dP_markWhatMayGo_78 (by decide) (fun c_78 => ?_) (fun c_78 => ?_)
        · refine lv_iinc (v := nI (o + 1)) (lv' := [(1, .int (nI (o + 1))), (0, .ref (b 0))]) hx hb dP_markWhatMayGo_96 hl (k := 1) rfl (nI_1 _) (by decide) rfl (fun ls hl => ?_)
          refine lv_goto (tgt := 62) hx hb dP_markWhatMayGo_99 (by decide) ?_
          have hP : va_P D vwCl (wLR cc a b x (mkR y.self y.seen y.wts y.ers y.kpt (mkG2 x y (o + 1)) y.txt y.tl y.kc y.wc y.gs)) H := by first | (rw [mkG2_t c_78]; exact hP) | (rw [mkG2_f c_78]; exact hP)
          have hD : va_D A (wLR cc a b x (mkR y.self y.seen y.wts y.ers y.kpt (mkG2 x y (o + 1)) y.txt y.tl y.kc y.wc y.gs)) := by first | (rw [mkG2_t c_78]; exact hD) | (rw [mkG2_f c_78]; exact hD)
          exact ih2  (o + 1) H locs hP hD hS ls (by omega) (by omega) (lv_sub hl [1, 0] rfl)
        · refine lv_aload_n hx hb dP_markWhatMayGo_81 rfl (lv_at hl 0 rfl) ?_
          refine va_get (D := D) (ci := 1) (v := .ref (b 8)) (C := RP) (T := TP) (N := 12) hx hb hts in_P hown hK hP 7 rfl rfl 6 (by decide) (hts _ wm_50) (fun _ h9 => h9) rfl dP_markWhatMayGo_82 ?_
          refine lv_aload_n hx hb dP_markWhatMayGo_85 rfl (lv_at hl 0 rfl) ?_
          refine va_get (D := D) (ci := 1) (v := .ref (a 0)) (C := RP) (T := TP) (N := 12) hx hb hts in_P hown hK hP 7 rfl rfl 1 (by decide) (hts _ wm_45) (fun _ h9 => h9) rfl dP_markWhatMayGo_86 ?_
          refine va_getN (D := D) (ci := 0) (v := .ref (a 3)) (C := RL) (T := TL) (N := 8) hx hb hts in_L hown hK hP 0 rfl rfl 2 (by decide) (hE.f nf_4) (fun _ h9 => h9) rfl dP_markWhatMayGo_89 ?_
          refine lv_iload_n hx hb dP_markWhatMayGo_92 rfl (lv_at hl 1 rfl) ?_
          refine r_iald (q0 := 3) (t0 := 0) hx hb hK hP rfl rfl (by omega) (by decide) dP_markWhatMayGo_93 ?_
          refine r_top (y := nI ((x.tgt o) - 1)) (sI_p (hld_tgt c_78)) ?_
          refine lv_iconst (v := bI (false)) hx hb dP_markWhatMayGo_94 (by decide) ?_
          refine r_zast ((mkG2 x y o)) (false) (q0 := 15) (t0 := 1) hx hb hK hP hD hS rfl rfl (by have := ok.tgt100 o; have := hld_tgt c_78; omega) (by decide) dP_markWhatMayGo_95 (fun H locs hP hD hS => ?_)
          have hP : va_P D vwCl (wLR cc a b (x) (mkR y.self y.seen y.wts y.ers y.kpt (va_up (mkG2 x y o) (x.tgt o - 1) false) y.txt y.tl y.kc y.wc y.gs)) H := hP
          have hD : va_D A (wLR cc a b (x) (mkR y.self y.seen y.wts y.ers y.kpt (va_up (mkG2 x y o) (x.tgt o - 1) false) y.txt y.tl y.kc y.wc y.gs)) := hD
          refine lv_iinc (v := nI (o + 1)) (lv' := [(1, .int (nI (o + 1))), (0, .ref (b 0))]) hx hb dP_markWhatMayGo_96 hl (k := 1) rfl (nI_1 _) (by decide) rfl (fun ls hl => ?_)
          refine lv_goto (tgt := 62) hx hb dP_markWhatMayGo_99 (by decide) ?_
          have hP : va_P D vwCl (wLR cc a b x (mkR y.self y.seen y.wts y.ers y.kpt (mkG2 x y (o + 1)) y.txt y.tl y.kc y.wc y.gs)) H := by first | (rw [mkG2_t c_78]; exact hP) | (rw [mkG2_f c_78]; exact hP)
          have hD : va_D A (wLR cc a b x (mkR y.self y.seen y.wts y.ers y.kpt (mkG2 x y (o + 1)) y.txt y.tl y.kc y.wc y.gs)) := by first | (rw [mkG2_t c_78]; exact hD) | (rw [mkG2_f c_78]; exact hD)
          exact ih2  (o + 1) H locs hP hD hS ls (by omega) (by omega) (lv_sub hl [1, 0] rfl)
  have L2 : ∀ (n : Nat) (o : Nat) (H : Heap) (locs : List Loc) (hP : va_P D vwCl (wLR cc a b (x) (mkR y.self y.seen y.wts y.ers y.kpt (mkG1 x y o) y.txt y.tl y.kc y.wc y.gs)) H) (hD : va_D A (wLR cc a b (x) (mkR y.self y.seen y.wts y.ers y.kpt (mkG1 x y o) y.txt y.tl y.kc y.wc y.gs))) (hS : va_S A s.heap H locs) (ls : Array Slot) (h1 : o ≤ x.cnt) (h2 : x.cnt - o < n), lv_has ls 2 [(0, .ref (b 0)), (1, .int (nI (o)))] → W p l e rmP_markWhatMayGo s m args below meth c H locs 0 0 Q (F0 m 2 ls []) := by
    intro n
    induction n with
    | zero => intro o H locs hP hD hS ls h1 h2 hl; exact absurd h2 (Nat.not_lt_zero _)
    | succ n ih =>
      intro o H locs hP hD hS ls h1 h2 hl
      have kr3 : okR (mkR y.self y.seen y.wts y.ers y.kpt (mkG1 x y o) y.txt y.tl y.kc y.wc y.gs) := kr
      refine lv_iload_n hx hb dP_markWhatMayGo_2 rfl (lv_at hl 1 rfl) ?_
      refine lv_aload_n hx hb dP_markWhatMayGo_3 rfl (lv_at hl 0 rfl) ?_
      refine va_get (D := D) (ci := 1) (v := .ref (a 0)) (C := RP) (T := TP) (N := 12) hx hb hts in_P hown hK hP 7 rfl rfl 1 (by decide) (hts _ wm_45) (fun _ h9 => h9) rfl dP_markWhatMayGo_4 ?_
      refine va_getN (D := D) (ci := 0) (v := .int (nI (x.cnt))) (C := RL) (T := TL) (N := 8) hx hb hts in_L hown hK hP 0 rfl rfl 6 (by decide) (hE.f nf_8) (fun _ h9 => h9) rfl dP_markWhatMayGo_7 ?_
      refine r_ge (by omega) (Nat.lt_of_le_of_lt ok.n (by decide)) (tgt := 60) hx hb dP_markWhatMayGo_10 (by decide) (fun c_10 => ?_) (fun c_10 => ?_)
      · obtain rfl : o = x.cnt := by omega
        refine lv_iconst (v := nI (0)) hx hb dP_markWhatMayGo_60 (by decide) ?_
        refine lv_istore_n (lv' := [(1, .int (nI (0))), (0, .ref (b 0))]) hx hb dP_markWhatMayGo_61 rfl hl (by decide) rfl (fun ls hl => ?_)
        exact L62 (x.cnt + 1) (0) H locs hP hD hS ls (by omega) (by omega) (lv_sub hl [1, 0] rfl)
      · refine lv_aload_n hx hb dP_markWhatMayGo_13 rfl (lv_at hl 0 rfl) ?_
        refine va_get (D := D) (ci := 1) (v := .ref (b 8)) (C := RP) (T := TP) (N := 12) hx hb hts in_P hown hK hP 7 rfl rfl 6 (by decide) (hts _ wm_50) (fun _ h9 => h9) rfl dP_markWhatMayGo_14 ?_
        refine lv_iload_n hx hb dP_markWhatMayGo_17 rfl (lv_at hl 1 rfl) ?_
        refine lv_iconst (v := bI (false)) hx hb dP_markWhatMayGo_18 (by decide) ?_
        refine r_zast ((mkG1 x y o)) (false) (q0 := 15) (t0 := 1) hx hb hK hP hD hS rfl rfl (by omega) (by decide) dP_markWhatMayGo_19 (fun H locs hP hD hS => ?_)
        have hP : va_P D vwCl (wLR cc a b (x) (mkR y.self y.seen y.wts y.ers y.kpt (va_up (mkG1 x y o) o false) y.txt y.tl y.kc y.wc y.gs)) H := hP
        have hD : va_D A (wLR cc a b (x) (mkR y.self y.seen y.wts y.ers y.kpt (va_up (mkG1 x y o) o false) y.txt y.tl y.kc y.wc y.gs)) := hD
        have kr4 : okR (mkR y.self y.seen y.wts y.ers y.kpt (va_up (mkG1 x y o) o false) y.txt y.tl y.kc y.wc y.gs) := kr
        refine lv_aload_n hx hb dP_markWhatMayGo_20 rfl (lv_at hl 0 rfl) ?_
        refine va_get (D := D) (ci := 1) (v := .ref (a 0)) (C := RP) (T := TP) (N := 12) hx hb hts in_P hown hK hP 7 rfl rfl 1 (by decide) (hts _ wm_45) (fun _ h9 => h9) rfl dP_markWhatMayGo_21 ?_
        refine lv_iload_n hx hb dP_markWhatMayGo_24 rfl (lv_at hl 1 rfl) ?_
        refine W.callR (W.runV (As := [.int (nI (o))]) (rest := []) S (kL_isErase D cc a x (o) (by omega) ok) (cwV 1 hts (gd_V wm_123 wm_124 wm_125 wm_2 wm_126) rfl rfl rfl (by decide +kernel) ⟨Nat.le_of_ble_eq_true rfl, Nat.le_of_ble_eq_true rfl⟩) (rd_preV (q0 := 0) (P_left hP) hE rfl rfl) rfl rfl hl.1 rfl (lv_room (Nat.le_of_ble_eq_true rfl)) dP_markWhatMayGo_25 ⟨Nat.le_of_ble_eq_true rfl, Nat.le_of_ble_eq_true rfl⟩) ?_
        refine W.eq (g2 := F0 m 28 ls [.int (bI (decide (x.chr (o) = 0)))]) rfl ?_
        refine r_eqB (tgt := 54) hx hb dP_markWhatMayGo_28 (by decide) (fun c_28 => ?_) (fun c_28 => ?_)
        · refine lv_iinc (v := nI (o + 1)) (lv' := [(1, .int (nI (o + 1))), (0, .ref (b 0))]) hx hb dP_markWhatMayGo_54 hl (k := 1) rfl (nI_1 _) (by decide) rfl (fun ls hl => ?_)
          refine lv_goto (tgt := 2) hx hb dP_markWhatMayGo_57 (by decide) ?_
          have hP : va_P D vwCl (wLR cc a b x (mkR y.self y.seen y.wts y.ers y.kpt (mkG1 x y (o + 1)) y.txt y.tl y.kc y.wc y.gs)) H := by first | (rw [mkG1_t c_28 c_36]; exact hP) | (rw [mkG1_f1 c_28]; exact hP) | (rw [mkG1_f2 c_36]; exact hP)
          have hD : va_D A (wLR cc a b x (mkR y.self y.seen y.wts y.ers y.kpt (mkG1 x y (o + 1)) y.txt y.tl y.kc y.wc y.gs)) := by first | (rw [mkG1_t c_28 c_36]; exact hD) | (rw [mkG1_f1 c_28]; exact hD) | (rw [mkG1_f2 c_36]; exact hD)
          exact ih  (o + 1) H locs hP hD hS ls (by omega) (by omega) (lv_sub hl [1, 0] rfl)
        · refine lv_aload_n hx hb dP_markWhatMayGo_31 rfl (lv_at hl 0 rfl) ?_
          refine lv_iload_n hx hb dP_markWhatMayGo_32 rfl (lv_at hl 1 rfl) ?_
          refine W.callR (W.runV (As := [.int (nI (o))]) (rest := []) S (kP_isSettled D cc a b x (mkR y.self y.seen y.wts y.ers y.kpt (va_up (mkG1 x y o) o false) y.txt y.tl y.kc y.wc y.gs) (o) (by omega) ok kr4) (cwV 1 hts (gd_V wm_181 wm_182 wm_183 wm_3 wm_184) rfl rfl rfl (by decide +kernel) ⟨Nat.le_of_ble_eq_true rfl, Nat.le_of_ble_eq_true rfl⟩) (rd_preV (q0 := 7) hP hE rfl rfl) rfl rfl hl.1 rfl (lv_room (Nat.le_of_ble_eq_true rfl)) dP_markWhatMayGo_33 ⟨Nat.le_of_ble_eq_true rfl, Nat.le_of_ble_eq_true rfl⟩) ?_
          refine W.eq (g2 := F0 m 36 ls [.int (bI (setL x (mkR y.self y.seen y.wts y.ers y.kpt (va_up (mkG1 x y o) o false) y.txt y.tl y.kc y.wc y.gs) (o)))]) rfl ?_
          refine r_top (y := bI (setL x y (o))) rfl ?_
          refine r_eqB (tgt := 54) hx hb dP_markWhatMayGo_36 (by decide) (fun c_36 => ?_) (fun c_36 => ?_)
          · refine lv_iinc (v := nI (o + 1)) (lv' := [(1, .int (nI (o + 1))), (0, .ref (b 0))]) hx hb dP_markWhatMayGo_54 hl (k := 1) rfl (nI_1 _) (by decide) rfl (fun ls hl => ?_)
            refine lv_goto (tgt := 2) hx hb dP_markWhatMayGo_57 (by decide) ?_
            have hP : va_P D vwCl (wLR cc a b x (mkR y.self y.seen y.wts y.ers y.kpt (mkG1 x y (o + 1)) y.txt y.tl y.kc y.wc y.gs)) H := by first | (rw [mkG1_t c_28 c_36]; exact hP) | (rw [mkG1_f1 c_28]; exact hP) | (rw [mkG1_f2 c_36]; exact hP)
            have hD : va_D A (wLR cc a b x (mkR y.self y.seen y.wts y.ers y.kpt (mkG1 x y (o + 1)) y.txt y.tl y.kc y.wc y.gs)) := by first | (rw [mkG1_t c_28 c_36]; exact hD) | (rw [mkG1_f1 c_28]; exact hD) | (rw [mkG1_f2 c_36]; exact hD)
            exact ih  (o + 1) H locs hP hD hS ls (by omega) (by omega) (lv_sub hl [1, 0] rfl)
          · refine lv_aload_n hx hb dP_markWhatMayGo_39 rfl (lv_at hl 0 rfl) ?_
            refine va_get (D := D) (ci := 1) (v := .ref (b 8)) (C := RP) (T := TP) (N := 12) hx hb hts in_P hown hK hP 7 rfl rfl 6 (by decide) (hts _ wm_50) (fun _ h9 => h9) rfl dP_markWhatMayGo_40 ?_
            refine lv_aload_n hx hb dP_markWhatMayGo_43 rfl (lv_at hl 0 rfl) ?_
            refine va_get (D := D) (ci := 1) (v := .ref (a 0)) (C := RP) (T := TP) (N := 12) hx hb hts in_P hown hK hP 7 rfl rfl 1 (by decide) (hts _ wm_45) (fun _ h9 => h9) rfl dP_markWhatMayGo_44 ?_
            refine va_getN (D := D) (ci := 0) (v := .ref (a 3)) (C := RL) (T := TL) (N := 8) hx hb hts in_L hown hK hP 0 rfl rfl 2 (by decide) (hE.f nf_4) (fun _ h9 => h9) rfl dP_markWhatMayGo_47 ?_
            refine lv_iload_n hx hb dP_markWhatMayGo_50 rfl (lv_at hl 1 rfl) ?_
            refine r_iald (q0 := 3) (t0 := 0) hx hb hK hP rfl rfl (by omega) (by decide) dP_markWhatMayGo_51 ?_
            refine r_top (y := nI ((x.tgt o) - 1)) (sI_p (ht o (by omega) (of_decide_eq_true c_28))) ?_
            refine lv_iconst (v := bI (true)) hx hb dP_markWhatMayGo_52 (by decide) ?_
            refine r_zast ((va_up (mkG1 x y o) o false)) (true) (q0 := 15) (t0 := 1) hx hb hK hP hD hS rfl rfl (by have := ok.tgt100 o; have := ht o (by omega) (of_decide_eq_true c_28); omega) (by decide) dP_markWhatMayGo_53 (fun H locs hP hD hS => ?_)
            have hP : va_P D vwCl (wLR cc a b (x) (mkR y.self y.seen y.wts y.ers y.kpt (va_up (va_up (mkG1 x y o) o false) (x.tgt o - 1) true) y.txt y.tl y.kc y.wc y.gs)) H := hP
            have hD : va_D A (wLR cc a b (x) (mkR y.self y.seen y.wts y.ers y.kpt (va_up (va_up (mkG1 x y o) o false) (x.tgt o - 1) true) y.txt y.tl y.kc y.wc y.gs)) := hD
            refine lv_iinc (v := nI (o + 1)) (lv' := [(1, .int (nI (o + 1))), (0, .ref (b 0))]) hx hb dP_markWhatMayGo_54 hl (k := 1) rfl (nI_1 _) (by decide) rfl (fun ls hl => ?_)
            refine lv_goto (tgt := 2) hx hb dP_markWhatMayGo_57 (by decide) ?_
            have hP : va_P D vwCl (wLR cc a b x (mkR y.self y.seen y.wts y.ers y.kpt (mkG1 x y (o + 1)) y.txt y.tl y.kc y.wc y.gs)) H := by first | (rw [mkG1_t c_28 c_36]; exact hP) | (rw [mkG1_f1 c_28]; exact hP) | (rw [mkG1_f2 c_36]; exact hP)
            have hD : va_D A (wLR cc a b x (mkR y.self y.seen y.wts y.ers y.kpt (mkG1 x y (o + 1)) y.txt y.tl y.kc y.wc y.gs)) := by first | (rw [mkG1_t c_28 c_36]; exact hD) | (rw [mkG1_f1 c_28]; exact hD) | (rw [mkG1_f2 c_36]; exact hD)
            exact ih  (o + 1) H locs hP hD hS ls (by omega) (by omega) (lv_sub hl [1, 0] rfl)
  refine lv_iconst (v := nI (0)) hx hb dP_markWhatMayGo_0 (by decide) ?_
  refine lv_istore_n (lv' := [(1, .int (nI (0))), (0, .ref (b 0))]) hx hb dP_markWhatMayGo_1 rfl hl (by decide) rfl (fun ls hl => ?_)
  exact L2 (x.cnt + 1) (0) s.heap [] hP hD hS ls (by omega) (by omega) (lv_sub hl [1, 0] rfl)
end
section
theorem okL_rec5 {x : LgS} {i s t ch : Nat} {f : Nat → Nat} (ok : okL x) (hi : i < 3) (hs : s < 1000) (ht : t ≤ 100) (hch : ch < 65536) (hc : x.cnt < 100) (hf : ∀ k, f k < 900) : okL (rec5 x i s t ch f) :=
  okL_mk hc ok.e (up_lt ok.iss0 hi) (up_lt ok.stp3 hs) (up_le ok.tgt100 ht) (up_lt ok.chr5 hch) (clkV_lt ok.clk3 (fun j => by have := hf j; split <;> omega) 3) ok.ord100
theorem okL_rec {x : LgS} {i s t ch k : Nat} {f : Nat → Nat} (ok : okL x) (hi : i < 3) (hs : s < 1000) (ht : t ≤ 100) (hch : ch < 65536) (hc : x.cnt < 100) (he : x.el < 100) (hf : ∀ k, f k < 900) : okL (recL x i s t ch f k) := by
  have h := okL_rec5 ok hi hs ht hch hc hf
  unfold recL
  split
  · exact h
  · exact okL_mk h.n he h.iss0 h.stp3 h.tgt100 h.chr5 h.clk3 (up_lt (shU_lt h.ord100 k) hc)
theorem rec_chr (x : LgS) (i s t ch k : Nat) (f : Nat → Nat) : (recL x i s t ch f k).chr x.cnt = ch := by
  have e : (rec5 x i s t ch f).chr x.cnt = ch := by show va_up x.chr x.cnt ch x.cnt = ch; unfold va_up; rw [if_pos rfl]
  unfold recL
  split
  · exact e
  · exact e
theorem rec_tgt (x : LgS) (i s t ch k : Nat) (f : Nat → Nat) : (recL x i s t ch f k).tgt x.cnt = t := by
  have e : (rec5 x i s t ch f).tgt x.cnt = t := by show va_up x.tgt x.cnt t x.cnt = t; unfold va_up; rw [if_pos rfl]
  unfold recL
  split
  · exact e
  · exact e
theorem okR_apply {x : LgS} {y : RpS} {o : Nat} (ok : okL x) (kr : okR y) (hkc : y.kc < 900) : okR (applyR x y o) := by
  have hs : ∀ i j, apSeen x y o i j < 1000 := up2_lt (sU_lt kr.seen3 (fun j => ok.clk3 _) 3) (up_lt (sU_lt kr.seen3 (fun j => ok.clk3 _) 3 y.self) (ok.clk3 _))
  have hg : max y.gs (x.stp o) < 1000 := by have := kr.gs; have := ok.stp3 o; omega
  unfold applyR
  split
  · exact okR_mk kr.self kr.tl kr.kc kr.wc hg hs kr.txt100
  · exact okR_mk kr.self kr.tl (by omega) kr.wc hg hs kr.txt100
theorem okR_rw {x : LgS} {y : RpS} (ok : okL x) (kr : okR y) : okR (rwR x y) := okR_mk kr.self (by have := rwF_le x y x.el; have := ok.e; omega) kr.kc kr.wc kr.gs kr.seen3 (rwF_lt ok kr x.el)
/-- issue(t, ch): the log and the replica behind it -/
def isuL (x : LgS) (y : RpS) (t ch k : Nat) : LgS := recL x y.self (y.gs + 1) t ch (y.seen y.self) k
def isuR (x : LgS) (y : RpS) (t ch k : Nat) : RpS := rwR (isuL x y t ch k) (applyR (isuL x y t ch k) y x.cnt)
section RTR
variable {p : Program} {l : Launch} {e : Env} {R : Room} {s : State} {m : MethodId} {args : Array Value} {below : List Frame} {meth : Method} {c : Code} {H : Heap} {locs : List Loc} {cells slots : Nat} {Q : State → Prop} {pc : Nat} {ls : Array Slot} {rest : List Value}
theorem r_topr {x y : Nat} (h : x = y) (k : W p l e R s m args below meth c H locs cells slots Q (F0 m pc ls (.ref y :: rest))) : W p l e R s m args below meth c H locs cells slots Q (F0 m pc ls (.ref x :: rest)) := by
  rw [h]; exact k
end RTR
end
section
def rmP_dropErased : Room := { frames := 5, cells := 0, slots := 0, locals := 109 }
set_option maxHeartbeats 4000000 in
set_option maxRecDepth 100000 in
theorem kP_dropErased {l : Launch} (D : va_G) (cc : Nat → ClassId) (a b : Nat → Nat) (x : LgS) (y : RpS) (sz : Nat) (ht : ∀ o, o < x.cnt → x.chr o = 0 → 0 < x.tgt o) (hkc : (drF (mkG2 x y x.cnt) y.kpt x.cnt).2 ≤ y.kc) (ok : okL x) (kr : okR y) : Met l yP_dropErased wsP_dropErased rmP_dropErased (va_Pc [.ref (b 0)] (WP D cc (wLR cc a b (x) (y)) sz)) (va_Qi (fun v (_ : Unit) => v = nI (drF (mkG2 x y x.cnt) y.kpt x.cnt).2) (WQ D cc (va_A (wLR cc a b (x) (y)) sz) (fun _ : Unit => wLR cc a b x (drR x y))) (va_A (wLR cc a b (x) (y)) sz)) 0 0 (va_A (wLR cc a b (x) (y)) sz) := by
  refine wr_meti RP [.ref (b 0)] D cc (wLR cc a b (x) (y)) sz (fun _ : Unit => wLR cc a b x (drR x y)) _ (by decide) rfl rfl (Nat.le_of_ble_eq_true rfl) (fun v _ _ => vp_nar_int v) ?_
  intro p e s m args below meth c Q A S hP hE hD hA kx ls hl
  obtain ⟨hx, hb, hml, hown, hts⟩ := id S
  have hK := hE.1
  have hts := hE.ts args
  have S : CallFix p m c cP_dropErased 3 s args wAll RP := ⟨hx, hb, hml, hown, hts⟩
  have hS : va_S A s.heap s.heap [] := va_S.rf
  have hn := ok.n
  have he := ok.e
  have hself := kr.self
  have htl := kr.tl
  have hl : lv_has ls 3 [(0, .ref (b 0))] := hl
  have L8 : ∀ (n : Nat) (nd : Nat) (o : Nat) (H : Heap) (locs : List Loc) (hP : va_P D vwCl (wLR cc a b (x) (mkR y.self y.seen y.wts y.ers ((drF (mkG2 x y x.cnt) y.kpt o).1) ((mkG2 x y x.cnt)) y.txt y.tl y.kc y.wc y.gs)) H) (hD : va_D A (wLR cc a b (x) (mkR y.self y.seen y.wts y.ers ((drF (mkG2 x y x.cnt) y.kpt o).1) ((mkG2 x y x.cnt)) y.txt y.tl y.kc y.wc y.gs))) (hS : va_S A s.heap H locs) (ls : Array Slot) (h1 : o ≤ x.cnt) (h2 : x.cnt - o < n) (g1 : nd = (drF (mkG2 x y x.cnt) y.kpt o).2), lv_has ls 3 [(0, .ref (b 0)), (1, .int (nI (nd))), (2, .int (nI (o)))] → W p l e rmP_dropErased s m args below meth c H locs 0 0 Q (F0 m 8 ls []) := by
    intro n
    induction n with
    | zero => intro nd o H locs hP hD hS ls h1 h2 g1 hl; exact absurd h2 (Nat.not_lt_zero _)
    | succ n ih =>
      intro nd o H locs hP hD hS ls h1 h2 g1 hl
      have hdl := drF_le (mkG2 x y x.cnt) y.kpt o
      refine lv_iload_n hx hb dP_dropErased_8 rfl (lv_at hl 2 rfl) ?_
      refine lv_aload_n hx hb dP_dropErased_9 rfl (lv_at hl 0 rfl) ?_
      refine va_get (D := D) (ci := 1) (v := .ref (a 0)) (C := RP) (T := TP) (N := 12) hx hb hts in_P hown hK hP 7 rfl rfl 1 (by decide) (hts _ wm_45) (fun _ h9 => h9) rfl dP_dropErased_10 ?_
      refine va_getN (D := D) (ci := 0) (v := .int (nI (x.cnt))) (C := RL) (T := TL) (N := 8) hx hb hts in_L hown hK hP 0 rfl rfl 6 (by decide) (hE.f nf_8) (fun _ h9 => h9) rfl dP_dropErased_13 ?_
      refine r_ge (by omega) (Nat.lt_of_le_of_lt ok.n (by decide)) (tgt := 53) hx hb dP_dropErased_16 (by decide) (fun c_16 => ?_) (fun c_16 => ?_)
      · obtain rfl : o = x.cnt := by omega
        refine lv_aload_n hx hb dP_dropErased_53 rfl (lv_at hl 0 rfl) ?_
        refine lv_dup hx hb dP_dropErased_54 rfl ?_
        refine va_get (D := D) (ci := 1) (v := .int (nI (y.kc))) (C := RP) (T := TP) (N := 12) hx hb hts in_P hown hK hP 7 rfl rfl 9 (by decide) (hts _ wm_53) (fun _ h9 => h9) rfl dP_dropErased_55 ?_
        refine lv_iload_n hx hb dP_dropErased_58 rfl (lv_at hl 1 rfl) ?_
        refine r_sub (by rw [g1]; exact hkc) hx hb dP_dropErased_59 ?_
        refine va_put (D := D) (ci := 1) (v := .int (nI (y.kc - nd))) (ty := .int) (C := RP) (T := TP) (N := 12) hx hb hts in_P tyP tyP_ok nmP hown hK hP hD hS 7 rfl rfl 9 (by decide) (hts _ wm_53) (fun _ h9 => h9) rfl (by decide +kernel) rfl rfl (Nat.le_of_ble_eq_true rfl) dP_dropErased_60 (fun H locs hP hD hS => ?_)
        have hP : va_P D vwCl (wLR cc a b (x) (mkR y.self y.seen y.wts y.ers ((drF (mkG2 x y x.cnt) y.kpt x.cnt).1) ((mkG2 x y x.cnt)) y.txt y.tl (y.kc - nd) y.wc y.gs)) H := hP
        have hD : va_D A (wLR cc a b (x) (mkR y.self y.seen y.wts y.ers ((drF (mkG2 x y x.cnt) y.kpt x.cnt).1) ((mkG2 x y x.cnt)) y.txt y.tl (y.kc - nd) y.wc y.gs)) := hD
        refine lv_iload_n hx hb dP_dropErased_63 rfl (lv_at hl 1 rfl) ?_
        exact kx _ _ _ _ _ (()) dP_dropErased_64 hS (by rw [g1] at hP; exact hP) (by rw [g1] at hD; exact hD) (by rw [g1])
      · refine lv_aload_n hx hb dP_dropErased_19 rfl (lv_at hl 0 rfl) ?_
        refine va_get (D := D) (ci := 1) (v := .ref (b 8)) (C := RP) (T := TP) (N := 12) hx hb hts in_P hown hK hP 7 rfl rfl 6 (by decide) (hts _ wm_50) (fun _ h9 => h9) rfl dP_dropErased_20 ?_
        refine lv_iload_n hx hb dP_dropErased_23 rfl (lv_at hl 2 rfl) ?_
        refine r_zald (q0 := 15) (t0 := 1) hx hb hK hP rfl rfl (by omega) (by decide) dP_dropErased_24 ?_
        refine r_eqB (tgt := 47) hx hb dP_dropErased_25 (by decide) (fun c_25 => ?_) (fun c_25 => ?_)
        · refine lv_iinc (v := nI (o + 1)) (lv' := [(2, .int (nI (o + 1))), (0, .ref (b 0)), (1, .int (nI (nd)))]) hx hb dP_dropErased_47 hl (k := 2) rfl (nI_1 _) (by decide) rfl (fun ls hl => ?_)
          refine lv_goto (tgt := 8) hx hb dP_dropErased_50 (by decide) ?_
          have hP : va_P D vwCl (wLR cc a b x (mkR y.self y.seen y.wts y.ers ((drF (mkG2 x y x.cnt) y.kpt (o + 1)).1) ((mkG2 x y x.cnt)) y.txt y.tl y.kc y.wc y.gs)) H := by first | (rw [drF_t (g := mkG2 x y x.cnt) (k := y.kpt) (o := o) c_25 c_34]; exact hP) | (rw [drF_f1 (g := mkG2 x y x.cnt) (k := y.kpt) (o := o) c_25]; exact hP) | (rw [drF_f2 (g := mkG2 x y x.cnt) (k := y.kpt) (o := o) c_34]; exact hP)
          have hD : va_D A (wLR cc a b x (mkR y.self y.seen y.wts y.ers ((drF (mkG2 x y x.cnt) y.kpt (o + 1)).1) ((mkG2 x y x.cnt)) y.txt y.tl y.kc y.wc y.gs)) := by first | (rw [drF_t (g := mkG2 x y x.cnt) (k := y.kpt) (o := o) c_25 c_34]; exact hD) | (rw [drF_f1 (g := mkG2 x y x.cnt) (k := y.kpt) (o := o) c_25]; exact hD) | (rw [drF_f2 (g := mkG2 x y x.cnt) (k := y.kpt) (o := o) c_34]; exact hD)
          exact ih  (nd) (o + 1) H locs hP hD hS ls (by omega) (by omega) (by first | rfl | (rw [drF_t (g := mkG2 x y x.cnt) (k := y.kpt) (o := o) c_25 c_34, g1]; done) | (rw [drF_f1 (g := mkG2 x y x.cnt) (k := y.kpt) (o := o) c_25]; exact g1) | (rw [drF_f2 (g := mkG2 x y x.cnt) (k := y.kpt) (o := o) c_34]; exact g1)) (lv_sub hl [1, 2, 0] rfl)
        · refine lv_aload_n hx hb dP_dropErased_28 rfl (lv_at hl 0 rfl) ?_
          refine va_get (D := D) (ci := 1) (v := .ref (b 7)) (C := RP) (T := TP) (N := 12) hx hb hts in_P hown hK hP 7 rfl rfl 5 (by decide) (hts _ wm_49) (fun _ h9 => h9) rfl dP_dropErased_29 ?_
          refine lv_iload_n hx hb dP_dropErased_32 rfl (lv_at hl 2 rfl) ?_
          refine r_zald (q0 := 14) (t0 := 1) hx hb hK hP rfl rfl (by omega) (by decide) dP_dropErased_33 ?_
          refine r_eqB (tgt := 47) hx hb dP_dropErased_34 (by decide) (fun c_34 => ?_) (fun c_34 => ?_)
          · refine lv_iinc (v := nI (o + 1)) (lv' := [(2, .int (nI (o + 1))), (0, .ref (b 0)), (1, .int (nI (nd)))]) hx hb dP_dropErased_47 hl (k := 2) rfl (nI_1 _) (by decide) rfl (fun ls hl => ?_)
            refine lv_goto (tgt := 8) hx hb dP_dropErased_50 (by decide) ?_
            have hP : va_P D vwCl (wLR cc a b x (mkR y.self y.seen y.wts y.ers ((drF (mkG2 x y x.cnt) y.kpt (o + 1)).1) ((mkG2 x y x.cnt)) y.txt y.tl y.kc y.wc y.gs)) H := by first | (rw [drF_t (g := mkG2 x y x.cnt) (k := y.kpt) (o := o) c_25 c_34]; exact hP) | (rw [drF_f1 (g := mkG2 x y x.cnt) (k := y.kpt) (o := o) c_25]; exact hP) | (rw [drF_f2 (g := mkG2 x y x.cnt) (k := y.kpt) (o := o) c_34]; exact hP)
            have hD : va_D A (wLR cc a b x (mkR y.self y.seen y.wts y.ers ((drF (mkG2 x y x.cnt) y.kpt (o + 1)).1) ((mkG2 x y x.cnt)) y.txt y.tl y.kc y.wc y.gs)) := by first | (rw [drF_t (g := mkG2 x y x.cnt) (k := y.kpt) (o := o) c_25 c_34]; exact hD) | (rw [drF_f1 (g := mkG2 x y x.cnt) (k := y.kpt) (o := o) c_25]; exact hD) | (rw [drF_f2 (g := mkG2 x y x.cnt) (k := y.kpt) (o := o) c_34]; exact hD)
            exact ih  (nd) (o + 1) H locs hP hD hS ls (by omega) (by omega) (by first | rfl | (rw [drF_t (g := mkG2 x y x.cnt) (k := y.kpt) (o := o) c_25 c_34, g1]; done) | (rw [drF_f1 (g := mkG2 x y x.cnt) (k := y.kpt) (o := o) c_25]; exact g1) | (rw [drF_f2 (g := mkG2 x y x.cnt) (k := y.kpt) (o := o) c_34]; exact g1)) (lv_sub hl [1, 2, 0] rfl)
          · refine lv_aload_n hx hb dP_dropErased_37 rfl (lv_at hl 0 rfl) ?_
            refine va_get (D := D) (ci := 1) (v := .ref (b 7)) (C := RP) (T := TP) (N := 12) hx hb hts in_P hown hK hP 7 rfl rfl 5 (by decide) (hts _ wm_49) (fun _ h9 => h9) rfl dP_dropErased_38 ?_
            refine lv_iload_n hx hb dP_dropErased_41 rfl (lv_at hl 2 rfl) ?_
            refine lv_iconst (v := bI (false)) hx hb dP_dropErased_42 (by decide) ?_
            refine r_zast (((drF (mkG2 x y x.cnt) y.kpt o).1)) (false) (q0 := 14) (t0 := 1) hx hb hK hP hD hS rfl rfl (by omega) (by decide) dP_dropErased_43 (fun H locs hP hD hS => ?_)
            have hP : va_P D vwCl (wLR cc a b (x) (mkR y.self y.seen y.wts y.ers (va_up (drF (mkG2 x y x.cnt) y.kpt o).1 o false) ((mkG2 x y x.cnt)) y.txt y.tl y.kc y.wc y.gs)) H := hP
            have hD : va_D A (wLR cc a b (x) (mkR y.self y.seen y.wts y.ers (va_up (drF (mkG2 x y x.cnt) y.kpt o).1 o false) ((mkG2 x y x.cnt)) y.txt y.tl y.kc y.wc y.gs)) := hD
            refine lv_iinc (v := nI (nd + 1)) (lv' := [(1, .int (nI (nd + 1))), (0, .ref (b 0)), (2, .int (nI (o)))]) hx hb dP_dropErased_44 hl (k := 1) rfl (nI_1 _) (by decide) rfl (fun ls hl => ?_)
            refine lv_iinc (v := nI (o + 1)) (lv' := [(2, .int (nI (o + 1))), (1, .int (nI (nd + 1))), (0, .ref (b 0))]) hx hb dP_dropErased_47 hl (k := 2) rfl (nI_1 _) (by decide) rfl (fun ls hl => ?_)
            refine lv_goto (tgt := 8) hx hb dP_dropErased_50 (by decide) ?_
            have hP : va_P D vwCl (wLR cc a b x (mkR y.self y.seen y.wts y.ers ((drF (mkG2 x y x.cnt) y.kpt (o + 1)).1) ((mkG2 x y x.cnt)) y.txt y.tl y.kc y.wc y.gs)) H := by first | (rw [drF_t (g := mkG2 x y x.cnt) (k := y.kpt) (o := o) c_25 c_34]; exact hP) | (rw [drF_f1 (g := mkG2 x y x.cnt) (k := y.kpt) (o := o) c_25]; exact hP) | (rw [drF_f2 (g := mkG2 x y x.cnt) (k := y.kpt) (o := o) c_34]; exact hP)
            have hD : va_D A (wLR cc a b x (mkR y.self y.seen y.wts y.ers ((drF (mkG2 x y x.cnt) y.kpt (o + 1)).1) ((mkG2 x y x.cnt)) y.txt y.tl y.kc y.wc y.gs)) := by first | (rw [drF_t (g := mkG2 x y x.cnt) (k := y.kpt) (o := o) c_25 c_34]; exact hD) | (rw [drF_f1 (g := mkG2 x y x.cnt) (k := y.kpt) (o := o) c_25]; exact hD) | (rw [drF_f2 (g := mkG2 x y x.cnt) (k := y.kpt) (o := o) c_34]; exact hD)
            exact ih  (nd + 1) (o + 1) H locs hP hD hS ls (by omega) (by omega) (by first | rfl | (rw [drF_t (g := mkG2 x y x.cnt) (k := y.kpt) (o := o) c_25 c_34, g1]; done) | (rw [drF_f1 (g := mkG2 x y x.cnt) (k := y.kpt) (o := o) c_25]; exact g1) | (rw [drF_f2 (g := mkG2 x y x.cnt) (k := y.kpt) (o := o) c_34]; exact g1)) (lv_sub hl [2, 1, 0] rfl)
  refine lv_aload_n hx hb dP_dropErased_0 rfl (lv_at hl 0 rfl) ?_
  refine wr_callv (w2 := []) (va_runV (As := []) (rest := []) S (kP_markWhatMayGo D cc a b x (y) (s.heap.size) ht ok kr) (cwV 0 hts (gd_V wm_178 wm_179 wm_377 wm_3 wm_180) rfl rfl rfl (by decide +kernel) ⟨Nat.le_of_ble_eq_true rfl, Nat.le_of_ble_eq_true rfl⟩) (wr_preV (q0 := 7) hP hE hD rfl rfl) rfl rfl hl.1 rfl (lv_room (Nat.le_of_ble_eq_true rfl)) dP_dropErased_1 ⟨Nat.le_of_ble_eq_true rfl, Nat.le_of_ble_eq_true rfl⟩) (by rw [List.append_nil]; exact hP) (by rw [List.append_nil]; exact hD) hS hA (fun u H locs hpo hP hD hS => ?_)
  rw [List.append_nil] at hP hD
  have hP : va_P D vwCl (wLR cc a b (x) (mkR y.self y.seen y.wts y.ers y.kpt ((mkG2 x y x.cnt)) y.txt y.tl y.kc y.wc y.gs)) H := hP
  have hD : va_D A (wLR cc a b (x) (mkR y.self y.seen y.wts y.ers y.kpt ((mkG2 x y x.cnt)) y.txt y.tl y.kc y.wc y.gs)) := hD
  refine lv_iconst (v := nI (0)) hx hb dP_dropErased_4 (by decide) ?_
  refine lv_istore_n (lv' := [(1, .int (nI (0))), (0, .ref (b 0))]) hx hb dP_dropErased_5 rfl hl (by decide) rfl (fun ls hl => ?_)
  refine lv_iconst (v := nI (0)) hx hb dP_dropErased_6 (by decide) ?_
  refine lv_istore_n (lv' := [(2, .int (nI (0))), (1, .int (nI (0))), (0, .ref (b 0))]) hx hb dP_dropErased_7 rfl hl (by decide) rfl (fun ls hl => ?_)
  exact L8 (x.cnt + 1) (0) (0) H locs hP hD hS ls (by omega) (by omega) (by first | rfl | (rw [drF_t (g := mkG2 x y x.cnt) (k := y.kpt) (o := o) c_25 c_34, g1]; done) | (rw [drF_f1 (g := mkG2 x y x.cnt) (k := y.kpt) (o := o) c_25]; exact g1) | (rw [drF_f2 (g := mkG2 x y x.cnt) (k := y.kpt) (o := o) c_34]; exact g1)) (lv_sub hl [2, 1, 0] rfl)

def rmP_applyReady : Room := { frames := 4, cells := 0, slots := 0, locals := 86 }
set_option maxHeartbeats 4000000 in
set_option maxRecDepth 100000 in
theorem kP_applyReady {l : Launch} (D : va_G) (cc : Nat → ClassId) (a b : Nat → Nat) (x : LgS) (y : RpS) (sz : Nat) (ht : ∀ o, o < x.cnt → x.chr o = 0 → 0 < x.tgt o) (hp1 : ∀ o, o < x.cnt → 1 ≤ plc x o) (hap : ∀ o, o ≤ x.cnt → apOK x y o) (ok : okL x) (kr : okR y) : Met l yP_applyReady wsP_applyReady rmP_applyReady (va_Pc [.ref (b 0)] (WP D cc (wLR cc a b (x) (y)) sz)) (va_Qi (fun v (_ : Unit) => v = nI (aprF x y x.cnt).2) (WQ D cc (va_A (wLR cc a b (x) (y)) sz) (fun _ : Unit => wLR cc a b x (aprR x y))) (va_A (wLR cc a b (x) (y)) sz)) 0 0 (va_A (wLR cc a b (x) (y)) sz) := by
  refine wr_meti RP [.ref (b 0)] D cc (wLR cc a b (x) (y)) sz (fun _ : Unit => wLR cc a b x (aprR x y)) _ (by decide) rfl rfl (Nat.le_of_ble_eq_true rfl) (fun v _ _ => vp_nar_int v) ?_
  intro p e s m args below meth c Q A S hP hE hD hA kx ls hl
  obtain ⟨hx, hb, hml, hown, hts⟩ := id S
  have hK := hE.1
  have hts := hE.ts args
  have S : CallFix p m c cP_applyReady 3 s args wAll RP := ⟨hx, hb, hml, hown, hts⟩
  have hS : va_S A s.heap s.heap [] := va_S.rf
  have hn := ok.n
  have he := ok.e
  have hself := kr.self
  have htl := kr.tl
  have hl : lv_has ls 3 [(0, .ref (b 0))] := hl
  have L4 : ∀ (n : Nat) (nd : Nat) (o : Nat) (H : Heap) (locs : List Loc) (hP : va_P D vwCl (wLR cc a b (x) ((aprF x y o).1)) H) (hD : va_D A (wLR cc a b (x) ((aprF x y o).1))) (hS : va_S A s.heap H locs) (ls : Array Slot) (h1 : o ≤ x.cnt) (h2 : x.cnt - o < n) (g1 : nd = (aprF x y o).2), lv_has ls 3 [(0, .ref (b 0)), (1, .int (nI (nd))), (2, .int (nI (o)))] → W p l e rmP_applyReady s m args below meth c H locs 0 0 Q (F0 m 4 ls []) := by
    intro n
    induction n with
    | zero => intro nd o H locs hP hD hS ls h1 h2 g1 hl; exact absurd h2 (Nat.not_lt_zero _)
    | succ n ih =>
      intro nd o H locs hP hD hS ls h1 h2 g1 hl
      obtain ⟨kr3, hkc3, hy2⟩ := hap o h1
      have hdl := aprF_le x y o
      refine lv_iload_n hx hb dP_applyReady_4 rfl (lv_at hl 2 rfl) ?_
      refine lv_aload_n hx hb dP_applyReady_5 rfl (lv_at hl 0 rfl) ?_
      refine va_get (D := D) (ci := 1) (v := .ref (a 0)) (C := RP) (T := TP) (N := 12) hx hb hts in_P hown hK hP 7 rfl rfl 1 (by decide) (hts _ wm_45) (fun _ h9 => h9) rfl dP_applyReady_6 ?_
      refine va_getN (D := D) (ci := 0) (v := .int (nI (x.cnt))) (C := RL) (T := TL) (N := 8) hx hb hts in_L hown hK hP 0 rfl rfl 6 (by decide) (hE.f nf_8) (fun _ h9 => h9) rfl dP_applyReady_9 ?_
      refine r_ge (by omega) (Nat.lt_of_le_of_lt ok.n (by decide)) (tgt := 63) hx hb dP_applyReady_12 (by decide) (fun c_12 => ?_) (fun c_12 => ?_)
      · obtain rfl : o = x.cnt := by omega
        refine lv_iload_n hx hb dP_applyReady_63 rfl (lv_at hl 1 rfl) ?_
        refine r_leN (by omega) (tgt := 71) hx hb dP_applyReady_64 (by decide) (fun c_64 => ?_) (fun c_64 => ?_)
        · refine lv_iload_n hx hb dP_applyReady_71 rfl (lv_at hl 1 rfl) ?_
          exact kx _ _ _ _ _ (()) dP_applyReady_72 hS (by unfold aprR; first | (rw [if_neg (show ¬ 0 < (aprF x y x.cnt).2 by omega)]; exact hP) | (rw [if_pos (show 0 < (aprF x y x.cnt).2 by omega)]; exact hP)) (by unfold aprR; first | (rw [if_neg (show ¬ 0 < (aprF x y x.cnt).2 by omega)]; exact hD) | (rw [if_pos (show 0 < (aprF x y x.cnt).2 by omega)]; exact hD)) (by rw [g1])
        · refine lv_aload_n hx hb dP_applyReady_67 rfl (lv_at hl 0 rfl) ?_
          refine wr_callv (w2 := []) (va_runV (As := []) (rest := []) S (kP_rewriteText D cc a b x (aprF x y x.cnt).1 (H.size) ok (hap x.cnt (Nat.le_refl _)).1) (cwV 0 hts (gd_V wm_127 wm_128 wm_375 wm_3 wm_129) rfl rfl rfl (by decide +kernel) ⟨Nat.le_of_ble_eq_true rfl, Nat.le_of_ble_eq_true rfl⟩) (wr_preV (q0 := 7) hP hE hD rfl rfl) rfl rfl hl.1 rfl (lv_room (Nat.le_of_ble_eq_true rfl)) dP_applyReady_68 ⟨Nat.le_of_ble_eq_true rfl, Nat.le_of_ble_eq_true rfl⟩) (by rw [List.append_nil]; exact hP) (by rw [List.append_nil]; exact hD) hS hA (fun u H locs hpo hP hD hS => ?_)
          rw [List.append_nil] at hP hD
          have hP : va_P D vwCl (wLR cc a b (x) (rwR x (aprF x y x.cnt).1)) H := hP
          have hD : va_D A (wLR cc a b (x) (rwR x (aprF x y x.cnt).1)) := hD
          refine lv_iload_n hx hb dP_applyReady_71 rfl (lv_at hl 1 rfl) ?_
          exact kx _ _ _ _ _ (()) dP_applyReady_72 hS (by unfold aprR; first | (rw [if_neg (show ¬ 0 < (aprF x y x.cnt).2 by omega)]; exact hP) | (rw [if_pos (show 0 < (aprF x y x.cnt).2 by omega)]; exact hP)) (by unfold aprR; first | (rw [if_neg (show ¬ 0 < (aprF x y x.cnt).2 by omega)]; exact hD) | (rw [if_pos (show 0 < (aprF x y x.cnt).2 by omega)]; exact hD)) (by rw [g1])
      · refine lv_aload_n hx hb dP_applyReady_15 rfl (lv_at hl 0 rfl) ?_
        refine va_get (D := D) (ci := 1) (v := .ref (b 5)) (C := RP) (T := TP) (N := 12) hx hb hts in_P hown hK hP 7 rfl rfl 3 (by decide) (hts _ wm_47) (fun _ h9 => h9) rfl dP_applyReady_16 ?_
        refine lv_iload_n hx hb dP_applyReady_19 rfl (lv_at hl 2 rfl) ?_
        refine r_zald (q0 := 12) (t0 := 1) hx hb hK hP rfl rfl (by omega) (by decide) dP_applyReady_20 ?_
        refine r_eqB (tgt := 57) hx hb dP_applyReady_21 (by decide) (fun c_21 => ?_) (fun c_21 => ?_)
        · refine lv_iinc (v := nI (o + 1)) (lv' := [(2, .int (nI (o + 1))), (0, .ref (b 0)), (1, .int (nI (nd)))]) hx hb dP_applyReady_57 hl (k := 2) rfl (nI_1 _) (by decide) rfl (fun ls hl => ?_)
          refine lv_goto (tgt := 4) hx hb dP_applyReady_60 (by decide) ?_
          have hP : va_P D vwCl (wLR cc a b x (aprF x y (o + 1)).1) H := by first | (rw [aprF_t c_21 c_29]; exact hP) | (rw [aprF_f1 c_21]; exact hP) | (rw [aprF_f2 c_29]; exact hP)
          have hD : va_D A (wLR cc a b x (aprF x y (o + 1)).1) := by first | (rw [aprF_t c_21 c_29]; exact hD) | (rw [aprF_f1 c_21]; exact hD) | (rw [aprF_f2 c_29]; exact hD)
          exact ih  (nd) (o + 1) H locs hP hD hS ls (by omega) (by omega) (by first | rfl | (rw [aprF_t c_21 c_29, g1]; done) | (rw [aprF_f1 c_21]; exact g1) | (rw [aprF_f2 c_29]; exact g1)) (lv_sub hl [1, 2, 0] rfl)
        · refine lv_aload_n hx hb dP_applyReady_24 rfl (lv_at hl 0 rfl) ?_
          refine lv_iload_n hx hb dP_applyReady_25 rfl (lv_at hl 2 rfl) ?_
          refine W.callR (W.runV (As := [.int (nI (o))]) (rest := []) S (kP_isReady D cc a b x ((aprF x y o).1) (o) (by omega) (hp1 _ (by omega)) ok kr3) (cwV 1 hts (gd_V wm_158 wm_159 wm_376 wm_3 wm_160) rfl rfl rfl (by decide +kernel) ⟨Nat.le_of_ble_eq_true rfl, Nat.le_of_ble_eq_true rfl⟩) (rd_preV (q0 := 7) hP hE rfl rfl) rfl rfl hl.1 rfl (lv_room (Nat.le_of_ble_eq_true rfl)) dP_applyReady_26 ⟨Nat.le_of_ble_eq_true rfl, Nat.le_of_ble_eq_true rfl⟩) ?_
          refine W.eq (g2 := F0 m 29 ls [.int (bI (rdyL x ((aprF x y o).1) (o)))]) rfl ?_
          refine r_eqB (tgt := 57) hx hb dP_applyReady_29 (by decide) (fun c_29 => ?_) (fun c_29 => ?_)
          · refine lv_iinc (v := nI (o + 1)) (lv' := [(2, .int (nI (o + 1))), (0, .ref (b 0)), (1, .int (nI (nd)))]) hx hb dP_applyReady_57 hl (k := 2) rfl (nI_1 _) (by decide) rfl (fun ls hl => ?_)
            refine lv_goto (tgt := 4) hx hb dP_applyReady_60 (by decide) ?_
            have hP : va_P D vwCl (wLR cc a b x (aprF x y (o + 1)).1) H := by first | (rw [aprF_t c_21 c_29]; exact hP) | (rw [aprF_f1 c_21]; exact hP) | (rw [aprF_f2 c_29]; exact hP)
            have hD : va_D A (wLR cc a b x (aprF x y (o + 1)).1) := by first | (rw [aprF_t c_21 c_29]; exact hD) | (rw [aprF_f1 c_21]; exact hD) | (rw [aprF_f2 c_29]; exact hD)
            exact ih  (nd) (o + 1) H locs hP hD hS ls (by omega) (by omega) (by first | rfl | (rw [aprF_t c_21 c_29, g1]; done) | (rw [aprF_f1 c_21]; exact g1) | (rw [aprF_f2 c_29]; exact g1)) (lv_sub hl [1, 2, 0] rfl)
          · refine lv_aload_n hx hb dP_applyReady_32 rfl (lv_at hl 0 rfl) ?_
            refine va_get (D := D) (ci := 1) (v := .ref (b 5)) (C := RP) (T := TP) (N := 12) hx hb hts in_P hown hK hP 7 rfl rfl 3 (by decide) (hts _ wm_47) (fun _ h9 => h9) rfl dP_applyReady_33 ?_
            refine lv_iload_n hx hb dP_applyReady_36 rfl (lv_at hl 2 rfl) ?_
            refine lv_iconst (v := bI (false)) hx hb dP_applyReady_37 (by decide) ?_
            refine r_zast ((((aprF x y o).1).wts)) (false) (q0 := 12) (t0 := 1) hx hb hK hP hD hS rfl rfl (by omega) (by decide) dP_applyReady_38 (fun H locs hP hD hS => ?_)
            have hP : va_P D vwCl (wLR cc a b (x) (mkR (((aprF x y o).1).self) (((aprF x y o).1).seen) (va_up (aprF x y o).1.wts o false) (((aprF x y o).1).ers) (((aprF x y o).1).kpt) (((aprF x y o).1).mgo) (((aprF x y o).1).txt) (((aprF x y o).1).tl) (((aprF x y o).1).kc) (((aprF x y o).1).wc) (((aprF x y o).1).gs))) H := hP
            have hD : va_D A (wLR cc a b (x) (mkR (((aprF x y o).1).self) (((aprF x y o).1).seen) (va_up (aprF x y o).1.wts o false) (((aprF x y o).1).ers) (((aprF x y o).1).kpt) (((aprF x y o).1).mgo) (((aprF x y o).1).txt) (((aprF x y o).1).tl) (((aprF x y o).1).kc) (((aprF x y o).1).wc) (((aprF x y o).1).gs))) := hD
            refine lv_aload_n hx hb dP_applyReady_39 rfl (lv_at hl 0 rfl) ?_
            refine lv_dup hx hb dP_applyReady_40 rfl ?_
            refine va_get (D := D) (ci := 1) (v := .int (nI (((aprF x y o).1).wc))) (C := RP) (T := TP) (N := 12) hx hb hts in_P hown hK hP 7 rfl rfl 10 (by decide) (hts _ wm_54) (fun _ h9 => h9) rfl dP_applyReady_41 ?_
            refine lv_iconst (v := nI (1)) hx hb dP_applyReady_44 (by decide) ?_
            refine r_sub (hy2 c_21) hx hb dP_applyReady_45 ?_
            refine va_put (D := D) (ci := 1) (v := .int (nI ((((aprF x y o).1).wc) - 1))) (ty := .int) (C := RP) (T := TP) (N := 12) hx hb hts in_P tyP tyP_ok nmP hown hK hP hD hS 7 rfl rfl 10 (by decide) (hts _ wm_54) (fun _ h9 => h9) rfl (by decide +kernel) rfl rfl (Nat.le_of_ble_eq_true rfl) dP_applyReady_46 (fun H locs hP hD hS => ?_)
            have hP : va_P D vwCl (wLR cc a b (x) (mkR (((aprF x y o).1).self) (((aprF x y o).1).seen) (va_up (aprF x y o).1.wts o false) (((aprF x y o).1).ers) (((aprF x y o).1).kpt) (((aprF x y o).1).mgo) (((aprF x y o).1).txt) (((aprF x y o).1).tl) (((aprF x y o).1).kc) ((aprF x y o).1.wc - 1) (((aprF x y o).1).gs))) H := hP
            have hD : va_D A (wLR cc a b (x) (mkR (((aprF x y o).1).self) (((aprF x y o).1).seen) (va_up (aprF x y o).1.wts o false) (((aprF x y o).1).ers) (((aprF x y o).1).kpt) (((aprF x y o).1).mgo) (((aprF x y o).1).txt) (((aprF x y o).1).tl) (((aprF x y o).1).kc) ((aprF x y o).1.wc - 1) (((aprF x y o).1).gs))) := hD
            have hP : va_P D vwCl (wLR cc a b (x) (wtR (aprF x y o).1 o)) H := hP
            have hD : va_D A (wLR cc a b (x) (wtR (aprF x y o).1 o)) := hD
            refine lv_aload_n hx hb dP_applyReady_49 rfl (lv_at hl 0 rfl) ?_
            refine lv_iload_n hx hb dP_applyReady_50 rfl (lv_at hl 2 rfl) ?_
            refine wr_callv (w2 := []) (va_runV (As := [.int (nI (o))]) (rest := []) S (kP_apply D cc a b x (wtR (aprF x y o).1 o) (H.size) o (by omega) (ht o (by omega)) ok (okR_wt kr3)) (cwV 1 hts (gd_V wm_108 wm_109 wm_374 wm_3 wm_110) rfl rfl rfl (by decide +kernel) ⟨Nat.le_of_ble_eq_true rfl, Nat.le_of_ble_eq_true rfl⟩) (wr_preV (q0 := 7) hP hE hD rfl rfl) rfl rfl hl.1 rfl (lv_room (Nat.le_of_ble_eq_true rfl)) dP_applyReady_51 ⟨Nat.le_of_ble_eq_true rfl, Nat.le_of_ble_eq_true rfl⟩) (by rw [List.append_nil]; exact hP) (by rw [List.append_nil]; exact hD) hS hA (fun u H locs hpo hP hD hS => ?_)
            rw [List.append_nil] at hP hD
            have hP : va_P D vwCl (wLR cc a b (x) (applyR x (wtR (aprF x y o).1 o) o)) H := hP
            have hD : va_D A (wLR cc a b (x) (applyR x (wtR (aprF x y o).1 o) o)) := hD
            refine lv_iinc (v := nI (nd + 1)) (lv' := [(1, .int (nI (nd + 1))), (0, .ref (b 0)), (2, .int (nI (o)))]) hx hb dP_applyReady_54 hl (k := 1) rfl (nI_1 _) (by decide) rfl (fun ls hl => ?_)
            refine lv_iinc (v := nI (o + 1)) (lv' := [(2, .int (nI (o + 1))), (1, .int (nI (nd + 1))), (0, .ref (b 0))]) hx hb dP_applyReady_57 hl (k := 2) rfl (nI_1 _) (by decide) rfl (fun ls hl => ?_)
            refine lv_goto (tgt := 4) hx hb dP_applyReady_60 (by decide) ?_
            have hP : va_P D vwCl (wLR cc a b x (aprF x y (o + 1)).1) H := by first | (rw [aprF_t c_21 c_29]; exact hP) | (rw [aprF_f1 c_21]; exact hP) | (rw [aprF_f2 c_29]; exact hP)
            have hD : va_D A (wLR cc a b x (aprF x y (o + 1)).1) := by first | (rw [aprF_t c_21 c_29]; exact hD) | (rw [aprF_f1 c_21]; exact hD) | (rw [aprF_f2 c_29]; exact hD)
            exact ih  (nd + 1) (o + 1) H locs hP hD hS ls (by omega) (by omega) (by first | rfl | (rw [aprF_t c_21 c_29, g1]; done) | (rw [aprF_f1 c_21]; exact g1) | (rw [aprF_f2 c_29]; exact g1)) (lv_sub hl [2, 1, 0] rfl)
  refine lv_iconst (v := nI (0)) hx hb dP_applyReady_0 (by decide) ?_
  refine lv_istore_n (lv' := [(1, .int (nI (0))), (0, .ref (b 0))]) hx hb dP_applyReady_1 rfl hl (by decide) rfl (fun ls hl => ?_)
  refine lv_iconst (v := nI (0)) hx hb dP_applyReady_2 (by decide) ?_
  refine lv_istore_n (lv' := [(2, .int (nI (0))), (1, .int (nI (0))), (0, .ref (b 0))]) hx hb dP_applyReady_3 rfl hl (by decide) rfl (fun ls hl => ?_)
  exact L4 (x.cnt + 1) (0) (0) s.heap [] hP hD hS ls (by omega) (by omega) (by first | rfl | (rw [aprF_t c_21 c_29, g1]; done) | (rw [aprF_f1 c_21]; exact g1) | (rw [aprF_f2 c_29]; exact g1)) (lv_sub hl [2, 1, 0] rfl)

def rmP_issue : Room := { frames := 4, cells := 0, slots := 0, locals := 93 }
set_option maxHeartbeats 4000000 in
set_option maxRecDepth 100000 in
theorem kP_issue {l : Launch} (D : va_G) (cc : Nat → ClassId) (a b : Nat → Nat) (x : LgS) (y : RpS) (sz : Nat) (t ch ib k : Nat) (ht : t ≤ 100) (hch : ch < 65536) (htc : ch = 0 → 0 < t) (hc : x.cnt < 100) (hel : x.el < 100) (hgs : y.gs < 900) (hkc : y.kc < 900) (hsn : ∀ k, y.seen y.self k < 900) (hpl : ¬ ch = 0 → plP (rec5 x y.self (y.gs + 1) t ch (y.seen y.self)) x.cnt ib k) (ok : okL x) (kr : okR y) : Met l yP_issue wsP_issue rmP_issue (va_Pc [.ref (b 0), .int (sI (t)), .int (nI (ch))] (WP D cc (wLR cc a b (x) (y)) sz)) (va_Qi (fun v (_ : Unit) => v = nI x.cnt) (WQ D cc (va_A (wLR cc a b (x) (y)) sz) (fun _ : Unit => wLR cc a b (isuL x y t ch k) (isuR x y t ch k))) (va_A (wLR cc a b (x) (y)) sz)) 0 0 (va_A (wLR cc a b (x) (y)) sz) := by
  refine wr_meti RP [.ref (b 0), .int (sI (t)), .int (nI (ch))] D cc (wLR cc a b (x) (y)) sz (fun _ : Unit => wLR cc a b (isuL x y t ch k) (isuR x y t ch k)) _ (by decide) rfl rfl (Nat.le_of_ble_eq_true rfl) (fun v _ _ => vp_nar_int v) ?_
  intro p e s m args below meth c Q A S hP hE hD hA kx ls hl
  obtain ⟨hx, hb, hml, hown, hts⟩ := id S
  have hK := hE.1
  have hts := hE.ts args
  have S : CallFix p m c cP_issue 4 s args wAll RP := ⟨hx, hb, hml, hown, hts⟩
  have hS : va_S A s.heap s.heap [] := va_S.rf
  have hn := ok.n
  have he := ok.e
  have hself := kr.self
  have htl := kr.tl
  have hl : lv_has ls 4 [(0, .ref (b 0)), (1, .int (sI (t))), (2, .int (nI (ch)))] := hl
  refine lv_aload_n hx hb dP_issue_0 rfl (lv_at hl 0 rfl) ?_
  refine va_get (D := D) (ci := 1) (v := .ref (a 0)) (C := RP) (T := TP) (N := 12) hx hb hts in_P hown hK hP 7 rfl rfl 1 (by decide) (hts _ wm_45) (fun _ h9 => h9) rfl dP_issue_1 ?_
  refine lv_aload_n hx hb dP_issue_4 rfl (lv_at hl 0 rfl) ?_
  refine va_get (D := D) (ci := 1) (v := .int (nI (y.self))) (C := RP) (T := TP) (N := 12) hx hb hts in_P hown hK hP 7 rfl rfl 0 (by decide) (hts _ wm_44) (fun _ h9 => h9) rfl dP_issue_5 ?_
  refine lv_aload_n hx hb dP_issue_8 rfl (lv_at hl 0 rfl) ?_
  refine va_get (D := D) (ci := 1) (v := .int (nI (y.gs))) (C := RP) (T := TP) (N := 12) hx hb hts in_P hown hK hP 7 rfl rfl 11 (by decide) (hts _ wm_55) (fun _ h9 => h9) rfl dP_issue_9 ?_
  refine lv_iconst (v := nI (1)) hx hb dP_issue_12 (by decide) ?_
  refine r_add hx hb dP_issue_13 ?_
  refine lv_aload_n hx hb dP_issue_14 rfl (lv_at hl 0 rfl) ?_
  refine va_get (D := D) (ci := 1) (v := .ref (b 1)) (C := RP) (T := TP) (N := 12) hx hb hts in_P hown hK hP 7 rfl rfl 2 (by decide) (hts _ wm_46) (fun _ h9 => h9) rfl dP_issue_15 ?_
  refine lv_aload_n hx hb dP_issue_18 rfl (lv_at hl 0 rfl) ?_
  refine va_get (D := D) (ci := 1) (v := .int (nI (y.self))) (C := RP) (T := TP) (N := 12) hx hb hts in_P hown hK hP 7 rfl rfl 0 (by decide) (hts _ wm_44) (fun _ h9 => h9) rfl dP_issue_19 ?_
  refine r_aald (q0 := 8) (t0 := 3) (f := (fun j => b (2 + j))) hx hb hK hP rfl rfl (by omega) (by decide) dP_issue_22 ?_
  refine lv_iload_n hx hb dP_issue_23 rfl (lv_at hl 1 rfl) ?_
  refine lv_iload_n hx hb dP_issue_24 rfl (lv_at hl 2 rfl) ?_
  have hPx := lr_P (i := y.self) kr.self hP
  have hDx := lr_D (i := y.self) kr.self hD
  refine wr_calli (w2 := wRx cc (a 0) b y y.self) (va_runV (As := [.int (nI (y.self)), .int (nI (y.gs + 1)), .ref (b (2 + (y.self))), .int (sI (t)), .int (nI (ch))]) (rest := []) S (kL_record D cc a x (b (2 + y.self)) (y.seen y.self) hsn (s.heap.size) y.self (y.gs + 1) t ch ib k kr.self (by have := kr.gs; omega) ht hch hc hel hpl ok) (cwV 5 hts (gd_V wm_92 wm_93 wm_94 wm_2 wm_95) rfl rfl rfl (by decide +kernel) ⟨Nat.le_of_ble_eq_true rfl, Nat.le_of_ble_eq_true rfl⟩) (wr_preV (q0 := 0) (P_left hPx) hE (D_left hDx) rfl rfl) rfl rfl hl.1 rfl (lv_room (Nat.le_of_ble_eq_true rfl)) dP_issue_25 ⟨Nat.le_of_ble_eq_true rfl, Nat.le_of_ble_eq_true rfl⟩) hPx hDx hS hA (fun v_25 u H locs hpo hP hD hS => ?_)
  subst hpo
  have hP : va_P D vwCl (wLR cc a b (isuL x y t ch k) (y)) H := lr_P' kr.self hP
  have hD : va_D A (wLR cc a b (isuL x y t ch k) (y)) := lr_D' kr.self hD
  have ok2 : okL (isuL x y t ch k) := okL_rec ok kr.self (by have := kr.gs; omega) ht hch hc hel hsn
  refine lv_istore_n (lv' := [(3, .int (nI (x.cnt))), (0, .ref (b 0)), (1, .int (sI (t))), (2, .int (nI (ch)))]) hx hb dP_issue_28 rfl hl (by decide) rfl (fun ls hl => ?_)
  refine lv_aload_n hx hb dP_issue_29 rfl (lv_at hl 1 rfl) ?_
  refine lv_iload_n hx hb dP_issue_30 rfl (lv_at hl 0 rfl) ?_
  refine wr_callv (w2 := []) (va_runV (As := [.int (nI (x.cnt))]) (rest := []) S (kP_apply D cc a b (isuL x y t ch k) y (H.size) x.cnt (by omega) (fun q => by rw [show (isuL x y t ch k).tgt x.cnt = t from rec_tgt _ _ _ _ _ _ _]; exact htc ((rec_chr _ _ _ _ _ _ _).symm.trans q)) ok2 kr) (cwV 1 hts (gd_V wm_108 wm_109 wm_374 wm_3 wm_110) rfl rfl rfl (by decide +kernel) ⟨Nat.le_of_ble_eq_true rfl, Nat.le_of_ble_eq_true rfl⟩) (wr_preV (q0 := 7) hP hE hD rfl rfl) rfl rfl hl.1 rfl (lv_room (Nat.le_of_ble_eq_true rfl)) dP_issue_31 ⟨Nat.le_of_ble_eq_true rfl, Nat.le_of_ble_eq_true rfl⟩) (by rw [List.append_nil]; exact hP) (by rw [List.append_nil]; exact hD) hS hA (fun u H locs hpo hP hD hS => ?_)
  rw [List.append_nil] at hP hD
  have hP : va_P D vwCl (wLR cc a b (isuL x y t ch k) (applyR (isuL x y t ch k) y x.cnt)) H := hP
  have hD : va_D A (wLR cc a b (isuL x y t ch k) (applyR (isuL x y t ch k) y x.cnt)) := hD
  have kr2 : okR (applyR (isuL x y t ch k) y x.cnt) := okR_apply ok2 kr hkc
  refine lv_aload_n hx hb dP_issue_34 rfl (lv_at hl 1 rfl) ?_
  refine wr_callv (w2 := []) (va_runV (As := []) (rest := []) S (kP_rewriteText D cc a b (isuL x y t ch k) (applyR (isuL x y t ch k) y x.cnt) (H.size) ok2 kr2) (cwV 0 hts (gd_V wm_127 wm_128 wm_375 wm_3 wm_129) rfl rfl rfl (by decide +kernel) ⟨Nat.le_of_ble_eq_true rfl, Nat.le_of_ble_eq_true rfl⟩) (wr_preV (q0 := 7) hP hE hD rfl rfl) rfl rfl hl.1 rfl (lv_room (Nat.le_of_ble_eq_true rfl)) dP_issue_35 ⟨Nat.le_of_ble_eq_true rfl, Nat.le_of_ble_eq_true rfl⟩) (by rw [List.append_nil]; exact hP) (by rw [List.append_nil]; exact hD) hS hA (fun u H locs hpo hP hD hS => ?_)
  rw [List.append_nil] at hP hD
  have hP : va_P D vwCl (wLR cc a b (isuL x y t ch k) (isuR x y t ch k)) H := hP
  have hD : va_D A (wLR cc a b (isuL x y t ch k) (isuR x y t ch k)) := hD
  refine lv_iload_n hx hb dP_issue_38 rfl (lv_at hl 0 rfl) ?_
  exact kx _ _ _ _ _ (()) dP_issue_39 hS hP hD (rfl)
end
section
/-! The class's public methods: worlds, answers -/
abbrev wTo (cc : Nat → ClassId) (lg : Nat) (g : Nat → Nat) (rp : Nat → Nat) : va_W := [(g 0, .inr (2, [.ref lg, .ref (g 1)])), (g 1, .inl (cc 4, 3, .inr (.inr (.inr (.inr (fun j => some (rp j)))))))]
abbrev wT (cc : Nat → ClassId) (a b g : Nat → Nat) (rp : Nat → Nat) (x : LgS) (y : RpS) : va_W := wLR cc a b x y ++ wTo cc (a 0) g rp
abbrev wTT (cc : Nat → ClassId) (a b d g : Nat → Nat) (rp : Nat → Nat) (x : LgS) (y y2 : RpS) : va_W := wLRR cc a b d x y y2 ++ wTo cc (a 0) g rp
abbrev LRp : Type := LgS × RpS
def RC_insert (x : LgS) (y : RpS) (r : Nat) (kp : Nat → Nat) (z1 z2 : Int32) (k : Nat) (v : Int32) (u : LRp) : Prop :=
  ((isRep z1 = false ∨ k < 32 ∨ 126 < k) ∧ v = -1 ∧ u = (x, y)) ∨ (z1 = nI r ∧ 32 ≤ k ∧ k ≤ 126 ∧
    (((z2 < 0 ∨ ¬ z2 ≤ nI y.tl) ∧ v = -1 ∧ u = (x, y)) ∨ ∃ p : Nat, p ≤ y.tl ∧ z2 = nI p ∧ ((100 ≤ x.cnt ∧ v = -2 ∧ u = (x, y)) ∨ (x.cnt < 100 ∧ v = nI x.cnt ∧ u = (isuL x y (befR y p) k (kp p), isuR x y (befR y p) k (kp p))))))
def RC_erase (x : LgS) (y : RpS) (r : Nat) (ve : Nat) (z1 : Int32) (v : Int32) (u : LRp) : Prop :=
  (isRep z1 = false ∧ v = -1 ∧ u = (x, y)) ∨ (z1 = nI r ∧ ((ve = 0 ∧ v = -1 ∧ u = (x, y)) ∨ (0 < ve ∧ ((100 ≤ x.cnt ∧ v = -2 ∧ u = (x, y)) ∨ (x.cnt < 100 ∧ v = nI x.cnt ∧ u = (isuL x y ve 0 0, isuR x y ve 0 0))))))
def RC_deliver (x : LgS) (y : RpS) (r : Nat) (z1 z2 : Int32) (v : Int32) (u : LRp) : Prop :=
  ((isRep z1 = false ∨ isOp x.cnt z2 = false) ∧ v = -1 ∧ u = (x, y)) ∨ (z1 = nI r ∧ ∃ o : Nat, o < x.cnt ∧ z2 = nI o ∧ v = nI (aprF x (rcvR x y o) x.cnt).2 ∧ u = (x, aprR x (rcvR x y o)))
def RC_sync (x : LgS) (y y2 : RpS) (r t : Nat) (z1 z2 : Int32) (v : Int32) (u : LRp) : Prop :=
  ((isRep z1 = false ∨ isRep z2 = false) ∧ v = -1 ∧ u = (x, y)) ∨ (z1 = nI r ∧ z2 = nI t ∧ v = nI (aprF x (rcaF x y y2 x.cnt) x.cnt).2 ∧ u = (x, aprR x (rcaF x y y2 x.cnt)))
def RC_collect (x : LgS) (y : RpS) (r : Nat) (z1 : Int32) (v : Int32) (u : LRp) : Prop := (isRep z1 = false ∧ v = -1 ∧ u = (x, y)) ∨ (z1 = nI r ∧ v = nI (drF (mkG2 x y x.cnt) y.kpt x.cnt).2 ∧ u = (x, drR x y))
def RC_num (n : Nat) (x : LgS) (y : RpS) (r : Nat) (z1 : Int32) (v : Int32) (u : LRp) : Prop := (isRep z1 = false ∧ v = -1 ∧ u = (x, y)) ∨ (z1 = nI r ∧ v = nI n ∧ u = (x, y))
def RC_at (x : LgS) (y : RpS) (r ve : Nat) (z1 : Int32) (v : Int32) (u : LRp) : Prop := (isRep z1 = false ∧ v = -1 ∧ u = (x, y)) ∨ (z1 = nI r ∧ u = (x, y) ∧ ((ve = 0 ∧ v = -1) ∨ (0 < ve ∧ v = nI (x.chr (ve - 1)))))
def RC_position (x : LgS) (y : RpS) (r vp : Nat) (z1 : Int32) (v : Int32) (u : LRp) : Prop := (isRep z1 = false ∧ v = -1 ∧ u = (x, y)) ∨ (z1 = nI r ∧ v = sI vp ∧ u = (x, y))
def RC_same (x : LgS) (y y2 : RpS) (r t : Nat) (z1 z2 : Int32) (v : Int32) (u : LRp) : Prop := ((isRep z1 = false ∨ isRep z2 = false) ∧ v = bI false ∧ u = (x, y)) ∨ (z1 = nI r ∧ z2 = nI t ∧ v = bI (rdlA x y y2) ∧ u = (x, y))
def RC_stamp (x : LgS) (y : RpS) (z1 : Int32) (v : Int32) (u : LRp) : Prop := (isOp x.cnt z1 = false ∧ v = -1 ∧ u = (x, y)) ∨ ∃ o : Nat, o < x.cnt ∧ z1 = nI o ∧ v = nI (4 * x.stp o + x.iss o) ∧ u = (x, y)
def RC_known (x : LgS) (y : RpS) (r : Nat) (z1 z2 z3 : Int32) (v : Int32) (u : LRp) : Prop := ((isRep z1 = false ∨ isRep z2 = false ∨ isRep z3 = false) ∧ v = -1 ∧ u = (x, y)) ∨ (z1 = nI r ∧ ∃ i j : Nat, i < 3 ∧ z2 = nI i ∧ j < 3 ∧ z3 = nI j ∧ v = nI (y.seen i j) ∧ u = (x, y))
def RC_stable (x : LgS) (y : RpS) (r : Nat) (z1 z2 : Int32) (v : Int32) (u : LRp) : Prop := ((isRep z1 = false ∨ isOp x.cnt z2 = false) ∧ v = bI false ∧ u = (x, y)) ∨ (z1 = nI r ∧ ∃ o : Nat, o < x.cnt ∧ z2 = nI o ∧ v = bI (setL x y o) ∧ u = (x, y))
theorem befR_le {y : RpS} (kr : okR y) (p : Nat) : befR y p ≤ 100 := by
  unfold befR
  split
  · exact Nat.zero_le _
  · exact kr.txt100 _
theorem at_seenT {cc : Nat → ClassId} {a b g : Nat → Nat} {rp : Nat → Nat} {x : LgS} {y : RpS} {i : Nat} (hi : i < 3) : (wT cc a b g rp x y)[9 + i]? = some (b (2 + i), .inl (cc 0, 3, .inl (fun k => nI (y.seen i k)))) := by
  rcases (show i = 0 ∨ i = 1 ∨ i = 2 by omega) with rfl | rfl | rfl <;> rfl
end
section
def rmT_isReplica : Room := { frames := 0, cells := 0, slots := 0, locals := 0 }
set_option maxHeartbeats 4000000 in
set_option maxRecDepth 100000 in
theorem kT_isReplica {l : Launch} (z : Int32) : Met l yT_isReplica wsT_isReplica rmT_isReplica (va_Pc [.int (z)] (fun _ => True)) (QcRead (bI (isRep z))) 0 0 (fun _ => False) := by
  refine rd_met RT [.int (z)] _ _ (by decide) rfl rfl (Nat.le_of_ble_eq_true rfl) (bI_z _) ?_
  intro p e s m args below meth c Q S hB kx ls hl
  obtain ⟨hx, hb, hml, hown, hts⟩ := id S
  have hl : lv_has ls 1 [(0, .int (z))] := hl
  refine lv_iload_n hx hb dT_isReplica_0 rfl (lv_at hl 0 rfl) ?_
  refine lv_if_lt (tgt := 13) hx hb dT_isReplica_1 (by decide) (fun c_1 => ?_) (fun c_1 => ?_)
  · refine lv_iconst (v := bI (false)) hx hb dT_isReplica_13 (by decide) ?_
    exact kx _ _ _ dT_isReplica_14 (by unfold isRep; first | (rw [decide_eq_true (show ¬ z < 0 ∧ ¬ nI 3 ≤ z from ⟨c_1, c_6⟩)]; done) | (rw [decide_eq_false (show ¬ (¬ z < 0 ∧ ¬ nI 3 ≤ z) from fun h => h.1 c_1)]; done) | (rw [decide_eq_false (show ¬ (¬ z < 0 ∧ ¬ nI 3 ≤ z) from fun h => h.2 c_6)]; done))
  · refine lv_iload_n hx hb dT_isReplica_4 rfl (lv_at hl 0 rfl) ?_
    refine lv_iconst (v := nI (3)) hx hb dT_isReplica_5 (by decide) ?_
    refine lv_icmp_ge (tgt := 13) hx hb dT_isReplica_6 (by decide) (fun c_6 => ?_) (fun c_6 => ?_)
    · refine lv_iconst (v := bI (false)) hx hb dT_isReplica_13 (by decide) ?_
      exact kx _ _ _ dT_isReplica_14 (by unfold isRep; first | (rw [decide_eq_true (show ¬ z < 0 ∧ ¬ nI 3 ≤ z from ⟨c_1, c_6⟩)]; done) | (rw [decide_eq_false (show ¬ (¬ z < 0 ∧ ¬ nI 3 ≤ z) from fun h => h.1 c_1)]; done) | (rw [decide_eq_false (show ¬ (¬ z < 0 ∧ ¬ nI 3 ≤ z) from fun h => h.2 c_6)]; done))
    · refine lv_iconst (v := bI (true)) hx hb dT_isReplica_9 (by decide) ?_
      refine lv_goto (tgt := 14) hx hb dT_isReplica_10 (by decide) ?_
      exact kx _ _ _ dT_isReplica_14 (by unfold isRep; first | (rw [decide_eq_true (show ¬ z < 0 ∧ ¬ nI 3 ≤ z from ⟨c_1, c_6⟩)]; done) | (rw [decide_eq_false (show ¬ (¬ z < 0 ∧ ¬ nI 3 ≤ z) from fun h => h.1 c_1)]; done) | (rw [decide_eq_false (show ¬ (¬ z < 0 ∧ ¬ nI 3 ≤ z) from fun h => h.2 c_6)]; done))

def rmT_insert : Room := { frames := 5, cells := 0, slots := 0, locals := 116 }
set_option maxHeartbeats 4000000 in
set_option maxRecDepth 100000 in
theorem kT_insert {l : Launch} (D : va_G) (cc : Nat → ClassId) (a b g : Nat → Nat) (rp : Nat → Nat) (x : LgS) (y : RpS) (sz : Nat) (r : Nat) (hr : r < 3) (hrp : rp r = b 0) (z1 z2 : Int32) (k : Nat) (hk : k < 65536) (hz : isRep z1 = true → z1 = nI r) (hel : x.cnt < 100 → x.el < 100) (hgs : y.gs < 900) (hkc : y.kc < 900) (hsn : ∀ k, y.seen y.self k < 900) (ib kp : Nat → Nat) (hpl : ∀ p, p ≤ y.tl → plP (rec5 x y.self (y.gs + 1) (befR y p) k (y.seen y.self)) x.cnt (ib p) (kp p)) (ok : okL x) (kr : okR y) : Met l yT_insert wsT_insert rmT_insert (va_Pc [.ref (g 0), .int (z1), .int (z2), .int (nI (k))] (WP D cc (wT cc a b g rp (x) (y)) sz)) (va_Qi (RC_insert x y r kp z1 z2 k) (WQ D cc (va_A (wT cc a b g rp (x) (y)) sz) (fun u : LRp => wT cc a b g rp (u.1) (u.2))) (va_A (wT cc a b g rp (x) (y)) sz)) 0 0 (va_A (wT cc a b g rp (x) (y)) sz) := by
  refine wr_meti RT [.ref (g 0), .int (z1), .int (z2), .int (nI (k))] D cc (wT cc a b g rp (x) (y)) sz (fun u : LRp => wT cc a b g rp (u.1) (u.2)) _ (by decide) rfl rfl (Nat.le_of_ble_eq_true rfl) (fun v _ _ => vp_nar_int v) ?_
  intro p e s m args below meth c Q A S hP hE hD hA kx ls hl
  obtain ⟨hx, hb, hml, hown, hts⟩ := id S
  have hK := hE.1
  have hts := hE.ts args
  have S : CallFix p m c cT_insert 5 s args wAll RT := ⟨hx, hb, hml, hown, hts⟩
  have hS : va_S A s.heap s.heap [] := va_S.rf
  have hn := ok.n
  have he := ok.e
  have hself := kr.self
  have htl := kr.tl
  have hl : lv_has ls 5 [(0, .ref (g 0)), (1, .int (z1)), (2, .int (z2)), (3, .int (nI (k)))] := hl
  refine lv_iload_n hx hb dT_insert_0 rfl (lv_at hl 1 rfl) ?_
  refine W.callR (W.runS (As := [.int (z1)]) (rest := []) S (kT_isReplica ((z1))) (va_cwS 1 hts (gd_S wm_77 wm_78 wm_1 wm_79) rfl rfl rfl (by decide +kernel) ⟨Nat.le_of_ble_eq_true rfl, Nat.le_of_ble_eq_true rfl⟩) preT rfl rfl hl.1 rfl (lv_room (Nat.le_of_ble_eq_true rfl)) dT_insert_1 ⟨Nat.le_of_ble_eq_true rfl, Nat.le_of_ble_eq_true rfl⟩) ?_
  refine W.eq (g2 := F0 m 4 ls [.int (bI (isRep ((z1))))]) rfl ?_
  refine r_eqB (tgt := 19) hx hb dT_insert_4 (by decide) (fun c_4 => ?_) (fun c_4 => ?_)
  · refine lv_iconst (v := sI (0)) hx hb dT_insert_19 (by decide) ?_
    exact kx _ _ _ _ _ (x, y) dT_insert_20 hS hP hD (by first | exact Or.inl ⟨Or.inl c_4, sI_0, rfl⟩ | exact Or.inl ⟨Or.inr (Or.inl c_10), sI_0, rfl⟩ | exact Or.inl ⟨Or.inr (Or.inr c_16), sI_0, rfl⟩)
  · refine lv_iload_n hx hb dT_insert_7 rfl (lv_at hl 3 rfl) ?_
    refine lv_bipush (v := nI (32)) hx hb dT_insert_8 (by decide) ?_
    refine r_lt (by omega) (by decide) (tgt := 19) hx hb dT_insert_10 (by decide) (fun c_10 => ?_) (fun c_10 => ?_)
    · refine lv_iconst (v := sI (0)) hx hb dT_insert_19 (by decide) ?_
      exact kx _ _ _ _ _ (x, y) dT_insert_20 hS hP hD (by first | exact Or.inl ⟨Or.inl c_4, sI_0, rfl⟩ | exact Or.inl ⟨Or.inr (Or.inl c_10), sI_0, rfl⟩ | exact Or.inl ⟨Or.inr (Or.inr c_16), sI_0, rfl⟩)
    · refine lv_iload_n hx hb dT_insert_13 rfl (lv_at hl 3 rfl) ?_
      refine lv_bipush (v := nI (126)) hx hb dT_insert_14 (by decide) ?_
      refine r_le (by omega) (by decide) (tgt := 21) hx hb dT_insert_16 (by decide) (fun c_16 => ?_) (fun c_16 => ?_)
      · obtain rfl := hz c_4
        refine lv_aload_n hx hb dT_insert_21 rfl (lv_at hl 0 rfl) ?_
        refine va_get (D := D) (ci := 2) (v := .ref (g 1)) (C := RT) (T := TT) (N := 2) hx hb hts in_T hown hK hP 17 rfl rfl 1 (by decide) (hts _ wm_70) (fun _ h9 => h9) rfl dT_insert_22 ?_
        refine lv_iload_n hx hb dT_insert_25 rfl (lv_at hl 1 rfl) ?_
        refine r_oald (q0 := 18) (t0 := 4) (f := rp) hx hb hK hP rfl rfl (by omega) (by decide) dT_insert_26 ?_
        refine r_topr hrp ?_
        refine lv_astore (lv' := [(4, .ref (b 0)), (0, .ref (g 0)), (1, .int (nI (r))), (2, .int (z2)), (3, .int (nI (k)))]) hx hb dT_insert_27 hl (by decide) rfl (fun ls hl => ?_)
        refine lv_iload_n hx hb dT_insert_29 rfl (lv_at hl 3 rfl) ?_
        refine lv_if_lt (tgt := 42) hx hb dT_insert_30 (by decide) (fun c_30 => ?_) (fun c_30 => ?_)
        · refine lv_iconst (v := sI (0)) hx hb dT_insert_42 (by decide) ?_
          exact kx _ _ _ _ _ (x, y) dT_insert_43 hS hP hD (by first | exact Or.inr ⟨rfl, c_10, c_16, Or.inl ⟨Or.inl c_30, sI_0, rfl⟩⟩ | exact Or.inr ⟨rfl, c_10, c_16, Or.inl ⟨Or.inr c_39, sI_0, rfl⟩⟩)
        · refine lv_iload_n hx hb dT_insert_33 rfl (lv_at hl 3 rfl) ?_
          refine lv_aload hx hb dT_insert_34 (lv_at hl 0 rfl) ?_
          refine va_getN (D := D) (ci := 1) (v := .int (nI (y.tl))) (C := RP) (T := TP) (N := 12) hx hb hts in_P hown hK hP 7 rfl rfl 8 (by decide) (hE.f nf_12) (fun _ h9 => h9) rfl dT_insert_36 ?_
          refine lv_icmp_le (tgt := 44) hx hb dT_insert_39 (by decide) (fun c_39 => ?_) (fun c_39 => ?_)
          · obtain ⟨p, hp_p, rfl⟩ := z_le c_30 c_39 kr.tl
            refine lv_aload_n hx hb dT_insert_44 rfl (lv_at hl 1 rfl) ?_
            refine va_get (D := D) (ci := 2) (v := .ref (a 0)) (C := RT) (T := TT) (N := 2) hx hb hts in_T hown hK hP 17 rfl rfl 0 (by decide) (hts _ wm_69) (fun _ h9 => h9) rfl dT_insert_45 ?_
            refine W.callR (W.runV (As := []) (rest := []) S (kL_isFull D cc a x ok) (cwV 0 hts (gd_V wm_80 wm_81 wm_82 wm_2 wm_83) rfl rfl rfl (by decide +kernel) ⟨Nat.le_of_ble_eq_true rfl, Nat.le_of_ble_eq_true rfl⟩) (rd_preV (q0 := 0) (P_left (P_left hP)) hE rfl rfl) rfl rfl hl.1 rfl (lv_room (Nat.le_of_ble_eq_true rfl)) dT_insert_48 ⟨Nat.le_of_ble_eq_true rfl, Nat.le_of_ble_eq_true rfl⟩) ?_
            refine W.eq (g2 := F0 m 51 ls [.int (bI (decide (100 ≤ x.cnt)))]) rfl ?_
            refine r_eqB (tgt := 59) hx hb dT_insert_51 (by decide) (fun c_51 => ?_) (fun c_51 => ?_)
            · have hcx : x.cnt < 100 := Nat.lt_of_not_le (of_decide_eq_false c_51)
              have hel := hel hcx
              refine lv_aload hx hb dT_insert_59 (lv_at hl 0 rfl) ?_
              refine lv_aload hx hb dT_insert_61 (lv_at hl 0 rfl) ?_
              refine lv_iload_n hx hb dT_insert_63 rfl (lv_at hl 3 rfl) ?_
              refine W.callR (W.runV (As := [.int (nI (p))]) (rest := [.ref (b 0)]) S (kP_elementBefore D cc a b x y (p) hp_p kr) (cwV 1 hts (gd_V wm_84 wm_85 wm_86 wm_3 wm_87) rfl rfl rfl (by decide +kernel) ⟨Nat.le_of_ble_eq_true rfl, Nat.le_of_ble_eq_true rfl⟩) (rd_preV (q0 := 7) (P_left hP) hE rfl rfl) rfl rfl hl.1 rfl (lv_room (Nat.le_of_ble_eq_true rfl)) dT_insert_64 ⟨Nat.le_of_ble_eq_true rfl, Nat.le_of_ble_eq_true rfl⟩) ?_
              refine W.eq (g2 := F0 m 67 ls [.int (sI (befR y (p))), .ref (b 0)]) rfl ?_
              refine lv_iload_n hx hb dT_insert_67 rfl (lv_at hl 4 rfl) ?_
              refine wr_calli (w2 := wTo cc (a 0) g rp) (va_runV (As := [.int (sI (befR y (p))), .int (nI (k))]) (rest := []) S (kP_issue D cc a b x y (s.heap.size) (befR y (p)) (k) (ib p) (kp p) (befR_le kr p) (by omega) (fun q => absurd q (by omega)) (by omega) hel hgs hkc hsn (fun _ => hpl p hp_p) ok kr) (cwV 2 hts (gd_V wm_88 wm_89 wm_90 wm_3 wm_91) rfl rfl rfl (by decide +kernel) ⟨Nat.le_of_ble_eq_true rfl, Nat.le_of_ble_eq_true rfl⟩) (wr_preV (q0 := 7) (P_left hP) hE (D_left hD) rfl rfl) rfl rfl hl.1 rfl (lv_room (Nat.le_of_ble_eq_true rfl)) dT_insert_68 ⟨Nat.le_of_ble_eq_true rfl, Nat.le_of_ble_eq_true rfl⟩) hP hD hS hA (fun v_68 u H locs hpo hP hD hS => ?_)
              subst hpo
              have hP : va_P D vwCl (wT cc a b g rp (isuL x y (befR y (p)) (k) ((kp p))) (isuR x y (befR y (p)) (k) ((kp p)))) H := hP
              have hD : va_D A (wT cc a b g rp (isuL x y (befR y (p)) (k) ((kp p))) (isuR x y (befR y (p)) (k) ((kp p)))) := hD
              exact kx _ _ _ _ _ (isuL x y (befR y (p)) (k) ((kp p)), isuR x y (befR y (p)) (k) ((kp p))) dT_insert_71 hS hP hD (by first | exact Or.inr ⟨rfl, c_10, c_16, Or.inr ⟨p, hp_p, rfl, Or.inl ⟨of_decide_eq_true c_51, rfl, rfl⟩⟩⟩ | exact Or.inr ⟨rfl, c_10, c_16, Or.inr ⟨p, hp_p, rfl, Or.inr ⟨hcx, rfl, rfl⟩⟩⟩)
            · refine lv_bipush (v := (-2)) hx hb dT_insert_54 (by decide) ?_
              refine lv_goto (tgt := 71) hx hb dT_insert_56 (by decide) ?_
              exact kx _ _ _ _ _ (x, y) dT_insert_71 hS hP hD (by first | exact Or.inr ⟨rfl, c_10, c_16, Or.inr ⟨p, hp_p, rfl, Or.inl ⟨of_decide_eq_true c_51, rfl, rfl⟩⟩⟩ | exact Or.inr ⟨rfl, c_10, c_16, Or.inr ⟨p, hp_p, rfl, Or.inr ⟨hcx, rfl, rfl⟩⟩⟩)
          · refine lv_iconst (v := sI (0)) hx hb dT_insert_42 (by decide) ?_
            exact kx _ _ _ _ _ (x, y) dT_insert_43 hS hP hD (by first | exact Or.inr ⟨rfl, c_10, c_16, Or.inl ⟨Or.inl c_30, sI_0, rfl⟩⟩ | exact Or.inr ⟨rfl, c_10, c_16, Or.inl ⟨Or.inr c_39, sI_0, rfl⟩⟩)
      · refine lv_iconst (v := sI (0)) hx hb dT_insert_19 (by decide) ?_
        exact kx _ _ _ _ _ (x, y) dT_insert_20 hS hP hD (by first | exact Or.inl ⟨Or.inl c_4, sI_0, rfl⟩ | exact Or.inl ⟨Or.inr (Or.inl c_10), sI_0, rfl⟩ | exact Or.inl ⟨Or.inr (Or.inr c_16), sI_0, rfl⟩)

def rmT_erase : Room := { frames := 5, cells := 0, slots := 0, locals := 116 }
set_option maxHeartbeats 4000000 in
set_option maxRecDepth 100000 in
theorem kT_erase {l : Launch} (D : va_G) (cc : Nat → ClassId) (a b g : Nat → Nat) (rp : Nat → Nat) (x : LgS) (y : RpS) (sz : Nat) (r : Nat) (hr : r < 3) (hrp : rp r = b 0) (z1 z2 : Int32) (ve : Nat) (hve : eatP y z2 ve) (hve1 : ve ≤ 100) (hz : isRep z1 = true → z1 = nI r) (hel : x.cnt < 100 → x.el < 100) (hgs : y.gs < 900) (hkc : y.kc < 900) (hsn : ∀ k, y.seen y.self k < 900) (ok : okL x) (kr : okR y) : Met l yT_erase wsT_erase rmT_erase (va_Pc [.ref (g 0), .int (z1), .int (z2)] (WP D cc (wT cc a b g rp (x) (y)) sz)) (va_Qi (RC_erase x y r ve z1) (WQ D cc (va_A (wT cc a b g rp (x) (y)) sz) (fun u : LRp => wT cc a b g rp (u.1) (u.2))) (va_A (wT cc a b g rp (x) (y)) sz)) 0 0 (va_A (wT cc a b g rp (x) (y)) sz) := by
  refine wr_meti RT [.ref (g 0), .int (z1), .int (z2)] D cc (wT cc a b g rp (x) (y)) sz (fun u : LRp => wT cc a b g rp (u.1) (u.2)) _ (by decide) rfl rfl (Nat.le_of_ble_eq_true rfl) (fun v _ _ => vp_nar_int v) ?_
  intro p e s m args below meth c Q A S hP hE hD hA kx ls hl
  obtain ⟨hx, hb, hml, hown, hts⟩ := id S
  have hK := hE.1
  have hts := hE.ts args
  have S : CallFix p m c cT_erase 4 s args wAll RT := ⟨hx, hb, hml, hown, hts⟩
  have hS : va_S A s.heap s.heap [] := va_S.rf
  have hn := ok.n
  have he := ok.e
  have hself := kr.self
  have htl := kr.tl
  have hl : lv_has ls 4 [(0, .ref (g 0)), (1, .int (z1)), (2, .int (z2))] := hl
  refine lv_iload_n hx hb dT_erase_0 rfl (lv_at hl 1 rfl) ?_
  refine W.callR (W.runS (As := [.int (z1)]) (rest := []) S (kT_isReplica ((z1))) (va_cwS 1 hts (gd_S wm_77 wm_78 wm_1 wm_79) rfl rfl rfl (by decide +kernel) ⟨Nat.le_of_ble_eq_true rfl, Nat.le_of_ble_eq_true rfl⟩) preT rfl rfl hl.1 rfl (lv_room (Nat.le_of_ble_eq_true rfl)) dT_erase_1 ⟨Nat.le_of_ble_eq_true rfl, Nat.le_of_ble_eq_true rfl⟩) ?_
  refine W.eq (g2 := F0 m 4 ls [.int (bI (isRep ((z1))))]) rfl ?_
  refine r_neB (tgt := 9) hx hb dT_erase_4 (by decide) (fun c_4 => ?_) (fun c_4 => ?_)
  · obtain rfl := hz c_4
    refine lv_aload_n hx hb dT_erase_9 rfl (lv_at hl 0 rfl) ?_
    refine va_get (D := D) (ci := 2) (v := .ref (g 1)) (C := RT) (T := TT) (N := 2) hx hb hts in_T hown hK hP 17 rfl rfl 1 (by decide) (hts _ wm_70) (fun _ h9 => h9) rfl dT_erase_10 ?_
    refine lv_iload_n hx hb dT_erase_13 rfl (lv_at hl 1 rfl) ?_
    refine r_oald (q0 := 18) (t0 := 4) (f := rp) hx hb hK hP rfl rfl (by omega) (by decide) dT_erase_14 ?_
    refine r_topr hrp ?_
    refine lv_iload_n hx hb dT_erase_15 rfl (lv_at hl 2 rfl) ?_
    refine W.callR (W.runV (As := [.int (z2)]) (rest := []) S (kP_elementAt_z D cc a b x y ((z2)) ve hve kr) (cwV 1 hts (gd_V wm_138 wm_139 wm_140 wm_3 wm_141) rfl rfl rfl (by decide +kernel) ⟨Nat.le_of_ble_eq_true rfl, Nat.le_of_ble_eq_true rfl⟩) (rd_preV (q0 := 7) (P_left hP) hE rfl rfl) rfl rfl hl.1 rfl (lv_room (Nat.le_of_ble_eq_true rfl)) dT_erase_16 ⟨Nat.le_of_ble_eq_true rfl, Nat.le_of_ble_eq_true rfl⟩) ?_
    refine W.eq (g2 := F0 m 19 ls [.int (sI (ve))]) rfl ?_
    refine lv_istore_n (lv' := [(3, .int (sI (ve))), (0, .ref (g 0)), (1, .int (nI (r))), (2, .int (z2))]) hx hb dT_erase_19 rfl hl (by decide) rfl (fun ls hl => ?_)
    refine lv_iload_n hx hb dT_erase_20 rfl (lv_at hl 0 rfl) ?_
    refine lv_iconst (v := sI (0)) hx hb dT_erase_21 (by decide) ?_
    refine r_neS (by have := hve1; omega) (by omega) (tgt := 27) hx hb dT_erase_22 (by decide) (fun c_22 => ?_) (fun c_22 => ?_)
    · refine lv_aload_n hx hb dT_erase_27 rfl (lv_at hl 1 rfl) ?_
      refine va_get (D := D) (ci := 2) (v := .ref (a 0)) (C := RT) (T := TT) (N := 2) hx hb hts in_T hown hK hP 17 rfl rfl 0 (by decide) (hts _ wm_69) (fun _ h9 => h9) rfl dT_erase_28 ?_
      refine W.callR (W.runV (As := []) (rest := []) S (kL_isFull D cc a x ok) (cwV 0 hts (gd_V wm_80 wm_81 wm_82 wm_2 wm_83) rfl rfl rfl (by decide +kernel) ⟨Nat.le_of_ble_eq_true rfl, Nat.le_of_ble_eq_true rfl⟩) (rd_preV (q0 := 0) (P_left (P_left hP)) hE rfl rfl) rfl rfl hl.1 rfl (lv_room (Nat.le_of_ble_eq_true rfl)) dT_erase_31 ⟨Nat.le_of_ble_eq_true rfl, Nat.le_of_ble_eq_true rfl⟩) ?_
      refine W.eq (g2 := F0 m 34 ls [.int (bI (decide (100 ≤ x.cnt)))]) rfl ?_
      refine r_eqB (tgt := 42) hx hb dT_erase_34 (by decide) (fun c_34 => ?_) (fun c_34 => ?_)
      · have hcx : x.cnt < 100 := Nat.lt_of_not_le (of_decide_eq_false c_34)
        have hel := hel hcx
        refine lv_aload_n hx hb dT_erase_42 rfl (lv_at hl 1 rfl) ?_
        refine va_get (D := D) (ci := 2) (v := .ref (g 1)) (C := RT) (T := TT) (N := 2) hx hb hts in_T hown hK hP 17 rfl rfl 1 (by decide) (hts _ wm_70) (fun _ h9 => h9) rfl dT_erase_43 ?_
        refine lv_iload_n hx hb dT_erase_46 rfl (lv_at hl 2 rfl) ?_
        refine r_oald (q0 := 18) (t0 := 4) (f := rp) hx hb hK hP rfl rfl (by omega) (by decide) dT_erase_47 ?_
        refine r_topr hrp ?_
        refine lv_iload_n hx hb dT_erase_48 rfl (lv_at hl 0 rfl) ?_
        refine lv_iconst (v := nI (0)) hx hb dT_erase_49 (by decide) ?_
        refine wr_calli (w2 := wTo cc (a 0) g rp) (va_runV (As := [.int (sI (ve)), .int (nI (0))]) (rest := []) S (kP_issue D cc a b x y (s.heap.size) (ve) (0) 0 0 (by omega) (by omega) (fun _ => by omega) (by omega) hel hgs hkc hsn (fun q => absurd rfl q) ok kr) (cwV 2 hts (gd_V wm_88 wm_89 wm_90 wm_3 wm_91) rfl rfl rfl (by decide +kernel) ⟨Nat.le_of_ble_eq_true rfl, Nat.le_of_ble_eq_true rfl⟩) (wr_preV (q0 := 7) (P_left hP) hE (D_left hD) rfl rfl) rfl rfl hl.1 rfl (lv_room (Nat.le_of_ble_eq_true rfl)) dT_erase_50 ⟨Nat.le_of_ble_eq_true rfl, Nat.le_of_ble_eq_true rfl⟩) hP hD hS hA (fun v_50 u H locs hpo hP hD hS => ?_)
        subst hpo
        have hP : va_P D vwCl (wT cc a b g rp (isuL x y (ve) (0) (0)) (isuR x y (ve) (0) (0))) H := hP
        have hD : va_D A (wT cc a b g rp (isuL x y (ve) (0) (0)) (isuR x y (ve) (0) (0))) := hD
        exact kx _ _ _ _ _ (isuL x y (ve) (0) (0), isuR x y (ve) (0) (0)) dT_erase_53 hS hP hD (by first | exact Or.inr ⟨rfl, Or.inr ⟨Nat.pos_of_ne_zero c_22, Or.inl ⟨of_decide_eq_true c_34, rfl, rfl⟩⟩⟩ | exact Or.inr ⟨rfl, Or.inr ⟨Nat.pos_of_ne_zero c_22, Or.inr ⟨hcx, rfl, rfl⟩⟩⟩)
      · refine lv_bipush (v := (-2)) hx hb dT_erase_37 (by decide) ?_
        refine lv_goto (tgt := 53) hx hb dT_erase_39 (by decide) ?_
        exact kx _ _ _ _ _ (x, y) dT_erase_53 hS hP hD (by first | exact Or.inr ⟨rfl, Or.inr ⟨Nat.pos_of_ne_zero c_22, Or.inl ⟨of_decide_eq_true c_34, rfl, rfl⟩⟩⟩ | exact Or.inr ⟨rfl, Or.inr ⟨Nat.pos_of_ne_zero c_22, Or.inr ⟨hcx, rfl, rfl⟩⟩⟩)
    · refine lv_iconst (v := sI (0)) hx hb dT_erase_25 (by decide) ?_
      exact kx _ _ _ _ _ (x, y) dT_erase_26 hS hP hD (Or.inr ⟨rfl, Or.inl ⟨c_22, sI_0, rfl⟩⟩)
  · refine lv_iconst (v := sI (0)) hx hb dT_erase_7 (by decide) ?_
    exact kx _ _ _ _ _ (x, y) dT_erase_8 hS hP hD (Or.inl ⟨c_4, sI_0, rfl⟩)

def rmT_deliver : Room := { frames := 5, cells := 0, slots := 0, locals := 108 }
set_option maxHeartbeats 4000000 in
set_option maxRecDepth 100000 in
theorem kT_deliver {l : Launch} (D : va_G) (cc : Nat → ClassId) (a b g : Nat → Nat) (rp : Nat → Nat) (x : LgS) (y : RpS) (sz : Nat) (r : Nat) (hr : r < 3) (hrp : rp r = b 0) (z1 z2 : Int32) (hz : isRep z1 = true → z1 = nI r) (ht : ∀ o, o < x.cnt → x.chr o = 0 → 0 < x.tgt o) (hp1 : ∀ o, o < x.cnt → 1 ≤ plc x o) (hap : ∀ o, o < x.cnt → okR (rcvR x y o) ∧ ∀ k, k ≤ x.cnt → apOK x (rcvR x y o) k) (ok : okL x) (kr : okR y) : Met l yT_deliver wsT_deliver rmT_deliver (va_Pc [.ref (g 0), .int (z1), .int (z2)] (WP D cc (wT cc a b g rp (x) (y)) sz)) (va_Qi (RC_deliver x y r z1 z2) (WQ D cc (va_A (wT cc a b g rp (x) (y)) sz) (fun u : LRp => wT cc a b g rp (u.1) (u.2))) (va_A (wT cc a b g rp (x) (y)) sz)) 0 0 (va_A (wT cc a b g rp (x) (y)) sz) := by
  refine wr_meti RT [.ref (g 0), .int (z1), .int (z2)] D cc (wT cc a b g rp (x) (y)) sz (fun u : LRp => wT cc a b g rp (u.1) (u.2)) _ (by decide) rfl rfl (Nat.le_of_ble_eq_true rfl) (fun v _ _ => vp_nar_int v) ?_
  intro p e s m args below meth c Q A S hP hE hD hA kx ls hl
  obtain ⟨hx, hb, hml, hown, hts⟩ := id S
  have hK := hE.1
  have hts := hE.ts args
  have S : CallFix p m c cT_deliver 3 s args wAll RT := ⟨hx, hb, hml, hown, hts⟩
  have hS : va_S A s.heap s.heap [] := va_S.rf
  have hn := ok.n
  have he := ok.e
  have hself := kr.self
  have htl := kr.tl
  have hl : lv_has ls 3 [(0, .ref (g 0)), (1, .int (z1)), (2, .int (z2))] := hl
  refine lv_iload_n hx hb dT_deliver_0 rfl (lv_at hl 1 rfl) ?_
  refine W.callR (W.runS (As := [.int (z1)]) (rest := []) S (kT_isReplica ((z1))) (va_cwS 1 hts (gd_S wm_77 wm_78 wm_1 wm_79) rfl rfl rfl (by decide +kernel) ⟨Nat.le_of_ble_eq_true rfl, Nat.le_of_ble_eq_true rfl⟩) preT rfl rfl hl.1 rfl (lv_room (Nat.le_of_ble_eq_true rfl)) dT_deliver_1 ⟨Nat.le_of_ble_eq_true rfl, Nat.le_of_ble_eq_true rfl⟩) ?_
  refine W.eq (g2 := F0 m 4 ls [.int (bI (isRep ((z1))))]) rfl ?_
  refine r_eqB (tgt := 18) hx hb dT_deliver_4 (by decide) (fun c_4 => ?_) (fun c_4 => ?_)
  · refine lv_iconst (v := sI (0)) hx hb dT_deliver_18 (by decide) ?_
    exact kx _ _ _ _ _ (x, y) dT_deliver_19 hS hP hD (by first | exact Or.inl ⟨Or.inl c_4, sI_0, rfl⟩ | exact Or.inl ⟨Or.inr c_15, sI_0, rfl⟩)
  · obtain rfl := hz c_4
    refine lv_aload_n hx hb dT_deliver_7 rfl (lv_at hl 0 rfl) ?_
    refine va_get (D := D) (ci := 2) (v := .ref (a 0)) (C := RT) (T := TT) (N := 2) hx hb hts in_T hown hK hP 17 rfl rfl 0 (by decide) (hts _ wm_69) (fun _ h9 => h9) rfl dT_deliver_8 ?_
    refine lv_iload_n hx hb dT_deliver_11 rfl (lv_at hl 2 rfl) ?_
    refine W.callR (W.runV (As := [.int (z2)]) (rest := []) S (kL_isIssued D cc a x ((z2)) ok) (cwV 1 hts (gd_V wm_146 wm_147 wm_148 wm_2 wm_149) rfl rfl rfl (by decide +kernel) ⟨Nat.le_of_ble_eq_true rfl, Nat.le_of_ble_eq_true rfl⟩) (rd_preV (q0 := 0) (P_left (P_left hP)) hE rfl rfl) rfl rfl hl.1 rfl (lv_room (Nat.le_of_ble_eq_true rfl)) dT_deliver_12 ⟨Nat.le_of_ble_eq_true rfl, Nat.le_of_ble_eq_true rfl⟩) ?_
    refine W.eq (g2 := F0 m 15 ls [.int (bI (isOp x.cnt ((z2))))]) rfl ?_
    refine r_neB (tgt := 20) hx hb dT_deliver_15 (by decide) (fun c_15 => ?_) (fun c_15 => ?_)
    · obtain ⟨o, ho_o, rfl⟩ := isOp_of c_15
      refine lv_aload_n hx hb dT_deliver_20 rfl (lv_at hl 0 rfl) ?_
      refine va_get (D := D) (ci := 2) (v := .ref (g 1)) (C := RT) (T := TT) (N := 2) hx hb hts in_T hown hK hP 17 rfl rfl 1 (by decide) (hts _ wm_70) (fun _ h9 => h9) rfl dT_deliver_21 ?_
      refine lv_iload_n hx hb dT_deliver_24 rfl (lv_at hl 1 rfl) ?_
      refine r_oald (q0 := 18) (t0 := 4) (f := rp) hx hb hK hP rfl rfl (by omega) (by decide) dT_deliver_25 ?_
      refine r_topr hrp ?_
      refine lv_iload_n hx hb dT_deliver_26 rfl (lv_at hl 2 rfl) ?_
      refine wr_callv (w2 := wTo cc (a 0) g rp) (va_runV (As := [.int (nI (o))]) (rest := []) S (kP_receive D cc a b x (y) (s.heap.size) o (by omega) ok kr) (cwV 1 hts (gd_V wm_150 wm_151 wm_152 wm_3 wm_153) rfl rfl rfl (by decide +kernel) ⟨Nat.le_of_ble_eq_true rfl, Nat.le_of_ble_eq_true rfl⟩) (wr_preV (q0 := 7) (P_left hP) hE (D_left hD) rfl rfl) rfl rfl hl.1 rfl (lv_room (Nat.le_of_ble_eq_true rfl)) dT_deliver_27 ⟨Nat.le_of_ble_eq_true rfl, Nat.le_of_ble_eq_true rfl⟩) hP hD hS hA (fun u H locs hpo hP hD hS => ?_)
      have hP : va_P D vwCl (wT cc a b g rp (x) (rcvR x (y) o)) H := hP
      have hD : va_D A (wT cc a b g rp (x) (rcvR x (y) o)) := hD
      refine lv_aload_n hx hb dT_deliver_30 rfl (lv_at hl 0 rfl) ?_
      refine va_get (D := D) (ci := 2) (v := .ref (g 1)) (C := RT) (T := TT) (N := 2) hx hb hts in_T hown hK hP 17 rfl rfl 1 (by decide) (hts _ wm_70) (fun _ h9 => h9) rfl dT_deliver_31 ?_
      refine lv_iload_n hx hb dT_deliver_34 rfl (lv_at hl 1 rfl) ?_
      refine r_oald (q0 := 18) (t0 := 4) (f := rp) hx hb hK hP rfl rfl (by omega) (by decide) dT_deliver_35 ?_
      refine r_topr hrp ?_
      refine wr_calli (w2 := wTo cc (a 0) g rp) (va_runV (As := []) (rest := []) S (kP_applyReady D cc a b x (rcvR x (y) o) (H.size) ht hp1 ((hap o ho_o).2) ok ((hap o ho_o).1)) (cwV 0 hts (gd_V wm_154 wm_155 wm_156 wm_3 wm_157) rfl rfl rfl (by decide +kernel) ⟨Nat.le_of_ble_eq_true rfl, Nat.le_of_ble_eq_true rfl⟩) (wr_preV (q0 := 7) (P_left hP) hE (D_left hD) rfl rfl) rfl rfl hl.1 rfl (lv_room (Nat.le_of_ble_eq_true rfl)) dT_deliver_36 ⟨Nat.le_of_ble_eq_true rfl, Nat.le_of_ble_eq_true rfl⟩) hP hD hS hA (fun v_36 u H locs hpo hP hD hS => ?_)
      subst hpo
      have hP : va_P D vwCl (wT cc a b g rp (x) (aprR x (rcvR x (y) o))) H := hP
      have hD : va_D A (wT cc a b g rp (x) (aprR x (rcvR x (y) o))) := hD
      exact kx _ _ _ _ _ (x, aprR x (rcvR x (y) o)) dT_deliver_39 hS hP hD (Or.inr ⟨rfl, o, ho_o, rfl, rfl, rfl⟩)
    · refine lv_iconst (v := sI (0)) hx hb dT_deliver_18 (by decide) ?_
      exact kx _ _ _ _ _ (x, y) dT_deliver_19 hS hP hD (by first | exact Or.inl ⟨Or.inl c_4, sI_0, rfl⟩ | exact Or.inl ⟨Or.inr c_15, sI_0, rfl⟩)

def rmT_collect : Room := { frames := 6, cells := 0, slots := 0, locals := 131 }
set_option maxHeartbeats 4000000 in
set_option maxRecDepth 100000 in
theorem kT_collect {l : Launch} (D : va_G) (cc : Nat → ClassId) (a b g : Nat → Nat) (rp : Nat → Nat) (x : LgS) (y : RpS) (sz : Nat) (r : Nat) (hr : r < 3) (hrp : rp r = b 0) (z1 : Int32) (hz : isRep z1 = true → z1 = nI r) (ht : ∀ o, o < x.cnt → x.chr o = 0 → 0 < x.tgt o) (hkc : (drF (mkG2 x y x.cnt) y.kpt x.cnt).2 ≤ y.kc) (ok : okL x) (kr : okR y) : Met l yT_collect wsT_collect rmT_collect (va_Pc [.ref (g 0), .int (z1)] (WP D cc (wT cc a b g rp (x) (y)) sz)) (va_Qi (RC_collect x y r z1) (WQ D cc (va_A (wT cc a b g rp (x) (y)) sz) (fun u : LRp => wT cc a b g rp (u.1) (u.2))) (va_A (wT cc a b g rp (x) (y)) sz)) 0 0 (va_A (wT cc a b g rp (x) (y)) sz) := by
  refine wr_meti RT [.ref (g 0), .int (z1)] D cc (wT cc a b g rp (x) (y)) sz (fun u : LRp => wT cc a b g rp (u.1) (u.2)) _ (by decide) rfl rfl (Nat.le_of_ble_eq_true rfl) (fun v _ _ => vp_nar_int v) ?_
  intro p e s m args below meth c Q A S hP hE hD hA kx ls hl
  obtain ⟨hx, hb, hml, hown, hts⟩ := id S
  have hK := hE.1
  have hts := hE.ts args
  have S : CallFix p m c cT_collect 2 s args wAll RT := ⟨hx, hb, hml, hown, hts⟩
  have hS : va_S A s.heap s.heap [] := va_S.rf
  have hn := ok.n
  have he := ok.e
  have hself := kr.self
  have htl := kr.tl
  have hl : lv_has ls 2 [(0, .ref (g 0)), (1, .int (z1))] := hl
  refine lv_iload_n hx hb dT_collect_0 rfl (lv_at hl 1 rfl) ?_
  refine W.callR (W.runS (As := [.int (z1)]) (rest := []) S (kT_isReplica ((z1))) (va_cwS 1 hts (gd_S wm_77 wm_78 wm_1 wm_79) rfl rfl rfl (by decide +kernel) ⟨Nat.le_of_ble_eq_true rfl, Nat.le_of_ble_eq_true rfl⟩) preT rfl rfl hl.1 rfl (lv_room (Nat.le_of_ble_eq_true rfl)) dT_collect_1 ⟨Nat.le_of_ble_eq_true rfl, Nat.le_of_ble_eq_true rfl⟩) ?_
  refine W.eq (g2 := F0 m 4 ls [.int (bI (isRep ((z1))))]) rfl ?_
  refine r_eqB (tgt := 19) hx hb dT_collect_4 (by decide) (fun c_4 => ?_) (fun c_4 => ?_)
  · refine lv_iconst (v := sI (0)) hx hb dT_collect_19 (by decide) ?_
    exact kx _ _ _ _ _ (x, y) dT_collect_20 hS hP hD (by first | exact Or.inl ⟨c_4, sI_0, rfl⟩ | exact Or.inr ⟨rfl, rfl, rfl⟩)
  · obtain rfl := hz c_4
    refine lv_aload_n hx hb dT_collect_7 rfl (lv_at hl 0 rfl) ?_
    refine va_get (D := D) (ci := 2) (v := .ref (g 1)) (C := RT) (T := TT) (N := 2) hx hb hts in_T hown hK hP 17 rfl rfl 1 (by decide) (hts _ wm_70) (fun _ h9 => h9) rfl dT_collect_8 ?_
    refine lv_iload_n hx hb dT_collect_11 rfl (lv_at hl 1 rfl) ?_
    refine r_oald (q0 := 18) (t0 := 4) (f := rp) hx hb hK hP rfl rfl (by omega) (by decide) dT_collect_12 ?_
    refine r_topr hrp ?_
    refine wr_calli (w2 := wTo cc (a 0) g rp) (va_runV (As := []) (rest := []) S (kP_dropErased D cc a b x y (s.heap.size) ht hkc ok kr) (cwV 0 hts (gd_V wm_174 wm_175 wm_176 wm_3 wm_177) rfl rfl rfl (by decide +kernel) ⟨Nat.le_of_ble_eq_true rfl, Nat.le_of_ble_eq_true rfl⟩) (wr_preV (q0 := 7) (P_left hP) hE (D_left hD) rfl rfl) rfl rfl hl.1 rfl (lv_room (Nat.le_of_ble_eq_true rfl)) dT_collect_13 ⟨Nat.le_of_ble_eq_true rfl, Nat.le_of_ble_eq_true rfl⟩) hP hD hS hA (fun v_13 u H locs hpo hP hD hS => ?_)
    subst hpo
    have hP : va_P D vwCl (wT cc a b g rp (x) (drR x y)) H := hP
    have hD : va_D A (wT cc a b g rp (x) (drR x y)) := hD
    refine lv_goto (tgt := 20) hx hb dT_collect_16 (by decide) ?_
    exact kx _ _ _ _ _ (x, drR x y) dT_collect_20 hS hP hD (by first | exact Or.inl ⟨c_4, sI_0, rfl⟩ | exact Or.inr ⟨rfl, rfl, rfl⟩)

def rmT_length : Room := { frames := 1, cells := 0, slots := 0, locals := 20 }
set_option maxHeartbeats 4000000 in
set_option maxRecDepth 100000 in
theorem kT_length {l : Launch} (D : va_G) (cc : Nat → ClassId) (a b g : Nat → Nat) (rp : Nat → Nat) (x : LgS) (y : RpS) (sz : Nat) (r : Nat) (hr : r < 3) (hrp : rp r = b 0) (z1 : Int32) (hz : isRep z1 = true → z1 = nI r) (ok : okL x) (kr : okR y) : Met l yT_length wsT_length rmT_length (va_Pc [.ref (g 0), .int (z1)] (WP D cc (wT cc a b g rp (x) (y)) sz)) (va_Qi (RC_num y.tl x y r z1) (WQ D cc (va_A (wT cc a b g rp (x) (y)) sz) (fun u : LRp => wT cc a b g rp (u.1) (u.2))) (va_A (wT cc a b g rp (x) (y)) sz)) 0 0 (va_A (wT cc a b g rp (x) (y)) sz) := by
  refine wr_meti RT [.ref (g 0), .int (z1)] D cc (wT cc a b g rp (x) (y)) sz (fun u : LRp => wT cc a b g rp (u.1) (u.2)) _ (by decide) rfl rfl (Nat.le_of_ble_eq_true rfl) (fun v _ _ => vp_nar_int v) ?_
  intro p e s m args below meth c Q A S hP hE hD hA kx ls hl
  obtain ⟨hx, hb, hml, hown, hts⟩ := id S
  have hK := hE.1
  have hts := hE.ts args
  have S : CallFix p m c cT_length 2 s args wAll RT := ⟨hx, hb, hml, hown, hts⟩
  have hS : va_S A s.heap s.heap [] := va_S.rf
  have hn := ok.n
  have he := ok.e
  have hself := kr.self
  have htl := kr.tl
  have hl : lv_has ls 2 [(0, .ref (g 0)), (1, .int (z1))] := hl
  refine lv_iload_n hx hb dT_length_0 rfl (lv_at hl 1 rfl) ?_
  refine W.callR (W.runS (As := [.int (z1)]) (rest := []) S (kT_isReplica ((z1))) (va_cwS 1 hts (gd_S wm_77 wm_78 wm_1 wm_79) rfl rfl rfl (by decide +kernel) ⟨Nat.le_of_ble_eq_true rfl, Nat.le_of_ble_eq_true rfl⟩) preT rfl rfl hl.1 rfl (lv_room (Nat.le_of_ble_eq_true rfl)) dT_length_1 ⟨Nat.le_of_ble_eq_true rfl, Nat.le_of_ble_eq_true rfl⟩) ?_
  refine W.eq (g2 := F0 m 4 ls [.int (bI (isRep ((z1))))]) rfl ?_
  refine r_eqB (tgt := 19) hx hb dT_length_4 (by decide) (fun c_4 => ?_) (fun c_4 => ?_)
  · refine lv_iconst (v := sI (0)) hx hb dT_length_19 (by decide) ?_
    exact kx _ _ _ _ _ (x, y) dT_length_20 hS hP hD (by first | exact Or.inl ⟨c_4, sI_0, rfl⟩ | exact Or.inr ⟨rfl, rfl, rfl⟩)
  · obtain rfl := hz c_4
    refine lv_aload_n hx hb dT_length_7 rfl (lv_at hl 0 rfl) ?_
    refine va_get (D := D) (ci := 2) (v := .ref (g 1)) (C := RT) (T := TT) (N := 2) hx hb hts in_T hown hK hP 17 rfl rfl 1 (by decide) (hts _ wm_70) (fun _ h9 => h9) rfl dT_length_8 ?_
    refine lv_iload_n hx hb dT_length_11 rfl (lv_at hl 1 rfl) ?_
    refine r_oald (q0 := 18) (t0 := 4) (f := rp) hx hb hK hP rfl rfl (by omega) (by decide) dT_length_12 ?_
    refine r_topr hrp ?_
    refine va_getN (D := D) (ci := 1) (v := .int (nI (y.tl))) (C := RP) (T := TP) (N := 12) hx hb hts in_P hown hK hP 7 rfl rfl 8 (by decide) (hE.f nf_12) (fun _ h9 => h9) rfl dT_length_13 ?_
    refine lv_goto (tgt := 20) hx hb dT_length_16 (by decide) ?_
    exact kx _ _ _ _ _ (x, y) dT_length_20 hS hP hD (by first | exact Or.inl ⟨c_4, sI_0, rfl⟩ | exact Or.inr ⟨rfl, rfl, rfl⟩)

def rmT_kept : Room := { frames := 1, cells := 0, slots := 0, locals := 20 }
set_option maxHeartbeats 4000000 in
set_option maxRecDepth 100000 in
theorem kT_kept {l : Launch} (D : va_G) (cc : Nat → ClassId) (a b g : Nat → Nat) (rp : Nat → Nat) (x : LgS) (y : RpS) (sz : Nat) (r : Nat) (hr : r < 3) (hrp : rp r = b 0) (z1 : Int32) (hz : isRep z1 = true → z1 = nI r) (ok : okL x) (kr : okR y) : Met l yT_kept wsT_kept rmT_kept (va_Pc [.ref (g 0), .int (z1)] (WP D cc (wT cc a b g rp (x) (y)) sz)) (va_Qi (RC_num y.kc x y r z1) (WQ D cc (va_A (wT cc a b g rp (x) (y)) sz) (fun u : LRp => wT cc a b g rp (u.1) (u.2))) (va_A (wT cc a b g rp (x) (y)) sz)) 0 0 (va_A (wT cc a b g rp (x) (y)) sz) := by
  refine wr_meti RT [.ref (g 0), .int (z1)] D cc (wT cc a b g rp (x) (y)) sz (fun u : LRp => wT cc a b g rp (u.1) (u.2)) _ (by decide) rfl rfl (Nat.le_of_ble_eq_true rfl) (fun v _ _ => vp_nar_int v) ?_
  intro p e s m args below meth c Q A S hP hE hD hA kx ls hl
  obtain ⟨hx, hb, hml, hown, hts⟩ := id S
  have hK := hE.1
  have hts := hE.ts args
  have S : CallFix p m c cT_kept 2 s args wAll RT := ⟨hx, hb, hml, hown, hts⟩
  have hS : va_S A s.heap s.heap [] := va_S.rf
  have hn := ok.n
  have he := ok.e
  have hself := kr.self
  have htl := kr.tl
  have hl : lv_has ls 2 [(0, .ref (g 0)), (1, .int (z1))] := hl
  refine lv_iload_n hx hb dT_kept_0 rfl (lv_at hl 1 rfl) ?_
  refine W.callR (W.runS (As := [.int (z1)]) (rest := []) S (kT_isReplica ((z1))) (va_cwS 1 hts (gd_S wm_77 wm_78 wm_1 wm_79) rfl rfl rfl (by decide +kernel) ⟨Nat.le_of_ble_eq_true rfl, Nat.le_of_ble_eq_true rfl⟩) preT rfl rfl hl.1 rfl (lv_room (Nat.le_of_ble_eq_true rfl)) dT_kept_1 ⟨Nat.le_of_ble_eq_true rfl, Nat.le_of_ble_eq_true rfl⟩) ?_
  refine W.eq (g2 := F0 m 4 ls [.int (bI (isRep ((z1))))]) rfl ?_
  refine r_eqB (tgt := 19) hx hb dT_kept_4 (by decide) (fun c_4 => ?_) (fun c_4 => ?_)
  · refine lv_iconst (v := sI (0)) hx hb dT_kept_19 (by decide) ?_
    exact kx _ _ _ _ _ (x, y) dT_kept_20 hS hP hD (by first | exact Or.inl ⟨c_4, sI_0, rfl⟩ | exact Or.inr ⟨rfl, rfl, rfl⟩)
  · obtain rfl := hz c_4
    refine lv_aload_n hx hb dT_kept_7 rfl (lv_at hl 0 rfl) ?_
    refine va_get (D := D) (ci := 2) (v := .ref (g 1)) (C := RT) (T := TT) (N := 2) hx hb hts in_T hown hK hP 17 rfl rfl 1 (by decide) (hts _ wm_70) (fun _ h9 => h9) rfl dT_kept_8 ?_
    refine lv_iload_n hx hb dT_kept_11 rfl (lv_at hl 1 rfl) ?_
    refine r_oald (q0 := 18) (t0 := 4) (f := rp) hx hb hK hP rfl rfl (by omega) (by decide) dT_kept_12 ?_
    refine r_topr hrp ?_
    refine va_getN (D := D) (ci := 1) (v := .int (nI (y.kc))) (C := RP) (T := TP) (N := 12) hx hb hts in_P hown hK hP 7 rfl rfl 9 (by decide) (hE.f nf_13) (fun _ h9 => h9) rfl dT_kept_13 ?_
    refine lv_goto (tgt := 20) hx hb dT_kept_16 (by decide) ?_
    exact kx _ _ _ _ _ (x, y) dT_kept_20 hS hP hD (by first | exact Or.inl ⟨c_4, sI_0, rfl⟩ | exact Or.inr ⟨rfl, rfl, rfl⟩)

def rmT_waiting : Room := { frames := 1, cells := 0, slots := 0, locals := 20 }
set_option maxHeartbeats 4000000 in
set_option maxRecDepth 100000 in
theorem kT_waiting {l : Launch} (D : va_G) (cc : Nat → ClassId) (a b g : Nat → Nat) (rp : Nat → Nat) (x : LgS) (y : RpS) (sz : Nat) (r : Nat) (hr : r < 3) (hrp : rp r = b 0) (z1 : Int32) (hz : isRep z1 = true → z1 = nI r) (ok : okL x) (kr : okR y) : Met l yT_waiting wsT_waiting rmT_waiting (va_Pc [.ref (g 0), .int (z1)] (WP D cc (wT cc a b g rp (x) (y)) sz)) (va_Qi (RC_num y.wc x y r z1) (WQ D cc (va_A (wT cc a b g rp (x) (y)) sz) (fun u : LRp => wT cc a b g rp (u.1) (u.2))) (va_A (wT cc a b g rp (x) (y)) sz)) 0 0 (va_A (wT cc a b g rp (x) (y)) sz) := by
  refine wr_meti RT [.ref (g 0), .int (z1)] D cc (wT cc a b g rp (x) (y)) sz (fun u : LRp => wT cc a b g rp (u.1) (u.2)) _ (by decide) rfl rfl (Nat.le_of_ble_eq_true rfl) (fun v _ _ => vp_nar_int v) ?_
  intro p e s m args below meth c Q A S hP hE hD hA kx ls hl
  obtain ⟨hx, hb, hml, hown, hts⟩ := id S
  have hK := hE.1
  have hts := hE.ts args
  have S : CallFix p m c cT_waiting 2 s args wAll RT := ⟨hx, hb, hml, hown, hts⟩
  have hS : va_S A s.heap s.heap [] := va_S.rf
  have hn := ok.n
  have he := ok.e
  have hself := kr.self
  have htl := kr.tl
  have hl : lv_has ls 2 [(0, .ref (g 0)), (1, .int (z1))] := hl
  refine lv_iload_n hx hb dT_waiting_0 rfl (lv_at hl 1 rfl) ?_
  refine W.callR (W.runS (As := [.int (z1)]) (rest := []) S (kT_isReplica ((z1))) (va_cwS 1 hts (gd_S wm_77 wm_78 wm_1 wm_79) rfl rfl rfl (by decide +kernel) ⟨Nat.le_of_ble_eq_true rfl, Nat.le_of_ble_eq_true rfl⟩) preT rfl rfl hl.1 rfl (lv_room (Nat.le_of_ble_eq_true rfl)) dT_waiting_1 ⟨Nat.le_of_ble_eq_true rfl, Nat.le_of_ble_eq_true rfl⟩) ?_
  refine W.eq (g2 := F0 m 4 ls [.int (bI (isRep ((z1))))]) rfl ?_
  refine r_eqB (tgt := 19) hx hb dT_waiting_4 (by decide) (fun c_4 => ?_) (fun c_4 => ?_)
  · refine lv_iconst (v := sI (0)) hx hb dT_waiting_19 (by decide) ?_
    exact kx _ _ _ _ _ (x, y) dT_waiting_20 hS hP hD (by first | exact Or.inl ⟨c_4, sI_0, rfl⟩ | exact Or.inr ⟨rfl, rfl, rfl⟩)
  · obtain rfl := hz c_4
    refine lv_aload_n hx hb dT_waiting_7 rfl (lv_at hl 0 rfl) ?_
    refine va_get (D := D) (ci := 2) (v := .ref (g 1)) (C := RT) (T := TT) (N := 2) hx hb hts in_T hown hK hP 17 rfl rfl 1 (by decide) (hts _ wm_70) (fun _ h9 => h9) rfl dT_waiting_8 ?_
    refine lv_iload_n hx hb dT_waiting_11 rfl (lv_at hl 1 rfl) ?_
    refine r_oald (q0 := 18) (t0 := 4) (f := rp) hx hb hK hP rfl rfl (by omega) (by decide) dT_waiting_12 ?_
    refine r_topr hrp ?_
    refine va_getN (D := D) (ci := 1) (v := .int (nI (y.wc))) (C := RP) (T := TP) (N := 12) hx hb hts in_P hown hK hP 7 rfl rfl 10 (by decide) (hE.f nf_14) (fun _ h9 => h9) rfl dT_waiting_13 ?_
    refine lv_goto (tgt := 20) hx hb dT_waiting_16 (by decide) ?_
    exact kx _ _ _ _ _ (x, y) dT_waiting_20 hS hP hD (by first | exact Or.inl ⟨c_4, sI_0, rfl⟩ | exact Or.inr ⟨rfl, rfl, rfl⟩)

def rmT_at : Room := { frames := 1, cells := 0, slots := 0, locals := 21 }
set_option maxHeartbeats 4000000 in
set_option maxRecDepth 100000 in
theorem kT_at {l : Launch} (D : va_G) (cc : Nat → ClassId) (a b g : Nat → Nat) (rp : Nat → Nat) (x : LgS) (y : RpS) (sz : Nat) (r : Nat) (hr : r < 3) (hrp : rp r = b 0) (z1 z2 : Int32) (ve : Nat) (hve : eatP y z2 ve) (hve1 : ve ≤ 100) (hz : isRep z1 = true → z1 = nI r) (ok : okL x) (kr : okR y) : Met l yT_at wsT_at rmT_at (va_Pc [.ref (g 0), .int (z1), .int (z2)] (WP D cc (wT cc a b g rp (x) (y)) sz)) (va_Qi (RC_at x y r ve z1) (WQ D cc (va_A (wT cc a b g rp (x) (y)) sz) (fun u : LRp => wT cc a b g rp (u.1) (u.2))) (va_A (wT cc a b g rp (x) (y)) sz)) 0 0 (va_A (wT cc a b g rp (x) (y)) sz) := by
  refine wr_meti RT [.ref (g 0), .int (z1), .int (z2)] D cc (wT cc a b g rp (x) (y)) sz (fun u : LRp => wT cc a b g rp (u.1) (u.2)) _ (by decide) rfl rfl (Nat.le_of_ble_eq_true rfl) (fun v _ _ => vp_nar_int v) ?_
  intro p e s m args below meth c Q A S hP hE hD hA kx ls hl
  obtain ⟨hx, hb, hml, hown, hts⟩ := id S
  have hK := hE.1
  have hts := hE.ts args
  have S : CallFix p m c cT_at 4 s args wAll RT := ⟨hx, hb, hml, hown, hts⟩
  have hS : va_S A s.heap s.heap [] := va_S.rf
  have hn := ok.n
  have he := ok.e
  have hself := kr.self
  have htl := kr.tl
  have hl : lv_has ls 4 [(0, .ref (g 0)), (1, .int (z1)), (2, .int (z2))] := hl
  refine lv_iload_n hx hb dT_at_0 rfl (lv_at hl 1 rfl) ?_
  refine W.callR (W.runS (As := [.int (z1)]) (rest := []) S (kT_isReplica ((z1))) (va_cwS 1 hts (gd_S wm_77 wm_78 wm_1 wm_79) rfl rfl rfl (by decide +kernel) ⟨Nat.le_of_ble_eq_true rfl, Nat.le_of_ble_eq_true rfl⟩) preT rfl rfl hl.1 rfl (lv_room (Nat.le_of_ble_eq_true rfl)) dT_at_1 ⟨Nat.le_of_ble_eq_true rfl, Nat.le_of_ble_eq_true rfl⟩) ?_
  refine W.eq (g2 := F0 m 4 ls [.int (bI (isRep ((z1))))]) rfl ?_
  refine r_neB (tgt := 9) hx hb dT_at_4 (by decide) (fun c_4 => ?_) (fun c_4 => ?_)
  · obtain rfl := hz c_4
    refine lv_aload_n hx hb dT_at_9 rfl (lv_at hl 0 rfl) ?_
    refine va_get (D := D) (ci := 2) (v := .ref (g 1)) (C := RT) (T := TT) (N := 2) hx hb hts in_T hown hK hP 17 rfl rfl 1 (by decide) (hts _ wm_70) (fun _ h9 => h9) rfl dT_at_10 ?_
    refine lv_iload_n hx hb dT_at_13 rfl (lv_at hl 1 rfl) ?_
    refine r_oald (q0 := 18) (t0 := 4) (f := rp) hx hb hK hP rfl rfl (by omega) (by decide) dT_at_14 ?_
    refine r_topr hrp ?_
    refine lv_iload_n hx hb dT_at_15 rfl (lv_at hl 2 rfl) ?_
    refine W.callR (W.runV (As := [.int (z2)]) (rest := []) S (kP_elementAt_z D cc a b x y ((z2)) ve hve kr) (cwV 1 hts (gd_V wm_138 wm_139 wm_140 wm_3 wm_141) rfl rfl rfl (by decide +kernel) ⟨Nat.le_of_ble_eq_true rfl, Nat.le_of_ble_eq_true rfl⟩) (rd_preV (q0 := 7) (P_left hP) hE rfl rfl) rfl rfl hl.1 rfl (lv_room (Nat.le_of_ble_eq_true rfl)) dT_at_16 ⟨Nat.le_of_ble_eq_true rfl, Nat.le_of_ble_eq_true rfl⟩) ?_
    refine W.eq (g2 := F0 m 19 ls [.int (sI (ve))]) rfl ?_
    refine lv_istore_n (lv' := [(3, .int (sI (ve))), (0, .ref (g 0)), (1, .int (nI (r))), (2, .int (z2))]) hx hb dT_at_19 rfl hl (by decide) rfl (fun ls hl => ?_)
    refine lv_iload_n hx hb dT_at_20 rfl (lv_at hl 0 rfl) ?_
    refine lv_iconst (v := sI (0)) hx hb dT_at_21 (by decide) ?_
    refine r_neS (by have := hve1; omega) (by omega) (tgt := 27) hx hb dT_at_22 (by decide) (fun c_22 => ?_) (fun c_22 => ?_)
    · refine lv_aload_n hx hb dT_at_27 rfl (lv_at hl 1 rfl) ?_
      refine va_get (D := D) (ci := 2) (v := .ref (a 0)) (C := RT) (T := TT) (N := 2) hx hb hts in_T hown hK hP 17 rfl rfl 0 (by decide) (hts _ wm_69) (fun _ h9 => h9) rfl dT_at_28 ?_
      refine va_getN (D := D) (ci := 0) (v := .ref (a 4)) (C := RL) (T := TL) (N := 8) hx hb hts in_L hown hK hP 0 rfl rfl 3 (by decide) (hE.f nf_6) (fun _ h9 => h9) rfl dT_at_31 ?_
      refine lv_iload_n hx hb dT_at_34 rfl (lv_at hl 0 rfl) ?_
      refine r_top (y := nI (ve - 1)) (sI_p (Nat.pos_of_ne_zero c_22)) ?_
      refine r_cald (q0 := 4) (t0 := 2) hx hb hK hP rfl rfl (by omega) (by decide) dT_at_35 ?_
      exact kx _ _ _ _ _ (x, y) dT_at_36 hS hP hD (Or.inr ⟨rfl, rfl, Or.inr ⟨Nat.pos_of_ne_zero c_22, rfl⟩⟩)
    · refine lv_iconst (v := sI (0)) hx hb dT_at_25 (by decide) ?_
      exact kx _ _ _ _ _ (x, y) dT_at_26 hS hP hD (Or.inr ⟨rfl, rfl, Or.inl ⟨c_22, sI_0⟩⟩)
  · refine lv_iconst (v := sI (0)) hx hb dT_at_7 (by decide) ?_
    exact kx _ _ _ _ _ (x, y) dT_at_8 hS hP hD (Or.inl ⟨c_4, sI_0, rfl⟩)

def rmT_position : Room := { frames := 1, cells := 0, slots := 0, locals := 22 }
set_option maxHeartbeats 4000000 in
set_option maxRecDepth 100000 in
theorem kT_position {l : Launch} (D : va_G) (cc : Nat → ClassId) (a b g : Nat → Nat) (rp : Nat → Nat) (x : LgS) (y : RpS) (sz : Nat) (r : Nat) (hr : r < 3) (hrp : rp r = b 0) (z1 z2 : Int32) (vp : Nat) (hvp : ridP y z2 vp) (hvp1 : vp ≤ 100) (hz : isRep z1 = true → z1 = nI r) (ok : okL x) (kr : okR y) : Met l yT_position wsT_position rmT_position (va_Pc [.ref (g 0), .int (z1), .int (z2)] (WP D cc (wT cc a b g rp (x) (y)) sz)) (va_Qi (RC_position x y r vp z1) (WQ D cc (va_A (wT cc a b g rp (x) (y)) sz) (fun u : LRp => wT cc a b g rp (u.1) (u.2))) (va_A (wT cc a b g rp (x) (y)) sz)) 0 0 (va_A (wT cc a b g rp (x) (y)) sz) := by
  refine wr_meti RT [.ref (g 0), .int (z1), .int (z2)] D cc (wT cc a b g rp (x) (y)) sz (fun u : LRp => wT cc a b g rp (u.1) (u.2)) _ (by decide) rfl rfl (Nat.le_of_ble_eq_true rfl) (fun v _ _ => vp_nar_int v) ?_
  intro p e s m args below meth c Q A S hP hE hD hA kx ls hl
  obtain ⟨hx, hb, hml, hown, hts⟩ := id S
  have hK := hE.1
  have hts := hE.ts args
  have S : CallFix p m c cT_position 4 s args wAll RT := ⟨hx, hb, hml, hown, hts⟩
  have hS : va_S A s.heap s.heap [] := va_S.rf
  have hn := ok.n
  have he := ok.e
  have hself := kr.self
  have htl := kr.tl
  have hl : lv_has ls 4 [(0, .ref (g 0)), (1, .int (z1)), (2, .int (z2))] := hl
  refine lv_iload_n hx hb dT_position_0 rfl (lv_at hl 1 rfl) ?_
  refine W.callR (W.runS (As := [.int (z1)]) (rest := []) S (kT_isReplica ((z1))) (va_cwS 1 hts (gd_S wm_77 wm_78 wm_1 wm_79) rfl rfl rfl (by decide +kernel) ⟨Nat.le_of_ble_eq_true rfl, Nat.le_of_ble_eq_true rfl⟩) preT rfl rfl hl.1 rfl (lv_room (Nat.le_of_ble_eq_true rfl)) dT_position_1 ⟨Nat.le_of_ble_eq_true rfl, Nat.le_of_ble_eq_true rfl⟩) ?_
  refine W.eq (g2 := F0 m 4 ls [.int (bI (isRep ((z1))))]) rfl ?_
  refine r_neB (tgt := 9) hx hb dT_position_4 (by decide) (fun c_4 => ?_) (fun c_4 => ?_)
  · obtain rfl := hz c_4
    refine lv_aload_n hx hb dT_position_9 rfl (lv_at hl 0 rfl) ?_
    refine va_get (D := D) (ci := 2) (v := .ref (g 1)) (C := RT) (T := TT) (N := 2) hx hb hts in_T hown hK hP 17 rfl rfl 1 (by decide) (hts _ wm_70) (fun _ h9 => h9) rfl dT_position_10 ?_
    refine lv_iload_n hx hb dT_position_13 rfl (lv_at hl 1 rfl) ?_
    refine r_oald (q0 := 18) (t0 := 4) (f := rp) hx hb hK hP rfl rfl (by omega) (by decide) dT_position_14 ?_
    refine r_topr hrp ?_
    refine lv_iload_n hx hb dT_position_15 rfl (lv_at hl 2 rfl) ?_
    refine W.callR (W.runV (As := [.int (z2)]) (rest := []) S (kP_positionOf D cc a b x y ((z2)) vp hvp kr) (cwV 1 hts (gd_V wm_200 wm_201 wm_202 wm_3 wm_203) rfl rfl rfl (by decide +kernel) ⟨Nat.le_of_ble_eq_true rfl, Nat.le_of_ble_eq_true rfl⟩) (rd_preV (q0 := 7) (P_left hP) hE rfl rfl) rfl rfl hl.1 rfl (lv_room (Nat.le_of_ble_eq_true rfl)) dT_position_16 ⟨Nat.le_of_ble_eq_true rfl, Nat.le_of_ble_eq_true rfl⟩) ?_
    refine W.eq (g2 := F0 m 19 ls [.int (sI (vp))]) rfl ?_
    refine lv_istore_n (lv' := [(3, .int (sI (vp))), (0, .ref (g 0)), (1, .int (nI (r))), (2, .int (z2))]) hx hb dT_position_19 rfl hl (by decide) rfl (fun ls hl => ?_)
    refine lv_iload_n hx hb dT_position_20 rfl (lv_at hl 0 rfl) ?_
    refine lv_iconst (v := sI (0)) hx hb dT_position_21 (by decide) ?_
    refine r_neS (by have := hvp1; omega) (by omega) (tgt := 29) hx hb dT_position_22 (by decide) (fun c_22 => ?_) (fun c_22 => ?_)
    · refine lv_iload_n hx hb dT_position_29 rfl (lv_at hl 0 rfl) ?_
      exact kx _ _ _ _ _ (x, y) dT_position_30 hS hP hD (by first | exact Or.inr ⟨rfl, by rw [c_22], rfl⟩ | exact Or.inr ⟨rfl, rfl, rfl⟩)
    · refine lv_iconst (v := sI (0)) hx hb dT_position_25 (by decide) ?_
      refine lv_goto (tgt := 30) hx hb dT_position_26 (by decide) ?_
      exact kx _ _ _ _ _ (x, y) dT_position_30 hS hP hD (by first | exact Or.inr ⟨rfl, by rw [c_22], rfl⟩ | exact Or.inr ⟨rfl, rfl, rfl⟩)
  · refine lv_iconst (v := sI (0)) hx hb dT_position_7 (by decide) ?_
    exact kx _ _ _ _ _ (x, y) dT_position_8 hS hP hD (Or.inl ⟨c_4, sI_0, rfl⟩)

def rmT_operations : Room := { frames := 0, cells := 0, slots := 0, locals := 0 }
set_option maxHeartbeats 4000000 in
set_option maxRecDepth 100000 in
theorem kT_operations {l : Launch} (D : va_G) (cc : Nat → ClassId) (a b g : Nat → Nat) (rp : Nat → Nat) (x : LgS) (y : RpS) (sz : Nat) (ok : okL x) (kr : okR y) : Met l yT_operations wsT_operations rmT_operations (va_Pc [.ref (g 0)] (WP D cc (wT cc a b g rp (x) (y)) sz)) (va_Qi (fun v (u : LRp) => v = nI x.cnt ∧ u = (x, y)) (WQ D cc (va_A (wT cc a b g rp (x) (y)) sz) (fun u : LRp => wT cc a b g rp (u.1) (u.2))) (va_A (wT cc a b g rp (x) (y)) sz)) 0 0 (va_A (wT cc a b g rp (x) (y)) sz) := by
  refine wr_meti RT [.ref (g 0)] D cc (wT cc a b g rp (x) (y)) sz (fun u : LRp => wT cc a b g rp (u.1) (u.2)) _ (by decide) rfl rfl (Nat.le_of_ble_eq_true rfl) (fun v _ _ => vp_nar_int v) ?_
  intro p e s m args below meth c Q A S hP hE hD hA kx ls hl
  obtain ⟨hx, hb, hml, hown, hts⟩ := id S
  have hK := hE.1
  have hts := hE.ts args
  have S : CallFix p m c cT_operations 1 s args wAll RT := ⟨hx, hb, hml, hown, hts⟩
  have hS : va_S A s.heap s.heap [] := va_S.rf
  have hn := ok.n
  have he := ok.e
  have hself := kr.self
  have htl := kr.tl
  have hl : lv_has ls 1 [(0, .ref (g 0))] := hl
  refine lv_aload_n hx hb dT_operations_0 rfl (lv_at hl 0 rfl) ?_
  refine va_get (D := D) (ci := 2) (v := .ref (a 0)) (C := RT) (T := TT) (N := 2) hx hb hts in_T hown hK hP 17 rfl rfl 0 (by decide) (hts _ wm_69) (fun _ h9 => h9) rfl dT_operations_1 ?_
  refine va_getN (D := D) (ci := 0) (v := .int (nI (x.cnt))) (C := RL) (T := TL) (N := 8) hx hb hts in_L hown hK hP 0 rfl rfl 6 (by decide) (hE.f nf_9) (fun _ h9 => h9) rfl dT_operations_4 ?_
  exact kx _ _ _ _ _ (x, y) dT_operations_7 hS hP hD (⟨rfl, rfl⟩)

def rmT_stamp : Room := { frames := 1, cells := 0, slots := 0, locals := 21 }
set_option maxHeartbeats 4000000 in
set_option maxRecDepth 100000 in
theorem kT_stamp {l : Launch} (D : va_G) (cc : Nat → ClassId) (a b g : Nat → Nat) (rp : Nat → Nat) (x : LgS) (y : RpS) (sz : Nat) (z1 : Int32) (ok : okL x) (kr : okR y) : Met l yT_stamp wsT_stamp rmT_stamp (va_Pc [.ref (g 0), .int (z1)] (WP D cc (wT cc a b g rp (x) (y)) sz)) (va_Qi (RC_stamp x y z1) (WQ D cc (va_A (wT cc a b g rp (x) (y)) sz) (fun u : LRp => wT cc a b g rp (u.1) (u.2))) (va_A (wT cc a b g rp (x) (y)) sz)) 0 0 (va_A (wT cc a b g rp (x) (y)) sz) := by
  refine wr_meti RT [.ref (g 0), .int (z1)] D cc (wT cc a b g rp (x) (y)) sz (fun u : LRp => wT cc a b g rp (u.1) (u.2)) _ (by decide) rfl rfl (Nat.le_of_ble_eq_true rfl) (fun v _ _ => vp_nar_int v) ?_
  intro p e s m args below meth c Q A S hP hE hD hA kx ls hl
  obtain ⟨hx, hb, hml, hown, hts⟩ := id S
  have hK := hE.1
  have hts := hE.ts args
  have S : CallFix p m c cT_stamp 2 s args wAll RT := ⟨hx, hb, hml, hown, hts⟩
  have hS : va_S A s.heap s.heap [] := va_S.rf
  have hn := ok.n
  have he := ok.e
  have hself := kr.self
  have htl := kr.tl
  have hl : lv_has ls 2 [(0, .ref (g 0)), (1, .int (z1))] := hl
  refine lv_aload_n hx hb dT_stamp_0 rfl (lv_at hl 0 rfl) ?_
  refine va_get (D := D) (ci := 2) (v := .ref (a 0)) (C := RT) (T := TT) (N := 2) hx hb hts in_T hown hK hP 17 rfl rfl 0 (by decide) (hts _ wm_69) (fun _ h9 => h9) rfl dT_stamp_1 ?_
  refine lv_iload_n hx hb dT_stamp_4 rfl (lv_at hl 1 rfl) ?_
  refine W.callR (W.runV (As := [.int (z1)]) (rest := []) S (kL_isIssued D cc a x ((z1)) ok) (cwV 1 hts (gd_V wm_146 wm_147 wm_148 wm_2 wm_149) rfl rfl rfl (by decide +kernel) ⟨Nat.le_of_ble_eq_true rfl, Nat.le_of_ble_eq_true rfl⟩) (rd_preV (q0 := 0) (P_left (P_left hP)) hE rfl rfl) rfl rfl hl.1 rfl (lv_room (Nat.le_of_ble_eq_true rfl)) dT_stamp_5 ⟨Nat.le_of_ble_eq_true rfl, Nat.le_of_ble_eq_true rfl⟩) ?_
  refine W.eq (g2 := F0 m 8 ls [.int (bI (isOp x.cnt ((z1))))]) rfl ?_
  refine r_neB (tgt := 13) hx hb dT_stamp_8 (by decide) (fun c_8 => ?_) (fun c_8 => ?_)
  · obtain ⟨o, ho_o, rfl⟩ := isOp_of c_8
    refine lv_iconst (v := nI (4)) hx hb dT_stamp_13 (by decide) ?_
    refine lv_aload_n hx hb dT_stamp_14 rfl (lv_at hl 0 rfl) ?_
    refine va_get (D := D) (ci := 2) (v := .ref (a 0)) (C := RT) (T := TT) (N := 2) hx hb hts in_T hown hK hP 17 rfl rfl 0 (by decide) (hts _ wm_69) (fun _ h9 => h9) rfl dT_stamp_15 ?_
    refine va_getN (D := D) (ci := 0) (v := .ref (a 2)) (C := RL) (T := TL) (N := 8) hx hb hts in_L hown hK hP 0 rfl rfl 1 (by decide) (hE.f nf_2) (fun _ h9 => h9) rfl dT_stamp_18 ?_
    refine lv_iload_n hx hb dT_stamp_21 rfl (lv_at hl 1 rfl) ?_
    refine r_iald (q0 := 2) (t0 := 0) hx hb hK hP rfl rfl (by omega) (by decide) dT_stamp_22 ?_
    refine r_mul hx hb dT_stamp_23 ?_
    refine lv_aload_n hx hb dT_stamp_24 rfl (lv_at hl 0 rfl) ?_
    refine va_get (D := D) (ci := 2) (v := .ref (a 0)) (C := RT) (T := TT) (N := 2) hx hb hts in_T hown hK hP 17 rfl rfl 0 (by decide) (hts _ wm_69) (fun _ h9 => h9) rfl dT_stamp_25 ?_
    refine va_getN (D := D) (ci := 0) (v := .ref (a 1)) (C := RL) (T := TL) (N := 8) hx hb hts in_L hown hK hP 0 rfl rfl 0 (by decide) (hE.f nf_1) (fun _ h9 => h9) rfl dT_stamp_28 ?_
    refine lv_iload_n hx hb dT_stamp_31 rfl (lv_at hl 1 rfl) ?_
    refine r_iald (q0 := 1) (t0 := 0) hx hb hK hP rfl rfl (by omega) (by decide) dT_stamp_32 ?_
    refine r_add hx hb dT_stamp_33 ?_
    exact kx _ _ _ _ _ (x, y) dT_stamp_34 hS hP hD (Or.inr ⟨o, ho_o, rfl, rfl, rfl⟩)
  · refine lv_iconst (v := sI (0)) hx hb dT_stamp_11 (by decide) ?_
    exact kx _ _ _ _ _ (x, y) dT_stamp_12 hS hP hD (Or.inl ⟨c_8, sI_0, rfl⟩)

def rmT_known : Room := { frames := 1, cells := 0, slots := 0, locals := 20 }
set_option maxHeartbeats 4000000 in
set_option maxRecDepth 100000 in
theorem kT_known {l : Launch} (D : va_G) (cc : Nat → ClassId) (a b g : Nat → Nat) (rp : Nat → Nat) (x : LgS) (y : RpS) (sz : Nat) (r : Nat) (hr : r < 3) (hrp : rp r = b 0) (z1 z2 z3 : Int32) (hz : isRep z1 = true → z1 = nI r) (ok : okL x) (kr : okR y) : Met l yT_known wsT_known rmT_known (va_Pc [.ref (g 0), .int (z1), .int (z2), .int (z3)] (WP D cc (wT cc a b g rp (x) (y)) sz)) (va_Qi (RC_known x y r z1 z2 z3) (WQ D cc (va_A (wT cc a b g rp (x) (y)) sz) (fun u : LRp => wT cc a b g rp (u.1) (u.2))) (va_A (wT cc a b g rp (x) (y)) sz)) 0 0 (va_A (wT cc a b g rp (x) (y)) sz) := by
  refine wr_meti RT [.ref (g 0), .int (z1), .int (z2), .int (z3)] D cc (wT cc a b g rp (x) (y)) sz (fun u : LRp => wT cc a b g rp (u.1) (u.2)) _ (by decide) rfl rfl (Nat.le_of_ble_eq_true rfl) (fun v _ _ => vp_nar_int v) ?_
  intro p e s m args below meth c Q A S hP hE hD hA kx ls hl
  obtain ⟨hx, hb, hml, hown, hts⟩ := id S
  have hK := hE.1
  have hts := hE.ts args
  have S : CallFix p m c cT_known 4 s args wAll RT := ⟨hx, hb, hml, hown, hts⟩
  have hS : va_S A s.heap s.heap [] := va_S.rf
  have hn := ok.n
  have he := ok.e
  have hself := kr.self
  have htl := kr.tl
  have hl : lv_has ls 4 [(0, .ref (g 0)), (1, .int (z1)), (2, .int (z2)), (3, .int (z3))] := hl
  refine lv_iload_n hx hb dT_known_0 rfl (lv_at hl 1 rfl) ?_
  refine W.callR (W.runS (As := [.int (z1)]) (rest := []) S (kT_isReplica ((z1))) (va_cwS 1 hts (gd_S wm_77 wm_78 wm_1 wm_79) rfl rfl rfl (by decide +kernel) ⟨Nat.le_of_ble_eq_true rfl, Nat.le_of_ble_eq_true rfl⟩) preT rfl rfl hl.1 rfl (lv_room (Nat.le_of_ble_eq_true rfl)) dT_known_1 ⟨Nat.le_of_ble_eq_true rfl, Nat.le_of_ble_eq_true rfl⟩) ?_
  refine W.eq (g2 := F0 m 4 ls [.int (bI (isRep ((z1))))]) rfl ?_
  refine r_eqB (tgt := 21) hx hb dT_known_4 (by decide) (fun c_4 => ?_) (fun c_4 => ?_)
  · refine lv_iconst (v := sI (0)) hx hb dT_known_21 (by decide) ?_
    exact kx _ _ _ _ _ (x, y) dT_known_22 hS hP hD (by first | exact Or.inl ⟨Or.inl c_4, sI_0, rfl⟩ | exact Or.inl ⟨Or.inr (Or.inl c_11), sI_0, rfl⟩ | exact Or.inl ⟨Or.inr (Or.inr c_18), sI_0, rfl⟩)
  · obtain rfl := hz c_4
    refine lv_iload_n hx hb dT_known_7 rfl (lv_at hl 2 rfl) ?_
    refine W.callR (W.runS (As := [.int (z2)]) (rest := []) S (kT_isReplica ((z2))) (va_cwS 1 hts (gd_S wm_77 wm_78 wm_1 wm_79) rfl rfl rfl (by decide +kernel) ⟨Nat.le_of_ble_eq_true rfl, Nat.le_of_ble_eq_true rfl⟩) preT rfl rfl hl.1 rfl (lv_room (Nat.le_of_ble_eq_true rfl)) dT_known_8 ⟨Nat.le_of_ble_eq_true rfl, Nat.le_of_ble_eq_true rfl⟩) ?_
    refine W.eq (g2 := F0 m 11 ls [.int (bI (isRep ((z2))))]) rfl ?_
    refine r_eqB (tgt := 21) hx hb dT_known_11 (by decide) (fun c_11 => ?_) (fun c_11 => ?_)
    · refine lv_iconst (v := sI (0)) hx hb dT_known_21 (by decide) ?_
      exact kx _ _ _ _ _ (x, y) dT_known_22 hS hP hD (by first | exact Or.inl ⟨Or.inl c_4, sI_0, rfl⟩ | exact Or.inl ⟨Or.inr (Or.inl c_11), sI_0, rfl⟩ | exact Or.inl ⟨Or.inr (Or.inr c_18), sI_0, rfl⟩)
    · obtain ⟨i, hr_i, rfl⟩ := isRep_of c_11
      refine lv_iload_n hx hb dT_known_14 rfl (lv_at hl 3 rfl) ?_
      refine W.callR (W.runS (As := [.int (z3)]) (rest := []) S (kT_isReplica ((z3))) (va_cwS 1 hts (gd_S wm_77 wm_78 wm_1 wm_79) rfl rfl rfl (by decide +kernel) ⟨Nat.le_of_ble_eq_true rfl, Nat.le_of_ble_eq_true rfl⟩) preT rfl rfl hl.1 rfl (lv_room (Nat.le_of_ble_eq_true rfl)) dT_known_15 ⟨Nat.le_of_ble_eq_true rfl, Nat.le_of_ble_eq_true rfl⟩) ?_
      refine W.eq (g2 := F0 m 18 ls [.int (bI (isRep ((z3))))]) rfl ?_
      refine r_neB (tgt := 23) hx hb dT_known_18 (by decide) (fun c_18 => ?_) (fun c_18 => ?_)
      · obtain ⟨j, hr_j, rfl⟩ := isRep_of c_18
        refine lv_aload_n hx hb dT_known_23 rfl (lv_at hl 0 rfl) ?_
        refine va_get (D := D) (ci := 2) (v := .ref (g 1)) (C := RT) (T := TT) (N := 2) hx hb hts in_T hown hK hP 17 rfl rfl 1 (by decide) (hts _ wm_70) (fun _ h9 => h9) rfl dT_known_24 ?_
        refine lv_iload_n hx hb dT_known_27 rfl (lv_at hl 1 rfl) ?_
        refine r_oald (q0 := 18) (t0 := 4) (f := rp) hx hb hK hP rfl rfl (by omega) (by decide) dT_known_28 ?_
        refine r_topr hrp ?_
        refine va_getN (D := D) (ci := 1) (v := .ref (b 1)) (C := RP) (T := TP) (N := 12) hx hb hts in_P hown hK hP 7 rfl rfl 2 (by decide) (hE.f nf_11) (fun _ h9 => h9) rfl dT_known_29 ?_
        refine lv_iload_n hx hb dT_known_32 rfl (lv_at hl 2 rfl) ?_
        refine r_aald (q0 := 8) (t0 := 3) (f := (fun j => b (2 + j))) hx hb hK hP rfl rfl (by omega) (by decide) dT_known_33 ?_
        refine lv_iload_n hx hb dT_known_34 rfl (lv_at hl 3 rfl) ?_
        refine r_iald (q0 := 9 + i) (t0 := 0) hx hb hK hP (at_seenT (by omega)) rfl (by omega) (by decide) dT_known_35 ?_
        exact kx _ _ _ _ _ (x, y) dT_known_36 hS hP hD (Or.inr ⟨rfl, i, j, hr_i, rfl, hr_j, rfl, rfl, rfl⟩)
      · refine lv_iconst (v := sI (0)) hx hb dT_known_21 (by decide) ?_
        exact kx _ _ _ _ _ (x, y) dT_known_22 hS hP hD (by first | exact Or.inl ⟨Or.inl c_4, sI_0, rfl⟩ | exact Or.inl ⟨Or.inr (Or.inl c_11), sI_0, rfl⟩ | exact Or.inl ⟨Or.inr (Or.inr c_18), sI_0, rfl⟩)

def rmT_stable : Room := { frames := 3, cells := 0, slots := 0, locals := 67 }
set_option maxHeartbeats 4000000 in
set_option maxRecDepth 100000 in
theorem kT_stable {l : Launch} (D : va_G) (cc : Nat → ClassId) (a b g : Nat → Nat) (rp : Nat → Nat) (x : LgS) (y : RpS) (sz : Nat) (r : Nat) (hr : r < 3) (hrp : rp r = b 0) (z1 z2 : Int32) (hz : isRep z1 = true → z1 = nI r) (ok : okL x) (kr : okR y) : Met l yT_stable wsT_stable rmT_stable (va_Pc [.ref (g 0), .int (z1), .int (z2)] (WP D cc (wT cc a b g rp (x) (y)) sz)) (va_Qi (RC_stable x y r z1 z2) (WQ D cc (va_A (wT cc a b g rp (x) (y)) sz) (fun u : LRp => wT cc a b g rp (u.1) (u.2))) (va_A (wT cc a b g rp (x) (y)) sz)) 0 0 (va_A (wT cc a b g rp (x) (y)) sz) := by
  refine wr_meti RT [.ref (g 0), .int (z1), .int (z2)] D cc (wT cc a b g rp (x) (y)) sz (fun u : LRp => wT cc a b g rp (u.1) (u.2)) _ (by decide) rfl rfl (Nat.le_of_ble_eq_true rfl) (fun v u h => by rcases h with ⟨-, rfl, -⟩ | ⟨_, _, _, _, rfl, -⟩ <;> exact bI_z _) ?_
  intro p e s m args below meth c Q A S hP hE hD hA kx ls hl
  obtain ⟨hx, hb, hml, hown, hts⟩ := id S
  have hK := hE.1
  have hts := hE.ts args
  have S : CallFix p m c cT_stable 3 s args wAll RT := ⟨hx, hb, hml, hown, hts⟩
  have hS : va_S A s.heap s.heap [] := va_S.rf
  have hn := ok.n
  have he := ok.e
  have hself := kr.self
  have htl := kr.tl
  have hl : lv_has ls 3 [(0, .ref (g 0)), (1, .int (z1)), (2, .int (z2))] := hl
  refine lv_iload_n hx hb dT_stable_0 rfl (lv_at hl 1 rfl) ?_
  refine W.callR (W.runS (As := [.int (z1)]) (rest := []) S (kT_isReplica ((z1))) (va_cwS 1 hts (gd_S wm_77 wm_78 wm_1 wm_79) rfl rfl rfl (by decide +kernel) ⟨Nat.le_of_ble_eq_true rfl, Nat.le_of_ble_eq_true rfl⟩) preT rfl rfl hl.1 rfl (lv_room (Nat.le_of_ble_eq_true rfl)) dT_stable_1 ⟨Nat.le_of_ble_eq_true rfl, Nat.le_of_ble_eq_true rfl⟩) ?_
  refine W.eq (g2 := F0 m 4 ls [.int (bI (isRep ((z1))))]) rfl ?_
  refine r_eqB (tgt := 35) hx hb dT_stable_4 (by decide) (fun c_4 => ?_) (fun c_4 => ?_)
  · refine lv_iconst (v := bI (false)) hx hb dT_stable_35 (by decide) ?_
    exact kx _ _ _ _ _ (x, y) dT_stable_36 hS hP hD (by first | exact Or.inl ⟨Or.inl c_4, rfl, rfl⟩ | exact Or.inl ⟨Or.inr c_15, rfl, rfl⟩ | exact Or.inr ⟨rfl, o, ho_o, rfl, by rw [c_28], rfl⟩)
  · obtain rfl := hz c_4
    refine lv_aload_n hx hb dT_stable_7 rfl (lv_at hl 0 rfl) ?_
    refine va_get (D := D) (ci := 2) (v := .ref (a 0)) (C := RT) (T := TT) (N := 2) hx hb hts in_T hown hK hP 17 rfl rfl 0 (by decide) (hts _ wm_69) (fun _ h9 => h9) rfl dT_stable_8 ?_
    refine lv_iload_n hx hb dT_stable_11 rfl (lv_at hl 2 rfl) ?_
    refine W.callR (W.runV (As := [.int (z2)]) (rest := []) S (kL_isIssued D cc a x ((z2)) ok) (cwV 1 hts (gd_V wm_146 wm_147 wm_148 wm_2 wm_149) rfl rfl rfl (by decide +kernel) ⟨Nat.le_of_ble_eq_true rfl, Nat.le_of_ble_eq_true rfl⟩) (rd_preV (q0 := 0) (P_left (P_left hP)) hE rfl rfl) rfl rfl hl.1 rfl (lv_room (Nat.le_of_ble_eq_true rfl)) dT_stable_12 ⟨Nat.le_of_ble_eq_true rfl, Nat.le_of_ble_eq_true rfl⟩) ?_
    refine W.eq (g2 := F0 m 15 ls [.int (bI (isOp x.cnt ((z2))))]) rfl ?_
    refine r_eqB (tgt := 35) hx hb dT_stable_15 (by decide) (fun c_15 => ?_) (fun c_15 => ?_)
    · refine lv_iconst (v := bI (false)) hx hb dT_stable_35 (by decide) ?_
      exact kx _ _ _ _ _ (x, y) dT_stable_36 hS hP hD (by first | exact Or.inl ⟨Or.inl c_4, rfl, rfl⟩ | exact Or.inl ⟨Or.inr c_15, rfl, rfl⟩ | exact Or.inr ⟨rfl, o, ho_o, rfl, by rw [c_28], rfl⟩)
    · obtain ⟨o, ho_o, rfl⟩ := isOp_of c_15
      refine lv_aload_n hx hb dT_stable_18 rfl (lv_at hl 0 rfl) ?_
      refine va_get (D := D) (ci := 2) (v := .ref (g 1)) (C := RT) (T := TT) (N := 2) hx hb hts in_T hown hK hP 17 rfl rfl 1 (by decide) (hts _ wm_70) (fun _ h9 => h9) rfl dT_stable_19 ?_
      refine lv_iload_n hx hb dT_stable_22 rfl (lv_at hl 1 rfl) ?_
      refine r_oald (q0 := 18) (t0 := 4) (f := rp) hx hb hK hP rfl rfl (by omega) (by decide) dT_stable_23 ?_
      refine r_topr hrp ?_
      refine lv_iload_n hx hb dT_stable_24 rfl (lv_at hl 2 rfl) ?_
      refine W.callR (W.runV (As := [.int (nI (o))]) (rest := []) S (kP_isSettled D cc a b x y (o) (by omega) ok kr) (cwV 1 hts (gd_V wm_228 wm_182 wm_183 wm_3 wm_184) rfl rfl rfl (by decide +kernel) ⟨Nat.le_of_ble_eq_true rfl, Nat.le_of_ble_eq_true rfl⟩) (rd_preV (q0 := 7) (P_left hP) hE rfl rfl) rfl rfl hl.1 rfl (lv_room (Nat.le_of_ble_eq_true rfl)) dT_stable_25 ⟨Nat.le_of_ble_eq_true rfl, Nat.le_of_ble_eq_true rfl⟩) ?_
      refine W.eq (g2 := F0 m 28 ls [.int (bI (setL x y (o)))]) rfl ?_
      refine r_eqB (tgt := 35) hx hb dT_stable_28 (by decide) (fun c_28 => ?_) (fun c_28 => ?_)
      · refine lv_iconst (v := bI (false)) hx hb dT_stable_35 (by decide) ?_
        exact kx _ _ _ _ _ (x, y) dT_stable_36 hS hP hD (by first | exact Or.inl ⟨Or.inl c_4, rfl, rfl⟩ | exact Or.inl ⟨Or.inr c_15, rfl, rfl⟩ | exact Or.inr ⟨rfl, o, ho_o, rfl, by rw [c_28], rfl⟩)
      · refine lv_iconst (v := bI (true)) hx hb dT_stable_31 (by decide) ?_
        refine lv_goto (tgt := 36) hx hb dT_stable_32 (by decide) ?_
        exact kx _ _ _ _ _ (x, y) dT_stable_36 hS hP hD (by first | exact Or.inl ⟨Or.inl c_4, rfl, rfl⟩ | exact Or.inl ⟨Or.inr c_15, rfl, rfl⟩ | exact Or.inr ⟨rfl, o, ho_o, rfl, by rw [c_28], rfl⟩)

def rmT_same : Room := { frames := 1, cells := 0, slots := 0, locals := 22 }
set_option maxHeartbeats 4000000 in
set_option maxRecDepth 100000 in
theorem kT_same {l : Launch} (D : va_G) (cc : Nat → ClassId) (a b d g : Nat → Nat) (rp : Nat → Nat) (x : LgS) (y y2 : RpS) (sz : Nat) (r : Nat) (hr : r < 3) (hrp : rp r = b 0) (t : Nat) (ht3 : t < 3) (hrp2 : rp t = d 0) (z1 z2 : Int32) (hz : isRep z1 = true → z1 = nI r) (hz2 : isRep z2 = true → z2 = nI t) (ok : okL x) (kr : okR y) (kr2 : okR y2) : Met l yT_same wsT_same rmT_same (va_Pc [.ref (g 0), .int (z1), .int (z2)] (WP D cc (wTT cc a b d g rp (x) (y) y2) sz)) (va_Qi (RC_same x y y2 r t z1 z2) (WQ D cc (va_A (wTT cc a b d g rp (x) (y) y2) sz) (fun u : LRp => wTT cc a b d g rp (u.1) (u.2) y2)) (va_A (wTT cc a b d g rp (x) (y) y2) sz)) 0 0 (va_A (wTT cc a b d g rp (x) (y) y2) sz) := by
  refine wr_meti RT [.ref (g 0), .int (z1), .int (z2)] D cc (wTT cc a b d g rp (x) (y) y2) sz (fun u : LRp => wTT cc a b d g rp (u.1) (u.2) y2) _ (by decide) rfl rfl (Nat.le_of_ble_eq_true rfl) (fun v u h => by rcases h with ⟨-, rfl, -⟩ | ⟨_, _, rfl, -⟩ <;> exact bI_z _) ?_
  intro p e s m args below meth c Q A S hP hE hD hA kx ls hl
  obtain ⟨hx, hb, hml, hown, hts⟩ := id S
  have hK := hE.1
  have hts := hE.ts args
  have S : CallFix p m c cT_same 3 s args wAll RT := ⟨hx, hb, hml, hown, hts⟩
  have hS : va_S A s.heap s.heap [] := va_S.rf
  have hn := ok.n
  have he := ok.e
  have hself := kr.self
  have htl := kr.tl
  have hl : lv_has ls 3 [(0, .ref (g 0)), (1, .int (z1)), (2, .int (z2))] := hl
  refine lv_iload_n hx hb dT_same_0 rfl (lv_at hl 1 rfl) ?_
  refine W.callR (W.runS (As := [.int (z1)]) (rest := []) S (kT_isReplica ((z1))) (va_cwS 1 hts (gd_S wm_77 wm_78 wm_1 wm_79) rfl rfl rfl (by decide +kernel) ⟨Nat.le_of_ble_eq_true rfl, Nat.le_of_ble_eq_true rfl⟩) preT rfl rfl hl.1 rfl (lv_room (Nat.le_of_ble_eq_true rfl)) dT_same_1 ⟨Nat.le_of_ble_eq_true rfl, Nat.le_of_ble_eq_true rfl⟩) ?_
  refine W.eq (g2 := F0 m 4 ls [.int (bI (isRep ((z1))))]) rfl ?_
  refine r_eqB (tgt := 36) hx hb dT_same_4 (by decide) (fun c_4 => ?_) (fun c_4 => ?_)
  · refine lv_iconst (v := bI (false)) hx hb dT_same_36 (by decide) ?_
    exact kx _ _ _ _ _ (x, y) dT_same_37 hS hP hD (by first | exact Or.inl ⟨Or.inl c_4, rfl, rfl⟩ | exact Or.inl ⟨Or.inr c_11, rfl, rfl⟩ | exact Or.inr ⟨rfl, rfl, by rw [c_29], rfl⟩)
  · obtain rfl := hz c_4
    refine lv_iload_n hx hb dT_same_7 rfl (lv_at hl 2 rfl) ?_
    refine W.callR (W.runS (As := [.int (z2)]) (rest := []) S (kT_isReplica ((z2))) (va_cwS 1 hts (gd_S wm_77 wm_78 wm_1 wm_79) rfl rfl rfl (by decide +kernel) ⟨Nat.le_of_ble_eq_true rfl, Nat.le_of_ble_eq_true rfl⟩) preT rfl rfl hl.1 rfl (lv_room (Nat.le_of_ble_eq_true rfl)) dT_same_8 ⟨Nat.le_of_ble_eq_true rfl, Nat.le_of_ble_eq_true rfl⟩) ?_
    refine W.eq (g2 := F0 m 11 ls [.int (bI (isRep ((z2))))]) rfl ?_
    refine r_eqB (tgt := 36) hx hb dT_same_11 (by decide) (fun c_11 => ?_) (fun c_11 => ?_)
    · refine lv_iconst (v := bI (false)) hx hb dT_same_36 (by decide) ?_
      exact kx _ _ _ _ _ (x, y) dT_same_37 hS hP hD (by first | exact Or.inl ⟨Or.inl c_4, rfl, rfl⟩ | exact Or.inl ⟨Or.inr c_11, rfl, rfl⟩ | exact Or.inr ⟨rfl, rfl, by rw [c_29], rfl⟩)
    · obtain rfl := hz2 c_11
      refine lv_aload_n hx hb dT_same_14 rfl (lv_at hl 0 rfl) ?_
      refine va_get (D := D) (ci := 2) (v := .ref (g 1)) (C := RT) (T := TT) (N := 2) hx hb hts in_T hown hK hP 27 rfl rfl 1 (by decide) (hts _ wm_70) (fun _ h9 => h9) rfl dT_same_15 ?_
      refine lv_iload_n hx hb dT_same_18 rfl (lv_at hl 1 rfl) ?_
      refine r_oald (q0 := 28) (t0 := 4) (f := rp) hx hb hK hP rfl rfl (by omega) (by decide) dT_same_19 ?_
      refine r_topr hrp ?_
      refine lv_aload_n hx hb dT_same_20 rfl (lv_at hl 0 rfl) ?_
      refine va_get (D := D) (ci := 2) (v := .ref (g 1)) (C := RT) (T := TT) (N := 2) hx hb hts in_T hown hK hP 27 rfl rfl 1 (by decide) (hts _ wm_70) (fun _ h9 => h9) rfl dT_same_21 ?_
      refine lv_iload_n hx hb dT_same_24 rfl (lv_at hl 2 rfl) ?_
      refine r_oald (q0 := 28) (t0 := 4) (f := rp) hx hb hK hP rfl rfl (by omega) (by decide) dT_same_25 ?_
      refine r_topr hrp2 ?_
      refine W.callR (W.runV (As := [.ref (d 0)]) (rest := []) S (kP_readsLike D cc a b d x y y2 ok kr kr2) (cwV 1 hts (gd_V wm_208 wm_209 wm_210 wm_3 wm_211) rfl rfl rfl (by decide +kernel) ⟨Nat.le_of_ble_eq_true rfl, Nat.le_of_ble_eq_true rfl⟩) (rd_preV (q0 := 7) (P_left hP) hE rfl rfl) rfl rfl hl.1 rfl (lv_room (Nat.le_of_ble_eq_true rfl)) dT_same_26 ⟨Nat.le_of_ble_eq_true rfl, Nat.le_of_ble_eq_true rfl⟩) ?_
      refine W.eq (g2 := F0 m 29 ls [.int (bI (rdlA x y y2))]) rfl ?_
      refine r_eqB (tgt := 36) hx hb dT_same_29 (by decide) (fun c_29 => ?_) (fun c_29 => ?_)
      · refine lv_iconst (v := bI (false)) hx hb dT_same_36 (by decide) ?_
        exact kx _ _ _ _ _ (x, y) dT_same_37 hS hP hD (by first | exact Or.inl ⟨Or.inl c_4, rfl, rfl⟩ | exact Or.inl ⟨Or.inr c_11, rfl, rfl⟩ | exact Or.inr ⟨rfl, rfl, by rw [c_29], rfl⟩)
      · refine lv_iconst (v := bI (true)) hx hb dT_same_32 (by decide) ?_
        refine lv_goto (tgt := 37) hx hb dT_same_33 (by decide) ?_
        exact kx _ _ _ _ _ (x, y) dT_same_37 hS hP hD (by first | exact Or.inl ⟨Or.inl c_4, rfl, rfl⟩ | exact Or.inl ⟨Or.inr c_11, rfl, rfl⟩ | exact Or.inr ⟨rfl, rfl, by rw [c_29], rfl⟩)

def rmT_sync : Room := { frames := 5, cells := 0, slots := 0, locals := 108 }
set_option maxHeartbeats 4000000 in
set_option maxRecDepth 100000 in
theorem kT_sync {l : Launch} (D : va_G) (cc : Nat → ClassId) (a b d g : Nat → Nat) (rp : Nat → Nat) (x : LgS) (y y2 : RpS) (sz : Nat) (r : Nat) (hr : r < 3) (hrp : rp r = b 0) (t : Nat) (ht3 : t < 3) (hrp2 : rp t = d 0) (z1 z2 : Int32) (hz : isRep z1 = true → z1 = nI r) (hz2 : isRep z2 = true → z2 = nI t) (ht : ∀ o, o < x.cnt → x.chr o = 0 → 0 < x.tgt o) (hp1 : ∀ o, o < x.cnt → 1 ≤ plc x o) (hkr : ∀ o, o ≤ x.cnt → okR (rcaF x y y2 o)) (hap : ∀ k, k ≤ x.cnt → apOK x (rcaF x y y2 x.cnt) k) (ok : okL x) (kr : okR y) (kr2 : okR y2) : Met l yT_sync wsT_sync rmT_sync (va_Pc [.ref (g 0), .int (z1), .int (z2)] (WP D cc (wTT cc a b d g rp (x) (y) y2) sz)) (va_Qi (RC_sync x y y2 r t z1 z2) (WQ D cc (va_A (wTT cc a b d g rp (x) (y) y2) sz) (fun u : LRp => wTT cc a b d g rp (u.1) (u.2) y2)) (va_A (wTT cc a b d g rp (x) (y) y2) sz)) 0 0 (va_A (wTT cc a b d g rp (x) (y) y2) sz) := by
  refine wr_meti RT [.ref (g 0), .int (z1), .int (z2)] D cc (wTT cc a b d g rp (x) (y) y2) sz (fun u : LRp => wTT cc a b d g rp (u.1) (u.2) y2) _ (by decide) rfl rfl (Nat.le_of_ble_eq_true rfl) (fun v _ _ => vp_nar_int v) ?_
  intro p e s m args below meth c Q A S hP hE hD hA kx ls hl
  obtain ⟨hx, hb, hml, hown, hts⟩ := id S
  have hK := hE.1
  have hts := hE.ts args
  have S : CallFix p m c cT_sync 3 s args wAll RT := ⟨hx, hb, hml, hown, hts⟩
  have hS : va_S A s.heap s.heap [] := va_S.rf
  have hn := ok.n
  have he := ok.e
  have hself := kr.self
  have htl := kr.tl
  have hl : lv_has ls 3 [(0, .ref (g 0)), (1, .int (z1)), (2, .int (z2))] := hl
  refine lv_iload_n hx hb dT_sync_0 rfl (lv_at hl 1 rfl) ?_
  refine W.callR (W.runS (As := [.int (z1)]) (rest := []) S (kT_isReplica ((z1))) (va_cwS 1 hts (gd_S wm_77 wm_78 wm_1 wm_79) rfl rfl rfl (by decide +kernel) ⟨Nat.le_of_ble_eq_true rfl, Nat.le_of_ble_eq_true rfl⟩) preT rfl rfl hl.1 rfl (lv_room (Nat.le_of_ble_eq_true rfl)) dT_sync_1 ⟨Nat.le_of_ble_eq_true rfl, Nat.le_of_ble_eq_true rfl⟩) ?_
  refine W.eq (g2 := F0 m 4 ls [.int (bI (isRep ((z1))))]) rfl ?_
  refine r_eqB (tgt := 14) hx hb dT_sync_4 (by decide) (fun c_4 => ?_) (fun c_4 => ?_)
  · refine lv_iconst (v := sI (0)) hx hb dT_sync_14 (by decide) ?_
    exact kx _ _ _ _ _ (x, y) dT_sync_15 hS hP hD (by first | exact Or.inl ⟨Or.inl c_4, sI_0, rfl⟩ | exact Or.inl ⟨Or.inr c_11, sI_0, rfl⟩)
  · obtain rfl := hz c_4
    refine lv_iload_n hx hb dT_sync_7 rfl (lv_at hl 2 rfl) ?_
    refine W.callR (W.runS (As := [.int (z2)]) (rest := []) S (kT_isReplica ((z2))) (va_cwS 1 hts (gd_S wm_77 wm_78 wm_1 wm_79) rfl rfl rfl (by decide +kernel) ⟨Nat.le_of_ble_eq_true rfl, Nat.le_of_ble_eq_true rfl⟩) preT rfl rfl hl.1 rfl (lv_room (Nat.le_of_ble_eq_true rfl)) dT_sync_8 ⟨Nat.le_of_ble_eq_true rfl, Nat.le_of_ble_eq_true rfl⟩) ?_
    refine W.eq (g2 := F0 m 11 ls [.int (bI (isRep ((z2))))]) rfl ?_
    refine r_neB (tgt := 16) hx hb dT_sync_11 (by decide) (fun c_11 => ?_) (fun c_11 => ?_)
    · obtain rfl := hz2 c_11
      refine lv_aload_n hx hb dT_sync_16 rfl (lv_at hl 0 rfl) ?_
      refine va_get (D := D) (ci := 2) (v := .ref (g 1)) (C := RT) (T := TT) (N := 2) hx hb hts in_T hown hK hP 27 rfl rfl 1 (by decide) (hts _ wm_70) (fun _ h9 => h9) rfl dT_sync_17 ?_
      refine lv_iload_n hx hb dT_sync_20 rfl (lv_at hl 1 rfl) ?_
      refine r_oald (q0 := 28) (t0 := 4) (f := rp) hx hb hK hP rfl rfl (by omega) (by decide) dT_sync_21 ?_
      refine r_topr hrp ?_
      refine lv_aload_n hx hb dT_sync_22 rfl (lv_at hl 0 rfl) ?_
      refine va_get (D := D) (ci := 2) (v := .ref (g 1)) (C := RT) (T := TT) (N := 2) hx hb hts in_T hown hK hP 27 rfl rfl 1 (by decide) (hts _ wm_70) (fun _ h9 => h9) rfl dT_sync_23 ?_
      refine lv_iload_n hx hb dT_sync_26 rfl (lv_at hl 2 rfl) ?_
      refine r_oald (q0 := 28) (t0 := 4) (f := rp) hx hb hK hP rfl rfl (by omega) (by decide) dT_sync_27 ?_
      refine r_topr hrp2 ?_
      refine wr_callv (w2 := wTo cc (a 0) g rp) (va_runV (As := [.ref (d 0)]) (rest := []) S (kP_receiveAllOf D cc a b d x y y2 (s.heap.size) hkr ok kr kr2) (cwV 1 hts (gd_V wm_165 wm_166 wm_167 wm_3 wm_168) rfl rfl rfl (by decide +kernel) ⟨Nat.le_of_ble_eq_true rfl, Nat.le_of_ble_eq_true rfl⟩) (wr_preV (q0 := 7) (P_left hP) hE (D_left hD) rfl rfl) rfl rfl hl.1 rfl (lv_room (Nat.le_of_ble_eq_true rfl)) dT_sync_28 ⟨Nat.le_of_ble_eq_true rfl, Nat.le_of_ble_eq_true rfl⟩) hP hD hS hA (fun u H locs hpo hP hD hS => ?_)
      have hP : va_P D vwCl (wTT cc a b d g rp (x) (rcaF x y y2 x.cnt) y2) H := hP
      have hD : va_D A (wTT cc a b d g rp (x) (rcaF x y y2 x.cnt) y2) := hD
      refine lv_aload_n hx hb dT_sync_31 rfl (lv_at hl 0 rfl) ?_
      refine va_get (D := D) (ci := 2) (v := .ref (g 1)) (C := RT) (T := TT) (N := 2) hx hb hts in_T hown hK hP 27 rfl rfl 1 (by decide) (hts _ wm_70) (fun _ h9 => h9) rfl dT_sync_32 ?_
      refine lv_iload_n hx hb dT_sync_35 rfl (lv_at hl 1 rfl) ?_
      refine r_oald (q0 := 28) (t0 := 4) (f := rp) hx hb hK hP rfl rfl (by omega) (by decide) dT_sync_36 ?_
      refine r_topr hrp ?_
      refine wr_calli (w2 := (wR cc (a 0) d y2 ++ wTo cc (a 0) g rp)) (va_runV (As := []) (rest := []) S (kP_applyReady D cc a b x (rcaF x y y2 x.cnt) (H.size) ht hp1 hap ok (hkr x.cnt (Nat.le_refl _))) (cwV 0 hts (gd_V wm_154 wm_155 wm_156 wm_3 wm_157) rfl rfl rfl (by decide +kernel) ⟨Nat.le_of_ble_eq_true rfl, Nat.le_of_ble_eq_true rfl⟩) (wr_preV (q0 := 7) (P_left hP) hE (D_left hD) rfl rfl) rfl rfl hl.1 rfl (lv_room (Nat.le_of_ble_eq_true rfl)) dT_sync_37 ⟨Nat.le_of_ble_eq_true rfl, Nat.le_of_ble_eq_true rfl⟩) hP hD hS hA (fun v_37 u H locs hpo hP hD hS => ?_)
      subst hpo
      have hP : va_P D vwCl (wTT cc a b d g rp (x) (aprR x (rcaF x y y2 x.cnt)) y2) H := hP
      have hD : va_D A (wTT cc a b d g rp (x) (aprR x (rcaF x y y2 x.cnt)) y2) := hD
      exact kx _ _ _ _ _ (x, aprR x (rcaF x y y2 x.cnt)) dT_sync_40 hS hP hD (Or.inr ⟨rfl, rfl, rfl, rfl⟩)
    · refine lv_iconst (v := sI (0)) hx hb dT_sync_14 (by decide) ?_
      exact kx _ _ _ _ _ (x, y) dT_sync_15 hS hP hD (by first | exact Or.inl ⟨Or.inl c_4, sI_0, rfl⟩ | exact Or.inl ⟨Or.inr c_11, sI_0, rfl⟩)

set_option maxHeartbeats 4000000 in
set_option maxRecDepth 100000 in
theorem kT_same_s {l : Launch} (D : va_G) (cc : Nat → ClassId) (a b g : Nat → Nat) (rp : Nat → Nat) (x : LgS) (y : RpS) (sz : Nat) (r : Nat) (hr : r < 3) (hrp : rp r = b 0) (z1 z2 : Int32) (hz : isRep z1 = true → z1 = nI r) (hz2 : isRep z2 = true → z2 = nI r) (ok : okL x) (kr : okR y) : Met l yT_same wsT_same rmT_same (va_Pc [.ref (g 0), .int (z1), .int (z2)] (WP D cc (wT cc a b g rp (x) (y)) sz)) (va_Qi (RC_same x y y r r z1 z2) (WQ D cc (va_A (wT cc a b g rp (x) (y)) sz) (fun u : LRp => wT cc a b g rp (u.1) (u.2))) (va_A (wT cc a b g rp (x) (y)) sz)) 0 0 (va_A (wT cc a b g rp (x) (y)) sz) := by
  refine wr_meti RT [.ref (g 0), .int (z1), .int (z2)] D cc (wT cc a b g rp (x) (y)) sz (fun u : LRp => wT cc a b g rp (u.1) (u.2)) _ (by decide) rfl rfl (Nat.le_of_ble_eq_true rfl) (fun v u h => by rcases h with ⟨-, rfl, -⟩ | ⟨_, _, rfl, -⟩ <;> exact bI_z _) ?_
  intro p e s m args below meth c Q A S hP hE hD hA kx ls hl
  obtain ⟨hx, hb, hml, hown, hts⟩ := id S
  have hK := hE.1
  have hts := hE.ts args
  have S : CallFix p m c cT_same 3 s args wAll RT := ⟨hx, hb, hml, hown, hts⟩
  have hS : va_S A s.heap s.heap [] := va_S.rf
  have hn := ok.n
  have he := ok.e
  have hself := kr.self
  have htl := kr.tl
  have hl : lv_has ls 3 [(0, .ref (g 0)), (1, .int (z1)), (2, .int (z2))] := hl
  refine lv_iload_n hx hb dT_same_0 rfl (lv_at hl 1 rfl) ?_
  refine W.callR (W.runS (As := [.int (z1)]) (rest := []) S (kT_isReplica ((z1))) (va_cwS 1 hts (gd_S wm_77 wm_78 wm_1 wm_79) rfl rfl rfl (by decide +kernel) ⟨Nat.le_of_ble_eq_true rfl, Nat.le_of_ble_eq_true rfl⟩) preT rfl rfl hl.1 rfl (lv_room (Nat.le_of_ble_eq_true rfl)) dT_same_1 ⟨Nat.le_of_ble_eq_true rfl, Nat.le_of_ble_eq_true rfl⟩) ?_
  refine W.eq (g2 := F0 m 4 ls [.int (bI (isRep ((z1))))]) rfl ?_
  refine r_eqB (tgt := 36) hx hb dT_same_4 (by decide) (fun c_4 => ?_) (fun c_4 => ?_)
  · refine lv_iconst (v := bI (false)) hx hb dT_same_36 (by decide) ?_
    exact kx _ _ _ _ _ (x, y) dT_same_37 hS hP hD (by first | exact Or.inl ⟨Or.inl c_4, rfl, rfl⟩ | exact Or.inl ⟨Or.inr c_11, rfl, rfl⟩ | exact Or.inr ⟨rfl, rfl, by rw [c_29], rfl⟩)
  · obtain rfl := hz c_4
    refine lv_iload_n hx hb dT_same_7 rfl (lv_at hl 2 rfl) ?_
    refine W.callR (W.runS (As := [.int (z2)]) (rest := []) S (kT_isReplica ((z2))) (va_cwS 1 hts (gd_S wm_77 wm_78 wm_1 wm_79) rfl rfl rfl (by decide +kernel) ⟨Nat.le_of_ble_eq_true rfl, Nat.le_of_ble_eq_true rfl⟩) preT rfl rfl hl.1 rfl (lv_room (Nat.le_of_ble_eq_true rfl)) dT_same_8 ⟨Nat.le_of_ble_eq_true rfl, Nat.le_of_ble_eq_true rfl⟩) ?_
    refine W.eq (g2 := F0 m 11 ls [.int (bI (isRep ((z2))))]) rfl ?_
    refine r_eqB (tgt := 36) hx hb dT_same_11 (by decide) (fun c_11 => ?_) (fun c_11 => ?_)
    · refine lv_iconst (v := bI (false)) hx hb dT_same_36 (by decide) ?_
      exact kx _ _ _ _ _ (x, y) dT_same_37 hS hP hD (by first | exact Or.inl ⟨Or.inl c_4, rfl, rfl⟩ | exact Or.inl ⟨Or.inr c_11, rfl, rfl⟩ | exact Or.inr ⟨rfl, rfl, by rw [c_29], rfl⟩)
    · obtain rfl := hz2 c_11
      refine lv_aload_n hx hb dT_same_14 rfl (lv_at hl 0 rfl) ?_
      refine va_get (D := D) (ci := 2) (v := .ref (g 1)) (C := RT) (T := TT) (N := 2) hx hb hts in_T hown hK hP 17 rfl rfl 1 (by decide) (hts _ wm_70) (fun _ h9 => h9) rfl dT_same_15 ?_
      refine lv_iload_n hx hb dT_same_18 rfl (lv_at hl 1 rfl) ?_
      refine r_oald (q0 := 18) (t0 := 4) (f := rp) hx hb hK hP rfl rfl (by omega) (by decide) dT_same_19 ?_
      refine r_topr hrp ?_
      refine lv_aload_n hx hb dT_same_20 rfl (lv_at hl 0 rfl) ?_
      refine va_get (D := D) (ci := 2) (v := .ref (g 1)) (C := RT) (T := TT) (N := 2) hx hb hts in_T hown hK hP 17 rfl rfl 1 (by decide) (hts _ wm_70) (fun _ h9 => h9) rfl dT_same_21 ?_
      refine lv_iload_n hx hb dT_same_24 rfl (lv_at hl 2 rfl) ?_
      refine r_oald (q0 := 18) (t0 := 4) (f := rp) hx hb hK hP rfl rfl (by omega) (by decide) dT_same_25 ?_
      refine r_topr hrp ?_
      refine W.callR (W.runV (As := [.ref (b 0)]) (rest := []) S (kP_readsLike_s D cc a b x y ok kr) (cwV 1 hts (gd_V wm_208 wm_209 wm_210 wm_3 wm_211) rfl rfl rfl (by decide +kernel) ⟨Nat.le_of_ble_eq_true rfl, Nat.le_of_ble_eq_true rfl⟩) (rd_preV (q0 := 7) (P_left hP) hE rfl rfl) rfl rfl hl.1 rfl (lv_room (Nat.le_of_ble_eq_true rfl)) dT_same_26 ⟨Nat.le_of_ble_eq_true rfl, Nat.le_of_ble_eq_true rfl⟩) ?_
      refine W.eq (g2 := F0 m 29 ls [.int (bI (rdlA x y y))]) rfl ?_
      refine r_eqB (tgt := 36) hx hb dT_same_29 (by decide) (fun c_29 => ?_) (fun c_29 => ?_)
      · refine lv_iconst (v := bI (false)) hx hb dT_same_36 (by decide) ?_
        exact kx _ _ _ _ _ (x, y) dT_same_37 hS hP hD (by first | exact Or.inl ⟨Or.inl c_4, rfl, rfl⟩ | exact Or.inl ⟨Or.inr c_11, rfl, rfl⟩ | exact Or.inr ⟨rfl, rfl, by rw [c_29], rfl⟩)
      · refine lv_iconst (v := bI (true)) hx hb dT_same_32 (by decide) ?_
        refine lv_goto (tgt := 37) hx hb dT_same_33 (by decide) ?_
        exact kx _ _ _ _ _ (x, y) dT_same_37 hS hP hD (by first | exact Or.inl ⟨Or.inl c_4, rfl, rfl⟩ | exact Or.inl ⟨Or.inr c_11, rfl, rfl⟩ | exact Or.inr ⟨rfl, rfl, by rw [c_29], rfl⟩)

set_option maxHeartbeats 4000000 in
set_option maxRecDepth 100000 in
theorem kT_sync_s {l : Launch} (D : va_G) (cc : Nat → ClassId) (a b g : Nat → Nat) (rp : Nat → Nat) (x : LgS) (y : RpS) (sz : Nat) (r : Nat) (hr : r < 3) (hrp : rp r = b 0) (z1 z2 : Int32) (hz : isRep z1 = true → z1 = nI r) (hz2 : isRep z2 = true → z2 = nI r) (ht : ∀ o, o < x.cnt → x.chr o = 0 → 0 < x.tgt o) (hp1 : ∀ o, o < x.cnt → 1 ≤ plc x o) (hkr : ∀ o, o ≤ x.cnt → okR (rcaF x y y o)) (hap : ∀ k, k ≤ x.cnt → apOK x (rcaF x y y x.cnt) k) (ok : okL x) (kr : okR y) : Met l yT_sync wsT_sync rmT_sync (va_Pc [.ref (g 0), .int (z1), .int (z2)] (WP D cc (wT cc a b g rp (x) (y)) sz)) (va_Qi (RC_sync x y y r r z1 z2) (WQ D cc (va_A (wT cc a b g rp (x) (y)) sz) (fun u : LRp => wT cc a b g rp (u.1) (u.2))) (va_A (wT cc a b g rp (x) (y)) sz)) 0 0 (va_A (wT cc a b g rp (x) (y)) sz) := by
  refine wr_meti RT [.ref (g 0), .int (z1), .int (z2)] D cc (wT cc a b g rp (x) (y)) sz (fun u : LRp => wT cc a b g rp (u.1) (u.2)) _ (by decide) rfl rfl (Nat.le_of_ble_eq_true rfl) (fun v _ _ => vp_nar_int v) ?_
  intro p e s m args below meth c Q A S hP hE hD hA kx ls hl
  obtain ⟨hx, hb, hml, hown, hts⟩ := id S
  have hK := hE.1
  have hts := hE.ts args
  have S : CallFix p m c cT_sync 3 s args wAll RT := ⟨hx, hb, hml, hown, hts⟩
  have hS : va_S A s.heap s.heap [] := va_S.rf
  have hn := ok.n
  have he := ok.e
  have hself := kr.self
  have htl := kr.tl
  have hl : lv_has ls 3 [(0, .ref (g 0)), (1, .int (z1)), (2, .int (z2))] := hl
  refine lv_iload_n hx hb dT_sync_0 rfl (lv_at hl 1 rfl) ?_
  refine W.callR (W.runS (As := [.int (z1)]) (rest := []) S (kT_isReplica ((z1))) (va_cwS 1 hts (gd_S wm_77 wm_78 wm_1 wm_79) rfl rfl rfl (by decide +kernel) ⟨Nat.le_of_ble_eq_true rfl, Nat.le_of_ble_eq_true rfl⟩) preT rfl rfl hl.1 rfl (lv_room (Nat.le_of_ble_eq_true rfl)) dT_sync_1 ⟨Nat.le_of_ble_eq_true rfl, Nat.le_of_ble_eq_true rfl⟩) ?_
  refine W.eq (g2 := F0 m 4 ls [.int (bI (isRep ((z1))))]) rfl ?_
  refine r_eqB (tgt := 14) hx hb dT_sync_4 (by decide) (fun c_4 => ?_) (fun c_4 => ?_)
  · refine lv_iconst (v := sI (0)) hx hb dT_sync_14 (by decide) ?_
    exact kx _ _ _ _ _ (x, y) dT_sync_15 hS hP hD (by first | exact Or.inl ⟨Or.inl c_4, sI_0, rfl⟩ | exact Or.inl ⟨Or.inr c_11, sI_0, rfl⟩)
  · obtain rfl := hz c_4
    refine lv_iload_n hx hb dT_sync_7 rfl (lv_at hl 2 rfl) ?_
    refine W.callR (W.runS (As := [.int (z2)]) (rest := []) S (kT_isReplica ((z2))) (va_cwS 1 hts (gd_S wm_77 wm_78 wm_1 wm_79) rfl rfl rfl (by decide +kernel) ⟨Nat.le_of_ble_eq_true rfl, Nat.le_of_ble_eq_true rfl⟩) preT rfl rfl hl.1 rfl (lv_room (Nat.le_of_ble_eq_true rfl)) dT_sync_8 ⟨Nat.le_of_ble_eq_true rfl, Nat.le_of_ble_eq_true rfl⟩) ?_
    refine W.eq (g2 := F0 m 11 ls [.int (bI (isRep ((z2))))]) rfl ?_
    refine r_neB (tgt := 16) hx hb dT_sync_11 (by decide) (fun c_11 => ?_) (fun c_11 => ?_)
    · obtain rfl := hz2 c_11
      refine lv_aload_n hx hb dT_sync_16 rfl (lv_at hl 0 rfl) ?_
      refine va_get (D := D) (ci := 2) (v := .ref (g 1)) (C := RT) (T := TT) (N := 2) hx hb hts in_T hown hK hP 17 rfl rfl 1 (by decide) (hts _ wm_70) (fun _ h9 => h9) rfl dT_sync_17 ?_
      refine lv_iload_n hx hb dT_sync_20 rfl (lv_at hl 1 rfl) ?_
      refine r_oald (q0 := 18) (t0 := 4) (f := rp) hx hb hK hP rfl rfl (by omega) (by decide) dT_sync_21 ?_
      refine r_topr hrp ?_
      refine lv_aload_n hx hb dT_sync_22 rfl (lv_at hl 0 rfl) ?_
      refine va_get (D := D) (ci := 2) (v := .ref (g 1)) (C := RT) (T := TT) (N := 2) hx hb hts in_T hown hK hP 17 rfl rfl 1 (by decide) (hts _ wm_70) (fun _ h9 => h9) rfl dT_sync_23 ?_
      refine lv_iload_n hx hb dT_sync_26 rfl (lv_at hl 2 rfl) ?_
      refine r_oald (q0 := 18) (t0 := 4) (f := rp) hx hb hK hP rfl rfl (by omega) (by decide) dT_sync_27 ?_
      refine r_topr hrp ?_
      refine wr_callv (w2 := wTo cc (a 0) g rp) (va_runV (As := [.ref (b 0)]) (rest := []) S (kP_receiveAllOf_s D cc a b x y (s.heap.size) hkr ok kr) (cwV 1 hts (gd_V wm_165 wm_166 wm_167 wm_3 wm_168) rfl rfl rfl (by decide +kernel) ⟨Nat.le_of_ble_eq_true rfl, Nat.le_of_ble_eq_true rfl⟩) (wr_preV (q0 := 7) (P_left hP) hE (D_left hD) rfl rfl) rfl rfl hl.1 rfl (lv_room (Nat.le_of_ble_eq_true rfl)) dT_sync_28 ⟨Nat.le_of_ble_eq_true rfl, Nat.le_of_ble_eq_true rfl⟩) hP hD hS hA (fun u H locs hpo hP hD hS => ?_)
      have hP : va_P D vwCl (wT cc a b g rp (x) (rcaF x y y x.cnt)) H := hP
      have hD : va_D A (wT cc a b g rp (x) (rcaF x y y x.cnt)) := hD
      refine lv_aload_n hx hb dT_sync_31 rfl (lv_at hl 0 rfl) ?_
      refine va_get (D := D) (ci := 2) (v := .ref (g 1)) (C := RT) (T := TT) (N := 2) hx hb hts in_T hown hK hP 17 rfl rfl 1 (by decide) (hts _ wm_70) (fun _ h9 => h9) rfl dT_sync_32 ?_
      refine lv_iload_n hx hb dT_sync_35 rfl (lv_at hl 1 rfl) ?_
      refine r_oald (q0 := 18) (t0 := 4) (f := rp) hx hb hK hP rfl rfl (by omega) (by decide) dT_sync_36 ?_
      refine r_topr hrp ?_
      refine wr_calli (w2 := wTo cc (a 0) g rp) (va_runV (As := []) (rest := []) S (kP_applyReady D cc a b x (rcaF x y y x.cnt) (H.size) ht hp1 hap ok (hkr x.cnt (Nat.le_refl _))) (cwV 0 hts (gd_V wm_154 wm_155 wm_156 wm_3 wm_157) rfl rfl rfl (by decide +kernel) ⟨Nat.le_of_ble_eq_true rfl, Nat.le_of_ble_eq_true rfl⟩) (wr_preV (q0 := 7) (P_left hP) hE (D_left hD) rfl rfl) rfl rfl hl.1 rfl (lv_room (Nat.le_of_ble_eq_true rfl)) dT_sync_37 ⟨Nat.le_of_ble_eq_true rfl, Nat.le_of_ble_eq_true rfl⟩) hP hD hS hA (fun v_37 u H locs hpo hP hD hS => ?_)
      subst hpo
      have hP : va_P D vwCl (wT cc a b g rp (x) (aprR x (rcaF x y y x.cnt))) H := hP
      have hD : va_D A (wT cc a b g rp (x) (aprR x (rcaF x y y x.cnt))) := hD
      exact kx _ _ _ _ _ (x, aprR x (rcaF x y y x.cnt)) dT_sync_40 hS hP hD (Or.inr ⟨rfl, rfl, rfl, rfl⟩)
    · refine lv_iconst (v := sI (0)) hx hb dT_sync_14 (by decide) ?_
      exact kx _ _ _ _ _ (x, y) dT_sync_15 hS hP hD (by first | exact Or.inl ⟨Or.inl c_4, sI_0, rfl⟩ | exact Or.inl ⟨Or.inr c_11, sI_0, rfl⟩)
end
section
/-! Constructors: rows and contracts of methods that make cells -/
def EN2 (D : va_G) (cc : Nat → ClassId) (U : State) : Prop := EN D cc U ∧ (Cond.arrayOver (.array .int)).before #[] U = true ∧ va_AO RP U ∧ va_Nw (.methodLinkNest RT 9 yL_init "TombstoneText") U
theorem ao_bare {s U : State} (hvm : s.vm.Alike U.vm) (h : (Cond.arrayOver (.array .int)).before #[] s = true) : (Cond.arrayOver (.array .int)).before #[] U = true := by
  have e := Cond.arrayOver_setVmC (args := #[]) (s := s) (vm' := U.vm) hvm (.array .int)
  rw [h] at e
  exact e
theorem EN2.warm {D : va_G} {cc : Nat → ClassId} {s U : State} (h : EN2 D cc s) (hW : s.WarmedH U.vm) : EN2 D cc U := ⟨h.1.warm hW, ao_bare hW.alike h.2.1, h.2.2.1.moved hW.alike, va_Nw.warmM hW h.2.2.2⟩
theorem EN2.call {D : va_G} {cc : Nat → ClassId} {U : State} {g : JFrame} {mk : MethodId} {a : Array Value} (h : EN2 D cc U) : EN2 D cc (U.calling g mk a) := h.warm (U := U.calling g mk a) (State.WarmedH.refl U)
def WP2 (D : va_G) (cc : Nat → ClassId) (w : va_W) (sz : Nat) : State → Prop := fun U => U.heap.size = sz ∧ va_P D vwCl w U.heap ∧ EN2 D cc U ∧ va_D (fun _ => True) w
def WQ2 {S : Type} (D : va_G) (cc : Nat → ClassId) (A : Nat → Prop) (w' : S → va_W) : S → State → Prop := fun u t => va_P D vwCl (w' u) t.heap ∧ EN2 D cc t ∧ va_D A (w' u)
theorem mk_met {l : Launch} {y : MethodName} {cc : ByteArray} {maxL mc ms : Nat} {ws ws' : List Cond} {rm : Room} {S : Type} (own : String) (av : List Value) (D : va_G) (cn : Nat → ClassId) (w : va_W) (sz : Nat) (w' : S → va_W) (post : S → Prop) (hy : plainName y.cls = true) (hw : ws = Cond.code y cc maxL none :: ws') (ho : y.cls = own) (hi : y.name = "<init>") (hav : (lg_sl av).length ≤ maxL)
    (body : ∀ (p : Program) (e : Env) (s : State) (m : MethodId) (args : Array Value) (below : List Frame) (meth : Method) (c : Code) (Q : State → Prop) (A : Nat → Prop), CallFix p m c cc maxL s args ws own → meth.name = "<init>" → va_P D vwCl w s.heap → EN2 D cn s → va_D A w → (∀ q, s.heap.size ≤ q → A q) →
      (∀ (H : Heap) (locs : List Loc) (pc : Nat) (ls : Array Slot) (u : S), decode cc pc = .ok (.return_, 1) → va_S A s.heap H locs → va_P D vwCl (w' u) H → va_D A (w' u) → post u → W p l e rm s m args below meth c H locs mc ms Q (F0 m pc ls [])) →
      ∀ ls : Array Slot, lv_has ls maxL (lv_args 0 av) → W p l e rm s m args below meth c s.heap [] 0 0 Q (F0 m 0 ls [])) :
    Met l y ws rm (va_Pc av (WP2 D cn w sz)) (va_Qv post (WQ2 D cn (va_A w sz) w') (va_A w sz)) mc ms (va_A w sz) := by
  refine Met.ofW (cc := cc) (maxL := maxL) (ret := none) hy hw ?_
  intro p e s m args below meth c s₁ Bd hml hv
  obtain ⟨rfl, rfl, hP, hE, hD⟩ := hv
  have hr := Bd.returns
  have hlocks := Bd.notSynchronized
  have hin : meth.name = "<init>" := (name_of_methodNamed Bd.named Bd.method).1.trans hi
  rw [lg_entry_eq]
  refine body p e s m _ below meth c _ (va_A w s.heap.size) ⟨Bd.exec, Bd.bytes, hml, ?_, atoms_spec (ws := ws) Bd.pre⟩ hin hP hE hD.self (fun q h => Or.inr h) ?_ _ (lv_entry av hav)
  · rw [← ho]; exact findClass_of_methodNamed Bd.named
  · intro H locs pc ls u hd hS hP1 hD1 hpo
    exact W.vret Bd.exec Bd.bytes hr (fun t ht hW => ⟨⟨u, rfl, hpo, by rw [ht]; exact hP1, hE.warm hW, hD1⟩, hS.F ht⟩) hS.2.2 hd
section MKR
variable {p : Program} {l : Launch} {e : Env} {R : Room} {s : State} {m : MethodId} {args : Array Value} {below : List Frame} {meth : Method} {c : Code} {H : Heap} {locs : List Loc} {cells slots : Nat} {Q : State → Prop}
variable {cc : ByteArray} {pc : Nat} {ls : Array Slot} {rest : List Value} {D : va_G} {cl : List vw_C} {A : Nat → Prop} {tys : List (ClassId × FieldType)} {ws : va_W} {H0 : Heap} {cA : ClassId}
theorem r_newa (hx : p.tables.exec = Jvm.exec) (hb : c.code = cc) {atype : ArrayType} {ty : FieldType} (hty : newarray.typeOf atype = ty) (harr : (Cond.arrayClass ty).before args s = true) (hra : ∀ c : ClassId, va_RA s c ty → s.vm.findClass ("[" ++ ty.toString) = some c) (hK : va_K D cl tys s) (t0 : Nat) (ht : tys[t0]? = some (cA, ty)) (hP : va_P D cl ws H) (hD : va_D A ws) (hS : va_S A H0 H locs) (hA : ∀ q, H0.size ≤ q → A q)
    {N' : Nat} {a0 : vp_A} (ha : ∀ cA : ClassId, vp_cell cA a0 = arrV cA N' (fun _ => defaultValue ty)) (hN : N' < 2 ^ 31) (hbytes : N' * componentBytes ty ≤ 536870912) (hcells : cells + 1 ≤ R.cells) (hslots : slots + N' ≤ R.slots) (hdg : decode cc pc = .ok (.newarray atype, 2))
    (kk : ∀ (q : Nat) (H : Heap), va_P D cl (ws ++ [(q, .inl (cA, a0))]) H → va_D A (ws ++ [(q, .inl (cA, a0))]) → va_S A H0 H locs → W p l e R s m args below meth c H locs (cells + 1) (slots + N') Q (F0 m (pc + 2) ls (.ref q :: rest))) : W p l e R s m args below meth c H locs cells slots Q (F0 m pc ls (.int (nI N') :: rest)) := by
  subst hty
  refine va_newa hx hb harr rfl hK hP hD hS hA ha (nI_pos hN) (nI_clamp hN) hbytes hcells hslots hdg (fun q cB H1 hK1 h1 h2 h3 => ?_)
  have e1 := hra _ (hK.2 t0 _ ht).2
  have e2 := hra _ (hK1.2 tys.length (cB, newarray.typeOf atype) (by rw [List.getElem?_append_right (Nat.le_refl _), Nat.sub_self]; rfl)).2
  have e3 : cB = cA := Option.some.inj (e2.symm.trans e1)
  subst e3
  exact kk q H1 h1 h2 h3
theorem r_newq (hx : p.tables.exec = Jvm.exec) (hb : c.code = cc) {own C : String} {index : Nat} (hown : s.vm.findClass own = some m.cls) (hclink : (Cond.classLink own index C).before args s = true) (hover : va_AO C s) (hK : va_K D cl tys s) (t0 : Nat) (ht : tys[t0]? = some (cA, .object C)) (hP : va_P D cl ws H) (hD : va_D A ws) (hS : va_S A H0 H locs) (hA : ∀ q, H0.size ≤ q → A q)
    {N' : Nat} (hN : N' < 2 ^ 31) (hbytes : N' * 4 ≤ 536870912) (hcells : cells + 1 ≤ R.cells) (hslots : slots + N' ≤ R.slots) (hdg : decode cc pc = .ok (.anewarray index, 3))
    (kk : ∀ (q : Nat) (H : Heap), va_P D cl (ws ++ [(q, .inl (cA, N', .inr (.inr (.inr (.inr (fun _ => none))))))]) H → va_D A (ws ++ [(q, .inl (cA, N', .inr (.inr (.inr (.inr (fun _ => none))))))]) → va_S A H0 H locs → W p l e R s m args below meth c H locs (cells + 1) (slots + N') Q (F0 m (pc + 3) ls (.ref q :: rest))) : W p l e R s m args below meth c H locs cells slots Q (F0 m pc ls (.int (nI N') :: rest)) := by
  refine va_newq hx hb hown hclink hover hK hP hD hS hA (nI_pos hN) (nI_clamp hN) hbytes hcells hslots hdg (fun q cB H1 hK1 h1 h2 h3 => ?_)
  obtain ⟨-, -, -, -, -, e1⟩ := (hK.2 t0 _ ht).2
  obtain ⟨-, -, -, -, -, e2⟩ := (hK1.2 tys.length (cB, .object C) (by rw [List.getElem?_append_right (Nat.le_refl _), Nat.sub_self]; rfl)).2
  have e3 : cB = cA := Option.some.inj (e2.symm.trans e1)
  subst e3
  exact kk q H1 h1 h2 h3
theorem r_mna33 (hx : p.tables.exec = Jvm.exec) (hb : c.code = cc) {own : String} {index : Nat} {cI : ClassId} (hown : s.vm.findClass own = some m.cls) (hclink : (Cond.classLink own index "[[I").before args s = true) (hover : (Cond.arrayOver (.array .int)).before #[] s = true) (harr : (Cond.arrayClass .int).before args s = true)
    (hK : va_K D cl tys s) (ht0 : tys[0]? = some (cI, .int)) (ht3 : tys[3]? = some (cA, .array .int)) (hP : va_P D cl ws H) (hD : va_D A ws) (hS : va_S A H0 H locs) (hA : ∀ q, H0.size ≤ q → A q) (hcells : cells + 4 ≤ R.cells) (hslots : slots + 12 ≤ R.slots) (hdg : decode cc pc = .ok (.multianewarray index 2, 4))
    (kk : ∀ (q : Nat) (H : Heap), va_P D cl (ws ++ [(q, .inl (cA, 3, .inr (.inr (.inr (.inr (fun j => some (q + 1 + j))))))), (q + 1, .inl (cI, 3, .inl (fun _ => nI 0))), (q + 2, .inl (cI, 3, .inl (fun _ => nI 0))), (q + 3, .inl (cI, 3, .inl (fun _ => nI 0)))]) H →
      va_D A (ws ++ [(q, .inl (cA, 3, .inr (.inr (.inr (.inr (fun j => some (q + 1 + j))))))), (q + 1, .inl (cI, 3, .inl (fun _ => nI 0))), (q + 2, .inl (cI, 3, .inl (fun _ => nI 0))), (q + 3, .inl (cI, 3, .inl (fun _ => nI 0)))]) → va_S A H0 H locs →
      W p l e R s m args below meth c H locs (cells + 4) (slots + 12) Q (F0 m (pc + 4) ls (.ref q :: rest))) : W p l e R s m args below meth c H locs cells slots Q (F0 m pc ls (.int (nI 3) :: .int (nI 3) :: rest)) := by
  intro T hT Xs
  have hover' : (Cond.arrayOver (.array .int)).before args s = true := hover
  obtain ⟨vm₁, cB, comp, -, fA, fC, hO, -, X', step⟩ := Xs.multianewarray2F hx (ty := .int) hown hclink hover' harr (g := F0 m pc ls (.int (nI 3) :: .int (nI 3) :: rest)) rfl (by rw [hb]; exact hdg) rfl (by decide) (by decide) (by decide) (by decide) (by decide) rfl rfl hcells hslots
  have e0 : s.vm.findClass ("[" ++ (FieldType.int).toString) = some cI := (hK.2 0 _ ht0).2
  have e3 : s.vm.findClass ("[" ++ (FieldType.array .int).toString) = some cA := (hK.2 3 _ ht3).2
  have c1 : comp = cI := Option.some.inj (fC.symm.trans e0)
  have c2 : cB = cA := Option.some.inj (fA.symm.trans e3)
  subst c1
  subst c2
  have n3 : (nI 3).toNatClampNeg = 3 := nI_clamp (by decide)
  rw [n3] at X' step
  generalize hF : Jvm.Free.Multi.fill (T.setVm vm₁) cB comp 3 3 (defaultValue .int) 3 = F at X' step
  have hTh : (T.setVm vm₁).heap = H := hT
  obtain ⟨f1, f2, -, -⟩ := Jvm.Free.Multi.fill_facts (T.setVm vm₁) cB comp 3 3 (defaultValue .int) 3
  rw [hF, hTh] at f1 f2
  have hold : ∀ x : Nat, x < H.size → F.heap[x]? = H[x]? := fun x hx => by
    have := Jvm.Free.Multi.fill_old (T.setVm vm₁) cB comp 3 3 (defaultValue .int) (a := x) (by rw [hTh]; exact hx) 3
    rw [hF, hTh] at this
    exact this
  have hrow : ∀ j : Nat, j < 3 → F.heap[H.size + 1 + j]? = some (vp_cell comp (3, .inl (fun _ => nI 0))) := fun j hj => by
    have := Jvm.Free.Multi.fill_inner (T.setVm vm₁) cB comp 3 3 (defaultValue .int) 3 j hj
    rw [hF, hTh] at this
    rw [this]
    rfl
  have hout : Jvm.Free.Multi.outerC cB 3 H.size 3 = vp_cell cB (3, .inr (.inr (.inr (.inr (fun j => some (H.size + 1 + j)))))) := rfl
  rw [hout] at f2
  have hP0 : va_P D cl ws F.heap := hP.kept (fun k9 x hx => hold x.1 ((hP k9 x hx).lt))
  have hP1 : va_P D cl (ws ++ [(H.size, .inl (cB, 3, .inr (.inr (.inr (.inr (fun j => some (H.size + 1 + j))))))), (H.size + 1, .inl (comp, 3, .inl (fun _ => nI 0))), (H.size + 2, .inl (comp, 3, .inl (fun _ => nI 0))), (H.size + 3, .inl (comp, 3, .inl (fun _ => nI 0)))]) F.heap := hP0.app (fun k9 x hx => by
    rcases (show k9 = 0 ∨ k9 = 1 ∨ k9 = 2 ∨ k9 = 3 ∨ 4 ≤ k9 by omega) with rfl | rfl | rfl | rfl | h4
    · cases hx; exact f2
    · cases hx; exact hrow 0 (by decide)
    · cases hx; exact hrow 1 (by decide)
    · cases hx; exact hrow 2 (by decide)
    · rw [List.getElem?_eq_none (by simpa using h4)] at hx; cases hx)
  have hD1 : va_D A (ws ++ [(H.size, .inl (cB, 3, .inr (.inr (.inr (.inr (fun j => some (H.size + 1 + j))))))), (H.size + 1, .inl (comp, 3, .inl (fun _ => nI 0))), (H.size + 2, .inl (comp, 3, .inl (fun _ => nI 0))), (H.size + 3, .inl (comp, 3, .inl (fun _ => nI 0)))]) := by
    have at4 : ∀ (k9 : Nat) (x : Nat × va_E), ([(H.size, .inl (cB, 3, .inr (.inr (.inr (.inr (fun j => some (H.size + 1 + j))))))), (H.size + 1, .inl (comp, 3, .inl (fun _ => nI 0))), (H.size + 2, .inl (comp, 3, .inl (fun _ => nI 0))), (H.size + 3, .inl (comp, 3, .inl (fun _ => nI 0)))] : va_W)[k9]? = some x → x.1 = H.size + k9 := fun k9 x hx => by
      rcases (show k9 = 0 ∨ k9 = 1 ∨ k9 = 2 ∨ k9 = 3 ∨ 4 ≤ k9 by omega) with rfl | rfl | rfl | rfl | h4
      · cases hx; rfl
      · cases hx; rfl
      · cases hx; rfl
      · cases hx; rfl
      · rw [List.getElem?_eq_none (by simpa using h4)] at hx; cases hx
    refine va_D.app hD ⟨fun i j x y hi hj hxy => ?_, fun k9 x hx => ?_⟩ (fun i j x y hi hj hxy => ?_)
    · have := at4 i x hi
      have := at4 j y hj
      omega
    · rw [at4 k9 x hx]
      exact hA _ (Nat.le_trans hS.1 (Nat.le_add_right _ _))
    · have h1 := (hP i x hi).lt
      have h2 := at4 j y hj
      omega
  have hS1 : va_S A H0 F.heap locs := ⟨Nat.le_trans hS.1 (by rw [f1]; omega), fun q h1 h2 => (hold q (Nat.lt_of_lt_of_le h1 hS.1)).trans (hS.2.1 q h1 h2), hS.2.2⟩
  obtain ⟨t, a1, b1⟩ := kk H.size F.heap hP1 hD1 hS1 F rfl X'
  exact ⟨t, step t (by rw [hT]; exact a1), b1⟩
end MKR
end
