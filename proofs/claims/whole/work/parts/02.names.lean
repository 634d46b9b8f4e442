/-! Names, fields, words: by program out of the tables and the listing -/
def RL : String := "TombstoneText$Log"
def TL : u_T := fun k => match k with
  | 0 => ("TombstoneText$Log", "issuers", "[I", true)
  | 1 => ("TombstoneText$Log", "stamps", "[I", true)
  | 2 => ("TombstoneText$Log", "targets", "[I", true)
  | 3 => ("TombstoneText$Log", "characters", "[C", true)
  | 4 => ("TombstoneText$Log", "clocks", "[I", true)
  | 5 => ("TombstoneText$Log", "order", "[I", true)
  | 6 => ("TombstoneText$Log", "count", "I", false)
  | _ => ("TombstoneText$Log", "elements", "I", false)
def tyL : Nat → FieldType := fun k => match k with
  | 0 => .array .int
  | 1 => .array .int
  | 2 => .array .int
  | 3 => .array .char
  | 4 => .array .int
  | 5 => .array .int
  | 6 => .int
  | _ => .int
theorem nmL : ∀ a, a < 8 → ∀ b, b < 8 → a ≠ b → (TL a).2.1 ≠ (TL b).2.1 := by decide +kernel
theorem tyL_ok : ∀ k, k < 8 → parseFieldDescriptor (TL k).2.2.1 = some (tyL k) := by decide +kernel
def RP : String := "TombstoneText$Replica"
def TP : u_T := fun k => match k with
  | 0 => ("TombstoneText$Replica", "self", "I", true)
  | 1 => ("TombstoneText$Replica", "log", "LTombstoneText$Log;", true)
  | 2 => ("TombstoneText$Replica", "seen", "[[I", true)
  | 3 => ("TombstoneText$Replica", "waits", "[Z", true)
  | 4 => ("TombstoneText$Replica", "erased", "[Z", true)
  | 5 => ("TombstoneText$Replica", "isKept", "[Z", true)
  | 6 => ("TombstoneText$Replica", "mayGo", "[Z", true)
  | 7 => ("TombstoneText$Replica", "text", "[I", true)
  | 8 => ("TombstoneText$Replica", "textLength", "I", false)
  | 9 => ("TombstoneText$Replica", "keptCount", "I", false)
  | 10 => ("TombstoneText$Replica", "waitingCount", "I", false)
  | _ => ("TombstoneText$Replica", "greatestStamp", "I", false)
def tyP : Nat → FieldType := fun k => match k with
  | 0 => .int
  | 1 => .object "TombstoneText$Log"
  | 2 => .array (.array .int)
  | 3 => .array .boolean
  | 4 => .array .boolean
  | 5 => .array .boolean
  | 6 => .array .boolean
  | 7 => .array .int
  | 8 => .int
  | 9 => .int
  | 10 => .int
  | _ => .int
theorem nmP : ∀ a, a < 12 → ∀ b, b < 12 → a ≠ b → (TP a).2.1 ≠ (TP b).2.1 := by decide +kernel
theorem tyP_ok : ∀ k, k < 12 → parseFieldDescriptor (TP k).2.2.1 = some (tyP k) := by decide +kernel
def RT : String := "TombstoneText"
def TT : u_T := fun k => match k with
  | 0 => ("TombstoneText", "log", "LTombstoneText$Log;", true)
  | _ => ("TombstoneText", "replicas", "[LTombstoneText$Replica;", true)
def tyT : Nat → FieldType := fun k => match k with
  | 0 => .object "TombstoneText$Log"
  | _ => .array (.object "TombstoneText$Replica")
theorem nmT : ∀ a, a < 2 → ∀ b, b < 2 → a ≠ b → (TT a).2.1 ≠ (TT b).2.1 := by decide +kernel
theorem tyT_ok : ∀ k, k < 2 → parseFieldDescriptor (TT k).2.2.1 = some (tyT k) := by decide +kernel
def RM : String := "TombstoneTextModel"
def TM : u_T := fun k => match k with
  | 0 => ("TombstoneTextModel", "issued", "I", false)
  | 1 => ("TombstoneTextModel", "by", "[I", true)
  | 2 => ("TombstoneTextModel", "line", "[I", true)
  | 3 => ("TombstoneTextModel", "stamp", "[I", true)
  | 4 => ("TombstoneTextModel", "letter", "[I", true)
  | 5 => ("TombstoneTextModel", "other", "[I", true)
  | 6 => ("TombstoneTextModel", "clock", "[I", true)
  | 7 => ("TombstoneTextModel", "applied", "[Z", true)
  | 8 => ("TombstoneTextModel", "waits", "[Z", true)
  | 9 => ("TombstoneTextModel", "gone", "[Z", true)
  | 10 => ("TombstoneTextModel", "length", "I", false)
  | 11 => ("TombstoneTextModel", "text", "[I", true)
  | _ => ("TombstoneTextModel", "spare", "[I", true)
def tyM : Nat → FieldType := fun k => match k with
  | 0 => .int
  | 1 => .array .int
  | 2 => .array .int
  | 3 => .array .int
  | 4 => .array .int
  | 5 => .array .int
  | 6 => .array .int
  | 7 => .array .boolean
  | 8 => .array .boolean
  | 9 => .array .boolean
  | 10 => .int
  | 11 => .array .int
  | _ => .array .int
theorem nmM : ∀ a, a < 13 → ∀ b, b < 13 → a ≠ b → (TM a).2.1 ≠ (TM b).2.1 := by decide +kernel
theorem tyM_ok : ∀ k, k < 13 → parseFieldDescriptor (TM k).2.2.1 = some (tyM k) := by decide +kernel
abbrev vwCl : List vw_C := [(RL, TL, 8), (RP, TP, 12), (RT, TT, 2), (RM, TM, 13)]
abbrev cT_init : ByteArray := prog_1_method_1_code
def yT_init : MethodName := ⟨RT, "<init>", "()V"⟩
def wsT_init : List Cond := [.code yT_init cT_init 2 none]
abbrev cL_init : ByteArray := prog_2_method_1_code
def yL_init : MethodName := ⟨RL, "<init>", "()V"⟩
def wsL_init : List Cond := [.code yL_init cL_init 1 none]
abbrev cP_init : ByteArray := prog_3_method_1_code
def yP_init : MethodName := ⟨RP, "<init>", "(ILTombstoneText$Log;)V"⟩
def wsP_init : List Cond := [.code yP_init cP_init 3 none]
abbrev cT_insert : ByteArray := prog_1_method_2_code
def yT_insert : MethodName := ⟨RT, "insert", "(IIC)I"⟩
def wsT_insert : List Cond := [.code yT_insert cT_insert 5 (some .int)]
abbrev cT_isReplica : ByteArray := prog_1_method_17_code
def yT_isReplica : MethodName := ⟨RT, "isReplica", "(I)Z"⟩
def wsT_isReplica : List Cond := [.code yT_isReplica cT_isReplica 1 (some .boolean)]
abbrev cL_isFull : ByteArray := prog_2_method_2_code
def yL_isFull : MethodName := ⟨RL, "isFull", "()Z"⟩
def wsL_isFull : List Cond := [.code yL_isFull cL_isFull 1 (some .boolean)]
abbrev cP_elementBefore : ByteArray := prog_3_method_3_code
def yP_elementBefore : MethodName := ⟨RP, "elementBefore", "(I)I"⟩
def wsP_elementBefore : List Cond := [.code yP_elementBefore cP_elementBefore 2 (some .int)]
abbrev cP_issue : ByteArray := prog_3_method_8_code
def yP_issue : MethodName := ⟨RP, "issue", "(IC)I"⟩
def wsP_issue : List Cond := [.code yP_issue cP_issue 4 (some .int)]
abbrev cL_record : ByteArray := prog_2_method_7_code
def yL_record : MethodName := ⟨RL, "record", "(II[IIC)I"⟩
def wsL_record : List Cond := [.code yL_record cL_record 8 (some .int)]
abbrev cL_putInOrder : ByteArray := prog_2_method_8_code
def yL_putInOrder : MethodName := ⟨RL, "putInOrder", "(I)V"⟩
def wsL_putInOrder : List Cond := [.code yL_putInOrder cL_putInOrder 4 none]
abbrev cL_indexBehind : ByteArray := prog_2_method_9_code
def yL_indexBehind : MethodName := ⟨RL, "indexBehind", "(I)I"⟩
def wsL_indexBehind : List Cond := [.code yL_indexBehind cL_indexBehind 3 (some .int)]
abbrev cL_goesFirst : ByteArray := prog_2_method_10_code
def yL_goesFirst : MethodName := ⟨RL, "goesFirst", "(II)Z"⟩
def wsL_goesFirst : List Cond := [.code yL_goesFirst cL_goesFirst 3 (some .boolean)]
abbrev cP_apply : ByteArray := prog_3_method_13_code
def yP_apply : MethodName := ⟨RP, "apply", "(I)V"⟩
def wsP_apply : List Cond := [.code yP_apply cP_apply 4 none]
abbrev cL_clockOf : ByteArray := prog_2_method_5_code
def yL_clockOf : MethodName := ⟨RL, "clockOf", "(II)I"⟩
def wsL_clockOf : List Cond := [.code yL_clockOf cL_clockOf 3 (some .int)]
abbrev cL_placeInLine : ByteArray := prog_2_method_6_code
def yL_placeInLine : MethodName := ⟨RL, "placeInLine", "(I)I"⟩
def wsL_placeInLine : List Cond := [.code yL_placeInLine cL_placeInLine 2 (some .int)]
abbrev cL_isErase : ByteArray := prog_2_method_4_code
def yL_isErase : MethodName := ⟨RL, "isErase", "(I)Z"⟩
def wsL_isErase : List Cond := [.code yL_isErase cL_isErase 2 (some .boolean)]
abbrev cP_rewriteText : ByteArray := prog_3_method_14_code
def yP_rewriteText : MethodName := ⟨RP, "rewriteText", "()V"⟩
def wsP_rewriteText : List Cond := [.code yP_rewriteText cP_rewriteText 3 none]
abbrev cP_hasApplied : ByteArray := prog_3_method_6_code
def yP_hasApplied : MethodName := ⟨RP, "hasApplied", "(I)Z"⟩
def wsP_hasApplied : List Cond := [.code yP_hasApplied cP_hasApplied 2 (some .boolean)]
abbrev cT_erase : ByteArray := prog_1_method_3_code
def yT_erase : MethodName := ⟨RT, "erase", "(II)I"⟩
def wsT_erase : List Cond := [.code yT_erase cT_erase 4 (some .int)]
abbrev cP_elementAt : ByteArray := prog_3_method_2_code
def yP_elementAt : MethodName := ⟨RP, "elementAt", "(I)I"⟩
def wsP_elementAt : List Cond := [.code yP_elementAt cP_elementAt 2 (some .int)]
abbrev cT_deliver : ByteArray := prog_1_method_4_code
def yT_deliver : MethodName := ⟨RT, "deliver", "(II)I"⟩
def wsT_deliver : List Cond := [.code yT_deliver cT_deliver 3 (some .int)]
abbrev cL_isIssued : ByteArray := prog_2_method_3_code
def yL_isIssued : MethodName := ⟨RL, "isIssued", "(I)Z"⟩
def wsL_isIssued : List Cond := [.code yL_isIssued cL_isIssued 2 (some .boolean)]
abbrev cP_receive : ByteArray := prog_3_method_9_code
def yP_receive : MethodName := ⟨RP, "receive", "(I)V"⟩
def wsP_receive : List Cond := [.code yP_receive cP_receive 2 none]
abbrev cP_applyReady : ByteArray := prog_3_method_11_code
def yP_applyReady : MethodName := ⟨RP, "applyReady", "()I"⟩
def wsP_applyReady : List Cond := [.code yP_applyReady cP_applyReady 3 (some .int)]
abbrev cP_isReady : ByteArray := prog_3_method_12_code
def yP_isReady : MethodName := ⟨RP, "isReady", "(I)Z"⟩
def wsP_isReady : List Cond := [.code yP_isReady cP_isReady 4 (some .boolean)]
abbrev cT_sync : ByteArray := prog_1_method_5_code
def yT_sync : MethodName := ⟨RT, "sync", "(II)I"⟩
def wsT_sync : List Cond := [.code yT_sync cT_sync 3 (some .int)]
abbrev cP_receiveAllOf : ByteArray := prog_3_method_10_code
def yP_receiveAllOf : MethodName := ⟨RP, "receiveAllOf", "(LTombstoneText$Replica;)V"⟩
def wsP_receiveAllOf : List Cond := [.code yP_receiveAllOf cP_receiveAllOf 3 none]
abbrev cT_collect : ByteArray := prog_1_method_6_code
def yT_collect : MethodName := ⟨RT, "collect", "(I)I"⟩
def wsT_collect : List Cond := [.code yT_collect cT_collect 2 (some .int)]
abbrev cP_dropErased : ByteArray := prog_3_method_15_code
def yP_dropErased : MethodName := ⟨RP, "dropErased", "()I"⟩
def wsP_dropErased : List Cond := [.code yP_dropErased cP_dropErased 3 (some .int)]
abbrev cP_markWhatMayGo : ByteArray := prog_3_method_16_code
def yP_markWhatMayGo : MethodName := ⟨RP, "markWhatMayGo", "()V"⟩
def wsP_markWhatMayGo : List Cond := [.code yP_markWhatMayGo cP_markWhatMayGo 2 none]
abbrev cP_isSettled : ByteArray := prog_3_method_7_code
def yP_isSettled : MethodName := ⟨RP, "isSettled", "(I)Z"⟩
def wsP_isSettled : List Cond := [.code yP_isSettled cP_isSettled 5 (some .boolean)]
abbrev cP_holdsItsTarget : ByteArray := prog_3_method_17_code
def yP_holdsItsTarget : MethodName := ⟨RP, "holdsItsTarget", "(I)Z"⟩
def wsP_holdsItsTarget : List Cond := [.code yP_holdsItsTarget cP_holdsItsTarget 2 (some .boolean)]
abbrev cT_length : ByteArray := prog_1_method_7_code
def yT_length : MethodName := ⟨RT, "length", "(I)I"⟩
def wsT_length : List Cond := [.code yT_length cT_length 2 (some .int)]
abbrev cT_at : ByteArray := prog_1_method_8_code
def yT_at : MethodName := ⟨RT, "at", "(II)I"⟩
def wsT_at : List Cond := [.code yT_at cT_at 4 (some .int)]
abbrev cT_position : ByteArray := prog_1_method_9_code
def yT_position : MethodName := ⟨RT, "position", "(II)I"⟩
def wsT_position : List Cond := [.code yT_position cT_position 4 (some .int)]
abbrev cP_positionOf : ByteArray := prog_3_method_4_code
def yP_positionOf : MethodName := ⟨RP, "positionOf", "(I)I"⟩
def wsP_positionOf : List Cond := [.code yP_positionOf cP_positionOf 3 (some .int)]
abbrev cT_same : ByteArray := prog_1_method_10_code
def yT_same : MethodName := ⟨RT, "same", "(II)Z"⟩
def wsT_same : List Cond := [.code yT_same cT_same 3 (some .boolean)]
abbrev cP_readsLike : ByteArray := prog_3_method_5_code
def yP_readsLike : MethodName := ⟨RP, "readsLike", "(LTombstoneText$Replica;)Z"⟩
def wsP_readsLike : List Cond := [.code yP_readsLike cP_readsLike 3 (some .boolean)]
abbrev cT_operations : ByteArray := prog_1_method_11_code
def yT_operations : MethodName := ⟨RT, "operations", "()I"⟩
def wsT_operations : List Cond := [.code yT_operations cT_operations 1 (some .int)]
abbrev cT_stamp : ByteArray := prog_1_method_12_code
def yT_stamp : MethodName := ⟨RT, "stamp", "(I)I"⟩
def wsT_stamp : List Cond := [.code yT_stamp cT_stamp 2 (some .int)]
abbrev cT_known : ByteArray := prog_1_method_13_code
def yT_known : MethodName := ⟨RT, "known", "(III)I"⟩
def wsT_known : List Cond := [.code yT_known cT_known 4 (some .int)]
abbrev cT_stable : ByteArray := prog_1_method_14_code
def yT_stable : MethodName := ⟨RT, "stable", "(II)Z"⟩
def wsT_stable : List Cond := [.code yT_stable cT_stable 3 (some .boolean)]
abbrev cT_kept : ByteArray := prog_1_method_15_code
def yT_kept : MethodName := ⟨RT, "kept", "(I)I"⟩
def wsT_kept : List Cond := [.code yT_kept cT_kept 2 (some .int)]
abbrev cT_waiting : ByteArray := prog_1_method_16_code
def yT_waiting : MethodName := ⟨RT, "waiting", "(I)I"⟩
def wsT_waiting : List Cond := [.code yT_waiting cT_waiting 2 (some .int)]
abbrev cM_init : ByteArray := prog_5_method_1_code
def yM_init : MethodName := ⟨RM, "<init>", "()V"⟩
def wsM_init : List Cond := [.code yM_init cM_init 1 none]
abbrev cM_insert : ByteArray := prog_5_method_12_code
def yM_insert : MethodName := ⟨RM, "insert", "(IIC)I"⟩
def wsM_insert : List Cond := [.code yM_insert cM_insert 4 (some .int)]
abbrev cM_isReplica : ByteArray := prog_5_method_2_code
def yM_isReplica : MethodName := ⟨RM, "isReplica", "(I)Z"⟩
def wsM_isReplica : List Cond := [.code yM_isReplica cM_isReplica 1 (some .boolean)]
abbrev cM_walk : ByteArray := prog_5_method_10_code
def yM_walk : MethodName := ⟨RM, "walk", "(I)V"⟩
def wsM_walk : List Cond := [.code yM_walk cM_walk 3 none]
abbrev cM_next : ByteArray := prog_5_method_8_code
def yM_next : MethodName := ⟨RM, "next", "(II)I"⟩
def wsM_next : List Cond := [.code yM_next cM_next 5 (some .int)]
abbrev cM_first : ByteArray := prog_5_method_7_code
def yM_first : MethodName := ⟨RM, "first", "(III)I"⟩
def wsM_first : List Cond := [.code yM_first cM_first 7 (some .int)]
abbrev cM_has : ByteArray := prog_5_method_4_code
def yM_has : MethodName := ⟨RM, "has", "(II)Z"⟩
def wsM_has : List Cond := [.code yM_has cM_has 3 (some .boolean)]
abbrev cM_sooner : ByteArray := prog_5_method_6_code
def yM_sooner : MethodName := ⟨RM, "sooner", "(II)Z"⟩
def wsM_sooner : List Cond := [.code yM_sooner cM_sooner 3 (some .boolean)]
abbrev cM_erased : ByteArray := prog_5_method_9_code
def yM_erased : MethodName := ⟨RM, "erased", "(II)Z"⟩
def wsM_erased : List Cond := [.code yM_erased cM_erased 5 (some .boolean)]
abbrev cM_issue : ByteArray := prog_5_method_11_code
def yM_issue : MethodName := ⟨RM, "issue", "(III)I"⟩
def wsM_issue : List Cond := [.code yM_issue cM_issue 7 (some .int)]
abbrev cM_count : ByteArray := prog_5_method_5_code
def yM_count : MethodName := ⟨RM, "count", "(II)I"⟩
def wsM_count : List Cond := [.code yM_count cM_count 5 (some .int)]
abbrev cM_erase : ByteArray := prog_5_method_13_code
def yM_erase : MethodName := ⟨RM, "erase", "(II)I"⟩
def wsM_erase : List Cond := [.code yM_erase cM_erase 3 (some .int)]
abbrev cM_deliver : ByteArray := prog_5_method_15_code
def yM_deliver : MethodName := ⟨RM, "deliver", "(II)I"⟩
def wsM_deliver : List Cond := [.code yM_deliver cM_deliver 6 (some .int)]
abbrev cM_isOperation : ByteArray := prog_5_method_3_code
def yM_isOperation : MethodName := ⟨RM, "isOperation", "(I)Z"⟩
def wsM_isOperation : List Cond := [.code yM_isOperation cM_isOperation 2 (some .boolean)]
abbrev cM_ready : ByteArray := prog_5_method_14_code
def yM_ready : MethodName := ⟨RM, "ready", "(II)Z"⟩
def wsM_ready : List Cond := [.code yM_ready cM_ready 5 (some .boolean)]
abbrev cM_sync : ByteArray := prog_5_method_16_code
def yM_sync : MethodName := ⟨RM, "sync", "(II)I"⟩
def wsM_sync : List Cond := [.code yM_sync cM_sync 5 (some .int)]
abbrev cM_known : ByteArray := prog_5_method_17_code
def yM_known : MethodName := ⟨RM, "known", "(III)I"⟩
def wsM_known : List Cond := [.code yM_known cM_known 7 (some .int)]
abbrev cM_stable : ByteArray := prog_5_method_18_code
def yM_stable : MethodName := ⟨RM, "stable", "(II)Z"⟩
def wsM_stable : List Cond := [.code yM_stable cM_stable 5 (some .boolean)]
abbrev cM_collect : ByteArray := prog_5_method_21_code
def yM_collect : MethodName := ⟨RM, "collect", "(I)I"⟩
def wsM_collect : List Cond := [.code yM_collect cM_collect 4 (some .int)]
abbrev cM_keeps : ByteArray := prog_5_method_20_code
def yM_keeps : MethodName := ⟨RM, "keeps", "(II)Z"⟩
def wsM_keeps : List Cond := [.code yM_keeps cM_keeps 3 (some .boolean)]
abbrev cM_idle : ByteArray := prog_5_method_19_code
def yM_idle : MethodName := ⟨RM, "idle", "(II)Z"⟩
def wsM_idle : List Cond := [.code yM_idle cM_idle 6 (some .boolean)]
abbrev cM_length : ByteArray := prog_5_method_22_code
def yM_length : MethodName := ⟨RM, "length", "(I)I"⟩
def wsM_length : List Cond := [.code yM_length cM_length 2 (some .int)]
abbrev cM_at : ByteArray := prog_5_method_23_code
def yM_at : MethodName := ⟨RM, "at", "(II)I"⟩
def wsM_at : List Cond := [.code yM_at cM_at 3 (some .int)]
abbrev cM_position : ByteArray := prog_5_method_24_code
def yM_position : MethodName := ⟨RM, "position", "(II)I"⟩
def wsM_position : List Cond := [.code yM_position cM_position 5 (some .int)]
abbrev cM_same : ByteArray := prog_5_method_25_code
def yM_same : MethodName := ⟨RM, "same", "(II)Z"⟩
def wsM_same : List Cond := [.code yM_same cM_same 6 (some .boolean)]
abbrev cM_operations : ByteArray := prog_5_method_26_code
def yM_operations : MethodName := ⟨RM, "operations", "()I"⟩
def wsM_operations : List Cond := [.code yM_operations cM_operations 1 (some .int)]
abbrev cM_stamp : ByteArray := prog_5_method_27_code
def yM_stamp : MethodName := ⟨RM, "stamp", "(I)I"⟩
def wsM_stamp : List Cond := [.code yM_stamp cM_stamp 2 (some .int)]
abbrev cM_kept : ByteArray := prog_5_method_28_code
def yM_kept : MethodName := ⟨RM, "kept", "(I)I"⟩
def wsM_kept : List Cond := [.code yM_kept cM_kept 4 (some .int)]
abbrev cM_waiting : ByteArray := prog_5_method_29_code
def yM_waiting : MethodName := ⟨RM, "waiting", "(I)I"⟩
def wsM_waiting : List Cond := [.code yM_waiting cM_waiting 4 (some .int)]
def wA0 : List Cond := [.initialized "TombstoneTextLaw", .initialized RT, .initialized RL, .initialized RP, .initialized RM, .initialized "java/lang/Math", .classLink "TombstoneTextLaw" 7 RT, .instantiable RT 2, .methodLink "TombstoneTextLaw" 9 yT_init, .instanceMethod yT_init, .code yT_init cT_init 2 none, .methodLink RT 1 objectInit, .instanceMethod objectInit, .code objectInit ⟨#[0xb1]⟩ 1 none, .classLink RT 7 RL, .instantiable RL 8, .instanceMethod yL_init, .code yL_init cL_init 1 none, .methodLink RL 3 objectInit, .fieldLink RL 9 "TombstoneText$Log" "issuers" "[I", .fieldLink RL 15 "TombstoneText$Log" "stamps" "[I", .fieldLink RL 18 "TombstoneText$Log" "targets" "[I", .fieldLink RL 21 "TombstoneText$Log" "characters" "[C", .fieldLink RL 25 "TombstoneText$Log" "clocks" "[I", .fieldLink RL 28 "TombstoneText$Log" "order" "[I", .fieldLink RL 31 "TombstoneText$Log" "count" "I", .fieldLink RL 47 "TombstoneText$Log" "elements" "I", .laysFinal RL "TombstoneText$Log" "issuers" "[I", .laysFinal RL "TombstoneText$Log" "stamps" "[I", .laysFinal RL "TombstoneText$Log" "targets" "[I", .laysFinal RL "TombstoneText$Log" "characters" "[C", .laysFinal RL "TombstoneText$Log" "clocks" "[I", .laysFinal RL "TombstoneText$Log" "order" "[I", .lays RL "TombstoneText$Log" "count" "I", .lays RL "TombstoneText$Log" "elements" "I", .arrayClass .int, .arrayClass .char, .classLink RT 16 RP, .instantiable RP 12, .methodLink RT 22 yP_init]
def wA1 : List Cond := [.instanceMethod yP_init, .code yP_init cP_init 3 none, .methodLink RP 3 objectInit, .classLink RP 9 "[[I", .fieldLink RP 33 "TombstoneText$Replica" "self" "I", .fieldLink RP 37 "TombstoneText$Replica" "log" "LTombstoneText$Log;", .fieldLink RP 11 "TombstoneText$Replica" "seen" "[[I", .fieldLink RP 16 "TombstoneText$Replica" "waits" "[Z", .fieldLink RP 20 "TombstoneText$Replica" "erased" "[Z", .fieldLink RP 23 "TombstoneText$Replica" "isKept" "[Z", .fieldLink RP 26 "TombstoneText$Replica" "mayGo" "[Z", .fieldLink RP 29 "TombstoneText$Replica" "text" "[I", .fieldLink RP 41 "TombstoneText$Replica" "textLength" "I", .fieldLink RP 105 "TombstoneText$Replica" "keptCount" "I", .fieldLink RP 75 "TombstoneText$Replica" "waitingCount" "I", .fieldLink RP 57 "TombstoneText$Replica" "greatestStamp" "I", .laysFinal RP "TombstoneText$Replica" "self" "I", .laysFinal RP "TombstoneText$Replica" "log" "LTombstoneText$Log;", .laysFinal RP "TombstoneText$Replica" "seen" "[[I", .laysFinal RP "TombstoneText$Replica" "waits" "[Z", .laysFinal RP "TombstoneText$Replica" "erased" "[Z", .laysFinal RP "TombstoneText$Replica" "isKept" "[Z", .laysFinal RP "TombstoneText$Replica" "mayGo" "[Z", .laysFinal RP "TombstoneText$Replica" "text" "[I", .lays RP "TombstoneText$Replica" "textLength" "I", .lays RP "TombstoneText$Replica" "keptCount" "I", .lays RP "TombstoneText$Replica" "waitingCount" "I", .lays RP "TombstoneText$Replica" "greatestStamp" "I", .arrayClass .boolean, .fieldLink RT 10 "TombstoneText" "log" "LTombstoneText$Log;", .fieldLink RT 18 "TombstoneText" "replicas" "[LTombstoneText$Replica;", .laysFinal RT "TombstoneText" "log" "LTombstoneText$Log;", .laysFinal RT "TombstoneText" "replicas" "[LTombstoneText$Replica;", .methodLink "TombstoneTextLaw" 13 yT_insert, .instanceMethod yT_insert, .selects RT yT_insert yT_insert, .code yT_insert cT_insert 5 (some .int), .methodLink RT 25 yT_isReplica, .static yT_isReplica, .code yT_isReplica cT_isReplica 1 (some .boolean)]
def wA2 : List Cond := [.methodLink RT 33 yL_isFull, .instanceMethod yL_isFull, .selects RL yL_isFull yL_isFull, .code yL_isFull cL_isFull 1 (some .boolean), .methodLink RT 37 yP_elementBefore, .instanceMethod yP_elementBefore, .selects RP yP_elementBefore yP_elementBefore, .code yP_elementBefore cP_elementBefore 2 (some .int), .methodLink RT 41 yP_issue, .instanceMethod yP_issue, .selects RP yP_issue yP_issue, .code yP_issue cP_issue 4 (some .int), .methodLink RP 60 yL_record, .instanceMethod yL_record, .selects RL yL_record yL_record, .code yL_record cL_record 8 (some .int), .methodLink RL 39 yL_putInOrder, .instanceMethod yL_putInOrder, .code yL_putInOrder cL_putInOrder 4 none, .methodLink RL 43 yL_indexBehind, .instanceMethod yL_indexBehind, .code yL_indexBehind cL_indexBehind 3 (some .int), .methodLink RL 54 Lib.Math.min.name, .static Lib.Math.min.name, .code Lib.Math.min.name Lib.Math.min.code 2 (some .int), .methodLink RL 50 yL_goesFirst, .instanceMethod yL_goesFirst, .code yL_goesFirst cL_goesFirst 3 (some .boolean), .methodLink RP 64 yP_apply, .instanceMethod yP_apply, .code yP_apply cP_apply 4 none, .methodLink RP 87 yL_clockOf, .instanceMethod yL_clockOf, .selects RL yL_clockOf yL_clockOf, .code yL_clockOf cL_clockOf 3 (some .int), .methodLink RP 50 yL_placeInLine, .instanceMethod yL_placeInLine, .selects RL yL_placeInLine yL_placeInLine, .code yL_placeInLine cL_placeInLine 2 (some .int), .methodLink RL 35 yL_clockOf]
def wA3 : List Cond := [.methodLink RP 94 Lib.Math.max.name, .static Lib.Math.max.name, .code Lib.Math.max.name Lib.Math.max.code 2 (some .int), .methodLink RP 99 yL_isErase, .instanceMethod yL_isErase, .selects RL yL_isErase yL_isErase, .code yL_isErase cL_isErase 2 (some .boolean), .methodLink RP 68 yP_rewriteText, .instanceMethod yP_rewriteText, .code yP_rewriteText cP_rewriteText 3 none, .methodLink RP 71 yP_hasApplied, .instanceMethod yP_hasApplied, .selects RP yP_hasApplied yP_hasApplied, .code yP_hasApplied cP_hasApplied 2 (some .boolean), .methodLink "TombstoneTextLaw" 18 yT_erase, .instanceMethod yT_erase, .selects RT yT_erase yT_erase, .code yT_erase cT_erase 4 (some .int), .methodLink RT 45 yP_elementAt, .instanceMethod yP_elementAt, .selects RP yP_elementAt yP_elementAt, .code yP_elementAt cP_elementAt 2 (some .int), .methodLink "TombstoneTextLaw" 23 yT_deliver, .instanceMethod yT_deliver, .selects RT yT_deliver yT_deliver, .code yT_deliver cT_deliver 3 (some .int), .methodLink RT 48 yL_isIssued, .instanceMethod yL_isIssued, .selects RL yL_isIssued yL_isIssued, .code yL_isIssued cL_isIssued 2 (some .boolean), .methodLink RT 51 yP_receive, .instanceMethod yP_receive, .selects RP yP_receive yP_receive, .code yP_receive cP_receive 2 none, .methodLink RT 55 yP_applyReady, .instanceMethod yP_applyReady, .selects RP yP_applyReady yP_applyReady, .code yP_applyReady cP_applyReady 3 (some .int), .methodLink RP 84 yP_isReady, .instanceMethod yP_isReady]
def wA4 : List Cond := [.code yP_isReady cP_isReady 4 (some .boolean), .methodLink "TombstoneTextLaw" 27 yT_sync, .instanceMethod yT_sync, .selects RT yT_sync yT_sync, .code yT_sync cT_sync 3 (some .int), .methodLink RT 59 yP_receiveAllOf, .instanceMethod yP_receiveAllOf, .selects RP yP_receiveAllOf yP_receiveAllOf, .code yP_receiveAllOf cP_receiveAllOf 3 none, .methodLink RP 81 yP_receive, .methodLink "TombstoneTextLaw" 31 yT_collect, .instanceMethod yT_collect, .selects RT yT_collect yT_collect, .code yT_collect cT_collect 2 (some .int), .methodLink RT 63 yP_dropErased, .instanceMethod yP_dropErased, .selects RP yP_dropErased yP_dropErased, .code yP_dropErased cP_dropErased 3 (some .int), .methodLink RP 114 yP_markWhatMayGo, .instanceMethod yP_markWhatMayGo, .code yP_markWhatMayGo cP_markWhatMayGo 2 none, .methodLink RP 117 yP_isSettled, .instanceMethod yP_isSettled, .selects RP yP_isSettled yP_isSettled, .code yP_isSettled cP_isSettled 5 (some .boolean), .methodLink RP 120 yP_holdsItsTarget, .instanceMethod yP_holdsItsTarget, .code yP_holdsItsTarget cP_holdsItsTarget 2 (some .boolean), .methodLink "TombstoneTextLaw" 36 yT_length, .instanceMethod yT_length, .selects RT yT_length yT_length, .code yT_length cT_length 2 (some .int), .methodLink "TombstoneTextLaw" 40 yT_at, .instanceMethod yT_at, .selects RT yT_at yT_at, .code yT_at cT_at 4 (some .int), .methodLink "TombstoneTextLaw" 44 yT_position, .instanceMethod yT_position, .selects RT yT_position yT_position, .code yT_position cT_position 4 (some .int)]
def wA5 : List Cond := [.methodLink RT 70 yP_positionOf, .instanceMethod yP_positionOf, .selects RP yP_positionOf yP_positionOf, .code yP_positionOf cP_positionOf 3 (some .int), .methodLink "TombstoneTextLaw" 48 yT_same, .instanceMethod yT_same, .selects RT yT_same yT_same, .code yT_same cT_same 3 (some .boolean), .methodLink RT 73 yP_readsLike, .instanceMethod yP_readsLike, .selects RP yP_readsLike yP_readsLike, .code yP_readsLike cP_readsLike 3 (some .boolean), .methodLink "TombstoneTextLaw" 53 yT_operations, .instanceMethod yT_operations, .selects RT yT_operations yT_operations, .code yT_operations cT_operations 1 (some .int), .methodLink "TombstoneTextLaw" 58 yT_stamp, .instanceMethod yT_stamp, .selects RT yT_stamp yT_stamp, .code yT_stamp cT_stamp 2 (some .int), .methodLink "TombstoneTextLaw" 62 yT_known, .instanceMethod yT_known, .selects RT yT_known yT_known, .code yT_known cT_known 4 (some .int), .methodLink "TombstoneTextLaw" 67 yT_stable, .instanceMethod yT_stable, .selects RT yT_stable yT_stable, .code yT_stable cT_stable 3 (some .boolean), .methodLink RT 91 yP_isSettled, .methodLink "TombstoneTextLaw" 71 yT_kept, .instanceMethod yT_kept, .selects RT yT_kept yT_kept, .code yT_kept cT_kept 2 (some .int), .methodLink "TombstoneTextLaw" 75 yT_waiting, .instanceMethod yT_waiting, .selects RT yT_waiting yT_waiting, .code yT_waiting cT_waiting 2 (some .int), .classLink "TombstoneTextLaw" 10 RM, .instantiable RM 13, .methodLink "TombstoneTextLaw" 12 yM_init]
def wA6 : List Cond := [.instanceMethod yM_init, .code yM_init cM_init 1 none, .methodLink RM 1 objectInit, .fieldLink RM 44 "TombstoneTextModel" "issued" "I", .fieldLink RM 7 "TombstoneTextModel" "by" "[I", .fieldLink RM 13 "TombstoneTextModel" "line" "[I", .fieldLink RM 16 "TombstoneTextModel" "stamp" "[I", .fieldLink RM 19 "TombstoneTextModel" "letter" "[I", .fieldLink RM 22 "TombstoneTextModel" "other" "[I", .fieldLink RM 25 "TombstoneTextModel" "clock" "[I", .fieldLink RM 28 "TombstoneTextModel" "applied" "[Z", .fieldLink RM 32 "TombstoneTextModel" "waits" "[Z", .fieldLink RM 35 "TombstoneTextModel" "gone" "[Z", .fieldLink RM 59 "TombstoneTextModel" "length" "I", .fieldLink RM 38 "TombstoneTextModel" "text" "[I", .fieldLink RM 41 "TombstoneTextModel" "spare" "[I", .lays RM "TombstoneTextModel" "issued" "I", .laysFinal RM "TombstoneTextModel" "by" "[I", .laysFinal RM "TombstoneTextModel" "line" "[I", .laysFinal RM "TombstoneTextModel" "stamp" "[I", .laysFinal RM "TombstoneTextModel" "letter" "[I", .laysFinal RM "TombstoneTextModel" "other" "[I", .laysFinal RM "TombstoneTextModel" "clock" "[I", .laysFinal RM "TombstoneTextModel" "applied" "[Z", .laysFinal RM "TombstoneTextModel" "waits" "[Z", .laysFinal RM "TombstoneTextModel" "gone" "[Z", .lays RM "TombstoneTextModel" "length" "I", .laysFinal RM "TombstoneTextModel" "text" "[I", .laysFinal RM "TombstoneTextModel" "spare" "[I", .methodLink "TombstoneTextLaw" 17 yM_insert, .instanceMethod yM_insert, .selects RM yM_insert yM_insert, .code yM_insert cM_insert 4 (some .int), .methodLink RM 72 yM_isReplica, .static yM_isReplica, .code yM_isReplica cM_isReplica 1 (some .boolean), .methodLink RM 76 yM_walk, .instanceMethod yM_walk, .code yM_walk cM_walk 3 none, .methodLink RM 62 yM_next]
def wA7 : List Cond := [.instanceMethod yM_next, .code yM_next cM_next 5 (some .int), .methodLink RM 55 yM_first, .instanceMethod yM_first, .code yM_first cM_first 7 (some .int), .methodLink RM 48 yM_has, .instanceMethod yM_has, .code yM_has cM_has 3 (some .boolean), .methodLink RM 52 yM_sooner, .instanceMethod yM_sooner, .code yM_sooner cM_sooner 3 (some .boolean), .methodLink RM 66 yM_erased, .instanceMethod yM_erased, .code yM_erased cM_erased 5 (some .boolean), .methodLink RM 80 yM_issue, .instanceMethod yM_issue, .code yM_issue cM_issue 7 (some .int), .methodLink RM 69 yM_count, .instanceMethod yM_count, .code yM_count cM_count 5 (some .int), .methodLink "TombstoneTextLaw" 22 yM_erase, .instanceMethod yM_erase, .selects RM yM_erase yM_erase, .code yM_erase cM_erase 3 (some .int), .methodLink "TombstoneTextLaw" 26 yM_deliver, .instanceMethod yM_deliver, .selects RM yM_deliver yM_deliver, .code yM_deliver cM_deliver 6 (some .int), .methodLink RM 83 yM_isOperation, .instanceMethod yM_isOperation, .code yM_isOperation cM_isOperation 2 (some .boolean), .methodLink RM 86 yM_ready, .instanceMethod yM_ready, .code yM_ready cM_ready 5 (some .boolean), .methodLink "TombstoneTextLaw" 30 yM_sync, .instanceMethod yM_sync, .selects RM yM_sync yM_sync, .code yM_sync cM_sync 5 (some .int), .methodLink RM 89 yM_deliver, .methodLink "TombstoneTextLaw" 66 yM_known]
def wA8 : List Cond := [.instanceMethod yM_known, .selects RM yM_known yM_known, .code yM_known cM_known 7 (some .int), .methodLink "TombstoneTextLaw" 70 yM_stable, .instanceMethod yM_stable, .selects RM yM_stable yM_stable, .code yM_stable cM_stable 5 (some .boolean), .methodLink RM 92 yM_known, .methodLink "TombstoneTextLaw" 35 yM_collect, .instanceMethod yM_collect, .selects RM yM_collect yM_collect, .code yM_collect cM_collect 4 (some .int), .methodLink RM 98 yM_keeps, .instanceMethod yM_keeps, .code yM_keeps cM_keeps 3 (some .boolean), .methodLink RM 101 yM_idle, .instanceMethod yM_idle, .code yM_idle cM_idle 6 (some .boolean), .methodLink RM 95 yM_stable, .methodLink "TombstoneTextLaw" 39 yM_length, .instanceMethod yM_length, .selects RM yM_length yM_length, .code yM_length cM_length 2 (some .int), .methodLink "TombstoneTextLaw" 43 yM_at, .instanceMethod yM_at, .selects RM yM_at yM_at, .code yM_at cM_at 3 (some .int), .methodLink "TombstoneTextLaw" 47 yM_position, .instanceMethod yM_position, .selects RM yM_position yM_position, .code yM_position cM_position 5 (some .int), .methodLink "TombstoneTextLaw" 52 yM_same, .instanceMethod yM_same, .selects RM yM_same yM_same, .code yM_same cM_same 6 (some .boolean), .methodLink "TombstoneTextLaw" 57 yM_operations, .instanceMethod yM_operations, .selects RM yM_operations yM_operations, .code yM_operations cM_operations 1 (some .int), .methodLink "TombstoneTextLaw" 61 yM_stamp]
def wA9 : List Cond := [.instanceMethod yM_stamp, .selects RM yM_stamp yM_stamp, .code yM_stamp cM_stamp 2 (some .int), .methodLink "TombstoneTextLaw" 74 yM_kept, .instanceMethod yM_kept, .selects RM yM_kept yM_kept, .code yM_kept cM_kept 4 (some .int), .methodLink "TombstoneTextLaw" 78 yM_waiting, .instanceMethod yM_waiting, .selects RM yM_waiting yM_waiting, .code yM_waiting cM_waiting 4 (some .int), .selects RL yL_putInOrder yL_putInOrder, .selects RL yL_indexBehind yL_indexBehind, .selects RL yL_goesFirst yL_goesFirst, .selects RP yP_apply yP_apply, .selects RP yP_rewriteText yP_rewriteText, .selects RP yP_isReady yP_isReady, .selects RP yP_markWhatMayGo yP_markWhatMayGo, .selects RP yP_holdsItsTarget yP_holdsItsTarget, .selects RM yM_walk yM_walk, .selects RM yM_next yM_next, .selects RM yM_first yM_first, .selects RM yM_has yM_has, .selects RM yM_sooner yM_sooner, .selects RM yM_erased yM_erased, .selects RM yM_issue yM_issue, .selects RM yM_count yM_count, .selects RM yM_isOperation yM_isOperation, .selects RM yM_ready yM_ready, .selects RM yM_keeps yM_keeps, .selects RM yM_idle yM_idle]
def wAll : List Cond := wA0 ++ (wA1 ++ (wA2 ++ (wA3 ++ (wA4 ++ (wA5 ++ (wA6 ++ (wA7 ++ (wA8 ++ (wA9)))))))))
theorem in_wA0 {w : Cond} (h : w ∈ wA0) : w ∈ wAll := List.mem_append_left _ h
theorem in_wA1 {w : Cond} (h : w ∈ wA1) : w ∈ wAll := List.mem_append_right _ (List.mem_append_left _ h)
theorem in_wA2 {w : Cond} (h : w ∈ wA2) : w ∈ wAll := List.mem_append_right _ (List.mem_append_right _ (List.mem_append_left _ h))
theorem in_wA3 {w : Cond} (h : w ∈ wA3) : w ∈ wAll := List.mem_append_right _ (List.mem_append_right _ (List.mem_append_right _ (List.mem_append_left _ h)))
theorem in_wA4 {w : Cond} (h : w ∈ wA4) : w ∈ wAll := List.mem_append_right _ (List.mem_append_right _ (List.mem_append_right _ (List.mem_append_right _ (List.mem_append_left _ h))))
theorem in_wA5 {w : Cond} (h : w ∈ wA5) : w ∈ wAll := List.mem_append_right _ (List.mem_append_right _ (List.mem_append_right _ (List.mem_append_right _ (List.mem_append_right _ (List.mem_append_left _ h)))))
theorem in_wA6 {w : Cond} (h : w ∈ wA6) : w ∈ wAll := List.mem_append_right _ (List.mem_append_right _ (List.mem_append_right _ (List.mem_append_right _ (List.mem_append_right _ (List.mem_append_right _ (List.mem_append_left _ h))))))
theorem in_wA7 {w : Cond} (h : w ∈ wA7) : w ∈ wAll := List.mem_append_right _ (List.mem_append_right _ (List.mem_append_right _ (List.mem_append_right _ (List.mem_append_right _ (List.mem_append_right _ (List.mem_append_right _ (List.mem_append_left _ h)))))))
theorem in_wA8 {w : Cond} (h : w ∈ wA8) : w ∈ wAll := List.mem_append_right _ (List.mem_append_right _ (List.mem_append_right _ (List.mem_append_right _ (List.mem_append_right _ (List.mem_append_right _ (List.mem_append_right _ (List.mem_append_right _ (List.mem_append_left _ h))))))))
theorem in_wA9 {w : Cond} (h : w ∈ wA9) : w ∈ wAll := List.mem_append_right _ (List.mem_append_right _ (List.mem_append_right _ (List.mem_append_right _ (List.mem_append_right _ (List.mem_append_right _ (List.mem_append_right _ (List.mem_append_right _ (List.mem_append_right _ (h)))))))))
theorem wm_0 : (.initialized "TombstoneTextLaw" : Cond) ∈ wAll := in_wA0 (List.mem_of_getElem? (i := 0) rfl)
theorem wm_1 : (.initialized RT : Cond) ∈ wAll := in_wA0 (List.mem_of_getElem? (i := 1) rfl)
theorem wm_2 : (.initialized RL : Cond) ∈ wAll := in_wA0 (List.mem_of_getElem? (i := 2) rfl)
theorem wm_3 : (.initialized RP : Cond) ∈ wAll := in_wA0 (List.mem_of_getElem? (i := 3) rfl)
theorem wm_4 : (.initialized RM : Cond) ∈ wAll := in_wA0 (List.mem_of_getElem? (i := 4) rfl)
theorem wm_5 : (.initialized "java/lang/Math" : Cond) ∈ wAll := in_wA0 (List.mem_of_getElem? (i := 5) rfl)
theorem wm_6 : (.classLink "TombstoneTextLaw" 7 RT : Cond) ∈ wAll := in_wA0 (List.mem_of_getElem? (i := 6) rfl)
theorem wm_7 : (.instantiable RT 2 : Cond) ∈ wAll := in_wA0 (List.mem_of_getElem? (i := 7) rfl)
theorem wm_8 : (.methodLink "TombstoneTextLaw" 9 yT_init : Cond) ∈ wAll := in_wA0 (List.mem_of_getElem? (i := 8) rfl)
theorem wm_9 : (.instanceMethod yT_init : Cond) ∈ wAll := in_wA0 (List.mem_of_getElem? (i := 9) rfl)
theorem wm_10 : (.code yT_init cT_init 2 none : Cond) ∈ wAll := in_wA0 (List.mem_of_getElem? (i := 10) rfl)
theorem wm_11 : (.methodLink RT 1 objectInit : Cond) ∈ wAll := in_wA0 (List.mem_of_getElem? (i := 11) rfl)
theorem wm_12 : (.instanceMethod objectInit : Cond) ∈ wAll := in_wA0 (List.mem_of_getElem? (i := 12) rfl)
theorem wm_13 : (.code objectInit ⟨#[0xb1]⟩ 1 none : Cond) ∈ wAll := in_wA0 (List.mem_of_getElem? (i := 13) rfl)
theorem wm_14 : (.classLink RT 7 RL : Cond) ∈ wAll := in_wA0 (List.mem_of_getElem? (i := 14) rfl)
theorem wm_15 : (.instantiable RL 8 : Cond) ∈ wAll := in_wA0 (List.mem_of_getElem? (i := 15) rfl)
theorem wm_16 : (.instanceMethod yL_init : Cond) ∈ wAll := in_wA0 (List.mem_of_getElem? (i := 16) rfl)
theorem wm_17 : (.code yL_init cL_init 1 none : Cond) ∈ wAll := in_wA0 (List.mem_of_getElem? (i := 17) rfl)
theorem wm_18 : (.methodLink RL 3 objectInit : Cond) ∈ wAll := in_wA0 (List.mem_of_getElem? (i := 18) rfl)
theorem wm_19 : (.fieldLink RL 9 "TombstoneText$Log" "issuers" "[I" : Cond) ∈ wAll := in_wA0 (List.mem_of_getElem? (i := 19) rfl)
theorem wm_20 : (.fieldLink RL 15 "TombstoneText$Log" "stamps" "[I" : Cond) ∈ wAll := in_wA0 (List.mem_of_getElem? (i := 20) rfl)
theorem wm_21 : (.fieldLink RL 18 "TombstoneText$Log" "targets" "[I" : Cond) ∈ wAll := in_wA0 (List.mem_of_getElem? (i := 21) rfl)
theorem wm_22 : (.fieldLink RL 21 "TombstoneText$Log" "characters" "[C" : Cond) ∈ wAll := in_wA0 (List.mem_of_getElem? (i := 22) rfl)
theorem wm_23 : (.fieldLink RL 25 "TombstoneText$Log" "clocks" "[I" : Cond) ∈ wAll := in_wA0 (List.mem_of_getElem? (i := 23) rfl)
theorem wm_24 : (.fieldLink RL 28 "TombstoneText$Log" "order" "[I" : Cond) ∈ wAll := in_wA0 (List.mem_of_getElem? (i := 24) rfl)
theorem wm_25 : (.fieldLink RL 31 "TombstoneText$Log" "count" "I" : Cond) ∈ wAll := in_wA0 (List.mem_of_getElem? (i := 25) rfl)
theorem wm_26 : (.fieldLink RL 47 "TombstoneText$Log" "elements" "I" : Cond) ∈ wAll := in_wA0 (List.mem_of_getElem? (i := 26) rfl)
theorem wm_27 : (.laysFinal RL "TombstoneText$Log" "issuers" "[I" : Cond) ∈ wAll := in_wA0 (List.mem_of_getElem? (i := 27) rfl)
theorem wm_28 : (.laysFinal RL "TombstoneText$Log" "stamps" "[I" : Cond) ∈ wAll := in_wA0 (List.mem_of_getElem? (i := 28) rfl)
theorem wm_29 : (.laysFinal RL "TombstoneText$Log" "targets" "[I" : Cond) ∈ wAll := in_wA0 (List.mem_of_getElem? (i := 29) rfl)
theorem wm_30 : (.laysFinal RL "TombstoneText$Log" "characters" "[C" : Cond) ∈ wAll := in_wA0 (List.mem_of_getElem? (i := 30) rfl)
theorem wm_31 : (.laysFinal RL "TombstoneText$Log" "clocks" "[I" : Cond) ∈ wAll := in_wA0 (List.mem_of_getElem? (i := 31) rfl)
theorem wm_32 : (.laysFinal RL "TombstoneText$Log" "order" "[I" : Cond) ∈ wAll := in_wA0 (List.mem_of_getElem? (i := 32) rfl)
theorem wm_33 : (.lays RL "TombstoneText$Log" "count" "I" : Cond) ∈ wAll := in_wA0 (List.mem_of_getElem? (i := 33) rfl)
theorem wm_34 : (.lays RL "TombstoneText$Log" "elements" "I" : Cond) ∈ wAll := in_wA0 (List.mem_of_getElem? (i := 34) rfl)
theorem wm_35 : (.arrayClass .int : Cond) ∈ wAll := in_wA0 (List.mem_of_getElem? (i := 35) rfl)
theorem wm_36 : (.arrayClass .char : Cond) ∈ wAll := in_wA0 (List.mem_of_getElem? (i := 36) rfl)
theorem wm_37 : (.classLink RT 16 RP : Cond) ∈ wAll := in_wA0 (List.mem_of_getElem? (i := 37) rfl)
theorem wm_38 : (.instantiable RP 12 : Cond) ∈ wAll := in_wA0 (List.mem_of_getElem? (i := 38) rfl)
theorem wm_39 : (.methodLink RT 22 yP_init : Cond) ∈ wAll := in_wA0 (List.mem_of_getElem? (i := 39) rfl)
theorem wm_40 : (.instanceMethod yP_init : Cond) ∈ wAll := in_wA1 (List.mem_of_getElem? (i := 0) rfl)
theorem wm_41 : (.code yP_init cP_init 3 none : Cond) ∈ wAll := in_wA1 (List.mem_of_getElem? (i := 1) rfl)
theorem wm_42 : (.methodLink RP 3 objectInit : Cond) ∈ wAll := in_wA1 (List.mem_of_getElem? (i := 2) rfl)
theorem wm_43 : (.classLink RP 9 "[[I" : Cond) ∈ wAll := in_wA1 (List.mem_of_getElem? (i := 3) rfl)
theorem wm_44 : (.fieldLink RP 33 "TombstoneText$Replica" "self" "I" : Cond) ∈ wAll := in_wA1 (List.mem_of_getElem? (i := 4) rfl)
theorem wm_45 : (.fieldLink RP 37 "TombstoneText$Replica" "log" "LTombstoneText$Log;" : Cond) ∈ wAll := in_wA1 (List.mem_of_getElem? (i := 5) rfl)
theorem wm_46 : (.fieldLink RP 11 "TombstoneText$Replica" "seen" "[[I" : Cond) ∈ wAll := in_wA1 (List.mem_of_getElem? (i := 6) rfl)
theorem wm_47 : (.fieldLink RP 16 "TombstoneText$Replica" "waits" "[Z" : Cond) ∈ wAll := in_wA1 (List.mem_of_getElem? (i := 7) rfl)
theorem wm_48 : (.fieldLink RP 20 "TombstoneText$Replica" "erased" "[Z" : Cond) ∈ wAll := in_wA1 (List.mem_of_getElem? (i := 8) rfl)
theorem wm_49 : (.fieldLink RP 23 "TombstoneText$Replica" "isKept" "[Z" : Cond) ∈ wAll := in_wA1 (List.mem_of_getElem? (i := 9) rfl)
theorem wm_50 : (.fieldLink RP 26 "TombstoneText$Replica" "mayGo" "[Z" : Cond) ∈ wAll := in_wA1 (List.mem_of_getElem? (i := 10) rfl)
theorem wm_51 : (.fieldLink RP 29 "TombstoneText$Replica" "text" "[I" : Cond) ∈ wAll := in_wA1 (List.mem_of_getElem? (i := 11) rfl)
theorem wm_52 : (.fieldLink RP 41 "TombstoneText$Replica" "textLength" "I" : Cond) ∈ wAll := in_wA1 (List.mem_of_getElem? (i := 12) rfl)
theorem wm_53 : (.fieldLink RP 105 "TombstoneText$Replica" "keptCount" "I" : Cond) ∈ wAll := in_wA1 (List.mem_of_getElem? (i := 13) rfl)
theorem wm_54 : (.fieldLink RP 75 "TombstoneText$Replica" "waitingCount" "I" : Cond) ∈ wAll := in_wA1 (List.mem_of_getElem? (i := 14) rfl)
theorem wm_55 : (.fieldLink RP 57 "TombstoneText$Replica" "greatestStamp" "I" : Cond) ∈ wAll := in_wA1 (List.mem_of_getElem? (i := 15) rfl)
theorem wm_56 : (.laysFinal RP "TombstoneText$Replica" "self" "I" : Cond) ∈ wAll := in_wA1 (List.mem_of_getElem? (i := 16) rfl)
theorem wm_57 : (.laysFinal RP "TombstoneText$Replica" "log" "LTombstoneText$Log;" : Cond) ∈ wAll := in_wA1 (List.mem_of_getElem? (i := 17) rfl)
theorem wm_58 : (.laysFinal RP "TombstoneText$Replica" "seen" "[[I" : Cond) ∈ wAll := in_wA1 (List.mem_of_getElem? (i := 18) rfl)
theorem wm_59 : (.laysFinal RP "TombstoneText$Replica" "waits" "[Z" : Cond) ∈ wAll := in_wA1 (List.mem_of_getElem? (i := 19) rfl)
theorem wm_60 : (.laysFinal RP "TombstoneText$Replica" "erased" "[Z" : Cond) ∈ wAll := in_wA1 (List.mem_of_getElem? (i := 20) rfl)
theorem wm_61 : (.laysFinal RP "TombstoneText$Replica" "isKept" "[Z" : Cond) ∈ wAll := in_wA1 (List.mem_of_getElem? (i := 21) rfl)
theorem wm_62 : (.laysFinal RP "TombstoneText$Replica" "mayGo" "[Z" : Cond) ∈ wAll := in_wA1 (List.mem_of_getElem? (i := 22) rfl)
theorem wm_63 : (.laysFinal RP "TombstoneText$Replica" "text" "[I" : Cond) ∈ wAll := in_wA1 (List.mem_of_getElem? (i := 23) rfl)
theorem wm_64 : (.lays RP "TombstoneText$Replica" "textLength" "I" : Cond) ∈ wAll := in_wA1 (List.mem_of_getElem? (i := 24) rfl)
theorem wm_65 : (.lays RP "TombstoneText$Replica" "keptCount" "I" : Cond) ∈ wAll := in_wA1 (List.mem_of_getElem? (i := 25) rfl)
theorem wm_66 : (.lays RP "TombstoneText$Replica" "waitingCount" "I" : Cond) ∈ wAll := in_wA1 (List.mem_of_getElem? (i := 26) rfl)
theorem wm_67 : (.lays RP "TombstoneText$Replica" "greatestStamp" "I" : Cond) ∈ wAll := in_wA1 (List.mem_of_getElem? (i := 27) rfl)
theorem wm_68 : (.arrayClass .boolean : Cond) ∈ wAll := in_wA1 (List.mem_of_getElem? (i := 28) rfl)
theorem wm_69 : (.fieldLink RT 10 "TombstoneText" "log" "LTombstoneText$Log;" : Cond) ∈ wAll := in_wA1 (List.mem_of_getElem? (i := 29) rfl)
theorem wm_70 : (.fieldLink RT 18 "TombstoneText" "replicas" "[LTombstoneText$Replica;" : Cond) ∈ wAll := in_wA1 (List.mem_of_getElem? (i := 30) rfl)
theorem wm_71 : (.laysFinal RT "TombstoneText" "log" "LTombstoneText$Log;" : Cond) ∈ wAll := in_wA1 (List.mem_of_getElem? (i := 31) rfl)
theorem wm_72 : (.laysFinal RT "TombstoneText" "replicas" "[LTombstoneText$Replica;" : Cond) ∈ wAll := in_wA1 (List.mem_of_getElem? (i := 32) rfl)
theorem wm_73 : (.methodLink "TombstoneTextLaw" 13 yT_insert : Cond) ∈ wAll := in_wA1 (List.mem_of_getElem? (i := 33) rfl)
theorem wm_74 : (.instanceMethod yT_insert : Cond) ∈ wAll := in_wA1 (List.mem_of_getElem? (i := 34) rfl)
theorem wm_75 : (.selects RT yT_insert yT_insert : Cond) ∈ wAll := in_wA1 (List.mem_of_getElem? (i := 35) rfl)
theorem wm_76 : (.code yT_insert cT_insert 5 (some .int) : Cond) ∈ wAll := in_wA1 (List.mem_of_getElem? (i := 36) rfl)
theorem wm_77 : (.methodLink RT 25 yT_isReplica : Cond) ∈ wAll := in_wA1 (List.mem_of_getElem? (i := 37) rfl)
theorem wm_78 : (.static yT_isReplica : Cond) ∈ wAll := in_wA1 (List.mem_of_getElem? (i := 38) rfl)
theorem wm_79 : (.code yT_isReplica cT_isReplica 1 (some .boolean) : Cond) ∈ wAll := in_wA1 (List.mem_of_getElem? (i := 39) rfl)
theorem wm_80 : (.methodLink RT 33 yL_isFull : Cond) ∈ wAll := in_wA2 (List.mem_of_getElem? (i := 0) rfl)
theorem wm_81 : (.instanceMethod yL_isFull : Cond) ∈ wAll := in_wA2 (List.mem_of_getElem? (i := 1) rfl)
theorem wm_82 : (.selects RL yL_isFull yL_isFull : Cond) ∈ wAll := in_wA2 (List.mem_of_getElem? (i := 2) rfl)
theorem wm_83 : (.code yL_isFull cL_isFull 1 (some .boolean) : Cond) ∈ wAll := in_wA2 (List.mem_of_getElem? (i := 3) rfl)
theorem wm_84 : (.methodLink RT 37 yP_elementBefore : Cond) ∈ wAll := in_wA2 (List.mem_of_getElem? (i := 4) rfl)
theorem wm_85 : (.instanceMethod yP_elementBefore : Cond) ∈ wAll := in_wA2 (List.mem_of_getElem? (i := 5) rfl)
theorem wm_86 : (.selects RP yP_elementBefore yP_elementBefore : Cond) ∈ wAll := in_wA2 (List.mem_of_getElem? (i := 6) rfl)
theorem wm_87 : (.code yP_elementBefore cP_elementBefore 2 (some .int) : Cond) ∈ wAll := in_wA2 (List.mem_of_getElem? (i := 7) rfl)
theorem wm_88 : (.methodLink RT 41 yP_issue : Cond) ∈ wAll := in_wA2 (List.mem_of_getElem? (i := 8) rfl)
theorem wm_89 : (.instanceMethod yP_issue : Cond) ∈ wAll := in_wA2 (List.mem_of_getElem? (i := 9) rfl)
theorem wm_90 : (.selects RP yP_issue yP_issue : Cond) ∈ wAll := in_wA2 (List.mem_of_getElem? (i := 10) rfl)
theorem wm_91 : (.code yP_issue cP_issue 4 (some .int) : Cond) ∈ wAll := in_wA2 (List.mem_of_getElem? (i := 11) rfl)
theorem wm_92 : (.methodLink RP 60 yL_record : Cond) ∈ wAll := in_wA2 (List.mem_of_getElem? (i := 12) rfl)
theorem wm_93 : (.instanceMethod yL_record : Cond) ∈ wAll := in_wA2 (List.mem_of_getElem? (i := 13) rfl)
theorem wm_94 : (.selects RL yL_record yL_record : Cond) ∈ wAll := in_wA2 (List.mem_of_getElem? (i := 14) rfl)
theorem wm_95 : (.code yL_record cL_record 8 (some .int) : Cond) ∈ wAll := in_wA2 (List.mem_of_getElem? (i := 15) rfl)
theorem wm_96 : (.methodLink RL 39 yL_putInOrder : Cond) ∈ wAll := in_wA2 (List.mem_of_getElem? (i := 16) rfl)
theorem wm_97 : (.instanceMethod yL_putInOrder : Cond) ∈ wAll := in_wA2 (List.mem_of_getElem? (i := 17) rfl)
theorem wm_98 : (.code yL_putInOrder cL_putInOrder 4 none : Cond) ∈ wAll := in_wA2 (List.mem_of_getElem? (i := 18) rfl)
theorem wm_99 : (.methodLink RL 43 yL_indexBehind : Cond) ∈ wAll := in_wA2 (List.mem_of_getElem? (i := 19) rfl)
theorem wm_100 : (.instanceMethod yL_indexBehind : Cond) ∈ wAll := in_wA2 (List.mem_of_getElem? (i := 20) rfl)
theorem wm_101 : (.code yL_indexBehind cL_indexBehind 3 (some .int) : Cond) ∈ wAll := in_wA2 (List.mem_of_getElem? (i := 21) rfl)
theorem wm_102 : (.methodLink RL 54 Lib.Math.min.name : Cond) ∈ wAll := in_wA2 (List.mem_of_getElem? (i := 22) rfl)
theorem wm_103 : (.static Lib.Math.min.name : Cond) ∈ wAll := in_wA2 (List.mem_of_getElem? (i := 23) rfl)
theorem wm_104 : (.code Lib.Math.min.name Lib.Math.min.code 2 (some .int) : Cond) ∈ wAll := in_wA2 (List.mem_of_getElem? (i := 24) rfl)
theorem wm_105 : (.methodLink RL 50 yL_goesFirst : Cond) ∈ wAll := in_wA2 (List.mem_of_getElem? (i := 25) rfl)
theorem wm_106 : (.instanceMethod yL_goesFirst : Cond) ∈ wAll := in_wA2 (List.mem_of_getElem? (i := 26) rfl)
theorem wm_107 : (.code yL_goesFirst cL_goesFirst 3 (some .boolean) : Cond) ∈ wAll := in_wA2 (List.mem_of_getElem? (i := 27) rfl)
theorem wm_108 : (.methodLink RP 64 yP_apply : Cond) ∈ wAll := in_wA2 (List.mem_of_getElem? (i := 28) rfl)
theorem wm_109 : (.instanceMethod yP_apply : Cond) ∈ wAll := in_wA2 (List.mem_of_getElem? (i := 29) rfl)
theorem wm_110 : (.code yP_apply cP_apply 4 none : Cond) ∈ wAll := in_wA2 (List.mem_of_getElem? (i := 30) rfl)
theorem wm_111 : (.methodLink RP 87 yL_clockOf : Cond) ∈ wAll := in_wA2 (List.mem_of_getElem? (i := 31) rfl)
theorem wm_112 : (.instanceMethod yL_clockOf : Cond) ∈ wAll := in_wA2 (List.mem_of_getElem? (i := 32) rfl)
theorem wm_113 : (.selects RL yL_clockOf yL_clockOf : Cond) ∈ wAll := in_wA2 (List.mem_of_getElem? (i := 33) rfl)
theorem wm_114 : (.code yL_clockOf cL_clockOf 3 (some .int) : Cond) ∈ wAll := in_wA2 (List.mem_of_getElem? (i := 34) rfl)
theorem wm_115 : (.methodLink RP 50 yL_placeInLine : Cond) ∈ wAll := in_wA2 (List.mem_of_getElem? (i := 35) rfl)
theorem wm_116 : (.instanceMethod yL_placeInLine : Cond) ∈ wAll := in_wA2 (List.mem_of_getElem? (i := 36) rfl)
theorem wm_117 : (.selects RL yL_placeInLine yL_placeInLine : Cond) ∈ wAll := in_wA2 (List.mem_of_getElem? (i := 37) rfl)
theorem wm_118 : (.code yL_placeInLine cL_placeInLine 2 (some .int) : Cond) ∈ wAll := in_wA2 (List.mem_of_getElem? (i := 38) rfl)
theorem wm_119 : (.methodLink RL 35 yL_clockOf : Cond) ∈ wAll := in_wA2 (List.mem_of_getElem? (i := 39) rfl)
theorem wm_120 : (.methodLink RP 94 Lib.Math.max.name : Cond) ∈ wAll := in_wA3 (List.mem_of_getElem? (i := 0) rfl)
theorem wm_121 : (.static Lib.Math.max.name : Cond) ∈ wAll := in_wA3 (List.mem_of_getElem? (i := 1) rfl)
theorem wm_122 : (.code Lib.Math.max.name Lib.Math.max.code 2 (some .int) : Cond) ∈ wAll := in_wA3 (List.mem_of_getElem? (i := 2) rfl)
theorem wm_123 : (.methodLink RP 99 yL_isErase : Cond) ∈ wAll := in_wA3 (List.mem_of_getElem? (i := 3) rfl)
theorem wm_124 : (.instanceMethod yL_isErase : Cond) ∈ wAll := in_wA3 (List.mem_of_getElem? (i := 4) rfl)
theorem wm_125 : (.selects RL yL_isErase yL_isErase : Cond) ∈ wAll := in_wA3 (List.mem_of_getElem? (i := 5) rfl)
theorem wm_126 : (.code yL_isErase cL_isErase 2 (some .boolean) : Cond) ∈ wAll := in_wA3 (List.mem_of_getElem? (i := 6) rfl)
theorem wm_127 : (.methodLink RP 68 yP_rewriteText : Cond) ∈ wAll := in_wA3 (List.mem_of_getElem? (i := 7) rfl)
theorem wm_128 : (.instanceMethod yP_rewriteText : Cond) ∈ wAll := in_wA3 (List.mem_of_getElem? (i := 8) rfl)
theorem wm_129 : (.code yP_rewriteText cP_rewriteText 3 none : Cond) ∈ wAll := in_wA3 (List.mem_of_getElem? (i := 9) rfl)
theorem wm_130 : (.methodLink RP 71 yP_hasApplied : Cond) ∈ wAll := in_wA3 (List.mem_of_getElem? (i := 10) rfl)
theorem wm_131 : (.instanceMethod yP_hasApplied : Cond) ∈ wAll := in_wA3 (List.mem_of_getElem? (i := 11) rfl)
theorem wm_132 : (.selects RP yP_hasApplied yP_hasApplied : Cond) ∈ wAll := in_wA3 (List.mem_of_getElem? (i := 12) rfl)
theorem wm_133 : (.code yP_hasApplied cP_hasApplied 2 (some .boolean) : Cond) ∈ wAll := in_wA3 (List.mem_of_getElem? (i := 13) rfl)
theorem wm_134 : (.methodLink "TombstoneTextLaw" 18 yT_erase : Cond) ∈ wAll := in_wA3 (List.mem_of_getElem? (i := 14) rfl)
theorem wm_135 : (.instanceMethod yT_erase : Cond) ∈ wAll := in_wA3 (List.mem_of_getElem? (i := 15) rfl)
theorem wm_136 : (.selects RT yT_erase yT_erase : Cond) ∈ wAll := in_wA3 (List.mem_of_getElem? (i := 16) rfl)
theorem wm_137 : (.code yT_erase cT_erase 4 (some .int) : Cond) ∈ wAll := in_wA3 (List.mem_of_getElem? (i := 17) rfl)
theorem wm_138 : (.methodLink RT 45 yP_elementAt : Cond) ∈ wAll := in_wA3 (List.mem_of_getElem? (i := 18) rfl)
theorem wm_139 : (.instanceMethod yP_elementAt : Cond) ∈ wAll := in_wA3 (List.mem_of_getElem? (i := 19) rfl)
theorem wm_140 : (.selects RP yP_elementAt yP_elementAt : Cond) ∈ wAll := in_wA3 (List.mem_of_getElem? (i := 20) rfl)
theorem wm_141 : (.code yP_elementAt cP_elementAt 2 (some .int) : Cond) ∈ wAll := in_wA3 (List.mem_of_getElem? (i := 21) rfl)
theorem wm_142 : (.methodLink "TombstoneTextLaw" 23 yT_deliver : Cond) ∈ wAll := in_wA3 (List.mem_of_getElem? (i := 22) rfl)
theorem wm_143 : (.instanceMethod yT_deliver : Cond) ∈ wAll := in_wA3 (List.mem_of_getElem? (i := 23) rfl)
theorem wm_144 : (.selects RT yT_deliver yT_deliver : Cond) ∈ wAll := in_wA3 (List.mem_of_getElem? (i := 24) rfl)
theorem wm_145 : (.code yT_deliver cT_deliver 3 (some .int) : Cond) ∈ wAll := in_wA3 (List.mem_of_getElem? (i := 25) rfl)
theorem wm_146 : (.methodLink RT 48 yL_isIssued : Cond) ∈ wAll := in_wA3 (List.mem_of_getElem? (i := 26) rfl)
theorem wm_147 : (.instanceMethod yL_isIssued : Cond) ∈ wAll := in_wA3 (List.mem_of_getElem? (i := 27) rfl)
theorem wm_148 : (.selects RL yL_isIssued yL_isIssued : Cond) ∈ wAll := in_wA3 (List.mem_of_getElem? (i := 28) rfl)
theorem wm_149 : (.code yL_isIssued cL_isIssued 2 (some .boolean) : Cond) ∈ wAll := in_wA3 (List.mem_of_getElem? (i := 29) rfl)
theorem wm_150 : (.methodLink RT 51 yP_receive : Cond) ∈ wAll := in_wA3 (List.mem_of_getElem? (i := 30) rfl)
theorem wm_151 : (.instanceMethod yP_receive : Cond) ∈ wAll := in_wA3 (List.mem_of_getElem? (i := 31) rfl)
theorem wm_152 : (.selects RP yP_receive yP_receive : Cond) ∈ wAll := in_wA3 (List.mem_of_getElem? (i := 32) rfl)
theorem wm_153 : (.code yP_receive cP_receive 2 none : Cond) ∈ wAll := in_wA3 (List.mem_of_getElem? (i := 33) rfl)
theorem wm_154 : (.methodLink RT 55 yP_applyReady : Cond) ∈ wAll := in_wA3 (List.mem_of_getElem? (i := 34) rfl)
theorem wm_155 : (.instanceMethod yP_applyReady : Cond) ∈ wAll := in_wA3 (List.mem_of_getElem? (i := 35) rfl)
theorem wm_156 : (.selects RP yP_applyReady yP_applyReady : Cond) ∈ wAll := in_wA3 (List.mem_of_getElem? (i := 36) rfl)
theorem wm_157 : (.code yP_applyReady cP_applyReady 3 (some .int) : Cond) ∈ wAll := in_wA3 (List.mem_of_getElem? (i := 37) rfl)
theorem wm_158 : (.methodLink RP 84 yP_isReady : Cond) ∈ wAll := in_wA3 (List.mem_of_getElem? (i := 38) rfl)
theorem wm_159 : (.instanceMethod yP_isReady : Cond) ∈ wAll := in_wA3 (List.mem_of_getElem? (i := 39) rfl)
theorem wm_160 : (.code yP_isReady cP_isReady 4 (some .boolean) : Cond) ∈ wAll := in_wA4 (List.mem_of_getElem? (i := 0) rfl)
theorem wm_161 : (.methodLink "TombstoneTextLaw" 27 yT_sync : Cond) ∈ wAll := in_wA4 (List.mem_of_getElem? (i := 1) rfl)
theorem wm_162 : (.instanceMethod yT_sync : Cond) ∈ wAll := in_wA4 (List.mem_of_getElem? (i := 2) rfl)
theorem wm_163 : (.selects RT yT_sync yT_sync : Cond) ∈ wAll := in_wA4 (List.mem_of_getElem? (i := 3) rfl)
theorem wm_164 : (.code yT_sync cT_sync 3 (some .int) : Cond) ∈ wAll := in_wA4 (List.mem_of_getElem? (i := 4) rfl)
theorem wm_165 : (.methodLink RT 59 yP_receiveAllOf : Cond) ∈ wAll := in_wA4 (List.mem_of_getElem? (i := 5) rfl)
theorem wm_166 : (.instanceMethod yP_receiveAllOf : Cond) ∈ wAll := in_wA4 (List.mem_of_getElem? (i := 6) rfl)
theorem wm_167 : (.selects RP yP_receiveAllOf yP_receiveAllOf : Cond) ∈ wAll := in_wA4 (List.mem_of_getElem? (i := 7) rfl)
theorem wm_168 : (.code yP_receiveAllOf cP_receiveAllOf 3 none : Cond) ∈ wAll := in_wA4 (List.mem_of_getElem? (i := 8) rfl)
theorem wm_169 : (.methodLink RP 81 yP_receive : Cond) ∈ wAll := in_wA4 (List.mem_of_getElem? (i := 9) rfl)
theorem wm_170 : (.methodLink "TombstoneTextLaw" 31 yT_collect : Cond) ∈ wAll := in_wA4 (List.mem_of_getElem? (i := 10) rfl)
theorem wm_171 : (.instanceMethod yT_collect : Cond) ∈ wAll := in_wA4 (List.mem_of_getElem? (i := 11) rfl)
theorem wm_172 : (.selects RT yT_collect yT_collect : Cond) ∈ wAll := in_wA4 (List.mem_of_getElem? (i := 12) rfl)
theorem wm_173 : (.code yT_collect cT_collect 2 (some .int) : Cond) ∈ wAll := in_wA4 (List.mem_of_getElem? (i := 13) rfl)
theorem wm_174 : (.methodLink RT 63 yP_dropErased : Cond) ∈ wAll := in_wA4 (List.mem_of_getElem? (i := 14) rfl)
theorem wm_175 : (.instanceMethod yP_dropErased : Cond) ∈ wAll := in_wA4 (List.mem_of_getElem? (i := 15) rfl)
theorem wm_176 : (.selects RP yP_dropErased yP_dropErased : Cond) ∈ wAll := in_wA4 (List.mem_of_getElem? (i := 16) rfl)
theorem wm_177 : (.code yP_dropErased cP_dropErased 3 (some .int) : Cond) ∈ wAll := in_wA4 (List.mem_of_getElem? (i := 17) rfl)
theorem wm_178 : (.methodLink RP 114 yP_markWhatMayGo : Cond) ∈ wAll := in_wA4 (List.mem_of_getElem? (i := 18) rfl)
theorem wm_179 : (.instanceMethod yP_markWhatMayGo : Cond) ∈ wAll := in_wA4 (List.mem_of_getElem? (i := 19) rfl)
theorem wm_180 : (.code yP_markWhatMayGo cP_markWhatMayGo 2 none : Cond) ∈ wAll := in_wA4 (List.mem_of_getElem? (i := 20) rfl)
theorem wm_181 : (.methodLink RP 117 yP_isSettled : Cond) ∈ wAll := in_wA4 (List.mem_of_getElem? (i := 21) rfl)
theorem wm_182 : (.instanceMethod yP_isSettled : Cond) ∈ wAll := in_wA4 (List.mem_of_getElem? (i := 22) rfl)
theorem wm_183 : (.selects RP yP_isSettled yP_isSettled : Cond) ∈ wAll := in_wA4 (List.mem_of_getElem? (i := 23) rfl)
theorem wm_184 : (.code yP_isSettled cP_isSettled 5 (some .boolean) : Cond) ∈ wAll := in_wA4 (List.mem_of_getElem? (i := 24) rfl)
theorem wm_185 : (.methodLink RP 120 yP_holdsItsTarget : Cond) ∈ wAll := in_wA4 (List.mem_of_getElem? (i := 25) rfl)
theorem wm_186 : (.instanceMethod yP_holdsItsTarget : Cond) ∈ wAll := in_wA4 (List.mem_of_getElem? (i := 26) rfl)
theorem wm_187 : (.code yP_holdsItsTarget cP_holdsItsTarget 2 (some .boolean) : Cond) ∈ wAll := in_wA4 (List.mem_of_getElem? (i := 27) rfl)
theorem wm_188 : (.methodLink "TombstoneTextLaw" 36 yT_length : Cond) ∈ wAll := in_wA4 (List.mem_of_getElem? (i := 28) rfl)
theorem wm_189 : (.instanceMethod yT_length : Cond) ∈ wAll := in_wA4 (List.mem_of_getElem? (i := 29) rfl)
theorem wm_190 : (.selects RT yT_length yT_length : Cond) ∈ wAll := in_wA4 (List.mem_of_getElem? (i := 30) rfl)
theorem wm_191 : (.code yT_length cT_length 2 (some .int) : Cond) ∈ wAll := in_wA4 (List.mem_of_getElem? (i := 31) rfl)
theorem wm_192 : (.methodLink "TombstoneTextLaw" 40 yT_at : Cond) ∈ wAll := in_wA4 (List.mem_of_getElem? (i := 32) rfl)
theorem wm_193 : (.instanceMethod yT_at : Cond) ∈ wAll := in_wA4 (List.mem_of_getElem? (i := 33) rfl)
theorem wm_194 : (.selects RT yT_at yT_at : Cond) ∈ wAll := in_wA4 (List.mem_of_getElem? (i := 34) rfl)
theorem wm_195 : (.code yT_at cT_at 4 (some .int) : Cond) ∈ wAll := in_wA4 (List.mem_of_getElem? (i := 35) rfl)
theorem wm_196 : (.methodLink "TombstoneTextLaw" 44 yT_position : Cond) ∈ wAll := in_wA4 (List.mem_of_getElem? (i := 36) rfl)
theorem wm_197 : (.instanceMethod yT_position : Cond) ∈ wAll := in_wA4 (List.mem_of_getElem? (i := 37) rfl)
theorem wm_198 : (.selects RT yT_position yT_position : Cond) ∈ wAll := in_wA4 (List.mem_of_getElem? (i := 38) rfl)
theorem wm_199 : (.code yT_position cT_position 4 (some .int) : Cond) ∈ wAll := in_wA4 (List.mem_of_getElem? (i := 39) rfl)
theorem wm_200 : (.methodLink RT 70 yP_positionOf : Cond) ∈ wAll := in_wA5 (List.mem_of_getElem? (i := 0) rfl)
theorem wm_201 : (.instanceMethod yP_positionOf : Cond) ∈ wAll := in_wA5 (List.mem_of_getElem? (i := 1) rfl)
theorem wm_202 : (.selects RP yP_positionOf yP_positionOf : Cond) ∈ wAll := in_wA5 (List.mem_of_getElem? (i := 2) rfl)
theorem wm_203 : (.code yP_positionOf cP_positionOf 3 (some .int) : Cond) ∈ wAll := in_wA5 (List.mem_of_getElem? (i := 3) rfl)
theorem wm_204 : (.methodLink "TombstoneTextLaw" 48 yT_same : Cond) ∈ wAll := in_wA5 (List.mem_of_getElem? (i := 4) rfl)
theorem wm_205 : (.instanceMethod yT_same : Cond) ∈ wAll := in_wA5 (List.mem_of_getElem? (i := 5) rfl)
theorem wm_206 : (.selects RT yT_same yT_same : Cond) ∈ wAll := in_wA5 (List.mem_of_getElem? (i := 6) rfl)
theorem wm_207 : (.code yT_same cT_same 3 (some .boolean) : Cond) ∈ wAll := in_wA5 (List.mem_of_getElem? (i := 7) rfl)
theorem wm_208 : (.methodLink RT 73 yP_readsLike : Cond) ∈ wAll := in_wA5 (List.mem_of_getElem? (i := 8) rfl)
theorem wm_209 : (.instanceMethod yP_readsLike : Cond) ∈ wAll := in_wA5 (List.mem_of_getElem? (i := 9) rfl)
theorem wm_210 : (.selects RP yP_readsLike yP_readsLike : Cond) ∈ wAll := in_wA5 (List.mem_of_getElem? (i := 10) rfl)
theorem wm_211 : (.code yP_readsLike cP_readsLike 3 (some .boolean) : Cond) ∈ wAll := in_wA5 (List.mem_of_getElem? (i := 11) rfl)
theorem wm_212 : (.methodLink "TombstoneTextLaw" 53 yT_operations : Cond) ∈ wAll := in_wA5 (List.mem_of_getElem? (i := 12) rfl)
theorem wm_213 : (.instanceMethod yT_operations : Cond) ∈ wAll := in_wA5 (List.mem_of_getElem? (i := 13) rfl)
theorem wm_214 : (.selects RT yT_operations yT_operations : Cond) ∈ wAll := in_wA5 (List.mem_of_getElem? (i := 14) rfl)
theorem wm_215 : (.code yT_operations cT_operations 1 (some .int) : Cond) ∈ wAll := in_wA5 (List.mem_of_getElem? (i := 15) rfl)
theorem wm_216 : (.methodLink "TombstoneTextLaw" 58 yT_stamp : Cond) ∈ wAll := in_wA5 (List.mem_of_getElem? (i := 16) rfl)
theorem wm_217 : (.instanceMethod yT_stamp : Cond) ∈ wAll := in_wA5 (List.mem_of_getElem? (i := 17) rfl)
theorem wm_218 : (.selects RT yT_stamp yT_stamp : Cond) ∈ wAll := in_wA5 (List.mem_of_getElem? (i := 18) rfl)
theorem wm_219 : (.code yT_stamp cT_stamp 2 (some .int) : Cond) ∈ wAll := in_wA5 (List.mem_of_getElem? (i := 19) rfl)
theorem wm_220 : (.methodLink "TombstoneTextLaw" 62 yT_known : Cond) ∈ wAll := in_wA5 (List.mem_of_getElem? (i := 20) rfl)
theorem wm_221 : (.instanceMethod yT_known : Cond) ∈ wAll := in_wA5 (List.mem_of_getElem? (i := 21) rfl)
theorem wm_222 : (.selects RT yT_known yT_known : Cond) ∈ wAll := in_wA5 (List.mem_of_getElem? (i := 22) rfl)
theorem wm_223 : (.code yT_known cT_known 4 (some .int) : Cond) ∈ wAll := in_wA5 (List.mem_of_getElem? (i := 23) rfl)
theorem wm_224 : (.methodLink "TombstoneTextLaw" 67 yT_stable : Cond) ∈ wAll := in_wA5 (List.mem_of_getElem? (i := 24) rfl)
theorem wm_225 : (.instanceMethod yT_stable : Cond) ∈ wAll := in_wA5 (List.mem_of_getElem? (i := 25) rfl)
theorem wm_226 : (.selects RT yT_stable yT_stable : Cond) ∈ wAll := in_wA5 (List.mem_of_getElem? (i := 26) rfl)
theorem wm_227 : (.code yT_stable cT_stable 3 (some .boolean) : Cond) ∈ wAll := in_wA5 (List.mem_of_getElem? (i := 27) rfl)
theorem wm_228 : (.methodLink RT 91 yP_isSettled : Cond) ∈ wAll := in_wA5 (List.mem_of_getElem? (i := 28) rfl)
theorem wm_229 : (.methodLink "TombstoneTextLaw" 71 yT_kept : Cond) ∈ wAll := in_wA5 (List.mem_of_getElem? (i := 29) rfl)
theorem wm_230 : (.instanceMethod yT_kept : Cond) ∈ wAll := in_wA5 (List.mem_of_getElem? (i := 30) rfl)
theorem wm_231 : (.selects RT yT_kept yT_kept : Cond) ∈ wAll := in_wA5 (List.mem_of_getElem? (i := 31) rfl)
theorem wm_232 : (.code yT_kept cT_kept 2 (some .int) : Cond) ∈ wAll := in_wA5 (List.mem_of_getElem? (i := 32) rfl)
theorem wm_233 : (.methodLink "TombstoneTextLaw" 75 yT_waiting : Cond) ∈ wAll := in_wA5 (List.mem_of_getElem? (i := 33) rfl)
theorem wm_234 : (.instanceMethod yT_waiting : Cond) ∈ wAll := in_wA5 (List.mem_of_getElem? (i := 34) rfl)
theorem wm_235 : (.selects RT yT_waiting yT_waiting : Cond) ∈ wAll := in_wA5 (List.mem_of_getElem? (i := 35) rfl)
theorem wm_236 : (.code yT_waiting cT_waiting 2 (some .int) : Cond) ∈ wAll := in_wA5 (List.mem_of_getElem? (i := 36) rfl)
theorem wm_237 : (.classLink "TombstoneTextLaw" 10 RM : Cond) ∈ wAll := in_wA5 (List.mem_of_getElem? (i := 37) rfl)
theorem wm_238 : (.instantiable RM 13 : Cond) ∈ wAll := in_wA5 (List.mem_of_getElem? (i := 38) rfl)
theorem wm_239 : (.methodLink "TombstoneTextLaw" 12 yM_init : Cond) ∈ wAll := in_wA5 (List.mem_of_getElem? (i := 39) rfl)
theorem wm_240 : (.instanceMethod yM_init : Cond) ∈ wAll := in_wA6 (List.mem_of_getElem? (i := 0) rfl)
theorem wm_241 : (.code yM_init cM_init 1 none : Cond) ∈ wAll := in_wA6 (List.mem_of_getElem? (i := 1) rfl)
theorem wm_242 : (.methodLink RM 1 objectInit : Cond) ∈ wAll := in_wA6 (List.mem_of_getElem? (i := 2) rfl)
theorem wm_243 : (.fieldLink RM 44 "TombstoneTextModel" "issued" "I" : Cond) ∈ wAll := in_wA6 (List.mem_of_getElem? (i := 3) rfl)
theorem wm_244 : (.fieldLink RM 7 "TombstoneTextModel" "by" "[I" : Cond) ∈ wAll := in_wA6 (List.mem_of_getElem? (i := 4) rfl)
theorem wm_245 : (.fieldLink RM 13 "TombstoneTextModel" "line" "[I" : Cond) ∈ wAll := in_wA6 (List.mem_of_getElem? (i := 5) rfl)
theorem wm_246 : (.fieldLink RM 16 "TombstoneTextModel" "stamp" "[I" : Cond) ∈ wAll := in_wA6 (List.mem_of_getElem? (i := 6) rfl)
theorem wm_247 : (.fieldLink RM 19 "TombstoneTextModel" "letter" "[I" : Cond) ∈ wAll := in_wA6 (List.mem_of_getElem? (i := 7) rfl)
theorem wm_248 : (.fieldLink RM 22 "TombstoneTextModel" "other" "[I" : Cond) ∈ wAll := in_wA6 (List.mem_of_getElem? (i := 8) rfl)
theorem wm_249 : (.fieldLink RM 25 "TombstoneTextModel" "clock" "[I" : Cond) ∈ wAll := in_wA6 (List.mem_of_getElem? (i := 9) rfl)
theorem wm_250 : (.fieldLink RM 28 "TombstoneTextModel" "applied" "[Z" : Cond) ∈ wAll := in_wA6 (List.mem_of_getElem? (i := 10) rfl)
theorem wm_251 : (.fieldLink RM 32 "TombstoneTextModel" "waits" "[Z" : Cond) ∈ wAll := in_wA6 (List.mem_of_getElem? (i := 11) rfl)
theorem wm_252 : (.fieldLink RM 35 "TombstoneTextModel" "gone" "[Z" : Cond) ∈ wAll := in_wA6 (List.mem_of_getElem? (i := 12) rfl)
theorem wm_253 : (.fieldLink RM 59 "TombstoneTextModel" "length" "I" : Cond) ∈ wAll := in_wA6 (List.mem_of_getElem? (i := 13) rfl)
theorem wm_254 : (.fieldLink RM 38 "TombstoneTextModel" "text" "[I" : Cond) ∈ wAll := in_wA6 (List.mem_of_getElem? (i := 14) rfl)
theorem wm_255 : (.fieldLink RM 41 "TombstoneTextModel" "spare" "[I" : Cond) ∈ wAll := in_wA6 (List.mem_of_getElem? (i := 15) rfl)
theorem wm_256 : (.lays RM "TombstoneTextModel" "issued" "I" : Cond) ∈ wAll := in_wA6 (List.mem_of_getElem? (i := 16) rfl)
theorem wm_257 : (.laysFinal RM "TombstoneTextModel" "by" "[I" : Cond) ∈ wAll := in_wA6 (List.mem_of_getElem? (i := 17) rfl)
theorem wm_258 : (.laysFinal RM "TombstoneTextModel" "line" "[I" : Cond) ∈ wAll := in_wA6 (List.mem_of_getElem? (i := 18) rfl)
theorem wm_259 : (.laysFinal RM "TombstoneTextModel" "stamp" "[I" : Cond) ∈ wAll := in_wA6 (List.mem_of_getElem? (i := 19) rfl)
theorem wm_260 : (.laysFinal RM "TombstoneTextModel" "letter" "[I" : Cond) ∈ wAll := in_wA6 (List.mem_of_getElem? (i := 20) rfl)
theorem wm_261 : (.laysFinal RM "TombstoneTextModel" "other" "[I" : Cond) ∈ wAll := in_wA6 (List.mem_of_getElem? (i := 21) rfl)
theorem wm_262 : (.laysFinal RM "TombstoneTextModel" "clock" "[I" : Cond) ∈ wAll := in_wA6 (List.mem_of_getElem? (i := 22) rfl)
theorem wm_263 : (.laysFinal RM "TombstoneTextModel" "applied" "[Z" : Cond) ∈ wAll := in_wA6 (List.mem_of_getElem? (i := 23) rfl)
theorem wm_264 : (.laysFinal RM "TombstoneTextModel" "waits" "[Z" : Cond) ∈ wAll := in_wA6 (List.mem_of_getElem? (i := 24) rfl)
theorem wm_265 : (.laysFinal RM "TombstoneTextModel" "gone" "[Z" : Cond) ∈ wAll := in_wA6 (List.mem_of_getElem? (i := 25) rfl)
theorem wm_266 : (.lays RM "TombstoneTextModel" "length" "I" : Cond) ∈ wAll := in_wA6 (List.mem_of_getElem? (i := 26) rfl)
theorem wm_267 : (.laysFinal RM "TombstoneTextModel" "text" "[I" : Cond) ∈ wAll := in_wA6 (List.mem_of_getElem? (i := 27) rfl)
theorem wm_268 : (.laysFinal RM "TombstoneTextModel" "spare" "[I" : Cond) ∈ wAll := in_wA6 (List.mem_of_getElem? (i := 28) rfl)
theorem wm_269 : (.methodLink "TombstoneTextLaw" 17 yM_insert : Cond) ∈ wAll := in_wA6 (List.mem_of_getElem? (i := 29) rfl)
theorem wm_270 : (.instanceMethod yM_insert : Cond) ∈ wAll := in_wA6 (List.mem_of_getElem? (i := 30) rfl)
theorem wm_271 : (.selects RM yM_insert yM_insert : Cond) ∈ wAll := in_wA6 (List.mem_of_getElem? (i := 31) rfl)
theorem wm_272 : (.code yM_insert cM_insert 4 (some .int) : Cond) ∈ wAll := in_wA6 (List.mem_of_getElem? (i := 32) rfl)
theorem wm_273 : (.methodLink RM 72 yM_isReplica : Cond) ∈ wAll := in_wA6 (List.mem_of_getElem? (i := 33) rfl)
theorem wm_274 : (.static yM_isReplica : Cond) ∈ wAll := in_wA6 (List.mem_of_getElem? (i := 34) rfl)
theorem wm_275 : (.code yM_isReplica cM_isReplica 1 (some .boolean) : Cond) ∈ wAll := in_wA6 (List.mem_of_getElem? (i := 35) rfl)
theorem wm_276 : (.methodLink RM 76 yM_walk : Cond) ∈ wAll := in_wA6 (List.mem_of_getElem? (i := 36) rfl)
theorem wm_277 : (.instanceMethod yM_walk : Cond) ∈ wAll := in_wA6 (List.mem_of_getElem? (i := 37) rfl)
theorem wm_278 : (.code yM_walk cM_walk 3 none : Cond) ∈ wAll := in_wA6 (List.mem_of_getElem? (i := 38) rfl)
theorem wm_279 : (.methodLink RM 62 yM_next : Cond) ∈ wAll := in_wA6 (List.mem_of_getElem? (i := 39) rfl)
theorem wm_280 : (.instanceMethod yM_next : Cond) ∈ wAll := in_wA7 (List.mem_of_getElem? (i := 0) rfl)
theorem wm_281 : (.code yM_next cM_next 5 (some .int) : Cond) ∈ wAll := in_wA7 (List.mem_of_getElem? (i := 1) rfl)
theorem wm_282 : (.methodLink RM 55 yM_first : Cond) ∈ wAll := in_wA7 (List.mem_of_getElem? (i := 2) rfl)
theorem wm_283 : (.instanceMethod yM_first : Cond) ∈ wAll := in_wA7 (List.mem_of_getElem? (i := 3) rfl)
theorem wm_284 : (.code yM_first cM_first 7 (some .int) : Cond) ∈ wAll := in_wA7 (List.mem_of_getElem? (i := 4) rfl)
theorem wm_285 : (.methodLink RM 48 yM_has : Cond) ∈ wAll := in_wA7 (List.mem_of_getElem? (i := 5) rfl)
theorem wm_286 : (.instanceMethod yM_has : Cond) ∈ wAll := in_wA7 (List.mem_of_getElem? (i := 6) rfl)
theorem wm_287 : (.code yM_has cM_has 3 (some .boolean) : Cond) ∈ wAll := in_wA7 (List.mem_of_getElem? (i := 7) rfl)
theorem wm_288 : (.methodLink RM 52 yM_sooner : Cond) ∈ wAll := in_wA7 (List.mem_of_getElem? (i := 8) rfl)
theorem wm_289 : (.instanceMethod yM_sooner : Cond) ∈ wAll := in_wA7 (List.mem_of_getElem? (i := 9) rfl)
theorem wm_290 : (.code yM_sooner cM_sooner 3 (some .boolean) : Cond) ∈ wAll := in_wA7 (List.mem_of_getElem? (i := 10) rfl)
theorem wm_291 : (.methodLink RM 66 yM_erased : Cond) ∈ wAll := in_wA7 (List.mem_of_getElem? (i := 11) rfl)
theorem wm_292 : (.instanceMethod yM_erased : Cond) ∈ wAll := in_wA7 (List.mem_of_getElem? (i := 12) rfl)
theorem wm_293 : (.code yM_erased cM_erased 5 (some .boolean) : Cond) ∈ wAll := in_wA7 (List.mem_of_getElem? (i := 13) rfl)
theorem wm_294 : (.methodLink RM 80 yM_issue : Cond) ∈ wAll := in_wA7 (List.mem_of_getElem? (i := 14) rfl)
theorem wm_295 : (.instanceMethod yM_issue : Cond) ∈ wAll := in_wA7 (List.mem_of_getElem? (i := 15) rfl)
theorem wm_296 : (.code yM_issue cM_issue 7 (some .int) : Cond) ∈ wAll := in_wA7 (List.mem_of_getElem? (i := 16) rfl)
theorem wm_297 : (.methodLink RM 69 yM_count : Cond) ∈ wAll := in_wA7 (List.mem_of_getElem? (i := 17) rfl)
theorem wm_298 : (.instanceMethod yM_count : Cond) ∈ wAll := in_wA7 (List.mem_of_getElem? (i := 18) rfl)
theorem wm_299 : (.code yM_count cM_count 5 (some .int) : Cond) ∈ wAll := in_wA7 (List.mem_of_getElem? (i := 19) rfl)
theorem wm_300 : (.methodLink "TombstoneTextLaw" 22 yM_erase : Cond) ∈ wAll := in_wA7 (List.mem_of_getElem? (i := 20) rfl)
theorem wm_301 : (.instanceMethod yM_erase : Cond) ∈ wAll := in_wA7 (List.mem_of_getElem? (i := 21) rfl)
theorem wm_302 : (.selects RM yM_erase yM_erase : Cond) ∈ wAll := in_wA7 (List.mem_of_getElem? (i := 22) rfl)
theorem wm_303 : (.code yM_erase cM_erase 3 (some .int) : Cond) ∈ wAll := in_wA7 (List.mem_of_getElem? (i := 23) rfl)
theorem wm_304 : (.methodLink "TombstoneTextLaw" 26 yM_deliver : Cond) ∈ wAll := in_wA7 (List.mem_of_getElem? (i := 24) rfl)
theorem wm_305 : (.instanceMethod yM_deliver : Cond) ∈ wAll := in_wA7 (List.mem_of_getElem? (i := 25) rfl)
theorem wm_306 : (.selects RM yM_deliver yM_deliver : Cond) ∈ wAll := in_wA7 (List.mem_of_getElem? (i := 26) rfl)
theorem wm_307 : (.code yM_deliver cM_deliver 6 (some .int) : Cond) ∈ wAll := in_wA7 (List.mem_of_getElem? (i := 27) rfl)
theorem wm_308 : (.methodLink RM 83 yM_isOperation : Cond) ∈ wAll := in_wA7 (List.mem_of_getElem? (i := 28) rfl)
theorem wm_309 : (.instanceMethod yM_isOperation : Cond) ∈ wAll := in_wA7 (List.mem_of_getElem? (i := 29) rfl)
theorem wm_310 : (.code yM_isOperation cM_isOperation 2 (some .boolean) : Cond) ∈ wAll := in_wA7 (List.mem_of_getElem? (i := 30) rfl)
theorem wm_311 : (.methodLink RM 86 yM_ready : Cond) ∈ wAll := in_wA7 (List.mem_of_getElem? (i := 31) rfl)
theorem wm_312 : (.instanceMethod yM_ready : Cond) ∈ wAll := in_wA7 (List.mem_of_getElem? (i := 32) rfl)
theorem wm_313 : (.code yM_ready cM_ready 5 (some .boolean) : Cond) ∈ wAll := in_wA7 (List.mem_of_getElem? (i := 33) rfl)
theorem wm_314 : (.methodLink "TombstoneTextLaw" 30 yM_sync : Cond) ∈ wAll := in_wA7 (List.mem_of_getElem? (i := 34) rfl)
theorem wm_315 : (.instanceMethod yM_sync : Cond) ∈ wAll := in_wA7 (List.mem_of_getElem? (i := 35) rfl)
theorem wm_316 : (.selects RM yM_sync yM_sync : Cond) ∈ wAll := in_wA7 (List.mem_of_getElem? (i := 36) rfl)
theorem wm_317 : (.code yM_sync cM_sync 5 (some .int) : Cond) ∈ wAll := in_wA7 (List.mem_of_getElem? (i := 37) rfl)
theorem wm_318 : (.methodLink RM 89 yM_deliver : Cond) ∈ wAll := in_wA7 (List.mem_of_getElem? (i := 38) rfl)
theorem wm_319 : (.methodLink "TombstoneTextLaw" 66 yM_known : Cond) ∈ wAll := in_wA7 (List.mem_of_getElem? (i := 39) rfl)
theorem wm_320 : (.instanceMethod yM_known : Cond) ∈ wAll := in_wA8 (List.mem_of_getElem? (i := 0) rfl)
theorem wm_321 : (.selects RM yM_known yM_known : Cond) ∈ wAll := in_wA8 (List.mem_of_getElem? (i := 1) rfl)
theorem wm_322 : (.code yM_known cM_known 7 (some .int) : Cond) ∈ wAll := in_wA8 (List.mem_of_getElem? (i := 2) rfl)
theorem wm_323 : (.methodLink "TombstoneTextLaw" 70 yM_stable : Cond) ∈ wAll := in_wA8 (List.mem_of_getElem? (i := 3) rfl)
theorem wm_324 : (.instanceMethod yM_stable : Cond) ∈ wAll := in_wA8 (List.mem_of_getElem? (i := 4) rfl)
theorem wm_325 : (.selects RM yM_stable yM_stable : Cond) ∈ wAll := in_wA8 (List.mem_of_getElem? (i := 5) rfl)
theorem wm_326 : (.code yM_stable cM_stable 5 (some .boolean) : Cond) ∈ wAll := in_wA8 (List.mem_of_getElem? (i := 6) rfl)
theorem wm_327 : (.methodLink RM 92 yM_known : Cond) ∈ wAll := in_wA8 (List.mem_of_getElem? (i := 7) rfl)
theorem wm_328 : (.methodLink "TombstoneTextLaw" 35 yM_collect : Cond) ∈ wAll := in_wA8 (List.mem_of_getElem? (i := 8) rfl)
theorem wm_329 : (.instanceMethod yM_collect : Cond) ∈ wAll := in_wA8 (List.mem_of_getElem? (i := 9) rfl)
theorem wm_330 : (.selects RM yM_collect yM_collect : Cond) ∈ wAll := in_wA8 (List.mem_of_getElem? (i := 10) rfl)
theorem wm_331 : (.code yM_collect cM_collect 4 (some .int) : Cond) ∈ wAll := in_wA8 (List.mem_of_getElem? (i := 11) rfl)
theorem wm_332 : (.methodLink RM 98 yM_keeps : Cond) ∈ wAll := in_wA8 (List.mem_of_getElem? (i := 12) rfl)
theorem wm_333 : (.instanceMethod yM_keeps : Cond) ∈ wAll := in_wA8 (List.mem_of_getElem? (i := 13) rfl)
theorem wm_334 : (.code yM_keeps cM_keeps 3 (some .boolean) : Cond) ∈ wAll := in_wA8 (List.mem_of_getElem? (i := 14) rfl)
theorem wm_335 : (.methodLink RM 101 yM_idle : Cond) ∈ wAll := in_wA8 (List.mem_of_getElem? (i := 15) rfl)
theorem wm_336 : (.instanceMethod yM_idle : Cond) ∈ wAll := in_wA8 (List.mem_of_getElem? (i := 16) rfl)
theorem wm_337 : (.code yM_idle cM_idle 6 (some .boolean) : Cond) ∈ wAll := in_wA8 (List.mem_of_getElem? (i := 17) rfl)
theorem wm_338 : (.methodLink RM 95 yM_stable : Cond) ∈ wAll := in_wA8 (List.mem_of_getElem? (i := 18) rfl)
theorem wm_339 : (.methodLink "TombstoneTextLaw" 39 yM_length : Cond) ∈ wAll := in_wA8 (List.mem_of_getElem? (i := 19) rfl)
theorem wm_340 : (.instanceMethod yM_length : Cond) ∈ wAll := in_wA8 (List.mem_of_getElem? (i := 20) rfl)
theorem wm_341 : (.selects RM yM_length yM_length : Cond) ∈ wAll := in_wA8 (List.mem_of_getElem? (i := 21) rfl)
theorem wm_342 : (.code yM_length cM_length 2 (some .int) : Cond) ∈ wAll := in_wA8 (List.mem_of_getElem? (i := 22) rfl)
theorem wm_343 : (.methodLink "TombstoneTextLaw" 43 yM_at : Cond) ∈ wAll := in_wA8 (List.mem_of_getElem? (i := 23) rfl)
theorem wm_344 : (.instanceMethod yM_at : Cond) ∈ wAll := in_wA8 (List.mem_of_getElem? (i := 24) rfl)
theorem wm_345 : (.selects RM yM_at yM_at : Cond) ∈ wAll := in_wA8 (List.mem_of_getElem? (i := 25) rfl)
theorem wm_346 : (.code yM_at cM_at 3 (some .int) : Cond) ∈ wAll := in_wA8 (List.mem_of_getElem? (i := 26) rfl)
theorem wm_347 : (.methodLink "TombstoneTextLaw" 47 yM_position : Cond) ∈ wAll := in_wA8 (List.mem_of_getElem? (i := 27) rfl)
theorem wm_348 : (.instanceMethod yM_position : Cond) ∈ wAll := in_wA8 (List.mem_of_getElem? (i := 28) rfl)
theorem wm_349 : (.selects RM yM_position yM_position : Cond) ∈ wAll := in_wA8 (List.mem_of_getElem? (i := 29) rfl)
theorem wm_350 : (.code yM_position cM_position 5 (some .int) : Cond) ∈ wAll := in_wA8 (List.mem_of_getElem? (i := 30) rfl)
theorem wm_351 : (.methodLink "TombstoneTextLaw" 52 yM_same : Cond) ∈ wAll := in_wA8 (List.mem_of_getElem? (i := 31) rfl)
theorem wm_352 : (.instanceMethod yM_same : Cond) ∈ wAll := in_wA8 (List.mem_of_getElem? (i := 32) rfl)
theorem wm_353 : (.selects RM yM_same yM_same : Cond) ∈ wAll := in_wA8 (List.mem_of_getElem? (i := 33) rfl)
theorem wm_354 : (.code yM_same cM_same 6 (some .boolean) : Cond) ∈ wAll := in_wA8 (List.mem_of_getElem? (i := 34) rfl)
theorem wm_355 : (.methodLink "TombstoneTextLaw" 57 yM_operations : Cond) ∈ wAll := in_wA8 (List.mem_of_getElem? (i := 35) rfl)
theorem wm_356 : (.instanceMethod yM_operations : Cond) ∈ wAll := in_wA8 (List.mem_of_getElem? (i := 36) rfl)
theorem wm_357 : (.selects RM yM_operations yM_operations : Cond) ∈ wAll := in_wA8 (List.mem_of_getElem? (i := 37) rfl)
theorem wm_358 : (.code yM_operations cM_operations 1 (some .int) : Cond) ∈ wAll := in_wA8 (List.mem_of_getElem? (i := 38) rfl)
theorem wm_359 : (.methodLink "TombstoneTextLaw" 61 yM_stamp : Cond) ∈ wAll := in_wA8 (List.mem_of_getElem? (i := 39) rfl)
theorem wm_360 : (.instanceMethod yM_stamp : Cond) ∈ wAll := in_wA9 (List.mem_of_getElem? (i := 0) rfl)
theorem wm_361 : (.selects RM yM_stamp yM_stamp : Cond) ∈ wAll := in_wA9 (List.mem_of_getElem? (i := 1) rfl)
theorem wm_362 : (.code yM_stamp cM_stamp 2 (some .int) : Cond) ∈ wAll := in_wA9 (List.mem_of_getElem? (i := 2) rfl)
theorem wm_363 : (.methodLink "TombstoneTextLaw" 74 yM_kept : Cond) ∈ wAll := in_wA9 (List.mem_of_getElem? (i := 3) rfl)
theorem wm_364 : (.instanceMethod yM_kept : Cond) ∈ wAll := in_wA9 (List.mem_of_getElem? (i := 4) rfl)
theorem wm_365 : (.selects RM yM_kept yM_kept : Cond) ∈ wAll := in_wA9 (List.mem_of_getElem? (i := 5) rfl)
theorem wm_366 : (.code yM_kept cM_kept 4 (some .int) : Cond) ∈ wAll := in_wA9 (List.mem_of_getElem? (i := 6) rfl)
theorem wm_367 : (.methodLink "TombstoneTextLaw" 78 yM_waiting : Cond) ∈ wAll := in_wA9 (List.mem_of_getElem? (i := 7) rfl)
theorem wm_368 : (.instanceMethod yM_waiting : Cond) ∈ wAll := in_wA9 (List.mem_of_getElem? (i := 8) rfl)
theorem wm_369 : (.selects RM yM_waiting yM_waiting : Cond) ∈ wAll := in_wA9 (List.mem_of_getElem? (i := 9) rfl)
theorem wm_370 : (.code yM_waiting cM_waiting 4 (some .int) : Cond) ∈ wAll := in_wA9 (List.mem_of_getElem? (i := 10) rfl)
theorem wm_371 : (.selects RL yL_putInOrder yL_putInOrder : Cond) ∈ wAll := in_wA9 (List.mem_of_getElem? (i := 11) rfl)
theorem wm_372 : (.selects RL yL_indexBehind yL_indexBehind : Cond) ∈ wAll := in_wA9 (List.mem_of_getElem? (i := 12) rfl)
theorem wm_373 : (.selects RL yL_goesFirst yL_goesFirst : Cond) ∈ wAll := in_wA9 (List.mem_of_getElem? (i := 13) rfl)
theorem wm_374 : (.selects RP yP_apply yP_apply : Cond) ∈ wAll := in_wA9 (List.mem_of_getElem? (i := 14) rfl)
theorem wm_375 : (.selects RP yP_rewriteText yP_rewriteText : Cond) ∈ wAll := in_wA9 (List.mem_of_getElem? (i := 15) rfl)
theorem wm_376 : (.selects RP yP_isReady yP_isReady : Cond) ∈ wAll := in_wA9 (List.mem_of_getElem? (i := 16) rfl)
theorem wm_377 : (.selects RP yP_markWhatMayGo yP_markWhatMayGo : Cond) ∈ wAll := in_wA9 (List.mem_of_getElem? (i := 17) rfl)
theorem wm_378 : (.selects RP yP_holdsItsTarget yP_holdsItsTarget : Cond) ∈ wAll := in_wA9 (List.mem_of_getElem? (i := 18) rfl)
theorem wm_379 : (.selects RM yM_walk yM_walk : Cond) ∈ wAll := in_wA9 (List.mem_of_getElem? (i := 19) rfl)
theorem wm_380 : (.selects RM yM_next yM_next : Cond) ∈ wAll := in_wA9 (List.mem_of_getElem? (i := 20) rfl)
theorem wm_381 : (.selects RM yM_first yM_first : Cond) ∈ wAll := in_wA9 (List.mem_of_getElem? (i := 21) rfl)
theorem wm_382 : (.selects RM yM_has yM_has : Cond) ∈ wAll := in_wA9 (List.mem_of_getElem? (i := 22) rfl)
theorem wm_383 : (.selects RM yM_sooner yM_sooner : Cond) ∈ wAll := in_wA9 (List.mem_of_getElem? (i := 23) rfl)
theorem wm_384 : (.selects RM yM_erased yM_erased : Cond) ∈ wAll := in_wA9 (List.mem_of_getElem? (i := 24) rfl)
theorem wm_385 : (.selects RM yM_issue yM_issue : Cond) ∈ wAll := in_wA9 (List.mem_of_getElem? (i := 25) rfl)
theorem wm_386 : (.selects RM yM_count yM_count : Cond) ∈ wAll := in_wA9 (List.mem_of_getElem? (i := 26) rfl)
theorem wm_387 : (.selects RM yM_isOperation yM_isOperation : Cond) ∈ wAll := in_wA9 (List.mem_of_getElem? (i := 27) rfl)
theorem wm_388 : (.selects RM yM_ready yM_ready : Cond) ∈ wAll := in_wA9 (List.mem_of_getElem? (i := 28) rfl)
theorem wm_389 : (.selects RM yM_keeps yM_keeps : Cond) ∈ wAll := in_wA9 (List.mem_of_getElem? (i := 29) rfl)
theorem wm_390 : (.selects RM yM_idle yM_idle : Cond) ∈ wAll := in_wA9 (List.mem_of_getElem? (i := 30) rfl)
theorem in_L : ∀ w ∈ u_ws RL TL 8, w ∈ wAll := by decide +kernel
theorem in_P : ∀ w ∈ u_ws RP TP 12, w ∈ wAll := by decide +kernel
theorem in_T : ∀ w ∈ u_ws RT TT 2, w ∈ wAll := by decide +kernel
theorem in_M : ∀ w ∈ u_ws RM TM 13, w ∈ wAll := by decide +kernel
theorem wAll_good : wAll.all goodWord = true := by decide +kernel
/-- links to private fields of nest mates -/
def nwF : List (String × Nat × String × String × String) := [(RP, 54, "TombstoneText$Log", "issuers", "[I"), (RT, 84, "TombstoneText$Log", "issuers", "[I"), (RT, 80, "TombstoneText$Log", "stamps", "[I"), (RP, 91, "TombstoneText$Log", "stamps", "[I"), (RP, 102, "TombstoneText$Log", "targets", "[I"), (RP, 44, "TombstoneText$Log", "characters", "[C"), (RT, 66, "TombstoneText$Log", "characters", "[C"), (RP, 111, "TombstoneText$Log", "order", "[I"), (RP, 78, "TombstoneText$Log", "count", "I"), (RT, 77, "TombstoneText$Log", "count", "I"), (RP, 108, "TombstoneText$Log", "elements", "I"), (RT, 87, "TombstoneText$Replica", "seen", "[[I"), (RT, 29, "TombstoneText$Replica", "textLength", "I"), (RT, 94, "TombstoneText$Replica", "keptCount", "I"), (RT, 97, "TombstoneText$Replica", "waitingCount", "I")]
theorem nf_0 : ((RP, 54, "TombstoneText$Log", "issuers", "[I") : String × Nat × String × String × String) ∈ nwF := List.mem_of_getElem? (i := 0) rfl
theorem nf_1 : ((RT, 84, "TombstoneText$Log", "issuers", "[I") : String × Nat × String × String × String) ∈ nwF := List.mem_of_getElem? (i := 1) rfl
theorem nf_2 : ((RT, 80, "TombstoneText$Log", "stamps", "[I") : String × Nat × String × String × String) ∈ nwF := List.mem_of_getElem? (i := 2) rfl
theorem nf_3 : ((RP, 91, "TombstoneText$Log", "stamps", "[I") : String × Nat × String × String × String) ∈ nwF := List.mem_of_getElem? (i := 3) rfl
theorem nf_4 : ((RP, 102, "TombstoneText$Log", "targets", "[I") : String × Nat × String × String × String) ∈ nwF := List.mem_of_getElem? (i := 4) rfl
theorem nf_5 : ((RP, 44, "TombstoneText$Log", "characters", "[C") : String × Nat × String × String × String) ∈ nwF := List.mem_of_getElem? (i := 5) rfl
theorem nf_6 : ((RT, 66, "TombstoneText$Log", "characters", "[C") : String × Nat × String × String × String) ∈ nwF := List.mem_of_getElem? (i := 6) rfl
theorem nf_7 : ((RP, 111, "TombstoneText$Log", "order", "[I") : String × Nat × String × String × String) ∈ nwF := List.mem_of_getElem? (i := 7) rfl
theorem nf_8 : ((RP, 78, "TombstoneText$Log", "count", "I") : String × Nat × String × String × String) ∈ nwF := List.mem_of_getElem? (i := 8) rfl
theorem nf_9 : ((RT, 77, "TombstoneText$Log", "count", "I") : String × Nat × String × String × String) ∈ nwF := List.mem_of_getElem? (i := 9) rfl
theorem nf_10 : ((RP, 108, "TombstoneText$Log", "elements", "I") : String × Nat × String × String × String) ∈ nwF := List.mem_of_getElem? (i := 10) rfl
theorem nf_11 : ((RT, 87, "TombstoneText$Replica", "seen", "[[I") : String × Nat × String × String × String) ∈ nwF := List.mem_of_getElem? (i := 11) rfl
theorem nf_12 : ((RT, 29, "TombstoneText$Replica", "textLength", "I") : String × Nat × String × String × String) ∈ nwF := List.mem_of_getElem? (i := 12) rfl
theorem nf_13 : ((RT, 94, "TombstoneText$Replica", "keptCount", "I") : String × Nat × String × String × String) ∈ nwF := List.mem_of_getElem? (i := 13) rfl
theorem nf_14 : ((RT, 97, "TombstoneText$Replica", "waitingCount", "I") : String × Nat × String × String × String) ∈ nwF := List.mem_of_getElem? (i := 14) rfl
