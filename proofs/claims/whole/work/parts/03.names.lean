def zt_T : List Cond := lw_tbl.filter goodWord
theorem zt_good : ∀ w ∈ zt_T, goodWord w = true := fun w h => (List.mem_filter.mp h).2
theorem zt_of {w : Cond} (n : Nat) (h : tables_1[n]? = some w) (hg : goodWord w = true) : w ∈ zt_T := List.mem_filter.mpr ⟨List.mem_append_right _ (List.mem_of_getElem? h), hg⟩
theorem zt_of1 {w : Cond} (n : Nat) (h : tables_1_1[n]? = some w) (hg : goodWord w = true) : w ∈ zt_T := List.mem_filter.mpr ⟨List.mem_append_right _ ((fun h9 => show _ ∈ tables_1 from (List.mem_append_left _ h9)) (List.mem_of_getElem? h)), hg⟩
theorem zt_of2 {w : Cond} (n : Nat) (h : tables_1_2[n]? = some w) (hg : goodWord w = true) : w ∈ zt_T := List.mem_filter.mpr ⟨List.mem_append_right _ ((fun h9 => show _ ∈ tables_1 from (List.mem_append_right _ (List.mem_append_left _ h9))) (List.mem_of_getElem? h)), hg⟩
theorem zt_of3 {w : Cond} (n : Nat) (h : tables_1_3[n]? = some w) (hg : goodWord w = true) : w ∈ zt_T := List.mem_filter.mpr ⟨List.mem_append_right _ ((fun h9 => show _ ∈ tables_1 from (List.mem_append_right _ (List.mem_append_right _ (List.mem_append_left _ h9)))) (List.mem_of_getElem? h)), hg⟩
theorem zt_of4 {w : Cond} (n : Nat) (h : tables_1_4[n]? = some w) (hg : goodWord w = true) : w ∈ zt_T := List.mem_filter.mpr ⟨List.mem_append_right _ ((fun h9 => show _ ∈ tables_1 from (List.mem_append_right _ (List.mem_append_right _ (List.mem_append_right _ (List.mem_append_left _ h9))))) (List.mem_of_getElem? h)), hg⟩
theorem zt_of5 {w : Cond} (n : Nat) (h : tables_1_5[n]? = some w) (hg : goodWord w = true) : w ∈ zt_T := List.mem_filter.mpr ⟨List.mem_append_right _ ((fun h9 => show _ ∈ tables_1 from (List.mem_append_right _ (List.mem_append_right _ (List.mem_append_right _ (List.mem_append_right _ h9))))) (List.mem_of_getElem? h)), hg⟩
theorem zt_ofS {w : Cond} (n : Nat) (h : (k2_sels lw_privs)[n]? = some w) (hg : goodWord w = true) : w ∈ zt_T := List.mem_filter.mpr ⟨List.mem_append_left _ (List.mem_of_getElem? h), hg⟩
def zT_FP : u_T := fun k => match k with
  | 0 => ("FrameProcessor", "memory", "LFrameProcessor$Memory;", true)
  | 1 => ("FrameProcessor", "roster", "LFrameProcessor$Roster;", true)
  | _ => ("FrameProcessor", "processor", "LFrameProcessor$Processor;", true)
def zy_FP : Nat → FieldType := fun k => match k with
  | 0 => .object "FrameProcessor$Memory"
  | 1 => .object "FrameProcessor$Roster"
  | _ => .object "FrameProcessor$Processor"
theorem zy_FP_ok : ∀ k, k < 3 → parseFieldDescriptor (zT_FP k).2.2.1 = some (zy_FP k) := by decide +kernel
theorem zw_FP : ∀ a, a < 3 → ∀ b, b < 3 → a ≠ b → (zT_FP a).2.1 ≠ (zT_FP b).2.1 := by decide +kernel
def zT_ME : u_T := fun k => match k with
  | 0 => ("FrameProcessor$Memory", "words", "[I", true)
  | 1 => ("FrameProcessor$Memory", "reals", "[I", true)
  | 2 => ("FrameProcessor$Memory", "guarded", "[Z", true)
  | 3 => ("FrameProcessor$Memory", "notes", "[I", true)
  | 4 => ("FrameProcessor$Memory", "writtenPlaces", "[I", true)
  | 5 => ("FrameProcessor$Memory", "formerWords", "[I", true)
  | 6 => ("FrameProcessor$Memory", "writes", "I", false)
  | _ => ("FrameProcessor$Memory", "fault", "I", false)
def zy_ME : Nat → FieldType := fun k => match k with
  | 0 => .array .int
  | 1 => .array .int
  | 2 => .array .boolean
  | 3 => .array .int
  | 4 => .array .int
  | 5 => .array .int
  | 6 => .int
  | _ => .int
theorem zy_ME_ok : ∀ k, k < 8 → parseFieldDescriptor (zT_ME k).2.2.1 = some (zy_ME k) := by decide +kernel
theorem zw_ME : ∀ a, a < 8 → ∀ b, b < 8 → a ≠ b → (zT_ME a).2.1 ≠ (zT_ME b).2.1 := by decide +kernel
def zT_RO : u_T := fun k => match k with
  | 0 => ("FrameProcessor$Roster", "tasks", "[LFrameProcessor$Task;", true)
  | _ => ("FrameProcessor$Roster", "changes", "I", false)
def zy_RO : Nat → FieldType := fun k => match k with
  | 0 => .array (.object "FrameProcessor$Task")
  | _ => .int
theorem zy_RO_ok : ∀ k, k < 2 → parseFieldDescriptor (zT_RO k).2.2.1 = some (zy_RO k) := by decide +kernel
theorem zw_RO : ∀ a, a < 2 → ∀ b, b < 2 → a ≠ b → (zT_RO a).2.1 ≠ (zT_RO b).2.1 := by decide +kernel
def zT_PR : u_T := fun k => match k with
  | 0 => ("FrameProcessor$Processor", "memory", "LFrameProcessor$Memory;", true)
  | 1 => ("FrameProcessor$Processor", "roster", "LFrameProcessor$Roster;", true)
  | 2 => ("FrameProcessor$Processor", "frames", "LFrameProcessor$Frames;", true)
  | 3 => ("FrameProcessor$Processor", "stack", "LFrameProcessor$WorkStack;", true)
  | 4 => ("FrameProcessor$Processor", "instruction", "LFrameProcessor$Instruction;", true)
  | 5 => ("FrameProcessor$Processor", "task", "LFrameProcessor$Task;", false)
  | 6 => ("FrameProcessor$Processor", "frame", "I", false)
  | 7 => ("FrameProcessor$Processor", "savesNext", "Z", false)
  | 8 => ("FrameProcessor$Processor", "ends", "Z", false)
  | 9 => ("FrameProcessor$Processor", "blocks", "Z", false)
  | 10 => ("FrameProcessor$Processor", "waits", "Z", false)
  | 11 => ("FrameProcessor$Processor", "monitor", "I", false)
  | 12 => ("FrameProcessor$Processor", "condition", "I", false)
  | 13 => ("FrameProcessor$Processor", "timeout", "I", false)
  | 14 => ("FrameProcessor$Processor", "child", "LFrameProcessor$Task;", false)
  | 15 => ("FrameProcessor$Processor", "childFrame", "I", false)
  | _ => ("FrameProcessor$Processor", "childPriority", "I", false)
def zy_PR : Nat → FieldType := fun k => match k with
  | 0 => .object "FrameProcessor$Memory"
  | 1 => .object "FrameProcessor$Roster"
  | 2 => .object "FrameProcessor$Frames"
  | 3 => .object "FrameProcessor$WorkStack"
  | 4 => .object "FrameProcessor$Instruction"
  | 5 => .object "FrameProcessor$Task"
  | 6 => .int
  | 7 => .boolean
  | 8 => .boolean
  | 9 => .boolean
  | 10 => .boolean
  | 11 => .int
  | 12 => .int
  | 13 => .int
  | 14 => .object "FrameProcessor$Task"
  | 15 => .int
  | _ => .int
theorem zy_PR_ok : ∀ k, k < 17 → parseFieldDescriptor (zT_PR k).2.2.1 = some (zy_PR k) := by decide +kernel
theorem zw_PR : ∀ a, a < 17 → ∀ b, b < 17 → a ≠ b → (zT_PR a).2.1 ≠ (zT_PR b).2.1 := by decide +kernel
def zT_FR : u_T := fun k => match k with
  | _ => ("FrameProcessor$Frames", "memory", "LFrameProcessor$Memory;", true)
def zy_FR : Nat → FieldType := fun k => match k with
  | _ => .object "FrameProcessor$Memory"
theorem zy_FR_ok : ∀ k, k < 1 → parseFieldDescriptor (zT_FR k).2.2.1 = some (zy_FR k) := by decide +kernel
theorem zw_FR : ∀ a, a < 1 → ∀ b, b < 1 → a ≠ b → (zT_FR a).2.1 ≠ (zT_FR b).2.1 := by decide +kernel
def zT_WS : u_T := fun k => match k with
  | 0 => ("FrameProcessor$WorkStack", "memory", "LFrameProcessor$Memory;", true)
  | 1 => ("FrameProcessor$WorkStack", "words", "[I", true)
  | _ => ("FrameProcessor$WorkStack", "depth", "I", false)
def zy_WS : Nat → FieldType := fun k => match k with
  | 0 => .object "FrameProcessor$Memory"
  | 1 => .array .int
  | _ => .int
theorem zy_WS_ok : ∀ k, k < 3 → parseFieldDescriptor (zT_WS k).2.2.1 = some (zy_WS k) := by decide +kernel
theorem zw_WS : ∀ a, a < 3 → ∀ b, b < 3 → a ≠ b → (zT_WS a).2.1 ≠ (zT_WS b).2.1 := by decide +kernel
def zT_IN : u_T := fun k => match k with
  | 0 => ("FrameProcessor$Instruction", "memory", "LFrameProcessor$Memory;", true)
  | 1 => ("FrameProcessor$Instruction", "frames", "LFrameProcessor$Frames;", true)
  | 2 => ("FrameProcessor$Instruction", "g", "I", false)
  | 3 => ("FrameProcessor$Instruction", "globalFrame", "I", false)
  | 4 => ("FrameProcessor$Instruction", "first", "I", false)
  | 5 => ("FrameProcessor$Instruction", "code", "I", false)
  | 6 => ("FrameProcessor$Instruction", "operand", "I", false)
  | _ => ("FrameProcessor$Instruction", "next", "I", false)
def zy_IN : Nat → FieldType := fun k => match k with
  | 0 => .object "FrameProcessor$Memory"
  | 1 => .object "FrameProcessor$Frames"
  | 2 => .int
  | 3 => .int
  | 4 => .int
  | 5 => .int
  | 6 => .int
  | _ => .int
theorem zy_IN_ok : ∀ k, k < 8 → parseFieldDescriptor (zT_IN k).2.2.1 = some (zy_IN k) := by decide +kernel
theorem zw_IN : ∀ a, a < 8 → ∀ b, b < 8 → a ≠ b → (zT_IN a).2.1 ≠ (zT_IN b).2.1 := by decide +kernel
def zT_TA : u_T := fun k => match k with
  | 0 => ("FrameProcessor$Task", "number", "I", true)
  | 1 => ("FrameProcessor$Task", "words", "[I", true)
  | 2 => ("FrameProcessor$Task", "state", "I", false)
  | 3 => ("FrameProcessor$Task", "priority", "I", false)
  | 4 => ("FrameProcessor$Task", "frame", "I", false)
  | 5 => ("FrameProcessor$Task", "depth", "I", false)
  | 6 => ("FrameProcessor$Task", "address", "I", false)
  | 7 => ("FrameProcessor$Task", "timeout", "I", false)
  | 8 => ("FrameProcessor$Task", "fault", "I", false)
  | _ => ("FrameProcessor$Task", "since", "I", false)
def zy_TA : Nat → FieldType := fun k => match k with
  | 0 => .int
  | 1 => .array .int
  | 2 => .int
  | 3 => .int
  | 4 => .int
  | 5 => .int
  | 6 => .int
  | 7 => .int
  | 8 => .int
  | _ => .int
theorem zy_TA_ok : ∀ k, k < 10 → parseFieldDescriptor (zT_TA k).2.2.1 = some (zy_TA k) := by decide +kernel
theorem zw_TA : ∀ a, a < 10 → ∀ b, b < 10 → a ≠ b → (zT_TA a).2.1 ≠ (zT_TA b).2.1 := by decide +kernel
def zT_MO : u_T := fun k => match k with
  | 0 => ("FrameProcessorModel", "thrown", "I", false)
  | 1 => ("FrameProcessorModel", "map", "[I", true)
  | 2 => ("FrameProcessorModel", "notes", "[I", true)
  | 3 => ("FrameProcessorModel", "words", "[I", true)
  | 4 => ("FrameProcessorModel", "guarded", "[Z", true)
  | 5 => ("FrameProcessorModel", "state", "[I", true)
  | 6 => ("FrameProcessorModel", "priority", "[I", true)
  | 7 => ("FrameProcessorModel", "frame", "[I", true)
  | 8 => ("FrameProcessorModel", "size", "[I", true)
  | 9 => ("FrameProcessorModel", "stack", "[I", true)
  | 10 => ("FrameProcessorModel", "where", "[I", true)
  | 11 => ("FrameProcessorModel", "timeout", "[I", true)
  | 12 => ("FrameProcessorModel", "faults", "[I", true)
  | 13 => ("FrameProcessorModel", "since", "[J", true)
  | 14 => ("FrameProcessorModel", "time", "J", false)
  | 15 => ("FrameProcessorModel", "written", "I", false)
  | 16 => ("FrameProcessorModel", "fault", "I", false)
  | 17 => ("FrameProcessorModel", "place", "[I", true)
  | 18 => ("FrameProcessorModel", "before", "[I", true)
  | 19 => ("FrameProcessorModel", "me", "I", false)
  | 20 => ("FrameProcessorModel", "top", "I", false)
  | 21 => ("FrameProcessorModel", "next", "I", false)
  | 22 => ("FrameProcessorModel", "code", "I", false)
  | 23 => ("FrameProcessorModel", "globals", "I", false)
  | 24 => ("FrameProcessorModel", "globalNumber", "I", false)
  | 25 => ("FrameProcessorModel", "mine", "[I", true)
  | 26 => ("FrameProcessorModel", "waking", "I", false)
  | 27 => ("FrameProcessorModel", "woken", "[I", true)
  | 28 => ("FrameProcessorModel", "yields", "Z", false)
  | 29 => ("FrameProcessorModel", "newborn", "I", false)
  | 30 => ("FrameProcessorModel", "newFrame", "I", false)
  | _ => ("FrameProcessorModel", "newPriority", "I", false)
def zy_MO : Nat → FieldType := fun k => match k with
  | 0 => .int
  | 1 => .array .int
  | 2 => .array .int
  | 3 => .array .int
  | 4 => .array .boolean
  | 5 => .array .int
  | 6 => .array .int
  | 7 => .array .int
  | 8 => .array .int
  | 9 => .array .int
  | 10 => .array .int
  | 11 => .array .int
  | 12 => .array .int
  | 13 => .array .long
  | 14 => .long
  | 15 => .int
  | 16 => .int
  | 17 => .array .int
  | 18 => .array .int
  | 19 => .int
  | 20 => .int
  | 21 => .int
  | 22 => .int
  | 23 => .int
  | 24 => .int
  | 25 => .array .int
  | 26 => .int
  | 27 => .array .int
  | 28 => .boolean
  | 29 => .int
  | 30 => .int
  | _ => .int
theorem zy_MO_ok : ∀ k, k < 32 → parseFieldDescriptor (zT_MO k).2.2.1 = some (zy_MO k) := by decide +kernel
theorem zw_MO : ∀ a, a < 32 → ∀ b, b < 32 → a ≠ b → (zT_MO a).2.1 ≠ (zT_MO b).2.1 := by decide +kernel
abbrev zt_cl : List vw_C := [("FrameProcessor", zT_FP, 3), ("FrameProcessor$Memory", zT_ME, 8), ("FrameProcessor$Roster", zT_RO, 2), ("FrameProcessor$Processor", zT_PR, 17), ("FrameProcessor$Frames", zT_FR, 1), ("FrameProcessor$WorkStack", zT_WS, 3), ("FrameProcessor$Instruction", zT_IN, 8), ("FrameProcessor$Task", zT_TA, 10), ("FrameProcessorModel", zT_MO, 32)]
def yFP_init : MethodName := ⟨"FrameProcessor", "<init>", "()V"⟩
def yME_init : MethodName := ⟨"FrameProcessor$Memory", "<init>", "()V"⟩
def yRO_init : MethodName := ⟨"FrameProcessor$Roster", "<init>", "()V"⟩
def yTA_init : MethodName := ⟨"FrameProcessor$Task", "<init>", "(I)V"⟩
def yPR_init : MethodName := ⟨"FrameProcessor$Processor", "<init>", "(LFrameProcessor$Memory;LFrameProcessor$Roster;)V"⟩
def yFR_init : MethodName := ⟨"FrameProcessor$Frames", "<init>", "(LFrameProcessor$Memory;)V"⟩
def yWS_init : MethodName := ⟨"FrameProcessor$WorkStack", "<init>", "(LFrameProcessor$Memory;)V"⟩
def yIN_init : MethodName := ⟨"FrameProcessor$Instruction", "<init>", "(LFrameProcessor$Memory;LFrameProcessor$Frames;)V"⟩
def yFP_running : MethodName := ⟨"FrameProcessor", "running", "()I"⟩
def yRO_runner : MethodName := ⟨"FrameProcessor$Roster", "runner", "()LFrameProcessor$Task;"⟩
def yRO_firstAt : MethodName := ⟨"FrameProcessor$Roster", "firstAt", "(II)LFrameProcessor$Task;"⟩
def yTA_goesAhead : MethodName := ⟨"FrameProcessor$Task", "goesAhead", "(LFrameProcessor$Task;)Z"⟩
def yFP_process : MethodName := ⟨"FrameProcessor", "process", "(II)I"⟩
def yRO_taskAt : MethodName := ⟨"FrameProcessor$Roster", "taskAt", "(I)LFrameProcessor$Task;"⟩
def yRO_placeOf : MethodName := ⟨"FrameProcessor$Roster", "placeOf", "(LFrameProcessor$Task;)I"⟩
def yFP_stack : MethodName := ⟨"FrameProcessor", "stack", "(II)I"⟩
def yTA_wordFromTop : MethodName := ⟨"FrameProcessor$Task", "wordFromTop", "(I)I"⟩
def yFP_page : MethodName := ⟨"FrameProcessor", "page", "(II)I"⟩
def yME_isPage : MethodName := ⟨"FrameProcessor$Memory", "isPage", "(I)Z"⟩
def yME_realOf : MethodName := ⟨"FrameProcessor$Memory", "realOf", "(I)I"⟩
def yME_isGuarded : MethodName := ⟨"FrameProcessor$Memory", "isGuarded", "(I)Z"⟩
def yFP_free : MethodName := ⟨"FrameProcessor", "free", "(I)I"⟩
def yME_look : MethodName := ⟨"FrameProcessor$Memory", "look", "(I)I"⟩
def yLA_map : MethodName := ⟨"FrameProcessorLaw", "map", "(LFrameProcessor;II)I"⟩
def yFP_map : MethodName := ⟨"FrameProcessor", "map", "(II)V"⟩
def yME_isRealPage : MethodName := ⟨"FrameProcessor$Memory", "isRealPage", "(I)Z"⟩
def yME_assign : MethodName := ⟨"FrameProcessor$Memory", "assign", "(II)V"⟩
def yLA_protect : MethodName := ⟨"FrameProcessorLaw", "protect", "(LFrameProcessor;IZ)I"⟩
def yFP_protect : MethodName := ⟨"FrameProcessor", "protect", "(IZ)V"⟩
def yME_setGuarded : MethodName := ⟨"FrameProcessor$Memory", "setGuarded", "(IZ)V"⟩
def yLA_noted : MethodName := ⟨"FrameProcessorLaw", "noted", "(LFrameProcessor;I[J)I"⟩
def yFP_noted : MethodName := ⟨"FrameProcessor", "noted", "(I)I"⟩
def yME_takeNotes : MethodName := ⟨"FrameProcessor$Memory", "takeNotes", "(I)I"⟩
def yLA_poke : MethodName := ⟨"FrameProcessorLaw", "poke", "(LFrameProcessor;II)I"⟩
def yFP_poke : MethodName := ⟨"FrameProcessor", "poke", "(II)V"⟩
def yME_isAddress : MethodName := ⟨"FrameProcessor$Memory", "isAddress", "(I)Z"⟩
def yME_isThere : MethodName := ⟨"FrameProcessor$Memory", "isThere", "(I)Z"⟩
def yME_put : MethodName := ⟨"FrameProcessor$Memory", "put", "(II)V"⟩
def yLA_peek : MethodName := ⟨"FrameProcessorLaw", "peek", "(LFrameProcessor;I[J)I"⟩
def yFP_peek : MethodName := ⟨"FrameProcessor", "peek", "(I)I"⟩
def yLA_start : MethodName := ⟨"FrameProcessorLaw", "start", "(LFrameProcessor;II[J)I"⟩
def yFP_start : MethodName := ⟨"FrameProcessor", "start", "(II)I"⟩
def yPR_launch : MethodName := ⟨"FrameProcessor$Processor", "launch", "(II)I"⟩
def yME_begin : MethodName := ⟨"FrameProcessor$Memory", "begin", "()V"⟩
def yPR_prepareChild : MethodName := ⟨"FrameProcessor$Processor", "prepareChild", "(II)V"⟩
def yRO_leastFree : MethodName := ⟨"FrameProcessor$Roster", "leastFree", "()LFrameProcessor$Task;"⟩
def yME_fail : MethodName := ⟨"FrameProcessor$Memory", "fail", "(I)V"⟩
def yFR_meant : MethodName := ⟨"FrameProcessor$Frames", "meant", "(I)I"⟩
def yFR_isElsewhere : MethodName := ⟨"FrameProcessor$Frames", "isElsewhere", "(I)Z"⟩
def yME_read : MethodName := ⟨"FrameProcessor$Memory", "read", "(I)I"⟩
def yFR_isProcedure : MethodName := ⟨"FrameProcessor$Frames", "isProcedure", "(I)Z"⟩
def yFR_open : MethodName := ⟨"FrameProcessor$Frames", "open", "(II)I"⟩
def yFR_byteAt : MethodName := ⟨"FrameProcessor$Frames", "byteAt", "(II)I"⟩
def yFR_take : MethodName := ⟨"FrameProcessor$Frames", "take", "(I)I"⟩
def yME_write : MethodName := ⟨"FrameProcessor$Memory", "write", "(II)V"⟩
def yME_hasFailed : MethodName := ⟨"FrameProcessor$Memory", "hasFailed", "()Z"⟩
def yME_undo : MethodName := ⟨"FrameProcessor$Memory", "undo", "()V"⟩
def yRO_begin : MethodName := ⟨"FrameProcessor$Roster", "begin", "(LFrameProcessor$Task;II)V"⟩
def yRO_makeReady : MethodName := ⟨"FrameProcessor$Roster", "makeReady", "(LFrameProcessor$Task;)V"⟩
def yRO_nextChange : MethodName := ⟨"FrameProcessor$Roster", "nextChange", "()I"⟩
def yTA_enter : MethodName := ⟨"FrameProcessor$Task", "enter", "(II)V"⟩
def yLA_run : MethodName := ⟨"FrameProcessorLaw", "run", "(LFrameProcessor;I[J)I"⟩
def yFP_run : MethodName := ⟨"FrameProcessor", "run", "(I)I"⟩
def yPR_step : MethodName := ⟨"FrameProcessor$Processor", "step", "(LFrameProcessor$Task;)V"⟩
def yPR_beginWith : MethodName := ⟨"FrameProcessor$Processor", "beginWith", "(LFrameProcessor$Task;)V"⟩
def yWS_loadFrom : MethodName := ⟨"FrameProcessor$WorkStack", "loadFrom", "(LFrameProcessor$Task;)V"⟩
def yIN_fetch : MethodName := ⟨"FrameProcessor$Instruction", "fetch", "(I)V"⟩
def yPR_move : MethodName := ⟨"FrameProcessor$Processor", "move", "()V"⟩
def yWS_push : MethodName := ⟨"FrameProcessor$WorkStack", "push", "(I)V"⟩
def yWS_pop : MethodName := ⟨"FrameProcessor$WorkStack", "pop", "()I"⟩
def yPR_combine : MethodName := ⟨"FrameProcessor$Processor", "combine", "()V"⟩
def yPR_combined : MethodName := ⟨"FrameProcessor$Processor", "combined", "(III)I"⟩
def yPR_shifted : MethodName := ⟨"FrameProcessor$Processor", "shifted", "(II)I"⟩
def yPR_arrange : MethodName := ⟨"FrameProcessor$Processor", "arrange", "()V"⟩
def yIN_jump : MethodName := ⟨"FrameProcessor$Instruction", "jump", "()V"⟩
def yPR_fieldMask : MethodName := ⟨"FrameProcessor$Processor", "fieldMask", "()I"⟩
def yPR_fieldShift : MethodName := ⟨"FrameProcessor$Processor", "fieldShift", "()I"⟩
def yPR_transfer : MethodName := ⟨"FrameProcessor$Processor", "transfer", "()V"⟩
def yPR_saveNext : MethodName := ⟨"FrameProcessor$Processor", "saveNext", "()V"⟩
def yFR_procedure : MethodName := ⟨"FrameProcessor$Frames", "procedure", "(II)I"⟩
def yPR_goTo : MethodName := ⟨"FrameProcessor$Processor", "goTo", "(II)V"⟩
def yFR_giveBack : MethodName := ⟨"FrameProcessor$Frames", "giveBack", "(I)V"⟩
def yPR_coordinate : MethodName := ⟨"FrameProcessor$Processor", "coordinate", "()V"⟩
def yPR_enterMonitor : MethodName := ⟨"FrameProcessor$Processor", "enterMonitor", "(I)V"⟩
def yME_addressOf : MethodName := ⟨"FrameProcessor$Memory", "addressOf", "(I)I"⟩
def yPR_exitMonitor : MethodName := ⟨"FrameProcessor$Processor", "exitMonitor", "(I)V"⟩
def yPR_awaitCondition : MethodName := ⟨"FrameProcessor$Processor", "awaitCondition", "()V"⟩
def yRO_block : MethodName := ⟨"FrameProcessor$Roster", "block", "(LFrameProcessor$Task;I)V"⟩
def yPR_endAtNext : MethodName := ⟨"FrameProcessor$Processor", "endAtNext", "()V"⟩
def yWS_isOver : MethodName := ⟨"FrameProcessor$WorkStack", "isOver", "()Z"⟩
def yME_faultHeld : MethodName := ⟨"FrameProcessor$Memory", "faultHeld", "()I"⟩
def yRO_halt : MethodName := ⟨"FrameProcessor$Roster", "halt", "(LFrameProcessor$Task;I)V"⟩
def yPR_settle : MethodName := ⟨"FrameProcessor$Processor", "settle", "()V"⟩
def yWS_saveTo : MethodName := ⟨"FrameProcessor$WorkStack", "saveTo", "(LFrameProcessor$Task;)V"⟩
def yTA_clear : MethodName := ⟨"FrameProcessor$Task", "clear", "()V"⟩
def yRO_wakeFirst : MethodName := ⟨"FrameProcessor$Roster", "wakeFirst", "(II)I"⟩
def yRO_await : MethodName := ⟨"FrameProcessor$Roster", "await", "(LFrameProcessor$Task;II)V"⟩
def yRO_wakeAll : MethodName := ⟨"FrameProcessor$Roster", "wakeAll", "(I)V"⟩
def yLA_resume : MethodName := ⟨"FrameProcessorLaw", "resume", "(LFrameProcessor;I)I"⟩
def yFP_resume : MethodName := ⟨"FrameProcessor", "resume", "(I)V"⟩
def yLA_kill : MethodName := ⟨"FrameProcessorLaw", "kill", "(LFrameProcessor;I)I"⟩
def yFP_kill : MethodName := ⟨"FrameProcessor", "kill", "(I)V"⟩
def yLA_interrupt : MethodName := ⟨"FrameProcessorLaw", "interrupt", "(LFrameProcessor;I[J)I"⟩
def yFP_interrupt : MethodName := ⟨"FrameProcessor", "interrupt", "(I)I"⟩
def yME_makeOdd : MethodName := ⟨"FrameProcessor$Memory", "makeOdd", "(I)V"⟩
def yLA_tick : MethodName := ⟨"FrameProcessorLaw", "tick", "(LFrameProcessor;I[J)I"⟩
def yFP_tick : MethodName := ⟨"FrameProcessor", "tick", "(I)I"⟩
def yRO_passTicks : MethodName := ⟨"FrameProcessor$Roster", "passTicks", "(I)I"⟩
def yRO_leastTimeout : MethodName := ⟨"FrameProcessor$Roster", "leastTimeout", "()I"⟩
def yRO_lowerTimeouts : MethodName := ⟨"FrameProcessor$Roster", "lowerTimeouts", "(I)I"⟩
def yMO_init : MethodName := ⟨"FrameProcessorModel", "<init>", "()V"⟩
def yMO_thrown : MethodName := ⟨"FrameProcessorModel", "thrown", "()I"⟩
def yMO_run : MethodName := ⟨"FrameProcessorModel", "run", "(I)I"⟩
def yMO_first : MethodName := ⟨"FrameProcessorModel", "first", "()I"⟩
def yMO_instruction : MethodName := ⟨"FrameProcessorModel", "instruction", "()V"⟩
def yMO_read : MethodName := ⟨"FrameProcessorModel", "read", "(I)I"⟩
def yMO_at : MethodName := ⟨"FrameProcessorModel", "at", "(I)I"⟩
def yMO_wrong : MethodName := ⟨"FrameProcessorModel", "wrong", "(I)V"⟩
def yMO_nextByte : MethodName := ⟨"FrameProcessorModel", "nextByte", "()I"⟩
def yMO_byteAt : MethodName := ⟨"FrameProcessorModel", "byteAt", "(II)I"⟩
def yMO_low : MethodName := ⟨"FrameProcessorModel", "low", "(I)I"⟩
def yMO_act : MethodName := ⟨"FrameProcessorModel", "act", "(II)Z"⟩
def yMO_push : MethodName := ⟨"FrameProcessorModel", "push", "(I)V"⟩
def yMO_pop : MethodName := ⟨"FrameProcessorModel", "pop", "()I"⟩
def yMO_write : MethodName := ⟨"FrameProcessorModel", "write", "(II)V"⟩
def yMO_signed : MethodName := ⟨"FrameProcessorModel", "signed", "(I)I"⟩
def yMO_field : MethodName := ⟨"FrameProcessorModel", "field", "(II)I"⟩
def yMO_placed : MethodName := ⟨"FrameProcessorModel", "placed", "(III)I"⟩
def yMO_call : MethodName := ⟨"FrameProcessorModel", "call", "(I)V"⟩
def yMO_called : MethodName := ⟨"FrameProcessorModel", "called", "(II)I"⟩
def yMO_meant : MethodName := ⟨"FrameProcessorModel", "meant", "(I)I"⟩
def yMO_take : MethodName := ⟨"FrameProcessorModel", "take", "(I)I"⟩
def yMO_giveBack : MethodName := ⟨"FrameProcessorModel", "giveBack", "()V"⟩
def yMO_give : MethodName := ⟨"FrameProcessorModel", "give", "(I)V"⟩
def yMO_more : MethodName := ⟨"FrameProcessorModel", "more", "(I)Z"⟩
def yMO_fork : MethodName := ⟨"FrameProcessorModel", "fork", "()V"⟩
def yMO_leastFree : MethodName := ⟨"FrameProcessorModel", "leastFree", "()I"⟩
def yMO_begun : MethodName := ⟨"FrameProcessorModel", "begun", "(I)I"⟩
def yMO_block : MethodName := ⟨"FrameProcessorModel", "block", "(I)V"⟩
def yMO_exit : MethodName := ⟨"FrameProcessorModel", "exit", "(I)V"⟩
def yMO_wake : MethodName := ⟨"FrameProcessorModel", "wake", "(II)Z"⟩
def yMO_firstOf : MethodName := ⟨"FrameProcessorModel", "firstOf", "(II)I"⟩
def yMO_two : MethodName := ⟨"FrameProcessorModel", "two", "(I)V"⟩
def yMO_undo : MethodName := ⟨"FrameProcessorModel", "undo", "()V"⟩
def yMO_become : MethodName := ⟨"FrameProcessorModel", "become", "(II)V"⟩
def yMO_ready : MethodName := ⟨"FrameProcessorModel", "ready", "(I)V"⟩
def yMO_wakeAll : MethodName := ⟨"FrameProcessorModel", "wakeAll", "()V"⟩
def yMO_begin : MethodName := ⟨"FrameProcessorModel", "begin", "(III)V"⟩
def yMO_map : MethodName := ⟨"FrameProcessorModel", "map", "(II)V"⟩
def yMO_isNumber : MethodName := ⟨"FrameProcessorModel", "isNumber", "(II)Z"⟩
def yMO_protect : MethodName := ⟨"FrameProcessorModel", "protect", "(IZ)V"⟩
def yMO_noted : MethodName := ⟨"FrameProcessorModel", "noted", "(I)I"⟩
def yMO_poke : MethodName := ⟨"FrameProcessorModel", "poke", "(II)V"⟩
def yMO_peek : MethodName := ⟨"FrameProcessorModel", "peek", "(I)I"⟩
def yMO_start : MethodName := ⟨"FrameProcessorModel", "start", "(II)I"⟩
def yMO_resume : MethodName := ⟨"FrameProcessorModel", "resume", "(I)V"⟩
def yMO_kill : MethodName := ⟨"FrameProcessorModel", "kill", "(I)V"⟩
def yMO_interrupt : MethodName := ⟨"FrameProcessorModel", "interrupt", "(I)I"⟩
def yMO_tick : MethodName := ⟨"FrameProcessorModel", "tick", "(I)I"⟩
def yMO_running : MethodName := ⟨"FrameProcessorModel", "running", "()I"⟩
def yMO_process : MethodName := ⟨"FrameProcessorModel", "process", "(II)I"⟩
def yMO_stack : MethodName := ⟨"FrameProcessorModel", "stack", "(II)I"⟩
def yMO_page : MethodName := ⟨"FrameProcessorModel", "page", "(II)I"⟩
def yMO_free : MethodName := ⟨"FrameProcessorModel", "free", "(I)I"⟩
theorem zl_FP_0 : Cond.laysFinal "FrameProcessor" "FrameProcessor" "memory" "LFrameProcessor$Memory;" ∈ zt_T := zt_of2 13 (by decide +kernel) rfl
theorem zl_FP_1 : Cond.laysFinal "FrameProcessor" "FrameProcessor" "roster" "LFrameProcessor$Roster;" ∈ zt_T := zt_of2 15 (by decide +kernel) rfl
theorem zl_FP_2 : Cond.laysFinal "FrameProcessor" "FrameProcessor" "processor" "LFrameProcessor$Processor;" ∈ zt_T := zt_of2 17 (by decide +kernel) rfl
theorem zi_FP : ∀ q ∈ u_ws "FrameProcessor" zT_FP 3, q ∈ zt_T := by
  intro q hq
  obtain ⟨k, hk, rfl⟩ := List.mem_map.mp hq
  have hk := List.mem_range.mp hk
  match k, hk with
  | 0, _ => exact zl_FP_0
  | 1, _ => exact zl_FP_1
  | 2, _ => exact zl_FP_2
  | k + 3, hk => exact absurd hk (by omega)
theorem zl_ME_0 : Cond.laysFinal "FrameProcessor$Memory" "FrameProcessor$Memory" "words" "[I" ∈ zt_T := zt_of1 39 (by decide +kernel) rfl
theorem zl_ME_1 : Cond.laysFinal "FrameProcessor$Memory" "FrameProcessor$Memory" "reals" "[I" ∈ zt_T := zt_of1 41 (by decide +kernel) rfl
theorem zl_ME_2 : Cond.laysFinal "FrameProcessor$Memory" "FrameProcessor$Memory" "guarded" "[Z" ∈ zt_T := zt_of1 43 (by decide +kernel) rfl
theorem zl_ME_3 : Cond.laysFinal "FrameProcessor$Memory" "FrameProcessor$Memory" "notes" "[I" ∈ zt_T := zt_of1 45 (by decide +kernel) rfl
theorem zl_ME_4 : Cond.laysFinal "FrameProcessor$Memory" "FrameProcessor$Memory" "writtenPlaces" "[I" ∈ zt_T := zt_of1 47 (by decide +kernel) rfl
theorem zl_ME_5 : Cond.laysFinal "FrameProcessor$Memory" "FrameProcessor$Memory" "formerWords" "[I" ∈ zt_T := zt_of1 49 (by decide +kernel) rfl
theorem zl_ME_6 : Cond.lays "FrameProcessor$Memory" "FrameProcessor$Memory" "writes" "I" ∈ zt_T := zt_of1 51 (by decide +kernel) rfl
theorem zl_ME_7 : Cond.lays "FrameProcessor$Memory" "FrameProcessor$Memory" "fault" "I" ∈ zt_T := zt_of1 53 (by decide +kernel) rfl
theorem zi_ME : ∀ q ∈ u_ws "FrameProcessor$Memory" zT_ME 8, q ∈ zt_T := by
  intro q hq
  obtain ⟨k, hk, rfl⟩ := List.mem_map.mp hq
  have hk := List.mem_range.mp hk
  match k, hk with
  | 0, _ => exact zl_ME_0
  | 1, _ => exact zl_ME_1
  | 2, _ => exact zl_ME_2
  | 3, _ => exact zl_ME_3
  | 4, _ => exact zl_ME_4
  | 5, _ => exact zl_ME_5
  | 6, _ => exact zl_ME_6
  | 7, _ => exact zl_ME_7
  | k + 8, hk => exact absurd hk (by omega)
theorem zl_RO_0 : Cond.laysFinal "FrameProcessor$Roster" "FrameProcessor$Roster" "tasks" "[LFrameProcessor$Task;" ∈ zt_T := zt_of1 125 (by decide +kernel) rfl
theorem zl_RO_1 : Cond.lays "FrameProcessor$Roster" "FrameProcessor$Roster" "changes" "I" ∈ zt_T := zt_of1 127 (by decide +kernel) rfl
theorem zi_RO : ∀ q ∈ u_ws "FrameProcessor$Roster" zT_RO 2, q ∈ zt_T := by
  intro q hq
  obtain ⟨k, hk, rfl⟩ := List.mem_map.mp hq
  have hk := List.mem_range.mp hk
  match k, hk with
  | 0, _ => exact zl_RO_0
  | 1, _ => exact zl_RO_1
  | k + 2, hk => exact absurd hk (by omega)
theorem zl_PR_0 : Cond.laysFinal "FrameProcessor$Processor" "FrameProcessor$Processor" "memory" "LFrameProcessor$Memory;" ∈ zt_T := zt_of1 215 (by decide +kernel) rfl
theorem zl_PR_1 : Cond.laysFinal "FrameProcessor$Processor" "FrameProcessor$Processor" "roster" "LFrameProcessor$Roster;" ∈ zt_T := zt_of1 217 (by decide +kernel) rfl
theorem zl_PR_2 : Cond.laysFinal "FrameProcessor$Processor" "FrameProcessor$Processor" "frames" "LFrameProcessor$Frames;" ∈ zt_T := zt_of1 219 (by decide +kernel) rfl
theorem zl_PR_3 : Cond.laysFinal "FrameProcessor$Processor" "FrameProcessor$Processor" "stack" "LFrameProcessor$WorkStack;" ∈ zt_T := zt_of1 221 (by decide +kernel) rfl
theorem zl_PR_4 : Cond.laysFinal "FrameProcessor$Processor" "FrameProcessor$Processor" "instruction" "LFrameProcessor$Instruction;" ∈ zt_T := zt_of1 223 (by decide +kernel) rfl
theorem zl_PR_5 : Cond.lays "FrameProcessor$Processor" "FrameProcessor$Processor" "task" "LFrameProcessor$Task;" ∈ zt_T := zt_of1 225 (by decide +kernel) rfl
theorem zl_PR_6 : Cond.lays "FrameProcessor$Processor" "FrameProcessor$Processor" "frame" "I" ∈ zt_T := zt_of1 227 (by decide +kernel) rfl
theorem zl_PR_7 : Cond.lays "FrameProcessor$Processor" "FrameProcessor$Processor" "savesNext" "Z" ∈ zt_T := zt_of1 229 (by decide +kernel) rfl
theorem zl_PR_8 : Cond.lays "FrameProcessor$Processor" "FrameProcessor$Processor" "ends" "Z" ∈ zt_T := zt_of1 231 (by decide +kernel) rfl
theorem zl_PR_9 : Cond.lays "FrameProcessor$Processor" "FrameProcessor$Processor" "blocks" "Z" ∈ zt_T := zt_of1 233 (by decide +kernel) rfl
theorem zl_PR_10 : Cond.lays "FrameProcessor$Processor" "FrameProcessor$Processor" "waits" "Z" ∈ zt_T := zt_of1 235 (by decide +kernel) rfl
theorem zl_PR_11 : Cond.lays "FrameProcessor$Processor" "FrameProcessor$Processor" "monitor" "I" ∈ zt_T := zt_of1 237 (by decide +kernel) rfl
theorem zl_PR_12 : Cond.lays "FrameProcessor$Processor" "FrameProcessor$Processor" "condition" "I" ∈ zt_T := zt_of1 239 (by decide +kernel) rfl
theorem zl_PR_13 : Cond.lays "FrameProcessor$Processor" "FrameProcessor$Processor" "timeout" "I" ∈ zt_T := zt_of2 1 (by decide +kernel) rfl
theorem zl_PR_14 : Cond.lays "FrameProcessor$Processor" "FrameProcessor$Processor" "child" "LFrameProcessor$Task;" ∈ zt_T := zt_of2 3 (by decide +kernel) rfl
theorem zl_PR_15 : Cond.lays "FrameProcessor$Processor" "FrameProcessor$Processor" "childFrame" "I" ∈ zt_T := zt_of2 5 (by decide +kernel) rfl
theorem zl_PR_16 : Cond.lays "FrameProcessor$Processor" "FrameProcessor$Processor" "childPriority" "I" ∈ zt_T := zt_of2 7 (by decide +kernel) rfl
theorem zi_PR : ∀ q ∈ u_ws "FrameProcessor$Processor" zT_PR 17, q ∈ zt_T := by
  intro q hq
  obtain ⟨k, hk, rfl⟩ := List.mem_map.mp hq
  have hk := List.mem_range.mp hk
  match k, hk with
  | 0, _ => exact zl_PR_0
  | 1, _ => exact zl_PR_1
  | 2, _ => exact zl_PR_2
  | 3, _ => exact zl_PR_3
  | 4, _ => exact zl_PR_4
  | 5, _ => exact zl_PR_5
  | 6, _ => exact zl_PR_6
  | 7, _ => exact zl_PR_7
  | 8, _ => exact zl_PR_8
  | 9, _ => exact zl_PR_9
  | 10, _ => exact zl_PR_10
  | 11, _ => exact zl_PR_11
  | 12, _ => exact zl_PR_12
  | 13, _ => exact zl_PR_13
  | 14, _ => exact zl_PR_14
  | 15, _ => exact zl_PR_15
  | 16, _ => exact zl_PR_16
  | k + 17, hk => exact absurd hk (by omega)
theorem zl_FR_0 : Cond.laysFinal "FrameProcessor$Frames" "FrameProcessor$Frames" "memory" "LFrameProcessor$Memory;" ∈ zt_T := zt_of1 143 (by decide +kernel) rfl
theorem zi_FR : ∀ q ∈ u_ws "FrameProcessor$Frames" zT_FR 1, q ∈ zt_T := by
  intro q hq
  obtain ⟨k, hk, rfl⟩ := List.mem_map.mp hq
  have hk := List.mem_range.mp hk
  match k, hk with
  | 0, _ => exact zl_FR_0
  | k + 1, hk => exact absurd hk (by omega)
theorem zl_WS_0 : Cond.laysFinal "FrameProcessor$WorkStack" "FrameProcessor$WorkStack" "memory" "LFrameProcessor$Memory;" ∈ zt_T := zt_of1 155 (by decide +kernel) rfl
theorem zl_WS_1 : Cond.laysFinal "FrameProcessor$WorkStack" "FrameProcessor$WorkStack" "words" "[I" ∈ zt_T := zt_of1 157 (by decide +kernel) rfl
theorem zl_WS_2 : Cond.lays "FrameProcessor$WorkStack" "FrameProcessor$WorkStack" "depth" "I" ∈ zt_T := zt_of1 159 (by decide +kernel) rfl
theorem zi_WS : ∀ q ∈ u_ws "FrameProcessor$WorkStack" zT_WS 3, q ∈ zt_T := by
  intro q hq
  obtain ⟨k, hk, rfl⟩ := List.mem_map.mp hq
  have hk := List.mem_range.mp hk
  match k, hk with
  | 0, _ => exact zl_WS_0
  | 1, _ => exact zl_WS_1
  | 2, _ => exact zl_WS_2
  | k + 3, hk => exact absurd hk (by omega)
theorem zl_IN_0 : Cond.laysFinal "FrameProcessor$Instruction" "FrameProcessor$Instruction" "memory" "LFrameProcessor$Memory;" ∈ zt_T := zt_of1 181 (by decide +kernel) rfl
theorem zl_IN_1 : Cond.laysFinal "FrameProcessor$Instruction" "FrameProcessor$Instruction" "frames" "LFrameProcessor$Frames;" ∈ zt_T := zt_of1 183 (by decide +kernel) rfl
theorem zl_IN_2 : Cond.lays "FrameProcessor$Instruction" "FrameProcessor$Instruction" "g" "I" ∈ zt_T := zt_of1 185 (by decide +kernel) rfl
theorem zl_IN_3 : Cond.lays "FrameProcessor$Instruction" "FrameProcessor$Instruction" "globalFrame" "I" ∈ zt_T := zt_of1 187 (by decide +kernel) rfl
theorem zl_IN_4 : Cond.lays "FrameProcessor$Instruction" "FrameProcessor$Instruction" "first" "I" ∈ zt_T := zt_of1 189 (by decide +kernel) rfl
theorem zl_IN_5 : Cond.lays "FrameProcessor$Instruction" "FrameProcessor$Instruction" "code" "I" ∈ zt_T := zt_of1 191 (by decide +kernel) rfl
theorem zl_IN_6 : Cond.lays "FrameProcessor$Instruction" "FrameProcessor$Instruction" "operand" "I" ∈ zt_T := zt_of1 193 (by decide +kernel) rfl
theorem zl_IN_7 : Cond.lays "FrameProcessor$Instruction" "FrameProcessor$Instruction" "next" "I" ∈ zt_T := zt_of1 195 (by decide +kernel) rfl
theorem zi_IN : ∀ q ∈ u_ws "FrameProcessor$Instruction" zT_IN 8, q ∈ zt_T := by
  intro q hq
  obtain ⟨k, hk, rfl⟩ := List.mem_map.mp hq
  have hk := List.mem_range.mp hk
  match k, hk with
  | 0, _ => exact zl_IN_0
  | 1, _ => exact zl_IN_1
  | 2, _ => exact zl_IN_2
  | 3, _ => exact zl_IN_3
  | 4, _ => exact zl_IN_4
  | 5, _ => exact zl_IN_5
  | 6, _ => exact zl_IN_6
  | 7, _ => exact zl_IN_7
  | k + 8, hk => exact absurd hk (by omega)
theorem zl_TA_0 : Cond.laysFinal "FrameProcessor$Task" "FrameProcessor$Task" "number" "I" ∈ zt_T := zt_of1 102 (by decide +kernel) rfl
theorem zl_TA_1 : Cond.laysFinal "FrameProcessor$Task" "FrameProcessor$Task" "words" "[I" ∈ zt_T := zt_of1 104 (by decide +kernel) rfl
theorem zl_TA_2 : Cond.lays "FrameProcessor$Task" "FrameProcessor$Task" "state" "I" ∈ zt_T := zt_of1 106 (by decide +kernel) rfl
theorem zl_TA_3 : Cond.lays "FrameProcessor$Task" "FrameProcessor$Task" "priority" "I" ∈ zt_T := zt_of1 108 (by decide +kernel) rfl
theorem zl_TA_4 : Cond.lays "FrameProcessor$Task" "FrameProcessor$Task" "frame" "I" ∈ zt_T := zt_of1 110 (by decide +kernel) rfl
theorem zl_TA_5 : Cond.lays "FrameProcessor$Task" "FrameProcessor$Task" "depth" "I" ∈ zt_T := zt_of1 112 (by decide +kernel) rfl
theorem zl_TA_6 : Cond.lays "FrameProcessor$Task" "FrameProcessor$Task" "address" "I" ∈ zt_T := zt_of1 114 (by decide +kernel) rfl
theorem zl_TA_7 : Cond.lays "FrameProcessor$Task" "FrameProcessor$Task" "timeout" "I" ∈ zt_T := zt_of1 116 (by decide +kernel) rfl
theorem zl_TA_8 : Cond.lays "FrameProcessor$Task" "FrameProcessor$Task" "fault" "I" ∈ zt_T := zt_of1 118 (by decide +kernel) rfl
theorem zl_TA_9 : Cond.lays "FrameProcessor$Task" "FrameProcessor$Task" "since" "I" ∈ zt_T := zt_of1 120 (by decide +kernel) rfl
theorem zi_TA : ∀ q ∈ u_ws "FrameProcessor$Task" zT_TA 10, q ∈ zt_T := by
  intro q hq
  obtain ⟨k, hk, rfl⟩ := List.mem_map.mp hq
  have hk := List.mem_range.mp hk
  match k, hk with
  | 0, _ => exact zl_TA_0
  | 1, _ => exact zl_TA_1
  | 2, _ => exact zl_TA_2
  | 3, _ => exact zl_TA_3
  | 4, _ => exact zl_TA_4
  | 5, _ => exact zl_TA_5
  | 6, _ => exact zl_TA_6
  | 7, _ => exact zl_TA_7
  | 8, _ => exact zl_TA_8
  | 9, _ => exact zl_TA_9
  | k + 10, hk => exact absurd hk (by omega)
theorem zl_MO_0 : Cond.lays "FrameProcessorModel" "FrameProcessorModel" "thrown" "I" ∈ zt_T := zt_of4 89 (by decide +kernel) rfl
theorem zl_MO_1 : Cond.laysFinal "FrameProcessorModel" "FrameProcessorModel" "map" "[I" ∈ zt_T := zt_of4 91 (by decide +kernel) rfl
theorem zl_MO_2 : Cond.laysFinal "FrameProcessorModel" "FrameProcessorModel" "notes" "[I" ∈ zt_T := zt_of4 93 (by decide +kernel) rfl
theorem zl_MO_3 : Cond.laysFinal "FrameProcessorModel" "FrameProcessorModel" "words" "[I" ∈ zt_T := zt_of4 95 (by decide +kernel) rfl
theorem zl_MO_4 : Cond.laysFinal "FrameProcessorModel" "FrameProcessorModel" "guarded" "[Z" ∈ zt_T := zt_of4 97 (by decide +kernel) rfl
theorem zl_MO_5 : Cond.laysFinal "FrameProcessorModel" "FrameProcessorModel" "state" "[I" ∈ zt_T := zt_of4 99 (by decide +kernel) rfl
theorem zl_MO_6 : Cond.laysFinal "FrameProcessorModel" "FrameProcessorModel" "priority" "[I" ∈ zt_T := zt_of4 101 (by decide +kernel) rfl
theorem zl_MO_7 : Cond.laysFinal "FrameProcessorModel" "FrameProcessorModel" "frame" "[I" ∈ zt_T := zt_of4 103 (by decide +kernel) rfl
theorem zl_MO_8 : Cond.laysFinal "FrameProcessorModel" "FrameProcessorModel" "size" "[I" ∈ zt_T := zt_of4 105 (by decide +kernel) rfl
theorem zl_MO_9 : Cond.laysFinal "FrameProcessorModel" "FrameProcessorModel" "stack" "[I" ∈ zt_T := zt_of4 107 (by decide +kernel) rfl
theorem zl_MO_10 : Cond.laysFinal "FrameProcessorModel" "FrameProcessorModel" "where" "[I" ∈ zt_T := zt_of4 109 (by decide +kernel) rfl
theorem zl_MO_11 : Cond.laysFinal "FrameProcessorModel" "FrameProcessorModel" "timeout" "[I" ∈ zt_T := zt_of4 111 (by decide +kernel) rfl
theorem zl_MO_12 : Cond.laysFinal "FrameProcessorModel" "FrameProcessorModel" "faults" "[I" ∈ zt_T := zt_of4 113 (by decide +kernel) rfl
theorem zl_MO_13 : Cond.laysFinal "FrameProcessorModel" "FrameProcessorModel" "since" "[J" ∈ zt_T := zt_of4 115 (by decide +kernel) rfl
theorem zl_MO_14 : Cond.lays "FrameProcessorModel" "FrameProcessorModel" "time" "J" ∈ zt_T := zt_of4 117 (by decide +kernel) rfl
theorem zl_MO_15 : Cond.lays "FrameProcessorModel" "FrameProcessorModel" "written" "I" ∈ zt_T := zt_of4 119 (by decide +kernel) rfl
theorem zl_MO_16 : Cond.lays "FrameProcessorModel" "FrameProcessorModel" "fault" "I" ∈ zt_T := zt_of4 121 (by decide +kernel) rfl
theorem zl_MO_17 : Cond.laysFinal "FrameProcessorModel" "FrameProcessorModel" "place" "[I" ∈ zt_T := zt_of4 123 (by decide +kernel) rfl
theorem zl_MO_18 : Cond.laysFinal "FrameProcessorModel" "FrameProcessorModel" "before" "[I" ∈ zt_T := zt_of4 125 (by decide +kernel) rfl
theorem zl_MO_19 : Cond.lays "FrameProcessorModel" "FrameProcessorModel" "me" "I" ∈ zt_T := zt_of4 127 (by decide +kernel) rfl
theorem zl_MO_20 : Cond.lays "FrameProcessorModel" "FrameProcessorModel" "top" "I" ∈ zt_T := zt_of4 129 (by decide +kernel) rfl
theorem zl_MO_21 : Cond.lays "FrameProcessorModel" "FrameProcessorModel" "next" "I" ∈ zt_T := zt_of4 131 (by decide +kernel) rfl
theorem zl_MO_22 : Cond.lays "FrameProcessorModel" "FrameProcessorModel" "code" "I" ∈ zt_T := zt_of4 133 (by decide +kernel) rfl
theorem zl_MO_23 : Cond.lays "FrameProcessorModel" "FrameProcessorModel" "globals" "I" ∈ zt_T := zt_of4 135 (by decide +kernel) rfl
theorem zl_MO_24 : Cond.lays "FrameProcessorModel" "FrameProcessorModel" "globalNumber" "I" ∈ zt_T := zt_of4 137 (by decide +kernel) rfl
theorem zl_MO_25 : Cond.laysFinal "FrameProcessorModel" "FrameProcessorModel" "mine" "[I" ∈ zt_T := zt_of4 139 (by decide +kernel) rfl
theorem zl_MO_26 : Cond.lays "FrameProcessorModel" "FrameProcessorModel" "waking" "I" ∈ zt_T := zt_of4 141 (by decide +kernel) rfl
theorem zl_MO_27 : Cond.laysFinal "FrameProcessorModel" "FrameProcessorModel" "woken" "[I" ∈ zt_T := zt_of4 143 (by decide +kernel) rfl
theorem zl_MO_28 : Cond.lays "FrameProcessorModel" "FrameProcessorModel" "yields" "Z" ∈ zt_T := zt_of4 145 (by decide +kernel) rfl
theorem zl_MO_29 : Cond.lays "FrameProcessorModel" "FrameProcessorModel" "newborn" "I" ∈ zt_T := zt_of4 147 (by decide +kernel) rfl
theorem zl_MO_30 : Cond.lays "FrameProcessorModel" "FrameProcessorModel" "newFrame" "I" ∈ zt_T := zt_of4 149 (by decide +kernel) rfl
theorem zl_MO_31 : Cond.lays "FrameProcessorModel" "FrameProcessorModel" "newPriority" "I" ∈ zt_T := zt_of4 151 (by decide +kernel) rfl
theorem zi_MO : ∀ q ∈ u_ws "FrameProcessorModel" zT_MO 32, q ∈ zt_T := by
  intro q hq
  obtain ⟨k, hk, rfl⟩ := List.mem_map.mp hq
  have hk := List.mem_range.mp hk
  match k, hk with
  | 0, _ => exact zl_MO_0
  | 1, _ => exact zl_MO_1
  | 2, _ => exact zl_MO_2
  | 3, _ => exact zl_MO_3
  | 4, _ => exact zl_MO_4
  | 5, _ => exact zl_MO_5
  | 6, _ => exact zl_MO_6
  | 7, _ => exact zl_MO_7
  | 8, _ => exact zl_MO_8
  | 9, _ => exact zl_MO_9
  | 10, _ => exact zl_MO_10
  | 11, _ => exact zl_MO_11
  | 12, _ => exact zl_MO_12
  | 13, _ => exact zl_MO_13
  | 14, _ => exact zl_MO_14
  | 15, _ => exact zl_MO_15
  | 16, _ => exact zl_MO_16
  | 17, _ => exact zl_MO_17
  | 18, _ => exact zl_MO_18
  | 19, _ => exact zl_MO_19
  | 20, _ => exact zl_MO_20
  | 21, _ => exact zl_MO_21
  | 22, _ => exact zl_MO_22
  | 23, _ => exact zl_MO_23
  | 24, _ => exact zl_MO_24
  | 25, _ => exact zl_MO_25
  | 26, _ => exact zl_MO_26
  | 27, _ => exact zl_MO_27
  | 28, _ => exact zl_MO_28
  | 29, _ => exact zl_MO_29
  | 30, _ => exact zl_MO_30
  | 31, _ => exact zl_MO_31
  | k + 32, hk => exact absurd hk (by omega)
theorem zf_TA_26 : Cond.fieldLink "FrameProcessor$Task" 26 "FrameProcessor$Task" "priority" "I" ∈ zt_T := zt_of1 80 (by decide +kernel) rfl
theorem zf_TA_38 : Cond.fieldLink "FrameProcessor$Task" 38 "FrameProcessor$Task" "since" "I" ∈ zt_T := zt_of1 100 (by decide +kernel) rfl
theorem zm_RO_31 : Cond.methodLink "FrameProcessor$Roster" 31 yTA_goesAhead ∈ zt_T := zt_of2 32 (by decide +kernel) rfl
theorem zf_RO_13 : Cond.fieldLink "FrameProcessor$Roster" 13 "FrameProcessor$Roster" "tasks" "[LFrameProcessor$Task;" ∈ zt_T := zt_of1 123 (by decide +kernel) rfl
theorem zf_RO_20 : Cond.fieldLink "FrameProcessor$Roster" 20 "FrameProcessor$Task" "state" "I" ∈ zt_T := zt_of1 78 (by decide +kernel) rfl
theorem zf_RO_28 : Cond.fieldLink "FrameProcessor$Roster" 28 "FrameProcessor$Task" "address" "I" ∈ zt_T := zt_of1 92 (by decide +kernel) rfl
theorem zm_RO_24 : Cond.methodLink "FrameProcessor$Roster" 24 yRO_firstAt ∈ zt_T := zt_of2 28 (by decide +kernel) rfl
theorem zf_FP_19 : Cond.fieldLink "FrameProcessor" 19 "FrameProcessor" "roster" "LFrameProcessor$Roster;" ∈ zt_T := zt_of2 11 (by decide +kernel) rfl
theorem zm_FP_77 : Cond.methodLink "FrameProcessor" 77 yRO_runner ∈ zt_T := zt_of2 24 (by decide +kernel) rfl
theorem zf_FP_112 : Cond.fieldLink "FrameProcessor" 112 "FrameProcessor$Task" "number" "I" ∈ zt_T := zt_of1 73 (by decide +kernel) rfl
theorem zf_RO_35 : Cond.fieldLink "FrameProcessor$Roster" 35 "FrameProcessor$Task" "since" "I" ∈ zt_T := zt_of1 101 (by decide +kernel) rfl
theorem zm_FP_85 : Cond.methodLink "FrameProcessor" 85 yRO_taskAt ∈ zt_T := zt_of2 40 (by decide +kernel) rfl
theorem zf_FP_89 : Cond.fieldLink "FrameProcessor" 89 "FrameProcessor$Task" "state" "I" ∈ zt_T := zt_of1 79 (by decide +kernel) rfl
theorem zf_FP_115 : Cond.fieldLink "FrameProcessor" 115 "FrameProcessor$Task" "priority" "I" ∈ zt_T := zt_of1 82 (by decide +kernel) rfl
theorem zf_FP_118 : Cond.fieldLink "FrameProcessor" 118 "FrameProcessor$Task" "frame" "I" ∈ zt_T := zt_of1 86 (by decide +kernel) rfl
theorem zf_FP_121 : Cond.fieldLink "FrameProcessor" 121 "FrameProcessor$Task" "depth" "I" ∈ zt_T := zt_of1 90 (by decide +kernel) rfl
theorem zf_FP_124 : Cond.fieldLink "FrameProcessor" 124 "FrameProcessor$Task" "address" "I" ∈ zt_T := zt_of1 93 (by decide +kernel) rfl
theorem zf_FP_127 : Cond.fieldLink "FrameProcessor" 127 "FrameProcessor$Task" "timeout" "I" ∈ zt_T := zt_of1 96 (by decide +kernel) rfl
theorem zf_FP_130 : Cond.fieldLink "FrameProcessor" 130 "FrameProcessor$Task" "fault" "I" ∈ zt_T := zt_of1 99 (by decide +kernel) rfl
theorem zm_FP_133 : Cond.methodLink "FrameProcessor" 133 yRO_placeOf ∈ zt_T := zt_of2 44 (by decide +kernel) rfl
theorem zf_TA_32 : Cond.fieldLink "FrameProcessor$Task" 32 "FrameProcessor$Task" "depth" "I" ∈ zt_T := zt_of1 88 (by decide +kernel) rfl
theorem zf_TA_11 : Cond.fieldLink "FrameProcessor$Task" 11 "FrameProcessor$Task" "words" "[I" ∈ zt_T := zt_of1 75 (by decide +kernel) rfl
theorem zm_FP_137 : Cond.methodLink "FrameProcessor" 137 yTA_wordFromTop ∈ zt_T := zt_of2 52 (by decide +kernel) rfl
theorem zf_ME_15 : Cond.fieldLink "FrameProcessor$Memory" 15 "FrameProcessor$Memory" "reals" "[I" ∈ zt_T := zt_of1 32 (by decide +kernel) rfl
theorem zf_ME_18 : Cond.fieldLink "FrameProcessor$Memory" 18 "FrameProcessor$Memory" "guarded" "[Z" ∈ zt_T := zt_of1 33 (by decide +kernel) rfl
theorem zm_FP_32 : Cond.methodLink "FrameProcessor" 32 yME_isPage ∈ zt_T := zt_of2 60 (by decide +kernel) rfl
theorem zf_FP_10 : Cond.fieldLink "FrameProcessor" 10 "FrameProcessor" "memory" "LFrameProcessor$Memory;" ∈ zt_T := zt_of2 10 (by decide +kernel) rfl
theorem zm_FP_140 : Cond.methodLink "FrameProcessor" 140 yME_realOf ∈ zt_T := zt_of2 63 (by decide +kernel) rfl
theorem zm_FP_143 : Cond.methodLink "FrameProcessor" 143 yME_isGuarded ∈ zt_T := zt_of2 67 (by decide +kernel) rfl
theorem zf_ME_11 : Cond.fieldLink "FrameProcessor$Memory" 11 "FrameProcessor$Memory" "words" "[I" ∈ zt_T := zt_of1 31 (by decide +kernel) rfl
theorem zm_FP_66 : Cond.methodLink "FrameProcessor" 66 yME_look ∈ zt_T := zt_of2 75 (by decide +kernel) rfl
theorem zf_ME_22 : Cond.fieldLink "FrameProcessor$Memory" 22 "FrameProcessor$Memory" "notes" "[I" ∈ zt_T := zt_of1 34 (by decide +kernel) rfl
theorem zc_ME_31 : Cond.constant "FrameProcessor$Memory" 31 65535 ∈ zt_T := zt_of2 213 (by decide +kernel) rfl
theorem zf_ME_40 : Cond.fieldLink "FrameProcessor$Memory" 40 "FrameProcessor$Memory" "writes" "I" ∈ zt_T := zt_of1 37 (by decide +kernel) rfl
theorem zf_ME_44 : Cond.fieldLink "FrameProcessor$Memory" 44 "FrameProcessor$Memory" "fault" "I" ∈ zt_T := zt_of1 38 (by decide +kernel) rfl
theorem zf_FR_9 : Cond.fieldLink "FrameProcessor$Frames" 9 "FrameProcessor$Frames" "memory" "LFrameProcessor$Memory;" ∈ zt_T := zt_of1 142 (by decide +kernel) rfl
theorem zm_FR_21 : Cond.methodLink "FrameProcessor$Frames" 21 yME_fail ∈ zt_T := zt_of3 20 (by decide +kernel) rfl
theorem zm_FR_29 : Cond.methodLink "FrameProcessor$Frames" 29 yFR_isElsewhere ∈ zt_T := zt_of3 13 (by decide +kernel) rfl
theorem zm_FR_15 : Cond.methodLink "FrameProcessor$Frames" 15 yME_read ∈ zt_T := zt_of3 16 (by decide +kernel) rfl
theorem zc_FR_33 : Cond.constant "FrameProcessor$Frames" 33 65535 ∈ zt_T := zt_of3 32 (by decide +kernel) rfl
theorem zf_ME_25 : Cond.fieldLink "FrameProcessor$Memory" 25 "FrameProcessor$Memory" "writtenPlaces" "[I" ∈ zt_T := zt_of1 35 (by decide +kernel) rfl
theorem zf_ME_28 : Cond.fieldLink "FrameProcessor$Memory" 28 "FrameProcessor$Memory" "formerWords" "[I" ∈ zt_T := zt_of1 36 (by decide +kernel) rfl
theorem zm_FR_25 : Cond.methodLink "FrameProcessor$Frames" 25 yME_write ∈ zt_T := zt_of3 37 (by decide +kernel) rfl
theorem zm_FR_34 : Cond.methodLink "FrameProcessor$Frames" 34 yFR_byteAt ∈ zt_T := zt_of3 28 (by decide +kernel) rfl
theorem zm_FR_38 : Cond.methodLink "FrameProcessor$Frames" 38 yFR_take ∈ zt_T := zt_of3 33 (by decide +kernel) rfl
theorem zf_PR_68 : Cond.fieldLink "FrameProcessor$Processor" 68 "FrameProcessor$Processor" "childPriority" "I" ∈ zt_T := zt_of1 214 (by decide +kernel) rfl
theorem zf_PR_15 : Cond.fieldLink "FrameProcessor$Processor" 15 "FrameProcessor$Processor" "roster" "LFrameProcessor$Roster;" ∈ zt_T := zt_of1 199 (by decide +kernel) rfl
theorem zm_PR_253 : Cond.methodLink "FrameProcessor$Processor" 253 yRO_leastFree ∈ zt_T := zt_of3 1 (by decide +kernel) rfl
theorem zf_PR_57 : Cond.fieldLink "FrameProcessor$Processor" 57 "FrameProcessor$Processor" "child" "LFrameProcessor$Task;" ∈ zt_T := zt_of1 212 (by decide +kernel) rfl
theorem zf_PR_9 : Cond.fieldLink "FrameProcessor$Processor" 9 "FrameProcessor$Processor" "memory" "LFrameProcessor$Memory;" ∈ zt_T := zt_of1 198 (by decide +kernel) rfl
theorem zm_PR_153 : Cond.methodLink "FrameProcessor$Processor" 153 yME_fail ∈ zt_T := zt_of3 5 (by decide +kernel) rfl
theorem zf_PR_24 : Cond.fieldLink "FrameProcessor$Processor" 24 "FrameProcessor$Processor" "frames" "LFrameProcessor$Frames;" ∈ zt_T := zt_of1 200 (by decide +kernel) rfl
theorem zm_PR_243 : Cond.methodLink "FrameProcessor$Processor" 243 yFR_meant ∈ zt_T := zt_of3 9 (by decide +kernel) rfl
theorem zm_PR_246 : Cond.methodLink "FrameProcessor$Processor" 246 yFR_isProcedure ∈ zt_T := zt_of3 21 (by decide +kernel) rfl
theorem zm_PR_250 : Cond.methodLink "FrameProcessor$Processor" 250 yFR_open ∈ zt_T := zt_of3 24 (by decide +kernel) rfl
theorem zf_PR_64 : Cond.fieldLink "FrameProcessor$Processor" 64 "FrameProcessor$Processor" "childFrame" "I" ∈ zt_T := zt_of1 213 (by decide +kernel) rfl
theorem zf_RO_38 : Cond.fieldLink "FrameProcessor$Roster" 38 "FrameProcessor$Roster" "changes" "I" ∈ zt_T := zt_of1 124 (by decide +kernel) rfl
theorem zf_TA_35 : Cond.fieldLink "FrameProcessor$Task" 35 "FrameProcessor$Task" "state" "I" ∈ zt_T := zt_of1 77 (by decide +kernel) rfl
theorem zf_TA_19 : Cond.fieldLink "FrameProcessor$Task" 19 "FrameProcessor$Task" "address" "I" ∈ zt_T := zt_of1 91 (by decide +kernel) rfl
theorem zf_TA_41 : Cond.fieldLink "FrameProcessor$Task" 41 "FrameProcessor$Task" "timeout" "I" ∈ zt_T := zt_of1 94 (by decide +kernel) rfl
theorem zf_TA_44 : Cond.fieldLink "FrameProcessor$Task" 44 "FrameProcessor$Task" "fault" "I" ∈ zt_T := zt_of1 97 (by decide +kernel) rfl
theorem zm_RO_41 : Cond.methodLink "FrameProcessor$Roster" 41 yRO_nextChange ∈ zt_T := zt_of3 57 (by decide +kernel) rfl
theorem zm_RO_45 : Cond.methodLink "FrameProcessor$Roster" 45 yTA_enter ∈ zt_T := zt_of3 61 (by decide +kernel) rfl
theorem zf_RO_49 : Cond.fieldLink "FrameProcessor$Roster" 49 "FrameProcessor$Task" "frame" "I" ∈ zt_T := zt_of1 85 (by decide +kernel) rfl
theorem zf_RO_52 : Cond.fieldLink "FrameProcessor$Roster" 52 "FrameProcessor$Task" "priority" "I" ∈ zt_T := zt_of1 81 (by decide +kernel) rfl
theorem zf_RO_55 : Cond.fieldLink "FrameProcessor$Roster" 55 "FrameProcessor$Task" "depth" "I" ∈ zt_T := zt_of1 89 (by decide +kernel) rfl
theorem zm_RO_58 : Cond.methodLink "FrameProcessor$Roster" 58 yRO_makeReady ∈ zt_T := zt_of3 53 (by decide +kernel) rfl
theorem zm_PR_61 : Cond.methodLink "FrameProcessor$Processor" 61 yME_undo ∈ zt_T := zt_of3 45 (by decide +kernel) rfl
theorem zm_PR_44 : Cond.methodLink "FrameProcessor$Processor" 44 yME_begin ∈ zt_T := zt_of2 233 (by decide +kernel) rfl
theorem zm_PR_49 : Cond.methodLink "FrameProcessor$Processor" 49 yPR_prepareChild ∈ zt_T := zt_of2 237 (by decide +kernel) rfl
theorem zm_PR_53 : Cond.methodLink "FrameProcessor$Processor" 53 yME_hasFailed ∈ zt_T := zt_of3 41 (by decide +kernel) rfl
theorem zm_PR_71 : Cond.methodLink "FrameProcessor$Processor" 71 yRO_begin ∈ zt_T := zt_of3 49 (by decide +kernel) rfl
theorem zf_PR_76 : Cond.fieldLink "FrameProcessor$Processor" 76 "FrameProcessor$Task" "number" "I" ∈ zt_T := zt_of1 72 (by decide +kernel) rfl
theorem zf_WS_25 : Cond.fieldLink "FrameProcessor$WorkStack" 25 "FrameProcessor$WorkStack" "depth" "I" ∈ zt_T := zt_of1 154 (by decide +kernel) rfl
theorem zf_WS_13 : Cond.fieldLink "FrameProcessor$WorkStack" 13 "FrameProcessor$WorkStack" "words" "[I" ∈ zt_T := zt_of1 153 (by decide +kernel) rfl
theorem zf_WS_26 : Cond.fieldLink "FrameProcessor$WorkStack" 26 "FrameProcessor$Task" "words" "[I" ∈ zt_T := zt_of1 76 (by decide +kernel) rfl
theorem zf_WS_21 : Cond.fieldLink "FrameProcessor$WorkStack" 21 "FrameProcessor$Task" "depth" "I" ∈ zt_T := zt_of1 87 (by decide +kernel) rfl
theorem zf_PR_31 : Cond.fieldLink "FrameProcessor$Processor" 31 "FrameProcessor$Processor" "stack" "LFrameProcessor$WorkStack;" ∈ zt_T := zt_of1 201 (by decide +kernel) rfl
theorem zm_PR_137 : Cond.methodLink "FrameProcessor$Processor" 137 yWS_loadFrom ∈ zt_T := zt_of3 96 (by decide +kernel) rfl
theorem zf_PR_114 : Cond.fieldLink "FrameProcessor$Processor" 114 "FrameProcessor$Processor" "task" "LFrameProcessor$Task;" ∈ zt_T := zt_of1 203 (by decide +kernel) rfl
theorem zf_PR_140 : Cond.fieldLink "FrameProcessor$Processor" 140 "FrameProcessor$Task" "frame" "I" ∈ zt_T := zt_of1 84 (by decide +kernel) rfl
theorem zf_PR_85 : Cond.fieldLink "FrameProcessor$Processor" 85 "FrameProcessor$Processor" "frame" "I" ∈ zt_T := zt_of1 204 (by decide +kernel) rfl
theorem zf_PR_141 : Cond.fieldLink "FrameProcessor$Processor" 141 "FrameProcessor$Processor" "savesNext" "Z" ∈ zt_T := zt_of1 205 (by decide +kernel) rfl
theorem zf_PR_144 : Cond.fieldLink "FrameProcessor$Processor" 144 "FrameProcessor$Processor" "ends" "Z" ∈ zt_T := zt_of1 206 (by decide +kernel) rfl
theorem zf_PR_110 : Cond.fieldLink "FrameProcessor$Processor" 110 "FrameProcessor$Processor" "blocks" "Z" ∈ zt_T := zt_of1 207 (by decide +kernel) rfl
theorem zf_PR_147 : Cond.fieldLink "FrameProcessor$Processor" 147 "FrameProcessor$Processor" "waits" "Z" ∈ zt_T := zt_of1 208 (by decide +kernel) rfl
theorem zf_IN_34 : Cond.fieldLink "FrameProcessor$Instruction" 34 "FrameProcessor$Instruction" "first" "I" ∈ zt_T := zt_of1 174 (by decide +kernel) rfl
theorem zf_IN_55 : Cond.fieldLink "FrameProcessor$Instruction" 55 "FrameProcessor$Instruction" "next" "I" ∈ zt_T := zt_of1 179 (by decide +kernel) rfl
theorem zf_IN_52 : Cond.fieldLink "FrameProcessor$Instruction" 52 "FrameProcessor$Instruction" "operand" "I" ∈ zt_T := zt_of1 177 (by decide +kernel) rfl
theorem zf_IN_15 : Cond.fieldLink "FrameProcessor$Instruction" 15 "FrameProcessor$Instruction" "frames" "LFrameProcessor$Frames;" ∈ zt_T := zt_of1 169 (by decide +kernel) rfl
theorem zm_IN_37 : Cond.methodLink "FrameProcessor$Instruction" 37 yFR_byteAt ∈ zt_T := zt_of3 105 (by decide +kernel) rfl
theorem zf_IN_9 : Cond.fieldLink "FrameProcessor$Instruction" 9 "FrameProcessor$Instruction" "memory" "LFrameProcessor$Memory;" ∈ zt_T := zt_of1 168 (by decide +kernel) rfl
theorem zm_IN_48 : Cond.methodLink "FrameProcessor$Instruction" 48 yME_fail ∈ zt_T := zt_of3 108 (by decide +kernel) rfl
theorem zm_IN_21 : Cond.methodLink "FrameProcessor$Instruction" 21 yME_read ∈ zt_T := zt_of3 104 (by decide +kernel) rfl
theorem zf_IN_27 : Cond.fieldLink "FrameProcessor$Instruction" 27 "FrameProcessor$Instruction" "g" "I" ∈ zt_T := zt_of1 170 (by decide +kernel) rfl
theorem zf_IN_31 : Cond.fieldLink "FrameProcessor$Instruction" 31 "FrameProcessor$Instruction" "globalFrame" "I" ∈ zt_T := zt_of1 172 (by decide +kernel) rfl
theorem zf_IN_41 : Cond.fieldLink "FrameProcessor$Instruction" 41 "FrameProcessor$Instruction" "code" "I" ∈ zt_T := zt_of1 175 (by decide +kernel) rfl
theorem zf_IN_44 : Cond.fieldLink "FrameProcessor$Instruction" 44 "FrameProcessor$Instruction" "OPERAND_BYTES" "[I" ∈ zt_T := zt_of3 106 (by decide +kernel) rfl
theorem zc_WS_27 : Cond.constant "FrameProcessor$WorkStack" 27 65535 ∈ zt_T := zt_of3 117 (by decide +kernel) rfl
theorem zf_WS_17 : Cond.fieldLink "FrameProcessor$WorkStack" 17 "FrameProcessor$WorkStack" "memory" "LFrameProcessor$Memory;" ∈ zt_T := zt_of1 152 (by decide +kernel) rfl
theorem zm_WS_28 : Cond.methodLink "FrameProcessor$WorkStack" 28 yME_fail ∈ zt_T := zt_of3 123 (by decide +kernel) rfl
theorem zf_PR_40 : Cond.fieldLink "FrameProcessor$Processor" 40 "FrameProcessor$Processor" "instruction" "LFrameProcessor$Instruction;" ∈ zt_T := zt_of1 202 (by decide +kernel) rfl
theorem zf_PR_190 : Cond.fieldLink "FrameProcessor$Processor" 190 "FrameProcessor$Instruction" "operand" "I" ∈ zt_T := zt_of1 178 (by decide +kernel) rfl
theorem zf_PR_92 : Cond.fieldLink "FrameProcessor$Processor" 92 "FrameProcessor$Instruction" "code" "I" ∈ zt_T := zt_of1 176 (by decide +kernel) rfl
theorem zm_PR_193 : Cond.methodLink "FrameProcessor$Processor" 193 yWS_push ∈ zt_T := zt_of3 113 (by decide +kernel) rfl
theorem zm_PR_196 : Cond.methodLink "FrameProcessor$Processor" 196 yME_read ∈ zt_T := zt_of3 118 (by decide +kernel) rfl
theorem zm_PR_200 : Cond.methodLink "FrameProcessor$Processor" 200 yWS_pop ∈ zt_T := zt_of3 119 (by decide +kernel) rfl
theorem zm_PR_162 : Cond.methodLink "FrameProcessor$Processor" 162 yME_write ∈ zt_T := zt_of3 124 (by decide +kernel) rfl
theorem zf_PR_203 : Cond.fieldLink "FrameProcessor$Processor" 203 "FrameProcessor$Instruction" "globalFrame" "I" ∈ zt_T := zt_of1 173 (by decide +kernel) rfl
theorem zm_PR_210 : Cond.methodLink "FrameProcessor$Processor" 210 yPR_shifted ∈ zt_T := zt_of3 132 (by decide +kernel) rfl
theorem zm_PR_206 : Cond.methodLink "FrameProcessor$Processor" 206 yPR_combined ∈ zt_T := zt_of3 129 (by decide +kernel) rfl
theorem zm_PR_223 : Cond.methodLink "FrameProcessor$Processor" 223 Lib.Math.max.name ∈ zt_T := zt_of3 152 (by decide +kernel) rfl
theorem zs_max : Cond.static Lib.Math.max.name ∈ zt_T := zt_of3 153 (by decide +kernel) rfl
theorem zs_maxi : Cond.initialized "java/lang/Math" ∈ zt_T := zt_of1 16 (by decide +kernel) rfl
set_option maxRecDepth 20000 in
theorem zs_maxc : Cond.code Lib.Math.max.name Lib.Math.max.code 2 (some .int) ∈ zt_T := zt_of3 154 rfl rfl
theorem zc_PR_222 : Cond.constant "FrameProcessor$Processor" 222 65535 ∈ zt_T := zt_of3 147 (by decide +kernel) rfl
theorem zm_PR_219 : Cond.methodLink "FrameProcessor$Processor" 219 yPR_fieldShift ∈ zt_T := zt_of3 148 (by decide +kernel) rfl
theorem zm_PR_213 : Cond.methodLink "FrameProcessor$Processor" 213 yIN_jump ∈ zt_T := zt_of3 139 (by decide +kernel) rfl
theorem zm_PR_216 : Cond.methodLink "FrameProcessor$Processor" 216 yPR_fieldMask ∈ zt_T := zt_of3 143 (by decide +kernel) rfl
theorem zf_PR_159 : Cond.fieldLink "FrameProcessor$Processor" 159 "FrameProcessor$Instruction" "next" "I" ∈ zt_T := zt_of1 180 (by decide +kernel) rfl
theorem zm_PR_234 : Cond.methodLink "FrameProcessor$Processor" 234 yPR_goTo ∈ zt_T := zt_of3 166 (by decide +kernel) rfl
theorem zm_PR_156 : Cond.methodLink "FrameProcessor$Processor" 156 yPR_saveNext ∈ zt_T := zt_of3 159 (by decide +kernel) rfl
theorem zf_PR_228 : Cond.fieldLink "FrameProcessor$Processor" 228 "FrameProcessor$Instruction" "g" "I" ∈ zt_T := zt_of1 171 (by decide +kernel) rfl
theorem zm_PR_231 : Cond.methodLink "FrameProcessor$Processor" 231 yFR_procedure ∈ zt_T := zt_of3 163 (by decide +kernel) rfl
theorem zm_PR_237 : Cond.methodLink "FrameProcessor$Processor" 237 yFR_giveBack ∈ zt_T := zt_of3 170 (by decide +kernel) rfl
theorem zm_PR_240 : Cond.methodLink "FrameProcessor$Processor" 240 yFR_take ∈ zt_T := zt_of3 174 (by decide +kernel) rfl
theorem zm_PR_263 : Cond.methodLink "FrameProcessor$Processor" 263 yME_addressOf ∈ zt_T := zt_of3 183 (by decide +kernel) rfl
theorem zf_PR_117 : Cond.fieldLink "FrameProcessor$Processor" 117 "FrameProcessor$Processor" "monitor" "I" ∈ zt_T := zt_of1 209 (by decide +kernel) rfl
theorem zf_PR_175 : Cond.fieldLink "FrameProcessor$Processor" 175 "FrameProcessor$Processor" "condition" "I" ∈ zt_T := zt_of1 210 (by decide +kernel) rfl
theorem zm_PR_257 : Cond.methodLink "FrameProcessor$Processor" 257 yPR_enterMonitor ∈ zt_T := zt_of3 179 (by decide +kernel) rfl
theorem zm_PR_260 : Cond.methodLink "FrameProcessor$Processor" 260 yPR_exitMonitor ∈ zt_T := zt_of3 186 (by decide +kernel) rfl
theorem zf_PR_178 : Cond.fieldLink "FrameProcessor$Processor" 178 "FrameProcessor$Processor" "timeout" "I" ∈ zt_T := zt_of1 211 (by decide +kernel) rfl
theorem zm_PR_266 : Cond.methodLink "FrameProcessor$Processor" 266 yPR_awaitCondition ∈ zt_T := zt_of3 190 (by decide +kernel) rfl
theorem zm_PR_150 : Cond.methodLink "FrameProcessor$Processor" 150 yWS_isOver ∈ zt_T := zt_of3 202 (by decide +kernel) rfl
theorem zf_RO_62 : Cond.fieldLink "FrameProcessor$Roster" 62 "FrameProcessor$Task" "fault" "I" ∈ zt_T := zt_of1 98 (by decide +kernel) rfl
theorem zm_TA_22 : Cond.methodLink "FrameProcessor$Task" 22 yTA_enter ∈ zt_T := zt_of3 226 (by decide +kernel) rfl
theorem zf_TA_29 : Cond.fieldLink "FrameProcessor$Task" 29 "FrameProcessor$Task" "frame" "I" ∈ zt_T := zt_of1 83 (by decide +kernel) rfl
theorem zf_RO_68 : Cond.fieldLink "FrameProcessor$Roster" 68 "FrameProcessor$Task" "number" "I" ∈ zt_T := zt_of1 74 (by decide +kernel) rfl
theorem zf_RO_65 : Cond.fieldLink "FrameProcessor$Roster" 65 "FrameProcessor$Task" "timeout" "I" ∈ zt_T := zt_of1 95 (by decide +kernel) rfl
theorem zm_RO_71 : Cond.methodLink "FrameProcessor$Roster" 71 yRO_wakeFirst ∈ zt_T := zt_of3 239 (by decide +kernel) rfl
theorem zm_PR_171 : Cond.methodLink "FrameProcessor$Processor" 171 yRO_wakeFirst ∈ zt_T := zt_of3 227 (by decide +kernel) rfl
theorem zm_PR_165 : Cond.methodLink "FrameProcessor$Processor" 165 yWS_saveTo ∈ zt_T := zt_of3 218 (by decide +kernel) rfl
theorem zm_PR_168 : Cond.methodLink "FrameProcessor$Processor" 168 yTA_clear ∈ zt_T := zt_of3 222 (by decide +kernel) rfl
theorem zm_PR_181 : Cond.methodLink "FrameProcessor$Processor" 181 yRO_await ∈ zt_T := zt_of3 231 (by decide +kernel) rfl
theorem zm_PR_184 : Cond.methodLink "FrameProcessor$Processor" 184 yRO_wakeAll ∈ zt_T := zt_of3 235 (by decide +kernel) rfl
theorem zm_PR_187 : Cond.methodLink "FrameProcessor$Processor" 187 yRO_makeReady ∈ zt_T := zt_of4 0 (by decide +kernel) rfl
theorem zm_PR_124 : Cond.methodLink "FrameProcessor$Processor" 124 yPR_endAtNext ∈ zt_T := zt_of3 198 (by decide +kernel) rfl
theorem zm_PR_134 : Cond.methodLink "FrameProcessor$Processor" 134 yPR_settle ∈ zt_T := zt_of3 214 (by decide +kernel) rfl
theorem zm_PR_127 : Cond.methodLink "FrameProcessor$Processor" 127 yME_faultHeld ∈ zt_T := zt_of3 206 (by decide +kernel) rfl
theorem zm_PR_131 : Cond.methodLink "FrameProcessor$Processor" 131 yRO_halt ∈ zt_T := zt_of3 210 (by decide +kernel) rfl
theorem zm_PR_120 : Cond.methodLink "FrameProcessor$Processor" 120 yRO_block ∈ zt_T := zt_of3 194 (by decide +kernel) rfl
theorem zm_PR_81 : Cond.methodLink "FrameProcessor$Processor" 81 yPR_beginWith ∈ zt_T := zt_of3 92 (by decide +kernel) rfl
theorem zm_PR_88 : Cond.methodLink "FrameProcessor$Processor" 88 yIN_fetch ∈ zt_T := zt_of3 100 (by decide +kernel) rfl
theorem zm_PR_107 : Cond.methodLink "FrameProcessor$Processor" 107 yPR_coordinate ∈ zt_T := zt_of3 175 (by decide +kernel) rfl
theorem zm_PR_104 : Cond.methodLink "FrameProcessor$Processor" 104 yPR_transfer ∈ zt_T := zt_of3 155 (by decide +kernel) rfl
theorem zm_PR_101 : Cond.methodLink "FrameProcessor$Processor" 101 yPR_arrange ∈ zt_T := zt_of3 135 (by decide +kernel) rfl
theorem zm_PR_98 : Cond.methodLink "FrameProcessor$Processor" 98 yPR_combine ∈ zt_T := zt_of3 125 (by decide +kernel) rfl
theorem zm_PR_95 : Cond.methodLink "FrameProcessor$Processor" 95 yPR_move ∈ zt_T := zt_of3 109 (by decide +kernel) rfl
theorem zm_ME_32 : Cond.methodLink "FrameProcessor$Memory" 32 yME_look ∈ zt_T := zt_of4 29 (by decide +kernel) rfl
theorem zm_ME_36 : Cond.methodLink "FrameProcessor$Memory" 36 yME_put ∈ zt_T := zt_of4 30 (by decide +kernel) rfl
theorem zm_RO_78 : Cond.methodLink "FrameProcessor$Roster" 78 yRO_lowerTimeouts ∈ zt_T := zt_of4 47 (by decide +kernel) rfl
theorem zm_RO_75 : Cond.methodLink "FrameProcessor$Roster" 75 yRO_leastTimeout ∈ zt_T := zt_of4 43 (by decide +kernel) rfl
theorem zf_MO_63 : Cond.fieldLink "FrameProcessorModel" 63 "FrameProcessorModel" "thrown" "I" ∈ zt_T := zt_of4 57 (by decide +kernel) rfl
theorem zf_MO_23 : Cond.fieldLink "FrameProcessorModel" 23 "FrameProcessorModel" "state" "[I" ∈ zt_T := zt_of4 62 (by decide +kernel) rfl
theorem zf_MO_26 : Cond.fieldLink "FrameProcessorModel" 26 "FrameProcessorModel" "priority" "[I" ∈ zt_T := zt_of4 63 (by decide +kernel) rfl
theorem zf_MO_47 : Cond.fieldLink "FrameProcessorModel" 47 "FrameProcessorModel" "since" "[J" ∈ zt_T := zt_of4 70 (by decide +kernel) rfl
theorem zf_MO_7 : Cond.fieldLink "FrameProcessorModel" 7 "FrameProcessorModel" "map" "[I" ∈ zt_T := zt_of4 58 (by decide +kernel) rfl
theorem zf_MO_68 : Cond.fieldLink "FrameProcessorModel" 68 "FrameProcessorModel" "fault" "I" ∈ zt_T := zt_of4 73 (by decide +kernel) rfl
theorem zm_MO_71 : Cond.methodLink "FrameProcessorModel" 71 yMO_at ∈ zt_T := zt_of4 175 (by decide +kernel) rfl
theorem zf_MO_13 : Cond.fieldLink "FrameProcessorModel" 13 "FrameProcessorModel" "notes" "[I" ∈ zt_T := zt_of4 59 (by decide +kernel) rfl
theorem zf_MO_16 : Cond.fieldLink "FrameProcessorModel" 16 "FrameProcessorModel" "words" "[I" ∈ zt_T := zt_of4 60 (by decide +kernel) rfl
theorem zm_MO_75 : Cond.methodLink "FrameProcessorModel" 75 yMO_wrong ∈ zt_T := zt_of4 179 (by decide +kernel) rfl
theorem zc_MO_67 : Cond.constant "FrameProcessorModel" 67 65535 ∈ zt_T := zt_of4 194 (by decide +kernel) rfl
theorem zm_MO_82 : Cond.methodLink "FrameProcessorModel" 82 yMO_low ∈ zt_T := zt_of4 191 (by decide +kernel) rfl
theorem zm_MO_85 : Cond.methodLink "FrameProcessorModel" 85 yMO_read ∈ zt_T := zt_of4 171 (by decide +kernel) rfl
theorem zf_MO_88 : Cond.fieldLink "FrameProcessorModel" 88 "FrameProcessorModel" "code" "I" ∈ zt_T := zt_of4 79 (by decide +kernel) rfl
theorem zf_MO_91 : Cond.fieldLink "FrameProcessorModel" 91 "FrameProcessorModel" "next" "I" ∈ zt_T := zt_of4 78 (by decide +kernel) rfl
theorem zm_MO_94 : Cond.methodLink "FrameProcessorModel" 94 yMO_byteAt ∈ zt_T := zt_of4 187 (by decide +kernel) rfl
theorem zf_MO_57 : Cond.fieldLink "FrameProcessorModel" 57 "FrameProcessorModel" "mine" "[I" ∈ zt_T := zt_of4 82 (by decide +kernel) rfl
theorem zf_MO_98 : Cond.fieldLink "FrameProcessorModel" 98 "FrameProcessorModel" "top" "I" ∈ zt_T := zt_of4 77 (by decide +kernel) rfl
theorem zf_MO_51 : Cond.fieldLink "FrameProcessorModel" 51 "FrameProcessorModel" "place" "[I" ∈ zt_T := zt_of4 74 (by decide +kernel) rfl
theorem zf_MO_79 : Cond.fieldLink "FrameProcessorModel" 79 "FrameProcessorModel" "written" "I" ∈ zt_T := zt_of4 72 (by decide +kernel) rfl
theorem zf_MO_54 : Cond.fieldLink "FrameProcessorModel" 54 "FrameProcessorModel" "before" "[I" ∈ zt_T := zt_of4 75 (by decide +kernel) rfl
theorem zf_MO_19 : Cond.fieldLink "FrameProcessorModel" 19 "FrameProcessorModel" "guarded" "[Z" ∈ zt_T := zt_of4 61 (by decide +kernel) rfl
theorem zc_MO_101 : Cond.constant "FrameProcessorModel" 101 32768 ∈ zt_T := zt_of4 214 (by decide +kernel) rfl
theorem zc_MO_102 : Cond.constant "FrameProcessorModel" 102 65536 ∈ zt_T := zt_of4 215 (by decide +kernel) rfl
theorem zm_MO_103 : Cond.methodLink "FrameProcessorModel" 103 yMO_write ∈ zt_T := zt_of4 207 (by decide +kernel) rfl
theorem zm_MO_107 : Cond.methodLink "FrameProcessorModel" 107 yMO_meant ∈ zt_T := zt_of4 230 (by decide +kernel) rfl
theorem zm_MO_110 : Cond.methodLink "FrameProcessorModel" 110 yMO_take ∈ zt_T := zt_of4 234 (by decide +kernel) rfl
theorem zf_MO_29 : Cond.fieldLink "FrameProcessorModel" 29 "FrameProcessorModel" "frame" "[I" ∈ zt_T := zt_of4 64 (by decide +kernel) rfl
theorem zf_MO_113 : Cond.fieldLink "FrameProcessorModel" 113 "FrameProcessorModel" "me" "I" ∈ zt_T := zt_of4 76 (by decide +kernel) rfl
theorem zm_MO_116 : Cond.methodLink "FrameProcessorModel" 116 yMO_called ∈ zt_T := zt_of4 226 (by decide +kernel) rfl
theorem zm_MO_119 : Cond.methodLink "FrameProcessorModel" 119 yMO_give ∈ zt_T := zt_of5 2 (by decide +kernel) rfl
theorem zf_MO_200 : Cond.fieldLink "FrameProcessorModel" 200 "FrameProcessorModel" "newborn" "I" ∈ zt_T := zt_of4 86 (by decide +kernel) rfl
theorem zf_MO_203 : Cond.fieldLink "FrameProcessorModel" 203 "FrameProcessorModel" "newFrame" "I" ∈ zt_T := zt_of4 87 (by decide +kernel) rfl
theorem zf_MO_206 : Cond.fieldLink "FrameProcessorModel" 206 "FrameProcessorModel" "newPriority" "I" ∈ zt_T := zt_of4 88 (by decide +kernel) rfl
theorem zm_MO_197 : Cond.methodLink "FrameProcessorModel" 197 yMO_begun ∈ zt_T := zt_of5 18 (by decide +kernel) rfl
theorem zm_MO_194 : Cond.methodLink "FrameProcessorModel" 194 yMO_leastFree ∈ zt_T := zt_of5 14 (by decide +kernel) rfl
theorem zm_MO_138 : Cond.methodLink "FrameProcessorModel" 138 yMO_pop ∈ zt_T := zt_of4 203 (by decide +kernel) rfl
theorem zf_MO_38 : Cond.fieldLink "FrameProcessorModel" 38 "FrameProcessorModel" "where" "[I" ∈ zt_T := zt_of4 67 (by decide +kernel) rfl
theorem zf_MO_126 : Cond.fieldLink "FrameProcessorModel" 126 "FrameProcessorModel" "waking" "I" ∈ zt_T := zt_of4 83 (by decide +kernel) rfl
theorem zf_MO_60 : Cond.fieldLink "FrameProcessorModel" 60 "FrameProcessorModel" "woken" "[I" ∈ zt_T := zt_of4 84 (by decide +kernel) rfl
theorem zm_MO_129 : Cond.methodLink "FrameProcessorModel" 129 yMO_firstOf ∈ zt_T := zt_of5 34 (by decide +kernel) rfl
theorem zm_MO_183 : Cond.methodLink "FrameProcessorModel" 183 yMO_wake ∈ zt_T := zt_of5 30 (by decide +kernel) rfl
theorem zm_MO_145 : Cond.methodLink "FrameProcessorModel" 145 yMO_push ∈ zt_T := zt_of4 199 (by decide +kernel) rfl
theorem zm_MO_142 : Cond.methodLink "FrameProcessorModel" 142 yMO_signed ∈ zt_T := zt_of4 211 (by decide +kernel) rfl
theorem zm_MO_191 : Cond.methodLink "FrameProcessorModel" 191 yMO_two ∈ zt_T := zt_of5 38 (by decide +kernel) rfl
theorem zm_MO_174 : Cond.methodLink "FrameProcessorModel" 174 yMO_fork ∈ zt_T := zt_of5 10 (by decide +kernel) rfl
theorem zm_MO_177 : Cond.methodLink "FrameProcessorModel" 177 yMO_block ∈ zt_T := zt_of5 22 (by decide +kernel) rfl
theorem zm_MO_180 : Cond.methodLink "FrameProcessorModel" 180 yMO_exit ∈ zt_T := zt_of5 26 (by decide +kernel) rfl
theorem zf_MO_41 : Cond.fieldLink "FrameProcessorModel" 41 "FrameProcessorModel" "timeout" "[I" ∈ zt_T := zt_of4 68 (by decide +kernel) rfl
theorem zf_MO_187 : Cond.fieldLink "FrameProcessorModel" 187 "FrameProcessorModel" "yields" "Z" ∈ zt_T := zt_of4 85 (by decide +kernel) rfl
theorem zm_MO_148 : Cond.methodLink "FrameProcessorModel" 148 yMO_nextByte ∈ zt_T := zt_of4 183 (by decide +kernel) rfl
theorem zf_MO_151 : Cond.fieldLink "FrameProcessorModel" 151 "FrameProcessorModel" "globals" "I" ∈ zt_T := zt_of4 80 (by decide +kernel) rfl
theorem zm_MO_170 : Cond.methodLink "FrameProcessorModel" 170 yMO_more ∈ zt_T := zt_of5 6 (by decide +kernel) rfl
theorem zm_MO_154 : Cond.methodLink "FrameProcessorModel" 154 yMO_field ∈ zt_T := zt_of4 216 (by decide +kernel) rfl
theorem zm_MO_157 : Cond.methodLink "FrameProcessorModel" 157 yMO_placed ∈ zt_T := zt_of4 219 (by decide +kernel) rfl
theorem zf_MO_161 : Cond.fieldLink "FrameProcessorModel" 161 "FrameProcessorModel" "globalNumber" "I" ∈ zt_T := zt_of4 81 (by decide +kernel) rfl
theorem zm_MO_164 : Cond.methodLink "FrameProcessorModel" 164 yMO_call ∈ zt_T := zt_of4 222 (by decide +kernel) rfl
theorem zm_MO_167 : Cond.methodLink "FrameProcessorModel" 167 yMO_giveBack ∈ zt_T := zt_of4 238 (by decide +kernel) rfl
theorem zf_MO_122 : Cond.fieldLink "FrameProcessorModel" 122 "FrameProcessorModel" "time" "J" ∈ zt_T := zt_of4 71 (by decide +kernel) rfl
theorem zm_MO_132 : Cond.methodLink "FrameProcessorModel" 132 yMO_become ∈ zt_T := zt_of5 46 (by decide +kernel) rfl
theorem zf_MO_44 : Cond.fieldLink "FrameProcessorModel" 44 "FrameProcessorModel" "faults" "[I" ∈ zt_T := zt_of4 69 (by decide +kernel) rfl
theorem zm_MO_135 : Cond.methodLink "FrameProcessorModel" 135 yMO_ready ∈ zt_T := zt_of5 50 (by decide +kernel) rfl
theorem zf_MO_32 : Cond.fieldLink "FrameProcessorModel" 32 "FrameProcessorModel" "size" "[I" ∈ zt_T := zt_of4 65 (by decide +kernel) rfl
theorem zm_MO_215 : Cond.methodLink "FrameProcessorModel" 215 yMO_wakeAll ∈ zt_T := zt_of5 54 (by decide +kernel) rfl
theorem zm_MO_218 : Cond.methodLink "FrameProcessorModel" 218 yMO_begin ∈ zt_T := zt_of5 58 (by decide +kernel) rfl
theorem zf_MO_35 : Cond.fieldLink "FrameProcessorModel" 35 "FrameProcessorModel" "stack" "[I" ∈ zt_T := zt_of4 66 (by decide +kernel) rfl
theorem zm_MO_212 : Cond.methodLink "FrameProcessorModel" 212 yMO_undo ∈ zt_T := zt_of5 42 (by decide +kernel) rfl
theorem zm_MO_209 : Cond.methodLink "FrameProcessorModel" 209 yMO_act ∈ zt_T := zt_of4 195 (by decide +kernel) rfl
theorem zm_MO_222 : Cond.methodLink "FrameProcessorModel" 222 yMO_first ∈ zt_T := zt_of4 163 (by decide +kernel) rfl
theorem zm_MO_225 : Cond.methodLink "FrameProcessorModel" 225 yMO_instruction ∈ zt_T := zt_of4 167 (by decide +kernel) rfl
theorem zm_MO_228 : Cond.methodLink "FrameProcessorModel" 228 yMO_isNumber ∈ zt_T := zt_of5 66 (by decide +kernel) rfl
theorem zc_MO_231 : Cond.constant "FrameProcessorModel" 231 100000 ∈ zt_T := zt_of5 105 (by decide +kernel) rfl
theorem zm_FP_42 : Cond.methodLink "FrameProcessor" 42 yME_assign ∈ zt_T := zt_of2 153 (by decide +kernel) rfl
theorem zm_FP_36 : Cond.methodLink "FrameProcessor" 36 yME_isRealPage ∈ zt_T := zt_of2 87 (by decide +kernel) rfl
theorem zm_FP_46 : Cond.methodLink "FrameProcessor" 46 yME_setGuarded ∈ zt_T := zt_of2 164 (by decide +kernel) rfl
theorem zm_FP_50 : Cond.methodLink "FrameProcessor" 50 yME_takeNotes ∈ zt_T := zt_of2 175 (by decide +kernel) rfl
theorem zm_FP_54 : Cond.methodLink "FrameProcessor" 54 yME_isAddress ∈ zt_T := zt_of2 187 (by decide +kernel) rfl
theorem zm_FP_57 : Cond.methodLink "FrameProcessor" 57 yME_isThere ∈ zt_T := zt_of2 190 (by decide +kernel) rfl
theorem zm_FP_63 : Cond.methodLink "FrameProcessor" 63 yME_put ∈ zt_T := zt_of2 209 (by decide +kernel) rfl
theorem zf_FP_28 : Cond.fieldLink "FrameProcessor" 28 "FrameProcessor" "processor" "LFrameProcessor$Processor;" ∈ zt_T := zt_of2 12 (by decide +kernel) rfl
theorem zc_FP_69 : Cond.constant "FrameProcessor" 69 65535 ∈ zt_T := zt_of2 228 (by decide +kernel) rfl
theorem zm_FP_70 : Cond.methodLink "FrameProcessor" 70 yPR_launch ∈ zt_T := zt_of2 229 (by decide +kernel) rfl
theorem zm_FP_81 : Cond.methodLink "FrameProcessor" 81 yPR_step ∈ zt_T := zt_of3 88 (by decide +kernel) rfl
theorem zm_FP_95 : Cond.methodLink "FrameProcessor" 95 yRO_makeReady ∈ zt_T := zt_of4 8 (by decide +kernel) rfl
theorem zm_FP_98 : Cond.methodLink "FrameProcessor" 98 yTA_clear ∈ zt_T := zt_of4 16 (by decide +kernel) rfl
theorem zm_FP_101 : Cond.methodLink "FrameProcessor" 101 yRO_wakeFirst ∈ zt_T := zt_of4 24 (by decide +kernel) rfl
theorem zm_FP_104 : Cond.methodLink "FrameProcessor" 104 yME_makeOdd ∈ zt_T := zt_of4 25 (by decide +kernel) rfl
theorem zc_FP_108 : Cond.constant "FrameProcessor" 108 100000 ∈ zt_T := zt_of4 38 (by decide +kernel) rfl
theorem zm_FP_109 : Cond.methodLink "FrameProcessor" 109 yRO_passTicks ∈ zt_T := zt_of4 39 (by decide +kernel) rfl
set_option maxRecDepth 20000 in
theorem zd_TA_goesAhead : Cond.code yTA_goesAhead prog_7_method_5_code 2 (some .boolean) ∈ zt_T := zt_of2 35 rfl rfl
theorem zo_TA_goesAhead : Cond.instanceMethod yTA_goesAhead ∈ zt_T := zt_of2 33 (by decide +kernel) rfl
theorem zn_TA : Cond.initialized "FrameProcessor$Task" ∈ zt_T := zt_of1 4 (by decide +kernel) rfl
theorem ze_TA_goesAhead : Cond.selects "FrameProcessor$Task" yTA_goesAhead yTA_goesAhead ∈ zt_T := zt_of2 34 (by decide +kernel) rfl
set_option maxRecDepth 20000 in
theorem zd_RO_firstAt : Cond.code yRO_firstAt prog_6_method_5_code 7 (some (.object "FrameProcessor$Task")) ∈ zt_T := zt_of2 31 rfl rfl
theorem zo_RO_firstAt : Cond.instanceMethod yRO_firstAt ∈ zt_T := zt_of2 30 (by decide +kernel) rfl
theorem zn_RO : Cond.initialized "FrameProcessor$Roster" ∈ zt_T := zt_of1 3 (by decide +kernel) rfl
theorem ze_RO_firstAt : Cond.selects "FrameProcessor$Roster" yRO_firstAt yRO_firstAt ∈ zt_T := zt_ofS 0 (by decide +kernel) rfl
set_option maxRecDepth 20000 in
theorem zd_RO_runner : Cond.code yRO_runner prog_6_method_4_code 1 (some (.object "FrameProcessor$Task")) ∈ zt_T := zt_of2 27 rfl rfl
theorem zo_RO_runner : Cond.instanceMethod yRO_runner ∈ zt_T := zt_of2 25 (by decide +kernel) rfl
theorem ze_RO_runner : Cond.selects "FrameProcessor$Roster" yRO_runner yRO_runner ∈ zt_T := zt_of2 26 (by decide +kernel) rfl
set_option maxRecDepth 20000 in
theorem zd_FP_running : Cond.code yFP_running prog_1_method_13_code 2 (some .int) ∈ zt_T := zt_of2 23 rfl rfl
theorem zo_FP_running : Cond.instanceMethod yFP_running ∈ zt_T := zt_of2 21 (by decide +kernel) rfl
theorem zn_FP : Cond.initialized "FrameProcessor" ∈ zt_T := zt_of1 1 (by decide +kernel) rfl
theorem ze_FP_running : Cond.selects "FrameProcessor" yFP_running yFP_running ∈ zt_T := zt_of2 22 (by decide +kernel) rfl
set_option maxRecDepth 20000 in
theorem zd_RO_taskAt : Cond.code yRO_taskAt prog_6_method_2_code 2 (some (.object "FrameProcessor$Task")) ∈ zt_T := zt_of2 43 rfl rfl
theorem zo_RO_taskAt : Cond.instanceMethod yRO_taskAt ∈ zt_T := zt_of2 41 (by decide +kernel) rfl
theorem ze_RO_taskAt : Cond.selects "FrameProcessor$Roster" yRO_taskAt yRO_taskAt ∈ zt_T := zt_of2 42 (by decide +kernel) rfl
set_option maxRecDepth 20000 in
theorem zd_RO_placeOf : Cond.code yRO_placeOf prog_6_method_6_code 4 (some .int) ∈ zt_T := zt_of2 47 rfl rfl
theorem zo_RO_placeOf : Cond.instanceMethod yRO_placeOf ∈ zt_T := zt_of2 45 (by decide +kernel) rfl
theorem ze_RO_placeOf : Cond.selects "FrameProcessor$Roster" yRO_placeOf yRO_placeOf ∈ zt_T := zt_of2 46 (by decide +kernel) rfl
set_option maxRecDepth 20000 in
theorem zd_FP_process : Cond.code yFP_process prog_1_method_14_code 4 (some .int) ∈ zt_T := zt_of2 39 rfl rfl
theorem zo_FP_process : Cond.instanceMethod yFP_process ∈ zt_T := zt_of2 37 (by decide +kernel) rfl
theorem ze_FP_process : Cond.selects "FrameProcessor" yFP_process yFP_process ∈ zt_T := zt_of2 38 (by decide +kernel) rfl
set_option maxRecDepth 20000 in
theorem zd_TA_wordFromTop : Cond.code yTA_wordFromTop prog_7_method_4_code 2 (some .int) ∈ zt_T := zt_of2 55 rfl rfl
theorem zo_TA_wordFromTop : Cond.instanceMethod yTA_wordFromTop ∈ zt_T := zt_of2 53 (by decide +kernel) rfl
theorem ze_TA_wordFromTop : Cond.selects "FrameProcessor$Task" yTA_wordFromTop yTA_wordFromTop ∈ zt_T := zt_of2 54 (by decide +kernel) rfl
set_option maxRecDepth 20000 in
theorem zd_FP_stack : Cond.code yFP_stack prog_1_method_15_code 4 (some .int) ∈ zt_T := zt_of2 51 rfl rfl
theorem zo_FP_stack : Cond.instanceMethod yFP_stack ∈ zt_T := zt_of2 49 (by decide +kernel) rfl
theorem ze_FP_stack : Cond.selects "FrameProcessor" yFP_stack yFP_stack ∈ zt_T := zt_of2 50 (by decide +kernel) rfl
set_option maxRecDepth 20000 in
theorem zd_ME_isPage : Cond.code yME_isPage prog_4_method_3_code 1 (some .boolean) ∈ zt_T := zt_of2 62 rfl rfl
theorem zs_ME_isPage : Cond.static yME_isPage ∈ zt_T := zt_of2 61 (by decide +kernel) rfl
theorem zn_ME : Cond.initialized "FrameProcessor$Memory" ∈ zt_T := zt_of1 2 (by decide +kernel) rfl
set_option maxRecDepth 20000 in
theorem zd_ME_realOf : Cond.code yME_realOf prog_4_method_7_code 2 (some .int) ∈ zt_T := zt_of2 66 rfl rfl
theorem zo_ME_realOf : Cond.instanceMethod yME_realOf ∈ zt_T := zt_of2 64 (by decide +kernel) rfl
theorem ze_ME_realOf : Cond.selects "FrameProcessor$Memory" yME_realOf yME_realOf ∈ zt_T := zt_of2 65 (by decide +kernel) rfl
set_option maxRecDepth 20000 in
theorem zd_ME_isGuarded : Cond.code yME_isGuarded prog_4_method_9_code 2 (some .boolean) ∈ zt_T := zt_of2 70 rfl rfl
theorem zo_ME_isGuarded : Cond.instanceMethod yME_isGuarded ∈ zt_T := zt_of2 68 (by decide +kernel) rfl
theorem ze_ME_isGuarded : Cond.selects "FrameProcessor$Memory" yME_isGuarded yME_isGuarded ∈ zt_T := zt_of2 69 (by decide +kernel) rfl
set_option maxRecDepth 20000 in
theorem zd_FP_page : Cond.code yFP_page prog_1_method_16_code 3 (some .int) ∈ zt_T := zt_of2 59 rfl rfl
theorem zo_FP_page : Cond.instanceMethod yFP_page ∈ zt_T := zt_of2 57 (by decide +kernel) rfl
theorem ze_FP_page : Cond.selects "FrameProcessor" yFP_page yFP_page ∈ zt_T := zt_of2 58 (by decide +kernel) rfl
set_option maxRecDepth 20000 in
theorem zd_ME_look : Cond.code yME_look prog_4_method_12_code 3 (some .int) ∈ zt_T := zt_of2 78 rfl rfl
theorem zo_ME_look : Cond.instanceMethod yME_look ∈ zt_T := zt_of2 76 (by decide +kernel) rfl
theorem ze_ME_look : Cond.selects "FrameProcessor$Memory" yME_look yME_look ∈ zt_T := zt_of2 77 (by decide +kernel) rfl
set_option maxRecDepth 20000 in
theorem zd_FP_free : Cond.code yFP_free prog_1_method_17_code 4 (some .int) ∈ zt_T := zt_of2 74 rfl rfl
theorem zo_FP_free : Cond.instanceMethod yFP_free ∈ zt_T := zt_of2 72 (by decide +kernel) rfl
theorem ze_FP_free : Cond.selects "FrameProcessor" yFP_free yFP_free ∈ zt_T := zt_of2 73 (by decide +kernel) rfl
set_option maxRecDepth 20000 in
theorem zd_ME_isRealPage : Cond.code yME_isRealPage prog_4_method_4_code 1 (some .boolean) ∈ zt_T := zt_of2 89 rfl rfl
theorem zs_ME_isRealPage : Cond.static yME_isRealPage ∈ zt_T := zt_of2 88 (by decide +kernel) rfl
set_option maxRecDepth 20000 in
theorem zd_ME_assign : Cond.code yME_assign prog_4_method_6_code 3 none ∈ zt_T := zt_of2 156 rfl rfl
theorem zo_ME_assign : Cond.instanceMethod yME_assign ∈ zt_T := zt_of2 154 (by decide +kernel) rfl
theorem ze_ME_assign : Cond.selects "FrameProcessor$Memory" yME_assign yME_assign ∈ zt_T := zt_of2 155 (by decide +kernel) rfl
set_option maxRecDepth 20000 in
theorem zd_ME_setGuarded : Cond.code yME_setGuarded prog_4_method_8_code 3 none ∈ zt_T := zt_of2 167 rfl rfl
theorem zo_ME_setGuarded : Cond.instanceMethod yME_setGuarded ∈ zt_T := zt_of2 165 (by decide +kernel) rfl
theorem ze_ME_setGuarded : Cond.selects "FrameProcessor$Memory" yME_setGuarded yME_setGuarded ∈ zt_T := zt_of2 166 (by decide +kernel) rfl
set_option maxRecDepth 20000 in
theorem zd_ME_takeNotes : Cond.code yME_takeNotes prog_4_method_10_code 3 (some .int) ∈ zt_T := zt_of2 178 rfl rfl
theorem zo_ME_takeNotes : Cond.instanceMethod yME_takeNotes ∈ zt_T := zt_of2 176 (by decide +kernel) rfl
theorem ze_ME_takeNotes : Cond.selects "FrameProcessor$Memory" yME_takeNotes yME_takeNotes ∈ zt_T := zt_of2 177 (by decide +kernel) rfl
set_option maxRecDepth 20000 in
theorem zd_ME_isAddress : Cond.code yME_isAddress prog_4_method_2_code 1 (some .boolean) ∈ zt_T := zt_of2 189 rfl rfl
theorem zs_ME_isAddress : Cond.static yME_isAddress ∈ zt_T := zt_of2 188 (by decide +kernel) rfl
set_option maxRecDepth 20000 in
theorem zd_ME_isThere : Cond.code yME_isThere prog_4_method_11_code 2 (some .boolean) ∈ zt_T := zt_of2 193 rfl rfl
theorem zo_ME_isThere : Cond.instanceMethod yME_isThere ∈ zt_T := zt_of2 191 (by decide +kernel) rfl
theorem ze_ME_isThere : Cond.selects "FrameProcessor$Memory" yME_isThere yME_isThere ∈ zt_T := zt_of2 192 (by decide +kernel) rfl
set_option maxRecDepth 20000 in
theorem zd_ME_put : Cond.code yME_put prog_4_method_13_code 4 none ∈ zt_T := zt_of2 212 rfl rfl
theorem zo_ME_put : Cond.instanceMethod yME_put ∈ zt_T := zt_of2 210 (by decide +kernel) rfl
theorem ze_ME_put : Cond.selects "FrameProcessor$Memory" yME_put yME_put ∈ zt_T := zt_of2 211 (by decide +kernel) rfl
set_option maxRecDepth 20000 in
theorem zd_ME_begin : Cond.code yME_begin prog_4_method_15_code 1 none ∈ zt_T := zt_of2 236 rfl rfl
theorem zo_ME_begin : Cond.instanceMethod yME_begin ∈ zt_T := zt_of2 234 (by decide +kernel) rfl
theorem ze_ME_begin : Cond.selects "FrameProcessor$Memory" yME_begin yME_begin ∈ zt_T := zt_of2 235 (by decide +kernel) rfl
set_option maxRecDepth 20000 in
theorem zd_RO_leastFree : Cond.code yRO_leastFree prog_6_method_3_code 2 (some (.object "FrameProcessor$Task")) ∈ zt_T := zt_of3 4 rfl rfl
theorem zo_RO_leastFree : Cond.instanceMethod yRO_leastFree ∈ zt_T := zt_of3 2 (by decide +kernel) rfl
theorem ze_RO_leastFree : Cond.selects "FrameProcessor$Roster" yRO_leastFree yRO_leastFree ∈ zt_T := zt_of3 3 (by decide +kernel) rfl
set_option maxRecDepth 20000 in
theorem zd_ME_fail : Cond.code yME_fail prog_4_method_18_code 2 none ∈ zt_T := zt_of3 8 rfl rfl
theorem zo_ME_fail : Cond.instanceMethod yME_fail ∈ zt_T := zt_of3 6 (by decide +kernel) rfl
theorem ze_ME_fail : Cond.selects "FrameProcessor$Memory" yME_fail yME_fail ∈ zt_T := zt_of3 7 (by decide +kernel) rfl
set_option maxRecDepth 20000 in
theorem zd_FR_isElsewhere : Cond.code yFR_isElsewhere prog_2_method_5_code 1 (some .boolean) ∈ zt_T := zt_of3 15 rfl rfl
theorem zs_FR_isElsewhere : Cond.static yFR_isElsewhere ∈ zt_T := zt_of3 14 (by decide +kernel) rfl
theorem zn_FR : Cond.initialized "FrameProcessor$Frames" ∈ zt_T := zt_of1 6 (by decide +kernel) rfl
set_option maxRecDepth 20000 in
theorem zd_ME_read : Cond.code yME_read prog_4_method_19_code 3 (some .int) ∈ zt_T := zt_of3 19 rfl rfl
theorem zo_ME_read : Cond.instanceMethod yME_read ∈ zt_T := zt_of3 17 (by decide +kernel) rfl
theorem ze_ME_read : Cond.selects "FrameProcessor$Memory" yME_read yME_read ∈ zt_T := zt_of3 18 (by decide +kernel) rfl
set_option maxRecDepth 20000 in
theorem zd_FR_meant : Cond.code yFR_meant prog_2_method_6_code 3 (some .int) ∈ zt_T := zt_of3 12 rfl rfl
theorem zo_FR_meant : Cond.instanceMethod yFR_meant ∈ zt_T := zt_of3 10 (by decide +kernel) rfl
theorem ze_FR_meant : Cond.selects "FrameProcessor$Frames" yFR_meant yFR_meant ∈ zt_T := zt_of3 11 (by decide +kernel) rfl
set_option maxRecDepth 20000 in
theorem zd_FR_isProcedure : Cond.code yFR_isProcedure prog_2_method_4_code 1 (some .boolean) ∈ zt_T := zt_of3 23 rfl rfl
theorem zs_FR_isProcedure : Cond.static yFR_isProcedure ∈ zt_T := zt_of3 22 (by decide +kernel) rfl
set_option maxRecDepth 20000 in
theorem zd_FR_byteAt : Cond.code yFR_byteAt prog_2_method_7_code 4 (some .int) ∈ zt_T := zt_of3 31 rfl rfl
theorem zo_FR_byteAt : Cond.instanceMethod yFR_byteAt ∈ zt_T := zt_of3 29 (by decide +kernel) rfl
theorem ze_FR_byteAt : Cond.selects "FrameProcessor$Frames" yFR_byteAt yFR_byteAt ∈ zt_T := zt_of3 30 (by decide +kernel) rfl
set_option maxRecDepth 20000 in
theorem zd_ME_write : Cond.code yME_write prog_4_method_20_code 6 none ∈ zt_T := zt_of3 40 rfl rfl
theorem zo_ME_write : Cond.instanceMethod yME_write ∈ zt_T := zt_of3 38 (by decide +kernel) rfl
theorem ze_ME_write : Cond.selects "FrameProcessor$Memory" yME_write yME_write ∈ zt_T := zt_of3 39 (by decide +kernel) rfl
set_option maxRecDepth 20000 in
theorem zd_FR_take : Cond.code yFR_take prog_2_method_2_code 5 (some .int) ∈ zt_T := zt_of3 36 rfl rfl
theorem zo_FR_take : Cond.instanceMethod yFR_take ∈ zt_T := zt_of3 34 (by decide +kernel) rfl
theorem ze_FR_take : Cond.selects "FrameProcessor$Frames" yFR_take yFR_take ∈ zt_T := zt_of3 35 (by decide +kernel) rfl
set_option maxRecDepth 20000 in
theorem zd_FR_open : Cond.code yFR_open prog_2_method_9_code 7 (some .int) ∈ zt_T := zt_of3 27 rfl rfl
theorem zo_FR_open : Cond.instanceMethod yFR_open ∈ zt_T := zt_of3 25 (by decide +kernel) rfl
theorem ze_FR_open : Cond.selects "FrameProcessor$Frames" yFR_open yFR_open ∈ zt_T := zt_of3 26 (by decide +kernel) rfl
set_option maxRecDepth 20000 in
theorem zd_PR_prepareChild : Cond.code yPR_prepareChild prog_5_method_17_code 4 none ∈ zt_T := zt_of3 0 rfl rfl
theorem zo_PR_prepareChild : Cond.instanceMethod yPR_prepareChild ∈ zt_T := zt_of2 239 (by decide +kernel) rfl
theorem zn_PR : Cond.initialized "FrameProcessor$Processor" ∈ zt_T := zt_of1 5 (by decide +kernel) rfl
theorem ze_PR_prepareChild : Cond.selects "FrameProcessor$Processor" yPR_prepareChild yPR_prepareChild ∈ zt_T := zt_ofS 2 (by decide +kernel) rfl
set_option maxRecDepth 20000 in
theorem zd_ME_hasFailed : Cond.code yME_hasFailed prog_4_method_16_code 1 (some .boolean) ∈ zt_T := zt_of3 44 rfl rfl
theorem zo_ME_hasFailed : Cond.instanceMethod yME_hasFailed ∈ zt_T := zt_of3 42 (by decide +kernel) rfl
theorem ze_ME_hasFailed : Cond.selects "FrameProcessor$Memory" yME_hasFailed yME_hasFailed ∈ zt_T := zt_of3 43 (by decide +kernel) rfl
set_option maxRecDepth 20000 in
theorem zd_ME_undo : Cond.code yME_undo prog_4_method_21_code 2 none ∈ zt_T := zt_of3 48 rfl rfl
theorem zo_ME_undo : Cond.instanceMethod yME_undo ∈ zt_T := zt_of3 46 (by decide +kernel) rfl
theorem ze_ME_undo : Cond.selects "FrameProcessor$Memory" yME_undo yME_undo ∈ zt_T := zt_of3 47 (by decide +kernel) rfl
set_option maxRecDepth 20000 in
theorem zd_RO_nextChange : Cond.code yRO_nextChange prog_6_method_7_code 1 (some .int) ∈ zt_T := zt_of3 60 rfl rfl
theorem zo_RO_nextChange : Cond.instanceMethod yRO_nextChange ∈ zt_T := zt_of3 59 (by decide +kernel) rfl
theorem ze_RO_nextChange : Cond.selects "FrameProcessor$Roster" yRO_nextChange yRO_nextChange ∈ zt_T := zt_ofS 3 (by decide +kernel) rfl
set_option maxRecDepth 20000 in
theorem zd_TA_enter : Cond.code yTA_enter prog_7_method_3_code 3 none ∈ zt_T := zt_of3 64 rfl rfl
theorem zo_TA_enter : Cond.instanceMethod yTA_enter ∈ zt_T := zt_of3 62 (by decide +kernel) rfl
theorem ze_TA_enter : Cond.selects "FrameProcessor$Task" yTA_enter yTA_enter ∈ zt_T := zt_of3 63 (by decide +kernel) rfl
set_option maxRecDepth 20000 in
theorem zd_RO_makeReady : Cond.code yRO_makeReady prog_6_method_8_code 2 none ∈ zt_T := zt_of3 56 rfl rfl
theorem zo_RO_makeReady : Cond.instanceMethod yRO_makeReady ∈ zt_T := zt_of3 54 (by decide +kernel) rfl
theorem ze_RO_makeReady : Cond.selects "FrameProcessor$Roster" yRO_makeReady yRO_makeReady ∈ zt_T := zt_of3 55 (by decide +kernel) rfl
set_option maxRecDepth 20000 in
theorem zd_RO_begin : Cond.code yRO_begin prog_6_method_9_code 4 none ∈ zt_T := zt_of3 52 rfl rfl
theorem zo_RO_begin : Cond.instanceMethod yRO_begin ∈ zt_T := zt_of3 50 (by decide +kernel) rfl
theorem ze_RO_begin : Cond.selects "FrameProcessor$Roster" yRO_begin yRO_begin ∈ zt_T := zt_of3 51 (by decide +kernel) rfl
set_option maxRecDepth 20000 in
theorem zd_PR_launch : Cond.code yPR_launch prog_5_method_2_code 3 (some .int) ∈ zt_T := zt_of2 232 rfl rfl
theorem zo_PR_launch : Cond.instanceMethod yPR_launch ∈ zt_T := zt_of2 230 (by decide +kernel) rfl
theorem ze_PR_launch : Cond.selects "FrameProcessor$Processor" yPR_launch yPR_launch ∈ zt_T := zt_of2 231 (by decide +kernel) rfl
set_option maxRecDepth 20000 in
theorem zd_WS_loadFrom : Cond.code yWS_loadFrom prog_8_method_2_code 3 none ∈ zt_T := zt_of3 99 rfl rfl
theorem zo_WS_loadFrom : Cond.instanceMethod yWS_loadFrom ∈ zt_T := zt_of3 97 (by decide +kernel) rfl
theorem zn_WS : Cond.initialized "FrameProcessor$WorkStack" ∈ zt_T := zt_of1 7 (by decide +kernel) rfl
theorem ze_WS_loadFrom : Cond.selects "FrameProcessor$WorkStack" yWS_loadFrom yWS_loadFrom ∈ zt_T := zt_of3 98 (by decide +kernel) rfl
set_option maxRecDepth 20000 in
theorem zd_PR_beginWith : Cond.code yPR_beginWith prog_5_method_4_code 2 none ∈ zt_T := zt_of3 95 rfl rfl
theorem zo_PR_beginWith : Cond.instanceMethod yPR_beginWith ∈ zt_T := zt_of3 94 (by decide +kernel) rfl
theorem ze_PR_beginWith : Cond.selects "FrameProcessor$Processor" yPR_beginWith yPR_beginWith ∈ zt_T := zt_ofS 4 (by decide +kernel) rfl
set_option maxRecDepth 20000 in
theorem zd_IN_fetch : Cond.code yIN_fetch prog_3_method_2_code 5 none ∈ zt_T := zt_of3 103 rfl rfl
theorem zo_IN_fetch : Cond.instanceMethod yIN_fetch ∈ zt_T := zt_of3 101 (by decide +kernel) rfl
theorem zn_IN : Cond.initialized "FrameProcessor$Instruction" ∈ zt_T := zt_of1 8 (by decide +kernel) rfl
theorem ze_IN_fetch : Cond.selects "FrameProcessor$Instruction" yIN_fetch yIN_fetch ∈ zt_T := zt_of3 102 (by decide +kernel) rfl
set_option maxRecDepth 20000 in
theorem zd_WS_push : Cond.code yWS_push prog_8_method_5_code 2 none ∈ zt_T := zt_of3 116 rfl rfl
theorem zo_WS_push : Cond.instanceMethod yWS_push ∈ zt_T := zt_of3 114 (by decide +kernel) rfl
theorem ze_WS_push : Cond.selects "FrameProcessor$WorkStack" yWS_push yWS_push ∈ zt_T := zt_of3 115 (by decide +kernel) rfl
set_option maxRecDepth 20000 in
theorem zd_WS_pop : Cond.code yWS_pop prog_8_method_6_code 1 (some .int) ∈ zt_T := zt_of3 122 rfl rfl
theorem zo_WS_pop : Cond.instanceMethod yWS_pop ∈ zt_T := zt_of3 120 (by decide +kernel) rfl
theorem ze_WS_pop : Cond.selects "FrameProcessor$WorkStack" yWS_pop yWS_pop ∈ zt_T := zt_of3 121 (by decide +kernel) rfl
set_option maxRecDepth 20000 in
theorem zd_PR_move : Cond.code yPR_move prog_5_method_8_code 3 none ∈ zt_T := zt_of3 112 rfl rfl
theorem zo_PR_move : Cond.instanceMethod yPR_move ∈ zt_T := zt_of3 111 (by decide +kernel) rfl
theorem ze_PR_move : Cond.selects "FrameProcessor$Processor" yPR_move yPR_move ∈ zt_T := zt_ofS 5 (by decide +kernel) rfl
set_option maxRecDepth 20000 in
theorem zd_PR_shifted : Cond.code yPR_shifted prog_5_method_11_code 2 (some .int) ∈ zt_T := zt_of3 134 rfl rfl
theorem zs_PR_shifted : Cond.static yPR_shifted ∈ zt_T := zt_of3 133 (by decide +kernel) rfl
set_option maxRecDepth 20000 in
theorem zd_PR_combined : Cond.code yPR_combined prog_5_method_10_code 3 (some .int) ∈ zt_T := zt_of3 131 rfl rfl
theorem zs_PR_combined : Cond.static yPR_combined ∈ zt_T := zt_of3 130 (by decide +kernel) rfl
set_option maxRecDepth 20000 in
theorem zd_PR_combine : Cond.code yPR_combine prog_5_method_9_code 3 none ∈ zt_T := zt_of3 128 rfl rfl
theorem zo_PR_combine : Cond.instanceMethod yPR_combine ∈ zt_T := zt_of3 127 (by decide +kernel) rfl
theorem ze_PR_combine : Cond.selects "FrameProcessor$Processor" yPR_combine yPR_combine ∈ zt_T := zt_ofS 6 (by decide +kernel) rfl
set_option maxRecDepth 20000 in
theorem zd_IN_jump : Cond.code yIN_jump prog_3_method_3_code 1 none ∈ zt_T := zt_of3 142 rfl rfl
theorem zo_IN_jump : Cond.instanceMethod yIN_jump ∈ zt_T := zt_of3 140 (by decide +kernel) rfl
theorem ze_IN_jump : Cond.selects "FrameProcessor$Instruction" yIN_jump yIN_jump ∈ zt_T := zt_of3 141 (by decide +kernel) rfl
set_option maxRecDepth 20000 in
theorem zd_PR_fieldShift : Cond.code yPR_fieldShift prog_5_method_14_code 3 (some .int) ∈ zt_T := zt_of3 151 rfl rfl
theorem zo_PR_fieldShift : Cond.instanceMethod yPR_fieldShift ∈ zt_T := zt_of3 150 (by decide +kernel) rfl
theorem ze_PR_fieldShift : Cond.selects "FrameProcessor$Processor" yPR_fieldShift yPR_fieldShift ∈ zt_T := zt_ofS 9 (by decide +kernel) rfl
set_option maxRecDepth 20000 in
theorem zd_PR_fieldMask : Cond.code yPR_fieldMask prog_5_method_13_code 2 (some .int) ∈ zt_T := zt_of3 146 rfl rfl
theorem zo_PR_fieldMask : Cond.instanceMethod yPR_fieldMask ∈ zt_T := zt_of3 145 (by decide +kernel) rfl
theorem ze_PR_fieldMask : Cond.selects "FrameProcessor$Processor" yPR_fieldMask yPR_fieldMask ∈ zt_T := zt_ofS 8 (by decide +kernel) rfl
set_option maxRecDepth 20000 in
theorem zd_PR_arrange : Cond.code yPR_arrange prog_5_method_12_code 7 none ∈ zt_T := zt_of3 138 rfl rfl
theorem zo_PR_arrange : Cond.instanceMethod yPR_arrange ∈ zt_T := zt_of3 137 (by decide +kernel) rfl
theorem ze_PR_arrange : Cond.selects "FrameProcessor$Processor" yPR_arrange yPR_arrange ∈ zt_T := zt_ofS 7 (by decide +kernel) rfl
set_option maxRecDepth 20000 in
theorem zd_PR_saveNext : Cond.code yPR_saveNext prog_5_method_6_code 1 none ∈ zt_T := zt_of3 162 rfl rfl
theorem zo_PR_saveNext : Cond.instanceMethod yPR_saveNext ∈ zt_T := zt_of3 161 (by decide +kernel) rfl
theorem ze_PR_saveNext : Cond.selects "FrameProcessor$Processor" yPR_saveNext yPR_saveNext ∈ zt_T := zt_ofS 11 (by decide +kernel) rfl
set_option maxRecDepth 20000 in
theorem zd_FR_procedure : Cond.code yFR_procedure prog_2_method_8_code 2 (some .int) ∈ zt_T := zt_of3 165 rfl rfl
theorem zs_FR_procedure : Cond.static yFR_procedure ∈ zt_T := zt_of3 164 (by decide +kernel) rfl
set_option maxRecDepth 20000 in
theorem zd_PR_goTo : Cond.code yPR_goTo prog_5_method_16_code 4 none ∈ zt_T := zt_of3 169 rfl rfl
theorem zo_PR_goTo : Cond.instanceMethod yPR_goTo ∈ zt_T := zt_of3 168 (by decide +kernel) rfl
theorem ze_PR_goTo : Cond.selects "FrameProcessor$Processor" yPR_goTo yPR_goTo ∈ zt_T := zt_ofS 12 (by decide +kernel) rfl
set_option maxRecDepth 20000 in
theorem zd_FR_giveBack : Cond.code yFR_giveBack prog_2_method_3_code 4 none ∈ zt_T := zt_of3 173 rfl rfl
theorem zo_FR_giveBack : Cond.instanceMethod yFR_giveBack ∈ zt_T := zt_of3 171 (by decide +kernel) rfl
theorem ze_FR_giveBack : Cond.selects "FrameProcessor$Frames" yFR_giveBack yFR_giveBack ∈ zt_T := zt_of3 172 (by decide +kernel) rfl
set_option maxRecDepth 20000 in
theorem zd_PR_transfer : Cond.code yPR_transfer prog_5_method_15_code 6 none ∈ zt_T := zt_of3 158 rfl rfl
theorem zo_PR_transfer : Cond.instanceMethod yPR_transfer ∈ zt_T := zt_of3 157 (by decide +kernel) rfl
theorem ze_PR_transfer : Cond.selects "FrameProcessor$Processor" yPR_transfer yPR_transfer ∈ zt_T := zt_ofS 10 (by decide +kernel) rfl
set_option maxRecDepth 20000 in
theorem zd_ME_addressOf : Cond.code yME_addressOf prog_4_method_5_code 1 (some .int) ∈ zt_T := zt_of3 185 rfl rfl
theorem zs_ME_addressOf : Cond.static yME_addressOf ∈ zt_T := zt_of3 184 (by decide +kernel) rfl
set_option maxRecDepth 20000 in
theorem zd_PR_enterMonitor : Cond.code yPR_enterMonitor prog_5_method_19_code 2 none ∈ zt_T := zt_of3 182 rfl rfl
theorem zo_PR_enterMonitor : Cond.instanceMethod yPR_enterMonitor ∈ zt_T := zt_of3 181 (by decide +kernel) rfl
theorem ze_PR_enterMonitor : Cond.selects "FrameProcessor$Processor" yPR_enterMonitor yPR_enterMonitor ∈ zt_T := zt_ofS 14 (by decide +kernel) rfl
set_option maxRecDepth 20000 in
theorem zd_PR_exitMonitor : Cond.code yPR_exitMonitor prog_5_method_20_code 2 none ∈ zt_T := zt_of3 189 rfl rfl
theorem zo_PR_exitMonitor : Cond.instanceMethod yPR_exitMonitor ∈ zt_T := zt_of3 188 (by decide +kernel) rfl
theorem ze_PR_exitMonitor : Cond.selects "FrameProcessor$Processor" yPR_exitMonitor yPR_exitMonitor ∈ zt_T := zt_ofS 15 (by decide +kernel) rfl
set_option maxRecDepth 20000 in
theorem zd_PR_awaitCondition : Cond.code yPR_awaitCondition prog_5_method_21_code 2 none ∈ zt_T := zt_of3 193 rfl rfl
theorem zo_PR_awaitCondition : Cond.instanceMethod yPR_awaitCondition ∈ zt_T := zt_of3 192 (by decide +kernel) rfl
theorem ze_PR_awaitCondition : Cond.selects "FrameProcessor$Processor" yPR_awaitCondition yPR_awaitCondition ∈ zt_T := zt_ofS 16 (by decide +kernel) rfl
set_option maxRecDepth 20000 in
theorem zd_PR_coordinate : Cond.code yPR_coordinate prog_5_method_18_code 1 none ∈ zt_T := zt_of3 178 rfl rfl
theorem zo_PR_coordinate : Cond.instanceMethod yPR_coordinate ∈ zt_T := zt_of3 177 (by decide +kernel) rfl
theorem ze_PR_coordinate : Cond.selects "FrameProcessor$Processor" yPR_coordinate yPR_coordinate ∈ zt_T := zt_ofS 13 (by decide +kernel) rfl
set_option maxRecDepth 20000 in
theorem zd_RO_block : Cond.code yRO_block prog_6_method_11_code 3 none ∈ zt_T := zt_of3 197 rfl rfl
theorem zo_RO_block : Cond.instanceMethod yRO_block ∈ zt_T := zt_of3 195 (by decide +kernel) rfl
theorem ze_RO_block : Cond.selects "FrameProcessor$Roster" yRO_block yRO_block ∈ zt_T := zt_of3 196 (by decide +kernel) rfl
set_option maxRecDepth 20000 in
theorem zd_WS_isOver : Cond.code yWS_isOver prog_8_method_3_code 1 (some .boolean) ∈ zt_T := zt_of3 205 rfl rfl
theorem zo_WS_isOver : Cond.instanceMethod yWS_isOver ∈ zt_T := zt_of3 203 (by decide +kernel) rfl
theorem ze_WS_isOver : Cond.selects "FrameProcessor$WorkStack" yWS_isOver yWS_isOver ∈ zt_T := zt_of3 204 (by decide +kernel) rfl
set_option maxRecDepth 20000 in
theorem zd_PR_endAtNext : Cond.code yPR_endAtNext prog_5_method_5_code 1 none ∈ zt_T := zt_of3 201 rfl rfl
theorem zo_PR_endAtNext : Cond.instanceMethod yPR_endAtNext ∈ zt_T := zt_of3 200 (by decide +kernel) rfl
theorem ze_PR_endAtNext : Cond.selects "FrameProcessor$Processor" yPR_endAtNext yPR_endAtNext ∈ zt_T := zt_ofS 17 (by decide +kernel) rfl
set_option maxRecDepth 20000 in
theorem zd_ME_faultHeld : Cond.code yME_faultHeld prog_4_method_17_code 1 (some .int) ∈ zt_T := zt_of3 209 rfl rfl
theorem zo_ME_faultHeld : Cond.instanceMethod yME_faultHeld ∈ zt_T := zt_of3 207 (by decide +kernel) rfl
theorem ze_ME_faultHeld : Cond.selects "FrameProcessor$Memory" yME_faultHeld yME_faultHeld ∈ zt_T := zt_of3 208 (by decide +kernel) rfl
set_option maxRecDepth 20000 in
theorem zd_RO_halt : Cond.code yRO_halt prog_6_method_10_code 3 none ∈ zt_T := zt_of3 213 rfl rfl
theorem zo_RO_halt : Cond.instanceMethod yRO_halt ∈ zt_T := zt_of3 211 (by decide +kernel) rfl
theorem ze_RO_halt : Cond.selects "FrameProcessor$Roster" yRO_halt yRO_halt ∈ zt_T := zt_of3 212 (by decide +kernel) rfl
set_option maxRecDepth 20000 in
theorem zd_WS_saveTo : Cond.code yWS_saveTo prog_8_method_4_code 3 none ∈ zt_T := zt_of3 221 rfl rfl
theorem zo_WS_saveTo : Cond.instanceMethod yWS_saveTo ∈ zt_T := zt_of3 219 (by decide +kernel) rfl
theorem ze_WS_saveTo : Cond.selects "FrameProcessor$WorkStack" yWS_saveTo yWS_saveTo ∈ zt_T := zt_of3 220 (by decide +kernel) rfl
set_option maxRecDepth 20000 in
theorem zd_TA_clear : Cond.code yTA_clear prog_7_method_2_code 1 none ∈ zt_T := zt_of3 225 rfl rfl
theorem zo_TA_clear : Cond.instanceMethod yTA_clear ∈ zt_T := zt_of3 223 (by decide +kernel) rfl
theorem ze_TA_clear : Cond.selects "FrameProcessor$Task" yTA_clear yTA_clear ∈ zt_T := zt_of3 224 (by decide +kernel) rfl
set_option maxRecDepth 20000 in
theorem zd_RO_wakeFirst : Cond.code yRO_wakeFirst prog_6_method_13_code 4 (some .int) ∈ zt_T := zt_of3 230 rfl rfl
theorem zo_RO_wakeFirst : Cond.instanceMethod yRO_wakeFirst ∈ zt_T := zt_of3 228 (by decide +kernel) rfl
theorem ze_RO_wakeFirst : Cond.selects "FrameProcessor$Roster" yRO_wakeFirst yRO_wakeFirst ∈ zt_T := zt_of3 229 (by decide +kernel) rfl
set_option maxRecDepth 20000 in
theorem zd_RO_await : Cond.code yRO_await prog_6_method_12_code 4 none ∈ zt_T := zt_of3 234 rfl rfl
theorem zo_RO_await : Cond.instanceMethod yRO_await ∈ zt_T := zt_of3 232 (by decide +kernel) rfl
theorem ze_RO_await : Cond.selects "FrameProcessor$Roster" yRO_await yRO_await ∈ zt_T := zt_of3 233 (by decide +kernel) rfl
set_option maxRecDepth 20000 in
theorem zd_RO_wakeAll : Cond.code yRO_wakeAll prog_6_method_14_code 3 none ∈ zt_T := zt_of3 238 rfl rfl
theorem zo_RO_wakeAll : Cond.instanceMethod yRO_wakeAll ∈ zt_T := zt_of3 236 (by decide +kernel) rfl
theorem ze_RO_wakeAll : Cond.selects "FrameProcessor$Roster" yRO_wakeAll yRO_wakeAll ∈ zt_T := zt_of3 237 (by decide +kernel) rfl
set_option maxRecDepth 20000 in
theorem zd_PR_settle : Cond.code yPR_settle prog_5_method_7_code 1 none ∈ zt_T := zt_of3 217 rfl rfl
theorem zo_PR_settle : Cond.instanceMethod yPR_settle ∈ zt_T := zt_of3 216 (by decide +kernel) rfl
theorem ze_PR_settle : Cond.selects "FrameProcessor$Processor" yPR_settle yPR_settle ∈ zt_T := zt_ofS 18 (by decide +kernel) rfl
set_option maxRecDepth 20000 in
theorem zd_PR_step : Cond.code yPR_step prog_5_method_3_code 2 none ∈ zt_T := zt_of3 91 rfl rfl
theorem zo_PR_step : Cond.instanceMethod yPR_step ∈ zt_T := zt_of3 89 (by decide +kernel) rfl
theorem ze_PR_step : Cond.selects "FrameProcessor$Processor" yPR_step yPR_step ∈ zt_T := zt_of3 90 (by decide +kernel) rfl
set_option maxRecDepth 20000 in
theorem zd_ME_makeOdd : Cond.code yME_makeOdd prog_4_method_14_code 5 none ∈ zt_T := zt_of4 28 rfl rfl
theorem zo_ME_makeOdd : Cond.instanceMethod yME_makeOdd ∈ zt_T := zt_of4 26 (by decide +kernel) rfl
theorem ze_ME_makeOdd : Cond.selects "FrameProcessor$Memory" yME_makeOdd yME_makeOdd ∈ zt_T := zt_of4 27 (by decide +kernel) rfl
set_option maxRecDepth 20000 in
theorem zd_RO_leastTimeout : Cond.code yRO_leastTimeout prog_6_method_16_code 4 (some .int) ∈ zt_T := zt_of4 46 rfl rfl
theorem zo_RO_leastTimeout : Cond.instanceMethod yRO_leastTimeout ∈ zt_T := zt_of4 45 (by decide +kernel) rfl
theorem ze_RO_leastTimeout : Cond.selects "FrameProcessor$Roster" yRO_leastTimeout yRO_leastTimeout ∈ zt_T := zt_ofS 19 (by decide +kernel) rfl
set_option maxRecDepth 20000 in
theorem zd_RO_lowerTimeouts : Cond.code yRO_lowerTimeouts prog_6_method_17_code 5 (some .int) ∈ zt_T := zt_of4 50 rfl rfl
theorem zo_RO_lowerTimeouts : Cond.instanceMethod yRO_lowerTimeouts ∈ zt_T := zt_of4 49 (by decide +kernel) rfl
theorem ze_RO_lowerTimeouts : Cond.selects "FrameProcessor$Roster" yRO_lowerTimeouts yRO_lowerTimeouts ∈ zt_T := zt_ofS 20 (by decide +kernel) rfl
set_option maxRecDepth 20000 in
theorem zd_RO_passTicks : Cond.code yRO_passTicks prog_6_method_15_code 6 (some .int) ∈ zt_T := zt_of4 42 rfl rfl
theorem zo_RO_passTicks : Cond.instanceMethod yRO_passTicks ∈ zt_T := zt_of4 40 (by decide +kernel) rfl
theorem ze_RO_passTicks : Cond.selects "FrameProcessor$Roster" yRO_passTicks yRO_passTicks ∈ zt_T := zt_of4 41 (by decide +kernel) rfl
set_option maxRecDepth 20000 in
theorem zd_MO_thrown : Cond.code yMO_thrown prog_10_method_2_code 1 (some .int) ∈ zt_T := zt_of4 158 rfl rfl
theorem zo_MO_thrown : Cond.instanceMethod yMO_thrown ∈ zt_T := zt_of4 156 (by decide +kernel) rfl
theorem zn_MO : Cond.initialized "FrameProcessorModel" ∈ zt_T := zt_of1 9 (by decide +kernel) rfl
theorem ze_MO_thrown : Cond.selects "FrameProcessorModel" yMO_thrown yMO_thrown ∈ zt_T := zt_of4 157 (by decide +kernel) rfl
set_option maxRecDepth 20000 in
theorem zd_MO_first : Cond.code yMO_first prog_10_method_28_code 3 (some .int) ∈ zt_T := zt_of4 166 rfl rfl
theorem zo_MO_first : Cond.instanceMethod yMO_first ∈ zt_T := zt_of4 165 (by decide +kernel) rfl
theorem ze_MO_first : Cond.selects "FrameProcessorModel" yMO_first yMO_first ∈ zt_T := zt_ofS 21 (by decide +kernel) rfl
set_option maxRecDepth 20000 in
theorem zd_MO_at : Cond.code yMO_at prog_10_method_4_code 3 (some .int) ∈ zt_T := zt_of4 178 rfl rfl
theorem zo_MO_at : Cond.instanceMethod yMO_at ∈ zt_T := zt_of4 177 (by decide +kernel) rfl
theorem ze_MO_at : Cond.selects "FrameProcessorModel" yMO_at yMO_at ∈ zt_T := zt_ofS 24 (by decide +kernel) rfl
set_option maxRecDepth 20000 in
theorem zd_MO_wrong : Cond.code yMO_wrong prog_10_method_5_code 2 none ∈ zt_T := zt_of4 182 rfl rfl
theorem zo_MO_wrong : Cond.instanceMethod yMO_wrong ∈ zt_T := zt_of4 181 (by decide +kernel) rfl
theorem ze_MO_wrong : Cond.selects "FrameProcessorModel" yMO_wrong yMO_wrong ∈ zt_T := zt_ofS 25 (by decide +kernel) rfl
set_option maxRecDepth 20000 in
theorem zd_MO_read : Cond.code yMO_read prog_10_method_6_code 3 (some .int) ∈ zt_T := zt_of4 174 rfl rfl
theorem zo_MO_read : Cond.instanceMethod yMO_read ∈ zt_T := zt_of4 173 (by decide +kernel) rfl
theorem ze_MO_read : Cond.selects "FrameProcessorModel" yMO_read yMO_read ∈ zt_T := zt_ofS 23 (by decide +kernel) rfl
set_option maxRecDepth 20000 in
theorem zd_MO_low : Cond.code yMO_low prog_10_method_3_code 1 (some .int) ∈ zt_T := zt_of4 193 rfl rfl
theorem zs_MO_low : Cond.static yMO_low ∈ zt_T := zt_of4 192 (by decide +kernel) rfl
set_option maxRecDepth 20000 in
theorem zd_MO_byteAt : Cond.code yMO_byteAt prog_10_method_9_code 4 (some .int) ∈ zt_T := zt_of4 190 rfl rfl
theorem zo_MO_byteAt : Cond.instanceMethod yMO_byteAt ∈ zt_T := zt_of4 189 (by decide +kernel) rfl
theorem ze_MO_byteAt : Cond.selects "FrameProcessorModel" yMO_byteAt yMO_byteAt ∈ zt_T := zt_ofS 27 (by decide +kernel) rfl
set_option maxRecDepth 20000 in
theorem zd_MO_nextByte : Cond.code yMO_nextByte prog_10_method_10_code 2 (some .int) ∈ zt_T := zt_of4 186 rfl rfl
theorem zo_MO_nextByte : Cond.instanceMethod yMO_nextByte ∈ zt_T := zt_of4 185 (by decide +kernel) rfl
theorem ze_MO_nextByte : Cond.selects "FrameProcessorModel" yMO_nextByte yMO_nextByte ∈ zt_T := zt_ofS 26 (by decide +kernel) rfl
set_option maxRecDepth 20000 in
theorem zd_MO_push : Cond.code yMO_push prog_10_method_12_code 2 none ∈ zt_T := zt_of4 202 rfl rfl
theorem zo_MO_push : Cond.instanceMethod yMO_push ∈ zt_T := zt_of4 201 (by decide +kernel) rfl
theorem ze_MO_push : Cond.selects "FrameProcessorModel" yMO_push yMO_push ∈ zt_T := zt_ofS 29 (by decide +kernel) rfl
set_option maxRecDepth 20000 in
theorem zd_MO_pop : Cond.code yMO_pop prog_10_method_11_code 1 (some .int) ∈ zt_T := zt_of4 206 rfl rfl
theorem zo_MO_pop : Cond.instanceMethod yMO_pop ∈ zt_T := zt_of4 205 (by decide +kernel) rfl
theorem ze_MO_pop : Cond.selects "FrameProcessorModel" yMO_pop yMO_pop ∈ zt_T := zt_ofS 30 (by decide +kernel) rfl
set_option maxRecDepth 20000 in
theorem zd_MO_write : Cond.code yMO_write prog_10_method_7_code 4 none ∈ zt_T := zt_of4 210 rfl rfl
theorem zo_MO_write : Cond.instanceMethod yMO_write ∈ zt_T := zt_of4 209 (by decide +kernel) rfl
theorem ze_MO_write : Cond.selects "FrameProcessorModel" yMO_write yMO_write ∈ zt_T := zt_ofS 31 (by decide +kernel) rfl
set_option maxRecDepth 20000 in
theorem zd_MO_signed : Cond.code yMO_signed prog_10_method_13_code 1 (some .int) ∈ zt_T := zt_of4 213 rfl rfl
theorem zs_MO_signed : Cond.static yMO_signed ∈ zt_T := zt_of4 212 (by decide +kernel) rfl
set_option maxRecDepth 20000 in
theorem zd_MO_field : Cond.code yMO_field prog_10_method_29_code 4 (some .int) ∈ zt_T := zt_of4 218 rfl rfl
theorem zs_MO_field : Cond.static yMO_field ∈ zt_T := zt_of4 217 (by decide +kernel) rfl
set_option maxRecDepth 20000 in
theorem zd_MO_placed : Cond.code yMO_placed prog_10_method_30_code 6 (some .int) ∈ zt_T := zt_of4 221 rfl rfl
theorem zs_MO_placed : Cond.static yMO_placed ∈ zt_T := zt_of4 220 (by decide +kernel) rfl
set_option maxRecDepth 20000 in
theorem zd_MO_meant : Cond.code yMO_meant prog_10_method_16_code 3 (some .int) ∈ zt_T := zt_of4 233 rfl rfl
theorem zo_MO_meant : Cond.instanceMethod yMO_meant ∈ zt_T := zt_of4 232 (by decide +kernel) rfl
theorem ze_MO_meant : Cond.selects "FrameProcessorModel" yMO_meant yMO_meant ∈ zt_T := zt_ofS 34 (by decide +kernel) rfl
set_option maxRecDepth 20000 in
theorem zd_MO_take : Cond.code yMO_take prog_10_method_14_code 5 (some .int) ∈ zt_T := zt_of4 237 rfl rfl
theorem zo_MO_take : Cond.instanceMethod yMO_take ∈ zt_T := zt_of4 236 (by decide +kernel) rfl
theorem ze_MO_take : Cond.selects "FrameProcessorModel" yMO_take yMO_take ∈ zt_T := zt_ofS 35 (by decide +kernel) rfl
set_option maxRecDepth 20000 in
theorem zd_MO_called : Cond.code yMO_called prog_10_method_17_code 9 (some .int) ∈ zt_T := zt_of4 229 rfl rfl
theorem zo_MO_called : Cond.instanceMethod yMO_called ∈ zt_T := zt_of4 228 (by decide +kernel) rfl
theorem ze_MO_called : Cond.selects "FrameProcessorModel" yMO_called yMO_called ∈ zt_T := zt_ofS 33 (by decide +kernel) rfl
set_option maxRecDepth 20000 in
theorem zd_MO_call : Cond.code yMO_call prog_10_method_18_code 4 none ∈ zt_T := zt_of4 225 rfl rfl
theorem zo_MO_call : Cond.instanceMethod yMO_call ∈ zt_T := zt_of4 224 (by decide +kernel) rfl
theorem ze_MO_call : Cond.selects "FrameProcessorModel" yMO_call yMO_call ∈ zt_T := zt_ofS 32 (by decide +kernel) rfl
set_option maxRecDepth 20000 in
theorem zd_MO_give : Cond.code yMO_give prog_10_method_15_code 4 none ∈ zt_T := zt_of5 5 rfl rfl
theorem zo_MO_give : Cond.instanceMethod yMO_give ∈ zt_T := zt_of5 4 (by decide +kernel) rfl
theorem ze_MO_give : Cond.selects "FrameProcessorModel" yMO_give yMO_give ∈ zt_T := zt_ofS 37 (by decide +kernel) rfl
set_option maxRecDepth 20000 in
theorem zd_MO_giveBack : Cond.code yMO_giveBack prog_10_method_19_code 4 none ∈ zt_T := zt_of5 1 rfl rfl
theorem zo_MO_giveBack : Cond.instanceMethod yMO_giveBack ∈ zt_T := zt_of5 0 (by decide +kernel) rfl
theorem ze_MO_giveBack : Cond.selects "FrameProcessorModel" yMO_giveBack yMO_giveBack ∈ zt_T := zt_ofS 36 (by decide +kernel) rfl
set_option maxRecDepth 20000 in
theorem zd_MO_leastFree : Cond.code yMO_leastFree prog_10_method_20_code 2 (some .int) ∈ zt_T := zt_of5 17 rfl rfl
theorem zo_MO_leastFree : Cond.instanceMethod yMO_leastFree ∈ zt_T := zt_of5 16 (by decide +kernel) rfl
theorem ze_MO_leastFree : Cond.selects "FrameProcessorModel" yMO_leastFree yMO_leastFree ∈ zt_T := zt_ofS 40 (by decide +kernel) rfl
set_option maxRecDepth 20000 in
theorem zd_MO_begun : Cond.code yMO_begun prog_10_method_26_code 3 (some .int) ∈ zt_T := zt_of5 21 rfl rfl
theorem zo_MO_begun : Cond.instanceMethod yMO_begun ∈ zt_T := zt_of5 20 (by decide +kernel) rfl
theorem ze_MO_begun : Cond.selects "FrameProcessorModel" yMO_begun yMO_begun ∈ zt_T := zt_ofS 41 (by decide +kernel) rfl
set_option maxRecDepth 20000 in
theorem zd_MO_fork : Cond.code yMO_fork prog_10_method_34_code 5 none ∈ zt_T := zt_of5 13 rfl rfl
theorem zo_MO_fork : Cond.instanceMethod yMO_fork ∈ zt_T := zt_of5 12 (by decide +kernel) rfl
theorem ze_MO_fork : Cond.selects "FrameProcessorModel" yMO_fork yMO_fork ∈ zt_T := zt_ofS 39 (by decide +kernel) rfl
set_option maxRecDepth 20000 in
theorem zd_MO_block : Cond.code yMO_block prog_10_method_36_code 2 none ∈ zt_T := zt_of5 25 rfl rfl
theorem zo_MO_block : Cond.instanceMethod yMO_block ∈ zt_T := zt_of5 24 (by decide +kernel) rfl
theorem ze_MO_block : Cond.selects "FrameProcessorModel" yMO_block yMO_block ∈ zt_T := zt_ofS 42 (by decide +kernel) rfl
set_option maxRecDepth 20000 in
theorem zd_MO_firstOf : Cond.code yMO_firstOf prog_10_method_22_code 7 (some .int) ∈ zt_T := zt_of5 37 rfl rfl
theorem zo_MO_firstOf : Cond.instanceMethod yMO_firstOf ∈ zt_T := zt_of5 36 (by decide +kernel) rfl
theorem ze_MO_firstOf : Cond.selects "FrameProcessorModel" yMO_firstOf yMO_firstOf ∈ zt_T := zt_ofS 45 (by decide +kernel) rfl
set_option maxRecDepth 20000 in
theorem zd_MO_wake : Cond.code yMO_wake prog_10_method_23_code 4 (some .boolean) ∈ zt_T := zt_of5 33 rfl rfl
theorem zo_MO_wake : Cond.instanceMethod yMO_wake ∈ zt_T := zt_of5 32 (by decide +kernel) rfl
theorem ze_MO_wake : Cond.selects "FrameProcessorModel" yMO_wake yMO_wake ∈ zt_T := zt_ofS 44 (by decide +kernel) rfl
set_option maxRecDepth 20000 in
theorem zd_MO_exit : Cond.code yMO_exit prog_10_method_35_code 3 none ∈ zt_T := zt_of5 29 rfl rfl
theorem zo_MO_exit : Cond.instanceMethod yMO_exit ∈ zt_T := zt_of5 28 (by decide +kernel) rfl
theorem ze_MO_exit : Cond.selects "FrameProcessorModel" yMO_exit yMO_exit ∈ zt_T := zt_ofS 43 (by decide +kernel) rfl
set_option maxRecDepth 20000 in
theorem zd_MO_two : Cond.code yMO_two prog_10_method_31_code 5 none ∈ zt_T := zt_of5 41 rfl rfl
theorem zo_MO_two : Cond.instanceMethod yMO_two ∈ zt_T := zt_of5 40 (by decide +kernel) rfl
theorem ze_MO_two : Cond.selects "FrameProcessorModel" yMO_two yMO_two ∈ zt_T := zt_ofS 46 (by decide +kernel) rfl
set_option maxRecDepth 20000 in
theorem zd_MO_more : Cond.code yMO_more prog_10_method_33_code 7 (some .boolean) ∈ zt_T := zt_of5 9 rfl rfl
theorem zo_MO_more : Cond.instanceMethod yMO_more ∈ zt_T := zt_of5 8 (by decide +kernel) rfl
theorem ze_MO_more : Cond.selects "FrameProcessorModel" yMO_more yMO_more ∈ zt_T := zt_ofS 38 (by decide +kernel) rfl
set_option maxRecDepth 20000 in
theorem zd_MO_act : Cond.code yMO_act prog_10_method_32_code 7 (some .boolean) ∈ zt_T := zt_of4 198 rfl rfl
theorem zo_MO_act : Cond.instanceMethod yMO_act ∈ zt_T := zt_of4 197 (by decide +kernel) rfl
theorem ze_MO_act : Cond.selects "FrameProcessorModel" yMO_act yMO_act ∈ zt_T := zt_ofS 28 (by decide +kernel) rfl
set_option maxRecDepth 20000 in
theorem zd_MO_undo : Cond.code yMO_undo prog_10_method_8_code 1 none ∈ zt_T := zt_of5 45 rfl rfl
theorem zo_MO_undo : Cond.instanceMethod yMO_undo ∈ zt_T := zt_of5 44 (by decide +kernel) rfl
theorem ze_MO_undo : Cond.selects "FrameProcessorModel" yMO_undo yMO_undo ∈ zt_T := zt_ofS 47 (by decide +kernel) rfl
set_option maxRecDepth 20000 in
theorem zd_MO_become : Cond.code yMO_become prog_10_method_21_code 3 none ∈ zt_T := zt_of5 49 rfl rfl
theorem zo_MO_become : Cond.instanceMethod yMO_become ∈ zt_T := zt_of5 48 (by decide +kernel) rfl
theorem ze_MO_become : Cond.selects "FrameProcessorModel" yMO_become yMO_become ∈ zt_T := zt_ofS 48 (by decide +kernel) rfl
set_option maxRecDepth 20000 in
theorem zd_MO_ready : Cond.code yMO_ready prog_10_method_24_code 2 none ∈ zt_T := zt_of5 53 rfl rfl
theorem zo_MO_ready : Cond.instanceMethod yMO_ready ∈ zt_T := zt_of5 52 (by decide +kernel) rfl
theorem ze_MO_ready : Cond.selects "FrameProcessorModel" yMO_ready yMO_ready ∈ zt_T := zt_ofS 49 (by decide +kernel) rfl
set_option maxRecDepth 20000 in
theorem zd_MO_wakeAll : Cond.code yMO_wakeAll prog_10_method_25_code 2 none ∈ zt_T := zt_of5 57 rfl rfl
theorem zo_MO_wakeAll : Cond.instanceMethod yMO_wakeAll ∈ zt_T := zt_of5 56 (by decide +kernel) rfl
theorem ze_MO_wakeAll : Cond.selects "FrameProcessorModel" yMO_wakeAll yMO_wakeAll ∈ zt_T := zt_ofS 50 (by decide +kernel) rfl
set_option maxRecDepth 20000 in
theorem zd_MO_begin : Cond.code yMO_begin prog_10_method_27_code 4 none ∈ zt_T := zt_of5 61 rfl rfl
theorem zo_MO_begin : Cond.instanceMethod yMO_begin ∈ zt_T := zt_of5 60 (by decide +kernel) rfl
theorem ze_MO_begin : Cond.selects "FrameProcessorModel" yMO_begin yMO_begin ∈ zt_T := zt_ofS 51 (by decide +kernel) rfl
set_option maxRecDepth 20000 in
theorem zd_MO_instruction : Cond.code yMO_instruction prog_10_method_37_code 6 none ∈ zt_T := zt_of4 170 rfl rfl
theorem zo_MO_instruction : Cond.instanceMethod yMO_instruction ∈ zt_T := zt_of4 169 (by decide +kernel) rfl
theorem ze_MO_instruction : Cond.selects "FrameProcessorModel" yMO_instruction yMO_instruction ∈ zt_T := zt_ofS 22 (by decide +kernel) rfl
set_option maxRecDepth 20000 in
theorem zd_MO_run : Cond.code yMO_run prog_10_method_38_code 3 (some .int) ∈ zt_T := zt_of4 162 rfl rfl
theorem zo_MO_run : Cond.instanceMethod yMO_run ∈ zt_T := zt_of4 160 (by decide +kernel) rfl
theorem ze_MO_run : Cond.selects "FrameProcessorModel" yMO_run yMO_run ∈ zt_T := zt_of4 161 (by decide +kernel) rfl
set_option maxRecDepth 20000 in
theorem zd_MO_isNumber : Cond.code yMO_isNumber prog_10_method_39_code 2 (some .boolean) ∈ zt_T := zt_of5 68 rfl rfl
theorem zs_MO_isNumber : Cond.static yMO_isNumber ∈ zt_T := zt_of5 67 (by decide +kernel) rfl
set_option maxRecDepth 20000 in
theorem zd_MO_map : Cond.code yMO_map prog_10_method_40_code 3 none ∈ zt_T := zt_of5 65 rfl rfl
theorem zo_MO_map : Cond.instanceMethod yMO_map ∈ zt_T := zt_of5 63 (by decide +kernel) rfl
theorem ze_MO_map : Cond.selects "FrameProcessorModel" yMO_map yMO_map ∈ zt_T := zt_of5 64 (by decide +kernel) rfl
set_option maxRecDepth 20000 in
theorem zd_MO_protect : Cond.code yMO_protect prog_10_method_41_code 3 none ∈ zt_T := zt_of5 72 rfl rfl
theorem zo_MO_protect : Cond.instanceMethod yMO_protect ∈ zt_T := zt_of5 70 (by decide +kernel) rfl
theorem ze_MO_protect : Cond.selects "FrameProcessorModel" yMO_protect yMO_protect ∈ zt_T := zt_of5 71 (by decide +kernel) rfl
set_option maxRecDepth 20000 in
theorem zd_MO_noted : Cond.code yMO_noted prog_10_method_42_code 3 (some .int) ∈ zt_T := zt_of5 76 rfl rfl
theorem zo_MO_noted : Cond.instanceMethod yMO_noted ∈ zt_T := zt_of5 74 (by decide +kernel) rfl
theorem ze_MO_noted : Cond.selects "FrameProcessorModel" yMO_noted yMO_noted ∈ zt_T := zt_of5 75 (by decide +kernel) rfl
set_option maxRecDepth 20000 in
theorem zd_MO_poke : Cond.code yMO_poke prog_10_method_43_code 3 none ∈ zt_T := zt_of5 80 rfl rfl
theorem zo_MO_poke : Cond.instanceMethod yMO_poke ∈ zt_T := zt_of5 78 (by decide +kernel) rfl
theorem ze_MO_poke : Cond.selects "FrameProcessorModel" yMO_poke yMO_poke ∈ zt_T := zt_of5 79 (by decide +kernel) rfl
set_option maxRecDepth 20000 in
theorem zd_MO_peek : Cond.code yMO_peek prog_10_method_44_code 2 (some .int) ∈ zt_T := zt_of5 84 rfl rfl
theorem zo_MO_peek : Cond.instanceMethod yMO_peek ∈ zt_T := zt_of5 82 (by decide +kernel) rfl
theorem ze_MO_peek : Cond.selects "FrameProcessorModel" yMO_peek yMO_peek ∈ zt_T := zt_of5 83 (by decide +kernel) rfl
set_option maxRecDepth 20000 in
theorem zd_MO_start : Cond.code yMO_start prog_10_method_45_code 5 (some .int) ∈ zt_T := zt_of5 88 rfl rfl
theorem zo_MO_start : Cond.instanceMethod yMO_start ∈ zt_T := zt_of5 86 (by decide +kernel) rfl
theorem ze_MO_start : Cond.selects "FrameProcessorModel" yMO_start yMO_start ∈ zt_T := zt_of5 87 (by decide +kernel) rfl
set_option maxRecDepth 20000 in
theorem zd_MO_resume : Cond.code yMO_resume prog_10_method_46_code 2 none ∈ zt_T := zt_of5 92 rfl rfl
theorem zo_MO_resume : Cond.instanceMethod yMO_resume ∈ zt_T := zt_of5 90 (by decide +kernel) rfl
theorem ze_MO_resume : Cond.selects "FrameProcessorModel" yMO_resume yMO_resume ∈ zt_T := zt_of5 91 (by decide +kernel) rfl
set_option maxRecDepth 20000 in
theorem zd_MO_kill : Cond.code yMO_kill prog_10_method_47_code 2 none ∈ zt_T := zt_of5 96 rfl rfl
theorem zo_MO_kill : Cond.instanceMethod yMO_kill ∈ zt_T := zt_of5 94 (by decide +kernel) rfl
theorem ze_MO_kill : Cond.selects "FrameProcessorModel" yMO_kill yMO_kill ∈ zt_T := zt_of5 95 (by decide +kernel) rfl
set_option maxRecDepth 20000 in
theorem zd_MO_interrupt : Cond.code yMO_interrupt prog_10_method_48_code 4 (some .int) ∈ zt_T := zt_of5 100 rfl rfl
theorem zo_MO_interrupt : Cond.instanceMethod yMO_interrupt ∈ zt_T := zt_of5 98 (by decide +kernel) rfl
theorem ze_MO_interrupt : Cond.selects "FrameProcessorModel" yMO_interrupt yMO_interrupt ∈ zt_T := zt_of5 99 (by decide +kernel) rfl
set_option maxRecDepth 20000 in
theorem zd_MO_tick : Cond.code yMO_tick prog_10_method_49_code 7 (some .int) ∈ zt_T := zt_of5 104 rfl rfl
theorem zo_MO_tick : Cond.instanceMethod yMO_tick ∈ zt_T := zt_of5 102 (by decide +kernel) rfl
theorem ze_MO_tick : Cond.selects "FrameProcessorModel" yMO_tick yMO_tick ∈ zt_T := zt_of5 103 (by decide +kernel) rfl
set_option maxRecDepth 20000 in
theorem zd_MO_running : Cond.code yMO_running prog_10_method_50_code 1 (some .int) ∈ zt_T := zt_of5 109 rfl rfl
theorem zo_MO_running : Cond.instanceMethod yMO_running ∈ zt_T := zt_of5 107 (by decide +kernel) rfl
theorem ze_MO_running : Cond.selects "FrameProcessorModel" yMO_running yMO_running ∈ zt_T := zt_of5 108 (by decide +kernel) rfl
set_option maxRecDepth 20000 in
theorem zd_MO_process : Cond.code yMO_process prog_10_method_51_code 6 (some .int) ∈ zt_T := zt_of5 113 rfl rfl
theorem zo_MO_process : Cond.instanceMethod yMO_process ∈ zt_T := zt_of5 111 (by decide +kernel) rfl
theorem ze_MO_process : Cond.selects "FrameProcessorModel" yMO_process yMO_process ∈ zt_T := zt_of5 112 (by decide +kernel) rfl
set_option maxRecDepth 20000 in
theorem zd_MO_stack : Cond.code yMO_stack prog_10_method_52_code 3 (some .int) ∈ zt_T := zt_of5 117 rfl rfl
theorem zo_MO_stack : Cond.instanceMethod yMO_stack ∈ zt_T := zt_of5 115 (by decide +kernel) rfl
theorem ze_MO_stack : Cond.selects "FrameProcessorModel" yMO_stack yMO_stack ∈ zt_T := zt_of5 116 (by decide +kernel) rfl
set_option maxRecDepth 20000 in
theorem zd_MO_page : Cond.code yMO_page prog_10_method_53_code 3 (some .int) ∈ zt_T := zt_of5 121 rfl rfl
theorem zo_MO_page : Cond.instanceMethod yMO_page ∈ zt_T := zt_of5 119 (by decide +kernel) rfl
theorem ze_MO_page : Cond.selects "FrameProcessorModel" yMO_page yMO_page ∈ zt_T := zt_of5 120 (by decide +kernel) rfl
set_option maxRecDepth 20000 in
theorem zd_MO_free : Cond.code yMO_free prog_10_method_54_code 5 (some .int) ∈ zt_T := zt_of5 125 rfl rfl
theorem zo_MO_free : Cond.instanceMethod yMO_free ∈ zt_T := zt_of5 123 (by decide +kernel) rfl
theorem ze_MO_free : Cond.selects "FrameProcessorModel" yMO_free yMO_free ∈ zt_T := zt_of5 124 (by decide +kernel) rfl
set_option maxRecDepth 20000 in
theorem zd_FP_map : Cond.code yFP_map prog_1_method_2_code 3 none ∈ zt_T := zt_of2 86 rfl rfl
theorem zo_FP_map : Cond.instanceMethod yFP_map ∈ zt_T := zt_of2 84 (by decide +kernel) rfl
theorem ze_FP_map : Cond.selects "FrameProcessor" yFP_map yFP_map ∈ zt_T := zt_of2 85 (by decide +kernel) rfl
set_option maxRecDepth 20000 in
theorem zd_FP_protect : Cond.code yFP_protect prog_1_method_3_code 3 none ∈ zt_T := zt_of2 163 rfl rfl
theorem zo_FP_protect : Cond.instanceMethod yFP_protect ∈ zt_T := zt_of2 161 (by decide +kernel) rfl
theorem ze_FP_protect : Cond.selects "FrameProcessor" yFP_protect yFP_protect ∈ zt_T := zt_of2 162 (by decide +kernel) rfl
set_option maxRecDepth 20000 in
theorem zd_FP_noted : Cond.code yFP_noted prog_1_method_4_code 2 (some .int) ∈ zt_T := zt_of2 174 rfl rfl
theorem zo_FP_noted : Cond.instanceMethod yFP_noted ∈ zt_T := zt_of2 172 (by decide +kernel) rfl
theorem ze_FP_noted : Cond.selects "FrameProcessor" yFP_noted yFP_noted ∈ zt_T := zt_of2 173 (by decide +kernel) rfl
set_option maxRecDepth 20000 in
theorem zd_FP_poke : Cond.code yFP_poke prog_1_method_5_code 3 none ∈ zt_T := zt_of2 186 rfl rfl
theorem zo_FP_poke : Cond.instanceMethod yFP_poke ∈ zt_T := zt_of2 184 (by decide +kernel) rfl
theorem ze_FP_poke : Cond.selects "FrameProcessor" yFP_poke yFP_poke ∈ zt_T := zt_of2 185 (by decide +kernel) rfl
set_option maxRecDepth 20000 in
theorem zd_FP_peek : Cond.code yFP_peek prog_1_method_6_code 2 (some .int) ∈ zt_T := zt_of2 220 rfl rfl
theorem zo_FP_peek : Cond.instanceMethod yFP_peek ∈ zt_T := zt_of2 218 (by decide +kernel) rfl
theorem ze_FP_peek : Cond.selects "FrameProcessor" yFP_peek yFP_peek ∈ zt_T := zt_of2 219 (by decide +kernel) rfl
set_option maxRecDepth 20000 in
theorem zd_FP_start : Cond.code yFP_start prog_1_method_7_code 4 (some .int) ∈ zt_T := zt_of2 227 rfl rfl
theorem zo_FP_start : Cond.instanceMethod yFP_start ∈ zt_T := zt_of2 225 (by decide +kernel) rfl
theorem ze_FP_start : Cond.selects "FrameProcessor" yFP_start yFP_start ∈ zt_T := zt_of2 226 (by decide +kernel) rfl
set_option maxRecDepth 20000 in
theorem zd_FP_run : Cond.code yFP_run prog_1_method_8_code 4 (some .int) ∈ zt_T := zt_of3 72 rfl rfl
theorem zo_FP_run : Cond.instanceMethod yFP_run ∈ zt_T := zt_of3 70 (by decide +kernel) rfl
theorem ze_FP_run : Cond.selects "FrameProcessor" yFP_run yFP_run ∈ zt_T := zt_of3 71 (by decide +kernel) rfl
set_option maxRecDepth 20000 in
theorem zd_FP_resume : Cond.code yFP_resume prog_1_method_9_code 3 none ∈ zt_T := zt_of4 7 rfl rfl
theorem zo_FP_resume : Cond.instanceMethod yFP_resume ∈ zt_T := zt_of4 5 (by decide +kernel) rfl
theorem ze_FP_resume : Cond.selects "FrameProcessor" yFP_resume yFP_resume ∈ zt_T := zt_of4 6 (by decide +kernel) rfl
set_option maxRecDepth 20000 in
theorem zd_FP_kill : Cond.code yFP_kill prog_1_method_10_code 3 none ∈ zt_T := zt_of4 15 rfl rfl
theorem zo_FP_kill : Cond.instanceMethod yFP_kill ∈ zt_T := zt_of4 13 (by decide +kernel) rfl
theorem ze_FP_kill : Cond.selects "FrameProcessor" yFP_kill yFP_kill ∈ zt_T := zt_of4 14 (by decide +kernel) rfl
set_option maxRecDepth 20000 in
theorem zd_FP_interrupt : Cond.code yFP_interrupt prog_1_method_11_code 3 (some .int) ∈ zt_T := zt_of4 23 rfl rfl
theorem zo_FP_interrupt : Cond.instanceMethod yFP_interrupt ∈ zt_T := zt_of4 21 (by decide +kernel) rfl
theorem ze_FP_interrupt : Cond.selects "FrameProcessor" yFP_interrupt yFP_interrupt ∈ zt_T := zt_of4 22 (by decide +kernel) rfl
set_option maxRecDepth 20000 in
theorem zd_FP_tick : Cond.code yFP_tick prog_1_method_12_code 2 (some .int) ∈ zt_T := zt_of4 37 rfl rfl
theorem zo_FP_tick : Cond.instanceMethod yFP_tick ∈ zt_T := zt_of4 35 (by decide +kernel) rfl
theorem ze_FP_tick : Cond.selects "FrameProcessor" yFP_tick yFP_tick ∈ zt_T := zt_of4 36 (by decide +kernel) rfl
theorem TA_goesAhead_k : zz_kV zt_T yTA_goesAhead prog_7_method_5_code 2 (some .boolean) "FrameProcessor$Task" 1 := ⟨zt_good, zd_TA_goesAhead, zo_TA_goesAhead, ze_TA_goesAhead, zn_TA, by decide +kernel⟩
theorem RO_firstAt_k : zz_kV zt_T yRO_firstAt prog_6_method_5_code 7 (some (.object "FrameProcessor$Task")) "FrameProcessor$Roster" 2 := ⟨zt_good, zd_RO_firstAt, zo_RO_firstAt, ze_RO_firstAt, zn_RO, by decide +kernel⟩
theorem RO_runner_k : zz_kV zt_T yRO_runner prog_6_method_4_code 1 (some (.object "FrameProcessor$Task")) "FrameProcessor$Roster" 0 := ⟨zt_good, zd_RO_runner, zo_RO_runner, ze_RO_runner, zn_RO, by decide +kernel⟩
theorem FP_running_k : zz_kV zt_T yFP_running prog_1_method_13_code 2 (some .int) "FrameProcessor" 0 := ⟨zt_good, zd_FP_running, zo_FP_running, ze_FP_running, zn_FP, by decide +kernel⟩
theorem RO_taskAt_k : zz_kV zt_T yRO_taskAt prog_6_method_2_code 2 (some (.object "FrameProcessor$Task")) "FrameProcessor$Roster" 1 := ⟨zt_good, zd_RO_taskAt, zo_RO_taskAt, ze_RO_taskAt, zn_RO, by decide +kernel⟩
theorem RO_placeOf_k : zz_kV zt_T yRO_placeOf prog_6_method_6_code 4 (some .int) "FrameProcessor$Roster" 1 := ⟨zt_good, zd_RO_placeOf, zo_RO_placeOf, ze_RO_placeOf, zn_RO, by decide +kernel⟩
theorem FP_process_k : zz_kV zt_T yFP_process prog_1_method_14_code 4 (some .int) "FrameProcessor" 2 := ⟨zt_good, zd_FP_process, zo_FP_process, ze_FP_process, zn_FP, by decide +kernel⟩
theorem TA_wordFromTop_k : zz_kV zt_T yTA_wordFromTop prog_7_method_4_code 2 (some .int) "FrameProcessor$Task" 1 := ⟨zt_good, zd_TA_wordFromTop, zo_TA_wordFromTop, ze_TA_wordFromTop, zn_TA, by decide +kernel⟩
theorem FP_stack_k : zz_kV zt_T yFP_stack prog_1_method_15_code 4 (some .int) "FrameProcessor" 2 := ⟨zt_good, zd_FP_stack, zo_FP_stack, ze_FP_stack, zn_FP, by decide +kernel⟩
theorem ME_isPage_k : zz_kS zt_T yME_isPage prog_4_method_3_code 1 (some .boolean) 1 := ⟨zt_good, zd_ME_isPage, zs_ME_isPage, zn_ME, by decide +kernel⟩
theorem ME_realOf_k : zz_kV zt_T yME_realOf prog_4_method_7_code 2 (some .int) "FrameProcessor$Memory" 1 := ⟨zt_good, zd_ME_realOf, zo_ME_realOf, ze_ME_realOf, zn_ME, by decide +kernel⟩
theorem ME_isGuarded_k : zz_kV zt_T yME_isGuarded prog_4_method_9_code 2 (some .boolean) "FrameProcessor$Memory" 1 := ⟨zt_good, zd_ME_isGuarded, zo_ME_isGuarded, ze_ME_isGuarded, zn_ME, by decide +kernel⟩
theorem FP_page_k : zz_kV zt_T yFP_page prog_1_method_16_code 3 (some .int) "FrameProcessor" 2 := ⟨zt_good, zd_FP_page, zo_FP_page, ze_FP_page, zn_FP, by decide +kernel⟩
theorem ME_look_k : zz_kV zt_T yME_look prog_4_method_12_code 3 (some .int) "FrameProcessor$Memory" 1 := ⟨zt_good, zd_ME_look, zo_ME_look, ze_ME_look, zn_ME, by decide +kernel⟩
theorem FP_free_k : zz_kV zt_T yFP_free prog_1_method_17_code 4 (some .int) "FrameProcessor" 1 := ⟨zt_good, zd_FP_free, zo_FP_free, ze_FP_free, zn_FP, by decide +kernel⟩
theorem ME_isRealPage_k : zz_kS zt_T yME_isRealPage prog_4_method_4_code 1 (some .boolean) 1 := ⟨zt_good, zd_ME_isRealPage, zs_ME_isRealPage, zn_ME, by decide +kernel⟩
theorem ME_assign_k : zz_kV zt_T yME_assign prog_4_method_6_code 3 none "FrameProcessor$Memory" 2 := ⟨zt_good, zd_ME_assign, zo_ME_assign, ze_ME_assign, zn_ME, by decide +kernel⟩
theorem ME_setGuarded_k : zz_kV zt_T yME_setGuarded prog_4_method_8_code 3 none "FrameProcessor$Memory" 2 := ⟨zt_good, zd_ME_setGuarded, zo_ME_setGuarded, ze_ME_setGuarded, zn_ME, by decide +kernel⟩
theorem ME_takeNotes_k : zz_kV zt_T yME_takeNotes prog_4_method_10_code 3 (some .int) "FrameProcessor$Memory" 1 := ⟨zt_good, zd_ME_takeNotes, zo_ME_takeNotes, ze_ME_takeNotes, zn_ME, by decide +kernel⟩
theorem ME_isAddress_k : zz_kS zt_T yME_isAddress prog_4_method_2_code 1 (some .boolean) 1 := ⟨zt_good, zd_ME_isAddress, zs_ME_isAddress, zn_ME, by decide +kernel⟩
theorem ME_isThere_k : zz_kV zt_T yME_isThere prog_4_method_11_code 2 (some .boolean) "FrameProcessor$Memory" 1 := ⟨zt_good, zd_ME_isThere, zo_ME_isThere, ze_ME_isThere, zn_ME, by decide +kernel⟩
theorem ME_put_k : zz_kV zt_T yME_put prog_4_method_13_code 4 none "FrameProcessor$Memory" 2 := ⟨zt_good, zd_ME_put, zo_ME_put, ze_ME_put, zn_ME, by decide +kernel⟩
theorem ME_begin_k : zz_kV zt_T yME_begin prog_4_method_15_code 1 none "FrameProcessor$Memory" 0 := ⟨zt_good, zd_ME_begin, zo_ME_begin, ze_ME_begin, zn_ME, by decide +kernel⟩
theorem RO_leastFree_k : zz_kV zt_T yRO_leastFree prog_6_method_3_code 2 (some (.object "FrameProcessor$Task")) "FrameProcessor$Roster" 0 := ⟨zt_good, zd_RO_leastFree, zo_RO_leastFree, ze_RO_leastFree, zn_RO, by decide +kernel⟩
theorem ME_fail_k : zz_kV zt_T yME_fail prog_4_method_18_code 2 none "FrameProcessor$Memory" 1 := ⟨zt_good, zd_ME_fail, zo_ME_fail, ze_ME_fail, zn_ME, by decide +kernel⟩
theorem FR_isElsewhere_k : zz_kS zt_T yFR_isElsewhere prog_2_method_5_code 1 (some .boolean) 1 := ⟨zt_good, zd_FR_isElsewhere, zs_FR_isElsewhere, zn_FR, by decide +kernel⟩
theorem ME_read_k : zz_kV zt_T yME_read prog_4_method_19_code 3 (some .int) "FrameProcessor$Memory" 1 := ⟨zt_good, zd_ME_read, zo_ME_read, ze_ME_read, zn_ME, by decide +kernel⟩
theorem FR_meant_k : zz_kV zt_T yFR_meant prog_2_method_6_code 3 (some .int) "FrameProcessor$Frames" 1 := ⟨zt_good, zd_FR_meant, zo_FR_meant, ze_FR_meant, zn_FR, by decide +kernel⟩
theorem FR_isProcedure_k : zz_kS zt_T yFR_isProcedure prog_2_method_4_code 1 (some .boolean) 1 := ⟨zt_good, zd_FR_isProcedure, zs_FR_isProcedure, zn_FR, by decide +kernel⟩
theorem FR_byteAt_k : zz_kV zt_T yFR_byteAt prog_2_method_7_code 4 (some .int) "FrameProcessor$Frames" 2 := ⟨zt_good, zd_FR_byteAt, zo_FR_byteAt, ze_FR_byteAt, zn_FR, by decide +kernel⟩
theorem ME_write_k : zz_kV zt_T yME_write prog_4_method_20_code 6 none "FrameProcessor$Memory" 2 := ⟨zt_good, zd_ME_write, zo_ME_write, ze_ME_write, zn_ME, by decide +kernel⟩
theorem FR_take_k : zz_kV zt_T yFR_take prog_2_method_2_code 5 (some .int) "FrameProcessor$Frames" 1 := ⟨zt_good, zd_FR_take, zo_FR_take, ze_FR_take, zn_FR, by decide +kernel⟩
theorem FR_open_k : zz_kV zt_T yFR_open prog_2_method_9_code 7 (some .int) "FrameProcessor$Frames" 2 := ⟨zt_good, zd_FR_open, zo_FR_open, ze_FR_open, zn_FR, by decide +kernel⟩
theorem PR_prepareChild_k : zz_kV zt_T yPR_prepareChild prog_5_method_17_code 4 none "FrameProcessor$Processor" 2 := ⟨zt_good, zd_PR_prepareChild, zo_PR_prepareChild, ze_PR_prepareChild, zn_PR, by decide +kernel⟩
theorem ME_hasFailed_k : zz_kV zt_T yME_hasFailed prog_4_method_16_code 1 (some .boolean) "FrameProcessor$Memory" 0 := ⟨zt_good, zd_ME_hasFailed, zo_ME_hasFailed, ze_ME_hasFailed, zn_ME, by decide +kernel⟩
theorem ME_undo_k : zz_kV zt_T yME_undo prog_4_method_21_code 2 none "FrameProcessor$Memory" 0 := ⟨zt_good, zd_ME_undo, zo_ME_undo, ze_ME_undo, zn_ME, by decide +kernel⟩
theorem RO_nextChange_k : zz_kV zt_T yRO_nextChange prog_6_method_7_code 1 (some .int) "FrameProcessor$Roster" 0 := ⟨zt_good, zd_RO_nextChange, zo_RO_nextChange, ze_RO_nextChange, zn_RO, by decide +kernel⟩
theorem TA_enter_k : zz_kV zt_T yTA_enter prog_7_method_3_code 3 none "FrameProcessor$Task" 2 := ⟨zt_good, zd_TA_enter, zo_TA_enter, ze_TA_enter, zn_TA, by decide +kernel⟩
theorem RO_makeReady_k : zz_kV zt_T yRO_makeReady prog_6_method_8_code 2 none "FrameProcessor$Roster" 1 := ⟨zt_good, zd_RO_makeReady, zo_RO_makeReady, ze_RO_makeReady, zn_RO, by decide +kernel⟩
theorem RO_begin_k : zz_kV zt_T yRO_begin prog_6_method_9_code 4 none "FrameProcessor$Roster" 3 := ⟨zt_good, zd_RO_begin, zo_RO_begin, ze_RO_begin, zn_RO, by decide +kernel⟩
theorem PR_launch_k : zz_kV zt_T yPR_launch prog_5_method_2_code 3 (some .int) "FrameProcessor$Processor" 2 := ⟨zt_good, zd_PR_launch, zo_PR_launch, ze_PR_launch, zn_PR, by decide +kernel⟩
theorem WS_loadFrom_k : zz_kV zt_T yWS_loadFrom prog_8_method_2_code 3 none "FrameProcessor$WorkStack" 1 := ⟨zt_good, zd_WS_loadFrom, zo_WS_loadFrom, ze_WS_loadFrom, zn_WS, by decide +kernel⟩
theorem PR_beginWith_k : zz_kV zt_T yPR_beginWith prog_5_method_4_code 2 none "FrameProcessor$Processor" 1 := ⟨zt_good, zd_PR_beginWith, zo_PR_beginWith, ze_PR_beginWith, zn_PR, by decide +kernel⟩
theorem IN_fetch_k : zz_kV zt_T yIN_fetch prog_3_method_2_code 5 none "FrameProcessor$Instruction" 1 := ⟨zt_good, zd_IN_fetch, zo_IN_fetch, ze_IN_fetch, zn_IN, by decide +kernel⟩
theorem WS_push_k : zz_kV zt_T yWS_push prog_8_method_5_code 2 none "FrameProcessor$WorkStack" 1 := ⟨zt_good, zd_WS_push, zo_WS_push, ze_WS_push, zn_WS, by decide +kernel⟩
theorem WS_pop_k : zz_kV zt_T yWS_pop prog_8_method_6_code 1 (some .int) "FrameProcessor$WorkStack" 0 := ⟨zt_good, zd_WS_pop, zo_WS_pop, ze_WS_pop, zn_WS, by decide +kernel⟩
theorem PR_move_k : zz_kV zt_T yPR_move prog_5_method_8_code 3 none "FrameProcessor$Processor" 0 := ⟨zt_good, zd_PR_move, zo_PR_move, ze_PR_move, zn_PR, by decide +kernel⟩
theorem PR_shifted_k : zz_kS zt_T yPR_shifted prog_5_method_11_code 2 (some .int) 2 := ⟨zt_good, zd_PR_shifted, zs_PR_shifted, zn_PR, by decide +kernel⟩
theorem PR_combined_k : zz_kS zt_T yPR_combined prog_5_method_10_code 3 (some .int) 3 := ⟨zt_good, zd_PR_combined, zs_PR_combined, zn_PR, by decide +kernel⟩
theorem PR_combine_k : zz_kV zt_T yPR_combine prog_5_method_9_code 3 none "FrameProcessor$Processor" 0 := ⟨zt_good, zd_PR_combine, zo_PR_combine, ze_PR_combine, zn_PR, by decide +kernel⟩
theorem IN_jump_k : zz_kV zt_T yIN_jump prog_3_method_3_code 1 none "FrameProcessor$Instruction" 0 := ⟨zt_good, zd_IN_jump, zo_IN_jump, ze_IN_jump, zn_IN, by decide +kernel⟩
theorem PR_fieldShift_k : zz_kV zt_T yPR_fieldShift prog_5_method_14_code 3 (some .int) "FrameProcessor$Processor" 0 := ⟨zt_good, zd_PR_fieldShift, zo_PR_fieldShift, ze_PR_fieldShift, zn_PR, by decide +kernel⟩
theorem PR_fieldMask_k : zz_kV zt_T yPR_fieldMask prog_5_method_13_code 2 (some .int) "FrameProcessor$Processor" 0 := ⟨zt_good, zd_PR_fieldMask, zo_PR_fieldMask, ze_PR_fieldMask, zn_PR, by decide +kernel⟩
theorem PR_arrange_k : zz_kV zt_T yPR_arrange prog_5_method_12_code 7 none "FrameProcessor$Processor" 0 := ⟨zt_good, zd_PR_arrange, zo_PR_arrange, ze_PR_arrange, zn_PR, by decide +kernel⟩
theorem PR_saveNext_k : zz_kV zt_T yPR_saveNext prog_5_method_6_code 1 none "FrameProcessor$Processor" 0 := ⟨zt_good, zd_PR_saveNext, zo_PR_saveNext, ze_PR_saveNext, zn_PR, by decide +kernel⟩
theorem FR_procedure_k : zz_kS zt_T yFR_procedure prog_2_method_8_code 2 (some .int) 2 := ⟨zt_good, zd_FR_procedure, zs_FR_procedure, zn_FR, by decide +kernel⟩
theorem PR_goTo_k : zz_kV zt_T yPR_goTo prog_5_method_16_code 4 none "FrameProcessor$Processor" 2 := ⟨zt_good, zd_PR_goTo, zo_PR_goTo, ze_PR_goTo, zn_PR, by decide +kernel⟩
theorem FR_giveBack_k : zz_kV zt_T yFR_giveBack prog_2_method_3_code 4 none "FrameProcessor$Frames" 1 := ⟨zt_good, zd_FR_giveBack, zo_FR_giveBack, ze_FR_giveBack, zn_FR, by decide +kernel⟩
theorem PR_transfer_k : zz_kV zt_T yPR_transfer prog_5_method_15_code 6 none "FrameProcessor$Processor" 0 := ⟨zt_good, zd_PR_transfer, zo_PR_transfer, ze_PR_transfer, zn_PR, by decide +kernel⟩
theorem ME_addressOf_k : zz_kS zt_T yME_addressOf prog_4_method_5_code 1 (some .int) 1 := ⟨zt_good, zd_ME_addressOf, zs_ME_addressOf, zn_ME, by decide +kernel⟩
theorem PR_enterMonitor_k : zz_kV zt_T yPR_enterMonitor prog_5_method_19_code 2 none "FrameProcessor$Processor" 1 := ⟨zt_good, zd_PR_enterMonitor, zo_PR_enterMonitor, ze_PR_enterMonitor, zn_PR, by decide +kernel⟩
theorem PR_exitMonitor_k : zz_kV zt_T yPR_exitMonitor prog_5_method_20_code 2 none "FrameProcessor$Processor" 1 := ⟨zt_good, zd_PR_exitMonitor, zo_PR_exitMonitor, ze_PR_exitMonitor, zn_PR, by decide +kernel⟩
theorem PR_awaitCondition_k : zz_kV zt_T yPR_awaitCondition prog_5_method_21_code 2 none "FrameProcessor$Processor" 0 := ⟨zt_good, zd_PR_awaitCondition, zo_PR_awaitCondition, ze_PR_awaitCondition, zn_PR, by decide +kernel⟩
theorem PR_coordinate_k : zz_kV zt_T yPR_coordinate prog_5_method_18_code 1 none "FrameProcessor$Processor" 0 := ⟨zt_good, zd_PR_coordinate, zo_PR_coordinate, ze_PR_coordinate, zn_PR, by decide +kernel⟩
theorem RO_block_k : zz_kV zt_T yRO_block prog_6_method_11_code 3 none "FrameProcessor$Roster" 2 := ⟨zt_good, zd_RO_block, zo_RO_block, ze_RO_block, zn_RO, by decide +kernel⟩
theorem WS_isOver_k : zz_kV zt_T yWS_isOver prog_8_method_3_code 1 (some .boolean) "FrameProcessor$WorkStack" 0 := ⟨zt_good, zd_WS_isOver, zo_WS_isOver, ze_WS_isOver, zn_WS, by decide +kernel⟩
theorem PR_endAtNext_k : zz_kV zt_T yPR_endAtNext prog_5_method_5_code 1 none "FrameProcessor$Processor" 0 := ⟨zt_good, zd_PR_endAtNext, zo_PR_endAtNext, ze_PR_endAtNext, zn_PR, by decide +kernel⟩
theorem ME_faultHeld_k : zz_kV zt_T yME_faultHeld prog_4_method_17_code 1 (some .int) "FrameProcessor$Memory" 0 := ⟨zt_good, zd_ME_faultHeld, zo_ME_faultHeld, ze_ME_faultHeld, zn_ME, by decide +kernel⟩
theorem RO_halt_k : zz_kV zt_T yRO_halt prog_6_method_10_code 3 none "FrameProcessor$Roster" 2 := ⟨zt_good, zd_RO_halt, zo_RO_halt, ze_RO_halt, zn_RO, by decide +kernel⟩
theorem WS_saveTo_k : zz_kV zt_T yWS_saveTo prog_8_method_4_code 3 none "FrameProcessor$WorkStack" 1 := ⟨zt_good, zd_WS_saveTo, zo_WS_saveTo, ze_WS_saveTo, zn_WS, by decide +kernel⟩
theorem TA_clear_k : zz_kV zt_T yTA_clear prog_7_method_2_code 1 none "FrameProcessor$Task" 0 := ⟨zt_good, zd_TA_clear, zo_TA_clear, ze_TA_clear, zn_TA, by decide +kernel⟩
theorem RO_wakeFirst_k : zz_kV zt_T yRO_wakeFirst prog_6_method_13_code 4 (some .int) "FrameProcessor$Roster" 2 := ⟨zt_good, zd_RO_wakeFirst, zo_RO_wakeFirst, ze_RO_wakeFirst, zn_RO, by decide +kernel⟩
theorem RO_await_k : zz_kV zt_T yRO_await prog_6_method_12_code 4 none "FrameProcessor$Roster" 3 := ⟨zt_good, zd_RO_await, zo_RO_await, ze_RO_await, zn_RO, by decide +kernel⟩
theorem RO_wakeAll_k : zz_kV zt_T yRO_wakeAll prog_6_method_14_code 3 none "FrameProcessor$Roster" 1 := ⟨zt_good, zd_RO_wakeAll, zo_RO_wakeAll, ze_RO_wakeAll, zn_RO, by decide +kernel⟩
theorem PR_settle_k : zz_kV zt_T yPR_settle prog_5_method_7_code 1 none "FrameProcessor$Processor" 0 := ⟨zt_good, zd_PR_settle, zo_PR_settle, ze_PR_settle, zn_PR, by decide +kernel⟩
theorem PR_step_k : zz_kV zt_T yPR_step prog_5_method_3_code 2 none "FrameProcessor$Processor" 1 := ⟨zt_good, zd_PR_step, zo_PR_step, ze_PR_step, zn_PR, by decide +kernel⟩
theorem ME_makeOdd_k : zz_kV zt_T yME_makeOdd prog_4_method_14_code 5 none "FrameProcessor$Memory" 1 := ⟨zt_good, zd_ME_makeOdd, zo_ME_makeOdd, ze_ME_makeOdd, zn_ME, by decide +kernel⟩
theorem RO_leastTimeout_k : zz_kV zt_T yRO_leastTimeout prog_6_method_16_code 4 (some .int) "FrameProcessor$Roster" 0 := ⟨zt_good, zd_RO_leastTimeout, zo_RO_leastTimeout, ze_RO_leastTimeout, zn_RO, by decide +kernel⟩
theorem RO_lowerTimeouts_k : zz_kV zt_T yRO_lowerTimeouts prog_6_method_17_code 5 (some .int) "FrameProcessor$Roster" 1 := ⟨zt_good, zd_RO_lowerTimeouts, zo_RO_lowerTimeouts, ze_RO_lowerTimeouts, zn_RO, by decide +kernel⟩
theorem RO_passTicks_k : zz_kV zt_T yRO_passTicks prog_6_method_15_code 6 (some .int) "FrameProcessor$Roster" 1 := ⟨zt_good, zd_RO_passTicks, zo_RO_passTicks, ze_RO_passTicks, zn_RO, by decide +kernel⟩
theorem MO_thrown_k : zz_kV zt_T yMO_thrown prog_10_method_2_code 1 (some .int) "FrameProcessorModel" 0 := ⟨zt_good, zd_MO_thrown, zo_MO_thrown, ze_MO_thrown, zn_MO, by decide +kernel⟩
theorem MO_first_k : zz_kV zt_T yMO_first prog_10_method_28_code 3 (some .int) "FrameProcessorModel" 0 := ⟨zt_good, zd_MO_first, zo_MO_first, ze_MO_first, zn_MO, by decide +kernel⟩
theorem MO_at_k : zz_kV zt_T yMO_at prog_10_method_4_code 3 (some .int) "FrameProcessorModel" 1 := ⟨zt_good, zd_MO_at, zo_MO_at, ze_MO_at, zn_MO, by decide +kernel⟩
theorem MO_wrong_k : zz_kV zt_T yMO_wrong prog_10_method_5_code 2 none "FrameProcessorModel" 1 := ⟨zt_good, zd_MO_wrong, zo_MO_wrong, ze_MO_wrong, zn_MO, by decide +kernel⟩
theorem MO_read_k : zz_kV zt_T yMO_read prog_10_method_6_code 3 (some .int) "FrameProcessorModel" 1 := ⟨zt_good, zd_MO_read, zo_MO_read, ze_MO_read, zn_MO, by decide +kernel⟩
theorem MO_low_k : zz_kS zt_T yMO_low prog_10_method_3_code 1 (some .int) 1 := ⟨zt_good, zd_MO_low, zs_MO_low, zn_MO, by decide +kernel⟩
theorem MO_byteAt_k : zz_kV zt_T yMO_byteAt prog_10_method_9_code 4 (some .int) "FrameProcessorModel" 2 := ⟨zt_good, zd_MO_byteAt, zo_MO_byteAt, ze_MO_byteAt, zn_MO, by decide +kernel⟩
theorem MO_nextByte_k : zz_kV zt_T yMO_nextByte prog_10_method_10_code 2 (some .int) "FrameProcessorModel" 0 := ⟨zt_good, zd_MO_nextByte, zo_MO_nextByte, ze_MO_nextByte, zn_MO, by decide +kernel⟩
theorem MO_push_k : zz_kV zt_T yMO_push prog_10_method_12_code 2 none "FrameProcessorModel" 1 := ⟨zt_good, zd_MO_push, zo_MO_push, ze_MO_push, zn_MO, by decide +kernel⟩
theorem MO_pop_k : zz_kV zt_T yMO_pop prog_10_method_11_code 1 (some .int) "FrameProcessorModel" 0 := ⟨zt_good, zd_MO_pop, zo_MO_pop, ze_MO_pop, zn_MO, by decide +kernel⟩
theorem MO_write_k : zz_kV zt_T yMO_write prog_10_method_7_code 4 none "FrameProcessorModel" 2 := ⟨zt_good, zd_MO_write, zo_MO_write, ze_MO_write, zn_MO, by decide +kernel⟩
theorem MO_signed_k : zz_kS zt_T yMO_signed prog_10_method_13_code 1 (some .int) 1 := ⟨zt_good, zd_MO_signed, zs_MO_signed, zn_MO, by decide +kernel⟩
theorem MO_field_k : zz_kS zt_T yMO_field prog_10_method_29_code 4 (some .int) 2 := ⟨zt_good, zd_MO_field, zs_MO_field, zn_MO, by decide +kernel⟩
theorem MO_placed_k : zz_kS zt_T yMO_placed prog_10_method_30_code 6 (some .int) 3 := ⟨zt_good, zd_MO_placed, zs_MO_placed, zn_MO, by decide +kernel⟩
theorem MO_meant_k : zz_kV zt_T yMO_meant prog_10_method_16_code 3 (some .int) "FrameProcessorModel" 1 := ⟨zt_good, zd_MO_meant, zo_MO_meant, ze_MO_meant, zn_MO, by decide +kernel⟩
theorem MO_take_k : zz_kV zt_T yMO_take prog_10_method_14_code 5 (some .int) "FrameProcessorModel" 1 := ⟨zt_good, zd_MO_take, zo_MO_take, ze_MO_take, zn_MO, by decide +kernel⟩
theorem MO_called_k : zz_kV zt_T yMO_called prog_10_method_17_code 9 (some .int) "FrameProcessorModel" 2 := ⟨zt_good, zd_MO_called, zo_MO_called, ze_MO_called, zn_MO, by decide +kernel⟩
theorem MO_call_k : zz_kV zt_T yMO_call prog_10_method_18_code 4 none "FrameProcessorModel" 1 := ⟨zt_good, zd_MO_call, zo_MO_call, ze_MO_call, zn_MO, by decide +kernel⟩
theorem MO_give_k : zz_kV zt_T yMO_give prog_10_method_15_code 4 none "FrameProcessorModel" 1 := ⟨zt_good, zd_MO_give, zo_MO_give, ze_MO_give, zn_MO, by decide +kernel⟩
theorem MO_giveBack_k : zz_kV zt_T yMO_giveBack prog_10_method_19_code 4 none "FrameProcessorModel" 0 := ⟨zt_good, zd_MO_giveBack, zo_MO_giveBack, ze_MO_giveBack, zn_MO, by decide +kernel⟩
theorem MO_leastFree_k : zz_kV zt_T yMO_leastFree prog_10_method_20_code 2 (some .int) "FrameProcessorModel" 0 := ⟨zt_good, zd_MO_leastFree, zo_MO_leastFree, ze_MO_leastFree, zn_MO, by decide +kernel⟩
theorem MO_begun_k : zz_kV zt_T yMO_begun prog_10_method_26_code 3 (some .int) "FrameProcessorModel" 1 := ⟨zt_good, zd_MO_begun, zo_MO_begun, ze_MO_begun, zn_MO, by decide +kernel⟩
theorem MO_fork_k : zz_kV zt_T yMO_fork prog_10_method_34_code 5 none "FrameProcessorModel" 0 := ⟨zt_good, zd_MO_fork, zo_MO_fork, ze_MO_fork, zn_MO, by decide +kernel⟩
theorem MO_block_k : zz_kV zt_T yMO_block prog_10_method_36_code 2 none "FrameProcessorModel" 1 := ⟨zt_good, zd_MO_block, zo_MO_block, ze_MO_block, zn_MO, by decide +kernel⟩
theorem MO_firstOf_k : zz_kV zt_T yMO_firstOf prog_10_method_22_code 7 (some .int) "FrameProcessorModel" 2 := ⟨zt_good, zd_MO_firstOf, zo_MO_firstOf, ze_MO_firstOf, zn_MO, by decide +kernel⟩
theorem MO_wake_k : zz_kV zt_T yMO_wake prog_10_method_23_code 4 (some .boolean) "FrameProcessorModel" 2 := ⟨zt_good, zd_MO_wake, zo_MO_wake, ze_MO_wake, zn_MO, by decide +kernel⟩
theorem MO_exit_k : zz_kV zt_T yMO_exit prog_10_method_35_code 3 none "FrameProcessorModel" 1 := ⟨zt_good, zd_MO_exit, zo_MO_exit, ze_MO_exit, zn_MO, by decide +kernel⟩
theorem MO_two_k : zz_kV zt_T yMO_two prog_10_method_31_code 5 none "FrameProcessorModel" 1 := ⟨zt_good, zd_MO_two, zo_MO_two, ze_MO_two, zn_MO, by decide +kernel⟩
theorem MO_more_k : zz_kV zt_T yMO_more prog_10_method_33_code 7 (some .boolean) "FrameProcessorModel" 1 := ⟨zt_good, zd_MO_more, zo_MO_more, ze_MO_more, zn_MO, by decide +kernel⟩
theorem MO_act_k : zz_kV zt_T yMO_act prog_10_method_32_code 7 (some .boolean) "FrameProcessorModel" 2 := ⟨zt_good, zd_MO_act, zo_MO_act, ze_MO_act, zn_MO, by decide +kernel⟩
theorem MO_undo_k : zz_kV zt_T yMO_undo prog_10_method_8_code 1 none "FrameProcessorModel" 0 := ⟨zt_good, zd_MO_undo, zo_MO_undo, ze_MO_undo, zn_MO, by decide +kernel⟩
theorem MO_become_k : zz_kV zt_T yMO_become prog_10_method_21_code 3 none "FrameProcessorModel" 2 := ⟨zt_good, zd_MO_become, zo_MO_become, ze_MO_become, zn_MO, by decide +kernel⟩
theorem MO_ready_k : zz_kV zt_T yMO_ready prog_10_method_24_code 2 none "FrameProcessorModel" 1 := ⟨zt_good, zd_MO_ready, zo_MO_ready, ze_MO_ready, zn_MO, by decide +kernel⟩
theorem MO_wakeAll_k : zz_kV zt_T yMO_wakeAll prog_10_method_25_code 2 none "FrameProcessorModel" 0 := ⟨zt_good, zd_MO_wakeAll, zo_MO_wakeAll, ze_MO_wakeAll, zn_MO, by decide +kernel⟩
theorem MO_begin_k : zz_kV zt_T yMO_begin prog_10_method_27_code 4 none "FrameProcessorModel" 3 := ⟨zt_good, zd_MO_begin, zo_MO_begin, ze_MO_begin, zn_MO, by decide +kernel⟩
theorem MO_instruction_k : zz_kV zt_T yMO_instruction prog_10_method_37_code 6 none "FrameProcessorModel" 0 := ⟨zt_good, zd_MO_instruction, zo_MO_instruction, ze_MO_instruction, zn_MO, by decide +kernel⟩
theorem MO_run_k : zz_kV zt_T yMO_run prog_10_method_38_code 3 (some .int) "FrameProcessorModel" 1 := ⟨zt_good, zd_MO_run, zo_MO_run, ze_MO_run, zn_MO, by decide +kernel⟩
theorem MO_isNumber_k : zz_kS zt_T yMO_isNumber prog_10_method_39_code 2 (some .boolean) 2 := ⟨zt_good, zd_MO_isNumber, zs_MO_isNumber, zn_MO, by decide +kernel⟩
theorem MO_map_k : zz_kV zt_T yMO_map prog_10_method_40_code 3 none "FrameProcessorModel" 2 := ⟨zt_good, zd_MO_map, zo_MO_map, ze_MO_map, zn_MO, by decide +kernel⟩
theorem MO_protect_k : zz_kV zt_T yMO_protect prog_10_method_41_code 3 none "FrameProcessorModel" 2 := ⟨zt_good, zd_MO_protect, zo_MO_protect, ze_MO_protect, zn_MO, by decide +kernel⟩
theorem MO_noted_k : zz_kV zt_T yMO_noted prog_10_method_42_code 3 (some .int) "FrameProcessorModel" 1 := ⟨zt_good, zd_MO_noted, zo_MO_noted, ze_MO_noted, zn_MO, by decide +kernel⟩
theorem MO_poke_k : zz_kV zt_T yMO_poke prog_10_method_43_code 3 none "FrameProcessorModel" 2 := ⟨zt_good, zd_MO_poke, zo_MO_poke, ze_MO_poke, zn_MO, by decide +kernel⟩
theorem MO_peek_k : zz_kV zt_T yMO_peek prog_10_method_44_code 2 (some .int) "FrameProcessorModel" 1 := ⟨zt_good, zd_MO_peek, zo_MO_peek, ze_MO_peek, zn_MO, by decide +kernel⟩
theorem MO_start_k : zz_kV zt_T yMO_start prog_10_method_45_code 5 (some .int) "FrameProcessorModel" 2 := ⟨zt_good, zd_MO_start, zo_MO_start, ze_MO_start, zn_MO, by decide +kernel⟩
theorem MO_resume_k : zz_kV zt_T yMO_resume prog_10_method_46_code 2 none "FrameProcessorModel" 1 := ⟨zt_good, zd_MO_resume, zo_MO_resume, ze_MO_resume, zn_MO, by decide +kernel⟩
theorem MO_kill_k : zz_kV zt_T yMO_kill prog_10_method_47_code 2 none "FrameProcessorModel" 1 := ⟨zt_good, zd_MO_kill, zo_MO_kill, ze_MO_kill, zn_MO, by decide +kernel⟩
theorem MO_interrupt_k : zz_kV zt_T yMO_interrupt prog_10_method_48_code 4 (some .int) "FrameProcessorModel" 1 := ⟨zt_good, zd_MO_interrupt, zo_MO_interrupt, ze_MO_interrupt, zn_MO, by decide +kernel⟩
theorem MO_tick_k : zz_kV zt_T yMO_tick prog_10_method_49_code 7 (some .int) "FrameProcessorModel" 1 := ⟨zt_good, zd_MO_tick, zo_MO_tick, ze_MO_tick, zn_MO, by decide +kernel⟩
theorem MO_running_k : zz_kV zt_T yMO_running prog_10_method_50_code 1 (some .int) "FrameProcessorModel" 0 := ⟨zt_good, zd_MO_running, zo_MO_running, ze_MO_running, zn_MO, by decide +kernel⟩
theorem MO_process_k : zz_kV zt_T yMO_process prog_10_method_51_code 6 (some .int) "FrameProcessorModel" 2 := ⟨zt_good, zd_MO_process, zo_MO_process, ze_MO_process, zn_MO, by decide +kernel⟩
theorem MO_stack_k : zz_kV zt_T yMO_stack prog_10_method_52_code 3 (some .int) "FrameProcessorModel" 2 := ⟨zt_good, zd_MO_stack, zo_MO_stack, ze_MO_stack, zn_MO, by decide +kernel⟩
theorem MO_page_k : zz_kV zt_T yMO_page prog_10_method_53_code 3 (some .int) "FrameProcessorModel" 2 := ⟨zt_good, zd_MO_page, zo_MO_page, ze_MO_page, zn_MO, by decide +kernel⟩
theorem MO_free_k : zz_kV zt_T yMO_free prog_10_method_54_code 5 (some .int) "FrameProcessorModel" 1 := ⟨zt_good, zd_MO_free, zo_MO_free, ze_MO_free, zn_MO, by decide +kernel⟩
theorem zz_li_0 : Int32.ofInt (0) = (0 : Int32) := by decide +kernel
theorem zz_li_1 : Int32.ofInt (1) = (1 : Int32) := by decide +kernel
theorem zz_lb_6 : (Int8.ofInt (6)).toInt32 = (6 : Int32) := by decide +kernel
theorem zz_li_m1 : Int32.ofInt (-1) = (-1 : Int32) := by decide +kernel
theorem zz_lb_16 : (Int8.ofInt (16)).toInt32 = (16 : Int32) := by decide +kernel
theorem zz_lb_8 : (Int8.ofInt (8)).toInt32 = (8 : Int32) := by decide +kernel
theorem zz_lb_15 : (Int8.ofInt (15)).toInt32 = (15 : Int32) := by decide +kernel
theorem zz_ls_256 : (Int16.ofInt (256)).toInt32 = (256 : Int32) := by decide +kernel
theorem zz_ls_255 : (Int16.ofInt (255)).toInt32 = (255 : Int32) := by decide +kernel
theorem zz_ls_600 : (Int16.ofInt (600)).toInt32 = (600 : Int32) := by decide +kernel
theorem zz_lb_12 : (Int8.ofInt (12)).toInt32 = (12 : Int32) := by decide +kernel
theorem zz_ls_4096 : (Int16.ofInt (4096)).toInt32 = (4096 : Int32) := by decide +kernel
theorem zz_li_3 : Int32.ofInt (3) = (3 : Int32) := by decide +kernel
theorem zz_li_2 : Int32.ofInt (2) = (2 : Int32) := by decide +kernel
theorem zz_li_4 : Int32.ofInt (4) = (4 : Int32) := by decide +kernel
theorem zz_li_5 : Int32.ofInt (5) = (5 : Int32) := by decide +kernel
theorem zz_lb_32 : (Int8.ofInt (32)).toInt32 = (32 : Int32) := by decide +kernel
theorem zz_lb_7 : (Int8.ofInt (7)).toInt32 = (7 : Int32) := by decide +kernel
theorem zz_lb_9 : (Int8.ofInt (9)).toInt32 = (9 : Int32) := by decide +kernel
theorem zz_lb_m16 : (Int8.ofInt (-16)).toInt32 = (-16 : Int32) := by decide +kernel
theorem zz_ls_4095 : (Int16.ofInt (4095)).toInt32 = (4095 : Int32) := by decide +kernel
theorem zz_lb_17 : (Int8.ofInt (17)).toInt32 = (17 : Int32) := by decide +kernel
theorem zz_lb_25 : (Int8.ofInt (25)).toInt32 = (25 : Int32) := by decide +kernel
theorem zz_lb_40 : (Int8.ofInt (40)).toInt32 = (40 : Int32) := by decide +kernel
theorem zz_lb_m15 : (Int8.ofInt (-15)).toInt32 = (-15 : Int32) := by decide +kernel
theorem zz_lb_19 : (Int8.ofInt (19)).toInt32 = (19 : Int32) := by decide +kernel
theorem zz_lb_29 : (Int8.ofInt (29)).toInt32 = (29 : Int32) := by decide +kernel
theorem zz_lb_27 : (Int8.ofInt (27)).toInt32 = (27 : Int32) := by decide +kernel
theorem zz_ls_500 : (Int16.ofInt (500)).toInt32 = (500 : Int32) := by decide +kernel
theorem zz_lb_11 : (Int8.ofInt (11)).toInt32 = (11 : Int32) := by decide +kernel
