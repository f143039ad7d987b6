/-- the words of the tables that a call keeps -/
def W0 : List Cond := lw_tbl.filter goodWord
theorem wm_ {w : Cond} (k : Nat) (h : lw_tbl[k]? = some w) (hg : goodWord w = true) : w ∈ W0 := List.mem_filter.mpr ⟨List.mem_of_getElem? h, hg⟩
def cls_F : String := "FlowedLine"
def cls_D : String := "FlowedLine$Driver"
def cls_M : String := "FlowedLine$Modem"
def cls_P : String := "FlowedLine$Port"
def cls_R : String := "FlowedLine$Ring"
def cls_S : String := "FlowedLine$SentLog"
def cls_T : String := "FlowedLineModel"
def cls_L : String := "FlowedLineLaw"
def fld_D : u_T := fun k => match k with
  | 0 => ("FlowedLine$Driver", "forth", "LFlowedLine$Ring;", true)
  | 1 => ("FlowedLine$Driver", "back", "LFlowedLine$Ring;", true)
  | 2 => ("FlowedLine$Driver", "port", "LFlowedLine$Port;", true)
  | 3 => ("FlowedLine$Driver", "held", "Z", false)
  | 4 => ("FlowedLine$Driver", "asked", "Z", false)
  | 5 => ("FlowedLine$Driver", "urgent", "I", false)
  | _ => ("FlowedLine$Driver", "lostCount", "I", false)
def typ_D : Nat → FieldType := fun k => match k with
  | 0 => .object "FlowedLine$Ring"
  | 1 => .object "FlowedLine$Ring"
  | 2 => .object "FlowedLine$Port"
  | 3 => .boolean
  | 4 => .boolean
  | 5 => .int
  | _ => .int
theorem nam_D : ∀ a, a < 7 → ∀ b, b < 7 → a ≠ b → (fld_D a).2.1 ≠ (fld_D b).2.1 := by decide +kernel
theorem tok_D : ∀ k, k < 7 → parseFieldDescriptor (fld_D k).2.2.1 = some (typ_D k) := by decide +kernel
theorem iin_D : ∀ w ∈ u_ws cls_D fld_D 7, w ∈ W0 := by decide +kernel
def fld_M : u_T := fun k => match k with
  | 0 => ("FlowedLine$Modem", "control", "I", false)
  | 1 => ("FlowedLine$Modem", "changes", "I", false)
  | _ => ("FlowedLine$Modem", "given", "I", false)
def typ_M : Nat → FieldType := fun k => match k with
  | 0 => .int
  | 1 => .int
  | _ => .int
theorem nam_M : ∀ a, a < 3 → ∀ b, b < 3 → a ≠ b → (fld_M a).2.1 ≠ (fld_M b).2.1 := by decide +kernel
theorem tok_M : ∀ k, k < 3 → parseFieldDescriptor (fld_M k).2.2.1 = some (typ_M k) := by decide +kernel
theorem iin_M : ∀ w ∈ u_ws cls_M fld_M 3, w ∈ W0 := by decide +kernel
def fld_P : u_T := fun k => match k with
  | 0 => ("FlowedLine$Port", "in", "LFlowedLine$Ring;", true)
  | 1 => ("FlowedLine$Port", "out", "LFlowedLine$Ring;", true)
  | 2 => ("FlowedLine$Port", "modem", "LFlowedLine$Modem;", true)
  | 3 => ("FlowedLine$Port", "log", "LFlowedLine$SentLog;", true)
  | 4 => ("FlowedLine$Port", "queued", "Z", false)
  | 5 => ("FlowedLine$Port", "level", "I", false)
  | 6 => ("FlowedLine$Port", "enabled", "I", false)
  | 7 => ("FlowedLine$Port", "format", "I", false)
  | 8 => ("FlowedLine$Port", "spare", "I", false)
  | 9 => ("FlowedLine$Port", "low", "I", false)
  | 10 => ("FlowedLine$Port", "high", "I", false)
  | 11 => ("FlowedLine$Port", "overrun", "Z", false)
  | 12 => ("FlowedLine$Port", "vacated", "Z", false)
  | 13 => ("FlowedLine$Port", "quiet", "I", false)
  | 14 => ("FlowedLine$Port", "shifting", "I", false)
  | _ => ("FlowedLine$Port", "ticksToGo", "I", false)
def typ_P : Nat → FieldType := fun k => match k with
  | 0 => .object "FlowedLine$Ring"
  | 1 => .object "FlowedLine$Ring"
  | 2 => .object "FlowedLine$Modem"
  | 3 => .object "FlowedLine$SentLog"
  | 4 => .boolean
  | 5 => .int
  | 6 => .int
  | 7 => .int
  | 8 => .int
  | 9 => .int
  | 10 => .int
  | 11 => .boolean
  | 12 => .boolean
  | 13 => .int
  | 14 => .int
  | _ => .int
theorem nam_P : ∀ a, a < 16 → ∀ b, b < 16 → a ≠ b → (fld_P a).2.1 ≠ (fld_P b).2.1 := by decide +kernel
theorem tok_P : ∀ k, k < 16 → parseFieldDescriptor (fld_P k).2.2.1 = some (typ_P k) := by decide +kernel
theorem iin_P : ∀ w ∈ u_ws cls_P fld_P 16, w ∈ W0 := by decide +kernel
def fld_R : u_T := fun k => match k with
  | 0 => ("FlowedLine$Ring", "places", "[I", true)
  | 1 => ("FlowedLine$Ring", "limit", "I", false)
  | 2 => ("FlowedLine$Ring", "first", "I", false)
  | _ => ("FlowedLine$Ring", "size", "I", false)
def typ_R : Nat → FieldType := fun k => match k with
  | 0 => .array .int
  | 1 => .int
  | 2 => .int
  | _ => .int
theorem nam_R : ∀ a, a < 4 → ∀ b, b < 4 → a ≠ b → (fld_R a).2.1 ≠ (fld_R b).2.1 := by decide +kernel
theorem tok_R : ∀ k, k < 4 → parseFieldDescriptor (fld_R k).2.2.1 = some (typ_R k) := by decide +kernel
theorem iin_R : ∀ w ∈ u_ws cls_R fld_R 4, w ∈ W0 := by decide +kernel
def fld_S : u_T := fun k => match k with
  | 0 => ("FlowedLine$SentLog", "latest", "[I", true)
  | _ => ("FlowedLine$SentLog", "size", "I", false)
def typ_S : Nat → FieldType := fun k => match k with
  | 0 => .array .int
  | _ => .int
theorem nam_S : ∀ a, a < 2 → ∀ b, b < 2 → a ≠ b → (fld_S a).2.1 ≠ (fld_S b).2.1 := by decide +kernel
theorem tok_S : ∀ k, k < 2 → parseFieldDescriptor (fld_S k).2.2.1 = some (typ_S k) := by decide +kernel
theorem iin_S : ∀ w ∈ u_ws cls_S fld_S 2, w ∈ W0 := by decide +kernel
def fld_F : u_T := fun k => match k with
  | 0 => ("FlowedLine", "port", "LFlowedLine$Port;", true)
  | _ => ("FlowedLine", "driver", "LFlowedLine$Driver;", true)
def typ_F : Nat → FieldType := fun k => match k with
  | 0 => .object "FlowedLine$Port"
  | _ => .object "FlowedLine$Driver"
theorem nam_F : ∀ a, a < 2 → ∀ b, b < 2 → a ≠ b → (fld_F a).2.1 ≠ (fld_F b).2.1 := by decide +kernel
theorem tok_F : ∀ k, k < 2 → parseFieldDescriptor (fld_F k).2.2.1 = some (typ_F k) := by decide +kernel
theorem iin_F : ∀ w ∈ u_ws cls_F fld_F 2, w ∈ W0 := by decide +kernel
def fld_T : u_T := fun k => match k with
  | 0 => ("FlowedLineModel", "rows", "[I", true)
  | 1 => ("FlowedLineModel", "sizes", "[I", true)
  | 2 => ("FlowedLineModel", "faults", "[I", true)
  | 3 => ("FlowedLineModel", "ticks", "I", false)
  | 4 => ("FlowedLineModel", "due", "I", false)
  | 5 => ("FlowedLineModel", "sending", "I", false)
  | 6 => ("FlowedLineModel", "heard", "I", false)
  | 7 => ("FlowedLineModel", "level", "I", false)
  | 8 => ("FlowedLineModel", "enabled", "I", false)
  | 9 => ("FlowedLineModel", "format", "I", false)
  | 10 => ("FlowedLineModel", "control", "I", false)
  | 11 => ("FlowedLineModel", "spare", "I", false)
  | 12 => ("FlowedLineModel", "low", "I", false)
  | 13 => ("FlowedLineModel", "high", "I", false)
  | 14 => ("FlowedLineModel", "overrun", "Z", false)
  | 15 => ("FlowedLineModel", "vacated", "Z", false)
  | 16 => ("FlowedLineModel", "queued", "Z", false)
  | 17 => ("FlowedLineModel", "given", "I", false)
  | 18 => ("FlowedLineModel", "changes", "I", false)
  | 19 => ("FlowedLineModel", "total", "I", false)
  | 20 => ("FlowedLineModel", "last", "[I", true)
  | 21 => ("FlowedLineModel", "held", "Z", false)
  | 22 => ("FlowedLineModel", "asked", "Z", false)
  | 23 => ("FlowedLineModel", "urgent", "I", false)
  | _ => ("FlowedLineModel", "lost", "I", false)
def typ_T : Nat → FieldType := fun k => match k with
  | 0 => .array .int
  | 1 => .array .int
  | 2 => .array .int
  | 3 => .int
  | 4 => .int
  | 5 => .int
  | 6 => .int
  | 7 => .int
  | 8 => .int
  | 9 => .int
  | 10 => .int
  | 11 => .int
  | 12 => .int
  | 13 => .int
  | 14 => .boolean
  | 15 => .boolean
  | 16 => .boolean
  | 17 => .int
  | 18 => .int
  | 19 => .int
  | 20 => .array .int
  | 21 => .boolean
  | 22 => .boolean
  | 23 => .int
  | _ => .int
theorem nam_T : ∀ a, a < 25 → ∀ b, b < 25 → a ≠ b → (fld_T a).2.1 ≠ (fld_T b).2.1 := by decide +kernel
theorem tok_T : ∀ k, k < 25 → parseFieldDescriptor (fld_T k).2.2.1 = some (typ_T k) := by decide +kernel
theorem iin_T : ∀ w ∈ u_ws cls_T fld_T 25, w ∈ W0 := by decide +kernel
/-- the classes whose objects the worlds hold -/
abbrev cls : List vw_C := [(cls_D, fld_D, 7), (cls_M, fld_M, 3), (cls_P, fld_P, 16), (cls_R, fld_R, 4), (cls_S, fld_S, 2), (cls_F, fld_F, 2), (cls_T, fld_T, 25)]
abbrev b_F_init : ByteArray := prog_1_method_1_code
def y_F_init : MethodName := ⟨cls_F, "<init>", "()V"⟩
abbrev b_P_init : ByteArray := prog_4_method_1_code
def y_P_init : MethodName := ⟨cls_P, "<init>", "()V"⟩
abbrev b_R_init : ByteArray := prog_5_method_1_code
def y_R_init : MethodName := ⟨cls_R, "<init>", "(I)V"⟩
abbrev b_M_init : ByteArray := prog_3_method_1_code
def y_M_init : MethodName := ⟨cls_M, "<init>", "()V"⟩
abbrev b_S_init : ByteArray := prog_6_method_1_code
def y_S_init : MethodName := ⟨cls_S, "<init>", "()V"⟩
abbrev b_D_init : ByteArray := prog_2_method_1_code
def y_D_init : MethodName := ⟨cls_D, "<init>", "(LFlowedLine$Port;)V"⟩
abbrev b_F_read : ByteArray := prog_1_method_2_code
def y_F_read : MethodName := ⟨cls_F, "read", "(I)I"⟩
abbrev b_P_hasRegister : ByteArray := prog_4_method_2_code
def y_P_hasRegister : MethodName := ⟨cls_P, "hasRegister", "(I)Z"⟩
abbrev b_P_load : ByteArray := prog_4_method_3_code
def y_P_load : MethodName := ⟨cls_P, "load", "(I)I"⟩
abbrev b_P_usesOtherBank : ByteArray := prog_4_method_5_code
def y_P_usesOtherBank : MethodName := ⟨cls_P, "usesOtherBank", "()Z"⟩
abbrev b_P_takeIn : ByteArray := prog_4_method_9_code
def y_P_takeIn : MethodName := ⟨cls_P, "takeIn", "()I"⟩
abbrev b_R_removeOldest : ByteArray := prog_5_method_7_code
def y_R_removeOldest : MethodName := ⟨cls_R, "removeOldest", "()I"⟩
abbrev b_P_identify : ByteArray := prog_4_method_8_code
def y_P_identify : MethodName := ⟨cls_P, "identify", "()I"⟩
abbrev b_P_findCause : ByteArray := prog_4_method_7_code
def y_P_findCause : MethodName := ⟨cls_P, "findCause", "()I"⟩
abbrev b_R_oldest : ByteArray := prog_5_method_5_code
def y_R_oldest : MethodName := ⟨cls_R, "oldest", "()I"⟩
abbrev b_P_span : ByteArray := prog_4_method_6_code
def y_P_span : MethodName := ⟨cls_P, "span", "()I"⟩
abbrev b_P_readStatus : ByteArray := prog_4_method_10_code
def y_P_readStatus : MethodName := ⟨cls_P, "readStatus", "()I"⟩
abbrev b_R_hasItemAbove : ByteArray := prog_5_method_8_code
def y_R_hasItemAbove : MethodName := ⟨cls_R, "hasItemAbove", "(I)Z"⟩
abbrev b_R_replaceOldest : ByteArray := prog_5_method_6_code
def y_R_replaceOldest : MethodName := ⟨cls_R, "replaceOldest", "(I)V"⟩
abbrev b_M_readChanges : ByteArray := prog_3_method_7_code
def y_M_readChanges : MethodName := ⟨cls_M, "readChanges", "()I"⟩
abbrev b_M_inputs : ByteArray := prog_3_method_3_code
def y_M_inputs : MethodName := ⟨cls_M, "inputs", "()I"⟩
abbrev b_M_isLooped : ByteArray := prog_3_method_2_code
def y_M_isLooped : MethodName := ⟨cls_M, "isLooped", "()Z"⟩
abbrev b_F_write : ByteArray := prog_1_method_3_code
def y_F_write : MethodName := ⟨cls_F, "write", "(II)Z"⟩
abbrev b_P_store : ByteArray := prog_4_method_4_code
def y_P_store : MethodName := ⟨cls_P, "store", "(II)V"⟩
abbrev b_P_storeData : ByteArray := prog_4_method_11_code
def y_P_storeData : MethodName := ⟨cls_P, "storeData", "(I)V"⟩
abbrev b_R_append : ByteArray := prog_5_method_4_code
def y_R_append : MethodName := ⟨cls_R, "append", "(I)V"⟩
abbrev b_P_moveIfPossible : ByteArray := prog_4_method_14_code
def y_P_moveIfPossible : MethodName := ⟨cls_P, "moveIfPossible", "()V"⟩
abbrev b_P_storeEnabled : ByteArray := prog_4_method_12_code
def y_P_storeEnabled : MethodName := ⟨cls_P, "storeEnabled", "(I)V"⟩
abbrev b_P_storeQueueing : ByteArray := prog_4_method_13_code
def y_P_storeQueueing : MethodName := ⟨cls_P, "storeQueueing", "(I)V"⟩
abbrev b_R_clear : ByteArray := prog_5_method_3_code
def y_R_clear : MethodName := ⟨cls_R, "clear", "()V"⟩
abbrev b_M_setControl : ByteArray := prog_3_method_5_code
def y_M_setControl : MethodName := ⟨cls_M, "setControl", "(I)V"⟩
abbrev b_M_noteChanges : ByteArray := prog_3_method_6_code
def y_M_noteChanges : MethodName := ⟨cls_M, "noteChanges", "(I)V"⟩
abbrev b_F_wire : ByteArray := prog_1_method_4_code
def y_F_wire : MethodName := ⟨cls_F, "wire", "(II)Z"⟩
abbrev b_P_arrive : ByteArray := prog_4_method_15_code
def y_P_arrive : MethodName := ⟨cls_P, "arrive", "(II)V"⟩
abbrev b_R_isFull : ByteArray := prog_5_method_2_code
def y_R_isFull : MethodName := ⟨cls_R, "isFull", "()Z"⟩
abbrev b_F_tick : ByteArray := prog_1_method_5_code
def y_F_tick : MethodName := ⟨cls_F, "tick", "(I)I"⟩
abbrev b_P_passTick : ByteArray := prog_4_method_16_code
def y_P_passTick : MethodName := ⟨cls_P, "passTick", "()Z"⟩
abbrev b_P_sendOff : ByteArray := prog_4_method_17_code
def y_P_sendOff : MethodName := ⟨cls_P, "sendOff", "(I)V"⟩
abbrev b_S_add : ByteArray := prog_6_method_2_code
def y_S_add : MethodName := ⟨cls_S, "add", "(I)V"⟩
abbrev b_F_lines : ByteArray := prog_1_method_6_code
def y_F_lines : MethodName := ⟨cls_F, "lines", "(I)V"⟩
abbrev b_M_setLines : ByteArray := prog_3_method_4_code
def y_M_setLines : MethodName := ⟨cls_M, "setLines", "(I)V"⟩
abbrev b_F_sent : ByteArray := prog_1_method_7_code
def y_F_sent : MethodName := ⟨cls_F, "sent", "(I)I"⟩
abbrev b_S_backFromLatest : ByteArray := prog_6_method_3_code
def y_S_backFromLatest : MethodName := ⟨cls_S, "backFromLatest", "(I)I"⟩
abbrev b_F_total : ByteArray := prog_1_method_8_code
def y_F_total : MethodName := ⟨cls_F, "total", "()I"⟩
abbrev b_F_cause : ByteArray := prog_1_method_9_code
def y_F_cause : MethodName := ⟨cls_F, "cause", "()I"⟩
abbrev b_F_start : ByteArray := prog_1_method_10_code
def y_F_start : MethodName := ⟨cls_F, "start", "()V"⟩
abbrev b_D_begin : ByteArray := prog_2_method_2_code
def y_D_begin : MethodName := ⟨cls_D, "begin", "()V"⟩
abbrev b_F_accept : ByteArray := prog_1_method_11_code
def y_F_accept : MethodName := ⟨cls_F, "accept", "(I)Z"⟩
abbrev b_D_queueForth : ByteArray := prog_2_method_3_code
def y_D_queueForth : MethodName := ⟨cls_D, "queueForth", "(I)Z"⟩
abbrev b_D_wake : ByteArray := prog_2_method_5_code
def y_D_wake : MethodName := ⟨cls_D, "wake", "()V"⟩
abbrev b_F_take : ByteArray := prog_1_method_12_code
def y_F_take : MethodName := ⟨cls_F, "take", "()I"⟩
abbrev b_D_takeBack : ByteArray := prog_2_method_4_code
def y_D_takeBack : MethodName := ⟨cls_D, "takeBack", "()I"⟩
abbrev b_F_service : ByteArray := prog_1_method_13_code
def y_F_service : MethodName := ⟨cls_F, "service", "()I"⟩
abbrev b_D_runRound : ByteArray := prog_2_method_6_code
def y_D_runRound : MethodName := ⟨cls_D, "runRound", "()Z"⟩
abbrev b_D_readStatus : ByteArray := prog_2_method_7_code
def y_D_readStatus : MethodName := ⟨cls_D, "readStatus", "()I"⟩
abbrev b_D_receive : ByteArray := prog_2_method_8_code
def y_D_receive : MethodName := ⟨cls_D, "receive", "()V"⟩
abbrev b_D_handle : ByteArray := prog_2_method_9_code
def y_D_handle : MethodName := ⟨cls_D, "handle", "(I)V"⟩
abbrev b_D_transmit : ByteArray := prog_2_method_10_code
def y_D_transmit : MethodName := ⟨cls_D, "transmit", "()V"⟩
abbrev b_F_count : ByteArray := prog_1_method_14_code
def y_F_count : MethodName := ⟨cls_F, "count", "(I)I"⟩
abbrev b_F_flow : ByteArray := prog_1_method_15_code
def y_F_flow : MethodName := ⟨cls_F, "flow", "()I"⟩
abbrev b_D_flowBits : ByteArray := prog_2_method_11_code
def y_D_flowBits : MethodName := ⟨cls_D, "flowBits", "()I"⟩
abbrev b_F_lost : ByteArray := prog_1_method_16_code
def y_F_lost : MethodName := ⟨cls_F, "lost", "()I"⟩
abbrev b_F_left : ByteArray := prog_1_method_17_code
def y_F_left : MethodName := ⟨cls_F, "left", "()I"⟩
abbrev b_T_init : ByteArray := prog_8_method_1_code
def y_T_init : MethodName := ⟨cls_T, "<init>", "()V"⟩
abbrev b_T_wire : ByteArray := prog_8_method_13_code
def y_T_wire : MethodName := ⟨cls_T, "wire", "(II)Z"⟩
abbrev b_T_loops : ByteArray := prog_8_method_7_code
def y_T_loops : MethodName := ⟨cls_T, "loops", "()Z"⟩
abbrev b_T_isOn : ByteArray := prog_8_method_6_code
def y_T_isOn : MethodName := ⟨cls_T, "isOn", "(II)Z"⟩
abbrev b_T_arrive : ByteArray := prog_8_method_11_code
def y_T_arrive : MethodName := ⟨cls_T, "arrive", "(II)V"⟩
abbrev b_T_places : ByteArray := prog_8_method_4_code
def y_T_places : MethodName := ⟨cls_T, "places", "()I"⟩
abbrev b_T_append : ByteArray := prog_8_method_2_code
def y_T_append : MethodName := ⟨cls_T, "append", "(II)V"⟩
abbrev b_T_tick : ByteArray := prog_8_method_15_code
def y_T_tick : MethodName := ⟨cls_T, "tick", "(I)I"⟩
abbrev b_T_leave : ByteArray := prog_8_method_14_code
def y_T_leave : MethodName := ⟨cls_T, "leave", "()I"⟩
abbrev b_T_moveOne : ByteArray := prog_8_method_10_code
def y_T_moveOne : MethodName := ⟨cls_T, "moveOne", "(I)V"⟩
abbrev b_T_removeFirst : ByteArray := prog_8_method_3_code
def y_T_removeFirst : MethodName := ⟨cls_T, "removeFirst", "(I)I"⟩
abbrev b_T_span : ByteArray := prog_8_method_5_code
def y_T_span : MethodName := ⟨cls_T, "span", "()I"⟩
abbrev b_T_lines : ByteArray := prog_8_method_16_code
def y_T_lines : MethodName := ⟨cls_T, "lines", "(I)V"⟩
abbrev b_T_inputs : ByteArray := prog_8_method_8_code
def y_T_inputs : MethodName := ⟨cls_T, "inputs", "()I"⟩
abbrev b_T_noteInputs : ByteArray := prog_8_method_9_code
def y_T_noteInputs : MethodName := ⟨cls_T, "noteInputs", "(I)V"⟩
abbrev b_T_sent : ByteArray := prog_8_method_17_code
def y_T_sent : MethodName := ⟨cls_T, "sent", "(I)I"⟩
abbrev b_T_total : ByteArray := prog_8_method_18_code
def y_T_total : MethodName := ⟨cls_T, "total", "()I"⟩
abbrev b_T_cause : ByteArray := prog_8_method_19_code
def y_T_cause : MethodName := ⟨cls_T, "cause", "()I"⟩
abbrev b_T_read : ByteArray := prog_8_method_23_code
def y_T_read : MethodName := ⟨cls_T, "read", "(I)I"⟩
abbrev b_T_takeIn : ByteArray := prog_8_method_12_code
def y_T_takeIn : MethodName := ⟨cls_T, "takeIn", "()I"⟩
abbrev b_T_readCause : ByteArray := prog_8_method_20_code
def y_T_readCause : MethodName := ⟨cls_T, "readCause", "()I"⟩
abbrev b_T_readStatus : ByteArray := prog_8_method_21_code
def y_T_readStatus : MethodName := ⟨cls_T, "readStatus", "()I"⟩
abbrev b_T_readChanges : ByteArray := prog_8_method_22_code
def y_T_readChanges : MethodName := ⟨cls_T, "readChanges", "()I"⟩
abbrev b_T_write : ByteArray := prog_8_method_27_code
def y_T_write : MethodName := ⟨cls_T, "write", "(II)Z"⟩
abbrev b_T_writeData : ByteArray := prog_8_method_24_code
def y_T_writeData : MethodName := ⟨cls_T, "writeData", "(I)V"⟩
abbrev b_T_writeEnabled : ByteArray := prog_8_method_25_code
def y_T_writeEnabled : MethodName := ⟨cls_T, "writeEnabled", "(I)V"⟩
abbrev b_T_writeQueues : ByteArray := prog_8_method_26_code
def y_T_writeQueues : MethodName := ⟨cls_T, "writeQueues", "(I)V"⟩
abbrev b_T_start : ByteArray := prog_8_method_29_code
def y_T_start : MethodName := ⟨cls_T, "start", "()V"⟩
abbrev b_T_accept : ByteArray := prog_8_method_30_code
def y_T_accept : MethodName := ⟨cls_T, "accept", "(I)Z"⟩
abbrev b_T_wake : ByteArray := prog_8_method_28_code
def y_T_wake : MethodName := ⟨cls_T, "wake", "()V"⟩
abbrev b_T_take : ByteArray := prog_8_method_31_code
def y_T_take : MethodName := ⟨cls_T, "take", "()I"⟩
abbrev b_T_service : ByteArray := prog_8_method_36_code
def y_T_service : MethodName := ⟨cls_T, "service", "()I"⟩
abbrev b_T_round : ByteArray := prog_8_method_35_code
def y_T_round : MethodName := ⟨cls_T, "round", "()Z"⟩
abbrev b_T_receive : ByteArray := prog_8_method_33_code
def y_T_receive : MethodName := ⟨cls_T, "receive", "()V"⟩
abbrev b_T_handle : ByteArray := prog_8_method_32_code
def y_T_handle : MethodName := ⟨cls_T, "handle", "(I)V"⟩
abbrev b_T_transmit : ByteArray := prog_8_method_34_code
def y_T_transmit : MethodName := ⟨cls_T, "transmit", "()V"⟩
abbrev b_T_count : ByteArray := prog_8_method_37_code
def y_T_count : MethodName := ⟨cls_T, "count", "(I)I"⟩
abbrev b_T_flow : ByteArray := prog_8_method_38_code
def y_T_flow : MethodName := ⟨cls_T, "flow", "()I"⟩
abbrev b_T_lost : ByteArray := prog_8_method_39_code
def y_T_lost : MethodName := ⟨cls_T, "lost", "()I"⟩
abbrev b_T_left : ByteArray := prog_8_method_40_code
def y_T_left : MethodName := ⟨cls_T, "left", "()I"⟩
theorem kn_L : Cond.initialized cls_L ∈ W0 := wm_ 23 (by decide +kernel) (by decide +kernel)
theorem kn_F : Cond.initialized cls_F ∈ W0 := wm_ 24 (by decide +kernel) (by decide +kernel)
theorem kn_P : Cond.initialized cls_P ∈ W0 := wm_ 25 (by decide +kernel) (by decide +kernel)
theorem kn_R : Cond.initialized cls_R ∈ W0 := wm_ 26 (by decide +kernel) (by decide +kernel)
theorem kn_M : Cond.initialized cls_M ∈ W0 := wm_ 27 (by decide +kernel) (by decide +kernel)
theorem kn_S : Cond.initialized cls_S ∈ W0 := wm_ 28 (by decide +kernel) (by decide +kernel)
theorem kn_D : Cond.initialized cls_D ∈ W0 := wm_ 29 (by decide +kernel) (by decide +kernel)
theorem kn_T : Cond.initialized cls_T ∈ W0 := wm_ 30 (by decide +kernel) (by decide +kernel)
theorem k_L_7 : Cond.classLink cls_L 7 cls_F ∈ W0 := wm_ 31 (by decide +kernel) (by decide +kernel)
theorem kx_F : Cond.instantiable cls_F 2 ∈ W0 := wm_ 32 (by decide +kernel) (by decide +kernel)
theorem k_L_9 : Cond.methodLink cls_L 9 y_F_init ∈ W0 := wm_ 33 (by decide +kernel) (by decide +kernel)
theorem ki_F_init : Cond.instanceMethod y_F_init ∈ W0 := wm_ 34 (by decide +kernel) (by decide +kernel)
theorem kc_F_init : Cond.code y_F_init b_F_init 1 none ∈ W0 := wm_ 35 (by decide +kernel) (by decide +kernel)
theorem k_F_1 : Cond.methodLink cls_F 1 objectInit ∈ W0 := wm_ 36 (by decide +kernel) (by decide +kernel)
theorem ki_Obj : Cond.instanceMethod objectInit ∈ W0 := wm_ 37 (by decide +kernel) (by decide +kernel)
theorem kc_Obj : Cond.code objectInit ⟨#[0xb1]⟩ 1 none ∈ W0 := wm_ 38 (by decide +kernel) (by decide +kernel)
theorem k_F_7 : Cond.classLink cls_F 7 cls_P ∈ W0 := wm_ 39 (by decide +kernel) (by decide +kernel)
theorem kx_P : Cond.instantiable cls_P 16 ∈ W0 := wm_ 40 (by decide +kernel) (by decide +kernel)
theorem ki_P_init : Cond.instanceMethod y_P_init ∈ W0 := wm_ 42 (by decide +kernel) (by decide +kernel)
theorem kc_P_init : Cond.code y_P_init b_P_init 1 none ∈ W0 := wm_ 43 (by decide +kernel) (by decide +kernel)
theorem k_P_1 : Cond.methodLink cls_P 1 objectInit ∈ W0 := wm_ 44 (by decide +kernel) (by decide +kernel)
theorem k_P_7 : Cond.classLink cls_P 7 cls_R ∈ W0 := wm_ 45 (by decide +kernel) (by decide +kernel)
theorem kx_R : Cond.instantiable cls_R 4 ∈ W0 := wm_ 46 (by decide +kernel) (by decide +kernel)
theorem k_P_9 : Cond.methodLink cls_P 9 y_R_init ∈ W0 := wm_ 47 (by decide +kernel) (by decide +kernel)
theorem ki_R_init : Cond.instanceMethod y_R_init ∈ W0 := wm_ 48 (by decide +kernel) (by decide +kernel)
theorem kc_R_init : Cond.code y_R_init b_R_init 2 none ∈ W0 := wm_ 49 (by decide +kernel) (by decide +kernel)
theorem k_R_1 : Cond.methodLink cls_R 1 objectInit ∈ W0 := wm_ 50 (by decide +kernel) (by decide +kernel)
theorem k_R_9 : Cond.fieldLink cls_R 9 cls_R "places" "[I" ∈ W0 := wm_ 51 (by decide +kernel) (by decide +kernel)
theorem k_R_13 : Cond.fieldLink cls_R 13 cls_R "limit" "I" ∈ W0 := wm_ 52 (by decide +kernel) (by decide +kernel)
theorem k_P_136 : Cond.fieldLink cls_P 136 cls_R "limit" "I" ∈ W0 := wm_ 53 (by decide +kernel) (by decide +kernel)
theorem k_R_20 : Cond.fieldLink cls_R 20 cls_R "first" "I" ∈ W0 := wm_ 54 (by decide +kernel) (by decide +kernel)
theorem k_R_17 : Cond.fieldLink cls_R 17 cls_R "size" "I" ∈ W0 := wm_ 55 (by decide +kernel) (by decide +kernel)
theorem k_D_57 : Cond.fieldLink cls_D 57 cls_R "size" "I" ∈ W0 := wm_ 56 (by decide +kernel) (by decide +kernel)
theorem k_P_93 : Cond.fieldLink cls_P 93 cls_R "size" "I" ∈ W0 := wm_ 57 (by decide +kernel) (by decide +kernel)
theorem k_F_90 : Cond.fieldLink cls_F 90 cls_R "size" "I" ∈ W0 := wm_ 58 (by decide +kernel) (by decide +kernel)
theorem ka_int : Cond.arrayClass .int ∈ W0 := wm_ 68 (by decide +kernel) (by decide +kernel)
theorem k_P_21 : Cond.classLink cls_P 21 cls_M ∈ W0 := wm_ 69 (by decide +kernel) (by decide +kernel)
theorem kx_M : Cond.instantiable cls_M 3 ∈ W0 := wm_ 70 (by decide +kernel) (by decide +kernel)
theorem ki_M_init : Cond.instanceMethod y_M_init ∈ W0 := wm_ 72 (by decide +kernel) (by decide +kernel)
theorem kc_M_init : Cond.code y_M_init b_M_init 1 none ∈ W0 := wm_ 73 (by decide +kernel) (by decide +kernel)
theorem k_M_1 : Cond.methodLink cls_M 1 objectInit ∈ W0 := wm_ 74 (by decide +kernel) (by decide +kernel)
theorem k_M_7 : Cond.fieldLink cls_M 7 cls_M "control" "I" ∈ W0 := wm_ 75 (by decide +kernel) (by decide +kernel)
theorem k_P_62 : Cond.fieldLink cls_P 62 cls_M "control" "I" ∈ W0 := wm_ 76 (by decide +kernel) (by decide +kernel)
theorem k_M_28 : Cond.fieldLink cls_M 28 cls_M "changes" "I" ∈ W0 := wm_ 77 (by decide +kernel) (by decide +kernel)
theorem k_P_108 : Cond.fieldLink cls_P 108 cls_M "changes" "I" ∈ W0 := wm_ 78 (by decide +kernel) (by decide +kernel)
theorem k_M_17 : Cond.fieldLink cls_M 17 cls_M "given" "I" ∈ W0 := wm_ 79 (by decide +kernel) (by decide +kernel)
theorem k_P_28 : Cond.classLink cls_P 28 cls_S ∈ W0 := wm_ 87 (by decide +kernel) (by decide +kernel)
theorem kx_S : Cond.instantiable cls_S 2 ∈ W0 := wm_ 88 (by decide +kernel) (by decide +kernel)
theorem ki_S_init : Cond.instanceMethod y_S_init ∈ W0 := wm_ 90 (by decide +kernel) (by decide +kernel)
theorem kc_S_init : Cond.code y_S_init b_S_init 1 none ∈ W0 := wm_ 91 (by decide +kernel) (by decide +kernel)
theorem k_S_3 : Cond.methodLink cls_S 3 objectInit ∈ W0 := wm_ 92 (by decide +kernel) (by decide +kernel)
theorem k_S_11 : Cond.fieldLink cls_S 11 cls_S "latest" "[I" ∈ W0 := wm_ 93 (by decide +kernel) (by decide +kernel)
theorem k_S_15 : Cond.fieldLink cls_S 15 cls_S "size" "I" ∈ W0 := wm_ 94 (by decide +kernel) (by decide +kernel)
theorem k_F_66 : Cond.fieldLink cls_F 66 cls_S "size" "I" ∈ W0 := wm_ 95 (by decide +kernel) (by decide +kernel)
theorem k_P_12 : Cond.fieldLink cls_P 12 cls_P "in" "LFlowedLine$Ring;" ∈ W0 := wm_ 101 (by decide +kernel) (by decide +kernel)
theorem k_F_96 : Cond.fieldLink cls_F 96 cls_P "in" "LFlowedLine$Ring;" ∈ W0 := wm_ 102 (by decide +kernel) (by decide +kernel)
theorem k_P_18 : Cond.fieldLink cls_P 18 cls_P "out" "LFlowedLine$Ring;" ∈ W0 := wm_ 103 (by decide +kernel) (by decide +kernel)
theorem k_F_99 : Cond.fieldLink cls_F 99 cls_P "out" "LFlowedLine$Ring;" ∈ W0 := wm_ 104 (by decide +kernel) (by decide +kernel)
theorem k_P_24 : Cond.fieldLink cls_P 24 cls_P "modem" "LFlowedLine$Modem;" ∈ W0 := wm_ 105 (by decide +kernel) (by decide +kernel)
theorem k_F_37 : Cond.fieldLink cls_F 37 cls_P "modem" "LFlowedLine$Modem;" ∈ W0 := wm_ 106 (by decide +kernel) (by decide +kernel)
theorem k_P_31 : Cond.fieldLink cls_P 31 cls_P "log" "LFlowedLine$SentLog;" ∈ W0 := wm_ 107 (by decide +kernel) (by decide +kernel)
theorem k_F_57 : Cond.fieldLink cls_F 57 cls_P "log" "LFlowedLine$SentLog;" ∈ W0 := wm_ 108 (by decide +kernel) (by decide +kernel)
theorem k_P_96 : Cond.fieldLink cls_P 96 cls_P "queued" "Z" ∈ W0 := wm_ 109 (by decide +kernel) (by decide +kernel)
theorem k_P_35 : Cond.fieldLink cls_P 35 cls_P "level" "I" ∈ W0 := wm_ 110 (by decide +kernel) (by decide +kernel)
theorem k_P_53 : Cond.fieldLink cls_P 53 cls_P "enabled" "I" ∈ W0 := wm_ 111 (by decide +kernel) (by decide +kernel)
theorem k_P_59 : Cond.fieldLink cls_P 59 cls_P "format" "I" ∈ W0 := wm_ 112 (by decide +kernel) (by decide +kernel)
theorem k_P_71 : Cond.fieldLink cls_P 71 cls_P "spare" "I" ∈ W0 := wm_ 113 (by decide +kernel) (by decide +kernel)
theorem k_P_39 : Cond.fieldLink cls_P 39 cls_P "low" "I" ∈ W0 := wm_ 114 (by decide +kernel) (by decide +kernel)
theorem k_P_50 : Cond.fieldLink cls_P 50 cls_P "high" "I" ∈ W0 := wm_ 115 (by decide +kernel) (by decide +kernel)
theorem k_P_86 : Cond.fieldLink cls_P 86 cls_P "overrun" "Z" ∈ W0 := wm_ 116 (by decide +kernel) (by decide +kernel)
theorem k_P_105 : Cond.fieldLink cls_P 105 cls_P "vacated" "Z" ∈ W0 := wm_ 117 (by decide +kernel) (by decide +kernel)
theorem k_P_99 : Cond.fieldLink cls_P 99 cls_P "quiet" "I" ∈ W0 := wm_ 118 (by decide +kernel) (by decide +kernel)
theorem k_P_143 : Cond.fieldLink cls_P 143 cls_P "shifting" "I" ∈ W0 := wm_ 119 (by decide +kernel) (by decide +kernel)
theorem k_P_117 : Cond.fieldLink cls_P 117 cls_P "ticksToGo" "I" ∈ W0 := wm_ 120 (by decide +kernel) (by decide +kernel)
theorem k_F_108 : Cond.fieldLink cls_F 108 cls_P "ticksToGo" "I" ∈ W0 := wm_ 121 (by decide +kernel) (by decide +kernel)
theorem k_F_16 : Cond.classLink cls_F 16 cls_D ∈ W0 := wm_ 155 (by decide +kernel) (by decide +kernel)
theorem kx_D : Cond.instantiable cls_D 7 ∈ W0 := wm_ 156 (by decide +kernel) (by decide +kernel)
theorem k_F_18 : Cond.methodLink cls_F 18 y_D_init ∈ W0 := wm_ 157 (by decide +kernel) (by decide +kernel)
theorem ki_D_init : Cond.instanceMethod y_D_init ∈ W0 := wm_ 158 (by decide +kernel) (by decide +kernel)
theorem kc_D_init : Cond.code y_D_init b_D_init 2 none ∈ W0 := wm_ 159 (by decide +kernel) (by decide +kernel)
theorem k_D_3 : Cond.methodLink cls_D 3 objectInit ∈ W0 := wm_ 160 (by decide +kernel) (by decide +kernel)
theorem k_D_9 : Cond.classLink cls_D 9 cls_R ∈ W0 := wm_ 161 (by decide +kernel) (by decide +kernel)
theorem k_D_13 : Cond.methodLink cls_D 13 y_R_init ∈ W0 := wm_ 162 (by decide +kernel) (by decide +kernel)
theorem k_D_16 : Cond.fieldLink cls_D 16 cls_D "forth" "LFlowedLine$Ring;" ∈ W0 := wm_ 163 (by decide +kernel) (by decide +kernel)
theorem k_F_93 : Cond.fieldLink cls_F 93 cls_D "forth" "LFlowedLine$Ring;" ∈ W0 := wm_ 164 (by decide +kernel) (by decide +kernel)
theorem k_D_20 : Cond.fieldLink cls_D 20 cls_D "back" "LFlowedLine$Ring;" ∈ W0 := wm_ 165 (by decide +kernel) (by decide +kernel)
theorem k_F_86 : Cond.fieldLink cls_F 86 cls_D "back" "LFlowedLine$Ring;" ∈ W0 := wm_ 166 (by decide +kernel) (by decide +kernel)
theorem k_D_27 : Cond.fieldLink cls_D 27 cls_D "port" "LFlowedLine$Port;" ∈ W0 := wm_ 167 (by decide +kernel) (by decide +kernel)
theorem k_D_34 : Cond.fieldLink cls_D 34 cls_D "held" "Z" ∈ W0 := wm_ 168 (by decide +kernel) (by decide +kernel)
theorem k_D_38 : Cond.fieldLink cls_D 38 cls_D "asked" "Z" ∈ W0 := wm_ 169 (by decide +kernel) (by decide +kernel)
theorem k_D_23 : Cond.fieldLink cls_D 23 cls_D "urgent" "I" ∈ W0 := wm_ 170 (by decide +kernel) (by decide +kernel)
theorem k_D_77 : Cond.fieldLink cls_D 77 cls_D "lostCount" "I" ∈ W0 := wm_ 171 (by decide +kernel) (by decide +kernel)
theorem k_F_105 : Cond.fieldLink cls_F 105 cls_D "lostCount" "I" ∈ W0 := wm_ 172 (by decide +kernel) (by decide +kernel)
theorem k_F_10 : Cond.fieldLink cls_F 10 cls_F "port" "LFlowedLine$Port;" ∈ W0 := wm_ 188 (by decide +kernel) (by decide +kernel)
theorem k_F_21 : Cond.fieldLink cls_F 21 cls_F "driver" "LFlowedLine$Driver;" ∈ W0 := wm_ 189 (by decide +kernel) (by decide +kernel)
theorem k_L_13 : Cond.methodLink cls_L 13 y_F_read ∈ W0 := wm_ 195 (by decide +kernel) (by decide +kernel)
theorem ki_F_read : Cond.instanceMethod y_F_read ∈ W0 := wm_ 196 (by decide +kernel) (by decide +kernel)
theorem ks_F_read : Cond.selects cls_F y_F_read y_F_read ∈ W0 := wm_ 197 (by decide +kernel) (by decide +kernel)
theorem kc_F_read : Cond.code y_F_read b_F_read 2 (some .int) ∈ W0 := wm_ 198 (by decide +kernel) (by decide +kernel)
theorem k_F_25 : Cond.methodLink cls_F 25 y_P_hasRegister ∈ W0 := wm_ 199 (by decide +kernel) (by decide +kernel)
theorem kt_P_hasRegister : Cond.static y_P_hasRegister ∈ W0 := wm_ 200 (by decide +kernel) (by decide +kernel)
theorem kc_P_hasRegister : Cond.code y_P_hasRegister b_P_hasRegister 1 (some .boolean) ∈ W0 := wm_ 201 (by decide +kernel) (by decide +kernel)
theorem k_F_29 : Cond.methodLink cls_F 29 y_P_load ∈ W0 := wm_ 202 (by decide +kernel) (by decide +kernel)
theorem ki_P_load : Cond.instanceMethod y_P_load ∈ W0 := wm_ 203 (by decide +kernel) (by decide +kernel)
theorem ks_P_load : Cond.selects cls_P y_P_load y_P_load ∈ W0 := wm_ 204 (by decide +kernel) (by decide +kernel)
theorem kc_P_load : Cond.code y_P_load b_P_load 2 (some .int) ∈ W0 := wm_ 205 (by decide +kernel) (by decide +kernel)
theorem k_P_42 : Cond.methodLink cls_P 42 y_P_usesOtherBank ∈ W0 := wm_ 206 (by decide +kernel) (by decide +kernel)
theorem ki_P_usesOtherBank : Cond.instanceMethod y_P_usesOtherBank ∈ W0 := wm_ 207 (by decide +kernel) (by decide +kernel)
theorem ks_P_usesOtherBank : Cond.selects cls_P y_P_usesOtherBank y_P_usesOtherBank ∈ W0 := wm_ 208 (by decide +kernel) (by decide +kernel)
theorem kc_P_usesOtherBank : Cond.code y_P_usesOtherBank b_P_usesOtherBank 1 (some .boolean) ∈ W0 := wm_ 209 (by decide +kernel) (by decide +kernel)
theorem k_P_46 : Cond.methodLink cls_P 46 y_P_takeIn ∈ W0 := wm_ 210 (by decide +kernel) (by decide +kernel)
theorem ki_P_takeIn : Cond.instanceMethod y_P_takeIn ∈ W0 := wm_ 211 (by decide +kernel) (by decide +kernel)
theorem ks_P_takeIn : Cond.selects cls_P y_P_takeIn y_P_takeIn ∈ W0 := wm_ 212 (by decide +kernel) (by decide +kernel)
theorem kc_P_takeIn : Cond.code y_P_takeIn b_P_takeIn 1 (some .int) ∈ W0 := wm_ 213 (by decide +kernel) (by decide +kernel)
theorem k_P_114 : Cond.methodLink cls_P 114 y_R_removeOldest ∈ W0 := wm_ 214 (by decide +kernel) (by decide +kernel)
theorem ki_R_removeOldest : Cond.instanceMethod y_R_removeOldest ∈ W0 := wm_ 215 (by decide +kernel) (by decide +kernel)
theorem ks_R_removeOldest : Cond.selects cls_R y_R_removeOldest y_R_removeOldest ∈ W0 := wm_ 216 (by decide +kernel) (by decide +kernel)
theorem kc_R_removeOldest : Cond.code y_R_removeOldest b_R_removeOldest 2 (some .int) ∈ W0 := wm_ 217 (by decide +kernel) (by decide +kernel)
theorem k_P_56 : Cond.methodLink cls_P 56 y_P_identify ∈ W0 := wm_ 218 (by decide +kernel) (by decide +kernel)
theorem ki_P_identify : Cond.instanceMethod y_P_identify ∈ W0 := wm_ 219 (by decide +kernel) (by decide +kernel)
theorem ks_P_identify : Cond.selects cls_P y_P_identify y_P_identify ∈ W0 := wm_ 220 (by decide +kernel) (by decide +kernel)
theorem kc_P_identify : Cond.code y_P_identify b_P_identify 2 (some .int) ∈ W0 := wm_ 221 (by decide +kernel) (by decide +kernel)
theorem k_P_111 : Cond.methodLink cls_P 111 y_P_findCause ∈ W0 := wm_ 222 (by decide +kernel) (by decide +kernel)
theorem ki_P_findCause : Cond.instanceMethod y_P_findCause ∈ W0 := wm_ 223 (by decide +kernel) (by decide +kernel)
theorem ks_P_findCause : Cond.selects cls_P y_P_findCause y_P_findCause ∈ W0 := wm_ 224 (by decide +kernel) (by decide +kernel)
theorem kc_P_findCause : Cond.code y_P_findCause b_P_findCause 1 (some .int) ∈ W0 := wm_ 225 (by decide +kernel) (by decide +kernel)
theorem k_P_90 : Cond.methodLink cls_P 90 y_R_oldest ∈ W0 := wm_ 226 (by decide +kernel) (by decide +kernel)
theorem ki_R_oldest : Cond.instanceMethod y_R_oldest ∈ W0 := wm_ 227 (by decide +kernel) (by decide +kernel)
theorem ks_R_oldest : Cond.selects cls_R y_R_oldest y_R_oldest ∈ W0 := wm_ 228 (by decide +kernel) (by decide +kernel)
theorem kc_R_oldest : Cond.code y_R_oldest b_R_oldest 1 (some .int) ∈ W0 := wm_ 229 (by decide +kernel) (by decide +kernel)
theorem k_P_102 : Cond.methodLink cls_P 102 y_P_span ∈ W0 := wm_ 230 (by decide +kernel) (by decide +kernel)
theorem ki_P_span : Cond.instanceMethod y_P_span ∈ W0 := wm_ 231 (by decide +kernel) (by decide +kernel)
theorem ks_P_span : Cond.selects cls_P y_P_span y_P_span ∈ W0 := wm_ 232 (by decide +kernel) (by decide +kernel)
theorem kc_P_span : Cond.code y_P_span b_P_span 2 (some .int) ∈ W0 := wm_ 233 (by decide +kernel) (by decide +kernel)
theorem k_P_65 : Cond.methodLink cls_P 65 y_P_readStatus ∈ W0 := wm_ 234 (by decide +kernel) (by decide +kernel)
theorem ki_P_readStatus : Cond.instanceMethod y_P_readStatus ∈ W0 := wm_ 235 (by decide +kernel) (by decide +kernel)
theorem ks_P_readStatus : Cond.selects cls_P y_P_readStatus y_P_readStatus ∈ W0 := wm_ 236 (by decide +kernel) (by decide +kernel)
theorem kc_P_readStatus : Cond.code y_P_readStatus b_P_readStatus 2 (some .int) ∈ W0 := wm_ 237 (by decide +kernel) (by decide +kernel)
theorem k_P_120 : Cond.methodLink cls_P 120 y_R_hasItemAbove ∈ W0 := wm_ 238 (by decide +kernel) (by decide +kernel)
theorem ki_R_hasItemAbove : Cond.instanceMethod y_R_hasItemAbove ∈ W0 := wm_ 239 (by decide +kernel) (by decide +kernel)
theorem ks_R_hasItemAbove : Cond.selects cls_R y_R_hasItemAbove y_R_hasItemAbove ∈ W0 := wm_ 240 (by decide +kernel) (by decide +kernel)
theorem kc_R_hasItemAbove : Cond.code y_R_hasItemAbove b_R_hasItemAbove 3 (some .boolean) ∈ W0 := wm_ 241 (by decide +kernel) (by decide +kernel)
theorem k_P_124 : Cond.methodLink cls_P 124 y_R_replaceOldest ∈ W0 := wm_ 242 (by decide +kernel) (by decide +kernel)
theorem ki_R_replaceOldest : Cond.instanceMethod y_R_replaceOldest ∈ W0 := wm_ 243 (by decide +kernel) (by decide +kernel)
theorem ks_R_replaceOldest : Cond.selects cls_R y_R_replaceOldest y_R_replaceOldest ∈ W0 := wm_ 244 (by decide +kernel) (by decide +kernel)
theorem kc_R_replaceOldest : Cond.code y_R_replaceOldest b_R_replaceOldest 2 none ∈ W0 := wm_ 245 (by decide +kernel) (by decide +kernel)
theorem k_P_68 : Cond.methodLink cls_P 68 y_M_readChanges ∈ W0 := wm_ 246 (by decide +kernel) (by decide +kernel)
theorem ki_M_readChanges : Cond.instanceMethod y_M_readChanges ∈ W0 := wm_ 247 (by decide +kernel) (by decide +kernel)
theorem ks_M_readChanges : Cond.selects cls_M y_M_readChanges y_M_readChanges ∈ W0 := wm_ 248 (by decide +kernel) (by decide +kernel)
theorem kc_M_readChanges : Cond.code y_M_readChanges b_M_readChanges 2 (some .int) ∈ W0 := wm_ 249 (by decide +kernel) (by decide +kernel)
theorem k_M_20 : Cond.methodLink cls_M 20 y_M_inputs ∈ W0 := wm_ 250 (by decide +kernel) (by decide +kernel)
theorem ki_M_inputs : Cond.instanceMethod y_M_inputs ∈ W0 := wm_ 251 (by decide +kernel) (by decide +kernel)
theorem ks_M_inputs : Cond.selects cls_M y_M_inputs y_M_inputs ∈ W0 := wm_ 252 (by decide +kernel) (by decide +kernel)
theorem kc_M_inputs : Cond.code y_M_inputs b_M_inputs 1 (some .int) ∈ W0 := wm_ 253 (by decide +kernel) (by decide +kernel)
theorem k_M_13 : Cond.methodLink cls_M 13 y_M_isLooped ∈ W0 := wm_ 254 (by decide +kernel) (by decide +kernel)
theorem ki_M_isLooped : Cond.instanceMethod y_M_isLooped ∈ W0 := wm_ 255 (by decide +kernel) (by decide +kernel)
theorem ks_M_isLooped : Cond.selects cls_M y_M_isLooped y_M_isLooped ∈ W0 := wm_ 256 (by decide +kernel) (by decide +kernel)
theorem kc_M_isLooped : Cond.code y_M_isLooped b_M_isLooped 1 (some .boolean) ∈ W0 := wm_ 257 (by decide +kernel) (by decide +kernel)
theorem k_L_18 : Cond.methodLink cls_L 18 y_F_write ∈ W0 := wm_ 258 (by decide +kernel) (by decide +kernel)
theorem ki_F_write : Cond.instanceMethod y_F_write ∈ W0 := wm_ 259 (by decide +kernel) (by decide +kernel)
theorem ks_F_write : Cond.selects cls_F y_F_write y_F_write ∈ W0 := wm_ 260 (by decide +kernel) (by decide +kernel)
theorem kc_F_write : Cond.code y_F_write b_F_write 3 (some .boolean) ∈ W0 := wm_ 261 (by decide +kernel) (by decide +kernel)
theorem k_F_33 : Cond.methodLink cls_F 33 y_P_store ∈ W0 := wm_ 262 (by decide +kernel) (by decide +kernel)
theorem ki_P_store : Cond.instanceMethod y_P_store ∈ W0 := wm_ 263 (by decide +kernel) (by decide +kernel)
theorem ks_P_store : Cond.selects cls_P y_P_store y_P_store ∈ W0 := wm_ 264 (by decide +kernel) (by decide +kernel)
theorem kc_P_store : Cond.code y_P_store b_P_store 4 none ∈ W0 := wm_ 265 (by decide +kernel) (by decide +kernel)
theorem k_P_74 : Cond.methodLink cls_P 74 y_P_storeData ∈ W0 := wm_ 266 (by decide +kernel) (by decide +kernel)
theorem ki_P_storeData : Cond.instanceMethod y_P_storeData ∈ W0 := wm_ 267 (by decide +kernel) (by decide +kernel)
theorem ks_P_storeData : Cond.selects cls_P y_P_storeData y_P_storeData ∈ W0 := wm_ 268 (by decide +kernel) (by decide +kernel)
theorem kc_P_storeData : Cond.code y_P_storeData b_P_storeData 2 none ∈ W0 := wm_ 269 (by decide +kernel) (by decide +kernel)
theorem k_P_127 : Cond.methodLink cls_P 127 y_R_append ∈ W0 := wm_ 270 (by decide +kernel) (by decide +kernel)
theorem ki_R_append : Cond.instanceMethod y_R_append ∈ W0 := wm_ 271 (by decide +kernel) (by decide +kernel)
theorem ks_R_append : Cond.selects cls_R y_R_append y_R_append ∈ W0 := wm_ 272 (by decide +kernel) (by decide +kernel)
theorem kc_R_append : Cond.code y_R_append b_R_append 2 none ∈ W0 := wm_ 273 (by decide +kernel) (by decide +kernel)
theorem k_P_130 : Cond.methodLink cls_P 130 y_P_moveIfPossible ∈ W0 := wm_ 274 (by decide +kernel) (by decide +kernel)
theorem ki_P_moveIfPossible : Cond.instanceMethod y_P_moveIfPossible ∈ W0 := wm_ 275 (by decide +kernel) (by decide +kernel)
theorem ks_P_moveIfPossible : Cond.selects cls_P y_P_moveIfPossible y_P_moveIfPossible ∈ W0 := wm_ 276 (by decide +kernel) (by decide +kernel)
theorem kc_P_moveIfPossible : Cond.code y_P_moveIfPossible b_P_moveIfPossible 1 none ∈ W0 := wm_ 277 (by decide +kernel) (by decide +kernel)
theorem k_P_77 : Cond.methodLink cls_P 77 y_P_storeEnabled ∈ W0 := wm_ 278 (by decide +kernel) (by decide +kernel)
theorem ki_P_storeEnabled : Cond.instanceMethod y_P_storeEnabled ∈ W0 := wm_ 279 (by decide +kernel) (by decide +kernel)
theorem ks_P_storeEnabled : Cond.selects cls_P y_P_storeEnabled y_P_storeEnabled ∈ W0 := wm_ 280 (by decide +kernel) (by decide +kernel)
theorem kc_P_storeEnabled : Cond.code y_P_storeEnabled b_P_storeEnabled 3 none ∈ W0 := wm_ 281 (by decide +kernel) (by decide +kernel)
theorem k_P_80 : Cond.methodLink cls_P 80 y_P_storeQueueing ∈ W0 := wm_ 282 (by decide +kernel) (by decide +kernel)
theorem ki_P_storeQueueing : Cond.instanceMethod y_P_storeQueueing ∈ W0 := wm_ 283 (by decide +kernel) (by decide +kernel)
theorem ks_P_storeQueueing : Cond.selects cls_P y_P_storeQueueing y_P_storeQueueing ∈ W0 := wm_ 284 (by decide +kernel) (by decide +kernel)
theorem kc_P_storeQueueing : Cond.code y_P_storeQueueing b_P_storeQueueing 5 none ∈ W0 := wm_ 285 (by decide +kernel) (by decide +kernel)
theorem k_P_133 : Cond.methodLink cls_P 133 y_R_clear ∈ W0 := wm_ 286 (by decide +kernel) (by decide +kernel)
theorem ki_R_clear : Cond.instanceMethod y_R_clear ∈ W0 := wm_ 287 (by decide +kernel) (by decide +kernel)
theorem ks_R_clear : Cond.selects cls_R y_R_clear y_R_clear ∈ W0 := wm_ 288 (by decide +kernel) (by decide +kernel)
theorem kc_R_clear : Cond.code y_R_clear b_R_clear 1 none ∈ W0 := wm_ 289 (by decide +kernel) (by decide +kernel)
theorem k_P_139 : Cond.fieldLink cls_P 139 cls_P "LEVELS" "[I" ∈ W0 := wm_ 290 (by decide +kernel) (by decide +kernel)
theorem k_P_83 : Cond.methodLink cls_P 83 y_M_setControl ∈ W0 := wm_ 292 (by decide +kernel) (by decide +kernel)
theorem ki_M_setControl : Cond.instanceMethod y_M_setControl ∈ W0 := wm_ 293 (by decide +kernel) (by decide +kernel)
theorem ks_M_setControl : Cond.selects cls_M y_M_setControl y_M_setControl ∈ W0 := wm_ 294 (by decide +kernel) (by decide +kernel)
theorem kc_M_setControl : Cond.code y_M_setControl b_M_setControl 3 none ∈ W0 := wm_ 295 (by decide +kernel) (by decide +kernel)
theorem k_M_24 : Cond.methodLink cls_M 24 y_M_noteChanges ∈ W0 := wm_ 296 (by decide +kernel) (by decide +kernel)
theorem ki_M_noteChanges : Cond.instanceMethod y_M_noteChanges ∈ W0 := wm_ 297 (by decide +kernel) (by decide +kernel)
theorem ks_M_noteChanges : Cond.selects cls_M y_M_noteChanges y_M_noteChanges ∈ W0 := wm_ 298 (by decide +kernel) (by decide +kernel)
theorem kc_M_noteChanges : Cond.code y_M_noteChanges b_M_noteChanges 3 none ∈ W0 := wm_ 299 (by decide +kernel) (by decide +kernel)
theorem k_L_23 : Cond.methodLink cls_L 23 y_F_wire ∈ W0 := wm_ 300 (by decide +kernel) (by decide +kernel)
theorem ki_F_wire : Cond.instanceMethod y_F_wire ∈ W0 := wm_ 301 (by decide +kernel) (by decide +kernel)
theorem ks_F_wire : Cond.selects cls_F y_F_wire y_F_wire ∈ W0 := wm_ 302 (by decide +kernel) (by decide +kernel)
theorem kc_F_wire : Cond.code y_F_wire b_F_wire 3 (some .boolean) ∈ W0 := wm_ 303 (by decide +kernel) (by decide +kernel)
theorem k_F_41 : Cond.methodLink cls_F 41 y_M_isLooped ∈ W0 := wm_ 304 (by decide +kernel) (by decide +kernel)
theorem k_F_47 : Cond.methodLink cls_F 47 y_P_arrive ∈ W0 := wm_ 305 (by decide +kernel) (by decide +kernel)
theorem ki_P_arrive : Cond.instanceMethod y_P_arrive ∈ W0 := wm_ 306 (by decide +kernel) (by decide +kernel)
theorem ks_P_arrive : Cond.selects cls_P y_P_arrive y_P_arrive ∈ W0 := wm_ 307 (by decide +kernel) (by decide +kernel)
theorem kc_P_arrive : Cond.code y_P_arrive b_P_arrive 4 none ∈ W0 := wm_ 308 (by decide +kernel) (by decide +kernel)
theorem k_P_146 : Cond.methodLink cls_P 146 y_R_isFull ∈ W0 := wm_ 309 (by decide +kernel) (by decide +kernel)
theorem ki_R_isFull : Cond.instanceMethod y_R_isFull ∈ W0 := wm_ 310 (by decide +kernel) (by decide +kernel)
theorem ks_R_isFull : Cond.selects cls_R y_R_isFull y_R_isFull ∈ W0 := wm_ 311 (by decide +kernel) (by decide +kernel)
theorem kc_R_isFull : Cond.code y_R_isFull b_R_isFull 1 (some .boolean) ∈ W0 := wm_ 312 (by decide +kernel) (by decide +kernel)
theorem k_L_27 : Cond.methodLink cls_L 27 y_F_tick ∈ W0 := wm_ 313 (by decide +kernel) (by decide +kernel)
theorem ki_F_tick : Cond.instanceMethod y_F_tick ∈ W0 := wm_ 314 (by decide +kernel) (by decide +kernel)
theorem ks_F_tick : Cond.selects cls_F y_F_tick y_F_tick ∈ W0 := wm_ 315 (by decide +kernel) (by decide +kernel)
theorem kc_F_tick : Cond.code y_F_tick b_F_tick 4 (some .int) ∈ W0 := wm_ 316 (by decide +kernel) (by decide +kernel)
theorem k_F_50 : Cond.methodLink cls_F 50 y_P_passTick ∈ W0 := wm_ 317 (by decide +kernel) (by decide +kernel)
theorem ki_P_passTick : Cond.instanceMethod y_P_passTick ∈ W0 := wm_ 318 (by decide +kernel) (by decide +kernel)
theorem ks_P_passTick : Cond.selects cls_P y_P_passTick y_P_passTick ∈ W0 := wm_ 319 (by decide +kernel) (by decide +kernel)
theorem kc_P_passTick : Cond.code y_P_passTick b_P_passTick 2 (some .boolean) ∈ W0 := wm_ 320 (by decide +kernel) (by decide +kernel)
theorem k_P_149 : Cond.methodLink cls_P 149 y_P_sendOff ∈ W0 := wm_ 321 (by decide +kernel) (by decide +kernel)
theorem ki_P_sendOff : Cond.instanceMethod y_P_sendOff ∈ W0 := wm_ 322 (by decide +kernel) (by decide +kernel)
theorem ks_P_sendOff : Cond.selects cls_P y_P_sendOff y_P_sendOff ∈ W0 := wm_ 323 (by decide +kernel) (by decide +kernel)
theorem kc_P_sendOff : Cond.code y_P_sendOff b_P_sendOff 2 none ∈ W0 := wm_ 324 (by decide +kernel) (by decide +kernel)
theorem k_P_152 : Cond.methodLink cls_P 152 y_M_isLooped ∈ W0 := wm_ 325 (by decide +kernel) (by decide +kernel)
theorem k_P_155 : Cond.methodLink cls_P 155 y_P_arrive ∈ W0 := wm_ 326 (by decide +kernel) (by decide +kernel)
theorem k_P_159 : Cond.methodLink cls_P 159 y_S_add ∈ W0 := wm_ 327 (by decide +kernel) (by decide +kernel)
theorem ki_S_add : Cond.instanceMethod y_S_add ∈ W0 := wm_ 328 (by decide +kernel) (by decide +kernel)
theorem ks_S_add : Cond.selects cls_S y_S_add y_S_add ∈ W0 := wm_ 329 (by decide +kernel) (by decide +kernel)
theorem kc_S_add : Cond.code y_S_add b_S_add 2 none ∈ W0 := wm_ 330 (by decide +kernel) (by decide +kernel)
theorem k_L_31 : Cond.methodLink cls_L 31 y_F_lines ∈ W0 := wm_ 331 (by decide +kernel) (by decide +kernel)
theorem ki_F_lines : Cond.instanceMethod y_F_lines ∈ W0 := wm_ 332 (by decide +kernel) (by decide +kernel)
theorem ks_F_lines : Cond.selects cls_F y_F_lines y_F_lines ∈ W0 := wm_ 333 (by decide +kernel) (by decide +kernel)
theorem kc_F_lines : Cond.code y_F_lines b_F_lines 2 none ∈ W0 := wm_ 334 (by decide +kernel) (by decide +kernel)
theorem k_F_53 : Cond.methodLink cls_F 53 y_M_setLines ∈ W0 := wm_ 335 (by decide +kernel) (by decide +kernel)
theorem ki_M_setLines : Cond.instanceMethod y_M_setLines ∈ W0 := wm_ 336 (by decide +kernel) (by decide +kernel)
theorem ks_M_setLines : Cond.selects cls_M y_M_setLines y_M_setLines ∈ W0 := wm_ 337 (by decide +kernel) (by decide +kernel)
theorem kc_M_setLines : Cond.code y_M_setLines b_M_setLines 3 none ∈ W0 := wm_ 338 (by decide +kernel) (by decide +kernel)
theorem k_L_36 : Cond.methodLink cls_L 36 y_F_sent ∈ W0 := wm_ 339 (by decide +kernel) (by decide +kernel)
theorem ki_F_sent : Cond.instanceMethod y_F_sent ∈ W0 := wm_ 340 (by decide +kernel) (by decide +kernel)
theorem ks_F_sent : Cond.selects cls_F y_F_sent y_F_sent ∈ W0 := wm_ 341 (by decide +kernel) (by decide +kernel)
theorem kc_F_sent : Cond.code y_F_sent b_F_sent 2 (some .int) ∈ W0 := wm_ 342 (by decide +kernel) (by decide +kernel)
theorem k_F_61 : Cond.methodLink cls_F 61 y_S_backFromLatest ∈ W0 := wm_ 343 (by decide +kernel) (by decide +kernel)
theorem ki_S_backFromLatest : Cond.instanceMethod y_S_backFromLatest ∈ W0 := wm_ 344 (by decide +kernel) (by decide +kernel)
theorem ks_S_backFromLatest : Cond.selects cls_S y_S_backFromLatest y_S_backFromLatest ∈ W0 := wm_ 345 (by decide +kernel) (by decide +kernel)
theorem kc_S_backFromLatest : Cond.code y_S_backFromLatest b_S_backFromLatest 2 (some .int) ∈ W0 := wm_ 346 (by decide +kernel) (by decide +kernel)
theorem k_L_40 : Cond.methodLink cls_L 40 y_F_total ∈ W0 := wm_ 347 (by decide +kernel) (by decide +kernel)
theorem ki_F_total : Cond.instanceMethod y_F_total ∈ W0 := wm_ 348 (by decide +kernel) (by decide +kernel)
theorem ks_F_total : Cond.selects cls_F y_F_total y_F_total ∈ W0 := wm_ 349 (by decide +kernel) (by decide +kernel)
theorem kc_F_total : Cond.code y_F_total b_F_total 1 (some .int) ∈ W0 := wm_ 350 (by decide +kernel) (by decide +kernel)
theorem k_L_45 : Cond.methodLink cls_L 45 y_F_cause ∈ W0 := wm_ 351 (by decide +kernel) (by decide +kernel)
theorem ki_F_cause : Cond.instanceMethod y_F_cause ∈ W0 := wm_ 352 (by decide +kernel) (by decide +kernel)
theorem ks_F_cause : Cond.selects cls_F y_F_cause y_F_cause ∈ W0 := wm_ 353 (by decide +kernel) (by decide +kernel)
theorem kc_F_cause : Cond.code y_F_cause b_F_cause 1 (some .int) ∈ W0 := wm_ 354 (by decide +kernel) (by decide +kernel)
theorem k_F_70 : Cond.methodLink cls_F 70 y_P_findCause ∈ W0 := wm_ 355 (by decide +kernel) (by decide +kernel)
theorem k_L_49 : Cond.methodLink cls_L 49 y_F_start ∈ W0 := wm_ 356 (by decide +kernel) (by decide +kernel)
theorem ki_F_start : Cond.instanceMethod y_F_start ∈ W0 := wm_ 357 (by decide +kernel) (by decide +kernel)
theorem ks_F_start : Cond.selects cls_F y_F_start y_F_start ∈ W0 := wm_ 358 (by decide +kernel) (by decide +kernel)
theorem kc_F_start : Cond.code y_F_start b_F_start 1 none ∈ W0 := wm_ 359 (by decide +kernel) (by decide +kernel)
theorem k_F_74 : Cond.methodLink cls_F 74 y_D_begin ∈ W0 := wm_ 360 (by decide +kernel) (by decide +kernel)
theorem ki_D_begin : Cond.instanceMethod y_D_begin ∈ W0 := wm_ 361 (by decide +kernel) (by decide +kernel)
theorem ks_D_begin : Cond.selects cls_D y_D_begin y_D_begin ∈ W0 := wm_ 362 (by decide +kernel) (by decide +kernel)
theorem kc_D_begin : Cond.code y_D_begin b_D_begin 1 none ∈ W0 := wm_ 363 (by decide +kernel) (by decide +kernel)
theorem k_D_31 : Cond.methodLink cls_D 31 y_R_clear ∈ W0 := wm_ 364 (by decide +kernel) (by decide +kernel)
theorem k_D_41 : Cond.methodLink cls_D 41 y_P_store ∈ W0 := wm_ 365 (by decide +kernel) (by decide +kernel)
theorem k_L_53 : Cond.methodLink cls_L 53 y_F_accept ∈ W0 := wm_ 366 (by decide +kernel) (by decide +kernel)
theorem ki_F_accept : Cond.instanceMethod y_F_accept ∈ W0 := wm_ 367 (by decide +kernel) (by decide +kernel)
theorem ks_F_accept : Cond.selects cls_F y_F_accept y_F_accept ∈ W0 := wm_ 368 (by decide +kernel) (by decide +kernel)
theorem kc_F_accept : Cond.code y_F_accept b_F_accept 2 (some .boolean) ∈ W0 := wm_ 369 (by decide +kernel) (by decide +kernel)
theorem k_F_77 : Cond.methodLink cls_F 77 y_D_queueForth ∈ W0 := wm_ 370 (by decide +kernel) (by decide +kernel)
theorem ki_D_queueForth : Cond.instanceMethod y_D_queueForth ∈ W0 := wm_ 371 (by decide +kernel) (by decide +kernel)
theorem ks_D_queueForth : Cond.selects cls_D y_D_queueForth y_D_queueForth ∈ W0 := wm_ 372 (by decide +kernel) (by decide +kernel)
theorem kc_D_queueForth : Cond.code y_D_queueForth b_D_queueForth 2 (some .boolean) ∈ W0 := wm_ 373 (by decide +kernel) (by decide +kernel)
theorem k_D_47 : Cond.methodLink cls_D 47 y_R_isFull ∈ W0 := wm_ 374 (by decide +kernel) (by decide +kernel)
theorem k_D_51 : Cond.methodLink cls_D 51 y_R_append ∈ W0 := wm_ 375 (by decide +kernel) (by decide +kernel)
theorem k_D_54 : Cond.methodLink cls_D 54 y_D_wake ∈ W0 := wm_ 376 (by decide +kernel) (by decide +kernel)
theorem ki_D_wake : Cond.instanceMethod y_D_wake ∈ W0 := wm_ 377 (by decide +kernel) (by decide +kernel)
theorem ks_D_wake : Cond.selects cls_D y_D_wake y_D_wake ∈ W0 := wm_ 378 (by decide +kernel) (by decide +kernel)
theorem kc_D_wake : Cond.code y_D_wake b_D_wake 1 none ∈ W0 := wm_ 379 (by decide +kernel) (by decide +kernel)
theorem k_D_64 : Cond.methodLink cls_D 64 y_P_load ∈ W0 := wm_ 380 (by decide +kernel) (by decide +kernel)
theorem k_L_58 : Cond.methodLink cls_L 58 y_F_take ∈ W0 := wm_ 381 (by decide +kernel) (by decide +kernel)
theorem ki_F_take : Cond.instanceMethod y_F_take ∈ W0 := wm_ 382 (by decide +kernel) (by decide +kernel)
theorem ks_F_take : Cond.selects cls_F y_F_take y_F_take ∈ W0 := wm_ 383 (by decide +kernel) (by decide +kernel)
theorem kc_F_take : Cond.code y_F_take b_F_take 1 (some .int) ∈ W0 := wm_ 384 (by decide +kernel) (by decide +kernel)
theorem k_F_80 : Cond.methodLink cls_F 80 y_D_takeBack ∈ W0 := wm_ 385 (by decide +kernel) (by decide +kernel)
theorem ki_D_takeBack : Cond.instanceMethod y_D_takeBack ∈ W0 := wm_ 386 (by decide +kernel) (by decide +kernel)
theorem ks_D_takeBack : Cond.selects cls_D y_D_takeBack y_D_takeBack ∈ W0 := wm_ 387 (by decide +kernel) (by decide +kernel)
theorem kc_D_takeBack : Cond.code y_D_takeBack b_D_takeBack 2 (some .int) ∈ W0 := wm_ 388 (by decide +kernel) (by decide +kernel)
theorem k_D_60 : Cond.methodLink cls_D 60 y_R_removeOldest ∈ W0 := wm_ 389 (by decide +kernel) (by decide +kernel)
theorem k_L_62 : Cond.methodLink cls_L 62 y_F_service ∈ W0 := wm_ 390 (by decide +kernel) (by decide +kernel)
theorem ki_F_service : Cond.instanceMethod y_F_service ∈ W0 := wm_ 391 (by decide +kernel) (by decide +kernel)
theorem ks_F_service : Cond.selects cls_F y_F_service y_F_service ∈ W0 := wm_ 392 (by decide +kernel) (by decide +kernel)
theorem kc_F_service : Cond.code y_F_service b_F_service 2 (some .int) ∈ W0 := wm_ 393 (by decide +kernel) (by decide +kernel)
theorem k_F_83 : Cond.methodLink cls_F 83 y_D_runRound ∈ W0 := wm_ 394 (by decide +kernel) (by decide +kernel)
theorem ki_D_runRound : Cond.instanceMethod y_D_runRound ∈ W0 := wm_ 395 (by decide +kernel) (by decide +kernel)
theorem ks_D_runRound : Cond.selects cls_D y_D_runRound y_D_runRound ∈ W0 := wm_ 396 (by decide +kernel) (by decide +kernel)
theorem kc_D_runRound : Cond.code y_D_runRound b_D_runRound 1 (some .boolean) ∈ W0 := wm_ 397 (by decide +kernel) (by decide +kernel)
theorem k_D_68 : Cond.methodLink cls_D 68 y_D_readStatus ∈ W0 := wm_ 398 (by decide +kernel) (by decide +kernel)
theorem ki_D_readStatus : Cond.instanceMethod y_D_readStatus ∈ W0 := wm_ 399 (by decide +kernel) (by decide +kernel)
theorem ks_D_readStatus : Cond.selects cls_D y_D_readStatus y_D_readStatus ∈ W0 := wm_ 400 (by decide +kernel) (by decide +kernel)
theorem kc_D_readStatus : Cond.code y_D_readStatus b_D_readStatus 2 (some .int) ∈ W0 := wm_ 401 (by decide +kernel) (by decide +kernel)
theorem k_D_71 : Cond.methodLink cls_D 71 y_D_receive ∈ W0 := wm_ 402 (by decide +kernel) (by decide +kernel)
theorem ki_D_receive : Cond.instanceMethod y_D_receive ∈ W0 := wm_ 403 (by decide +kernel) (by decide +kernel)
theorem ks_D_receive : Cond.selects cls_D y_D_receive y_D_receive ∈ W0 := wm_ 404 (by decide +kernel) (by decide +kernel)
theorem kc_D_receive : Cond.code y_D_receive b_D_receive 3 none ∈ W0 := wm_ 405 (by decide +kernel) (by decide +kernel)
theorem k_D_80 : Cond.methodLink cls_D 80 y_D_handle ∈ W0 := wm_ 406 (by decide +kernel) (by decide +kernel)
theorem ki_D_handle : Cond.instanceMethod y_D_handle ∈ W0 := wm_ 407 (by decide +kernel) (by decide +kernel)
theorem ks_D_handle : Cond.selects cls_D y_D_handle y_D_handle ∈ W0 := wm_ 408 (by decide +kernel) (by decide +kernel)
theorem kc_D_handle : Cond.code y_D_handle b_D_handle 2 none ∈ W0 := wm_ 409 (by decide +kernel) (by decide +kernel)
theorem k_D_74 : Cond.methodLink cls_D 74 y_D_transmit ∈ W0 := wm_ 410 (by decide +kernel) (by decide +kernel)
theorem ki_D_transmit : Cond.instanceMethod y_D_transmit ∈ W0 := wm_ 411 (by decide +kernel) (by decide +kernel)
theorem ks_D_transmit : Cond.selects cls_D y_D_transmit y_D_transmit ∈ W0 := wm_ 412 (by decide +kernel) (by decide +kernel)
theorem kc_D_transmit : Cond.code y_D_transmit b_D_transmit 2 none ∈ W0 := wm_ 413 (by decide +kernel) (by decide +kernel)
theorem k_L_66 : Cond.methodLink cls_L 66 y_F_count ∈ W0 := wm_ 414 (by decide +kernel) (by decide +kernel)
theorem ki_F_count : Cond.instanceMethod y_F_count ∈ W0 := wm_ 415 (by decide +kernel) (by decide +kernel)
theorem ks_F_count : Cond.selects cls_F y_F_count y_F_count ∈ W0 := wm_ 416 (by decide +kernel) (by decide +kernel)
theorem kc_F_count : Cond.code y_F_count b_F_count 2 (some .int) ∈ W0 := wm_ 417 (by decide +kernel) (by decide +kernel)
theorem k_L_70 : Cond.methodLink cls_L 70 y_F_flow ∈ W0 := wm_ 418 (by decide +kernel) (by decide +kernel)
theorem ki_F_flow : Cond.instanceMethod y_F_flow ∈ W0 := wm_ 419 (by decide +kernel) (by decide +kernel)
theorem ks_F_flow : Cond.selects cls_F y_F_flow y_F_flow ∈ W0 := wm_ 420 (by decide +kernel) (by decide +kernel)
theorem kc_F_flow : Cond.code y_F_flow b_F_flow 1 (some .int) ∈ W0 := wm_ 421 (by decide +kernel) (by decide +kernel)
theorem k_F_102 : Cond.methodLink cls_F 102 y_D_flowBits ∈ W0 := wm_ 422 (by decide +kernel) (by decide +kernel)
theorem ki_D_flowBits : Cond.instanceMethod y_D_flowBits ∈ W0 := wm_ 423 (by decide +kernel) (by decide +kernel)
theorem ks_D_flowBits : Cond.selects cls_D y_D_flowBits y_D_flowBits ∈ W0 := wm_ 424 (by decide +kernel) (by decide +kernel)
theorem kc_D_flowBits : Cond.code y_D_flowBits b_D_flowBits 2 (some .int) ∈ W0 := wm_ 425 (by decide +kernel) (by decide +kernel)
theorem k_L_74 : Cond.methodLink cls_L 74 y_F_lost ∈ W0 := wm_ 426 (by decide +kernel) (by decide +kernel)
theorem ki_F_lost : Cond.instanceMethod y_F_lost ∈ W0 := wm_ 427 (by decide +kernel) (by decide +kernel)
theorem ks_F_lost : Cond.selects cls_F y_F_lost y_F_lost ∈ W0 := wm_ 428 (by decide +kernel) (by decide +kernel)
theorem kc_F_lost : Cond.code y_F_lost b_F_lost 1 (some .int) ∈ W0 := wm_ 429 (by decide +kernel) (by decide +kernel)
theorem k_L_78 : Cond.methodLink cls_L 78 y_F_left ∈ W0 := wm_ 430 (by decide +kernel) (by decide +kernel)
theorem ki_F_left : Cond.instanceMethod y_F_left ∈ W0 := wm_ 431 (by decide +kernel) (by decide +kernel)
theorem ks_F_left : Cond.selects cls_F y_F_left y_F_left ∈ W0 := wm_ 432 (by decide +kernel) (by decide +kernel)
theorem kc_F_left : Cond.code y_F_left b_F_left 1 (some .int) ∈ W0 := wm_ 433 (by decide +kernel) (by decide +kernel)
theorem k_L_10 : Cond.classLink cls_L 10 cls_T ∈ W0 := wm_ 434 (by decide +kernel) (by decide +kernel)
theorem kx_T : Cond.instantiable cls_T 25 ∈ W0 := wm_ 435 (by decide +kernel) (by decide +kernel)
theorem k_L_12 : Cond.methodLink cls_L 12 y_T_init ∈ W0 := wm_ 436 (by decide +kernel) (by decide +kernel)
theorem ki_T_init : Cond.instanceMethod y_T_init ∈ W0 := wm_ 437 (by decide +kernel) (by decide +kernel)
theorem kc_T_init : Cond.code y_T_init b_T_init 1 none ∈ W0 := wm_ 438 (by decide +kernel) (by decide +kernel)
theorem k_T_1 : Cond.methodLink cls_T 1 objectInit ∈ W0 := wm_ 439 (by decide +kernel) (by decide +kernel)
theorem k_T_7 : Cond.fieldLink cls_T 7 cls_T "rows" "[I" ∈ W0 := wm_ 440 (by decide +kernel) (by decide +kernel)
theorem k_T_13 : Cond.fieldLink cls_T 13 cls_T "sizes" "[I" ∈ W0 := wm_ 441 (by decide +kernel) (by decide +kernel)
theorem k_T_16 : Cond.fieldLink cls_T 16 cls_T "faults" "[I" ∈ W0 := wm_ 442 (by decide +kernel) (by decide +kernel)
theorem k_T_67 : Cond.fieldLink cls_T 67 cls_T "ticks" "I" ∈ W0 := wm_ 443 (by decide +kernel) (by decide +kernel)
theorem k_T_57 : Cond.fieldLink cls_T 57 cls_T "due" "I" ∈ W0 := wm_ 444 (by decide +kernel) (by decide +kernel)
theorem k_T_64 : Cond.fieldLink cls_T 64 cls_T "sending" "I" ∈ W0 := wm_ 445 (by decide +kernel) (by decide +kernel)
theorem k_T_76 : Cond.fieldLink cls_T 76 cls_T "heard" "I" ∈ W0 := wm_ 446 (by decide +kernel) (by decide +kernel)
theorem k_T_19 : Cond.fieldLink cls_T 19 cls_T "level" "I" ∈ W0 := wm_ 447 (by decide +kernel) (by decide +kernel)
theorem k_T_108 : Cond.fieldLink cls_T 108 cls_T "enabled" "I" ∈ W0 := wm_ 448 (by decide +kernel) (by decide +kernel)
theorem k_T_92 : Cond.fieldLink cls_T 92 cls_T "format" "I" ∈ W0 := wm_ 449 (by decide +kernel) (by decide +kernel)
theorem k_T_36 : Cond.fieldLink cls_T 36 cls_T "control" "I" ∈ W0 := wm_ 450 (by decide +kernel) (by decide +kernel)
theorem k_T_126 : Cond.fieldLink cls_T 126 cls_T "spare" "I" ∈ W0 := wm_ 451 (by decide +kernel) (by decide +kernel)
theorem k_T_23 : Cond.fieldLink cls_T 23 cls_T "low" "I" ∈ W0 := wm_ 452 (by decide +kernel) (by decide +kernel)
theorem k_T_33 : Cond.fieldLink cls_T 33 cls_T "high" "I" ∈ W0 := wm_ 453 (by decide +kernel) (by decide +kernel)
theorem k_T_86 : Cond.fieldLink cls_T 86 cls_T "overrun" "Z" ∈ W0 := wm_ 454 (by decide +kernel) (by decide +kernel)
theorem k_T_73 : Cond.fieldLink cls_T 73 cls_T "vacated" "Z" ∈ W0 := wm_ 455 (by decide +kernel) (by decide +kernel)
theorem k_T_29 : Cond.fieldLink cls_T 29 cls_T "queued" "Z" ∈ W0 := wm_ 456 (by decide +kernel) (by decide +kernel)
theorem k_T_47 : Cond.fieldLink cls_T 47 cls_T "given" "I" ∈ W0 := wm_ 457 (by decide +kernel) (by decide +kernel)
theorem k_T_54 : Cond.fieldLink cls_T 54 cls_T "changes" "I" ∈ W0 := wm_ 458 (by decide +kernel) (by decide +kernel)
theorem k_T_95 : Cond.fieldLink cls_T 95 cls_T "total" "I" ∈ W0 := wm_ 459 (by decide +kernel) (by decide +kernel)
theorem k_T_26 : Cond.fieldLink cls_T 26 cls_T "last" "[I" ∈ W0 := wm_ 460 (by decide +kernel) (by decide +kernel)
theorem k_T_144 : Cond.fieldLink cls_T 144 cls_T "held" "Z" ∈ W0 := wm_ 461 (by decide +kernel) (by decide +kernel)
theorem k_T_147 : Cond.fieldLink cls_T 147 cls_T "asked" "Z" ∈ W0 := wm_ 462 (by decide +kernel) (by decide +kernel)
theorem k_T_150 : Cond.fieldLink cls_T 150 cls_T "urgent" "I" ∈ W0 := wm_ 463 (by decide +kernel) (by decide +kernel)
theorem k_T_156 : Cond.fieldLink cls_T 156 cls_T "lost" "I" ∈ W0 := wm_ 464 (by decide +kernel) (by decide +kernel)
theorem k_L_26 : Cond.methodLink cls_L 26 y_T_wire ∈ W0 := wm_ 516 (by decide +kernel) (by decide +kernel)
theorem ki_T_wire : Cond.instanceMethod y_T_wire ∈ W0 := wm_ 517 (by decide +kernel) (by decide +kernel)
theorem ks_T_wire : Cond.selects cls_T y_T_wire y_T_wire ∈ W0 := wm_ 518 (by decide +kernel) (by decide +kernel)
theorem kc_T_wire : Cond.code y_T_wire b_T_wire 3 (some .boolean) ∈ W0 := wm_ 519 (by decide +kernel) (by decide +kernel)
theorem k_T_43 : Cond.methodLink cls_T 43 y_T_loops ∈ W0 := wm_ 520 (by decide +kernel) (by decide +kernel)
theorem ki_T_loops : Cond.instanceMethod y_T_loops ∈ W0 := wm_ 522 (by decide +kernel) (by decide +kernel)
theorem kc_T_loops : Cond.code y_T_loops b_T_loops 1 (some .boolean) ∈ W0 := wm_ 523 (by decide +kernel) (by decide +kernel)
theorem k_T_39 : Cond.methodLink cls_T 39 y_T_isOn ∈ W0 := wm_ 524 (by decide +kernel) (by decide +kernel)
theorem ki_T_isOn : Cond.instanceMethod y_T_isOn ∈ W0 := wm_ 526 (by decide +kernel) (by decide +kernel)
theorem kc_T_isOn : Cond.code y_T_isOn b_T_isOn 3 (some .boolean) ∈ W0 := wm_ 527 (by decide +kernel) (by decide +kernel)
theorem k_T_89 : Cond.methodLink cls_T 89 y_T_arrive ∈ W0 := wm_ 528 (by decide +kernel) (by decide +kernel)
theorem ki_T_arrive : Cond.instanceMethod y_T_arrive ∈ W0 := wm_ 530 (by decide +kernel) (by decide +kernel)
theorem kc_T_arrive : Cond.code y_T_arrive b_T_arrive 3 none ∈ W0 := wm_ 531 (by decide +kernel) (by decide +kernel)
theorem k_T_79 : Cond.methodLink cls_T 79 y_T_places ∈ W0 := wm_ 532 (by decide +kernel) (by decide +kernel)
theorem ki_T_places : Cond.instanceMethod y_T_places ∈ W0 := wm_ 534 (by decide +kernel) (by decide +kernel)
theorem kc_T_places : Cond.code y_T_places b_T_places 1 (some .int) ∈ W0 := wm_ 535 (by decide +kernel) (by decide +kernel)
theorem k_T_82 : Cond.methodLink cls_T 82 y_T_append ∈ W0 := wm_ 536 (by decide +kernel) (by decide +kernel)
theorem ki_T_append : Cond.instanceMethod y_T_append ∈ W0 := wm_ 538 (by decide +kernel) (by decide +kernel)
theorem kc_T_append : Cond.code y_T_append b_T_append 3 none ∈ W0 := wm_ 539 (by decide +kernel) (by decide +kernel)
theorem k_L_30 : Cond.methodLink cls_L 30 y_T_tick ∈ W0 := wm_ 540 (by decide +kernel) (by decide +kernel)
theorem ki_T_tick : Cond.instanceMethod y_T_tick ∈ W0 := wm_ 541 (by decide +kernel) (by decide +kernel)
theorem ks_T_tick : Cond.selects cls_T y_T_tick y_T_tick ∈ W0 := wm_ 542 (by decide +kernel) (by decide +kernel)
theorem kc_T_tick : Cond.code y_T_tick b_T_tick 4 (some .int) ∈ W0 := wm_ 543 (by decide +kernel) (by decide +kernel)
theorem k_T_98 : Cond.methodLink cls_T 98 y_T_leave ∈ W0 := wm_ 544 (by decide +kernel) (by decide +kernel)
theorem ki_T_leave : Cond.instanceMethod y_T_leave ∈ W0 := wm_ 546 (by decide +kernel) (by decide +kernel)
theorem kc_T_leave : Cond.code y_T_leave b_T_leave 2 (some .int) ∈ W0 := wm_ 547 (by decide +kernel) (by decide +kernel)
theorem k_T_101 : Cond.methodLink cls_T 101 y_T_moveOne ∈ W0 := wm_ 548 (by decide +kernel) (by decide +kernel)
theorem ki_T_moveOne : Cond.instanceMethod y_T_moveOne ∈ W0 := wm_ 550 (by decide +kernel) (by decide +kernel)
theorem kc_T_moveOne : Cond.code y_T_moveOne b_T_moveOne 2 none ∈ W0 := wm_ 551 (by decide +kernel) (by decide +kernel)
theorem k_T_60 : Cond.methodLink cls_T 60 y_T_removeFirst ∈ W0 := wm_ 552 (by decide +kernel) (by decide +kernel)
theorem ki_T_removeFirst : Cond.instanceMethod y_T_removeFirst ∈ W0 := wm_ 554 (by decide +kernel) (by decide +kernel)
theorem kc_T_removeFirst : Cond.code y_T_removeFirst b_T_removeFirst 4 (some .int) ∈ W0 := wm_ 555 (by decide +kernel) (by decide +kernel)
theorem k_T_70 : Cond.methodLink cls_T 70 y_T_span ∈ W0 := wm_ 556 (by decide +kernel) (by decide +kernel)
theorem ki_T_span : Cond.instanceMethod y_T_span ∈ W0 := wm_ 558 (by decide +kernel) (by decide +kernel)
theorem kc_T_span : Cond.code y_T_span b_T_span 2 (some .int) ∈ W0 := wm_ 559 (by decide +kernel) (by decide +kernel)
theorem k_L_35 : Cond.methodLink cls_L 35 y_T_lines ∈ W0 := wm_ 560 (by decide +kernel) (by decide +kernel)
theorem ki_T_lines : Cond.instanceMethod y_T_lines ∈ W0 := wm_ 561 (by decide +kernel) (by decide +kernel)
theorem ks_T_lines : Cond.selects cls_T y_T_lines y_T_lines ∈ W0 := wm_ 562 (by decide +kernel) (by decide +kernel)
theorem kc_T_lines : Cond.code y_T_lines b_T_lines 3 none ∈ W0 := wm_ 563 (by decide +kernel) (by decide +kernel)
theorem k_T_50 : Cond.methodLink cls_T 50 y_T_inputs ∈ W0 := wm_ 564 (by decide +kernel) (by decide +kernel)
theorem ki_T_inputs : Cond.instanceMethod y_T_inputs ∈ W0 := wm_ 566 (by decide +kernel) (by decide +kernel)
theorem kc_T_inputs : Cond.code y_T_inputs b_T_inputs 1 (some .int) ∈ W0 := wm_ 567 (by decide +kernel) (by decide +kernel)
theorem k_T_105 : Cond.methodLink cls_T 105 y_T_noteInputs ∈ W0 := wm_ 568 (by decide +kernel) (by decide +kernel)
theorem ki_T_noteInputs : Cond.instanceMethod y_T_noteInputs ∈ W0 := wm_ 570 (by decide +kernel) (by decide +kernel)
theorem kc_T_noteInputs : Cond.code y_T_noteInputs b_T_noteInputs 5 none ∈ W0 := wm_ 571 (by decide +kernel) (by decide +kernel)
theorem k_L_39 : Cond.methodLink cls_L 39 y_T_sent ∈ W0 := wm_ 572 (by decide +kernel) (by decide +kernel)
theorem ki_T_sent : Cond.instanceMethod y_T_sent ∈ W0 := wm_ 573 (by decide +kernel) (by decide +kernel)
theorem ks_T_sent : Cond.selects cls_T y_T_sent y_T_sent ∈ W0 := wm_ 574 (by decide +kernel) (by decide +kernel)
theorem kc_T_sent : Cond.code y_T_sent b_T_sent 2 (some .int) ∈ W0 := wm_ 575 (by decide +kernel) (by decide +kernel)
theorem k_L_44 : Cond.methodLink cls_L 44 y_T_total ∈ W0 := wm_ 576 (by decide +kernel) (by decide +kernel)
theorem ki_T_total : Cond.instanceMethod y_T_total ∈ W0 := wm_ 577 (by decide +kernel) (by decide +kernel)
theorem ks_T_total : Cond.selects cls_T y_T_total y_T_total ∈ W0 := wm_ 578 (by decide +kernel) (by decide +kernel)
theorem kc_T_total : Cond.code y_T_total b_T_total 1 (some .int) ∈ W0 := wm_ 579 (by decide +kernel) (by decide +kernel)
theorem k_L_48 : Cond.methodLink cls_L 48 y_T_cause ∈ W0 := wm_ 580 (by decide +kernel) (by decide +kernel)
theorem ki_T_cause : Cond.instanceMethod y_T_cause ∈ W0 := wm_ 581 (by decide +kernel) (by decide +kernel)
theorem ks_T_cause : Cond.selects cls_T y_T_cause y_T_cause ∈ W0 := wm_ 582 (by decide +kernel) (by decide +kernel)
theorem kc_T_cause : Cond.code y_T_cause b_T_cause 3 (some .int) ∈ W0 := wm_ 583 (by decide +kernel) (by decide +kernel)
theorem k_L_17 : Cond.methodLink cls_L 17 y_T_read ∈ W0 := wm_ 584 (by decide +kernel) (by decide +kernel)
theorem ki_T_read : Cond.instanceMethod y_T_read ∈ W0 := wm_ 585 (by decide +kernel) (by decide +kernel)
theorem ks_T_read : Cond.selects cls_T y_T_read y_T_read ∈ W0 := wm_ 586 (by decide +kernel) (by decide +kernel)
theorem kc_T_read : Cond.code y_T_read b_T_read 3 (some .int) ∈ W0 := wm_ 587 (by decide +kernel) (by decide +kernel)
theorem k_T_114 : Cond.methodLink cls_T 114 y_T_takeIn ∈ W0 := wm_ 588 (by decide +kernel) (by decide +kernel)
theorem ki_T_takeIn : Cond.instanceMethod y_T_takeIn ∈ W0 := wm_ 590 (by decide +kernel) (by decide +kernel)
theorem kc_T_takeIn : Cond.code y_T_takeIn b_T_takeIn 3 (some .int) ∈ W0 := wm_ 591 (by decide +kernel) (by decide +kernel)
theorem k_T_117 : Cond.methodLink cls_T 117 y_T_readCause ∈ W0 := wm_ 592 (by decide +kernel) (by decide +kernel)
theorem ki_T_readCause : Cond.instanceMethod y_T_readCause ∈ W0 := wm_ 594 (by decide +kernel) (by decide +kernel)
theorem kc_T_readCause : Cond.code y_T_readCause b_T_readCause 2 (some .int) ∈ W0 := wm_ 595 (by decide +kernel) (by decide +kernel)
theorem k_T_111 : Cond.methodLink cls_T 111 y_T_cause ∈ W0 := wm_ 596 (by decide +kernel) (by decide +kernel)
theorem k_T_120 : Cond.methodLink cls_T 120 y_T_readStatus ∈ W0 := wm_ 597 (by decide +kernel) (by decide +kernel)
theorem ki_T_readStatus : Cond.instanceMethod y_T_readStatus ∈ W0 := wm_ 599 (by decide +kernel) (by decide +kernel)
theorem kc_T_readStatus : Cond.code y_T_readStatus b_T_readStatus 4 (some .int) ∈ W0 := wm_ 600 (by decide +kernel) (by decide +kernel)
theorem k_T_123 : Cond.methodLink cls_T 123 y_T_readChanges ∈ W0 := wm_ 601 (by decide +kernel) (by decide +kernel)
theorem ki_T_readChanges : Cond.instanceMethod y_T_readChanges ∈ W0 := wm_ 603 (by decide +kernel) (by decide +kernel)
theorem kc_T_readChanges : Cond.code y_T_readChanges b_T_readChanges 2 (some .int) ∈ W0 := wm_ 604 (by decide +kernel) (by decide +kernel)
theorem k_L_22 : Cond.methodLink cls_L 22 y_T_write ∈ W0 := wm_ 605 (by decide +kernel) (by decide +kernel)
theorem ki_T_write : Cond.instanceMethod y_T_write ∈ W0 := wm_ 606 (by decide +kernel) (by decide +kernel)
theorem ks_T_write : Cond.selects cls_T y_T_write y_T_write ∈ W0 := wm_ 607 (by decide +kernel) (by decide +kernel)
theorem kc_T_write : Cond.code y_T_write b_T_write 6 (some .boolean) ∈ W0 := wm_ 608 (by decide +kernel) (by decide +kernel)
theorem k_T_129 : Cond.methodLink cls_T 129 y_T_writeData ∈ W0 := wm_ 609 (by decide +kernel) (by decide +kernel)
theorem ki_T_writeData : Cond.instanceMethod y_T_writeData ∈ W0 := wm_ 611 (by decide +kernel) (by decide +kernel)
theorem kc_T_writeData : Cond.code y_T_writeData b_T_writeData 2 none ∈ W0 := wm_ 612 (by decide +kernel) (by decide +kernel)
theorem k_T_132 : Cond.methodLink cls_T 132 y_T_writeEnabled ∈ W0 := wm_ 613 (by decide +kernel) (by decide +kernel)
theorem ki_T_writeEnabled : Cond.instanceMethod y_T_writeEnabled ∈ W0 := wm_ 615 (by decide +kernel) (by decide +kernel)
theorem kc_T_writeEnabled : Cond.code y_T_writeEnabled b_T_writeEnabled 3 none ∈ W0 := wm_ 616 (by decide +kernel) (by decide +kernel)
theorem k_T_135 : Cond.methodLink cls_T 135 y_T_writeQueues ∈ W0 := wm_ 617 (by decide +kernel) (by decide +kernel)
theorem ki_T_writeQueues : Cond.instanceMethod y_T_writeQueues ∈ W0 := wm_ 619 (by decide +kernel) (by decide +kernel)
theorem kc_T_writeQueues : Cond.code y_T_writeQueues b_T_writeQueues 6 none ∈ W0 := wm_ 620 (by decide +kernel) (by decide +kernel)
theorem k_L_52 : Cond.methodLink cls_L 52 y_T_start ∈ W0 := wm_ 621 (by decide +kernel) (by decide +kernel)
theorem ki_T_start : Cond.instanceMethod y_T_start ∈ W0 := wm_ 622 (by decide +kernel) (by decide +kernel)
theorem ks_T_start : Cond.selects cls_T y_T_start y_T_start ∈ W0 := wm_ 623 (by decide +kernel) (by decide +kernel)
theorem kc_T_start : Cond.code y_T_start b_T_start 1 none ∈ W0 := wm_ 624 (by decide +kernel) (by decide +kernel)
theorem k_T_141 : Cond.methodLink cls_T 141 y_T_write ∈ W0 := wm_ 625 (by decide +kernel) (by decide +kernel)
theorem k_L_57 : Cond.methodLink cls_L 57 y_T_accept ∈ W0 := wm_ 626 (by decide +kernel) (by decide +kernel)
theorem ki_T_accept : Cond.instanceMethod y_T_accept ∈ W0 := wm_ 627 (by decide +kernel) (by decide +kernel)
theorem ks_T_accept : Cond.selects cls_T y_T_accept y_T_accept ∈ W0 := wm_ 628 (by decide +kernel) (by decide +kernel)
theorem kc_T_accept : Cond.code y_T_accept b_T_accept 2 (some .boolean) ∈ W0 := wm_ 629 (by decide +kernel) (by decide +kernel)
theorem k_T_153 : Cond.methodLink cls_T 153 y_T_wake ∈ W0 := wm_ 630 (by decide +kernel) (by decide +kernel)
theorem ki_T_wake : Cond.instanceMethod y_T_wake ∈ W0 := wm_ 632 (by decide +kernel) (by decide +kernel)
theorem kc_T_wake : Cond.code y_T_wake b_T_wake 2 none ∈ W0 := wm_ 633 (by decide +kernel) (by decide +kernel)
theorem k_T_138 : Cond.methodLink cls_T 138 y_T_read ∈ W0 := wm_ 634 (by decide +kernel) (by decide +kernel)
theorem k_L_61 : Cond.methodLink cls_L 61 y_T_take ∈ W0 := wm_ 635 (by decide +kernel) (by decide +kernel)
theorem ki_T_take : Cond.instanceMethod y_T_take ∈ W0 := wm_ 636 (by decide +kernel) (by decide +kernel)
theorem ks_T_take : Cond.selects cls_T y_T_take y_T_take ∈ W0 := wm_ 637 (by decide +kernel) (by decide +kernel)
theorem kc_T_take : Cond.code y_T_take b_T_take 2 (some .int) ∈ W0 := wm_ 638 (by decide +kernel) (by decide +kernel)
theorem k_L_65 : Cond.methodLink cls_L 65 y_T_service ∈ W0 := wm_ 639 (by decide +kernel) (by decide +kernel)
theorem ki_T_service : Cond.instanceMethod y_T_service ∈ W0 := wm_ 640 (by decide +kernel) (by decide +kernel)
theorem ks_T_service : Cond.selects cls_T y_T_service y_T_service ∈ W0 := wm_ 641 (by decide +kernel) (by decide +kernel)
theorem kc_T_service : Cond.code y_T_service b_T_service 3 (some .int) ∈ W0 := wm_ 642 (by decide +kernel) (by decide +kernel)
theorem k_T_168 : Cond.methodLink cls_T 168 y_T_round ∈ W0 := wm_ 643 (by decide +kernel) (by decide +kernel)
theorem ki_T_round : Cond.instanceMethod y_T_round ∈ W0 := wm_ 645 (by decide +kernel) (by decide +kernel)
theorem kc_T_round : Cond.code y_T_round b_T_round 3 (some .boolean) ∈ W0 := wm_ 646 (by decide +kernel) (by decide +kernel)
theorem k_T_162 : Cond.methodLink cls_T 162 y_T_receive ∈ W0 := wm_ 647 (by decide +kernel) (by decide +kernel)
theorem ki_T_receive : Cond.instanceMethod y_T_receive ∈ W0 := wm_ 649 (by decide +kernel) (by decide +kernel)
theorem kc_T_receive : Cond.code y_T_receive b_T_receive 5 none ∈ W0 := wm_ 650 (by decide +kernel) (by decide +kernel)
theorem k_T_159 : Cond.methodLink cls_T 159 y_T_handle ∈ W0 := wm_ 651 (by decide +kernel) (by decide +kernel)
theorem ki_T_handle : Cond.instanceMethod y_T_handle ∈ W0 := wm_ 653 (by decide +kernel) (by decide +kernel)
theorem kc_T_handle : Cond.code y_T_handle b_T_handle 2 none ∈ W0 := wm_ 654 (by decide +kernel) (by decide +kernel)
theorem k_T_165 : Cond.methodLink cls_T 165 y_T_transmit ∈ W0 := wm_ 655 (by decide +kernel) (by decide +kernel)
theorem ki_T_transmit : Cond.instanceMethod y_T_transmit ∈ W0 := wm_ 657 (by decide +kernel) (by decide +kernel)
theorem kc_T_transmit : Cond.code y_T_transmit b_T_transmit 3 none ∈ W0 := wm_ 658 (by decide +kernel) (by decide +kernel)
theorem k_L_69 : Cond.methodLink cls_L 69 y_T_count ∈ W0 := wm_ 659 (by decide +kernel) (by decide +kernel)
theorem ki_T_count : Cond.instanceMethod y_T_count ∈ W0 := wm_ 660 (by decide +kernel) (by decide +kernel)
theorem ks_T_count : Cond.selects cls_T y_T_count y_T_count ∈ W0 := wm_ 661 (by decide +kernel) (by decide +kernel)
theorem kc_T_count : Cond.code y_T_count b_T_count 2 (some .int) ∈ W0 := wm_ 662 (by decide +kernel) (by decide +kernel)
theorem k_L_73 : Cond.methodLink cls_L 73 y_T_flow ∈ W0 := wm_ 663 (by decide +kernel) (by decide +kernel)
theorem ki_T_flow : Cond.instanceMethod y_T_flow ∈ W0 := wm_ 664 (by decide +kernel) (by decide +kernel)
theorem ks_T_flow : Cond.selects cls_T y_T_flow y_T_flow ∈ W0 := wm_ 665 (by decide +kernel) (by decide +kernel)
theorem kc_T_flow : Cond.code y_T_flow b_T_flow 1 (some .int) ∈ W0 := wm_ 666 (by decide +kernel) (by decide +kernel)
theorem k_L_77 : Cond.methodLink cls_L 77 y_T_lost ∈ W0 := wm_ 667 (by decide +kernel) (by decide +kernel)
theorem ki_T_lost : Cond.instanceMethod y_T_lost ∈ W0 := wm_ 668 (by decide +kernel) (by decide +kernel)
theorem ks_T_lost : Cond.selects cls_T y_T_lost y_T_lost ∈ W0 := wm_ 669 (by decide +kernel) (by decide +kernel)
theorem kc_T_lost : Cond.code y_T_lost b_T_lost 1 (some .int) ∈ W0 := wm_ 670 (by decide +kernel) (by decide +kernel)
theorem k_L_81 : Cond.methodLink cls_L 81 y_T_left ∈ W0 := wm_ 671 (by decide +kernel) (by decide +kernel)
theorem ki_T_left : Cond.instanceMethod y_T_left ∈ W0 := wm_ 672 (by decide +kernel) (by decide +kernel)
theorem ks_T_left : Cond.selects cls_T y_T_left y_T_left ∈ W0 := wm_ 673 (by decide +kernel) (by decide +kernel)
theorem kc_T_left : Cond.code y_T_left b_T_left 1 (some .int) ∈ W0 := wm_ 674 (by decide +kernel) (by decide +kernel)
theorem ks_T_loops : Cond.selects cls_T y_T_loops y_T_loops ∈ W0 := wm_ 0 (by decide +kernel) (by decide +kernel)
theorem ks_T_isOn : Cond.selects cls_T y_T_isOn y_T_isOn ∈ W0 := wm_ 1 (by decide +kernel) (by decide +kernel)
theorem ks_T_arrive : Cond.selects cls_T y_T_arrive y_T_arrive ∈ W0 := wm_ 2 (by decide +kernel) (by decide +kernel)
theorem ks_T_places : Cond.selects cls_T y_T_places y_T_places ∈ W0 := wm_ 3 (by decide +kernel) (by decide +kernel)
theorem ks_T_append : Cond.selects cls_T y_T_append y_T_append ∈ W0 := wm_ 4 (by decide +kernel) (by decide +kernel)
theorem ks_T_leave : Cond.selects cls_T y_T_leave y_T_leave ∈ W0 := wm_ 5 (by decide +kernel) (by decide +kernel)
theorem ks_T_moveOne : Cond.selects cls_T y_T_moveOne y_T_moveOne ∈ W0 := wm_ 6 (by decide +kernel) (by decide +kernel)
theorem ks_T_removeFirst : Cond.selects cls_T y_T_removeFirst y_T_removeFirst ∈ W0 := wm_ 7 (by decide +kernel) (by decide +kernel)
theorem ks_T_span : Cond.selects cls_T y_T_span y_T_span ∈ W0 := wm_ 8 (by decide +kernel) (by decide +kernel)
theorem ks_T_inputs : Cond.selects cls_T y_T_inputs y_T_inputs ∈ W0 := wm_ 9 (by decide +kernel) (by decide +kernel)
theorem ks_T_noteInputs : Cond.selects cls_T y_T_noteInputs y_T_noteInputs ∈ W0 := wm_ 10 (by decide +kernel) (by decide +kernel)
theorem ks_T_takeIn : Cond.selects cls_T y_T_takeIn y_T_takeIn ∈ W0 := wm_ 11 (by decide +kernel) (by decide +kernel)
theorem ks_T_readCause : Cond.selects cls_T y_T_readCause y_T_readCause ∈ W0 := wm_ 12 (by decide +kernel) (by decide +kernel)
theorem ks_T_readStatus : Cond.selects cls_T y_T_readStatus y_T_readStatus ∈ W0 := wm_ 13 (by decide +kernel) (by decide +kernel)
theorem ks_T_readChanges : Cond.selects cls_T y_T_readChanges y_T_readChanges ∈ W0 := wm_ 14 (by decide +kernel) (by decide +kernel)
theorem ks_T_writeData : Cond.selects cls_T y_T_writeData y_T_writeData ∈ W0 := wm_ 15 (by decide +kernel) (by decide +kernel)
theorem ks_T_writeEnabled : Cond.selects cls_T y_T_writeEnabled y_T_writeEnabled ∈ W0 := wm_ 16 (by decide +kernel) (by decide +kernel)
theorem ks_T_writeQueues : Cond.selects cls_T y_T_writeQueues y_T_writeQueues ∈ W0 := wm_ 17 (by decide +kernel) (by decide +kernel)
theorem ks_T_wake : Cond.selects cls_T y_T_wake y_T_wake ∈ W0 := wm_ 18 (by decide +kernel) (by decide +kernel)
theorem ks_T_round : Cond.selects cls_T y_T_round y_T_round ∈ W0 := wm_ 19 (by decide +kernel) (by decide +kernel)
theorem ks_T_receive : Cond.selects cls_T y_T_receive y_T_receive ∈ W0 := wm_ 20 (by decide +kernel) (by decide +kernel)
theorem ks_T_handle : Cond.selects cls_T y_T_handle y_T_handle ∈ W0 := wm_ 21 (by decide +kernel) (by decide +kernel)
theorem ks_T_transmit : Cond.selects cls_T y_T_transmit y_T_transmit ∈ W0 := wm_ 22 (by decide +kernel) (by decide +kernel)
theorem hd_F_init : y_F_init.cls ≠ "java/lang/invoke/MethodHandle" ∧ y_F_init.cls ≠ "java/lang/invoke/VarHandle" ∧ (parseMethodDescriptor y_F_init.desc).map (fun d => d.parameters.length) = some 0 := by decide +kernel
theorem hd_P_init : y_P_init.cls ≠ "java/lang/invoke/MethodHandle" ∧ y_P_init.cls ≠ "java/lang/invoke/VarHandle" ∧ (parseMethodDescriptor y_P_init.desc).map (fun d => d.parameters.length) = some 0 := by decide +kernel
theorem hd_R_init : y_R_init.cls ≠ "java/lang/invoke/MethodHandle" ∧ y_R_init.cls ≠ "java/lang/invoke/VarHandle" ∧ (parseMethodDescriptor y_R_init.desc).map (fun d => d.parameters.length) = some 1 := by decide +kernel
theorem hd_M_init : y_M_init.cls ≠ "java/lang/invoke/MethodHandle" ∧ y_M_init.cls ≠ "java/lang/invoke/VarHandle" ∧ (parseMethodDescriptor y_M_init.desc).map (fun d => d.parameters.length) = some 0 := by decide +kernel
theorem hd_S_init : y_S_init.cls ≠ "java/lang/invoke/MethodHandle" ∧ y_S_init.cls ≠ "java/lang/invoke/VarHandle" ∧ (parseMethodDescriptor y_S_init.desc).map (fun d => d.parameters.length) = some 0 := by decide +kernel
theorem hd_D_init : y_D_init.cls ≠ "java/lang/invoke/MethodHandle" ∧ y_D_init.cls ≠ "java/lang/invoke/VarHandle" ∧ (parseMethodDescriptor y_D_init.desc).map (fun d => d.parameters.length) = some 1 := by decide +kernel
theorem hd_F_read : y_F_read.cls ≠ "java/lang/invoke/MethodHandle" ∧ y_F_read.cls ≠ "java/lang/invoke/VarHandle" ∧ (parseMethodDescriptor y_F_read.desc).map (fun d => d.parameters.length) = some 1 := by decide +kernel
theorem hd_P_hasRegister : y_P_hasRegister.cls ≠ "java/lang/invoke/MethodHandle" ∧ y_P_hasRegister.cls ≠ "java/lang/invoke/VarHandle" ∧ (parseMethodDescriptor y_P_hasRegister.desc).map (fun d => d.parameters.length) = some 1 := by decide +kernel
theorem hd_P_load : y_P_load.cls ≠ "java/lang/invoke/MethodHandle" ∧ y_P_load.cls ≠ "java/lang/invoke/VarHandle" ∧ (parseMethodDescriptor y_P_load.desc).map (fun d => d.parameters.length) = some 1 := by decide +kernel
theorem hd_P_usesOtherBank : y_P_usesOtherBank.cls ≠ "java/lang/invoke/MethodHandle" ∧ y_P_usesOtherBank.cls ≠ "java/lang/invoke/VarHandle" ∧ (parseMethodDescriptor y_P_usesOtherBank.desc).map (fun d => d.parameters.length) = some 0 := by decide +kernel
theorem hd_P_takeIn : y_P_takeIn.cls ≠ "java/lang/invoke/MethodHandle" ∧ y_P_takeIn.cls ≠ "java/lang/invoke/VarHandle" ∧ (parseMethodDescriptor y_P_takeIn.desc).map (fun d => d.parameters.length) = some 0 := by decide +kernel
theorem hd_R_removeOldest : y_R_removeOldest.cls ≠ "java/lang/invoke/MethodHandle" ∧ y_R_removeOldest.cls ≠ "java/lang/invoke/VarHandle" ∧ (parseMethodDescriptor y_R_removeOldest.desc).map (fun d => d.parameters.length) = some 0 := by decide +kernel
theorem hd_P_identify : y_P_identify.cls ≠ "java/lang/invoke/MethodHandle" ∧ y_P_identify.cls ≠ "java/lang/invoke/VarHandle" ∧ (parseMethodDescriptor y_P_identify.desc).map (fun d => d.parameters.length) = some 0 := by decide +kernel
theorem hd_P_findCause : y_P_findCause.cls ≠ "java/lang/invoke/MethodHandle" ∧ y_P_findCause.cls ≠ "java/lang/invoke/VarHandle" ∧ (parseMethodDescriptor y_P_findCause.desc).map (fun d => d.parameters.length) = some 0 := by decide +kernel
theorem hd_R_oldest : y_R_oldest.cls ≠ "java/lang/invoke/MethodHandle" ∧ y_R_oldest.cls ≠ "java/lang/invoke/VarHandle" ∧ (parseMethodDescriptor y_R_oldest.desc).map (fun d => d.parameters.length) = some 0 := by decide +kernel
theorem hd_P_span : y_P_span.cls ≠ "java/lang/invoke/MethodHandle" ∧ y_P_span.cls ≠ "java/lang/invoke/VarHandle" ∧ (parseMethodDescriptor y_P_span.desc).map (fun d => d.parameters.length) = some 0 := by decide +kernel
theorem hd_P_readStatus : y_P_readStatus.cls ≠ "java/lang/invoke/MethodHandle" ∧ y_P_readStatus.cls ≠ "java/lang/invoke/VarHandle" ∧ (parseMethodDescriptor y_P_readStatus.desc).map (fun d => d.parameters.length) = some 0 := by decide +kernel
theorem hd_R_hasItemAbove : y_R_hasItemAbove.cls ≠ "java/lang/invoke/MethodHandle" ∧ y_R_hasItemAbove.cls ≠ "java/lang/invoke/VarHandle" ∧ (parseMethodDescriptor y_R_hasItemAbove.desc).map (fun d => d.parameters.length) = some 1 := by decide +kernel
theorem hd_R_replaceOldest : y_R_replaceOldest.cls ≠ "java/lang/invoke/MethodHandle" ∧ y_R_replaceOldest.cls ≠ "java/lang/invoke/VarHandle" ∧ (parseMethodDescriptor y_R_replaceOldest.desc).map (fun d => d.parameters.length) = some 1 := by decide +kernel
theorem hd_M_readChanges : y_M_readChanges.cls ≠ "java/lang/invoke/MethodHandle" ∧ y_M_readChanges.cls ≠ "java/lang/invoke/VarHandle" ∧ (parseMethodDescriptor y_M_readChanges.desc).map (fun d => d.parameters.length) = some 0 := by decide +kernel
theorem hd_M_inputs : y_M_inputs.cls ≠ "java/lang/invoke/MethodHandle" ∧ y_M_inputs.cls ≠ "java/lang/invoke/VarHandle" ∧ (parseMethodDescriptor y_M_inputs.desc).map (fun d => d.parameters.length) = some 0 := by decide +kernel
theorem hd_M_isLooped : y_M_isLooped.cls ≠ "java/lang/invoke/MethodHandle" ∧ y_M_isLooped.cls ≠ "java/lang/invoke/VarHandle" ∧ (parseMethodDescriptor y_M_isLooped.desc).map (fun d => d.parameters.length) = some 0 := by decide +kernel
theorem hd_F_write : y_F_write.cls ≠ "java/lang/invoke/MethodHandle" ∧ y_F_write.cls ≠ "java/lang/invoke/VarHandle" ∧ (parseMethodDescriptor y_F_write.desc).map (fun d => d.parameters.length) = some 2 := by decide +kernel
theorem hd_P_store : y_P_store.cls ≠ "java/lang/invoke/MethodHandle" ∧ y_P_store.cls ≠ "java/lang/invoke/VarHandle" ∧ (parseMethodDescriptor y_P_store.desc).map (fun d => d.parameters.length) = some 2 := by decide +kernel
theorem hd_P_storeData : y_P_storeData.cls ≠ "java/lang/invoke/MethodHandle" ∧ y_P_storeData.cls ≠ "java/lang/invoke/VarHandle" ∧ (parseMethodDescriptor y_P_storeData.desc).map (fun d => d.parameters.length) = some 1 := by decide +kernel
theorem hd_R_append : y_R_append.cls ≠ "java/lang/invoke/MethodHandle" ∧ y_R_append.cls ≠ "java/lang/invoke/VarHandle" ∧ (parseMethodDescriptor y_R_append.desc).map (fun d => d.parameters.length) = some 1 := by decide +kernel
theorem hd_P_moveIfPossible : y_P_moveIfPossible.cls ≠ "java/lang/invoke/MethodHandle" ∧ y_P_moveIfPossible.cls ≠ "java/lang/invoke/VarHandle" ∧ (parseMethodDescriptor y_P_moveIfPossible.desc).map (fun d => d.parameters.length) = some 0 := by decide +kernel
theorem hd_P_storeEnabled : y_P_storeEnabled.cls ≠ "java/lang/invoke/MethodHandle" ∧ y_P_storeEnabled.cls ≠ "java/lang/invoke/VarHandle" ∧ (parseMethodDescriptor y_P_storeEnabled.desc).map (fun d => d.parameters.length) = some 1 := by decide +kernel
theorem hd_P_storeQueueing : y_P_storeQueueing.cls ≠ "java/lang/invoke/MethodHandle" ∧ y_P_storeQueueing.cls ≠ "java/lang/invoke/VarHandle" ∧ (parseMethodDescriptor y_P_storeQueueing.desc).map (fun d => d.parameters.length) = some 1 := by decide +kernel
theorem hd_R_clear : y_R_clear.cls ≠ "java/lang/invoke/MethodHandle" ∧ y_R_clear.cls ≠ "java/lang/invoke/VarHandle" ∧ (parseMethodDescriptor y_R_clear.desc).map (fun d => d.parameters.length) = some 0 := by decide +kernel
theorem hd_M_setControl : y_M_setControl.cls ≠ "java/lang/invoke/MethodHandle" ∧ y_M_setControl.cls ≠ "java/lang/invoke/VarHandle" ∧ (parseMethodDescriptor y_M_setControl.desc).map (fun d => d.parameters.length) = some 1 := by decide +kernel
theorem hd_M_noteChanges : y_M_noteChanges.cls ≠ "java/lang/invoke/MethodHandle" ∧ y_M_noteChanges.cls ≠ "java/lang/invoke/VarHandle" ∧ (parseMethodDescriptor y_M_noteChanges.desc).map (fun d => d.parameters.length) = some 1 := by decide +kernel
theorem hd_F_wire : y_F_wire.cls ≠ "java/lang/invoke/MethodHandle" ∧ y_F_wire.cls ≠ "java/lang/invoke/VarHandle" ∧ (parseMethodDescriptor y_F_wire.desc).map (fun d => d.parameters.length) = some 2 := by decide +kernel
theorem hd_P_arrive : y_P_arrive.cls ≠ "java/lang/invoke/MethodHandle" ∧ y_P_arrive.cls ≠ "java/lang/invoke/VarHandle" ∧ (parseMethodDescriptor y_P_arrive.desc).map (fun d => d.parameters.length) = some 2 := by decide +kernel
theorem hd_R_isFull : y_R_isFull.cls ≠ "java/lang/invoke/MethodHandle" ∧ y_R_isFull.cls ≠ "java/lang/invoke/VarHandle" ∧ (parseMethodDescriptor y_R_isFull.desc).map (fun d => d.parameters.length) = some 0 := by decide +kernel
theorem hd_F_tick : y_F_tick.cls ≠ "java/lang/invoke/MethodHandle" ∧ y_F_tick.cls ≠ "java/lang/invoke/VarHandle" ∧ (parseMethodDescriptor y_F_tick.desc).map (fun d => d.parameters.length) = some 1 := by decide +kernel
theorem hd_P_passTick : y_P_passTick.cls ≠ "java/lang/invoke/MethodHandle" ∧ y_P_passTick.cls ≠ "java/lang/invoke/VarHandle" ∧ (parseMethodDescriptor y_P_passTick.desc).map (fun d => d.parameters.length) = some 0 := by decide +kernel
theorem hd_P_sendOff : y_P_sendOff.cls ≠ "java/lang/invoke/MethodHandle" ∧ y_P_sendOff.cls ≠ "java/lang/invoke/VarHandle" ∧ (parseMethodDescriptor y_P_sendOff.desc).map (fun d => d.parameters.length) = some 1 := by decide +kernel
theorem hd_S_add : y_S_add.cls ≠ "java/lang/invoke/MethodHandle" ∧ y_S_add.cls ≠ "java/lang/invoke/VarHandle" ∧ (parseMethodDescriptor y_S_add.desc).map (fun d => d.parameters.length) = some 1 := by decide +kernel
theorem hd_F_lines : y_F_lines.cls ≠ "java/lang/invoke/MethodHandle" ∧ y_F_lines.cls ≠ "java/lang/invoke/VarHandle" ∧ (parseMethodDescriptor y_F_lines.desc).map (fun d => d.parameters.length) = some 1 := by decide +kernel
theorem hd_M_setLines : y_M_setLines.cls ≠ "java/lang/invoke/MethodHandle" ∧ y_M_setLines.cls ≠ "java/lang/invoke/VarHandle" ∧ (parseMethodDescriptor y_M_setLines.desc).map (fun d => d.parameters.length) = some 1 := by decide +kernel
theorem hd_F_sent : y_F_sent.cls ≠ "java/lang/invoke/MethodHandle" ∧ y_F_sent.cls ≠ "java/lang/invoke/VarHandle" ∧ (parseMethodDescriptor y_F_sent.desc).map (fun d => d.parameters.length) = some 1 := by decide +kernel
theorem hd_S_backFromLatest : y_S_backFromLatest.cls ≠ "java/lang/invoke/MethodHandle" ∧ y_S_backFromLatest.cls ≠ "java/lang/invoke/VarHandle" ∧ (parseMethodDescriptor y_S_backFromLatest.desc).map (fun d => d.parameters.length) = some 1 := by decide +kernel
theorem hd_F_total : y_F_total.cls ≠ "java/lang/invoke/MethodHandle" ∧ y_F_total.cls ≠ "java/lang/invoke/VarHandle" ∧ (parseMethodDescriptor y_F_total.desc).map (fun d => d.parameters.length) = some 0 := by decide +kernel
theorem hd_F_cause : y_F_cause.cls ≠ "java/lang/invoke/MethodHandle" ∧ y_F_cause.cls ≠ "java/lang/invoke/VarHandle" ∧ (parseMethodDescriptor y_F_cause.desc).map (fun d => d.parameters.length) = some 0 := by decide +kernel
theorem hd_F_start : y_F_start.cls ≠ "java/lang/invoke/MethodHandle" ∧ y_F_start.cls ≠ "java/lang/invoke/VarHandle" ∧ (parseMethodDescriptor y_F_start.desc).map (fun d => d.parameters.length) = some 0 := by decide +kernel
theorem hd_D_begin : y_D_begin.cls ≠ "java/lang/invoke/MethodHandle" ∧ y_D_begin.cls ≠ "java/lang/invoke/VarHandle" ∧ (parseMethodDescriptor y_D_begin.desc).map (fun d => d.parameters.length) = some 0 := by decide +kernel
theorem hd_F_accept : y_F_accept.cls ≠ "java/lang/invoke/MethodHandle" ∧ y_F_accept.cls ≠ "java/lang/invoke/VarHandle" ∧ (parseMethodDescriptor y_F_accept.desc).map (fun d => d.parameters.length) = some 1 := by decide +kernel
theorem hd_D_queueForth : y_D_queueForth.cls ≠ "java/lang/invoke/MethodHandle" ∧ y_D_queueForth.cls ≠ "java/lang/invoke/VarHandle" ∧ (parseMethodDescriptor y_D_queueForth.desc).map (fun d => d.parameters.length) = some 1 := by decide +kernel
theorem hd_D_wake : y_D_wake.cls ≠ "java/lang/invoke/MethodHandle" ∧ y_D_wake.cls ≠ "java/lang/invoke/VarHandle" ∧ (parseMethodDescriptor y_D_wake.desc).map (fun d => d.parameters.length) = some 0 := by decide +kernel
theorem hd_F_take : y_F_take.cls ≠ "java/lang/invoke/MethodHandle" ∧ y_F_take.cls ≠ "java/lang/invoke/VarHandle" ∧ (parseMethodDescriptor y_F_take.desc).map (fun d => d.parameters.length) = some 0 := by decide +kernel
theorem hd_D_takeBack : y_D_takeBack.cls ≠ "java/lang/invoke/MethodHandle" ∧ y_D_takeBack.cls ≠ "java/lang/invoke/VarHandle" ∧ (parseMethodDescriptor y_D_takeBack.desc).map (fun d => d.parameters.length) = some 0 := by decide +kernel
theorem hd_F_service : y_F_service.cls ≠ "java/lang/invoke/MethodHandle" ∧ y_F_service.cls ≠ "java/lang/invoke/VarHandle" ∧ (parseMethodDescriptor y_F_service.desc).map (fun d => d.parameters.length) = some 0 := by decide +kernel
theorem hd_D_runRound : y_D_runRound.cls ≠ "java/lang/invoke/MethodHandle" ∧ y_D_runRound.cls ≠ "java/lang/invoke/VarHandle" ∧ (parseMethodDescriptor y_D_runRound.desc).map (fun d => d.parameters.length) = some 0 := by decide +kernel
theorem hd_D_readStatus : y_D_readStatus.cls ≠ "java/lang/invoke/MethodHandle" ∧ y_D_readStatus.cls ≠ "java/lang/invoke/VarHandle" ∧ (parseMethodDescriptor y_D_readStatus.desc).map (fun d => d.parameters.length) = some 0 := by decide +kernel
theorem hd_D_receive : y_D_receive.cls ≠ "java/lang/invoke/MethodHandle" ∧ y_D_receive.cls ≠ "java/lang/invoke/VarHandle" ∧ (parseMethodDescriptor y_D_receive.desc).map (fun d => d.parameters.length) = some 0 := by decide +kernel
theorem hd_D_handle : y_D_handle.cls ≠ "java/lang/invoke/MethodHandle" ∧ y_D_handle.cls ≠ "java/lang/invoke/VarHandle" ∧ (parseMethodDescriptor y_D_handle.desc).map (fun d => d.parameters.length) = some 1 := by decide +kernel
theorem hd_D_transmit : y_D_transmit.cls ≠ "java/lang/invoke/MethodHandle" ∧ y_D_transmit.cls ≠ "java/lang/invoke/VarHandle" ∧ (parseMethodDescriptor y_D_transmit.desc).map (fun d => d.parameters.length) = some 0 := by decide +kernel
theorem hd_F_count : y_F_count.cls ≠ "java/lang/invoke/MethodHandle" ∧ y_F_count.cls ≠ "java/lang/invoke/VarHandle" ∧ (parseMethodDescriptor y_F_count.desc).map (fun d => d.parameters.length) = some 1 := by decide +kernel
theorem hd_F_flow : y_F_flow.cls ≠ "java/lang/invoke/MethodHandle" ∧ y_F_flow.cls ≠ "java/lang/invoke/VarHandle" ∧ (parseMethodDescriptor y_F_flow.desc).map (fun d => d.parameters.length) = some 0 := by decide +kernel
theorem hd_D_flowBits : y_D_flowBits.cls ≠ "java/lang/invoke/MethodHandle" ∧ y_D_flowBits.cls ≠ "java/lang/invoke/VarHandle" ∧ (parseMethodDescriptor y_D_flowBits.desc).map (fun d => d.parameters.length) = some 0 := by decide +kernel
theorem hd_F_lost : y_F_lost.cls ≠ "java/lang/invoke/MethodHandle" ∧ y_F_lost.cls ≠ "java/lang/invoke/VarHandle" ∧ (parseMethodDescriptor y_F_lost.desc).map (fun d => d.parameters.length) = some 0 := by decide +kernel
theorem hd_F_left : y_F_left.cls ≠ "java/lang/invoke/MethodHandle" ∧ y_F_left.cls ≠ "java/lang/invoke/VarHandle" ∧ (parseMethodDescriptor y_F_left.desc).map (fun d => d.parameters.length) = some 0 := by decide +kernel
theorem hd_T_init : y_T_init.cls ≠ "java/lang/invoke/MethodHandle" ∧ y_T_init.cls ≠ "java/lang/invoke/VarHandle" ∧ (parseMethodDescriptor y_T_init.desc).map (fun d => d.parameters.length) = some 0 := by decide +kernel
theorem hd_T_wire : y_T_wire.cls ≠ "java/lang/invoke/MethodHandle" ∧ y_T_wire.cls ≠ "java/lang/invoke/VarHandle" ∧ (parseMethodDescriptor y_T_wire.desc).map (fun d => d.parameters.length) = some 2 := by decide +kernel
theorem hd_T_loops : y_T_loops.cls ≠ "java/lang/invoke/MethodHandle" ∧ y_T_loops.cls ≠ "java/lang/invoke/VarHandle" ∧ (parseMethodDescriptor y_T_loops.desc).map (fun d => d.parameters.length) = some 0 := by decide +kernel
theorem hd_T_isOn : y_T_isOn.cls ≠ "java/lang/invoke/MethodHandle" ∧ y_T_isOn.cls ≠ "java/lang/invoke/VarHandle" ∧ (parseMethodDescriptor y_T_isOn.desc).map (fun d => d.parameters.length) = some 2 := by decide +kernel
theorem hd_T_arrive : y_T_arrive.cls ≠ "java/lang/invoke/MethodHandle" ∧ y_T_arrive.cls ≠ "java/lang/invoke/VarHandle" ∧ (parseMethodDescriptor y_T_arrive.desc).map (fun d => d.parameters.length) = some 2 := by decide +kernel
theorem hd_T_places : y_T_places.cls ≠ "java/lang/invoke/MethodHandle" ∧ y_T_places.cls ≠ "java/lang/invoke/VarHandle" ∧ (parseMethodDescriptor y_T_places.desc).map (fun d => d.parameters.length) = some 0 := by decide +kernel
theorem hd_T_append : y_T_append.cls ≠ "java/lang/invoke/MethodHandle" ∧ y_T_append.cls ≠ "java/lang/invoke/VarHandle" ∧ (parseMethodDescriptor y_T_append.desc).map (fun d => d.parameters.length) = some 2 := by decide +kernel
theorem hd_T_tick : y_T_tick.cls ≠ "java/lang/invoke/MethodHandle" ∧ y_T_tick.cls ≠ "java/lang/invoke/VarHandle" ∧ (parseMethodDescriptor y_T_tick.desc).map (fun d => d.parameters.length) = some 1 := by decide +kernel
theorem hd_T_leave : y_T_leave.cls ≠ "java/lang/invoke/MethodHandle" ∧ y_T_leave.cls ≠ "java/lang/invoke/VarHandle" ∧ (parseMethodDescriptor y_T_leave.desc).map (fun d => d.parameters.length) = some 0 := by decide +kernel
theorem hd_T_moveOne : y_T_moveOne.cls ≠ "java/lang/invoke/MethodHandle" ∧ y_T_moveOne.cls ≠ "java/lang/invoke/VarHandle" ∧ (parseMethodDescriptor y_T_moveOne.desc).map (fun d => d.parameters.length) = some 1 := by decide +kernel
theorem hd_T_removeFirst : y_T_removeFirst.cls ≠ "java/lang/invoke/MethodHandle" ∧ y_T_removeFirst.cls ≠ "java/lang/invoke/VarHandle" ∧ (parseMethodDescriptor y_T_removeFirst.desc).map (fun d => d.parameters.length) = some 1 := by decide +kernel
theorem hd_T_span : y_T_span.cls ≠ "java/lang/invoke/MethodHandle" ∧ y_T_span.cls ≠ "java/lang/invoke/VarHandle" ∧ (parseMethodDescriptor y_T_span.desc).map (fun d => d.parameters.length) = some 0 := by decide +kernel
theorem hd_T_lines : y_T_lines.cls ≠ "java/lang/invoke/MethodHandle" ∧ y_T_lines.cls ≠ "java/lang/invoke/VarHandle" ∧ (parseMethodDescriptor y_T_lines.desc).map (fun d => d.parameters.length) = some 1 := by decide +kernel
theorem hd_T_inputs : y_T_inputs.cls ≠ "java/lang/invoke/MethodHandle" ∧ y_T_inputs.cls ≠ "java/lang/invoke/VarHandle" ∧ (parseMethodDescriptor y_T_inputs.desc).map (fun d => d.parameters.length) = some 0 := by decide +kernel
theorem hd_T_noteInputs : y_T_noteInputs.cls ≠ "java/lang/invoke/MethodHandle" ∧ y_T_noteInputs.cls ≠ "java/lang/invoke/VarHandle" ∧ (parseMethodDescriptor y_T_noteInputs.desc).map (fun d => d.parameters.length) = some 1 := by decide +kernel
theorem hd_T_sent : y_T_sent.cls ≠ "java/lang/invoke/MethodHandle" ∧ y_T_sent.cls ≠ "java/lang/invoke/VarHandle" ∧ (parseMethodDescriptor y_T_sent.desc).map (fun d => d.parameters.length) = some 1 := by decide +kernel
theorem hd_T_total : y_T_total.cls ≠ "java/lang/invoke/MethodHandle" ∧ y_T_total.cls ≠ "java/lang/invoke/VarHandle" ∧ (parseMethodDescriptor y_T_total.desc).map (fun d => d.parameters.length) = some 0 := by decide +kernel
theorem hd_T_cause : y_T_cause.cls ≠ "java/lang/invoke/MethodHandle" ∧ y_T_cause.cls ≠ "java/lang/invoke/VarHandle" ∧ (parseMethodDescriptor y_T_cause.desc).map (fun d => d.parameters.length) = some 0 := by decide +kernel
theorem hd_T_read : y_T_read.cls ≠ "java/lang/invoke/MethodHandle" ∧ y_T_read.cls ≠ "java/lang/invoke/VarHandle" ∧ (parseMethodDescriptor y_T_read.desc).map (fun d => d.parameters.length) = some 1 := by decide +kernel
theorem hd_T_takeIn : y_T_takeIn.cls ≠ "java/lang/invoke/MethodHandle" ∧ y_T_takeIn.cls ≠ "java/lang/invoke/VarHandle" ∧ (parseMethodDescriptor y_T_takeIn.desc).map (fun d => d.parameters.length) = some 0 := by decide +kernel
theorem hd_T_readCause : y_T_readCause.cls ≠ "java/lang/invoke/MethodHandle" ∧ y_T_readCause.cls ≠ "java/lang/invoke/VarHandle" ∧ (parseMethodDescriptor y_T_readCause.desc).map (fun d => d.parameters.length) = some 0 := by decide +kernel
theorem hd_T_readStatus : y_T_readStatus.cls ≠ "java/lang/invoke/MethodHandle" ∧ y_T_readStatus.cls ≠ "java/lang/invoke/VarHandle" ∧ (parseMethodDescriptor y_T_readStatus.desc).map (fun d => d.parameters.length) = some 0 := by decide +kernel
theorem hd_T_readChanges : y_T_readChanges.cls ≠ "java/lang/invoke/MethodHandle" ∧ y_T_readChanges.cls ≠ "java/lang/invoke/VarHandle" ∧ (parseMethodDescriptor y_T_readChanges.desc).map (fun d => d.parameters.length) = some 0 := by decide +kernel
theorem hd_T_write : y_T_write.cls ≠ "java/lang/invoke/MethodHandle" ∧ y_T_write.cls ≠ "java/lang/invoke/VarHandle" ∧ (parseMethodDescriptor y_T_write.desc).map (fun d => d.parameters.length) = some 2 := by decide +kernel
theorem hd_T_writeData : y_T_writeData.cls ≠ "java/lang/invoke/MethodHandle" ∧ y_T_writeData.cls ≠ "java/lang/invoke/VarHandle" ∧ (parseMethodDescriptor y_T_writeData.desc).map (fun d => d.parameters.length) = some 1 := by decide +kernel
theorem hd_T_writeEnabled : y_T_writeEnabled.cls ≠ "java/lang/invoke/MethodHandle" ∧ y_T_writeEnabled.cls ≠ "java/lang/invoke/VarHandle" ∧ (parseMethodDescriptor y_T_writeEnabled.desc).map (fun d => d.parameters.length) = some 1 := by decide +kernel
theorem hd_T_writeQueues : y_T_writeQueues.cls ≠ "java/lang/invoke/MethodHandle" ∧ y_T_writeQueues.cls ≠ "java/lang/invoke/VarHandle" ∧ (parseMethodDescriptor y_T_writeQueues.desc).map (fun d => d.parameters.length) = some 1 := by decide +kernel
theorem hd_T_start : y_T_start.cls ≠ "java/lang/invoke/MethodHandle" ∧ y_T_start.cls ≠ "java/lang/invoke/VarHandle" ∧ (parseMethodDescriptor y_T_start.desc).map (fun d => d.parameters.length) = some 0 := by decide +kernel
theorem hd_T_accept : y_T_accept.cls ≠ "java/lang/invoke/MethodHandle" ∧ y_T_accept.cls ≠ "java/lang/invoke/VarHandle" ∧ (parseMethodDescriptor y_T_accept.desc).map (fun d => d.parameters.length) = some 1 := by decide +kernel
theorem hd_T_wake : y_T_wake.cls ≠ "java/lang/invoke/MethodHandle" ∧ y_T_wake.cls ≠ "java/lang/invoke/VarHandle" ∧ (parseMethodDescriptor y_T_wake.desc).map (fun d => d.parameters.length) = some 0 := by decide +kernel
theorem hd_T_take : y_T_take.cls ≠ "java/lang/invoke/MethodHandle" ∧ y_T_take.cls ≠ "java/lang/invoke/VarHandle" ∧ (parseMethodDescriptor y_T_take.desc).map (fun d => d.parameters.length) = some 0 := by decide +kernel
theorem hd_T_service : y_T_service.cls ≠ "java/lang/invoke/MethodHandle" ∧ y_T_service.cls ≠ "java/lang/invoke/VarHandle" ∧ (parseMethodDescriptor y_T_service.desc).map (fun d => d.parameters.length) = some 0 := by decide +kernel
theorem hd_T_round : y_T_round.cls ≠ "java/lang/invoke/MethodHandle" ∧ y_T_round.cls ≠ "java/lang/invoke/VarHandle" ∧ (parseMethodDescriptor y_T_round.desc).map (fun d => d.parameters.length) = some 0 := by decide +kernel
theorem hd_T_receive : y_T_receive.cls ≠ "java/lang/invoke/MethodHandle" ∧ y_T_receive.cls ≠ "java/lang/invoke/VarHandle" ∧ (parseMethodDescriptor y_T_receive.desc).map (fun d => d.parameters.length) = some 0 := by decide +kernel
theorem hd_T_handle : y_T_handle.cls ≠ "java/lang/invoke/MethodHandle" ∧ y_T_handle.cls ≠ "java/lang/invoke/VarHandle" ∧ (parseMethodDescriptor y_T_handle.desc).map (fun d => d.parameters.length) = some 1 := by decide +kernel
theorem hd_T_transmit : y_T_transmit.cls ≠ "java/lang/invoke/MethodHandle" ∧ y_T_transmit.cls ≠ "java/lang/invoke/VarHandle" ∧ (parseMethodDescriptor y_T_transmit.desc).map (fun d => d.parameters.length) = some 0 := by decide +kernel
theorem hd_T_count : y_T_count.cls ≠ "java/lang/invoke/MethodHandle" ∧ y_T_count.cls ≠ "java/lang/invoke/VarHandle" ∧ (parseMethodDescriptor y_T_count.desc).map (fun d => d.parameters.length) = some 1 := by decide +kernel
theorem hd_T_flow : y_T_flow.cls ≠ "java/lang/invoke/MethodHandle" ∧ y_T_flow.cls ≠ "java/lang/invoke/VarHandle" ∧ (parseMethodDescriptor y_T_flow.desc).map (fun d => d.parameters.length) = some 0 := by decide +kernel
theorem hd_T_lost : y_T_lost.cls ≠ "java/lang/invoke/MethodHandle" ∧ y_T_lost.cls ≠ "java/lang/invoke/VarHandle" ∧ (parseMethodDescriptor y_T_lost.desc).map (fun d => d.parameters.length) = some 0 := by decide +kernel
theorem hd_T_left : y_T_left.cls ≠ "java/lang/invoke/MethodHandle" ∧ y_T_left.cls ≠ "java/lang/invoke/VarHandle" ∧ (parseMethodDescriptor y_T_left.desc).map (fun d => d.parameters.length) = some 0 := by decide +kernel
