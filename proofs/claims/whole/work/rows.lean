section
-- ===== PART A: goes FIRST, ahead of the names: the tables' words, and 'selects' of the private methods out of them =====
/-- a private method of a class that the tables say can be made, by its rows of tables_1 -/
def lw_okq (q : MethodName × Nat) : Prop := (q.1.cls ≠ "java/lang/invoke/MethodHandle" ∧ q.1.cls ≠ "java/lang/invoke/VarHandle") ∧ Cond.instantiable q.1.cls q.2 ∈ tables_1 ∧ Cond.privateMethod q.1 ∈ tables_1 ∧ Cond.instanceMethod q.1 ∈ tables_1
theorem lw_p0 : lw_okq (⟨"FlowedLineModel", "loops", "()Z"⟩, 25) := ⟨⟨by decide +kernel, by decide +kernel⟩, List.mem_of_getElem? (i := 412) (by decide +kernel), List.mem_of_getElem? (i := 498) (by decide +kernel), List.mem_of_getElem? (i := 499) (by decide +kernel)⟩
theorem lw_p1 : lw_okq (⟨"FlowedLineModel", "isOn", "(II)Z"⟩, 25) := ⟨⟨by decide +kernel, by decide +kernel⟩, List.mem_of_getElem? (i := 412) (by decide +kernel), List.mem_of_getElem? (i := 502) (by decide +kernel), List.mem_of_getElem? (i := 503) (by decide +kernel)⟩
theorem lw_p2 : lw_okq (⟨"FlowedLineModel", "arrive", "(II)V"⟩, 25) := ⟨⟨by decide +kernel, by decide +kernel⟩, List.mem_of_getElem? (i := 412) (by decide +kernel), List.mem_of_getElem? (i := 506) (by decide +kernel), List.mem_of_getElem? (i := 507) (by decide +kernel)⟩
theorem lw_p3 : lw_okq (⟨"FlowedLineModel", "places", "()I"⟩, 25) := ⟨⟨by decide +kernel, by decide +kernel⟩, List.mem_of_getElem? (i := 412) (by decide +kernel), List.mem_of_getElem? (i := 510) (by decide +kernel), List.mem_of_getElem? (i := 511) (by decide +kernel)⟩
theorem lw_p4 : lw_okq (⟨"FlowedLineModel", "append", "(II)V"⟩, 25) := ⟨⟨by decide +kernel, by decide +kernel⟩, List.mem_of_getElem? (i := 412) (by decide +kernel), List.mem_of_getElem? (i := 514) (by decide +kernel), List.mem_of_getElem? (i := 515) (by decide +kernel)⟩
theorem lw_p5 : lw_okq (⟨"FlowedLineModel", "leave", "()I"⟩, 25) := ⟨⟨by decide +kernel, by decide +kernel⟩, List.mem_of_getElem? (i := 412) (by decide +kernel), List.mem_of_getElem? (i := 522) (by decide +kernel), List.mem_of_getElem? (i := 523) (by decide +kernel)⟩
theorem lw_p6 : lw_okq (⟨"FlowedLineModel", "moveOne", "(I)V"⟩, 25) := ⟨⟨by decide +kernel, by decide +kernel⟩, List.mem_of_getElem? (i := 412) (by decide +kernel), List.mem_of_getElem? (i := 526) (by decide +kernel), List.mem_of_getElem? (i := 527) (by decide +kernel)⟩
theorem lw_p7 : lw_okq (⟨"FlowedLineModel", "removeFirst", "(I)I"⟩, 25) := ⟨⟨by decide +kernel, by decide +kernel⟩, List.mem_of_getElem? (i := 412) (by decide +kernel), List.mem_of_getElem? (i := 530) (by decide +kernel), List.mem_of_getElem? (i := 531) (by decide +kernel)⟩
theorem lw_p8 : lw_okq (⟨"FlowedLineModel", "span", "()I"⟩, 25) := ⟨⟨by decide +kernel, by decide +kernel⟩, List.mem_of_getElem? (i := 412) (by decide +kernel), List.mem_of_getElem? (i := 534) (by decide +kernel), List.mem_of_getElem? (i := 535) (by decide +kernel)⟩
theorem lw_p9 : lw_okq (⟨"FlowedLineModel", "inputs", "()I"⟩, 25) := ⟨⟨by decide +kernel, by decide +kernel⟩, List.mem_of_getElem? (i := 412) (by decide +kernel), List.mem_of_getElem? (i := 542) (by decide +kernel), List.mem_of_getElem? (i := 543) (by decide +kernel)⟩
theorem lw_p10 : lw_okq (⟨"FlowedLineModel", "noteInputs", "(I)V"⟩, 25) := ⟨⟨by decide +kernel, by decide +kernel⟩, List.mem_of_getElem? (i := 412) (by decide +kernel), List.mem_of_getElem? (i := 546) (by decide +kernel), List.mem_of_getElem? (i := 547) (by decide +kernel)⟩
theorem lw_p11 : lw_okq (⟨"FlowedLineModel", "takeIn", "()I"⟩, 25) := ⟨⟨by decide +kernel, by decide +kernel⟩, List.mem_of_getElem? (i := 412) (by decide +kernel), List.mem_of_getElem? (i := 566) (by decide +kernel), List.mem_of_getElem? (i := 567) (by decide +kernel)⟩
theorem lw_p12 : lw_okq (⟨"FlowedLineModel", "readCause", "()I"⟩, 25) := ⟨⟨by decide +kernel, by decide +kernel⟩, List.mem_of_getElem? (i := 412) (by decide +kernel), List.mem_of_getElem? (i := 570) (by decide +kernel), List.mem_of_getElem? (i := 571) (by decide +kernel)⟩
theorem lw_p13 : lw_okq (⟨"FlowedLineModel", "readStatus", "()I"⟩, 25) := ⟨⟨by decide +kernel, by decide +kernel⟩, List.mem_of_getElem? (i := 412) (by decide +kernel), List.mem_of_getElem? (i := 575) (by decide +kernel), List.mem_of_getElem? (i := 576) (by decide +kernel)⟩
theorem lw_p14 : lw_okq (⟨"FlowedLineModel", "readChanges", "()I"⟩, 25) := ⟨⟨by decide +kernel, by decide +kernel⟩, List.mem_of_getElem? (i := 412) (by decide +kernel), List.mem_of_getElem? (i := 579) (by decide +kernel), List.mem_of_getElem? (i := 580) (by decide +kernel)⟩
theorem lw_p15 : lw_okq (⟨"FlowedLineModel", "writeData", "(I)V"⟩, 25) := ⟨⟨by decide +kernel, by decide +kernel⟩, List.mem_of_getElem? (i := 412) (by decide +kernel), List.mem_of_getElem? (i := 587) (by decide +kernel), List.mem_of_getElem? (i := 588) (by decide +kernel)⟩
def lw_privs_1 : List (MethodName × Nat) := [(⟨"FlowedLineModel", "loops", "()Z"⟩, 25), (⟨"FlowedLineModel", "isOn", "(II)Z"⟩, 25), (⟨"FlowedLineModel", "arrive", "(II)V"⟩, 25), (⟨"FlowedLineModel", "places", "()I"⟩, 25), (⟨"FlowedLineModel", "append", "(II)V"⟩, 25), (⟨"FlowedLineModel", "leave", "()I"⟩, 25), (⟨"FlowedLineModel", "moveOne", "(I)V"⟩, 25), (⟨"FlowedLineModel", "removeFirst", "(I)I"⟩, 25), (⟨"FlowedLineModel", "span", "()I"⟩, 25), (⟨"FlowedLineModel", "inputs", "()I"⟩, 25), (⟨"FlowedLineModel", "noteInputs", "(I)V"⟩, 25), (⟨"FlowedLineModel", "takeIn", "()I"⟩, 25), (⟨"FlowedLineModel", "readCause", "()I"⟩, 25), (⟨"FlowedLineModel", "readStatus", "()I"⟩, 25), (⟨"FlowedLineModel", "readChanges", "()I"⟩, 25), (⟨"FlowedLineModel", "writeData", "(I)V"⟩, 25)]
theorem lw_r1 : ∀ q ∈ lw_privs_1, lw_okq q := List.forall_mem_cons.mpr ⟨lw_p0, List.forall_mem_cons.mpr ⟨lw_p1, List.forall_mem_cons.mpr ⟨lw_p2, List.forall_mem_cons.mpr ⟨lw_p3, List.forall_mem_cons.mpr ⟨lw_p4, List.forall_mem_cons.mpr ⟨lw_p5, List.forall_mem_cons.mpr ⟨lw_p6, List.forall_mem_cons.mpr ⟨lw_p7, List.forall_mem_cons.mpr ⟨lw_p8, List.forall_mem_cons.mpr ⟨lw_p9, List.forall_mem_cons.mpr ⟨lw_p10, List.forall_mem_cons.mpr ⟨lw_p11, List.forall_mem_cons.mpr ⟨lw_p12, List.forall_mem_cons.mpr ⟨lw_p13, List.forall_mem_cons.mpr ⟨lw_p14, List.forall_mem_cons.mpr ⟨lw_p15, fun _ h => absurd h List.not_mem_nil⟩⟩⟩⟩⟩⟩⟩⟩⟩⟩⟩⟩⟩⟩⟩⟩
theorem lw_p16 : lw_okq (⟨"FlowedLineModel", "writeEnabled", "(I)V"⟩, 25) := ⟨⟨by decide +kernel, by decide +kernel⟩, List.mem_of_getElem? (i := 412) (by decide +kernel), List.mem_of_getElem? (i := 591) (by decide +kernel), List.mem_of_getElem? (i := 592) (by decide +kernel)⟩
theorem lw_p17 : lw_okq (⟨"FlowedLineModel", "writeQueues", "(I)V"⟩, 25) := ⟨⟨by decide +kernel, by decide +kernel⟩, List.mem_of_getElem? (i := 412) (by decide +kernel), List.mem_of_getElem? (i := 595) (by decide +kernel), List.mem_of_getElem? (i := 596) (by decide +kernel)⟩
theorem lw_p18 : lw_okq (⟨"FlowedLineModel", "wake", "()V"⟩, 25) := ⟨⟨by decide +kernel, by decide +kernel⟩, List.mem_of_getElem? (i := 412) (by decide +kernel), List.mem_of_getElem? (i := 608) (by decide +kernel), List.mem_of_getElem? (i := 609) (by decide +kernel)⟩
theorem lw_p19 : lw_okq (⟨"FlowedLineModel", "round", "()Z"⟩, 25) := ⟨⟨by decide +kernel, by decide +kernel⟩, List.mem_of_getElem? (i := 412) (by decide +kernel), List.mem_of_getElem? (i := 621) (by decide +kernel), List.mem_of_getElem? (i := 622) (by decide +kernel)⟩
theorem lw_p20 : lw_okq (⟨"FlowedLineModel", "receive", "()V"⟩, 25) := ⟨⟨by decide +kernel, by decide +kernel⟩, List.mem_of_getElem? (i := 412) (by decide +kernel), List.mem_of_getElem? (i := 625) (by decide +kernel), List.mem_of_getElem? (i := 626) (by decide +kernel)⟩
theorem lw_p21 : lw_okq (⟨"FlowedLineModel", "handle", "(I)V"⟩, 25) := ⟨⟨by decide +kernel, by decide +kernel⟩, List.mem_of_getElem? (i := 412) (by decide +kernel), List.mem_of_getElem? (i := 629) (by decide +kernel), List.mem_of_getElem? (i := 630) (by decide +kernel)⟩
theorem lw_p22 : lw_okq (⟨"FlowedLineModel", "transmit", "()V"⟩, 25) := ⟨⟨by decide +kernel, by decide +kernel⟩, List.mem_of_getElem? (i := 412) (by decide +kernel), List.mem_of_getElem? (i := 633) (by decide +kernel), List.mem_of_getElem? (i := 634) (by decide +kernel)⟩
def lw_privs_2 : List (MethodName × Nat) := [(⟨"FlowedLineModel", "writeEnabled", "(I)V"⟩, 25), (⟨"FlowedLineModel", "writeQueues", "(I)V"⟩, 25), (⟨"FlowedLineModel", "wake", "()V"⟩, 25), (⟨"FlowedLineModel", "round", "()Z"⟩, 25), (⟨"FlowedLineModel", "receive", "()V"⟩, 25), (⟨"FlowedLineModel", "handle", "(I)V"⟩, 25), (⟨"FlowedLineModel", "transmit", "()V"⟩, 25)]
theorem lw_r2 : ∀ q ∈ lw_privs_2, lw_okq q := List.forall_mem_cons.mpr ⟨lw_p16, List.forall_mem_cons.mpr ⟨lw_p17, List.forall_mem_cons.mpr ⟨lw_p18, List.forall_mem_cons.mpr ⟨lw_p19, List.forall_mem_cons.mpr ⟨lw_p20, List.forall_mem_cons.mpr ⟨lw_p21, List.forall_mem_cons.mpr ⟨lw_p22, fun _ h => absurd h List.not_mem_nil⟩⟩⟩⟩⟩⟩⟩
def lw_privs : List (MethodName × Nat) := lw_privs_1 ++ (lw_privs_2)
def lw_tbl : List Cond := k2_sels lw_privs ++ tables_1
theorem lw_privs_ok : ∀ q ∈ lw_privs, lw_okq q := by
  show ∀ q ∈ lw_privs_1 ++ (lw_privs_2), lw_okq q
  exact List.forall_mem_append.mpr ⟨lw_r1, lw_r2⟩
end
section
/-- the words of the tables that a call keeps -/
def W0 : List Cond := lw_tbl.filter goodWord
theorem wm_ {w : Cond} (k : Nat) (h : lw_tbl[k]? = some w) (hg : goodWord w = true) : w ∈ W0 := List.mem_filter.mpr ⟨List.mem_of_getElem? h, hg⟩
def cls_F : String := "FlowedLine"
def cls_D : String := "FlowedLine$Driver"
def cls_M : String := "FlowedLine$Modem"
def cls_P : String := "FlowedLine$Port"
def cls_R : String := "FlowedLine$Ring"
def cls_S : String := "FlowedLine$SentLog"
def cls_T : String := "FlowedLineModel"
def cls_L : String := "FlowedLineLaw"
def fld_D : u_T := fun k => match k with
  | 0 => ("FlowedLine$Driver", "forth", "LFlowedLine$Ring;", true)
  | 1 => ("FlowedLine$Driver", "back", "LFlowedLine$Ring;", true)
  | 2 => ("FlowedLine$Driver", "port", "LFlowedLine$Port;", true)
  | 3 => ("FlowedLine$Driver", "held", "Z", false)
  | 4 => ("FlowedLine$Driver", "asked", "Z", false)
  | 5 => ("FlowedLine$Driver", "urgent", "I", false)
  | _ => ("FlowedLine$Driver", "lostCount", "I", false)
def typ_D : Nat → FieldType := fun k => match k with
  | 0 => .object "FlowedLine$Ring"
  | 1 => .object "FlowedLine$Ring"
  | 2 => .object "FlowedLine$Port"
  | 3 => .boolean
  | 4 => .boolean
  | 5 => .int
  | _ => .int
theorem nam_D : ∀ a, a < 7 → ∀ b, b < 7 → a ≠ b → (fld_D a).2.1 ≠ (fld_D b).2.1 := by decide +kernel
theorem tok_D : ∀ k, k < 7 → parseFieldDescriptor (fld_D k).2.2.1 = some (typ_D k) := by decide +kernel
theorem iin_D : ∀ w ∈ u_ws cls_D fld_D 7, w ∈ W0 := by decide +kernel
def fld_M : u_T := fun k => match k with
  | 0 => ("FlowedLine$Modem", "control", "I", false)
  | 1 => ("FlowedLine$Modem", "changes", "I", false)
  | _ => ("FlowedLine$Modem", "given", "I", false)
def typ_M : Nat → FieldType := fun k => match k with
  | 0 => .int
  | 1 => .int
  | _ => .int
theorem nam_M : ∀ a, a < 3 → ∀ b, b < 3 → a ≠ b → (fld_M a).2.1 ≠ (fld_M b).2.1 := by decide +kernel
theorem tok_M : ∀ k, k < 3 → parseFieldDescriptor (fld_M k).2.2.1 = some (typ_M k) := by decide +kernel
theorem iin_M : ∀ w ∈ u_ws cls_M fld_M 3, w ∈ W0 := by decide +kernel
def fld_P : u_T := fun k => match k with
  | 0 => ("FlowedLine$Port", "in", "LFlowedLine$Ring;", true)
  | 1 => ("FlowedLine$Port", "out", "LFlowedLine$Ring;", true)
  | 2 => ("FlowedLine$Port", "modem", "LFlowedLine$Modem;", true)
  | 3 => ("FlowedLine$Port", "log", "LFlowedLine$SentLog;", true)
  | 4 => ("FlowedLine$Port", "queued", "Z", false)
  | 5 => ("FlowedLine$Port", "level", "I", false)
  | 6 => ("FlowedLine$Port", "enabled", "I", false)
  | 7 => ("FlowedLine$Port", "format", "I", false)
  | 8 => ("FlowedLine$Port", "spare", "I", false)
  | 9 => ("FlowedLine$Port", "low", "I", false)
  | 10 => ("FlowedLine$Port", "high", "I", false)
  | 11 => ("FlowedLine$Port", "overrun", "Z", false)
  | 12 => ("FlowedLine$Port", "vacated", "Z", false)
  | 13 => ("FlowedLine$Port", "quiet", "I", false)
  | 14 => ("FlowedLine$Port", "shifting", "I", false)
  | _ => ("FlowedLine$Port", "ticksToGo", "I", false)
def typ_P : Nat → FieldType := fun k => match k with
  | 0 => .object "FlowedLine$Ring"
  | 1 => .object "FlowedLine$Ring"
  | 2 => .object "FlowedLine$Modem"
  | 3 => .object "FlowedLine$SentLog"
  | 4 => .boolean
  | 5 => .int
  | 6 => .int
  | 7 => .int
  | 8 => .int
  | 9 => .int
  | 10 => .int
  | 11 => .boolean
  | 12 => .boolean
  | 13 => .int
  | 14 => .int
  | _ => .int
theorem nam_P : ∀ a, a < 16 → ∀ b, b < 16 → a ≠ b → (fld_P a).2.1 ≠ (fld_P b).2.1 := by decide +kernel
theorem tok_P : ∀ k, k < 16 → parseFieldDescriptor (fld_P k).2.2.1 = some (typ_P k) := by decide +kernel
theorem iin_P : ∀ w ∈ u_ws cls_P fld_P 16, w ∈ W0 := by decide +kernel
def fld_R : u_T := fun k => match k with
  | 0 => ("FlowedLine$Ring", "places", "[I", true)
  | 1 => ("FlowedLine$Ring", "limit", "I", false)
  | 2 => ("FlowedLine$Ring", "first", "I", false)
  | _ => ("FlowedLine$Ring", "size", "I", false)
def typ_R : Nat → FieldType := fun k => match k with
  | 0 => .array .int
  | 1 => .int
  | 2 => .int
  | _ => .int
theorem nam_R : ∀ a, a < 4 → ∀ b, b < 4 → a ≠ b → (fld_R a).2.1 ≠ (fld_R b).2.1 := by decide +kernel
theorem tok_R : ∀ k, k < 4 → parseFieldDescriptor (fld_R k).2.2.1 = some (typ_R k) := by decide +kernel
theorem iin_R : ∀ w ∈ u_ws cls_R fld_R 4, w ∈ W0 := by decide +kernel
def fld_S : u_T := fun k => match k with
  | 0 => ("FlowedLine$SentLog", "latest", "[I", true)
  | _ => ("FlowedLine$SentLog", "size", "I", false)
def typ_S : Nat → FieldType := fun k => match k with
  | 0 => .array .int
  | _ => .int
theorem nam_S : ∀ a, a < 2 → ∀ b, b < 2 → a ≠ b → (fld_S a).2.1 ≠ (fld_S b).2.1 := by decide +kernel
theorem tok_S : ∀ k, k < 2 → parseFieldDescriptor (fld_S k).2.2.1 = some (typ_S k) := by decide +kernel
theorem iin_S : ∀ w ∈ u_ws cls_S fld_S 2, w ∈ W0 := by decide +kernel
def fld_F : u_T := fun k => match k with
  | 0 => ("FlowedLine", "port", "LFlowedLine$Port;", true)
  | _ => ("FlowedLine", "driver", "LFlowedLine$Driver;", true)
def typ_F : Nat → FieldType := fun k => match k with
  | 0 => .object "FlowedLine$Port"
  | _ => .object "FlowedLine$Driver"
theorem nam_F : ∀ a, a < 2 → ∀ b, b < 2 → a ≠ b → (fld_F a).2.1 ≠ (fld_F b).2.1 := by decide +kernel
theorem tok_F : ∀ k, k < 2 → parseFieldDescriptor (fld_F k).2.2.1 = some (typ_F k) := by decide +kernel
theorem iin_F : ∀ w ∈ u_ws cls_F fld_F 2, w ∈ W0 := by decide +kernel
def fld_T : u_T := fun k => match k with
  | 0 => ("FlowedLineModel", "rows", "[I", true)
  | 1 => ("FlowedLineModel", "sizes", "[I", true)
  | 2 => ("FlowedLineModel", "faults", "[I", true)
  | 3 => ("FlowedLineModel", "ticks", "I", false)
  | 4 => ("FlowedLineModel", "due", "I", false)
  | 5 => ("FlowedLineModel", "sending", "I", false)
  | 6 => ("FlowedLineModel", "heard", "I", false)
  | 7 => ("FlowedLineModel", "level", "I", false)
  | 8 => ("FlowedLineModel", "enabled", "I", false)
  | 9 => ("FlowedLineModel", "format", "I", false)
  | 10 => ("FlowedLineModel", "control", "I", false)
  | 11 => ("FlowedLineModel", "spare", "I", false)
  | 12 => ("FlowedLineModel", "low", "I", false)
  | 13 => ("FlowedLineModel", "high", "I", false)
  | 14 => ("FlowedLineModel", "overrun", "Z", false)
  | 15 => ("FlowedLineModel", "vacated", "Z", false)
  | 16 => ("FlowedLineModel", "queued", "Z", false)
  | 17 => ("FlowedLineModel", "given", "I", false)
  | 18 => ("FlowedLineModel", "changes", "I", false)
  | 19 => ("FlowedLineModel", "total", "I", false)
  | 20 => ("FlowedLineModel", "last", "[I", true)
  | 21 => ("FlowedLineModel", "held", "Z", false)
  | 22 => ("FlowedLineModel", "asked", "Z", false)
  | 23 => ("FlowedLineModel", "urgent", "I", false)
  | _ => ("FlowedLineModel", "lost", "I", false)
def typ_T : Nat → FieldType := fun k => match k with
  | 0 => .array .int
  | 1 => .array .int
  | 2 => .array .int
  | 3 => .int
  | 4 => .int
  | 5 => .int
  | 6 => .int
  | 7 => .int
  | 8 => .int
  | 9 => .int
  | 10 => .int
  | 11 => .int
  | 12 => .int
  | 13 => .int
  | 14 => .boolean
  | 15 => .boolean
  | 16 => .boolean
  | 17 => .int
  | 18 => .int
  | 19 => .int
  | 20 => .array .int
  | 21 => .boolean
  | 22 => .boolean
  | 23 => .int
  | _ => .int
theorem nam_T : ∀ a, a < 25 → ∀ b, b < 25 → a ≠ b → (fld_T a).2.1 ≠ (fld_T b).2.1 := by decide +kernel
theorem tok_T : ∀ k, k < 25 → parseFieldDescriptor (fld_T k).2.2.1 = some (typ_T k) := by decide +kernel
theorem iin_T : ∀ w ∈ u_ws cls_T fld_T 25, w ∈ W0 := by decide +kernel
/-- the classes whose objects the worlds hold -/
abbrev cls : List vw_C := [(cls_D, fld_D, 7), (cls_M, fld_M, 3), (cls_P, fld_P, 16), (cls_R, fld_R, 4), (cls_S, fld_S, 2), (cls_F, fld_F, 2), (cls_T, fld_T, 25)]
abbrev b_F_init : ByteArray := prog_1_method_1_code
def y_F_init : MethodName := ⟨cls_F, "<init>", "()V"⟩
abbrev b_P_init : ByteArray := prog_4_method_1_code
def y_P_init : MethodName := ⟨cls_P, "<init>", "()V"⟩
abbrev b_R_init : ByteArray := prog_5_method_1_code
def y_R_init : MethodName := ⟨cls_R, "<init>", "(I)V"⟩
abbrev b_M_init : ByteArray := prog_3_method_1_code
def y_M_init : MethodName := ⟨cls_M, "<init>", "()V"⟩
abbrev b_S_init : ByteArray := prog_6_method_1_code
def y_S_init : MethodName := ⟨cls_S, "<init>", "()V"⟩
abbrev b_D_init : ByteArray := prog_2_method_1_code
def y_D_init : MethodName := ⟨cls_D, "<init>", "(LFlowedLine$Port;)V"⟩
abbrev b_F_read : ByteArray := prog_1_method_2_code
def y_F_read : MethodName := ⟨cls_F, "read", "(I)I"⟩
abbrev b_P_hasRegister : ByteArray := prog_4_method_2_code
def y_P_hasRegister : MethodName := ⟨cls_P, "hasRegister", "(I)Z"⟩
abbrev b_P_load : ByteArray := prog_4_method_3_code
def y_P_load : MethodName := ⟨cls_P, "load", "(I)I"⟩
abbrev b_P_usesOtherBank : ByteArray := prog_4_method_5_code
def y_P_usesOtherBank : MethodName := ⟨cls_P, "usesOtherBank", "()Z"⟩
abbrev b_P_takeIn : ByteArray := prog_4_method_9_code
def y_P_takeIn : MethodName := ⟨cls_P, "takeIn", "()I"⟩
abbrev b_R_removeOldest : ByteArray := prog_5_method_7_code
def y_R_removeOldest : MethodName := ⟨cls_R, "removeOldest", "()I"⟩
abbrev b_P_identify : ByteArray := prog_4_method_8_code
def y_P_identify : MethodName := ⟨cls_P, "identify", "()I"⟩
abbrev b_P_findCause : ByteArray := prog_4_method_7_code
def y_P_findCause : MethodName := ⟨cls_P, "findCause", "()I"⟩
abbrev b_R_oldest : ByteArray := prog_5_method_5_code
def y_R_oldest : MethodName := ⟨cls_R, "oldest", "()I"⟩
abbrev b_P_span : ByteArray := prog_4_method_6_code
def y_P_span : MethodName := ⟨cls_P, "span", "()I"⟩
abbrev b_P_readStatus : ByteArray := prog_4_method_10_code
def y_P_readStatus : MethodName := ⟨cls_P, "readStatus", "()I"⟩
abbrev b_R_hasItemAbove : ByteArray := prog_5_method_8_code
def y_R_hasItemAbove : MethodName := ⟨cls_R, "hasItemAbove", "(I)Z"⟩
abbrev b_R_replaceOldest : ByteArray := prog_5_method_6_code
def y_R_replaceOldest : MethodName := ⟨cls_R, "replaceOldest", "(I)V"⟩
abbrev b_M_readChanges : ByteArray := prog_3_method_7_code
def y_M_readChanges : MethodName := ⟨cls_M, "readChanges", "()I"⟩
abbrev b_M_inputs : ByteArray := prog_3_method_3_code
def y_M_inputs : MethodName := ⟨cls_M, "inputs", "()I"⟩
abbrev b_M_isLooped : ByteArray := prog_3_method_2_code
def y_M_isLooped : MethodName := ⟨cls_M, "isLooped", "()Z"⟩
abbrev b_F_write : ByteArray := prog_1_method_3_code
def y_F_write : MethodName := ⟨cls_F, "write", "(II)Z"⟩
abbrev b_P_store : ByteArray := prog_4_method_4_code
def y_P_store : MethodName := ⟨cls_P, "store", "(II)V"⟩
abbrev b_P_storeData : ByteArray := prog_4_method_11_code
def y_P_storeData : MethodName := ⟨cls_P, "storeData", "(I)V"⟩
abbrev b_R_append : ByteArray := prog_5_method_4_code
def y_R_append : MethodName := ⟨cls_R, "append", "(I)V"⟩
abbrev b_P_moveIfPossible : ByteArray := prog_4_method_14_code
def y_P_moveIfPossible : MethodName := ⟨cls_P, "moveIfPossible", "()V"⟩
abbrev b_P_storeEnabled : ByteArray := prog_4_method_12_code
def y_P_storeEnabled : MethodName := ⟨cls_P, "storeEnabled", "(I)V"⟩
abbrev b_P_storeQueueing : ByteArray := prog_4_method_13_code
def y_P_storeQueueing : MethodName := ⟨cls_P, "storeQueueing", "(I)V"⟩
abbrev b_R_clear : ByteArray := prog_5_method_3_code
def y_R_clear : MethodName := ⟨cls_R, "clear", "()V"⟩
abbrev b_M_setControl : ByteArray := prog_3_method_5_code
def y_M_setControl : MethodName := ⟨cls_M, "setControl", "(I)V"⟩
abbrev b_M_noteChanges : ByteArray := prog_3_method_6_code
def y_M_noteChanges : MethodName := ⟨cls_M, "noteChanges", "(I)V"⟩
abbrev b_F_wire : ByteArray := prog_1_method_4_code
def y_F_wire : MethodName := ⟨cls_F, "wire", "(II)Z"⟩
abbrev b_P_arrive : ByteArray := prog_4_method_15_code
def y_P_arrive : MethodName := ⟨cls_P, "arrive", "(II)V"⟩
abbrev b_R_isFull : ByteArray := prog_5_method_2_code
def y_R_isFull : MethodName := ⟨cls_R, "isFull", "()Z"⟩
abbrev b_F_tick : ByteArray := prog_1_method_5_code
def y_F_tick : MethodName := ⟨cls_F, "tick", "(I)I"⟩
abbrev b_P_passTick : ByteArray := prog_4_method_16_code
def y_P_passTick : MethodName := ⟨cls_P, "passTick", "()Z"⟩
abbrev b_P_sendOff : ByteArray := prog_4_method_17_code
def y_P_sendOff : MethodName := ⟨cls_P, "sendOff", "(I)V"⟩
abbrev b_S_add : ByteArray := prog_6_method_2_code
def y_S_add : MethodName := ⟨cls_S, "add", "(I)V"⟩
abbrev b_F_lines : ByteArray := prog_1_method_6_code
def y_F_lines : MethodName := ⟨cls_F, "lines", "(I)V"⟩
abbrev b_M_setLines : ByteArray := prog_3_method_4_code
def y_M_setLines : MethodName := ⟨cls_M, "setLines", "(I)V"⟩
abbrev b_F_sent : ByteArray := prog_1_method_7_code
def y_F_sent : MethodName := ⟨cls_F, "sent", "(I)I"⟩
abbrev b_S_backFromLatest : ByteArray := prog_6_method_3_code
def y_S_backFromLatest : MethodName := ⟨cls_S, "backFromLatest", "(I)I"⟩
abbrev b_F_total : ByteArray := prog_1_method_8_code
def y_F_total : MethodName := ⟨cls_F, "total", "()I"⟩
abbrev b_F_cause : ByteArray := prog_1_method_9_code
def y_F_cause : MethodName := ⟨cls_F, "cause", "()I"⟩
abbrev b_F_start : ByteArray := prog_1_method_10_code
def y_F_start : MethodName := ⟨cls_F, "start", "()V"⟩
abbrev b_D_begin : ByteArray := prog_2_method_2_code
def y_D_begin : MethodName := ⟨cls_D, "begin", "()V"⟩
abbrev b_F_accept : ByteArray := prog_1_method_11_code
def y_F_accept : MethodName := ⟨cls_F, "accept", "(I)Z"⟩
abbrev b_D_queueForth : ByteArray := prog_2_method_3_code
def y_D_queueForth : MethodName := ⟨cls_D, "queueForth", "(I)Z"⟩
abbrev b_D_wake : ByteArray := prog_2_method_5_code
def y_D_wake : MethodName := ⟨cls_D, "wake", "()V"⟩
abbrev b_F_take : ByteArray := prog_1_method_12_code
def y_F_take : MethodName := ⟨cls_F, "take", "()I"⟩
abbrev b_D_takeBack : ByteArray := prog_2_method_4_code
def y_D_takeBack : MethodName := ⟨cls_D, "takeBack", "()I"⟩
abbrev b_F_service : ByteArray := prog_1_method_13_code
def y_F_service : MethodName := ⟨cls_F, "service", "()I"⟩
abbrev b_D_runRound : ByteArray := prog_2_method_6_code
def y_D_runRound : MethodName := ⟨cls_D, "runRound", "()Z"⟩
abbrev b_D_readStatus : ByteArray := prog_2_method_7_code
def y_D_readStatus : MethodName := ⟨cls_D, "readStatus", "()I"⟩
abbrev b_D_receive : ByteArray := prog_2_method_8_code
def y_D_receive : MethodName := ⟨cls_D, "receive", "()V"⟩
abbrev b_D_handle : ByteArray := prog_2_method_9_code
def y_D_handle : MethodName := ⟨cls_D, "handle", "(I)V"⟩
abbrev b_D_transmit : ByteArray := prog_2_method_10_code
def y_D_transmit : MethodName := ⟨cls_D, "transmit", "()V"⟩
abbrev b_F_count : ByteArray := prog_1_method_14_code
def y_F_count : MethodName := ⟨cls_F, "count", "(I)I"⟩
abbrev b_F_flow : ByteArray := prog_1_method_15_code
def y_F_flow : MethodName := ⟨cls_F, "flow", "()I"⟩
abbrev b_D_flowBits : ByteArray := prog_2_method_11_code
def y_D_flowBits : MethodName := ⟨cls_D, "flowBits", "()I"⟩
abbrev b_F_lost : ByteArray := prog_1_method_16_code
def y_F_lost : MethodName := ⟨cls_F, "lost", "()I"⟩
abbrev b_F_left : ByteArray := prog_1_method_17_code
def y_F_left : MethodName := ⟨cls_F, "left", "()I"⟩
abbrev b_T_init : ByteArray := prog_8_method_1_code
def y_T_init : MethodName := ⟨cls_T, "<init>", "()V"⟩
abbrev b_T_wire : ByteArray := prog_8_method_13_code
def y_T_wire : MethodName := ⟨cls_T, "wire", "(II)Z"⟩
abbrev b_T_loops : ByteArray := prog_8_method_7_code
def y_T_loops : MethodName := ⟨cls_T, "loops", "()Z"⟩
abbrev b_T_isOn : ByteArray := prog_8_method_6_code
def y_T_isOn : MethodName := ⟨cls_T, "isOn", "(II)Z"⟩
abbrev b_T_arrive : ByteArray := prog_8_method_11_code
def y_T_arrive : MethodName := ⟨cls_T, "arrive", "(II)V"⟩
abbrev b_T_places : ByteArray := prog_8_method_4_code
def y_T_places : MethodName := ⟨cls_T, "places", "()I"⟩
abbrev b_T_append : ByteArray := prog_8_method_2_code
def y_T_append : MethodName := ⟨cls_T, "append", "(II)V"⟩
abbrev b_T_tick : ByteArray := prog_8_method_15_code
def y_T_tick : MethodName := ⟨cls_T, "tick", "(I)I"⟩
abbrev b_T_leave : ByteArray := prog_8_method_14_code
def y_T_leave : MethodName := ⟨cls_T, "leave", "()I"⟩
abbrev b_T_moveOne : ByteArray := prog_8_method_10_code
def y_T_moveOne : MethodName := ⟨cls_T, "moveOne", "(I)V"⟩
abbrev b_T_removeFirst : ByteArray := prog_8_method_3_code
def y_T_removeFirst : MethodName := ⟨cls_T, "removeFirst", "(I)I"⟩
abbrev b_T_span : ByteArray := prog_8_method_5_code
def y_T_span : MethodName := ⟨cls_T, "span", "()I"⟩
abbrev b_T_lines : ByteArray := prog_8_method_16_code
def y_T_lines : MethodName := ⟨cls_T, "lines", "(I)V"⟩
abbrev b_T_inputs : ByteArray := prog_8_method_8_code
def y_T_inputs : MethodName := ⟨cls_T, "inputs", "()I"⟩
abbrev b_T_noteInputs : ByteArray := prog_8_method_9_code
def y_T_noteInputs : MethodName := ⟨cls_T, "noteInputs", "(I)V"⟩
abbrev b_T_sent : ByteArray := prog_8_method_17_code
def y_T_sent : MethodName := ⟨cls_T, "sent", "(I)I"⟩
abbrev b_T_total : ByteArray := prog_8_method_18_code
def y_T_total : MethodName := ⟨cls_T, "total", "()I"⟩
abbrev b_T_cause : ByteArray := prog_8_method_19_code
def y_T_cause : MethodName := ⟨cls_T, "cause", "()I"⟩
abbrev b_T_read : ByteArray := prog_8_method_23_code
def y_T_read : MethodName := ⟨cls_T, "read", "(I)I"⟩
abbrev b_T_takeIn : ByteArray := prog_8_method_12_code
def y_T_takeIn : MethodName := ⟨cls_T, "takeIn", "()I"⟩
abbrev b_T_readCause : ByteArray := prog_8_method_20_code
def y_T_readCause : MethodName := ⟨cls_T, "readCause", "()I"⟩
abbrev b_T_readStatus : ByteArray := prog_8_method_21_code
def y_T_readStatus : MethodName := ⟨cls_T, "readStatus", "()I"⟩
abbrev b_T_readChanges : ByteArray := prog_8_method_22_code
def y_T_readChanges : MethodName := ⟨cls_T, "readChanges", "()I"⟩
abbrev b_T_write : ByteArray := prog_8_method_27_code
def y_T_write : MethodName := ⟨cls_T, "write", "(II)Z"⟩
abbrev b_T_writeData : ByteArray := prog_8_method_24_code
def y_T_writeData : MethodName := ⟨cls_T, "writeData", "(I)V"⟩
abbrev b_T_writeEnabled : ByteArray := prog_8_method_25_code
def y_T_writeEnabled : MethodName := ⟨cls_T, "writeEnabled", "(I)V"⟩
abbrev b_T_writeQueues : ByteArray := prog_8_method_26_code
def y_T_writeQueues : MethodName := ⟨cls_T, "writeQueues", "(I)V"⟩
abbrev b_T_start : ByteArray := prog_8_method_29_code
def y_T_start : MethodName := ⟨cls_T, "start", "()V"⟩
abbrev b_T_accept : ByteArray := prog_8_method_30_code
def y_T_accept : MethodName := ⟨cls_T, "accept", "(I)Z"⟩
abbrev b_T_wake : ByteArray := prog_8_method_28_code
def y_T_wake : MethodName := ⟨cls_T, "wake", "()V"⟩
abbrev b_T_take : ByteArray := prog_8_method_31_code
def y_T_take : MethodName := ⟨cls_T, "take", "()I"⟩
abbrev b_T_service : ByteArray := prog_8_method_36_code
def y_T_service : MethodName := ⟨cls_T, "service", "()I"⟩
abbrev b_T_round : ByteArray := prog_8_method_35_code
def y_T_round : MethodName := ⟨cls_T, "round", "()Z"⟩
abbrev b_T_receive : ByteArray := prog_8_method_33_code
def y_T_receive : MethodName := ⟨cls_T, "receive", "()V"⟩
abbrev b_T_handle : ByteArray := prog_8_method_32_code
def y_T_handle : MethodName := ⟨cls_T, "handle", "(I)V"⟩
abbrev b_T_transmit : ByteArray := prog_8_method_34_code
def y_T_transmit : MethodName := ⟨cls_T, "transmit", "()V"⟩
abbrev b_T_count : ByteArray := prog_8_method_37_code
def y_T_count : MethodName := ⟨cls_T, "count", "(I)I"⟩
abbrev b_T_flow : ByteArray := prog_8_method_38_code
def y_T_flow : MethodName := ⟨cls_T, "flow", "()I"⟩
abbrev b_T_lost : ByteArray := prog_8_method_39_code
def y_T_lost : MethodName := ⟨cls_T, "lost", "()I"⟩
abbrev b_T_left : ByteArray := prog_8_method_40_code
def y_T_left : MethodName := ⟨cls_T, "left", "()I"⟩
theorem kn_L : Cond.initialized cls_L ∈ W0 := wm_ 23 (by decide +kernel) (by decide +kernel)
theorem kn_F : Cond.initialized cls_F ∈ W0 := wm_ 24 (by decide +kernel) (by decide +kernel)
theorem kn_P : Cond.initialized cls_P ∈ W0 := wm_ 25 (by decide +kernel) (by decide +kernel)
theorem kn_R : Cond.initialized cls_R ∈ W0 := wm_ 26 (by decide +kernel) (by decide +kernel)
theorem kn_M : Cond.initialized cls_M ∈ W0 := wm_ 27 (by decide +kernel) (by decide +kernel)
theorem kn_S : Cond.initialized cls_S ∈ W0 := wm_ 28 (by decide +kernel) (by decide +kernel)
theorem kn_D : Cond.initialized cls_D ∈ W0 := wm_ 29 (by decide +kernel) (by decide +kernel)
theorem kn_T : Cond.initialized cls_T ∈ W0 := wm_ 30 (by decide +kernel) (by decide +kernel)
theorem k_L_7 : Cond.classLink cls_L 7 cls_F ∈ W0 := wm_ 31 (by decide +kernel) (by decide +kernel)
theorem kx_F : Cond.instantiable cls_F 2 ∈ W0 := wm_ 32 (by decide +kernel) (by decide +kernel)
theorem k_L_9 : Cond.methodLink cls_L 9 y_F_init ∈ W0 := wm_ 33 (by decide +kernel) (by decide +kernel)
theorem ki_F_init : Cond.instanceMethod y_F_init ∈ W0 := wm_ 34 (by decide +kernel) (by decide +kernel)
theorem kc_F_init : Cond.code y_F_init b_F_init 1 none ∈ W0 := wm_ 35 (by decide +kernel) (by decide +kernel)
theorem k_F_1 : Cond.methodLink cls_F 1 objectInit ∈ W0 := wm_ 36 (by decide +kernel) (by decide +kernel)
theorem ki_Obj : Cond.instanceMethod objectInit ∈ W0 := wm_ 37 (by decide +kernel) (by decide +kernel)
theorem kc_Obj : Cond.code objectInit ⟨#[0xb1]⟩ 1 none ∈ W0 := wm_ 38 (by decide +kernel) (by decide +kernel)
theorem k_F_7 : Cond.classLink cls_F 7 cls_P ∈ W0 := wm_ 39 (by decide +kernel) (by decide +kernel)
theorem kx_P : Cond.instantiable cls_P 16 ∈ W0 := wm_ 40 (by decide +kernel) (by decide +kernel)
theorem ki_P_init : Cond.instanceMethod y_P_init ∈ W0 := wm_ 42 (by decide +kernel) (by decide +kernel)
theorem kc_P_init : Cond.code y_P_init b_P_init 1 none ∈ W0 := wm_ 43 (by decide +kernel) (by decide +kernel)
theorem k_P_1 : Cond.methodLink cls_P 1 objectInit ∈ W0 := wm_ 44 (by decide +kernel) (by decide +kernel)
theorem k_P_7 : Cond.classLink cls_P 7 cls_R ∈ W0 := wm_ 45 (by decide +kernel) (by decide +kernel)
theorem kx_R : Cond.instantiable cls_R 4 ∈ W0 := wm_ 46 (by decide +kernel) (by decide +kernel)
theorem k_P_9 : Cond.methodLink cls_P 9 y_R_init ∈ W0 := wm_ 47 (by decide +kernel) (by decide +kernel)
theorem ki_R_init : Cond.instanceMethod y_R_init ∈ W0 := wm_ 48 (by decide +kernel) (by decide +kernel)
theorem kc_R_init : Cond.code y_R_init b_R_init 2 none ∈ W0 := wm_ 49 (by decide +kernel) (by decide +kernel)
theorem k_R_1 : Cond.methodLink cls_R 1 objectInit ∈ W0 := wm_ 50 (by decide +kernel) (by decide +kernel)
theorem k_R_9 : Cond.fieldLink cls_R 9 cls_R "places" "[I" ∈ W0 := wm_ 51 (by decide +kernel) (by decide +kernel)
theorem k_R_13 : Cond.fieldLink cls_R 13 cls_R "limit" "I" ∈ W0 := wm_ 52 (by decide +kernel) (by decide +kernel)
theorem k_P_136 : Cond.fieldLink cls_P 136 cls_R "limit" "I" ∈ W0 := wm_ 53 (by decide +kernel) (by decide +kernel)
theorem k_R_20 : Cond.fieldLink cls_R 20 cls_R "first" "I" ∈ W0 := wm_ 54 (by decide +kernel) (by decide +kernel)
theorem k_R_17 : Cond.fieldLink cls_R 17 cls_R "size" "I" ∈ W0 := wm_ 55 (by decide +kernel) (by decide +kernel)
theorem k_D_57 : Cond.fieldLink cls_D 57 cls_R "size" "I" ∈ W0 := wm_ 56 (by decide +kernel) (by decide +kernel)
theorem k_P_93 : Cond.fieldLink cls_P 93 cls_R "size" "I" ∈ W0 := wm_ 57 (by decide +kernel) (by decide +kernel)
theorem k_F_90 : Cond.fieldLink cls_F 90 cls_R "size" "I" ∈ W0 := wm_ 58 (by decide +kernel) (by decide +kernel)
theorem ka_int : Cond.arrayClass .int ∈ W0 := wm_ 68 (by decide +kernel) (by decide +kernel)
theorem k_P_21 : Cond.classLink cls_P 21 cls_M ∈ W0 := wm_ 69 (by decide +kernel) (by decide +kernel)
theorem kx_M : Cond.instantiable cls_M 3 ∈ W0 := wm_ 70 (by decide +kernel) (by decide +kernel)
theorem ki_M_init : Cond.instanceMethod y_M_init ∈ W0 := wm_ 72 (by decide +kernel) (by decide +kernel)
theorem kc_M_init : Cond.code y_M_init b_M_init 1 none ∈ W0 := wm_ 73 (by decide +kernel) (by decide +kernel)
theorem k_M_1 : Cond.methodLink cls_M 1 objectInit ∈ W0 := wm_ 74 (by decide +kernel) (by decide +kernel)
theorem k_M_7 : Cond.fieldLink cls_M 7 cls_M "control" "I" ∈ W0 := wm_ 75 (by decide +kernel) (by decide +kernel)
theorem k_P_62 : Cond.fieldLink cls_P 62 cls_M "control" "I" ∈ W0 := wm_ 76 (by decide +kernel) (by decide +kernel)
theorem k_M_28 : Cond.fieldLink cls_M 28 cls_M "changes" "I" ∈ W0 := wm_ 77 (by decide +kernel) (by decide +kernel)
theorem k_P_108 : Cond.fieldLink cls_P 108 cls_M "changes" "I" ∈ W0 := wm_ 78 (by decide +kernel) (by decide +kernel)
theorem k_M_17 : Cond.fieldLink cls_M 17 cls_M "given" "I" ∈ W0 := wm_ 79 (by decide +kernel) (by decide +kernel)
theorem k_P_28 : Cond.classLink cls_P 28 cls_S ∈ W0 := wm_ 87 (by decide +kernel) (by decide +kernel)
theorem kx_S : Cond.instantiable cls_S 2 ∈ W0 := wm_ 88 (by decide +kernel) (by decide +kernel)
theorem ki_S_init : Cond.instanceMethod y_S_init ∈ W0 := wm_ 90 (by decide +kernel) (by decide +kernel)
theorem kc_S_init : Cond.code y_S_init b_S_init 1 none ∈ W0 := wm_ 91 (by decide +kernel) (by decide +kernel)
theorem k_S_3 : Cond.methodLink cls_S 3 objectInit ∈ W0 := wm_ 92 (by decide +kernel) (by decide +kernel)
theorem k_S_11 : Cond.fieldLink cls_S 11 cls_S "latest" "[I" ∈ W0 := wm_ 93 (by decide +kernel) (by decide +kernel)
theorem k_S_15 : Cond.fieldLink cls_S 15 cls_S "size" "I" ∈ W0 := wm_ 94 (by decide +kernel) (by decide +kernel)
theorem k_F_66 : Cond.fieldLink cls_F 66 cls_S "size" "I" ∈ W0 := wm_ 95 (by decide +kernel) (by decide +kernel)
theorem k_P_12 : Cond.fieldLink cls_P 12 cls_P "in" "LFlowedLine$Ring;" ∈ W0 := wm_ 101 (by decide +kernel) (by decide +kernel)
theorem k_F_96 : Cond.fieldLink cls_F 96 cls_P "in" "LFlowedLine$Ring;" ∈ W0 := wm_ 102 (by decide +kernel) (by decide +kernel)
theorem k_P_18 : Cond.fieldLink cls_P 18 cls_P "out" "LFlowedLine$Ring;" ∈ W0 := wm_ 103 (by decide +kernel) (by decide +kernel)
theorem k_F_99 : Cond.fieldLink cls_F 99 cls_P "out" "LFlowedLine$Ring;" ∈ W0 := wm_ 104 (by decide +kernel) (by decide +kernel)
theorem k_P_24 : Cond.fieldLink cls_P 24 cls_P "modem" "LFlowedLine$Modem;" ∈ W0 := wm_ 105 (by decide +kernel) (by decide +kernel)
theorem k_F_37 : Cond.fieldLink cls_F 37 cls_P "modem" "LFlowedLine$Modem;" ∈ W0 := wm_ 106 (by decide +kernel) (by decide +kernel)
theorem k_P_31 : Cond.fieldLink cls_P 31 cls_P "log" "LFlowedLine$SentLog;" ∈ W0 := wm_ 107 (by decide +kernel) (by decide +kernel)
theorem k_F_57 : Cond.fieldLink cls_F 57 cls_P "log" "LFlowedLine$SentLog;" ∈ W0 := wm_ 108 (by decide +kernel) (by decide +kernel)
theorem k_P_96 : Cond.fieldLink cls_P 96 cls_P "queued" "Z" ∈ W0 := wm_ 109 (by decide +kernel) (by decide +kernel)
theorem k_P_35 : Cond.fieldLink cls_P 35 cls_P "level" "I" ∈ W0 := wm_ 110 (by decide +kernel) (by decide +kernel)
theorem k_P_53 : Cond.fieldLink cls_P 53 cls_P "enabled" "I" ∈ W0 := wm_ 111 (by decide +kernel) (by decide +kernel)
theorem k_P_59 : Cond.fieldLink cls_P 59 cls_P "format" "I" ∈ W0 := wm_ 112 (by decide +kernel) (by decide +kernel)
theorem k_P_71 : Cond.fieldLink cls_P 71 cls_P "spare" "I" ∈ W0 := wm_ 113 (by decide +kernel) (by decide +kernel)
theorem k_P_39 : Cond.fieldLink cls_P 39 cls_P "low" "I" ∈ W0 := wm_ 114 (by decide +kernel) (by decide +kernel)
theorem k_P_50 : Cond.fieldLink cls_P 50 cls_P "high" "I" ∈ W0 := wm_ 115 (by decide +kernel) (by decide +kernel)
theorem k_P_86 : Cond.fieldLink cls_P 86 cls_P "overrun" "Z" ∈ W0 := wm_ 116 (by decide +kernel) (by decide +kernel)
theorem k_P_105 : Cond.fieldLink cls_P 105 cls_P "vacated" "Z" ∈ W0 := wm_ 117 (by decide +kernel) (by decide +kernel)
theorem k_P_99 : Cond.fieldLink cls_P 99 cls_P "quiet" "I" ∈ W0 := wm_ 118 (by decide +kernel) (by decide +kernel)
theorem k_P_143 : Cond.fieldLink cls_P 143 cls_P "shifting" "I" ∈ W0 := wm_ 119 (by decide +kernel) (by decide +kernel)
theorem k_P_117 : Cond.fieldLink cls_P 117 cls_P "ticksToGo" "I" ∈ W0 := wm_ 120 (by decide +kernel) (by decide +kernel)
theorem k_F_108 : Cond.fieldLink cls_F 108 cls_P "ticksToGo" "I" ∈ W0 := wm_ 121 (by decide +kernel) (by decide +kernel)
theorem k_F_16 : Cond.classLink cls_F 16 cls_D ∈ W0 := wm_ 155 (by decide +kernel) (by decide +kernel)
theorem kx_D : Cond.instantiable cls_D 7 ∈ W0 := wm_ 156 (by decide +kernel) (by decide +kernel)
theorem k_F_18 : Cond.methodLink cls_F 18 y_D_init ∈ W0 := wm_ 157 (by decide +kernel) (by decide +kernel)
theorem ki_D_init : Cond.instanceMethod y_D_init ∈ W0 := wm_ 158 (by decide +kernel) (by decide +kernel)
theorem kc_D_init : Cond.code y_D_init b_D_init 2 none ∈ W0 := wm_ 159 (by decide +kernel) (by decide +kernel)
theorem k_D_3 : Cond.methodLink cls_D 3 objectInit ∈ W0 := wm_ 160 (by decide +kernel) (by decide +kernel)
theorem k_D_9 : Cond.classLink cls_D 9 cls_R ∈ W0 := wm_ 161 (by decide +kernel) (by decide +kernel)
theorem k_D_13 : Cond.methodLink cls_D 13 y_R_init ∈ W0 := wm_ 162 (by decide +kernel) (by decide +kernel)
theorem k_D_16 : Cond.fieldLink cls_D 16 cls_D "forth" "LFlowedLine$Ring;" ∈ W0 := wm_ 163 (by decide +kernel) (by decide +kernel)
theorem k_F_93 : Cond.fieldLink cls_F 93 cls_D "forth" "LFlowedLine$Ring;" ∈ W0 := wm_ 164 (by decide +kernel) (by decide +kernel)
theorem k_D_20 : Cond.fieldLink cls_D 20 cls_D "back" "LFlowedLine$Ring;" ∈ W0 := wm_ 165 (by decide +kernel) (by decide +kernel)
theorem k_F_86 : Cond.fieldLink cls_F 86 cls_D "back" "LFlowedLine$Ring;" ∈ W0 := wm_ 166 (by decide +kernel) (by decide +kernel)
theorem k_D_27 : Cond.fieldLink cls_D 27 cls_D "port" "LFlowedLine$Port;" ∈ W0 := wm_ 167 (by decide +kernel) (by decide +kernel)
theorem k_D_34 : Cond.fieldLink cls_D 34 cls_D "held" "Z" ∈ W0 := wm_ 168 (by decide +kernel) (by decide +kernel)
theorem k_D_38 : Cond.fieldLink cls_D 38 cls_D "asked" "Z" ∈ W0 := wm_ 169 (by decide +kernel) (by decide +kernel)
theorem k_D_23 : Cond.fieldLink cls_D 23 cls_D "urgent" "I" ∈ W0 := wm_ 170 (by decide +kernel) (by decide +kernel)
theorem k_D_77 : Cond.fieldLink cls_D 77 cls_D "lostCount" "I" ∈ W0 := wm_ 171 (by decide +kernel) (by decide +kernel)
theorem k_F_105 : Cond.fieldLink cls_F 105 cls_D "lostCount" "I" ∈ W0 := wm_ 172 (by decide +kernel) (by decide +kernel)
theorem k_F_10 : Cond.fieldLink cls_F 10 cls_F "port" "LFlowedLine$Port;" ∈ W0 := wm_ 188 (by decide +kernel) (by decide +kernel)
theorem k_F_21 : Cond.fieldLink cls_F 21 cls_F "driver" "LFlowedLine$Driver;" ∈ W0 := wm_ 189 (by decide +kernel) (by decide +kernel)
theorem k_L_13 : Cond.methodLink cls_L 13 y_F_read ∈ W0 := wm_ 195 (by decide +kernel) (by decide +kernel)
theorem ki_F_read : Cond.instanceMethod y_F_read ∈ W0 := wm_ 196 (by decide +kernel) (by decide +kernel)
theorem ks_F_read : Cond.selects cls_F y_F_read y_F_read ∈ W0 := wm_ 197 (by decide +kernel) (by decide +kernel)
theorem kc_F_read : Cond.code y_F_read b_F_read 2 (some .int) ∈ W0 := wm_ 198 (by decide +kernel) (by decide +kernel)
theorem k_F_25 : Cond.methodLink cls_F 25 y_P_hasRegister ∈ W0 := wm_ 199 (by decide +kernel) (by decide +kernel)
theorem kt_P_hasRegister : Cond.static y_P_hasRegister ∈ W0 := wm_ 200 (by decide +kernel) (by decide +kernel)
theorem kc_P_hasRegister : Cond.code y_P_hasRegister b_P_hasRegister 1 (some .boolean) ∈ W0 := wm_ 201 (by decide +kernel) (by decide +kernel)
theorem k_F_29 : Cond.methodLink cls_F 29 y_P_load ∈ W0 := wm_ 202 (by decide +kernel) (by decide +kernel)
theorem ki_P_load : Cond.instanceMethod y_P_load ∈ W0 := wm_ 203 (by decide +kernel) (by decide +kernel)
theorem ks_P_load : Cond.selects cls_P y_P_load y_P_load ∈ W0 := wm_ 204 (by decide +kernel) (by decide +kernel)
theorem kc_P_load : Cond.code y_P_load b_P_load 2 (some .int) ∈ W0 := wm_ 205 (by decide +kernel) (by decide +kernel)
theorem k_P_42 : Cond.methodLink cls_P 42 y_P_usesOtherBank ∈ W0 := wm_ 206 (by decide +kernel) (by decide +kernel)
theorem ki_P_usesOtherBank : Cond.instanceMethod y_P_usesOtherBank ∈ W0 := wm_ 207 (by decide +kernel) (by decide +kernel)
theorem ks_P_usesOtherBank : Cond.selects cls_P y_P_usesOtherBank y_P_usesOtherBank ∈ W0 := wm_ 208 (by decide +kernel) (by decide +kernel)
theorem kc_P_usesOtherBank : Cond.code y_P_usesOtherBank b_P_usesOtherBank 1 (some .boolean) ∈ W0 := wm_ 209 (by decide +kernel) (by decide +kernel)
theorem k_P_46 : Cond.methodLink cls_P 46 y_P_takeIn ∈ W0 := wm_ 210 (by decide +kernel) (by decide +kernel)
theorem ki_P_takeIn : Cond.instanceMethod y_P_takeIn ∈ W0 := wm_ 211 (by decide +kernel) (by decide +kernel)
theorem ks_P_takeIn : Cond.selects cls_P y_P_takeIn y_P_takeIn ∈ W0 := wm_ 212 (by decide +kernel) (by decide +kernel)
theorem kc_P_takeIn : Cond.code y_P_takeIn b_P_takeIn 1 (some .int) ∈ W0 := wm_ 213 (by decide +kernel) (by decide +kernel)
theorem k_P_114 : Cond.methodLink cls_P 114 y_R_removeOldest ∈ W0 := wm_ 214 (by decide +kernel) (by decide +kernel)
theorem ki_R_removeOldest : Cond.instanceMethod y_R_removeOldest ∈ W0 := wm_ 215 (by decide +kernel) (by decide +kernel)
theorem ks_R_removeOldest : Cond.selects cls_R y_R_removeOldest y_R_removeOldest ∈ W0 := wm_ 216 (by decide +kernel) (by decide +kernel)
theorem kc_R_removeOldest : Cond.code y_R_removeOldest b_R_removeOldest 2 (some .int) ∈ W0 := wm_ 217 (by decide +kernel) (by decide +kernel)
theorem k_P_56 : Cond.methodLink cls_P 56 y_P_identify ∈ W0 := wm_ 218 (by decide +kernel) (by decide +kernel)
theorem ki_P_identify : Cond.instanceMethod y_P_identify ∈ W0 := wm_ 219 (by decide +kernel) (by decide +kernel)
theorem ks_P_identify : Cond.selects cls_P y_P_identify y_P_identify ∈ W0 := wm_ 220 (by decide +kernel) (by decide +kernel)
theorem kc_P_identify : Cond.code y_P_identify b_P_identify 2 (some .int) ∈ W0 := wm_ 221 (by decide +kernel) (by decide +kernel)
theorem k_P_111 : Cond.methodLink cls_P 111 y_P_findCause ∈ W0 := wm_ 222 (by decide +kernel) (by decide +kernel)
theorem ki_P_findCause : Cond.instanceMethod y_P_findCause ∈ W0 := wm_ 223 (by decide +kernel) (by decide +kernel)
theorem ks_P_findCause : Cond.selects cls_P y_P_findCause y_P_findCause ∈ W0 := wm_ 224 (by decide +kernel) (by decide +kernel)
theorem kc_P_findCause : Cond.code y_P_findCause b_P_findCause 1 (some .int) ∈ W0 := wm_ 225 (by decide +kernel) (by decide +kernel)
theorem k_P_90 : Cond.methodLink cls_P 90 y_R_oldest ∈ W0 := wm_ 226 (by decide +kernel) (by decide +kernel)
theorem ki_R_oldest : Cond.instanceMethod y_R_oldest ∈ W0 := wm_ 227 (by decide +kernel) (by decide +kernel)
theorem ks_R_oldest : Cond.selects cls_R y_R_oldest y_R_oldest ∈ W0 := wm_ 228 (by decide +kernel) (by decide +kernel)
theorem kc_R_oldest : Cond.code y_R_oldest b_R_oldest 1 (some .int) ∈ W0 := wm_ 229 (by decide +kernel) (by decide +kernel)
theorem k_P_102 : Cond.methodLink cls_P 102 y_P_span ∈ W0 := wm_ 230 (by decide +kernel) (by decide +kernel)
theorem ki_P_span : Cond.instanceMethod y_P_span ∈ W0 := wm_ 231 (by decide +kernel) (by decide +kernel)
theorem ks_P_span : Cond.selects cls_P y_P_span y_P_span ∈ W0 := wm_ 232 (by decide +kernel) (by decide +kernel)
theorem kc_P_span : Cond.code y_P_span b_P_span 2 (some .int) ∈ W0 := wm_ 233 (by decide +kernel) (by decide +kernel)
theorem k_P_65 : Cond.methodLink cls_P 65 y_P_readStatus ∈ W0 := wm_ 234 (by decide +kernel) (by decide +kernel)
theorem ki_P_readStatus : Cond.instanceMethod y_P_readStatus ∈ W0 := wm_ 235 (by decide +kernel) (by decide +kernel)
theorem ks_P_readStatus : Cond.selects cls_P y_P_readStatus y_P_readStatus ∈ W0 := wm_ 236 (by decide +kernel) (by decide +kernel)
theorem kc_P_readStatus : Cond.code y_P_readStatus b_P_readStatus 2 (some .int) ∈ W0 := wm_ 237 (by decide +kernel) (by decide +kernel)
theorem k_P_120 : Cond.methodLink cls_P 120 y_R_hasItemAbove ∈ W0 := wm_ 238 (by decide +kernel) (by decide +kernel)
theorem ki_R_hasItemAbove : Cond.instanceMethod y_R_hasItemAbove ∈ W0 := wm_ 239 (by decide +kernel) (by decide +kernel)
theorem ks_R_hasItemAbove : Cond.selects cls_R y_R_hasItemAbove y_R_hasItemAbove ∈ W0 := wm_ 240 (by decide +kernel) (by decide +kernel)
theorem kc_R_hasItemAbove : Cond.code y_R_hasItemAbove b_R_hasItemAbove 3 (some .boolean) ∈ W0 := wm_ 241 (by decide +kernel) (by decide +kernel)
theorem k_P_124 : Cond.methodLink cls_P 124 y_R_replaceOldest ∈ W0 := wm_ 242 (by decide +kernel) (by decide +kernel)
theorem ki_R_replaceOldest : Cond.instanceMethod y_R_replaceOldest ∈ W0 := wm_ 243 (by decide +kernel) (by decide +kernel)
theorem ks_R_replaceOldest : Cond.selects cls_R y_R_replaceOldest y_R_replaceOldest ∈ W0 := wm_ 244 (by decide +kernel) (by decide +kernel)
theorem kc_R_replaceOldest : Cond.code y_R_replaceOldest b_R_replaceOldest 2 none ∈ W0 := wm_ 245 (by decide +kernel) (by decide +kernel)
theorem k_P_68 : Cond.methodLink cls_P 68 y_M_readChanges ∈ W0 := wm_ 246 (by decide +kernel) (by decide +kernel)
theorem ki_M_readChanges : Cond.instanceMethod y_M_readChanges ∈ W0 := wm_ 247 (by decide +kernel) (by decide +kernel)
theorem ks_M_readChanges : Cond.selects cls_M y_M_readChanges y_M_readChanges ∈ W0 := wm_ 248 (by decide +kernel) (by decide +kernel)
theorem kc_M_readChanges : Cond.code y_M_readChanges b_M_readChanges 2 (some .int) ∈ W0 := wm_ 249 (by decide +kernel) (by decide +kernel)
theorem k_M_20 : Cond.methodLink cls_M 20 y_M_inputs ∈ W0 := wm_ 250 (by decide +kernel) (by decide +kernel)
theorem ki_M_inputs : Cond.instanceMethod y_M_inputs ∈ W0 := wm_ 251 (by decide +kernel) (by decide +kernel)
theorem ks_M_inputs : Cond.selects cls_M y_M_inputs y_M_inputs ∈ W0 := wm_ 252 (by decide +kernel) (by decide +kernel)
theorem kc_M_inputs : Cond.code y_M_inputs b_M_inputs 1 (some .int) ∈ W0 := wm_ 253 (by decide +kernel) (by decide +kernel)
theorem k_M_13 : Cond.methodLink cls_M 13 y_M_isLooped ∈ W0 := wm_ 254 (by decide +kernel) (by decide +kernel)
theorem ki_M_isLooped : Cond.instanceMethod y_M_isLooped ∈ W0 := wm_ 255 (by decide +kernel) (by decide +kernel)
theorem ks_M_isLooped : Cond.selects cls_M y_M_isLooped y_M_isLooped ∈ W0 := wm_ 256 (by decide +kernel) (by decide +kernel)
theorem kc_M_isLooped : Cond.code y_M_isLooped b_M_isLooped 1 (some .boolean) ∈ W0 := wm_ 257 (by decide +kernel) (by decide +kernel)
theorem k_L_18 : Cond.methodLink cls_L 18 y_F_write ∈ W0 := wm_ 258 (by decide +kernel) (by decide +kernel)
theorem ki_F_write : Cond.instanceMethod y_F_write ∈ W0 := wm_ 259 (by decide +kernel) (by decide +kernel)
theorem ks_F_write : Cond.selects cls_F y_F_write y_F_write ∈ W0 := wm_ 260 (by decide +kernel) (by decide +kernel)
theorem kc_F_write : Cond.code y_F_write b_F_write 3 (some .boolean) ∈ W0 := wm_ 261 (by decide +kernel) (by decide +kernel)
theorem k_F_33 : Cond.methodLink cls_F 33 y_P_store ∈ W0 := wm_ 262 (by decide +kernel) (by decide +kernel)
theorem ki_P_store : Cond.instanceMethod y_P_store ∈ W0 := wm_ 263 (by decide +kernel) (by decide +kernel)
theorem ks_P_store : Cond.selects cls_P y_P_store y_P_store ∈ W0 := wm_ 264 (by decide +kernel) (by decide +kernel)
theorem kc_P_store : Cond.code y_P_store b_P_store 4 none ∈ W0 := wm_ 265 (by decide +kernel) (by decide +kernel)
theorem k_P_74 : Cond.methodLink cls_P 74 y_P_storeData ∈ W0 := wm_ 266 (by decide +kernel) (by decide +kernel)
theorem ki_P_storeData : Cond.instanceMethod y_P_storeData ∈ W0 := wm_ 267 (by decide +kernel) (by decide +kernel)
theorem ks_P_storeData : Cond.selects cls_P y_P_storeData y_P_storeData ∈ W0 := wm_ 268 (by decide +kernel) (by decide +kernel)
theorem kc_P_storeData : Cond.code y_P_storeData b_P_storeData 2 none ∈ W0 := wm_ 269 (by decide +kernel) (by decide +kernel)
theorem k_P_127 : Cond.methodLink cls_P 127 y_R_append ∈ W0 := wm_ 270 (by decide +kernel) (by decide +kernel)
theorem ki_R_append : Cond.instanceMethod y_R_append ∈ W0 := wm_ 271 (by decide +kernel) (by decide +kernel)
theorem ks_R_append : Cond.selects cls_R y_R_append y_R_append ∈ W0 := wm_ 272 (by decide +kernel) (by decide +kernel)
theorem kc_R_append : Cond.code y_R_append b_R_append 2 none ∈ W0 := wm_ 273 (by decide +kernel) (by decide +kernel)
theorem k_P_130 : Cond.methodLink cls_P 130 y_P_moveIfPossible ∈ W0 := wm_ 274 (by decide +kernel) (by decide +kernel)
theorem ki_P_moveIfPossible : Cond.instanceMethod y_P_moveIfPossible ∈ W0 := wm_ 275 (by decide +kernel) (by decide +kernel)
theorem ks_P_moveIfPossible : Cond.selects cls_P y_P_moveIfPossible y_P_moveIfPossible ∈ W0 := wm_ 276 (by decide +kernel) (by decide +kernel)
theorem kc_P_moveIfPossible : Cond.code y_P_moveIfPossible b_P_moveIfPossible 1 none ∈ W0 := wm_ 277 (by decide +kernel) (by decide +kernel)
theorem k_P_77 : Cond.methodLink cls_P 77 y_P_storeEnabled ∈ W0 := wm_ 278 (by decide +kernel) (by decide +kernel)
theorem ki_P_storeEnabled : Cond.instanceMethod y_P_storeEnabled ∈ W0 := wm_ 279 (by decide +kernel) (by decide +kernel)
theorem ks_P_storeEnabled : Cond.selects cls_P y_P_storeEnabled y_P_storeEnabled ∈ W0 := wm_ 280 (by decide +kernel) (by decide +kernel)
theorem kc_P_storeEnabled : Cond.code y_P_storeEnabled b_P_storeEnabled 3 none ∈ W0 := wm_ 281 (by decide +kernel) (by decide +kernel)
theorem k_P_80 : Cond.methodLink cls_P 80 y_P_storeQueueing ∈ W0 := wm_ 282 (by decide +kernel) (by decide +kernel)
theorem ki_P_storeQueueing : Cond.instanceMethod y_P_storeQueueing ∈ W0 := wm_ 283 (by decide +kernel) (by decide +kernel)
theorem ks_P_storeQueueing : Cond.selects cls_P y_P_storeQueueing y_P_storeQueueing ∈ W0 := wm_ 284 (by decide +kernel) (by decide +kernel)
theorem kc_P_storeQueueing : Cond.code y_P_storeQueueing b_P_storeQueueing 5 none ∈ W0 := wm_ 285 (by decide +kernel) (by decide +kernel)
theorem k_P_133 : Cond.methodLink cls_P 133 y_R_clear ∈ W0 := wm_ 286 (by decide +kernel) (by decide +kernel)
theorem ki_R_clear : Cond.instanceMethod y_R_clear ∈ W0 := wm_ 287 (by decide +kernel) (by decide +kernel)
theorem ks_R_clear : Cond.selects cls_R y_R_clear y_R_clear ∈ W0 := wm_ 288 (by decide +kernel) (by decide +kernel)
theorem kc_R_clear : Cond.code y_R_clear b_R_clear 1 none ∈ W0 := wm_ 289 (by decide +kernel) (by decide +kernel)
theorem k_P_139 : Cond.fieldLink cls_P 139 cls_P "LEVELS" "[I" ∈ W0 := wm_ 290 (by decide +kernel) (by decide +kernel)
theorem k_P_83 : Cond.methodLink cls_P 83 y_M_setControl ∈ W0 := wm_ 292 (by decide +kernel) (by decide +kernel)
theorem ki_M_setControl : Cond.instanceMethod y_M_setControl ∈ W0 := wm_ 293 (by decide +kernel) (by decide +kernel)
theorem ks_M_setControl : Cond.selects cls_M y_M_setControl y_M_setControl ∈ W0 := wm_ 294 (by decide +kernel) (by decide +kernel)
theorem kc_M_setControl : Cond.code y_M_setControl b_M_setControl 3 none ∈ W0 := wm_ 295 (by decide +kernel) (by decide +kernel)
theorem k_M_24 : Cond.methodLink cls_M 24 y_M_noteChanges ∈ W0 := wm_ 296 (by decide +kernel) (by decide +kernel)
theorem ki_M_noteChanges : Cond.instanceMethod y_M_noteChanges ∈ W0 := wm_ 297 (by decide +kernel) (by decide +kernel)
theorem ks_M_noteChanges : Cond.selects cls_M y_M_noteChanges y_M_noteChanges ∈ W0 := wm_ 298 (by decide +kernel) (by decide +kernel)
theorem kc_M_noteChanges : Cond.code y_M_noteChanges b_M_noteChanges 3 none ∈ W0 := wm_ 299 (by decide +kernel) (by decide +kernel)
theorem k_L_23 : Cond.methodLink cls_L 23 y_F_wire ∈ W0 := wm_ 300 (by decide +kernel) (by decide +kernel)
theorem ki_F_wire : Cond.instanceMethod y_F_wire ∈ W0 := wm_ 301 (by decide +kernel) (by decide +kernel)
theorem ks_F_wire : Cond.selects cls_F y_F_wire y_F_wire ∈ W0 := wm_ 302 (by decide +kernel) (by decide +kernel)
theorem kc_F_wire : Cond.code y_F_wire b_F_wire 3 (some .boolean) ∈ W0 := wm_ 303 (by decide +kernel) (by decide +kernel)
theorem k_F_41 : Cond.methodLink cls_F 41 y_M_isLooped ∈ W0 := wm_ 304 (by decide +kernel) (by decide +kernel)
theorem k_F_47 : Cond.methodLink cls_F 47 y_P_arrive ∈ W0 := wm_ 305 (by decide +kernel) (by decide +kernel)
theorem ki_P_arrive : Cond.instanceMethod y_P_arrive ∈ W0 := wm_ 306 (by decide +kernel) (by decide +kernel)
theorem ks_P_arrive : Cond.selects cls_P y_P_arrive y_P_arrive ∈ W0 := wm_ 307 (by decide +kernel) (by decide +kernel)
theorem kc_P_arrive : Cond.code y_P_arrive b_P_arrive 4 none ∈ W0 := wm_ 308 (by decide +kernel) (by decide +kernel)
theorem k_P_146 : Cond.methodLink cls_P 146 y_R_isFull ∈ W0 := wm_ 309 (by decide +kernel) (by decide +kernel)
theorem ki_R_isFull : Cond.instanceMethod y_R_isFull ∈ W0 := wm_ 310 (by decide +kernel) (by decide +kernel)
theorem ks_R_isFull : Cond.selects cls_R y_R_isFull y_R_isFull ∈ W0 := wm_ 311 (by decide +kernel) (by decide +kernel)
theorem kc_R_isFull : Cond.code y_R_isFull b_R_isFull 1 (some .boolean) ∈ W0 := wm_ 312 (by decide +kernel) (by decide +kernel)
theorem k_L_27 : Cond.methodLink cls_L 27 y_F_tick ∈ W0 := wm_ 313 (by decide +kernel) (by decide +kernel)
theorem ki_F_tick : Cond.instanceMethod y_F_tick ∈ W0 := wm_ 314 (by decide +kernel) (by decide +kernel)
theorem ks_F_tick : Cond.selects cls_F y_F_tick y_F_tick ∈ W0 := wm_ 315 (by decide +kernel) (by decide +kernel)
theorem kc_F_tick : Cond.code y_F_tick b_F_tick 4 (some .int) ∈ W0 := wm_ 316 (by decide +kernel) (by decide +kernel)
theorem k_F_50 : Cond.methodLink cls_F 50 y_P_passTick ∈ W0 := wm_ 317 (by decide +kernel) (by decide +kernel)
theorem ki_P_passTick : Cond.instanceMethod y_P_passTick ∈ W0 := wm_ 318 (by decide +kernel) (by decide +kernel)
theorem ks_P_passTick : Cond.selects cls_P y_P_passTick y_P_passTick ∈ W0 := wm_ 319 (by decide +kernel) (by decide +kernel)
theorem kc_P_passTick : Cond.code y_P_passTick b_P_passTick 2 (some .boolean) ∈ W0 := wm_ 320 (by decide +kernel) (by decide +kernel)
theorem k_P_149 : Cond.methodLink cls_P 149 y_P_sendOff ∈ W0 := wm_ 321 (by decide +kernel) (by decide +kernel)
theorem ki_P_sendOff : Cond.instanceMethod y_P_sendOff ∈ W0 := wm_ 322 (by decide +kernel) (by decide +kernel)
theorem ks_P_sendOff : Cond.selects cls_P y_P_sendOff y_P_sendOff ∈ W0 := wm_ 323 (by decide +kernel) (by decide +kernel)
theorem kc_P_sendOff : Cond.code y_P_sendOff b_P_sendOff 2 none ∈ W0 := wm_ 324 (by decide +kernel) (by decide +kernel)
theorem k_P_152 : Cond.methodLink cls_P 152 y_M_isLooped ∈ W0 := wm_ 325 (by decide +kernel) (by decide +kernel)
theorem k_P_155 : Cond.methodLink cls_P 155 y_P_arrive ∈ W0 := wm_ 326 (by decide +kernel) (by decide +kernel)
theorem k_P_159 : Cond.methodLink cls_P 159 y_S_add ∈ W0 := wm_ 327 (by decide +kernel) (by decide +kernel)
theorem ki_S_add : Cond.instanceMethod y_S_add ∈ W0 := wm_ 328 (by decide +kernel) (by decide +kernel)
theorem ks_S_add : Cond.selects cls_S y_S_add y_S_add ∈ W0 := wm_ 329 (by decide +kernel) (by decide +kernel)
theorem kc_S_add : Cond.code y_S_add b_S_add 2 none ∈ W0 := wm_ 330 (by decide +kernel) (by decide +kernel)
theorem k_L_31 : Cond.methodLink cls_L 31 y_F_lines ∈ W0 := wm_ 331 (by decide +kernel) (by decide +kernel)
theorem ki_F_lines : Cond.instanceMethod y_F_lines ∈ W0 := wm_ 332 (by decide +kernel) (by decide +kernel)
theorem ks_F_lines : Cond.selects cls_F y_F_lines y_F_lines ∈ W0 := wm_ 333 (by decide +kernel) (by decide +kernel)
theorem kc_F_lines : Cond.code y_F_lines b_F_lines 2 none ∈ W0 := wm_ 334 (by decide +kernel) (by decide +kernel)
theorem k_F_53 : Cond.methodLink cls_F 53 y_M_setLines ∈ W0 := wm_ 335 (by decide +kernel) (by decide +kernel)
theorem ki_M_setLines : Cond.instanceMethod y_M_setLines ∈ W0 := wm_ 336 (by decide +kernel) (by decide +kernel)
theorem ks_M_setLines : Cond.selects cls_M y_M_setLines y_M_setLines ∈ W0 := wm_ 337 (by decide +kernel) (by decide +kernel)
theorem kc_M_setLines : Cond.code y_M_setLines b_M_setLines 3 none ∈ W0 := wm_ 338 (by decide +kernel) (by decide +kernel)
theorem k_L_36 : Cond.methodLink cls_L 36 y_F_sent ∈ W0 := wm_ 339 (by decide +kernel) (by decide +kernel)
theorem ki_F_sent : Cond.instanceMethod y_F_sent ∈ W0 := wm_ 340 (by decide +kernel) (by decide +kernel)
theorem ks_F_sent : Cond.selects cls_F y_F_sent y_F_sent ∈ W0 := wm_ 341 (by decide +kernel) (by decide +kernel)
theorem kc_F_sent : Cond.code y_F_sent b_F_sent 2 (some .int) ∈ W0 := wm_ 342 (by decide +kernel) (by decide +kernel)
theorem k_F_61 : Cond.methodLink cls_F 61 y_S_backFromLatest ∈ W0 := wm_ 343 (by decide +kernel) (by decide +kernel)
theorem ki_S_backFromLatest : Cond.instanceMethod y_S_backFromLatest ∈ W0 := wm_ 344 (by decide +kernel) (by decide +kernel)
theorem ks_S_backFromLatest : Cond.selects cls_S y_S_backFromLatest y_S_backFromLatest ∈ W0 := wm_ 345 (by decide +kernel) (by decide +kernel)
theorem kc_S_backFromLatest : Cond.code y_S_backFromLatest b_S_backFromLatest 2 (some .int) ∈ W0 := wm_ 346 (by decide +kernel) (by decide +kernel)
theorem k_L_40 : Cond.methodLink cls_L 40 y_F_total ∈ W0 := wm_ 347 (by decide +kernel) (by decide +kernel)
theorem ki_F_total : Cond.instanceMethod y_F_total ∈ W0 := wm_ 348 (by decide +kernel) (by decide +kernel)
theorem ks_F_total : Cond.selects cls_F y_F_total y_F_total ∈ W0 := wm_ 349 (by decide +kernel) (by decide +kernel)
theorem kc_F_total : Cond.code y_F_total b_F_total 1 (some .int) ∈ W0 := wm_ 350 (by decide +kernel) (by decide +kernel)
theorem k_L_45 : Cond.methodLink cls_L 45 y_F_cause ∈ W0 := wm_ 351 (by decide +kernel) (by decide +kernel)
theorem ki_F_cause : Cond.instanceMethod y_F_cause ∈ W0 := wm_ 352 (by decide +kernel) (by decide +kernel)
theorem ks_F_cause : Cond.selects cls_F y_F_cause y_F_cause ∈ W0 := wm_ 353 (by decide +kernel) (by decide +kernel)
theorem kc_F_cause : Cond.code y_F_cause b_F_cause 1 (some .int) ∈ W0 := wm_ 354 (by decide +kernel) (by decide +kernel)
theorem k_F_70 : Cond.methodLink cls_F 70 y_P_findCause ∈ W0 := wm_ 355 (by decide +kernel) (by decide +kernel)
theorem k_L_49 : Cond.methodLink cls_L 49 y_F_start ∈ W0 := wm_ 356 (by decide +kernel) (by decide +kernel)
theorem ki_F_start : Cond.instanceMethod y_F_start ∈ W0 := wm_ 357 (by decide +kernel) (by decide +kernel)
theorem ks_F_start : Cond.selects cls_F y_F_start y_F_start ∈ W0 := wm_ 358 (by decide +kernel) (by decide +kernel)
theorem kc_F_start : Cond.code y_F_start b_F_start 1 none ∈ W0 := wm_ 359 (by decide +kernel) (by decide +kernel)
theorem k_F_74 : Cond.methodLink cls_F 74 y_D_begin ∈ W0 := wm_ 360 (by decide +kernel) (by decide +kernel)
theorem ki_D_begin : Cond.instanceMethod y_D_begin ∈ W0 := wm_ 361 (by decide +kernel) (by decide +kernel)
theorem ks_D_begin : Cond.selects cls_D y_D_begin y_D_begin ∈ W0 := wm_ 362 (by decide +kernel) (by decide +kernel)
theorem kc_D_begin : Cond.code y_D_begin b_D_begin 1 none ∈ W0 := wm_ 363 (by decide +kernel) (by decide +kernel)
theorem k_D_31 : Cond.methodLink cls_D 31 y_R_clear ∈ W0 := wm_ 364 (by decide +kernel) (by decide +kernel)
theorem k_D_41 : Cond.methodLink cls_D 41 y_P_store ∈ W0 := wm_ 365 (by decide +kernel) (by decide +kernel)
theorem k_L_53 : Cond.methodLink cls_L 53 y_F_accept ∈ W0 := wm_ 366 (by decide +kernel) (by decide +kernel)
theorem ki_F_accept : Cond.instanceMethod y_F_accept ∈ W0 := wm_ 367 (by decide +kernel) (by decide +kernel)
theorem ks_F_accept : Cond.selects cls_F y_F_accept y_F_accept ∈ W0 := wm_ 368 (by decide +kernel) (by decide +kernel)
theorem kc_F_accept : Cond.code y_F_accept b_F_accept 2 (some .boolean) ∈ W0 := wm_ 369 (by decide +kernel) (by decide +kernel)
theorem k_F_77 : Cond.methodLink cls_F 77 y_D_queueForth ∈ W0 := wm_ 370 (by decide +kernel) (by decide +kernel)
theorem ki_D_queueForth : Cond.instanceMethod y_D_queueForth ∈ W0 := wm_ 371 (by decide +kernel) (by decide +kernel)
theorem ks_D_queueForth : Cond.selects cls_D y_D_queueForth y_D_queueForth ∈ W0 := wm_ 372 (by decide +kernel) (by decide +kernel)
theorem kc_D_queueForth : Cond.code y_D_queueForth b_D_queueForth 2 (some .boolean) ∈ W0 := wm_ 373 (by decide +kernel) (by decide +kernel)
theorem k_D_47 : Cond.methodLink cls_D 47 y_R_isFull ∈ W0 := wm_ 374 (by decide +kernel) (by decide +kernel)
theorem k_D_51 : Cond.methodLink cls_D 51 y_R_append ∈ W0 := wm_ 375 (by decide +kernel) (by decide +kernel)
theorem k_D_54 : Cond.methodLink cls_D 54 y_D_wake ∈ W0 := wm_ 376 (by decide +kernel) (by decide +kernel)
theorem ki_D_wake : Cond.instanceMethod y_D_wake ∈ W0 := wm_ 377 (by decide +kernel) (by decide +kernel)
theorem ks_D_wake : Cond.selects cls_D y_D_wake y_D_wake ∈ W0 := wm_ 378 (by decide +kernel) (by decide +kernel)
theorem kc_D_wake : Cond.code y_D_wake b_D_wake 1 none ∈ W0 := wm_ 379 (by decide +kernel) (by decide +kernel)
theorem k_D_64 : Cond.methodLink cls_D 64 y_P_load ∈ W0 := wm_ 380 (by decide +kernel) (by decide +kernel)
theorem k_L_58 : Cond.methodLink cls_L 58 y_F_take ∈ W0 := wm_ 381 (by decide +kernel) (by decide +kernel)
theorem ki_F_take : Cond.instanceMethod y_F_take ∈ W0 := wm_ 382 (by decide +kernel) (by decide +kernel)
theorem ks_F_take : Cond.selects cls_F y_F_take y_F_take ∈ W0 := wm_ 383 (by decide +kernel) (by decide +kernel)
theorem kc_F_take : Cond.code y_F_take b_F_take 1 (some .int) ∈ W0 := wm_ 384 (by decide +kernel) (by decide +kernel)
theorem k_F_80 : Cond.methodLink cls_F 80 y_D_takeBack ∈ W0 := wm_ 385 (by decide +kernel) (by decide +kernel)
theorem ki_D_takeBack : Cond.instanceMethod y_D_takeBack ∈ W0 := wm_ 386 (by decide +kernel) (by decide +kernel)
theorem ks_D_takeBack : Cond.selects cls_D y_D_takeBack y_D_takeBack ∈ W0 := wm_ 387 (by decide +kernel) (by decide +kernel)
theorem kc_D_takeBack : Cond.code y_D_takeBack b_D_takeBack 2 (some .int) ∈ W0 := wm_ 388 (by decide +kernel) (by decide +kernel)
theorem k_D_60 : Cond.methodLink cls_D 60 y_R_removeOldest ∈ W0 := wm_ 389 (by decide +kernel) (by decide +kernel)
theorem k_L_62 : Cond.methodLink cls_L 62 y_F_service ∈ W0 := wm_ 390 (by decide +kernel) (by decide +kernel)
theorem ki_F_service : Cond.instanceMethod y_F_service ∈ W0 := wm_ 391 (by decide +kernel) (by decide +kernel)
theorem ks_F_service : Cond.selects cls_F y_F_service y_F_service ∈ W0 := wm_ 392 (by decide +kernel) (by decide +kernel)
theorem kc_F_service : Cond.code y_F_service b_F_service 2 (some .int) ∈ W0 := wm_ 393 (by decide +kernel) (by decide +kernel)
theorem k_F_83 : Cond.methodLink cls_F 83 y_D_runRound ∈ W0 := wm_ 394 (by decide +kernel) (by decide +kernel)
theorem ki_D_runRound : Cond.instanceMethod y_D_runRound ∈ W0 := wm_ 395 (by decide +kernel) (by decide +kernel)
theorem ks_D_runRound : Cond.selects cls_D y_D_runRound y_D_runRound ∈ W0 := wm_ 396 (by decide +kernel) (by decide +kernel)
theorem kc_D_runRound : Cond.code y_D_runRound b_D_runRound 1 (some .boolean) ∈ W0 := wm_ 397 (by decide +kernel) (by decide +kernel)
theorem k_D_68 : Cond.methodLink cls_D 68 y_D_readStatus ∈ W0 := wm_ 398 (by decide +kernel) (by decide +kernel)
theorem ki_D_readStatus : Cond.instanceMethod y_D_readStatus ∈ W0 := wm_ 399 (by decide +kernel) (by decide +kernel)
theorem ks_D_readStatus : Cond.selects cls_D y_D_readStatus y_D_readStatus ∈ W0 := wm_ 400 (by decide +kernel) (by decide +kernel)
theorem kc_D_readStatus : Cond.code y_D_readStatus b_D_readStatus 2 (some .int) ∈ W0 := wm_ 401 (by decide +kernel) (by decide +kernel)
theorem k_D_71 : Cond.methodLink cls_D 71 y_D_receive ∈ W0 := wm_ 402 (by decide +kernel) (by decide +kernel)
theorem ki_D_receive : Cond.instanceMethod y_D_receive ∈ W0 := wm_ 403 (by decide +kernel) (by decide +kernel)
theorem ks_D_receive : Cond.selects cls_D y_D_receive y_D_receive ∈ W0 := wm_ 404 (by decide +kernel) (by decide +kernel)
theorem kc_D_receive : Cond.code y_D_receive b_D_receive 3 none ∈ W0 := wm_ 405 (by decide +kernel) (by decide +kernel)
theorem k_D_80 : Cond.methodLink cls_D 80 y_D_handle ∈ W0 := wm_ 406 (by decide +kernel) (by decide +kernel)
theorem ki_D_handle : Cond.instanceMethod y_D_handle ∈ W0 := wm_ 407 (by decide +kernel) (by decide +kernel)
theorem ks_D_handle : Cond.selects cls_D y_D_handle y_D_handle ∈ W0 := wm_ 408 (by decide +kernel) (by decide +kernel)
theorem kc_D_handle : Cond.code y_D_handle b_D_handle 2 none ∈ W0 := wm_ 409 (by decide +kernel) (by decide +kernel)
theorem k_D_74 : Cond.methodLink cls_D 74 y_D_transmit ∈ W0 := wm_ 410 (by decide +kernel) (by decide +kernel)
theorem ki_D_transmit : Cond.instanceMethod y_D_transmit ∈ W0 := wm_ 411 (by decide +kernel) (by decide +kernel)
theorem ks_D_transmit : Cond.selects cls_D y_D_transmit y_D_transmit ∈ W0 := wm_ 412 (by decide +kernel) (by decide +kernel)
theorem kc_D_transmit : Cond.code y_D_transmit b_D_transmit 2 none ∈ W0 := wm_ 413 (by decide +kernel) (by decide +kernel)
theorem k_L_66 : Cond.methodLink cls_L 66 y_F_count ∈ W0 := wm_ 414 (by decide +kernel) (by decide +kernel)
theorem ki_F_count : Cond.instanceMethod y_F_count ∈ W0 := wm_ 415 (by decide +kernel) (by decide +kernel)
theorem ks_F_count : Cond.selects cls_F y_F_count y_F_count ∈ W0 := wm_ 416 (by decide +kernel) (by decide +kernel)
theorem kc_F_count : Cond.code y_F_count b_F_count 2 (some .int) ∈ W0 := wm_ 417 (by decide +kernel) (by decide +kernel)
theorem k_L_70 : Cond.methodLink cls_L 70 y_F_flow ∈ W0 := wm_ 418 (by decide +kernel) (by decide +kernel)
theorem ki_F_flow : Cond.instanceMethod y_F_flow ∈ W0 := wm_ 419 (by decide +kernel) (by decide +kernel)
theorem ks_F_flow : Cond.selects cls_F y_F_flow y_F_flow ∈ W0 := wm_ 420 (by decide +kernel) (by decide +kernel)
theorem kc_F_flow : Cond.code y_F_flow b_F_flow 1 (some .int) ∈ W0 := wm_ 421 (by decide +kernel) (by decide +kernel)
theorem k_F_102 : Cond.methodLink cls_F 102 y_D_flowBits ∈ W0 := wm_ 422 (by decide +kernel) (by decide +kernel)
theorem ki_D_flowBits : Cond.instanceMethod y_D_flowBits ∈ W0 := wm_ 423 (by decide +kernel) (by decide +kernel)
theorem ks_D_flowBits : Cond.selects cls_D y_D_flowBits y_D_flowBits ∈ W0 := wm_ 424 (by decide +kernel) (by decide +kernel)
theorem kc_D_flowBits : Cond.code y_D_flowBits b_D_flowBits 2 (some .int) ∈ W0 := wm_ 425 (by decide +kernel) (by decide +kernel)
theorem k_L_74 : Cond.methodLink cls_L 74 y_F_lost ∈ W0 := wm_ 426 (by decide +kernel) (by decide +kernel)
theorem ki_F_lost : Cond.instanceMethod y_F_lost ∈ W0 := wm_ 427 (by decide +kernel) (by decide +kernel)
theorem ks_F_lost : Cond.selects cls_F y_F_lost y_F_lost ∈ W0 := wm_ 428 (by decide +kernel) (by decide +kernel)
theorem kc_F_lost : Cond.code y_F_lost b_F_lost 1 (some .int) ∈ W0 := wm_ 429 (by decide +kernel) (by decide +kernel)
theorem k_L_78 : Cond.methodLink cls_L 78 y_F_left ∈ W0 := wm_ 430 (by decide +kernel) (by decide +kernel)
theorem ki_F_left : Cond.instanceMethod y_F_left ∈ W0 := wm_ 431 (by decide +kernel) (by decide +kernel)
theorem ks_F_left : Cond.selects cls_F y_F_left y_F_left ∈ W0 := wm_ 432 (by decide +kernel) (by decide +kernel)
theorem kc_F_left : Cond.code y_F_left b_F_left 1 (some .int) ∈ W0 := wm_ 433 (by decide +kernel) (by decide +kernel)
theorem k_L_10 : Cond.classLink cls_L 10 cls_T ∈ W0 := wm_ 434 (by decide +kernel) (by decide +kernel)
theorem kx_T : Cond.instantiable cls_T 25 ∈ W0 := wm_ 435 (by decide +kernel) (by decide +kernel)
theorem k_L_12 : Cond.methodLink cls_L 12 y_T_init ∈ W0 := wm_ 436 (by decide +kernel) (by decide +kernel)
theorem ki_T_init : Cond.instanceMethod y_T_init ∈ W0 := wm_ 437 (by decide +kernel) (by decide +kernel)
theorem kc_T_init : Cond.code y_T_init b_T_init 1 none ∈ W0 := wm_ 438 (by decide +kernel) (by decide +kernel)
theorem k_T_1 : Cond.methodLink cls_T 1 objectInit ∈ W0 := wm_ 439 (by decide +kernel) (by decide +kernel)
theorem k_T_7 : Cond.fieldLink cls_T 7 cls_T "rows" "[I" ∈ W0 := wm_ 440 (by decide +kernel) (by decide +kernel)
theorem k_T_13 : Cond.fieldLink cls_T 13 cls_T "sizes" "[I" ∈ W0 := wm_ 441 (by decide +kernel) (by decide +kernel)
theorem k_T_16 : Cond.fieldLink cls_T 16 cls_T "faults" "[I" ∈ W0 := wm_ 442 (by decide +kernel) (by decide +kernel)
theorem k_T_67 : Cond.fieldLink cls_T 67 cls_T "ticks" "I" ∈ W0 := wm_ 443 (by decide +kernel) (by decide +kernel)
theorem k_T_57 : Cond.fieldLink cls_T 57 cls_T "due" "I" ∈ W0 := wm_ 444 (by decide +kernel) (by decide +kernel)
theorem k_T_64 : Cond.fieldLink cls_T 64 cls_T "sending" "I" ∈ W0 := wm_ 445 (by decide +kernel) (by decide +kernel)
theorem k_T_76 : Cond.fieldLink cls_T 76 cls_T "heard" "I" ∈ W0 := wm_ 446 (by decide +kernel) (by decide +kernel)
theorem k_T_19 : Cond.fieldLink cls_T 19 cls_T "level" "I" ∈ W0 := wm_ 447 (by decide +kernel) (by decide +kernel)
theorem k_T_108 : Cond.fieldLink cls_T 108 cls_T "enabled" "I" ∈ W0 := wm_ 448 (by decide +kernel) (by decide +kernel)
theorem k_T_92 : Cond.fieldLink cls_T 92 cls_T "format" "I" ∈ W0 := wm_ 449 (by decide +kernel) (by decide +kernel)
theorem k_T_36 : Cond.fieldLink cls_T 36 cls_T "control" "I" ∈ W0 := wm_ 450 (by decide +kernel) (by decide +kernel)
theorem k_T_126 : Cond.fieldLink cls_T 126 cls_T "spare" "I" ∈ W0 := wm_ 451 (by decide +kernel) (by decide +kernel)
theorem k_T_23 : Cond.fieldLink cls_T 23 cls_T "low" "I" ∈ W0 := wm_ 452 (by decide +kernel) (by decide +kernel)
theorem k_T_33 : Cond.fieldLink cls_T 33 cls_T "high" "I" ∈ W0 := wm_ 453 (by decide +kernel) (by decide +kernel)
theorem k_T_86 : Cond.fieldLink cls_T 86 cls_T "overrun" "Z" ∈ W0 := wm_ 454 (by decide +kernel) (by decide +kernel)
theorem k_T_73 : Cond.fieldLink cls_T 73 cls_T "vacated" "Z" ∈ W0 := wm_ 455 (by decide +kernel) (by decide +kernel)
theorem k_T_29 : Cond.fieldLink cls_T 29 cls_T "queued" "Z" ∈ W0 := wm_ 456 (by decide +kernel) (by decide +kernel)
theorem k_T_47 : Cond.fieldLink cls_T 47 cls_T "given" "I" ∈ W0 := wm_ 457 (by decide +kernel) (by decide +kernel)
theorem k_T_54 : Cond.fieldLink cls_T 54 cls_T "changes" "I" ∈ W0 := wm_ 458 (by decide +kernel) (by decide +kernel)
theorem k_T_95 : Cond.fieldLink cls_T 95 cls_T "total" "I" ∈ W0 := wm_ 459 (by decide +kernel) (by decide +kernel)
theorem k_T_26 : Cond.fieldLink cls_T 26 cls_T "last" "[I" ∈ W0 := wm_ 460 (by decide +kernel) (by decide +kernel)
theorem k_T_144 : Cond.fieldLink cls_T 144 cls_T "held" "Z" ∈ W0 := wm_ 461 (by decide +kernel) (by decide +kernel)
theorem k_T_147 : Cond.fieldLink cls_T 147 cls_T "asked" "Z" ∈ W0 := wm_ 462 (by decide +kernel) (by decide +kernel)
theorem k_T_150 : Cond.fieldLink cls_T 150 cls_T "urgent" "I" ∈ W0 := wm_ 463 (by decide +kernel) (by decide +kernel)
theorem k_T_156 : Cond.fieldLink cls_T 156 cls_T "lost" "I" ∈ W0 := wm_ 464 (by decide +kernel) (by decide +kernel)
theorem k_L_26 : Cond.methodLink cls_L 26 y_T_wire ∈ W0 := wm_ 516 (by decide +kernel) (by decide +kernel)
theorem ki_T_wire : Cond.instanceMethod y_T_wire ∈ W0 := wm_ 517 (by decide +kernel) (by decide +kernel)
theorem ks_T_wire : Cond.selects cls_T y_T_wire y_T_wire ∈ W0 := wm_ 518 (by decide +kernel) (by decide +kernel)
theorem kc_T_wire : Cond.code y_T_wire b_T_wire 3 (some .boolean) ∈ W0 := wm_ 519 (by decide +kernel) (by decide +kernel)
theorem k_T_43 : Cond.methodLink cls_T 43 y_T_loops ∈ W0 := wm_ 520 (by decide +kernel) (by decide +kernel)
theorem ki_T_loops : Cond.instanceMethod y_T_loops ∈ W0 := wm_ 522 (by decide +kernel) (by decide +kernel)
theorem kc_T_loops : Cond.code y_T_loops b_T_loops 1 (some .boolean) ∈ W0 := wm_ 523 (by decide +kernel) (by decide +kernel)
theorem k_T_39 : Cond.methodLink cls_T 39 y_T_isOn ∈ W0 := wm_ 524 (by decide +kernel) (by decide +kernel)
theorem ki_T_isOn : Cond.instanceMethod y_T_isOn ∈ W0 := wm_ 526 (by decide +kernel) (by decide +kernel)
theorem kc_T_isOn : Cond.code y_T_isOn b_T_isOn 3 (some .boolean) ∈ W0 := wm_ 527 (by decide +kernel) (by decide +kernel)
theorem k_T_89 : Cond.methodLink cls_T 89 y_T_arrive ∈ W0 := wm_ 528 (by decide +kernel) (by decide +kernel)
theorem ki_T_arrive : Cond.instanceMethod y_T_arrive ∈ W0 := wm_ 530 (by decide +kernel) (by decide +kernel)
theorem kc_T_arrive : Cond.code y_T_arrive b_T_arrive 3 none ∈ W0 := wm_ 531 (by decide +kernel) (by decide +kernel)
theorem k_T_79 : Cond.methodLink cls_T 79 y_T_places ∈ W0 := wm_ 532 (by decide +kernel) (by decide +kernel)
theorem ki_T_places : Cond.instanceMethod y_T_places ∈ W0 := wm_ 534 (by decide +kernel) (by decide +kernel)
theorem kc_T_places : Cond.code y_T_places b_T_places 1 (some .int) ∈ W0 := wm_ 535 (by decide +kernel) (by decide +kernel)
theorem k_T_82 : Cond.methodLink cls_T 82 y_T_append ∈ W0 := wm_ 536 (by decide +kernel) (by decide +kernel)
theorem ki_T_append : Cond.instanceMethod y_T_append ∈ W0 := wm_ 538 (by decide +kernel) (by decide +kernel)
theorem kc_T_append : Cond.code y_T_append b_T_append 3 none ∈ W0 := wm_ 539 (by decide +kernel) (by decide +kernel)
theorem k_L_30 : Cond.methodLink cls_L 30 y_T_tick ∈ W0 := wm_ 540 (by decide +kernel) (by decide +kernel)
theorem ki_T_tick : Cond.instanceMethod y_T_tick ∈ W0 := wm_ 541 (by decide +kernel) (by decide +kernel)
theorem ks_T_tick : Cond.selects cls_T y_T_tick y_T_tick ∈ W0 := wm_ 542 (by decide +kernel) (by decide +kernel)
theorem kc_T_tick : Cond.code y_T_tick b_T_tick 4 (some .int) ∈ W0 := wm_ 543 (by decide +kernel) (by decide +kernel)
theorem k_T_98 : Cond.methodLink cls_T 98 y_T_leave ∈ W0 := wm_ 544 (by decide +kernel) (by decide +kernel)
theorem ki_T_leave : Cond.instanceMethod y_T_leave ∈ W0 := wm_ 546 (by decide +kernel) (by decide +kernel)
theorem kc_T_leave : Cond.code y_T_leave b_T_leave 2 (some .int) ∈ W0 := wm_ 547 (by decide +kernel) (by decide +kernel)
theorem k_T_101 : Cond.methodLink cls_T 101 y_T_moveOne ∈ W0 := wm_ 548 (by decide +kernel) (by decide +kernel)
theorem ki_T_moveOne : Cond.instanceMethod y_T_moveOne ∈ W0 := wm_ 550 (by decide +kernel) (by decide +kernel)
theorem kc_T_moveOne : Cond.code y_T_moveOne b_T_moveOne 2 none ∈ W0 := wm_ 551 (by decide +kernel) (by decide +kernel)
theorem k_T_60 : Cond.methodLink cls_T 60 y_T_removeFirst ∈ W0 := wm_ 552 (by decide +kernel) (by decide +kernel)
theorem ki_T_removeFirst : Cond.instanceMethod y_T_removeFirst ∈ W0 := wm_ 554 (by decide +kernel) (by decide +kernel)
theorem kc_T_removeFirst : Cond.code y_T_removeFirst b_T_removeFirst 4 (some .int) ∈ W0 := wm_ 555 (by decide +kernel) (by decide +kernel)
theorem k_T_70 : Cond.methodLink cls_T 70 y_T_span ∈ W0 := wm_ 556 (by decide +kernel) (by decide +kernel)
theorem ki_T_span : Cond.instanceMethod y_T_span ∈ W0 := wm_ 558 (by decide +kernel) (by decide +kernel)
theorem kc_T_span : Cond.code y_T_span b_T_span 2 (some .int) ∈ W0 := wm_ 559 (by decide +kernel) (by decide +kernel)
theorem k_L_35 : Cond.methodLink cls_L 35 y_T_lines ∈ W0 := wm_ 560 (by decide +kernel) (by decide +kernel)
theorem ki_T_lines : Cond.instanceMethod y_T_lines ∈ W0 := wm_ 561 (by decide +kernel) (by decide +kernel)
theorem ks_T_lines : Cond.selects cls_T y_T_lines y_T_lines ∈ W0 := wm_ 562 (by decide +kernel) (by decide +kernel)
theorem kc_T_lines : Cond.code y_T_lines b_T_lines 3 none ∈ W0 := wm_ 563 (by decide +kernel) (by decide +kernel)
theorem k_T_50 : Cond.methodLink cls_T 50 y_T_inputs ∈ W0 := wm_ 564 (by decide +kernel) (by decide +kernel)
theorem ki_T_inputs : Cond.instanceMethod y_T_inputs ∈ W0 := wm_ 566 (by decide +kernel) (by decide +kernel)
theorem kc_T_inputs : Cond.code y_T_inputs b_T_inputs 1 (some .int) ∈ W0 := wm_ 567 (by decide +kernel) (by decide +kernel)
theorem k_T_105 : Cond.methodLink cls_T 105 y_T_noteInputs ∈ W0 := wm_ 568 (by decide +kernel) (by decide +kernel)
theorem ki_T_noteInputs : Cond.instanceMethod y_T_noteInputs ∈ W0 := wm_ 570 (by decide +kernel) (by decide +kernel)
theorem kc_T_noteInputs : Cond.code y_T_noteInputs b_T_noteInputs 5 none ∈ W0 := wm_ 571 (by decide +kernel) (by decide +kernel)
theorem k_L_39 : Cond.methodLink cls_L 39 y_T_sent ∈ W0 := wm_ 572 (by decide +kernel) (by decide +kernel)
theorem ki_T_sent : Cond.instanceMethod y_T_sent ∈ W0 := wm_ 573 (by decide +kernel) (by decide +kernel)
theorem ks_T_sent : Cond.selects cls_T y_T_sent y_T_sent ∈ W0 := wm_ 574 (by decide +kernel) (by decide +kernel)
theorem kc_T_sent : Cond.code y_T_sent b_T_sent 2 (some .int) ∈ W0 := wm_ 575 (by decide +kernel) (by decide +kernel)
theorem k_L_44 : Cond.methodLink cls_L 44 y_T_total ∈ W0 := wm_ 576 (by decide +kernel) (by decide +kernel)
theorem ki_T_total : Cond.instanceMethod y_T_total ∈ W0 := wm_ 577 (by decide +kernel) (by decide +kernel)
theorem ks_T_total : Cond.selects cls_T y_T_total y_T_total ∈ W0 := wm_ 578 (by decide +kernel) (by decide +kernel)
theorem kc_T_total : Cond.code y_T_total b_T_total 1 (some .int) ∈ W0 := wm_ 579 (by decide +kernel) (by decide +kernel)
theorem k_L_48 : Cond.methodLink cls_L 48 y_T_cause ∈ W0 := wm_ 580 (by decide +kernel) (by decide +kernel)
theorem ki_T_cause : Cond.instanceMethod y_T_cause ∈ W0 := wm_ 581 (by decide +kernel) (by decide +kernel)
theorem ks_T_cause : Cond.selects cls_T y_T_cause y_T_cause ∈ W0 := wm_ 582 (by decide +kernel) (by decide +kernel)
theorem kc_T_cause : Cond.code y_T_cause b_T_cause 3 (some .int) ∈ W0 := wm_ 583 (by decide +kernel) (by decide +kernel)
theorem k_L_17 : Cond.methodLink cls_L 17 y_T_read ∈ W0 := wm_ 584 (by decide +kernel) (by decide +kernel)
theorem ki_T_read : Cond.instanceMethod y_T_read ∈ W0 := wm_ 585 (by decide +kernel) (by decide +kernel)
theorem ks_T_read : Cond.selects cls_T y_T_read y_T_read ∈ W0 := wm_ 586 (by decide +kernel) (by decide +kernel)
theorem kc_T_read : Cond.code y_T_read b_T_read 3 (some .int) ∈ W0 := wm_ 587 (by decide +kernel) (by decide +kernel)
theorem k_T_114 : Cond.methodLink cls_T 114 y_T_takeIn ∈ W0 := wm_ 588 (by decide +kernel) (by decide +kernel)
theorem ki_T_takeIn : Cond.instanceMethod y_T_takeIn ∈ W0 := wm_ 590 (by decide +kernel) (by decide +kernel)
theorem kc_T_takeIn : Cond.code y_T_takeIn b_T_takeIn 3 (some .int) ∈ W0 := wm_ 591 (by decide +kernel) (by decide +kernel)
theorem k_T_117 : Cond.methodLink cls_T 117 y_T_readCause ∈ W0 := wm_ 592 (by decide +kernel) (by decide +kernel)
theorem ki_T_readCause : Cond.instanceMethod y_T_readCause ∈ W0 := wm_ 594 (by decide +kernel) (by decide +kernel)
theorem kc_T_readCause : Cond.code y_T_readCause b_T_readCause 2 (some .int) ∈ W0 := wm_ 595 (by decide +kernel) (by decide +kernel)
theorem k_T_111 : Cond.methodLink cls_T 111 y_T_cause ∈ W0 := wm_ 596 (by decide +kernel) (by decide +kernel)
theorem k_T_120 : Cond.methodLink cls_T 120 y_T_readStatus ∈ W0 := wm_ 597 (by decide +kernel) (by decide +kernel)
theorem ki_T_readStatus : Cond.instanceMethod y_T_readStatus ∈ W0 := wm_ 599 (by decide +kernel) (by decide +kernel)
theorem kc_T_readStatus : Cond.code y_T_readStatus b_T_readStatus 4 (some .int) ∈ W0 := wm_ 600 (by decide +kernel) (by decide +kernel)
theorem k_T_123 : Cond.methodLink cls_T 123 y_T_readChanges ∈ W0 := wm_ 601 (by decide +kernel) (by decide +kernel)
theorem ki_T_readChanges : Cond.instanceMethod y_T_readChanges ∈ W0 := wm_ 603 (by decide +kernel) (by decide +kernel)
theorem kc_T_readChanges : Cond.code y_T_readChanges b_T_readChanges 2 (some .int) ∈ W0 := wm_ 604 (by decide +kernel) (by decide +kernel)
theorem k_L_22 : Cond.methodLink cls_L 22 y_T_write ∈ W0 := wm_ 605 (by decide +kernel) (by decide +kernel)
theorem ki_T_write : Cond.instanceMethod y_T_write ∈ W0 := wm_ 606 (by decide +kernel) (by decide +kernel)
theorem ks_T_write : Cond.selects cls_T y_T_write y_T_write ∈ W0 := wm_ 607 (by decide +kernel) (by decide +kernel)
theorem kc_T_write : Cond.code y_T_write b_T_write 6 (some .boolean) ∈ W0 := wm_ 608 (by decide +kernel) (by decide +kernel)
theorem k_T_129 : Cond.methodLink cls_T 129 y_T_writeData ∈ W0 := wm_ 609 (by decide +kernel) (by decide +kernel)
theorem ki_T_writeData : Cond.instanceMethod y_T_writeData ∈ W0 := wm_ 611 (by decide +kernel) (by decide +kernel)
theorem kc_T_writeData : Cond.code y_T_writeData b_T_writeData 2 none ∈ W0 := wm_ 612 (by decide +kernel) (by decide +kernel)
theorem k_T_132 : Cond.methodLink cls_T 132 y_T_writeEnabled ∈ W0 := wm_ 613 (by decide +kernel) (by decide +kernel)
theorem ki_T_writeEnabled : Cond.instanceMethod y_T_writeEnabled ∈ W0 := wm_ 615 (by decide +kernel) (by decide +kernel)
theorem kc_T_writeEnabled : Cond.code y_T_writeEnabled b_T_writeEnabled 3 none ∈ W0 := wm_ 616 (by decide +kernel) (by decide +kernel)
theorem k_T_135 : Cond.methodLink cls_T 135 y_T_writeQueues ∈ W0 := wm_ 617 (by decide +kernel) (by decide +kernel)
theorem ki_T_writeQueues : Cond.instanceMethod y_T_writeQueues ∈ W0 := wm_ 619 (by decide +kernel) (by decide +kernel)
theorem kc_T_writeQueues : Cond.code y_T_writeQueues b_T_writeQueues 6 none ∈ W0 := wm_ 620 (by decide +kernel) (by decide +kernel)
theorem k_L_52 : Cond.methodLink cls_L 52 y_T_start ∈ W0 := wm_ 621 (by decide +kernel) (by decide +kernel)
theorem ki_T_start : Cond.instanceMethod y_T_start ∈ W0 := wm_ 622 (by decide +kernel) (by decide +kernel)
theorem ks_T_start : Cond.selects cls_T y_T_start y_T_start ∈ W0 := wm_ 623 (by decide +kernel) (by decide +kernel)
theorem kc_T_start : Cond.code y_T_start b_T_start 1 none ∈ W0 := wm_ 624 (by decide +kernel) (by decide +kernel)
theorem k_T_141 : Cond.methodLink cls_T 141 y_T_write ∈ W0 := wm_ 625 (by decide +kernel) (by decide +kernel)
theorem k_L_57 : Cond.methodLink cls_L 57 y_T_accept ∈ W0 := wm_ 626 (by decide +kernel) (by decide +kernel)
theorem ki_T_accept : Cond.instanceMethod y_T_accept ∈ W0 := wm_ 627 (by decide +kernel) (by decide +kernel)
theorem ks_T_accept : Cond.selects cls_T y_T_accept y_T_accept ∈ W0 := wm_ 628 (by decide +kernel) (by decide +kernel)
theorem kc_T_accept : Cond.code y_T_accept b_T_accept 2 (some .boolean) ∈ W0 := wm_ 629 (by decide +kernel) (by decide +kernel)
theorem k_T_153 : Cond.methodLink cls_T 153 y_T_wake ∈ W0 := wm_ 630 (by decide +kernel) (by decide +kernel)
theorem ki_T_wake : Cond.instanceMethod y_T_wake ∈ W0 := wm_ 632 (by decide +kernel) (by decide +kernel)
theorem kc_T_wake : Cond.code y_T_wake b_T_wake 2 none ∈ W0 := wm_ 633 (by decide +kernel) (by decide +kernel)
theorem k_T_138 : Cond.methodLink cls_T 138 y_T_read ∈ W0 := wm_ 634 (by decide +kernel) (by decide +kernel)
theorem k_L_61 : Cond.methodLink cls_L 61 y_T_take ∈ W0 := wm_ 635 (by decide +kernel) (by decide +kernel)
theorem ki_T_take : Cond.instanceMethod y_T_take ∈ W0 := wm_ 636 (by decide +kernel) (by decide +kernel)
theorem ks_T_take : Cond.selects cls_T y_T_take y_T_take ∈ W0 := wm_ 637 (by decide +kernel) (by decide +kernel)
theorem kc_T_take : Cond.code y_T_take b_T_take 2 (some .int) ∈ W0 := wm_ 638 (by decide +kernel) (by decide +kernel)
theorem k_L_65 : Cond.methodLink cls_L 65 y_T_service ∈ W0 := wm_ 639 (by decide +kernel) (by decide +kernel)
theorem ki_T_service : Cond.instanceMethod y_T_service ∈ W0 := wm_ 640 (by decide +kernel) (by decide +kernel)
theorem ks_T_service : Cond.selects cls_T y_T_service y_T_service ∈ W0 := wm_ 641 (by decide +kernel) (by decide +kernel)
theorem kc_T_service : Cond.code y_T_service b_T_service 3 (some .int) ∈ W0 := wm_ 642 (by decide +kernel) (by decide +kernel)
theorem k_T_168 : Cond.methodLink cls_T 168 y_T_round ∈ W0 := wm_ 643 (by decide +kernel) (by decide +kernel)
theorem ki_T_round : Cond.instanceMethod y_T_round ∈ W0 := wm_ 645 (by decide +kernel) (by decide +kernel)
theorem kc_T_round : Cond.code y_T_round b_T_round 3 (some .boolean) ∈ W0 := wm_ 646 (by decide +kernel) (by decide +kernel)
theorem k_T_162 : Cond.methodLink cls_T 162 y_T_receive ∈ W0 := wm_ 647 (by decide +kernel) (by decide +kernel)
theorem ki_T_receive : Cond.instanceMethod y_T_receive ∈ W0 := wm_ 649 (by decide +kernel) (by decide +kernel)
theorem kc_T_receive : Cond.code y_T_receive b_T_receive 5 none ∈ W0 := wm_ 650 (by decide +kernel) (by decide +kernel)
theorem k_T_159 : Cond.methodLink cls_T 159 y_T_handle ∈ W0 := wm_ 651 (by decide +kernel) (by decide +kernel)
theorem ki_T_handle : Cond.instanceMethod y_T_handle ∈ W0 := wm_ 653 (by decide +kernel) (by decide +kernel)
theorem kc_T_handle : Cond.code y_T_handle b_T_handle 2 none ∈ W0 := wm_ 654 (by decide +kernel) (by decide +kernel)
theorem k_T_165 : Cond.methodLink cls_T 165 y_T_transmit ∈ W0 := wm_ 655 (by decide +kernel) (by decide +kernel)
theorem ki_T_transmit : Cond.instanceMethod y_T_transmit ∈ W0 := wm_ 657 (by decide +kernel) (by decide +kernel)
theorem kc_T_transmit : Cond.code y_T_transmit b_T_transmit 3 none ∈ W0 := wm_ 658 (by decide +kernel) (by decide +kernel)
theorem k_L_69 : Cond.methodLink cls_L 69 y_T_count ∈ W0 := wm_ 659 (by decide +kernel) (by decide +kernel)
theorem ki_T_count : Cond.instanceMethod y_T_count ∈ W0 := wm_ 660 (by decide +kernel) (by decide +kernel)
theorem ks_T_count : Cond.selects cls_T y_T_count y_T_count ∈ W0 := wm_ 661 (by decide +kernel) (by decide +kernel)
theorem kc_T_count : Cond.code y_T_count b_T_count 2 (some .int) ∈ W0 := wm_ 662 (by decide +kernel) (by decide +kernel)
theorem k_L_73 : Cond.methodLink cls_L 73 y_T_flow ∈ W0 := wm_ 663 (by decide +kernel) (by decide +kernel)
theorem ki_T_flow : Cond.instanceMethod y_T_flow ∈ W0 := wm_ 664 (by decide +kernel) (by decide +kernel)
theorem ks_T_flow : Cond.selects cls_T y_T_flow y_T_flow ∈ W0 := wm_ 665 (by decide +kernel) (by decide +kernel)
theorem kc_T_flow : Cond.code y_T_flow b_T_flow 1 (some .int) ∈ W0 := wm_ 666 (by decide +kernel) (by decide +kernel)
theorem k_L_77 : Cond.methodLink cls_L 77 y_T_lost ∈ W0 := wm_ 667 (by decide +kernel) (by decide +kernel)
theorem ki_T_lost : Cond.instanceMethod y_T_lost ∈ W0 := wm_ 668 (by decide +kernel) (by decide +kernel)
theorem ks_T_lost : Cond.selects cls_T y_T_lost y_T_lost ∈ W0 := wm_ 669 (by decide +kernel) (by decide +kernel)
theorem kc_T_lost : Cond.code y_T_lost b_T_lost 1 (some .int) ∈ W0 := wm_ 670 (by decide +kernel) (by decide +kernel)
theorem k_L_81 : Cond.methodLink cls_L 81 y_T_left ∈ W0 := wm_ 671 (by decide +kernel) (by decide +kernel)
theorem ki_T_left : Cond.instanceMethod y_T_left ∈ W0 := wm_ 672 (by decide +kernel) (by decide +kernel)
theorem ks_T_left : Cond.selects cls_T y_T_left y_T_left ∈ W0 := wm_ 673 (by decide +kernel) (by decide +kernel)
theorem kc_T_left : Cond.code y_T_left b_T_left 1 (some .int) ∈ W0 := wm_ 674 (by decide +kernel) (by decide +kernel)
theorem ks_T_loops : Cond.selects cls_T y_T_loops y_T_loops ∈ W0 := wm_ 0 (by decide +kernel) (by decide +kernel)
theorem ks_T_isOn : Cond.selects cls_T y_T_isOn y_T_isOn ∈ W0 := wm_ 1 (by decide +kernel) (by decide +kernel)
theorem ks_T_arrive : Cond.selects cls_T y_T_arrive y_T_arrive ∈ W0 := wm_ 2 (by decide +kernel) (by decide +kernel)
theorem ks_T_places : Cond.selects cls_T y_T_places y_T_places ∈ W0 := wm_ 3 (by decide +kernel) (by decide +kernel)
theorem ks_T_append : Cond.selects cls_T y_T_append y_T_append ∈ W0 := wm_ 4 (by decide +kernel) (by decide +kernel)
theorem ks_T_leave : Cond.selects cls_T y_T_leave y_T_leave ∈ W0 := wm_ 5 (by decide +kernel) (by decide +kernel)
theorem ks_T_moveOne : Cond.selects cls_T y_T_moveOne y_T_moveOne ∈ W0 := wm_ 6 (by decide +kernel) (by decide +kernel)
theorem ks_T_removeFirst : Cond.selects cls_T y_T_removeFirst y_T_removeFirst ∈ W0 := wm_ 7 (by decide +kernel) (by decide +kernel)
theorem ks_T_span : Cond.selects cls_T y_T_span y_T_span ∈ W0 := wm_ 8 (by decide +kernel) (by decide +kernel)
theorem ks_T_inputs : Cond.selects cls_T y_T_inputs y_T_inputs ∈ W0 := wm_ 9 (by decide +kernel) (by decide +kernel)
theorem ks_T_noteInputs : Cond.selects cls_T y_T_noteInputs y_T_noteInputs ∈ W0 := wm_ 10 (by decide +kernel) (by decide +kernel)
theorem ks_T_takeIn : Cond.selects cls_T y_T_takeIn y_T_takeIn ∈ W0 := wm_ 11 (by decide +kernel) (by decide +kernel)
theorem ks_T_readCause : Cond.selects cls_T y_T_readCause y_T_readCause ∈ W0 := wm_ 12 (by decide +kernel) (by decide +kernel)
theorem ks_T_readStatus : Cond.selects cls_T y_T_readStatus y_T_readStatus ∈ W0 := wm_ 13 (by decide +kernel) (by decide +kernel)
theorem ks_T_readChanges : Cond.selects cls_T y_T_readChanges y_T_readChanges ∈ W0 := wm_ 14 (by decide +kernel) (by decide +kernel)
theorem ks_T_writeData : Cond.selects cls_T y_T_writeData y_T_writeData ∈ W0 := wm_ 15 (by decide +kernel) (by decide +kernel)
theorem ks_T_writeEnabled : Cond.selects cls_T y_T_writeEnabled y_T_writeEnabled ∈ W0 := wm_ 16 (by decide +kernel) (by decide +kernel)
theorem ks_T_writeQueues : Cond.selects cls_T y_T_writeQueues y_T_writeQueues ∈ W0 := wm_ 17 (by decide +kernel) (by decide +kernel)
theorem ks_T_wake : Cond.selects cls_T y_T_wake y_T_wake ∈ W0 := wm_ 18 (by decide +kernel) (by decide +kernel)
theorem ks_T_round : Cond.selects cls_T y_T_round y_T_round ∈ W0 := wm_ 19 (by decide +kernel) (by decide +kernel)
theorem ks_T_receive : Cond.selects cls_T y_T_receive y_T_receive ∈ W0 := wm_ 20 (by decide +kernel) (by decide +kernel)
theorem ks_T_handle : Cond.selects cls_T y_T_handle y_T_handle ∈ W0 := wm_ 21 (by decide +kernel) (by decide +kernel)
theorem ks_T_transmit : Cond.selects cls_T y_T_transmit y_T_transmit ∈ W0 := wm_ 22 (by decide +kernel) (by decide +kernel)
theorem hd_F_init : y_F_init.cls ≠ "java/lang/invoke/MethodHandle" ∧ y_F_init.cls ≠ "java/lang/invoke/VarHandle" ∧ (parseMethodDescriptor y_F_init.desc).map (fun d => d.parameters.length) = some 0 := by decide +kernel
theorem hd_P_init : y_P_init.cls ≠ "java/lang/invoke/MethodHandle" ∧ y_P_init.cls ≠ "java/lang/invoke/VarHandle" ∧ (parseMethodDescriptor y_P_init.desc).map (fun d => d.parameters.length) = some 0 := by decide +kernel
theorem hd_R_init : y_R_init.cls ≠ "java/lang/invoke/MethodHandle" ∧ y_R_init.cls ≠ "java/lang/invoke/VarHandle" ∧ (parseMethodDescriptor y_R_init.desc).map (fun d => d.parameters.length) = some 1 := by decide +kernel
theorem hd_M_init : y_M_init.cls ≠ "java/lang/invoke/MethodHandle" ∧ y_M_init.cls ≠ "java/lang/invoke/VarHandle" ∧ (parseMethodDescriptor y_M_init.desc).map (fun d => d.parameters.length) = some 0 := by decide +kernel
theorem hd_S_init : y_S_init.cls ≠ "java/lang/invoke/MethodHandle" ∧ y_S_init.cls ≠ "java/lang/invoke/VarHandle" ∧ (parseMethodDescriptor y_S_init.desc).map (fun d => d.parameters.length) = some 0 := by decide +kernel
theorem hd_D_init : y_D_init.cls ≠ "java/lang/invoke/MethodHandle" ∧ y_D_init.cls ≠ "java/lang/invoke/VarHandle" ∧ (parseMethodDescriptor y_D_init.desc).map (fun d => d.parameters.length) = some 1 := by decide +kernel
theorem hd_F_read : y_F_read.cls ≠ "java/lang/invoke/MethodHandle" ∧ y_F_read.cls ≠ "java/lang/invoke/VarHandle" ∧ (parseMethodDescriptor y_F_read.desc).map (fun d => d.parameters.length) = some 1 := by decide +kernel
theorem hd_P_hasRegister : y_P_hasRegister.cls ≠ "java/lang/invoke/MethodHandle" ∧ y_P_hasRegister.cls ≠ "java/lang/invoke/VarHandle" ∧ (parseMethodDescriptor y_P_hasRegister.desc).map (fun d => d.parameters.length) = some 1 := by decide +kernel
theorem hd_P_load : y_P_load.cls ≠ "java/lang/invoke/MethodHandle" ∧ y_P_load.cls ≠ "java/lang/invoke/VarHandle" ∧ (parseMethodDescriptor y_P_load.desc).map (fun d => d.parameters.length) = some 1 := by decide +kernel
theorem hd_P_usesOtherBank : y_P_usesOtherBank.cls ≠ "java/lang/invoke/MethodHandle" ∧ y_P_usesOtherBank.cls ≠ "java/lang/invoke/VarHandle" ∧ (parseMethodDescriptor y_P_usesOtherBank.desc).map (fun d => d.parameters.length) = some 0 := by decide +kernel
theorem hd_P_takeIn : y_P_takeIn.cls ≠ "java/lang/invoke/MethodHandle" ∧ y_P_takeIn.cls ≠ "java/lang/invoke/VarHandle" ∧ (parseMethodDescriptor y_P_takeIn.desc).map (fun d => d.parameters.length) = some 0 := by decide +kernel
theorem hd_R_removeOldest : y_R_removeOldest.cls ≠ "java/lang/invoke/MethodHandle" ∧ y_R_removeOldest.cls ≠ "java/lang/invoke/VarHandle" ∧ (parseMethodDescriptor y_R_removeOldest.desc).map (fun d => d.parameters.length) = some 0 := by decide +kernel
theorem hd_P_identify : y_P_identify.cls ≠ "java/lang/invoke/MethodHandle" ∧ y_P_identify.cls ≠ "java/lang/invoke/VarHandle" ∧ (parseMethodDescriptor y_P_identify.desc).map (fun d => d.parameters.length) = some 0 := by decide +kernel
theorem hd_P_findCause : y_P_findCause.cls ≠ "java/lang/invoke/MethodHandle" ∧ y_P_findCause.cls ≠ "java/lang/invoke/VarHandle" ∧ (parseMethodDescriptor y_P_findCause.desc).map (fun d => d.parameters.length) = some 0 := by decide +kernel
theorem hd_R_oldest : y_R_oldest.cls ≠ "java/lang/invoke/MethodHandle" ∧ y_R_oldest.cls ≠ "java/lang/invoke/VarHandle" ∧ (parseMethodDescriptor y_R_oldest.desc).map (fun d => d.parameters.length) = some 0 := by decide +kernel
theorem hd_P_span : y_P_span.cls ≠ "java/lang/invoke/MethodHandle" ∧ y_P_span.cls ≠ "java/lang/invoke/VarHandle" ∧ (parseMethodDescriptor y_P_span.desc).map (fun d => d.parameters.length) = some 0 := by decide +kernel
theorem hd_P_readStatus : y_P_readStatus.cls ≠ "java/lang/invoke/MethodHandle" ∧ y_P_readStatus.cls ≠ "java/lang/invoke/VarHandle" ∧ (parseMethodDescriptor y_P_readStatus.desc).map (fun d => d.parameters.length) = some 0 := by decide +kernel
theorem hd_R_hasItemAbove : y_R_hasItemAbove.cls ≠ "java/lang/invoke/MethodHandle" ∧ y_R_hasItemAbove.cls ≠ "java/lang/invoke/VarHandle" ∧ (parseMethodDescriptor y_R_hasItemAbove.desc).map (fun d => d.parameters.length) = some 1 := by decide +kernel
theorem hd_R_replaceOldest : y_R_replaceOldest.cls ≠ "java/lang/invoke/MethodHandle" ∧ y_R_replaceOldest.cls ≠ "java/lang/invoke/VarHandle" ∧ (parseMethodDescriptor y_R_replaceOldest.desc).map (fun d => d.parameters.length) = some 1 := by decide +kernel
theorem hd_M_readChanges : y_M_readChanges.cls ≠ "java/lang/invoke/MethodHandle" ∧ y_M_readChanges.cls ≠ "java/lang/invoke/VarHandle" ∧ (parseMethodDescriptor y_M_readChanges.desc).map (fun d => d.parameters.length) = some 0 := by decide +kernel
theorem hd_M_inputs : y_M_inputs.cls ≠ "java/lang/invoke/MethodHandle" ∧ y_M_inputs.cls ≠ "java/lang/invoke/VarHandle" ∧ (parseMethodDescriptor y_M_inputs.desc).map (fun d => d.parameters.length) = some 0 := by decide +kernel
theorem hd_M_isLooped : y_M_isLooped.cls ≠ "java/lang/invoke/MethodHandle" ∧ y_M_isLooped.cls ≠ "java/lang/invoke/VarHandle" ∧ (parseMethodDescriptor y_M_isLooped.desc).map (fun d => d.parameters.length) = some 0 := by decide +kernel
theorem hd_F_write : y_F_write.cls ≠ "java/lang/invoke/MethodHandle" ∧ y_F_write.cls ≠ "java/lang/invoke/VarHandle" ∧ (parseMethodDescriptor y_F_write.desc).map (fun d => d.parameters.length) = some 2 := by decide +kernel
theorem hd_P_store : y_P_store.cls ≠ "java/lang/invoke/MethodHandle" ∧ y_P_store.cls ≠ "java/lang/invoke/VarHandle" ∧ (parseMethodDescriptor y_P_store.desc).map (fun d => d.parameters.length) = some 2 := by decide +kernel
theorem hd_P_storeData : y_P_storeData.cls ≠ "java/lang/invoke/MethodHandle" ∧ y_P_storeData.cls ≠ "java/lang/invoke/VarHandle" ∧ (parseMethodDescriptor y_P_storeData.desc).map (fun d => d.parameters.length) = some 1 := by decide +kernel
theorem hd_R_append : y_R_append.cls ≠ "java/lang/invoke/MethodHandle" ∧ y_R_append.cls ≠ "java/lang/invoke/VarHandle" ∧ (parseMethodDescriptor y_R_append.desc).map (fun d => d.parameters.length) = some 1 := by decide +kernel
theorem hd_P_moveIfPossible : y_P_moveIfPossible.cls ≠ "java/lang/invoke/MethodHandle" ∧ y_P_moveIfPossible.cls ≠ "java/lang/invoke/VarHandle" ∧ (parseMethodDescriptor y_P_moveIfPossible.desc).map (fun d => d.parameters.length) = some 0 := by decide +kernel
theorem hd_P_storeEnabled : y_P_storeEnabled.cls ≠ "java/lang/invoke/MethodHandle" ∧ y_P_storeEnabled.cls ≠ "java/lang/invoke/VarHandle" ∧ (parseMethodDescriptor y_P_storeEnabled.desc).map (fun d => d.parameters.length) = some 1 := by decide +kernel
theorem hd_P_storeQueueing : y_P_storeQueueing.cls ≠ "java/lang/invoke/MethodHandle" ∧ y_P_storeQueueing.cls ≠ "java/lang/invoke/VarHandle" ∧ (parseMethodDescriptor y_P_storeQueueing.desc).map (fun d => d.parameters.length) = some 1 := by decide +kernel
theorem hd_R_clear : y_R_clear.cls ≠ "java/lang/invoke/MethodHandle" ∧ y_R_clear.cls ≠ "java/lang/invoke/VarHandle" ∧ (parseMethodDescriptor y_R_clear.desc).map (fun d => d.parameters.length) = some 0 := by decide +kernel
theorem hd_M_setControl : y_M_setControl.cls ≠ "java/lang/invoke/MethodHandle" ∧ y_M_setControl.cls ≠ "java/lang/invoke/VarHandle" ∧ (parseMethodDescriptor y_M_setControl.desc).map (fun d => d.parameters.length) = some 1 := by decide +kernel
theorem hd_M_noteChanges : y_M_noteChanges.cls ≠ "java/lang/invoke/MethodHandle" ∧ y_M_noteChanges.cls ≠ "java/lang/invoke/VarHandle" ∧ (parseMethodDescriptor y_M_noteChanges.desc).map (fun d => d.parameters.length) = some 1 := by decide +kernel
theorem hd_F_wire : y_F_wire.cls ≠ "java/lang/invoke/MethodHandle" ∧ y_F_wire.cls ≠ "java/lang/invoke/VarHandle" ∧ (parseMethodDescriptor y_F_wire.desc).map (fun d => d.parameters.length) = some 2 := by decide +kernel
theorem hd_P_arrive : y_P_arrive.cls ≠ "java/lang/invoke/MethodHandle" ∧ y_P_arrive.cls ≠ "java/lang/invoke/VarHandle" ∧ (parseMethodDescriptor y_P_arrive.desc).map (fun d => d.parameters.length) = some 2 := by decide +kernel
theorem hd_R_isFull : y_R_isFull.cls ≠ "java/lang/invoke/MethodHandle" ∧ y_R_isFull.cls ≠ "java/lang/invoke/VarHandle" ∧ (parseMethodDescriptor y_R_isFull.desc).map (fun d => d.parameters.length) = some 0 := by decide +kernel
theorem hd_F_tick : y_F_tick.cls ≠ "java/lang/invoke/MethodHandle" ∧ y_F_tick.cls ≠ "java/lang/invoke/VarHandle" ∧ (parseMethodDescriptor y_F_tick.desc).map (fun d => d.parameters.length) = some 1 := by decide +kernel
theorem hd_P_passTick : y_P_passTick.cls ≠ "java/lang/invoke/MethodHandle" ∧ y_P_passTick.cls ≠ "java/lang/invoke/VarHandle" ∧ (parseMethodDescriptor y_P_passTick.desc).map (fun d => d.parameters.length) = some 0 := by decide +kernel
theorem hd_P_sendOff : y_P_sendOff.cls ≠ "java/lang/invoke/MethodHandle" ∧ y_P_sendOff.cls ≠ "java/lang/invoke/VarHandle" ∧ (parseMethodDescriptor y_P_sendOff.desc).map (fun d => d.parameters.length) = some 1 := by decide +kernel
theorem hd_S_add : y_S_add.cls ≠ "java/lang/invoke/MethodHandle" ∧ y_S_add.cls ≠ "java/lang/invoke/VarHandle" ∧ (parseMethodDescriptor y_S_add.desc).map (fun d => d.parameters.length) = some 1 := by decide +kernel
theorem hd_F_lines : y_F_lines.cls ≠ "java/lang/invoke/MethodHandle" ∧ y_F_lines.cls ≠ "java/lang/invoke/VarHandle" ∧ (parseMethodDescriptor y_F_lines.desc).map (fun d => d.parameters.length) = some 1 := by decide +kernel
theorem hd_M_setLines : y_M_setLines.cls ≠ "java/lang/invoke/MethodHandle" ∧ y_M_setLines.cls ≠ "java/lang/invoke/VarHandle" ∧ (parseMethodDescriptor y_M_setLines.desc).map (fun d => d.parameters.length) = some 1 := by decide +kernel
theorem hd_F_sent : y_F_sent.cls ≠ "java/lang/invoke/MethodHandle" ∧ y_F_sent.cls ≠ "java/lang/invoke/VarHandle" ∧ (parseMethodDescriptor y_F_sent.desc).map (fun d => d.parameters.length) = some 1 := by decide +kernel
theorem hd_S_backFromLatest : y_S_backFromLatest.cls ≠ "java/lang/invoke/MethodHandle" ∧ y_S_backFromLatest.cls ≠ "java/lang/invoke/VarHandle" ∧ (parseMethodDescriptor y_S_backFromLatest.desc).map (fun d => d.parameters.length) = some 1 := by decide +kernel
theorem hd_F_total : y_F_total.cls ≠ "java/lang/invoke/MethodHandle" ∧ y_F_total.cls ≠ "java/lang/invoke/VarHandle" ∧ (parseMethodDescriptor y_F_total.desc).map (fun d => d.parameters.length) = some 0 := by decide +kernel
theorem hd_F_cause : y_F_cause.cls ≠ "java/lang/invoke/MethodHandle" ∧ y_F_cause.cls ≠ "java/lang/invoke/VarHandle" ∧ (parseMethodDescriptor y_F_cause.desc).map (fun d => d.parameters.length) = some 0 := by decide +kernel
theorem hd_F_start : y_F_start.cls ≠ "java/lang/invoke/MethodHandle" ∧ y_F_start.cls ≠ "java/lang/invoke/VarHandle" ∧ (parseMethodDescriptor y_F_start.desc).map (fun d => d.parameters.length) = some 0 := by decide +kernel
theorem hd_D_begin : y_D_begin.cls ≠ "java/lang/invoke/MethodHandle" ∧ y_D_begin.cls ≠ "java/lang/invoke/VarHandle" ∧ (parseMethodDescriptor y_D_begin.desc).map (fun d => d.parameters.length) = some 0 := by decide +kernel
theorem hd_F_accept : y_F_accept.cls ≠ "java/lang/invoke/MethodHandle" ∧ y_F_accept.cls ≠ "java/lang/invoke/VarHandle" ∧ (parseMethodDescriptor y_F_accept.desc).map (fun d => d.parameters.length) = some 1 := by decide +kernel
theorem hd_D_queueForth : y_D_queueForth.cls ≠ "java/lang/invoke/MethodHandle" ∧ y_D_queueForth.cls ≠ "java/lang/invoke/VarHandle" ∧ (parseMethodDescriptor y_D_queueForth.desc).map (fun d => d.parameters.length) = some 1 := by decide +kernel
theorem hd_D_wake : y_D_wake.cls ≠ "java/lang/invoke/MethodHandle" ∧ y_D_wake.cls ≠ "java/lang/invoke/VarHandle" ∧ (parseMethodDescriptor y_D_wake.desc).map (fun d => d.parameters.length) = some 0 := by decide +kernel
theorem hd_F_take : y_F_take.cls ≠ "java/lang/invoke/MethodHandle" ∧ y_F_take.cls ≠ "java/lang/invoke/VarHandle" ∧ (parseMethodDescriptor y_F_take.desc).map (fun d => d.parameters.length) = some 0 := by decide +kernel
theorem hd_D_takeBack : y_D_takeBack.cls ≠ "java/lang/invoke/MethodHandle" ∧ y_D_takeBack.cls ≠ "java/lang/invoke/VarHandle" ∧ (parseMethodDescriptor y_D_takeBack.desc).map (fun d => d.parameters.length) = some 0 := by decide +kernel
theorem hd_F_service : y_F_service.cls ≠ "java/lang/invoke/MethodHandle" ∧ y_F_service.cls ≠ "java/lang/invoke/VarHandle" ∧ (parseMethodDescriptor y_F_service.desc).map (fun d => d.parameters.length) = some 0 := by decide +kernel
theorem hd_D_runRound : y_D_runRound.cls ≠ "java/lang/invoke/MethodHandle" ∧ y_D_runRound.cls ≠ "java/lang/invoke/VarHandle" ∧ (parseMethodDescriptor y_D_runRound.desc).map (fun d => d.parameters.length) = some 0 := by decide +kernel
theorem hd_D_readStatus : y_D_readStatus.cls ≠ "java/lang/invoke/MethodHandle" ∧ y_D_readStatus.cls ≠ "java/lang/invoke/VarHandle" ∧ (parseMethodDescriptor y_D_readStatus.desc).map (fun d => d.parameters.length) = some 0 := by decide +kernel
theorem hd_D_receive : y_D_receive.cls ≠ "java/lang/invoke/MethodHandle" ∧ y_D_receive.cls ≠ "java/lang/invoke/VarHandle" ∧ (parseMethodDescriptor y_D_receive.desc).map (fun d => d.parameters.length) = some 0 := by decide +kernel
theorem hd_D_handle : y_D_handle.cls ≠ "java/lang/invoke/MethodHandle" ∧ y_D_handle.cls ≠ "java/lang/invoke/VarHandle" ∧ (parseMethodDescriptor y_D_handle.desc).map (fun d => d.parameters.length) = some 1 := by decide +kernel
theorem hd_D_transmit : y_D_transmit.cls ≠ "java/lang/invoke/MethodHandle" ∧ y_D_transmit.cls ≠ "java/lang/invoke/VarHandle" ∧ (parseMethodDescriptor y_D_transmit.desc).map (fun d => d.parameters.length) = some 0 := by decide +kernel
theorem hd_F_count : y_F_count.cls ≠ "java/lang/invoke/MethodHandle" ∧ y_F_count.cls ≠ "java/lang/invoke/VarHandle" ∧ (parseMethodDescriptor y_F_count.desc).map (fun d => d.parameters.length) = some 1 := by decide +kernel
theorem hd_F_flow : y_F_flow.cls ≠ "java/lang/invoke/MethodHandle" ∧ y_F_flow.cls ≠ "java/lang/invoke/VarHandle" ∧ (parseMethodDescriptor y_F_flow.desc).map (fun d => d.parameters.length) = some 0 := by decide +kernel
theorem hd_D_flowBits : y_D_flowBits.cls ≠ "java/lang/invoke/MethodHandle" ∧ y_D_flowBits.cls ≠ "java/lang/invoke/VarHandle" ∧ (parseMethodDescriptor y_D_flowBits.desc).map (fun d => d.parameters.length) = some 0 := by decide +kernel
theorem hd_F_lost : y_F_lost.cls ≠ "java/lang/invoke/MethodHandle" ∧ y_F_lost.cls ≠ "java/lang/invoke/VarHandle" ∧ (parseMethodDescriptor y_F_lost.desc).map (fun d => d.parameters.length) = some 0 := by decide +kernel
theorem hd_F_left : y_F_left.cls ≠ "java/lang/invoke/MethodHandle" ∧ y_F_left.cls ≠ "java/lang/invoke/VarHandle" ∧ (parseMethodDescriptor y_F_left.desc).map (fun d => d.parameters.length) = some 0 := by decide +kernel
theorem hd_T_init : y_T_init.cls ≠ "java/lang/invoke/MethodHandle" ∧ y_T_init.cls ≠ "java/lang/invoke/VarHandle" ∧ (parseMethodDescriptor y_T_init.desc).map (fun d => d.parameters.length) = some 0 := by decide +kernel
theorem hd_T_wire : y_T_wire.cls ≠ "java/lang/invoke/MethodHandle" ∧ y_T_wire.cls ≠ "java/lang/invoke/VarHandle" ∧ (parseMethodDescriptor y_T_wire.desc).map (fun d => d.parameters.length) = some 2 := by decide +kernel
theorem hd_T_loops : y_T_loops.cls ≠ "java/lang/invoke/MethodHandle" ∧ y_T_loops.cls ≠ "java/lang/invoke/VarHandle" ∧ (parseMethodDescriptor y_T_loops.desc).map (fun d => d.parameters.length) = some 0 := by decide +kernel
theorem hd_T_isOn : y_T_isOn.cls ≠ "java/lang/invoke/MethodHandle" ∧ y_T_isOn.cls ≠ "java/lang/invoke/VarHandle" ∧ (parseMethodDescriptor y_T_isOn.desc).map (fun d => d.parameters.length) = some 2 := by decide +kernel
theorem hd_T_arrive : y_T_arrive.cls ≠ "java/lang/invoke/MethodHandle" ∧ y_T_arrive.cls ≠ "java/lang/invoke/VarHandle" ∧ (parseMethodDescriptor y_T_arrive.desc).map (fun d => d.parameters.length) = some 2 := by decide +kernel
theorem hd_T_places : y_T_places.cls ≠ "java/lang/invoke/MethodHandle" ∧ y_T_places.cls ≠ "java/lang/invoke/VarHandle" ∧ (parseMethodDescriptor y_T_places.desc).map (fun d => d.parameters.length) = some 0 := by decide +kernel
theorem hd_T_append : y_T_append.cls ≠ "java/lang/invoke/MethodHandle" ∧ y_T_append.cls ≠ "java/lang/invoke/VarHandle" ∧ (parseMethodDescriptor y_T_append.desc).map (fun d => d.parameters.length) = some 2 := by decide +kernel
theorem hd_T_tick : y_T_tick.cls ≠ "java/lang/invoke/MethodHandle" ∧ y_T_tick.cls ≠ "java/lang/invoke/VarHandle" ∧ (parseMethodDescriptor y_T_tick.desc).map (fun d => d.parameters.length) = some 1 := by decide +kernel
theorem hd_T_leave : y_T_leave.cls ≠ "java/lang/invoke/MethodHandle" ∧ y_T_leave.cls ≠ "java/lang/invoke/VarHandle" ∧ (parseMethodDescriptor y_T_leave.desc).map (fun d => d.parameters.length) = some 0 := by decide +kernel
theorem hd_T_moveOne : y_T_moveOne.cls ≠ "java/lang/invoke/MethodHandle" ∧ y_T_moveOne.cls ≠ "java/lang/invoke/VarHandle" ∧ (parseMethodDescriptor y_T_moveOne.desc).map (fun d => d.parameters.length) = some 1 := by decide +kernel
theorem hd_T_removeFirst : y_T_removeFirst.cls ≠ "java/lang/invoke/MethodHandle" ∧ y_T_removeFirst.cls ≠ "java/lang/invoke/VarHandle" ∧ (parseMethodDescriptor y_T_removeFirst.desc).map (fun d => d.parameters.length) = some 1 := by decide +kernel
theorem hd_T_span : y_T_span.cls ≠ "java/lang/invoke/MethodHandle" ∧ y_T_span.cls ≠ "java/lang/invoke/VarHandle" ∧ (parseMethodDescriptor y_T_span.desc).map (fun d => d.parameters.length) = some 0 := by decide +kernel
theorem hd_T_lines : y_T_lines.cls ≠ "java/lang/invoke/MethodHandle" ∧ y_T_lines.cls ≠ "java/lang/invoke/VarHandle" ∧ (parseMethodDescriptor y_T_lines.desc).map (fun d => d.parameters.length) = some 1 := by decide +kernel
theorem hd_T_inputs : y_T_inputs.cls ≠ "java/lang/invoke/MethodHandle" ∧ y_T_inputs.cls ≠ "java/lang/invoke/VarHandle" ∧ (parseMethodDescriptor y_T_inputs.desc).map (fun d => d.parameters.length) = some 0 := by decide +kernel
theorem hd_T_noteInputs : y_T_noteInputs.cls ≠ "java/lang/invoke/MethodHandle" ∧ y_T_noteInputs.cls ≠ "java/lang/invoke/VarHandle" ∧ (parseMethodDescriptor y_T_noteInputs.desc).map (fun d => d.parameters.length) = some 1 := by decide +kernel
theorem hd_T_sent : y_T_sent.cls ≠ "java/lang/invoke/MethodHandle" ∧ y_T_sent.cls ≠ "java/lang/invoke/VarHandle" ∧ (parseMethodDescriptor y_T_sent.desc).map (fun d => d.parameters.length) = some 1 := by decide +kernel
theorem hd_T_total : y_T_total.cls ≠ "java/lang/invoke/MethodHandle" ∧ y_T_total.cls ≠ "java/lang/invoke/VarHandle" ∧ (parseMethodDescriptor y_T_total.desc).map (fun d => d.parameters.length) = some 0 := by decide +kernel
theorem hd_T_cause : y_T_cause.cls ≠ "java/lang/invoke/MethodHandle" ∧ y_T_cause.cls ≠ "java/lang/invoke/VarHandle" ∧ (parseMethodDescriptor y_T_cause.desc).map (fun d => d.parameters.length) = some 0 := by decide +kernel
theorem hd_T_read : y_T_read.cls ≠ "java/lang/invoke/MethodHandle" ∧ y_T_read.cls ≠ "java/lang/invoke/VarHandle" ∧ (parseMethodDescriptor y_T_read.desc).map (fun d => d.parameters.length) = some 1 := by decide +kernel
theorem hd_T_takeIn : y_T_takeIn.cls ≠ "java/lang/invoke/MethodHandle" ∧ y_T_takeIn.cls ≠ "java/lang/invoke/VarHandle" ∧ (parseMethodDescriptor y_T_takeIn.desc).map (fun d => d.parameters.length) = some 0 := by decide +kernel
theorem hd_T_readCause : y_T_readCause.cls ≠ "java/lang/invoke/MethodHandle" ∧ y_T_readCause.cls ≠ "java/lang/invoke/VarHandle" ∧ (parseMethodDescriptor y_T_readCause.desc).map (fun d => d.parameters.length) = some 0 := by decide +kernel
theorem hd_T_readStatus : y_T_readStatus.cls ≠ "java/lang/invoke/MethodHandle" ∧ y_T_readStatus.cls ≠ "java/lang/invoke/VarHandle" ∧ (parseMethodDescriptor y_T_readStatus.desc).map (fun d => d.parameters.length) = some 0 := by decide +kernel
theorem hd_T_readChanges : y_T_readChanges.cls ≠ "java/lang/invoke/MethodHandle" ∧ y_T_readChanges.cls ≠ "java/lang/invoke/VarHandle" ∧ (parseMethodDescriptor y_T_readChanges.desc).map (fun d => d.parameters.length) = some 0 := by decide +kernel
theorem hd_T_write : y_T_write.cls ≠ "java/lang/invoke/MethodHandle" ∧ y_T_write.cls ≠ "java/lang/invoke/VarHandle" ∧ (parseMethodDescriptor y_T_write.desc).map (fun d => d.parameters.length) = some 2 := by decide +kernel
theorem hd_T_writeData : y_T_writeData.cls ≠ "java/lang/invoke/MethodHandle" ∧ y_T_writeData.cls ≠ "java/lang/invoke/VarHandle" ∧ (parseMethodDescriptor y_T_writeData.desc).map (fun d => d.parameters.length) = some 1 := by decide +kernel
theorem hd_T_writeEnabled : y_T_writeEnabled.cls ≠ "java/lang/invoke/MethodHandle" ∧ y_T_writeEnabled.cls ≠ "java/lang/invoke/VarHandle" ∧ (parseMethodDescriptor y_T_writeEnabled.desc).map (fun d => d.parameters.length) = some 1 := by decide +kernel
theorem hd_T_writeQueues : y_T_writeQueues.cls ≠ "java/lang/invoke/MethodHandle" ∧ y_T_writeQueues.cls ≠ "java/lang/invoke/VarHandle" ∧ (parseMethodDescriptor y_T_writeQueues.desc).map (fun d => d.parameters.length) = some 1 := by decide +kernel
theorem hd_T_start : y_T_start.cls ≠ "java/lang/invoke/MethodHandle" ∧ y_T_start.cls ≠ "java/lang/invoke/VarHandle" ∧ (parseMethodDescriptor y_T_start.desc).map (fun d => d.parameters.length) = some 0 := by decide +kernel
theorem hd_T_accept : y_T_accept.cls ≠ "java/lang/invoke/MethodHandle" ∧ y_T_accept.cls ≠ "java/lang/invoke/VarHandle" ∧ (parseMethodDescriptor y_T_accept.desc).map (fun d => d.parameters.length) = some 1 := by decide +kernel
theorem hd_T_wake : y_T_wake.cls ≠ "java/lang/invoke/MethodHandle" ∧ y_T_wake.cls ≠ "java/lang/invoke/VarHandle" ∧ (parseMethodDescriptor y_T_wake.desc).map (fun d => d.parameters.length) = some 0 := by decide +kernel
theorem hd_T_take : y_T_take.cls ≠ "java/lang/invoke/MethodHandle" ∧ y_T_take.cls ≠ "java/lang/invoke/VarHandle" ∧ (parseMethodDescriptor y_T_take.desc).map (fun d => d.parameters.length) = some 0 := by decide +kernel
theorem hd_T_service : y_T_service.cls ≠ "java/lang/invoke/MethodHandle" ∧ y_T_service.cls ≠ "java/lang/invoke/VarHandle" ∧ (parseMethodDescriptor y_T_service.desc).map (fun d => d.parameters.length) = some 0 := by decide +kernel
theorem hd_T_round : y_T_round.cls ≠ "java/lang/invoke/MethodHandle" ∧ y_T_round.cls ≠ "java/lang/invoke/VarHandle" ∧ (parseMethodDescriptor y_T_round.desc).map (fun d => d.parameters.length) = some 0 := by decide +kernel
theorem hd_T_receive : y_T_receive.cls ≠ "java/lang/invoke/MethodHandle" ∧ y_T_receive.cls ≠ "java/lang/invoke/VarHandle" ∧ (parseMethodDescriptor y_T_receive.desc).map (fun d => d.parameters.length) = some 0 := by decide +kernel
theorem hd_T_handle : y_T_handle.cls ≠ "java/lang/invoke/MethodHandle" ∧ y_T_handle.cls ≠ "java/lang/invoke/VarHandle" ∧ (parseMethodDescriptor y_T_handle.desc).map (fun d => d.parameters.length) = some 1 := by decide +kernel
theorem hd_T_transmit : y_T_transmit.cls ≠ "java/lang/invoke/MethodHandle" ∧ y_T_transmit.cls ≠ "java/lang/invoke/VarHandle" ∧ (parseMethodDescriptor y_T_transmit.desc).map (fun d => d.parameters.length) = some 0 := by decide +kernel
theorem hd_T_count : y_T_count.cls ≠ "java/lang/invoke/MethodHandle" ∧ y_T_count.cls ≠ "java/lang/invoke/VarHandle" ∧ (parseMethodDescriptor y_T_count.desc).map (fun d => d.parameters.length) = some 1 := by decide +kernel
theorem hd_T_flow : y_T_flow.cls ≠ "java/lang/invoke/MethodHandle" ∧ y_T_flow.cls ≠ "java/lang/invoke/VarHandle" ∧ (parseMethodDescriptor y_T_flow.desc).map (fun d => d.parameters.length) = some 0 := by decide +kernel
theorem hd_T_lost : y_T_lost.cls ≠ "java/lang/invoke/MethodHandle" ∧ y_T_lost.cls ≠ "java/lang/invoke/VarHandle" ∧ (parseMethodDescriptor y_T_lost.desc).map (fun d => d.parameters.length) = some 0 := by decide +kernel
theorem hd_T_left : y_T_left.cls ≠ "java/lang/invoke/MethodHandle" ∧ y_T_left.cls ≠ "java/lang/invoke/VarHandle" ∧ (parseMethodDescriptor y_T_left.desc).map (fun d => d.parameters.length) = some 0 := by decide +kernel
end
section
theorem d_F_init_0 : decode b_F_init 0 = .ok (.aload_n 0, 1) := by decide +kernel
theorem d_F_init_1 : decode b_F_init 1 = .ok (.invokespecial 1, 3) := by decide +kernel
theorem d_F_init_4 : decode b_F_init 4 = .ok (.aload_n 0, 1) := by decide +kernel
theorem d_F_init_5 : decode b_F_init 5 = .ok (.new 7, 3) := by decide +kernel
theorem d_F_init_8 : decode b_F_init 8 = .ok (.dup, 1) := by decide +kernel
theorem d_F_init_9 : decode b_F_init 9 = .ok (.invokespecial 9, 3) := by decide +kernel
theorem d_F_init_12 : decode b_F_init 12 = .ok (.putfield 10, 3) := by decide +kernel
theorem d_F_init_15 : decode b_F_init 15 = .ok (.aload_n 0, 1) := by decide +kernel
theorem d_F_init_16 : decode b_F_init 16 = .ok (.new 16, 3) := by decide +kernel
theorem d_F_init_19 : decode b_F_init 19 = .ok (.dup, 1) := by decide +kernel
theorem d_F_init_20 : decode b_F_init 20 = .ok (.aload_n 0, 1) := by decide +kernel
theorem d_F_init_21 : decode b_F_init 21 = .ok (.getfield 10, 3) := by decide +kernel
theorem d_F_init_24 : decode b_F_init 24 = .ok (.invokespecial 18, 3) := by decide +kernel
theorem d_F_init_27 : decode b_F_init 27 = .ok (.putfield 21, 3) := by decide +kernel
theorem d_F_init_30 : decode b_F_init 30 = .ok (.return_, 1) := by decide +kernel
theorem d_F_read_0 : decode b_F_read 0 = .ok (.iload_n 1, 1) := by decide +kernel
theorem d_F_read_1 : decode b_F_read 1 = .ok (.invokestatic 25, 3) := by decide +kernel
theorem d_F_read_4 : decode b_F_read 4 = .ok (.ifCond .eq 14, 3) := by decide +kernel
theorem d_F_read_7 : decode b_F_read 7 = .ok (.aload_n 0, 1) := by decide +kernel
theorem d_F_read_8 : decode b_F_read 8 = .ok (.getfield 10, 3) := by decide +kernel
theorem d_F_read_11 : decode b_F_read 11 = .ok (.iload_n 1, 1) := by decide +kernel
theorem d_F_read_12 : decode b_F_read 12 = .ok (.invokevirtual 29, 3) := by decide +kernel
theorem d_F_read_15 : decode b_F_read 15 = .ok (.goto 4, 3) := by decide +kernel
theorem d_F_read_18 : decode b_F_read 18 = .ok (.iconst (-1), 1) := by decide +kernel
theorem d_F_read_19 : decode b_F_read 19 = .ok (.ireturn, 1) := by decide +kernel
theorem d_F_write_0 : decode b_F_write 0 = .ok (.iload_n 1, 1) := by decide +kernel
theorem d_F_write_1 : decode b_F_write 1 = .ok (.invokestatic 25, 3) := by decide +kernel
theorem d_F_write_4 : decode b_F_write 4 = .ok (.ifCond .ne 5, 3) := by decide +kernel
theorem d_F_write_7 : decode b_F_write 7 = .ok (.iconst 0, 1) := by decide +kernel
theorem d_F_write_8 : decode b_F_write 8 = .ok (.ireturn, 1) := by decide +kernel
theorem d_F_write_9 : decode b_F_write 9 = .ok (.aload_n 0, 1) := by decide +kernel
theorem d_F_write_10 : decode b_F_write 10 = .ok (.getfield 10, 3) := by decide +kernel
theorem d_F_write_13 : decode b_F_write 13 = .ok (.iload_n 1, 1) := by decide +kernel
theorem d_F_write_14 : decode b_F_write 14 = .ok (.iload_n 2, 1) := by decide +kernel
theorem d_F_write_15 : decode b_F_write 15 = .ok (.invokevirtual 33, 3) := by decide +kernel
theorem d_F_write_18 : decode b_F_write 18 = .ok (.iconst 1, 1) := by decide +kernel
theorem d_F_write_19 : decode b_F_write 19 = .ok (.ireturn, 1) := by decide +kernel
theorem d_F_wire_0 : decode b_F_wire 0 = .ok (.iload_n 2, 1) := by decide +kernel
theorem d_F_wire_1 : decode b_F_wire 1 = .ok (.ifCond .lt 22, 3) := by decide +kernel
theorem d_F_wire_4 : decode b_F_wire 4 = .ok (.iload_n 2, 1) := by decide +kernel
theorem d_F_wire_5 : decode b_F_wire 5 = .ok (.bipush 7, 2) := by decide +kernel
theorem d_F_wire_7 : decode b_F_wire 7 = .ok (.if_icmp .gt 16, 3) := by decide +kernel
theorem d_F_wire_10 : decode b_F_wire 10 = .ok (.aload_n 0, 1) := by decide +kernel
theorem d_F_wire_11 : decode b_F_wire 11 = .ok (.getfield 10, 3) := by decide +kernel
theorem d_F_wire_14 : decode b_F_wire 14 = .ok (.getfield 37, 3) := by decide +kernel
theorem d_F_wire_17 : decode b_F_wire 17 = .ok (.invokevirtual 41, 3) := by decide +kernel
theorem d_F_wire_20 : decode b_F_wire 20 = .ok (.ifCond .eq 5, 3) := by decide +kernel
theorem d_F_wire_23 : decode b_F_wire 23 = .ok (.iconst 0, 1) := by decide +kernel
theorem d_F_wire_24 : decode b_F_wire 24 = .ok (.ireturn, 1) := by decide +kernel
theorem d_F_wire_25 : decode b_F_wire 25 = .ok (.aload_n 0, 1) := by decide +kernel
theorem d_F_wire_26 : decode b_F_wire 26 = .ok (.getfield 10, 3) := by decide +kernel
theorem d_F_wire_29 : decode b_F_wire 29 = .ok (.iload_n 1, 1) := by decide +kernel
theorem d_F_wire_30 : decode b_F_wire 30 = .ok (.sipush 255, 3) := by decide +kernel
theorem d_F_wire_33 : decode b_F_wire 33 = .ok (.iand, 1) := by decide +kernel
theorem d_F_wire_34 : decode b_F_wire 34 = .ok (.iload_n 2, 1) := by decide +kernel
theorem d_F_wire_35 : decode b_F_wire 35 = .ok (.invokevirtual 47, 3) := by decide +kernel
theorem d_F_wire_38 : decode b_F_wire 38 = .ok (.iconst 1, 1) := by decide +kernel
theorem d_F_wire_39 : decode b_F_wire 39 = .ok (.ireturn, 1) := by decide +kernel
theorem d_F_tick_0 : decode b_F_tick 0 = .ok (.iload_n 1, 1) := by decide +kernel
theorem d_F_tick_1 : decode b_F_tick 1 = .ok (.iconst 1, 1) := by decide +kernel
theorem d_F_tick_2 : decode b_F_tick 2 = .ok (.if_icmp .lt 9, 3) := by decide +kernel
theorem d_F_tick_5 : decode b_F_tick 5 = .ok (.iload_n 1, 1) := by decide +kernel
theorem d_F_tick_6 : decode b_F_tick 6 = .ok (.bipush 100, 2) := by decide +kernel
theorem d_F_tick_8 : decode b_F_tick 8 = .ok (.if_icmp .le 5, 3) := by decide +kernel
theorem d_F_tick_11 : decode b_F_tick 11 = .ok (.iconst (-1), 1) := by decide +kernel
theorem d_F_tick_12 : decode b_F_tick 12 = .ok (.ireturn, 1) := by decide +kernel
theorem d_F_tick_13 : decode b_F_tick 13 = .ok (.iconst 0, 1) := by decide +kernel
theorem d_F_tick_14 : decode b_F_tick 14 = .ok (.istore_n 2, 1) := by decide +kernel
theorem d_F_tick_15 : decode b_F_tick 15 = .ok (.iconst 0, 1) := by decide +kernel
theorem d_F_tick_16 : decode b_F_tick 16 = .ok (.istore_n 3, 1) := by decide +kernel
theorem d_F_tick_17 : decode b_F_tick 17 = .ok (.iload_n 3, 1) := by decide +kernel
theorem d_F_tick_18 : decode b_F_tick 18 = .ok (.iload_n 1, 1) := by decide +kernel
theorem d_F_tick_19 : decode b_F_tick 19 = .ok (.if_icmp .ge 22, 3) := by decide +kernel
theorem d_F_tick_22 : decode b_F_tick 22 = .ok (.aload_n 0, 1) := by decide +kernel
theorem d_F_tick_23 : decode b_F_tick 23 = .ok (.getfield 10, 3) := by decide +kernel
theorem d_F_tick_26 : decode b_F_tick 26 = .ok (.invokevirtual 50, 3) := by decide +kernel
theorem d_F_tick_29 : decode b_F_tick 29 = .ok (.ifCond .eq 6, 3) := by decide +kernel
theorem d_F_tick_32 : decode b_F_tick 32 = .ok (.iinc 2 1, 3) := by decide +kernel
theorem d_F_tick_35 : decode b_F_tick 35 = .ok (.iinc 3 1, 3) := by decide +kernel
theorem d_F_tick_38 : decode b_F_tick 38 = .ok (.goto (-21), 3) := by decide +kernel
theorem d_F_tick_41 : decode b_F_tick 41 = .ok (.iload_n 2, 1) := by decide +kernel
theorem d_F_tick_42 : decode b_F_tick 42 = .ok (.ireturn, 1) := by decide +kernel
theorem d_F_lines_0 : decode b_F_lines 0 = .ok (.aload_n 0, 1) := by decide +kernel
theorem d_F_lines_1 : decode b_F_lines 1 = .ok (.getfield 10, 3) := by decide +kernel
theorem d_F_lines_4 : decode b_F_lines 4 = .ok (.getfield 37, 3) := by decide +kernel
theorem d_F_lines_7 : decode b_F_lines 7 = .ok (.iload_n 1, 1) := by decide +kernel
theorem d_F_lines_8 : decode b_F_lines 8 = .ok (.bipush 15, 2) := by decide +kernel
theorem d_F_lines_10 : decode b_F_lines 10 = .ok (.iand, 1) := by decide +kernel
theorem d_F_lines_11 : decode b_F_lines 11 = .ok (.invokevirtual 53, 3) := by decide +kernel
theorem d_F_lines_14 : decode b_F_lines 14 = .ok (.return_, 1) := by decide +kernel
theorem d_F_sent_0 : decode b_F_sent 0 = .ok (.aload_n 0, 1) := by decide +kernel
theorem d_F_sent_1 : decode b_F_sent 1 = .ok (.getfield 10, 3) := by decide +kernel
theorem d_F_sent_4 : decode b_F_sent 4 = .ok (.getfield 57, 3) := by decide +kernel
theorem d_F_sent_7 : decode b_F_sent 7 = .ok (.iload_n 1, 1) := by decide +kernel
theorem d_F_sent_8 : decode b_F_sent 8 = .ok (.invokevirtual 61, 3) := by decide +kernel
theorem d_F_sent_11 : decode b_F_sent 11 = .ok (.ireturn, 1) := by decide +kernel
theorem d_F_total_0 : decode b_F_total 0 = .ok (.aload_n 0, 1) := by decide +kernel
theorem d_F_total_1 : decode b_F_total 1 = .ok (.getfield 10, 3) := by decide +kernel
theorem d_F_total_4 : decode b_F_total 4 = .ok (.getfield 57, 3) := by decide +kernel
theorem d_F_total_7 : decode b_F_total 7 = .ok (.getfield 66, 3) := by decide +kernel
theorem d_F_total_10 : decode b_F_total 10 = .ok (.ireturn, 1) := by decide +kernel
theorem d_F_cause_0 : decode b_F_cause 0 = .ok (.aload_n 0, 1) := by decide +kernel
theorem d_F_cause_1 : decode b_F_cause 1 = .ok (.getfield 10, 3) := by decide +kernel
theorem d_F_cause_4 : decode b_F_cause 4 = .ok (.invokevirtual 70, 3) := by decide +kernel
theorem d_F_cause_7 : decode b_F_cause 7 = .ok (.ireturn, 1) := by decide +kernel
theorem d_F_start_0 : decode b_F_start 0 = .ok (.aload_n 0, 1) := by decide +kernel
theorem d_F_start_1 : decode b_F_start 1 = .ok (.getfield 21, 3) := by decide +kernel
theorem d_F_start_4 : decode b_F_start 4 = .ok (.invokevirtual 74, 3) := by decide +kernel
theorem d_F_start_7 : decode b_F_start 7 = .ok (.return_, 1) := by decide +kernel
theorem d_F_accept_0 : decode b_F_accept 0 = .ok (.aload_n 0, 1) := by decide +kernel
theorem d_F_accept_1 : decode b_F_accept 1 = .ok (.getfield 21, 3) := by decide +kernel
theorem d_F_accept_4 : decode b_F_accept 4 = .ok (.iload_n 1, 1) := by decide +kernel
theorem d_F_accept_5 : decode b_F_accept 5 = .ok (.sipush 255, 3) := by decide +kernel
theorem d_F_accept_8 : decode b_F_accept 8 = .ok (.iand, 1) := by decide +kernel
theorem d_F_accept_9 : decode b_F_accept 9 = .ok (.invokevirtual 77, 3) := by decide +kernel
theorem d_F_accept_12 : decode b_F_accept 12 = .ok (.ireturn, 1) := by decide +kernel
theorem d_F_take_0 : decode b_F_take 0 = .ok (.aload_n 0, 1) := by decide +kernel
theorem d_F_take_1 : decode b_F_take 1 = .ok (.getfield 21, 3) := by decide +kernel
theorem d_F_take_4 : decode b_F_take 4 = .ok (.invokevirtual 80, 3) := by decide +kernel
theorem d_F_take_7 : decode b_F_take 7 = .ok (.ireturn, 1) := by decide +kernel
theorem d_F_service_0 : decode b_F_service 0 = .ok (.iconst 0, 1) := by decide +kernel
theorem d_F_service_1 : decode b_F_service 1 = .ok (.istore_n 1, 1) := by decide +kernel
theorem d_F_service_2 : decode b_F_service 2 = .ok (.iload_n 1, 1) := by decide +kernel
theorem d_F_service_3 : decode b_F_service 3 = .ok (.bipush 8, 2) := by decide +kernel
theorem d_F_service_5 : decode b_F_service 5 = .ok (.if_icmp .ge 19, 3) := by decide +kernel
theorem d_F_service_8 : decode b_F_service 8 = .ok (.aload_n 0, 1) := by decide +kernel
theorem d_F_service_9 : decode b_F_service 9 = .ok (.getfield 21, 3) := by decide +kernel
theorem d_F_service_12 : decode b_F_service 12 = .ok (.invokevirtual 83, 3) := by decide +kernel
theorem d_F_service_15 : decode b_F_service 15 = .ok (.ifCond .eq 9, 3) := by decide +kernel
theorem d_F_service_18 : decode b_F_service 18 = .ok (.iinc 1 1, 3) := by decide +kernel
theorem d_F_service_21 : decode b_F_service 21 = .ok (.goto (-19), 3) := by decide +kernel
theorem d_F_service_24 : decode b_F_service 24 = .ok (.iload_n 1, 1) := by decide +kernel
theorem d_F_service_25 : decode b_F_service 25 = .ok (.ireturn, 1) := by decide +kernel
theorem d_F_count_0 : decode b_F_count 0 = .ok (.iload_n 1, 1) := by decide +kernel
theorem d_F_count_1 : decode b_F_count 1 = .ok (.tableswitch 75 0 3 #[31, 42, 53, 64], 31) := by decide +kernel
theorem d_F_count_32 : decode b_F_count 32 = .ok (.aload_n 0, 1) := by decide +kernel
theorem d_F_count_33 : decode b_F_count 33 = .ok (.getfield 21, 3) := by decide +kernel
theorem d_F_count_36 : decode b_F_count 36 = .ok (.getfield 86, 3) := by decide +kernel
theorem d_F_count_39 : decode b_F_count 39 = .ok (.getfield 90, 3) := by decide +kernel
theorem d_F_count_42 : decode b_F_count 42 = .ok (.ireturn, 1) := by decide +kernel
theorem d_F_count_43 : decode b_F_count 43 = .ok (.aload_n 0, 1) := by decide +kernel
theorem d_F_count_44 : decode b_F_count 44 = .ok (.getfield 21, 3) := by decide +kernel
theorem d_F_count_47 : decode b_F_count 47 = .ok (.getfield 93, 3) := by decide +kernel
theorem d_F_count_50 : decode b_F_count 50 = .ok (.getfield 90, 3) := by decide +kernel
theorem d_F_count_53 : decode b_F_count 53 = .ok (.ireturn, 1) := by decide +kernel
theorem d_F_count_54 : decode b_F_count 54 = .ok (.aload_n 0, 1) := by decide +kernel
theorem d_F_count_55 : decode b_F_count 55 = .ok (.getfield 10, 3) := by decide +kernel
theorem d_F_count_58 : decode b_F_count 58 = .ok (.getfield 96, 3) := by decide +kernel
theorem d_F_count_61 : decode b_F_count 61 = .ok (.getfield 90, 3) := by decide +kernel
theorem d_F_count_64 : decode b_F_count 64 = .ok (.ireturn, 1) := by decide +kernel
theorem d_F_count_65 : decode b_F_count 65 = .ok (.aload_n 0, 1) := by decide +kernel
theorem d_F_count_66 : decode b_F_count 66 = .ok (.getfield 10, 3) := by decide +kernel
theorem d_F_count_69 : decode b_F_count 69 = .ok (.getfield 99, 3) := by decide +kernel
theorem d_F_count_72 : decode b_F_count 72 = .ok (.getfield 90, 3) := by decide +kernel
theorem d_F_count_75 : decode b_F_count 75 = .ok (.ireturn, 1) := by decide +kernel
theorem d_F_count_76 : decode b_F_count 76 = .ok (.iconst (-1), 1) := by decide +kernel
theorem d_F_count_77 : decode b_F_count 77 = .ok (.ireturn, 1) := by decide +kernel
theorem d_F_flow_0 : decode b_F_flow 0 = .ok (.aload_n 0, 1) := by decide +kernel
theorem d_F_flow_1 : decode b_F_flow 1 = .ok (.getfield 21, 3) := by decide +kernel
theorem d_F_flow_4 : decode b_F_flow 4 = .ok (.invokevirtual 102, 3) := by decide +kernel
theorem d_F_flow_7 : decode b_F_flow 7 = .ok (.ireturn, 1) := by decide +kernel
theorem d_F_lost_0 : decode b_F_lost 0 = .ok (.aload_n 0, 1) := by decide +kernel
theorem d_F_lost_1 : decode b_F_lost 1 = .ok (.getfield 21, 3) := by decide +kernel
theorem d_F_lost_4 : decode b_F_lost 4 = .ok (.getfield 105, 3) := by decide +kernel
theorem d_F_lost_7 : decode b_F_lost 7 = .ok (.ireturn, 1) := by decide +kernel
theorem d_F_left_0 : decode b_F_left 0 = .ok (.aload_n 0, 1) := by decide +kernel
theorem d_F_left_1 : decode b_F_left 1 = .ok (.getfield 10, 3) := by decide +kernel
theorem d_F_left_4 : decode b_F_left 4 = .ok (.getfield 108, 3) := by decide +kernel
theorem d_F_left_7 : decode b_F_left 7 = .ok (.ireturn, 1) := by decide +kernel
theorem d_D_init_0 : decode b_D_init 0 = .ok (.aload_n 0, 1) := by decide +kernel
theorem d_D_init_1 : decode b_D_init 1 = .ok (.invokespecial 3, 3) := by decide +kernel
theorem d_D_init_4 : decode b_D_init 4 = .ok (.aload_n 0, 1) := by decide +kernel
theorem d_D_init_5 : decode b_D_init 5 = .ok (.new 9, 3) := by decide +kernel
theorem d_D_init_8 : decode b_D_init 8 = .ok (.dup, 1) := by decide +kernel
theorem d_D_init_9 : decode b_D_init 9 = .ok (.bipush 24, 2) := by decide +kernel
theorem d_D_init_11 : decode b_D_init 11 = .ok (.invokespecial 13, 3) := by decide +kernel
theorem d_D_init_14 : decode b_D_init 14 = .ok (.putfield 16, 3) := by decide +kernel
theorem d_D_init_17 : decode b_D_init 17 = .ok (.aload_n 0, 1) := by decide +kernel
theorem d_D_init_18 : decode b_D_init 18 = .ok (.new 9, 3) := by decide +kernel
theorem d_D_init_21 : decode b_D_init 21 = .ok (.dup, 1) := by decide +kernel
theorem d_D_init_22 : decode b_D_init 22 = .ok (.bipush 24, 2) := by decide +kernel
theorem d_D_init_24 : decode b_D_init 24 = .ok (.invokespecial 13, 3) := by decide +kernel
theorem d_D_init_27 : decode b_D_init 27 = .ok (.putfield 20, 3) := by decide +kernel
theorem d_D_init_30 : decode b_D_init 30 = .ok (.aload_n 0, 1) := by decide +kernel
theorem d_D_init_31 : decode b_D_init 31 = .ok (.iconst (-1), 1) := by decide +kernel
theorem d_D_init_32 : decode b_D_init 32 = .ok (.putfield 23, 3) := by decide +kernel
theorem d_D_init_35 : decode b_D_init 35 = .ok (.aload_n 0, 1) := by decide +kernel
theorem d_D_init_36 : decode b_D_init 36 = .ok (.aload_n 1, 1) := by decide +kernel
theorem d_D_init_37 : decode b_D_init 37 = .ok (.putfield 27, 3) := by decide +kernel
theorem d_D_init_40 : decode b_D_init 40 = .ok (.return_, 1) := by decide +kernel
theorem d_D_begin_0 : decode b_D_begin 0 = .ok (.aload_n 0, 1) := by decide +kernel
theorem d_D_begin_1 : decode b_D_begin 1 = .ok (.getfield 16, 3) := by decide +kernel
theorem d_D_begin_4 : decode b_D_begin 4 = .ok (.invokevirtual 31, 3) := by decide +kernel
theorem d_D_begin_7 : decode b_D_begin 7 = .ok (.aload_n 0, 1) := by decide +kernel
theorem d_D_begin_8 : decode b_D_begin 8 = .ok (.getfield 20, 3) := by decide +kernel
theorem d_D_begin_11 : decode b_D_begin 11 = .ok (.invokevirtual 31, 3) := by decide +kernel
theorem d_D_begin_14 : decode b_D_begin 14 = .ok (.aload_n 0, 1) := by decide +kernel
theorem d_D_begin_15 : decode b_D_begin 15 = .ok (.iconst 0, 1) := by decide +kernel
theorem d_D_begin_16 : decode b_D_begin 16 = .ok (.putfield 34, 3) := by decide +kernel
theorem d_D_begin_19 : decode b_D_begin 19 = .ok (.aload_n 0, 1) := by decide +kernel
theorem d_D_begin_20 : decode b_D_begin 20 = .ok (.iconst 0, 1) := by decide +kernel
theorem d_D_begin_21 : decode b_D_begin 21 = .ok (.putfield 38, 3) := by decide +kernel
theorem d_D_begin_24 : decode b_D_begin 24 = .ok (.aload_n 0, 1) := by decide +kernel
theorem d_D_begin_25 : decode b_D_begin 25 = .ok (.iconst (-1), 1) := by decide +kernel
theorem d_D_begin_26 : decode b_D_begin 26 = .ok (.putfield 23, 3) := by decide +kernel
theorem d_D_begin_29 : decode b_D_begin 29 = .ok (.aload_n 0, 1) := by decide +kernel
theorem d_D_begin_30 : decode b_D_begin 30 = .ok (.getfield 27, 3) := by decide +kernel
theorem d_D_begin_33 : decode b_D_begin 33 = .ok (.iconst 2, 1) := by decide +kernel
theorem d_D_begin_34 : decode b_D_begin 34 = .ok (.bipush 71, 2) := by decide +kernel
theorem d_D_begin_36 : decode b_D_begin 36 = .ok (.invokevirtual 41, 3) := by decide +kernel
theorem d_D_begin_39 : decode b_D_begin 39 = .ok (.aload_n 0, 1) := by decide +kernel
theorem d_D_begin_40 : decode b_D_begin 40 = .ok (.getfield 27, 3) := by decide +kernel
theorem d_D_begin_43 : decode b_D_begin 43 = .ok (.iconst 3, 1) := by decide +kernel
theorem d_D_begin_44 : decode b_D_begin 44 = .ok (.iconst 3, 1) := by decide +kernel
theorem d_D_begin_45 : decode b_D_begin 45 = .ok (.invokevirtual 41, 3) := by decide +kernel
theorem d_D_begin_48 : decode b_D_begin 48 = .ok (.aload_n 0, 1) := by decide +kernel
theorem d_D_begin_49 : decode b_D_begin 49 = .ok (.getfield 27, 3) := by decide +kernel
theorem d_D_begin_52 : decode b_D_begin 52 = .ok (.iconst 1, 1) := by decide +kernel
theorem d_D_begin_53 : decode b_D_begin 53 = .ok (.bipush 7, 2) := by decide +kernel
theorem d_D_begin_55 : decode b_D_begin 55 = .ok (.invokevirtual 41, 3) := by decide +kernel
theorem d_D_begin_58 : decode b_D_begin 58 = .ok (.return_, 1) := by decide +kernel
theorem d_D_queueForth_0 : decode b_D_queueForth 0 = .ok (.aload_n 0, 1) := by decide +kernel
theorem d_D_queueForth_1 : decode b_D_queueForth 1 = .ok (.getfield 16, 3) := by decide +kernel
theorem d_D_queueForth_4 : decode b_D_queueForth 4 = .ok (.invokevirtual 47, 3) := by decide +kernel
theorem d_D_queueForth_7 : decode b_D_queueForth 7 = .ok (.ifCond .eq 5, 3) := by decide +kernel
theorem d_D_queueForth_10 : decode b_D_queueForth 10 = .ok (.iconst 0, 1) := by decide +kernel
theorem d_D_queueForth_11 : decode b_D_queueForth 11 = .ok (.ireturn, 1) := by decide +kernel
theorem d_D_queueForth_12 : decode b_D_queueForth 12 = .ok (.aload_n 0, 1) := by decide +kernel
theorem d_D_queueForth_13 : decode b_D_queueForth 13 = .ok (.getfield 16, 3) := by decide +kernel
theorem d_D_queueForth_16 : decode b_D_queueForth 16 = .ok (.iload_n 1, 1) := by decide +kernel
theorem d_D_queueForth_17 : decode b_D_queueForth 17 = .ok (.invokevirtual 51, 3) := by decide +kernel
theorem d_D_queueForth_20 : decode b_D_queueForth 20 = .ok (.aload_n 0, 1) := by decide +kernel
theorem d_D_queueForth_21 : decode b_D_queueForth 21 = .ok (.invokevirtual 54, 3) := by decide +kernel
theorem d_D_queueForth_24 : decode b_D_queueForth 24 = .ok (.iconst 1, 1) := by decide +kernel
theorem d_D_queueForth_25 : decode b_D_queueForth 25 = .ok (.ireturn, 1) := by decide +kernel
theorem d_D_takeBack_0 : decode b_D_takeBack 0 = .ok (.aload_n 0, 1) := by decide +kernel
theorem d_D_takeBack_1 : decode b_D_takeBack 1 = .ok (.getfield 20, 3) := by decide +kernel
theorem d_D_takeBack_4 : decode b_D_takeBack 4 = .ok (.getfield 57, 3) := by decide +kernel
theorem d_D_takeBack_7 : decode b_D_takeBack 7 = .ok (.ifCond .ne 5, 3) := by decide +kernel
theorem d_D_takeBack_10 : decode b_D_takeBack 10 = .ok (.iconst (-1), 1) := by decide +kernel
theorem d_D_takeBack_11 : decode b_D_takeBack 11 = .ok (.ireturn, 1) := by decide +kernel
theorem d_D_takeBack_12 : decode b_D_takeBack 12 = .ok (.aload_n 0, 1) := by decide +kernel
theorem d_D_takeBack_13 : decode b_D_takeBack 13 = .ok (.getfield 20, 3) := by decide +kernel
theorem d_D_takeBack_16 : decode b_D_takeBack 16 = .ok (.invokevirtual 60, 3) := by decide +kernel
theorem d_D_takeBack_19 : decode b_D_takeBack 19 = .ok (.istore_n 1, 1) := by decide +kernel
theorem d_D_takeBack_20 : decode b_D_takeBack 20 = .ok (.aload_n 0, 1) := by decide +kernel
theorem d_D_takeBack_21 : decode b_D_takeBack 21 = .ok (.getfield 38, 3) := by decide +kernel
theorem d_D_takeBack_24 : decode b_D_takeBack 24 = .ok (.ifCond .eq 30, 3) := by decide +kernel
theorem d_D_takeBack_27 : decode b_D_takeBack 27 = .ok (.aload_n 0, 1) := by decide +kernel
theorem d_D_takeBack_28 : decode b_D_takeBack 28 = .ok (.getfield 20, 3) := by decide +kernel
theorem d_D_takeBack_31 : decode b_D_takeBack 31 = .ok (.getfield 57, 3) := by decide +kernel
theorem d_D_takeBack_34 : decode b_D_takeBack 34 = .ok (.bipush 6, 2) := by decide +kernel
theorem d_D_takeBack_36 : decode b_D_takeBack 36 = .ok (.if_icmp .gt 18, 3) := by decide +kernel
theorem d_D_takeBack_39 : decode b_D_takeBack 39 = .ok (.aload_n 0, 1) := by decide +kernel
theorem d_D_takeBack_40 : decode b_D_takeBack 40 = .ok (.bipush 17, 2) := by decide +kernel
theorem d_D_takeBack_42 : decode b_D_takeBack 42 = .ok (.putfield 23, 3) := by decide +kernel
theorem d_D_takeBack_45 : decode b_D_takeBack 45 = .ok (.aload_n 0, 1) := by decide +kernel
theorem d_D_takeBack_46 : decode b_D_takeBack 46 = .ok (.iconst 0, 1) := by decide +kernel
theorem d_D_takeBack_47 : decode b_D_takeBack 47 = .ok (.putfield 38, 3) := by decide +kernel
theorem d_D_takeBack_50 : decode b_D_takeBack 50 = .ok (.aload_n 0, 1) := by decide +kernel
theorem d_D_takeBack_51 : decode b_D_takeBack 51 = .ok (.invokevirtual 54, 3) := by decide +kernel
theorem d_D_takeBack_54 : decode b_D_takeBack 54 = .ok (.iload_n 1, 1) := by decide +kernel
theorem d_D_takeBack_55 : decode b_D_takeBack 55 = .ok (.ireturn, 1) := by decide +kernel
theorem d_D_wake_0 : decode b_D_wake 0 = .ok (.aload_n 0, 1) := by decide +kernel
theorem d_D_wake_1 : decode b_D_wake 1 = .ok (.getfield 27, 3) := by decide +kernel
theorem d_D_wake_4 : decode b_D_wake 4 = .ok (.iconst 1, 1) := by decide +kernel
theorem d_D_wake_5 : decode b_D_wake 5 = .ok (.aload_n 0, 1) := by decide +kernel
theorem d_D_wake_6 : decode b_D_wake 6 = .ok (.getfield 27, 3) := by decide +kernel
theorem d_D_wake_9 : decode b_D_wake 9 = .ok (.iconst 1, 1) := by decide +kernel
theorem d_D_wake_10 : decode b_D_wake 10 = .ok (.invokevirtual 64, 3) := by decide +kernel
theorem d_D_wake_13 : decode b_D_wake 13 = .ok (.iconst 2, 1) := by decide +kernel
theorem d_D_wake_14 : decode b_D_wake 14 = .ok (.ior, 1) := by decide +kernel
theorem d_D_wake_15 : decode b_D_wake 15 = .ok (.invokevirtual 41, 3) := by decide +kernel
theorem d_D_wake_18 : decode b_D_wake 18 = .ok (.return_, 1) := by decide +kernel
theorem d_D_runRound_0 : decode b_D_runRound 0 = .ok (.aload_n 0, 1) := by decide +kernel
theorem d_D_runRound_1 : decode b_D_runRound 1 = .ok (.getfield 27, 3) := by decide +kernel
theorem d_D_runRound_4 : decode b_D_runRound 4 = .ok (.iconst 2, 1) := by decide +kernel
theorem d_D_runRound_5 : decode b_D_runRound 5 = .ok (.invokevirtual 64, 3) := by decide +kernel
theorem d_D_runRound_8 : decode b_D_runRound 8 = .ok (.bipush 15, 2) := by decide +kernel
theorem d_D_runRound_10 : decode b_D_runRound 10 = .ok (.iand, 1) := by decide +kernel
theorem d_D_runRound_11 : decode b_D_runRound 11 = .ok (.tableswitch 96 0 12 #[84, 96, 78, 96, 72, 96, 65, 96, 96, 96, 96, 96, 72], 65) := by decide +kernel
theorem d_D_runRound_76 : decode b_D_runRound 76 = .ok (.aload_n 0, 1) := by decide +kernel
theorem d_D_runRound_77 : decode b_D_runRound 77 = .ok (.invokevirtual 68, 3) := by decide +kernel
theorem d_D_runRound_80 : decode b_D_runRound 80 = .ok (.pop, 1) := by decide +kernel
theorem d_D_runRound_81 : decode b_D_runRound 81 = .ok (.iconst 1, 1) := by decide +kernel
theorem d_D_runRound_82 : decode b_D_runRound 82 = .ok (.ireturn, 1) := by decide +kernel
theorem d_D_runRound_83 : decode b_D_runRound 83 = .ok (.aload_n 0, 1) := by decide +kernel
theorem d_D_runRound_84 : decode b_D_runRound 84 = .ok (.invokevirtual 71, 3) := by decide +kernel
theorem d_D_runRound_87 : decode b_D_runRound 87 = .ok (.iconst 1, 1) := by decide +kernel
theorem d_D_runRound_88 : decode b_D_runRound 88 = .ok (.ireturn, 1) := by decide +kernel
theorem d_D_runRound_89 : decode b_D_runRound 89 = .ok (.aload_n 0, 1) := by decide +kernel
theorem d_D_runRound_90 : decode b_D_runRound 90 = .ok (.invokevirtual 74, 3) := by decide +kernel
theorem d_D_runRound_93 : decode b_D_runRound 93 = .ok (.iconst 1, 1) := by decide +kernel
theorem d_D_runRound_94 : decode b_D_runRound 94 = .ok (.ireturn, 1) := by decide +kernel
theorem d_D_runRound_95 : decode b_D_runRound 95 = .ok (.aload_n 0, 1) := by decide +kernel
theorem d_D_runRound_96 : decode b_D_runRound 96 = .ok (.getfield 27, 3) := by decide +kernel
theorem d_D_runRound_99 : decode b_D_runRound 99 = .ok (.bipush 6, 2) := by decide +kernel
theorem d_D_runRound_101 : decode b_D_runRound 101 = .ok (.invokevirtual 64, 3) := by decide +kernel
theorem d_D_runRound_104 : decode b_D_runRound 104 = .ok (.pop, 1) := by decide +kernel
theorem d_D_runRound_105 : decode b_D_runRound 105 = .ok (.iconst 1, 1) := by decide +kernel
theorem d_D_runRound_106 : decode b_D_runRound 106 = .ok (.ireturn, 1) := by decide +kernel
theorem d_D_runRound_107 : decode b_D_runRound 107 = .ok (.iconst 0, 1) := by decide +kernel
theorem d_D_runRound_108 : decode b_D_runRound 108 = .ok (.ireturn, 1) := by decide +kernel
theorem d_D_readStatus_0 : decode b_D_readStatus 0 = .ok (.aload_n 0, 1) := by decide +kernel
theorem d_D_readStatus_1 : decode b_D_readStatus 1 = .ok (.getfield 27, 3) := by decide +kernel
theorem d_D_readStatus_4 : decode b_D_readStatus 4 = .ok (.iconst 5, 1) := by decide +kernel
theorem d_D_readStatus_5 : decode b_D_readStatus 5 = .ok (.invokevirtual 64, 3) := by decide +kernel
theorem d_D_readStatus_8 : decode b_D_readStatus 8 = .ok (.istore_n 1, 1) := by decide +kernel
theorem d_D_readStatus_9 : decode b_D_readStatus 9 = .ok (.iload_n 1, 1) := by decide +kernel
theorem d_D_readStatus_10 : decode b_D_readStatus 10 = .ok (.iconst 2, 1) := by decide +kernel
theorem d_D_readStatus_11 : decode b_D_readStatus 11 = .ok (.iand, 1) := by decide +kernel
theorem d_D_readStatus_12 : decode b_D_readStatus 12 = .ok (.ifCond .eq 13, 3) := by decide +kernel
theorem d_D_readStatus_15 : decode b_D_readStatus 15 = .ok (.aload_n 0, 1) := by decide +kernel
theorem d_D_readStatus_16 : decode b_D_readStatus 16 = .ok (.dup, 1) := by decide +kernel
theorem d_D_readStatus_17 : decode b_D_readStatus 17 = .ok (.getfield 77, 3) := by decide +kernel
theorem d_D_readStatus_20 : decode b_D_readStatus 20 = .ok (.iconst 1, 1) := by decide +kernel
theorem d_D_readStatus_21 : decode b_D_readStatus 21 = .ok (.iadd, 1) := by decide +kernel
theorem d_D_readStatus_22 : decode b_D_readStatus 22 = .ok (.putfield 77, 3) := by decide +kernel
theorem d_D_readStatus_25 : decode b_D_readStatus 25 = .ok (.iload_n 1, 1) := by decide +kernel
theorem d_D_readStatus_26 : decode b_D_readStatus 26 = .ok (.ireturn, 1) := by decide +kernel
theorem d_D_receive_0 : decode b_D_receive 0 = .ok (.iconst 1, 1) := by decide +kernel
theorem d_D_receive_1 : decode b_D_receive 1 = .ok (.istore_n 1, 1) := by decide +kernel
theorem d_D_receive_2 : decode b_D_receive 2 = .ok (.iload_n 1, 1) := by decide +kernel
theorem d_D_receive_3 : decode b_D_receive 3 = .ok (.bipush 17, 2) := by decide +kernel
theorem d_D_receive_5 : decode b_D_receive 5 = .ok (.if_icmp .gt 39, 3) := by decide +kernel
theorem d_D_receive_8 : decode b_D_receive 8 = .ok (.aload_n 0, 1) := by decide +kernel
theorem d_D_receive_9 : decode b_D_receive 9 = .ok (.invokevirtual 68, 3) := by decide +kernel
theorem d_D_receive_12 : decode b_D_receive 12 = .ok (.istore_n 2, 1) := by decide +kernel
theorem d_D_receive_13 : decode b_D_receive 13 = .ok (.iload_n 2, 1) := by decide +kernel
theorem d_D_receive_14 : decode b_D_receive 14 = .ok (.iconst 1, 1) := by decide +kernel
theorem d_D_receive_15 : decode b_D_receive 15 = .ok (.iand, 1) := by decide +kernel
theorem d_D_receive_16 : decode b_D_receive 16 = .ok (.ifCond .eq 9, 3) := by decide +kernel
theorem d_D_receive_19 : decode b_D_receive 19 = .ok (.iload_n 1, 1) := by decide +kernel
theorem d_D_receive_20 : decode b_D_receive 20 = .ok (.bipush 17, 2) := by decide +kernel
theorem d_D_receive_22 : decode b_D_receive 22 = .ok (.if_icmp .ne 4, 3) := by decide +kernel
theorem d_D_receive_25 : decode b_D_receive 25 = .ok (.return_, 1) := by decide +kernel
theorem d_D_receive_26 : decode b_D_receive 26 = .ok (.aload_n 0, 1) := by decide +kernel
theorem d_D_receive_27 : decode b_D_receive 27 = .ok (.aload_n 0, 1) := by decide +kernel
theorem d_D_receive_28 : decode b_D_receive 28 = .ok (.getfield 27, 3) := by decide +kernel
theorem d_D_receive_31 : decode b_D_receive 31 = .ok (.iconst 0, 1) := by decide +kernel
theorem d_D_receive_32 : decode b_D_receive 32 = .ok (.invokevirtual 64, 3) := by decide +kernel
theorem d_D_receive_35 : decode b_D_receive 35 = .ok (.invokevirtual 80, 3) := by decide +kernel
theorem d_D_receive_38 : decode b_D_receive 38 = .ok (.iinc 1 1, 3) := by decide +kernel
theorem d_D_receive_41 : decode b_D_receive 41 = .ok (.goto (-39), 3) := by decide +kernel
theorem d_D_receive_44 : decode b_D_receive 44 = .ok (.return_, 1) := by decide +kernel
theorem d_D_handle_0 : decode b_D_handle 0 = .ok (.iload_n 1, 1) := by decide +kernel
theorem d_D_handle_1 : decode b_D_handle 1 = .ok (.bipush 19, 2) := by decide +kernel
theorem d_D_handle_3 : decode b_D_handle 3 = .ok (.if_icmp .ne 11, 3) := by decide +kernel
theorem d_D_handle_6 : decode b_D_handle 6 = .ok (.aload_n 0, 1) := by decide +kernel
theorem d_D_handle_7 : decode b_D_handle 7 = .ok (.iconst 1, 1) := by decide +kernel
theorem d_D_handle_8 : decode b_D_handle 8 = .ok (.putfield 34, 3) := by decide +kernel
theorem d_D_handle_11 : decode b_D_handle 11 = .ok (.goto 86, 3) := by decide +kernel
theorem d_D_handle_14 : decode b_D_handle 14 = .ok (.iload_n 1, 1) := by decide +kernel
theorem d_D_handle_15 : decode b_D_handle 15 = .ok (.bipush 17, 2) := by decide +kernel
theorem d_D_handle_17 : decode b_D_handle 17 = .ok (.if_icmp .ne 15, 3) := by decide +kernel
theorem d_D_handle_20 : decode b_D_handle 20 = .ok (.aload_n 0, 1) := by decide +kernel
theorem d_D_handle_21 : decode b_D_handle 21 = .ok (.iconst 0, 1) := by decide +kernel
theorem d_D_handle_22 : decode b_D_handle 22 = .ok (.putfield 34, 3) := by decide +kernel
theorem d_D_handle_25 : decode b_D_handle 25 = .ok (.aload_n 0, 1) := by decide +kernel
theorem d_D_handle_26 : decode b_D_handle 26 = .ok (.invokevirtual 54, 3) := by decide +kernel
theorem d_D_handle_29 : decode b_D_handle 29 = .ok (.goto 68, 3) := by decide +kernel
theorem d_D_handle_32 : decode b_D_handle 32 = .ok (.aload_n 0, 1) := by decide +kernel
theorem d_D_handle_33 : decode b_D_handle 33 = .ok (.getfield 20, 3) := by decide +kernel
theorem d_D_handle_36 : decode b_D_handle 36 = .ok (.invokevirtual 47, 3) := by decide +kernel
theorem d_D_handle_39 : decode b_D_handle 39 = .ok (.ifCond .eq 16, 3) := by decide +kernel
theorem d_D_handle_42 : decode b_D_handle 42 = .ok (.aload_n 0, 1) := by decide +kernel
theorem d_D_handle_43 : decode b_D_handle 43 = .ok (.dup, 1) := by decide +kernel
theorem d_D_handle_44 : decode b_D_handle 44 = .ok (.getfield 77, 3) := by decide +kernel
theorem d_D_handle_47 : decode b_D_handle 47 = .ok (.iconst 1, 1) := by decide +kernel
theorem d_D_handle_48 : decode b_D_handle 48 = .ok (.iadd, 1) := by decide +kernel
theorem d_D_handle_49 : decode b_D_handle 49 = .ok (.putfield 77, 3) := by decide +kernel
theorem d_D_handle_52 : decode b_D_handle 52 = .ok (.goto 45, 3) := by decide +kernel
theorem d_D_handle_55 : decode b_D_handle 55 = .ok (.aload_n 0, 1) := by decide +kernel
theorem d_D_handle_56 : decode b_D_handle 56 = .ok (.getfield 20, 3) := by decide +kernel
theorem d_D_handle_59 : decode b_D_handle 59 = .ok (.iload_n 1, 1) := by decide +kernel
theorem d_D_handle_60 : decode b_D_handle 60 = .ok (.invokevirtual 51, 3) := by decide +kernel
theorem d_D_handle_63 : decode b_D_handle 63 = .ok (.aload_n 0, 1) := by decide +kernel
theorem d_D_handle_64 : decode b_D_handle 64 = .ok (.getfield 20, 3) := by decide +kernel
theorem d_D_handle_67 : decode b_D_handle 67 = .ok (.getfield 57, 3) := by decide +kernel
theorem d_D_handle_70 : decode b_D_handle 70 = .ok (.bipush 18, 2) := by decide +kernel
theorem d_D_handle_72 : decode b_D_handle 72 = .ok (.if_icmp .lt 25, 3) := by decide +kernel
theorem d_D_handle_75 : decode b_D_handle 75 = .ok (.aload_n 0, 1) := by decide +kernel
theorem d_D_handle_76 : decode b_D_handle 76 = .ok (.getfield 38, 3) := by decide +kernel
theorem d_D_handle_79 : decode b_D_handle 79 = .ok (.ifCond .ne 18, 3) := by decide +kernel
theorem d_D_handle_82 : decode b_D_handle 82 = .ok (.aload_n 0, 1) := by decide +kernel
theorem d_D_handle_83 : decode b_D_handle 83 = .ok (.bipush 19, 2) := by decide +kernel
theorem d_D_handle_85 : decode b_D_handle 85 = .ok (.putfield 23, 3) := by decide +kernel
theorem d_D_handle_88 : decode b_D_handle 88 = .ok (.aload_n 0, 1) := by decide +kernel
theorem d_D_handle_89 : decode b_D_handle 89 = .ok (.iconst 1, 1) := by decide +kernel
theorem d_D_handle_90 : decode b_D_handle 90 = .ok (.putfield 38, 3) := by decide +kernel
theorem d_D_handle_93 : decode b_D_handle 93 = .ok (.aload_n 0, 1) := by decide +kernel
theorem d_D_handle_94 : decode b_D_handle 94 = .ok (.invokevirtual 54, 3) := by decide +kernel
theorem d_D_handle_97 : decode b_D_handle 97 = .ok (.return_, 1) := by decide +kernel
theorem d_D_transmit_0 : decode b_D_transmit 0 = .ok (.iconst 0, 1) := by decide +kernel
theorem d_D_transmit_1 : decode b_D_transmit 1 = .ok (.istore_n 1, 1) := by decide +kernel
theorem d_D_transmit_2 : decode b_D_transmit 2 = .ok (.aload_n 0, 1) := by decide +kernel
theorem d_D_transmit_3 : decode b_D_transmit 3 = .ok (.getfield 23, 3) := by decide +kernel
theorem d_D_transmit_6 : decode b_D_transmit 6 = .ok (.iconst (-1), 1) := by decide +kernel
theorem d_D_transmit_7 : decode b_D_transmit 7 = .ok (.if_icmp .eq 22, 3) := by decide +kernel
theorem d_D_transmit_10 : decode b_D_transmit 10 = .ok (.aload_n 0, 1) := by decide +kernel
theorem d_D_transmit_11 : decode b_D_transmit 11 = .ok (.getfield 27, 3) := by decide +kernel
theorem d_D_transmit_14 : decode b_D_transmit 14 = .ok (.iconst 0, 1) := by decide +kernel
theorem d_D_transmit_15 : decode b_D_transmit 15 = .ok (.aload_n 0, 1) := by decide +kernel
theorem d_D_transmit_16 : decode b_D_transmit 16 = .ok (.getfield 23, 3) := by decide +kernel
theorem d_D_transmit_19 : decode b_D_transmit 19 = .ok (.invokevirtual 41, 3) := by decide +kernel
theorem d_D_transmit_22 : decode b_D_transmit 22 = .ok (.aload_n 0, 1) := by decide +kernel
theorem d_D_transmit_23 : decode b_D_transmit 23 = .ok (.iconst (-1), 1) := by decide +kernel
theorem d_D_transmit_24 : decode b_D_transmit 24 = .ok (.putfield 23, 3) := by decide +kernel
theorem d_D_transmit_27 : decode b_D_transmit 27 = .ok (.iconst 1, 1) := by decide +kernel
theorem d_D_transmit_28 : decode b_D_transmit 28 = .ok (.istore_n 1, 1) := by decide +kernel
theorem d_D_transmit_29 : decode b_D_transmit 29 = .ok (.iload_n 1, 1) := by decide +kernel
theorem d_D_transmit_30 : decode b_D_transmit 30 = .ok (.bipush 16, 2) := by decide +kernel
theorem d_D_transmit_32 : decode b_D_transmit 32 = .ok (.if_icmp .ge 41, 3) := by decide +kernel
theorem d_D_transmit_35 : decode b_D_transmit 35 = .ok (.aload_n 0, 1) := by decide +kernel
theorem d_D_transmit_36 : decode b_D_transmit 36 = .ok (.getfield 34, 3) := by decide +kernel
theorem d_D_transmit_39 : decode b_D_transmit 39 = .ok (.ifCond .ne 34, 3) := by decide +kernel
theorem d_D_transmit_42 : decode b_D_transmit 42 = .ok (.aload_n 0, 1) := by decide +kernel
theorem d_D_transmit_43 : decode b_D_transmit 43 = .ok (.getfield 16, 3) := by decide +kernel
theorem d_D_transmit_46 : decode b_D_transmit 46 = .ok (.getfield 57, 3) := by decide +kernel
theorem d_D_transmit_49 : decode b_D_transmit 49 = .ok (.ifCond .le 24, 3) := by decide +kernel
theorem d_D_transmit_52 : decode b_D_transmit 52 = .ok (.aload_n 0, 1) := by decide +kernel
theorem d_D_transmit_53 : decode b_D_transmit 53 = .ok (.getfield 27, 3) := by decide +kernel
theorem d_D_transmit_56 : decode b_D_transmit 56 = .ok (.iconst 0, 1) := by decide +kernel
theorem d_D_transmit_57 : decode b_D_transmit 57 = .ok (.aload_n 0, 1) := by decide +kernel
theorem d_D_transmit_58 : decode b_D_transmit 58 = .ok (.getfield 16, 3) := by decide +kernel
theorem d_D_transmit_61 : decode b_D_transmit 61 = .ok (.invokevirtual 60, 3) := by decide +kernel
theorem d_D_transmit_64 : decode b_D_transmit 64 = .ok (.invokevirtual 41, 3) := by decide +kernel
theorem d_D_transmit_67 : decode b_D_transmit 67 = .ok (.iinc 1 1, 3) := by decide +kernel
theorem d_D_transmit_70 : decode b_D_transmit 70 = .ok (.goto (-41), 3) := by decide +kernel
theorem d_D_transmit_73 : decode b_D_transmit 73 = .ok (.iload_n 1, 1) := by decide +kernel
theorem d_D_transmit_74 : decode b_D_transmit 74 = .ok (.ifCond .ne 22, 3) := by decide +kernel
theorem d_D_transmit_77 : decode b_D_transmit 77 = .ok (.aload_n 0, 1) := by decide +kernel
theorem d_D_transmit_78 : decode b_D_transmit 78 = .ok (.getfield 27, 3) := by decide +kernel
theorem d_D_transmit_81 : decode b_D_transmit 81 = .ok (.iconst 1, 1) := by decide +kernel
theorem d_D_transmit_82 : decode b_D_transmit 82 = .ok (.aload_n 0, 1) := by decide +kernel
theorem d_D_transmit_83 : decode b_D_transmit 83 = .ok (.getfield 27, 3) := by decide +kernel
theorem d_D_transmit_86 : decode b_D_transmit 86 = .ok (.iconst 1, 1) := by decide +kernel
theorem d_D_transmit_87 : decode b_D_transmit 87 = .ok (.invokevirtual 64, 3) := by decide +kernel
theorem d_D_transmit_90 : decode b_D_transmit 90 = .ok (.bipush (-3), 2) := by decide +kernel
theorem d_D_transmit_92 : decode b_D_transmit 92 = .ok (.iand, 1) := by decide +kernel
theorem d_D_transmit_93 : decode b_D_transmit 93 = .ok (.invokevirtual 41, 3) := by decide +kernel
theorem d_D_transmit_96 : decode b_D_transmit 96 = .ok (.return_, 1) := by decide +kernel
theorem d_D_flowBits_0 : decode b_D_flowBits 0 = .ok (.aload_n 0, 1) := by decide +kernel
theorem d_D_flowBits_1 : decode b_D_flowBits 1 = .ok (.getfield 34, 3) := by decide +kernel
theorem d_D_flowBits_4 : decode b_D_flowBits 4 = .ok (.ifCond .eq 7, 3) := by decide +kernel
theorem d_D_flowBits_7 : decode b_D_flowBits 7 = .ok (.iconst 1, 1) := by decide +kernel
theorem d_D_flowBits_8 : decode b_D_flowBits 8 = .ok (.goto 4, 3) := by decide +kernel
theorem d_D_flowBits_11 : decode b_D_flowBits 11 = .ok (.iconst 0, 1) := by decide +kernel
theorem d_D_flowBits_12 : decode b_D_flowBits 12 = .ok (.istore_n 1, 1) := by decide +kernel
theorem d_D_flowBits_13 : decode b_D_flowBits 13 = .ok (.iload_n 1, 1) := by decide +kernel
theorem d_D_flowBits_14 : decode b_D_flowBits 14 = .ok (.aload_n 0, 1) := by decide +kernel
theorem d_D_flowBits_15 : decode b_D_flowBits 15 = .ok (.getfield 38, 3) := by decide +kernel
theorem d_D_flowBits_18 : decode b_D_flowBits 18 = .ok (.ifCond .eq 7, 3) := by decide +kernel
theorem d_D_flowBits_21 : decode b_D_flowBits 21 = .ok (.iconst 2, 1) := by decide +kernel
theorem d_D_flowBits_22 : decode b_D_flowBits 22 = .ok (.goto 4, 3) := by decide +kernel
theorem d_D_flowBits_25 : decode b_D_flowBits 25 = .ok (.iconst 0, 1) := by decide +kernel
theorem d_D_flowBits_26 : decode b_D_flowBits 26 = .ok (.iadd, 1) := by decide +kernel
theorem d_D_flowBits_27 : decode b_D_flowBits 27 = .ok (.istore_n 1, 1) := by decide +kernel
theorem d_D_flowBits_28 : decode b_D_flowBits 28 = .ok (.iload_n 1, 1) := by decide +kernel
theorem d_D_flowBits_29 : decode b_D_flowBits 29 = .ok (.aload_n 0, 1) := by decide +kernel
theorem d_D_flowBits_30 : decode b_D_flowBits 30 = .ok (.getfield 23, 3) := by decide +kernel
theorem d_D_flowBits_33 : decode b_D_flowBits 33 = .ok (.bipush 17, 2) := by decide +kernel
theorem d_D_flowBits_35 : decode b_D_flowBits 35 = .ok (.if_icmp .ne 7, 3) := by decide +kernel
theorem d_D_flowBits_38 : decode b_D_flowBits 38 = .ok (.iconst 4, 1) := by decide +kernel
theorem d_D_flowBits_39 : decode b_D_flowBits 39 = .ok (.goto 4, 3) := by decide +kernel
theorem d_D_flowBits_42 : decode b_D_flowBits 42 = .ok (.iconst 0, 1) := by decide +kernel
theorem d_D_flowBits_43 : decode b_D_flowBits 43 = .ok (.iadd, 1) := by decide +kernel
theorem d_D_flowBits_44 : decode b_D_flowBits 44 = .ok (.istore_n 1, 1) := by decide +kernel
theorem d_D_flowBits_45 : decode b_D_flowBits 45 = .ok (.iload_n 1, 1) := by decide +kernel
theorem d_D_flowBits_46 : decode b_D_flowBits 46 = .ok (.aload_n 0, 1) := by decide +kernel
theorem d_D_flowBits_47 : decode b_D_flowBits 47 = .ok (.getfield 23, 3) := by decide +kernel
theorem d_D_flowBits_50 : decode b_D_flowBits 50 = .ok (.bipush 19, 2) := by decide +kernel
theorem d_D_flowBits_52 : decode b_D_flowBits 52 = .ok (.if_icmp .ne 8, 3) := by decide +kernel
theorem d_D_flowBits_55 : decode b_D_flowBits 55 = .ok (.bipush 8, 2) := by decide +kernel
theorem d_D_flowBits_57 : decode b_D_flowBits 57 = .ok (.goto 4, 3) := by decide +kernel
theorem d_D_flowBits_60 : decode b_D_flowBits 60 = .ok (.iconst 0, 1) := by decide +kernel
theorem d_D_flowBits_61 : decode b_D_flowBits 61 = .ok (.iadd, 1) := by decide +kernel
theorem d_D_flowBits_62 : decode b_D_flowBits 62 = .ok (.istore_n 1, 1) := by decide +kernel
theorem d_D_flowBits_63 : decode b_D_flowBits 63 = .ok (.iload_n 1, 1) := by decide +kernel
theorem d_D_flowBits_64 : decode b_D_flowBits 64 = .ok (.ireturn, 1) := by decide +kernel
theorem d_M_init_0 : decode b_M_init 0 = .ok (.aload_n 0, 1) := by decide +kernel
theorem d_M_init_1 : decode b_M_init 1 = .ok (.invokespecial 1, 3) := by decide +kernel
theorem d_M_init_4 : decode b_M_init 4 = .ok (.return_, 1) := by decide +kernel
theorem d_M_isLooped_0 : decode b_M_isLooped 0 = .ok (.aload_n 0, 1) := by decide +kernel
theorem d_M_isLooped_1 : decode b_M_isLooped 1 = .ok (.getfield 7, 3) := by decide +kernel
theorem d_M_isLooped_4 : decode b_M_isLooped 4 = .ok (.bipush 16, 2) := by decide +kernel
theorem d_M_isLooped_6 : decode b_M_isLooped 6 = .ok (.iand, 1) := by decide +kernel
theorem d_M_isLooped_7 : decode b_M_isLooped 7 = .ok (.ifCond .eq 7, 3) := by decide +kernel
theorem d_M_isLooped_10 : decode b_M_isLooped 10 = .ok (.iconst 1, 1) := by decide +kernel
theorem d_M_isLooped_11 : decode b_M_isLooped 11 = .ok (.goto 4, 3) := by decide +kernel
theorem d_M_isLooped_14 : decode b_M_isLooped 14 = .ok (.iconst 0, 1) := by decide +kernel
theorem d_M_isLooped_15 : decode b_M_isLooped 15 = .ok (.ireturn, 1) := by decide +kernel
theorem d_M_inputs_0 : decode b_M_inputs 0 = .ok (.aload_n 0, 1) := by decide +kernel
theorem d_M_inputs_1 : decode b_M_inputs 1 = .ok (.invokevirtual 13, 3) := by decide +kernel
theorem d_M_inputs_4 : decode b_M_inputs 4 = .ok (.ifCond .ne 8, 3) := by decide +kernel
theorem d_M_inputs_7 : decode b_M_inputs 7 = .ok (.aload_n 0, 1) := by decide +kernel
theorem d_M_inputs_8 : decode b_M_inputs 8 = .ok (.getfield 17, 3) := by decide +kernel
theorem d_M_inputs_11 : decode b_M_inputs 11 = .ok (.ireturn, 1) := by decide +kernel
theorem d_M_inputs_12 : decode b_M_inputs 12 = .ok (.aload_n 0, 1) := by decide +kernel
theorem d_M_inputs_13 : decode b_M_inputs 13 = .ok (.getfield 7, 3) := by decide +kernel
theorem d_M_inputs_16 : decode b_M_inputs 16 = .ok (.bipush 12, 2) := by decide +kernel
theorem d_M_inputs_18 : decode b_M_inputs 18 = .ok (.iand, 1) := by decide +kernel
theorem d_M_inputs_19 : decode b_M_inputs 19 = .ok (.aload_n 0, 1) := by decide +kernel
theorem d_M_inputs_20 : decode b_M_inputs 20 = .ok (.getfield 7, 3) := by decide +kernel
theorem d_M_inputs_23 : decode b_M_inputs 23 = .ok (.iconst 1, 1) := by decide +kernel
theorem d_M_inputs_24 : decode b_M_inputs 24 = .ok (.iand, 1) := by decide +kernel
theorem d_M_inputs_25 : decode b_M_inputs 25 = .ok (.iconst 1, 1) := by decide +kernel
theorem d_M_inputs_26 : decode b_M_inputs 26 = .ok (.ishl, 1) := by decide +kernel
theorem d_M_inputs_27 : decode b_M_inputs 27 = .ok (.ior, 1) := by decide +kernel
theorem d_M_inputs_28 : decode b_M_inputs 28 = .ok (.aload_n 0, 1) := by decide +kernel
theorem d_M_inputs_29 : decode b_M_inputs 29 = .ok (.getfield 7, 3) := by decide +kernel
theorem d_M_inputs_32 : decode b_M_inputs 32 = .ok (.iconst 1, 1) := by decide +kernel
theorem d_M_inputs_33 : decode b_M_inputs 33 = .ok (.ishr, 1) := by decide +kernel
theorem d_M_inputs_34 : decode b_M_inputs 34 = .ok (.iconst 1, 1) := by decide +kernel
theorem d_M_inputs_35 : decode b_M_inputs 35 = .ok (.iand, 1) := by decide +kernel
theorem d_M_inputs_36 : decode b_M_inputs 36 = .ok (.ior, 1) := by decide +kernel
theorem d_M_inputs_37 : decode b_M_inputs 37 = .ok (.ireturn, 1) := by decide +kernel
theorem d_M_setLines_0 : decode b_M_setLines 0 = .ok (.aload_n 0, 1) := by decide +kernel
theorem d_M_setLines_1 : decode b_M_setLines 1 = .ok (.invokevirtual 20, 3) := by decide +kernel
theorem d_M_setLines_4 : decode b_M_setLines 4 = .ok (.istore_n 2, 1) := by decide +kernel
theorem d_M_setLines_5 : decode b_M_setLines 5 = .ok (.aload_n 0, 1) := by decide +kernel
theorem d_M_setLines_6 : decode b_M_setLines 6 = .ok (.iload_n 1, 1) := by decide +kernel
theorem d_M_setLines_7 : decode b_M_setLines 7 = .ok (.putfield 17, 3) := by decide +kernel
theorem d_M_setLines_10 : decode b_M_setLines 10 = .ok (.aload_n 0, 1) := by decide +kernel
theorem d_M_setLines_11 : decode b_M_setLines 11 = .ok (.iload_n 2, 1) := by decide +kernel
theorem d_M_setLines_12 : decode b_M_setLines 12 = .ok (.invokevirtual 24, 3) := by decide +kernel
theorem d_M_setLines_15 : decode b_M_setLines 15 = .ok (.return_, 1) := by decide +kernel
theorem d_M_setControl_0 : decode b_M_setControl 0 = .ok (.aload_n 0, 1) := by decide +kernel
theorem d_M_setControl_1 : decode b_M_setControl 1 = .ok (.invokevirtual 20, 3) := by decide +kernel
theorem d_M_setControl_4 : decode b_M_setControl 4 = .ok (.istore_n 2, 1) := by decide +kernel
theorem d_M_setControl_5 : decode b_M_setControl 5 = .ok (.aload_n 0, 1) := by decide +kernel
theorem d_M_setControl_6 : decode b_M_setControl 6 = .ok (.iload_n 1, 1) := by decide +kernel
theorem d_M_setControl_7 : decode b_M_setControl 7 = .ok (.putfield 7, 3) := by decide +kernel
theorem d_M_setControl_10 : decode b_M_setControl 10 = .ok (.aload_n 0, 1) := by decide +kernel
theorem d_M_setControl_11 : decode b_M_setControl 11 = .ok (.iload_n 2, 1) := by decide +kernel
theorem d_M_setControl_12 : decode b_M_setControl 12 = .ok (.invokevirtual 24, 3) := by decide +kernel
theorem d_M_setControl_15 : decode b_M_setControl 15 = .ok (.return_, 1) := by decide +kernel
theorem d_M_noteChanges_0 : decode b_M_noteChanges 0 = .ok (.aload_n 0, 1) := by decide +kernel
theorem d_M_noteChanges_1 : decode b_M_noteChanges 1 = .ok (.invokevirtual 20, 3) := by decide +kernel
theorem d_M_noteChanges_4 : decode b_M_noteChanges 4 = .ok (.istore_n 2, 1) := by decide +kernel
theorem d_M_noteChanges_5 : decode b_M_noteChanges 5 = .ok (.aload_n 0, 1) := by decide +kernel
theorem d_M_noteChanges_6 : decode b_M_noteChanges 6 = .ok (.dup, 1) := by decide +kernel
theorem d_M_noteChanges_7 : decode b_M_noteChanges 7 = .ok (.getfield 28, 3) := by decide +kernel
theorem d_M_noteChanges_10 : decode b_M_noteChanges 10 = .ok (.iload_n 1, 1) := by decide +kernel
theorem d_M_noteChanges_11 : decode b_M_noteChanges 11 = .ok (.iload_n 2, 1) := by decide +kernel
theorem d_M_noteChanges_12 : decode b_M_noteChanges 12 = .ok (.ixor, 1) := by decide +kernel
theorem d_M_noteChanges_13 : decode b_M_noteChanges 13 = .ok (.bipush 11, 2) := by decide +kernel
theorem d_M_noteChanges_15 : decode b_M_noteChanges 15 = .ok (.iand, 1) := by decide +kernel
theorem d_M_noteChanges_16 : decode b_M_noteChanges 16 = .ok (.ior, 1) := by decide +kernel
theorem d_M_noteChanges_17 : decode b_M_noteChanges 17 = .ok (.putfield 28, 3) := by decide +kernel
theorem d_M_noteChanges_20 : decode b_M_noteChanges 20 = .ok (.aload_n 0, 1) := by decide +kernel
theorem d_M_noteChanges_21 : decode b_M_noteChanges 21 = .ok (.dup, 1) := by decide +kernel
theorem d_M_noteChanges_22 : decode b_M_noteChanges 22 = .ok (.getfield 28, 3) := by decide +kernel
theorem d_M_noteChanges_25 : decode b_M_noteChanges 25 = .ok (.iload_n 1, 1) := by decide +kernel
theorem d_M_noteChanges_26 : decode b_M_noteChanges 26 = .ok (.iload_n 2, 1) := by decide +kernel
theorem d_M_noteChanges_27 : decode b_M_noteChanges 27 = .ok (.iconst (-1), 1) := by decide +kernel
theorem d_M_noteChanges_28 : decode b_M_noteChanges 28 = .ok (.ixor, 1) := by decide +kernel
theorem d_M_noteChanges_29 : decode b_M_noteChanges 29 = .ok (.iand, 1) := by decide +kernel
theorem d_M_noteChanges_30 : decode b_M_noteChanges 30 = .ok (.iconst 4, 1) := by decide +kernel
theorem d_M_noteChanges_31 : decode b_M_noteChanges 31 = .ok (.iand, 1) := by decide +kernel
theorem d_M_noteChanges_32 : decode b_M_noteChanges 32 = .ok (.ior, 1) := by decide +kernel
theorem d_M_noteChanges_33 : decode b_M_noteChanges 33 = .ok (.putfield 28, 3) := by decide +kernel
theorem d_M_noteChanges_36 : decode b_M_noteChanges 36 = .ok (.return_, 1) := by decide +kernel
theorem d_M_readChanges_0 : decode b_M_readChanges 0 = .ok (.aload_n 0, 1) := by decide +kernel
theorem d_M_readChanges_1 : decode b_M_readChanges 1 = .ok (.getfield 28, 3) := by decide +kernel
theorem d_M_readChanges_4 : decode b_M_readChanges 4 = .ok (.bipush 16, 2) := by decide +kernel
theorem d_M_readChanges_6 : decode b_M_readChanges 6 = .ok (.aload_n 0, 1) := by decide +kernel
theorem d_M_readChanges_7 : decode b_M_readChanges 7 = .ok (.invokevirtual 20, 3) := by decide +kernel
theorem d_M_readChanges_10 : decode b_M_readChanges 10 = .ok (.imul, 1) := by decide +kernel
theorem d_M_readChanges_11 : decode b_M_readChanges 11 = .ok (.iadd, 1) := by decide +kernel
theorem d_M_readChanges_12 : decode b_M_readChanges 12 = .ok (.istore_n 1, 1) := by decide +kernel
theorem d_M_readChanges_13 : decode b_M_readChanges 13 = .ok (.aload_n 0, 1) := by decide +kernel
theorem d_M_readChanges_14 : decode b_M_readChanges 14 = .ok (.iconst 0, 1) := by decide +kernel
theorem d_M_readChanges_15 : decode b_M_readChanges 15 = .ok (.putfield 28, 3) := by decide +kernel
theorem d_M_readChanges_18 : decode b_M_readChanges 18 = .ok (.iload_n 1, 1) := by decide +kernel
theorem d_M_readChanges_19 : decode b_M_readChanges 19 = .ok (.ireturn, 1) := by decide +kernel
theorem d_R_init_0 : decode b_R_init 0 = .ok (.aload_n 0, 1) := by decide +kernel
theorem d_R_init_1 : decode b_R_init 1 = .ok (.invokespecial 1, 3) := by decide +kernel
theorem d_R_init_4 : decode b_R_init 4 = .ok (.aload_n 0, 1) := by decide +kernel
theorem d_R_init_5 : decode b_R_init 5 = .ok (.bipush 32, 2) := by decide +kernel
theorem d_R_init_7 : decode b_R_init 7 = .ok (.newarray .int, 2) := by decide +kernel
theorem d_R_init_9 : decode b_R_init 9 = .ok (.putfield 9, 3) := by decide +kernel
theorem d_R_init_12 : decode b_R_init 12 = .ok (.aload_n 0, 1) := by decide +kernel
theorem d_R_init_13 : decode b_R_init 13 = .ok (.iload_n 1, 1) := by decide +kernel
theorem d_R_init_14 : decode b_R_init 14 = .ok (.putfield 13, 3) := by decide +kernel
theorem d_R_init_17 : decode b_R_init 17 = .ok (.return_, 1) := by decide +kernel
theorem d_R_isFull_0 : decode b_R_isFull 0 = .ok (.aload_n 0, 1) := by decide +kernel
theorem d_R_isFull_1 : decode b_R_isFull 1 = .ok (.getfield 17, 3) := by decide +kernel
theorem d_R_isFull_4 : decode b_R_isFull 4 = .ok (.aload_n 0, 1) := by decide +kernel
theorem d_R_isFull_5 : decode b_R_isFull 5 = .ok (.getfield 13, 3) := by decide +kernel
theorem d_R_isFull_8 : decode b_R_isFull 8 = .ok (.if_icmp .lt 7, 3) := by decide +kernel
theorem d_R_isFull_11 : decode b_R_isFull 11 = .ok (.iconst 1, 1) := by decide +kernel
theorem d_R_isFull_12 : decode b_R_isFull 12 = .ok (.goto 4, 3) := by decide +kernel
theorem d_R_isFull_15 : decode b_R_isFull 15 = .ok (.iconst 0, 1) := by decide +kernel
theorem d_R_isFull_16 : decode b_R_isFull 16 = .ok (.ireturn, 1) := by decide +kernel
theorem d_R_clear_0 : decode b_R_clear 0 = .ok (.aload_n 0, 1) := by decide +kernel
theorem d_R_clear_1 : decode b_R_clear 1 = .ok (.iconst 0, 1) := by decide +kernel
theorem d_R_clear_2 : decode b_R_clear 2 = .ok (.putfield 17, 3) := by decide +kernel
theorem d_R_clear_5 : decode b_R_clear 5 = .ok (.return_, 1) := by decide +kernel
theorem d_R_append_0 : decode b_R_append 0 = .ok (.aload_n 0, 1) := by decide +kernel
theorem d_R_append_1 : decode b_R_append 1 = .ok (.getfield 17, 3) := by decide +kernel
theorem d_R_append_4 : decode b_R_append 4 = .ok (.aload_n 0, 1) := by decide +kernel
theorem d_R_append_5 : decode b_R_append 5 = .ok (.getfield 13, 3) := by decide +kernel
theorem d_R_append_8 : decode b_R_append 8 = .ok (.if_icmp .ge 31, 3) := by decide +kernel
theorem d_R_append_11 : decode b_R_append 11 = .ok (.aload_n 0, 1) := by decide +kernel
theorem d_R_append_12 : decode b_R_append 12 = .ok (.getfield 9, 3) := by decide +kernel
theorem d_R_append_15 : decode b_R_append 15 = .ok (.aload_n 0, 1) := by decide +kernel
theorem d_R_append_16 : decode b_R_append 16 = .ok (.getfield 20, 3) := by decide +kernel
theorem d_R_append_19 : decode b_R_append 19 = .ok (.aload_n 0, 1) := by decide +kernel
theorem d_R_append_20 : decode b_R_append 20 = .ok (.getfield 17, 3) := by decide +kernel
theorem d_R_append_23 : decode b_R_append 23 = .ok (.iadd, 1) := by decide +kernel
theorem d_R_append_24 : decode b_R_append 24 = .ok (.bipush 31, 2) := by decide +kernel
theorem d_R_append_26 : decode b_R_append 26 = .ok (.iand, 1) := by decide +kernel
theorem d_R_append_27 : decode b_R_append 27 = .ok (.iload_n 1, 1) := by decide +kernel
theorem d_R_append_28 : decode b_R_append 28 = .ok (.iastore, 1) := by decide +kernel
theorem d_R_append_29 : decode b_R_append 29 = .ok (.aload_n 0, 1) := by decide +kernel
theorem d_R_append_30 : decode b_R_append 30 = .ok (.dup, 1) := by decide +kernel
theorem d_R_append_31 : decode b_R_append 31 = .ok (.getfield 17, 3) := by decide +kernel
theorem d_R_append_34 : decode b_R_append 34 = .ok (.iconst 1, 1) := by decide +kernel
theorem d_R_append_35 : decode b_R_append 35 = .ok (.iadd, 1) := by decide +kernel
theorem d_R_append_36 : decode b_R_append 36 = .ok (.putfield 17, 3) := by decide +kernel
theorem d_R_append_39 : decode b_R_append 39 = .ok (.return_, 1) := by decide +kernel
theorem d_R_oldest_0 : decode b_R_oldest 0 = .ok (.aload_n 0, 1) := by decide +kernel
theorem d_R_oldest_1 : decode b_R_oldest 1 = .ok (.getfield 17, 3) := by decide +kernel
theorem d_R_oldest_4 : decode b_R_oldest 4 = .ok (.ifCond .le 18, 3) := by decide +kernel
theorem d_R_oldest_7 : decode b_R_oldest 7 = .ok (.aload_n 0, 1) := by decide +kernel
theorem d_R_oldest_8 : decode b_R_oldest 8 = .ok (.getfield 9, 3) := by decide +kernel
theorem d_R_oldest_11 : decode b_R_oldest 11 = .ok (.aload_n 0, 1) := by decide +kernel
theorem d_R_oldest_12 : decode b_R_oldest 12 = .ok (.getfield 20, 3) := by decide +kernel
theorem d_R_oldest_15 : decode b_R_oldest 15 = .ok (.bipush 31, 2) := by decide +kernel
theorem d_R_oldest_17 : decode b_R_oldest 17 = .ok (.iand, 1) := by decide +kernel
theorem d_R_oldest_18 : decode b_R_oldest 18 = .ok (.iaload, 1) := by decide +kernel
theorem d_R_oldest_19 : decode b_R_oldest 19 = .ok (.goto 4, 3) := by decide +kernel
theorem d_R_oldest_22 : decode b_R_oldest 22 = .ok (.iconst 0, 1) := by decide +kernel
theorem d_R_oldest_23 : decode b_R_oldest 23 = .ok (.ireturn, 1) := by decide +kernel
theorem d_R_replaceOldest_0 : decode b_R_replaceOldest 0 = .ok (.aload_n 0, 1) := by decide +kernel
theorem d_R_replaceOldest_1 : decode b_R_replaceOldest 1 = .ok (.getfield 17, 3) := by decide +kernel
theorem d_R_replaceOldest_4 : decode b_R_replaceOldest 4 = .ok (.ifCond .le 16, 3) := by decide +kernel
theorem d_R_replaceOldest_7 : decode b_R_replaceOldest 7 = .ok (.aload_n 0, 1) := by decide +kernel
theorem d_R_replaceOldest_8 : decode b_R_replaceOldest 8 = .ok (.getfield 9, 3) := by decide +kernel
theorem d_R_replaceOldest_11 : decode b_R_replaceOldest 11 = .ok (.aload_n 0, 1) := by decide +kernel
theorem d_R_replaceOldest_12 : decode b_R_replaceOldest 12 = .ok (.getfield 20, 3) := by decide +kernel
theorem d_R_replaceOldest_15 : decode b_R_replaceOldest 15 = .ok (.bipush 31, 2) := by decide +kernel
theorem d_R_replaceOldest_17 : decode b_R_replaceOldest 17 = .ok (.iand, 1) := by decide +kernel
theorem d_R_replaceOldest_18 : decode b_R_replaceOldest 18 = .ok (.iload_n 1, 1) := by decide +kernel
theorem d_R_replaceOldest_19 : decode b_R_replaceOldest 19 = .ok (.iastore, 1) := by decide +kernel
theorem d_R_replaceOldest_20 : decode b_R_replaceOldest 20 = .ok (.return_, 1) := by decide +kernel
theorem d_R_removeOldest_0 : decode b_R_removeOldest 0 = .ok (.aload_n 0, 1) := by decide +kernel
theorem d_R_removeOldest_1 : decode b_R_removeOldest 1 = .ok (.getfield 17, 3) := by decide +kernel
theorem d_R_removeOldest_4 : decode b_R_removeOldest 4 = .ok (.ifCond .ne 5, 3) := by decide +kernel
theorem d_R_removeOldest_7 : decode b_R_removeOldest 7 = .ok (.iconst 0, 1) := by decide +kernel
theorem d_R_removeOldest_8 : decode b_R_removeOldest 8 = .ok (.ireturn, 1) := by decide +kernel
theorem d_R_removeOldest_9 : decode b_R_removeOldest 9 = .ok (.aload_n 0, 1) := by decide +kernel
theorem d_R_removeOldest_10 : decode b_R_removeOldest 10 = .ok (.getfield 9, 3) := by decide +kernel
theorem d_R_removeOldest_13 : decode b_R_removeOldest 13 = .ok (.aload_n 0, 1) := by decide +kernel
theorem d_R_removeOldest_14 : decode b_R_removeOldest 14 = .ok (.getfield 20, 3) := by decide +kernel
theorem d_R_removeOldest_17 : decode b_R_removeOldest 17 = .ok (.bipush 31, 2) := by decide +kernel
theorem d_R_removeOldest_19 : decode b_R_removeOldest 19 = .ok (.iand, 1) := by decide +kernel
theorem d_R_removeOldest_20 : decode b_R_removeOldest 20 = .ok (.iaload, 1) := by decide +kernel
theorem d_R_removeOldest_21 : decode b_R_removeOldest 21 = .ok (.istore_n 1, 1) := by decide +kernel
theorem d_R_removeOldest_22 : decode b_R_removeOldest 22 = .ok (.aload_n 0, 1) := by decide +kernel
theorem d_R_removeOldest_23 : decode b_R_removeOldest 23 = .ok (.aload_n 0, 1) := by decide +kernel
theorem d_R_removeOldest_24 : decode b_R_removeOldest 24 = .ok (.getfield 20, 3) := by decide +kernel
theorem d_R_removeOldest_27 : decode b_R_removeOldest 27 = .ok (.iconst 1, 1) := by decide +kernel
theorem d_R_removeOldest_28 : decode b_R_removeOldest 28 = .ok (.iadd, 1) := by decide +kernel
theorem d_R_removeOldest_29 : decode b_R_removeOldest 29 = .ok (.bipush 31, 2) := by decide +kernel
theorem d_R_removeOldest_31 : decode b_R_removeOldest 31 = .ok (.iand, 1) := by decide +kernel
theorem d_R_removeOldest_32 : decode b_R_removeOldest 32 = .ok (.putfield 20, 3) := by decide +kernel
theorem d_R_removeOldest_35 : decode b_R_removeOldest 35 = .ok (.aload_n 0, 1) := by decide +kernel
theorem d_R_removeOldest_36 : decode b_R_removeOldest 36 = .ok (.dup, 1) := by decide +kernel
theorem d_R_removeOldest_37 : decode b_R_removeOldest 37 = .ok (.getfield 17, 3) := by decide +kernel
theorem d_R_removeOldest_40 : decode b_R_removeOldest 40 = .ok (.iconst 1, 1) := by decide +kernel
theorem d_R_removeOldest_41 : decode b_R_removeOldest 41 = .ok (.isub, 1) := by decide +kernel
theorem d_R_removeOldest_42 : decode b_R_removeOldest 42 = .ok (.putfield 17, 3) := by decide +kernel
theorem d_R_removeOldest_45 : decode b_R_removeOldest 45 = .ok (.iload_n 1, 1) := by decide +kernel
theorem d_R_removeOldest_46 : decode b_R_removeOldest 46 = .ok (.ireturn, 1) := by decide +kernel
theorem d_R_hasItemAbove_0 : decode b_R_hasItemAbove 0 = .ok (.iconst 0, 1) := by decide +kernel
theorem d_R_hasItemAbove_1 : decode b_R_hasItemAbove 1 = .ok (.istore_n 2, 1) := by decide +kernel
theorem d_R_hasItemAbove_2 : decode b_R_hasItemAbove 2 = .ok (.iload_n 2, 1) := by decide +kernel
theorem d_R_hasItemAbove_3 : decode b_R_hasItemAbove 3 = .ok (.aload_n 0, 1) := by decide +kernel
theorem d_R_hasItemAbove_4 : decode b_R_hasItemAbove 4 = .ok (.getfield 17, 3) := by decide +kernel
theorem d_R_hasItemAbove_7 : decode b_R_hasItemAbove 7 = .ok (.if_icmp .ge 29, 3) := by decide +kernel
theorem d_R_hasItemAbove_10 : decode b_R_hasItemAbove 10 = .ok (.aload_n 0, 1) := by decide +kernel
theorem d_R_hasItemAbove_11 : decode b_R_hasItemAbove 11 = .ok (.getfield 9, 3) := by decide +kernel
theorem d_R_hasItemAbove_14 : decode b_R_hasItemAbove 14 = .ok (.aload_n 0, 1) := by decide +kernel
theorem d_R_hasItemAbove_15 : decode b_R_hasItemAbove 15 = .ok (.getfield 20, 3) := by decide +kernel
theorem d_R_hasItemAbove_18 : decode b_R_hasItemAbove 18 = .ok (.iload_n 2, 1) := by decide +kernel
theorem d_R_hasItemAbove_19 : decode b_R_hasItemAbove 19 = .ok (.iadd, 1) := by decide +kernel
theorem d_R_hasItemAbove_20 : decode b_R_hasItemAbove 20 = .ok (.bipush 31, 2) := by decide +kernel
theorem d_R_hasItemAbove_22 : decode b_R_hasItemAbove 22 = .ok (.iand, 1) := by decide +kernel
theorem d_R_hasItemAbove_23 : decode b_R_hasItemAbove 23 = .ok (.iaload, 1) := by decide +kernel
theorem d_R_hasItemAbove_24 : decode b_R_hasItemAbove 24 = .ok (.iload_n 1, 1) := by decide +kernel
theorem d_R_hasItemAbove_25 : decode b_R_hasItemAbove 25 = .ok (.if_icmp .le 5, 3) := by decide +kernel
theorem d_R_hasItemAbove_28 : decode b_R_hasItemAbove 28 = .ok (.iconst 1, 1) := by decide +kernel
theorem d_R_hasItemAbove_29 : decode b_R_hasItemAbove 29 = .ok (.ireturn, 1) := by decide +kernel
theorem d_R_hasItemAbove_30 : decode b_R_hasItemAbove 30 = .ok (.iinc 2 1, 3) := by decide +kernel
theorem d_R_hasItemAbove_33 : decode b_R_hasItemAbove 33 = .ok (.goto (-31), 3) := by decide +kernel
theorem d_R_hasItemAbove_36 : decode b_R_hasItemAbove 36 = .ok (.iconst 0, 1) := by decide +kernel
theorem d_R_hasItemAbove_37 : decode b_R_hasItemAbove 37 = .ok (.ireturn, 1) := by decide +kernel
theorem d_S_init_0 : decode b_S_init 0 = .ok (.aload_n 0, 1) := by decide +kernel
theorem d_S_init_1 : decode b_S_init 1 = .ok (.invokespecial 3, 3) := by decide +kernel
theorem d_S_init_4 : decode b_S_init 4 = .ok (.aload_n 0, 1) := by decide +kernel
theorem d_S_init_5 : decode b_S_init 5 = .ok (.bipush 32, 2) := by decide +kernel
theorem d_S_init_7 : decode b_S_init 7 = .ok (.newarray .int, 2) := by decide +kernel
theorem d_S_init_9 : decode b_S_init 9 = .ok (.putfield 11, 3) := by decide +kernel
theorem d_S_init_12 : decode b_S_init 12 = .ok (.return_, 1) := by decide +kernel
theorem d_S_add_0 : decode b_S_add 0 = .ok (.aload_n 0, 1) := by decide +kernel
theorem d_S_add_1 : decode b_S_add 1 = .ok (.getfield 11, 3) := by decide +kernel
theorem d_S_add_4 : decode b_S_add 4 = .ok (.aload_n 0, 1) := by decide +kernel
theorem d_S_add_5 : decode b_S_add 5 = .ok (.getfield 15, 3) := by decide +kernel
theorem d_S_add_8 : decode b_S_add 8 = .ok (.bipush 31, 2) := by decide +kernel
theorem d_S_add_10 : decode b_S_add 10 = .ok (.iand, 1) := by decide +kernel
theorem d_S_add_11 : decode b_S_add 11 = .ok (.iload_n 1, 1) := by decide +kernel
theorem d_S_add_12 : decode b_S_add 12 = .ok (.iastore, 1) := by decide +kernel
theorem d_S_add_13 : decode b_S_add 13 = .ok (.aload_n 0, 1) := by decide +kernel
theorem d_S_add_14 : decode b_S_add 14 = .ok (.dup, 1) := by decide +kernel
theorem d_S_add_15 : decode b_S_add 15 = .ok (.getfield 15, 3) := by decide +kernel
theorem d_S_add_18 : decode b_S_add 18 = .ok (.iconst 1, 1) := by decide +kernel
theorem d_S_add_19 : decode b_S_add 19 = .ok (.iadd, 1) := by decide +kernel
theorem d_S_add_20 : decode b_S_add 20 = .ok (.putfield 15, 3) := by decide +kernel
theorem d_S_add_23 : decode b_S_add 23 = .ok (.return_, 1) := by decide +kernel
theorem d_S_backFromLatest_0 : decode b_S_backFromLatest 0 = .ok (.iload_n 1, 1) := by decide +kernel
theorem d_S_backFromLatest_1 : decode b_S_backFromLatest 1 = .ok (.ifCond .lt 17, 3) := by decide +kernel
theorem d_S_backFromLatest_4 : decode b_S_backFromLatest 4 = .ok (.iload_n 1, 1) := by decide +kernel
theorem d_S_backFromLatest_5 : decode b_S_backFromLatest 5 = .ok (.bipush 31, 2) := by decide +kernel
theorem d_S_backFromLatest_7 : decode b_S_backFromLatest 7 = .ok (.if_icmp .gt 11, 3) := by decide +kernel
theorem d_S_backFromLatest_10 : decode b_S_backFromLatest 10 = .ok (.iload_n 1, 1) := by decide +kernel
theorem d_S_backFromLatest_11 : decode b_S_backFromLatest 11 = .ok (.aload_n 0, 1) := by decide +kernel
theorem d_S_backFromLatest_12 : decode b_S_backFromLatest 12 = .ok (.getfield 15, 3) := by decide +kernel
theorem d_S_backFromLatest_15 : decode b_S_backFromLatest 15 = .ok (.if_icmp .lt 5, 3) := by decide +kernel
theorem d_S_backFromLatest_18 : decode b_S_backFromLatest 18 = .ok (.iconst (-1), 1) := by decide +kernel
theorem d_S_backFromLatest_19 : decode b_S_backFromLatest 19 = .ok (.ireturn, 1) := by decide +kernel
theorem d_S_backFromLatest_20 : decode b_S_backFromLatest 20 = .ok (.aload_n 0, 1) := by decide +kernel
theorem d_S_backFromLatest_21 : decode b_S_backFromLatest 21 = .ok (.getfield 11, 3) := by decide +kernel
theorem d_S_backFromLatest_24 : decode b_S_backFromLatest 24 = .ok (.aload_n 0, 1) := by decide +kernel
theorem d_S_backFromLatest_25 : decode b_S_backFromLatest 25 = .ok (.getfield 15, 3) := by decide +kernel
theorem d_S_backFromLatest_28 : decode b_S_backFromLatest 28 = .ok (.iconst 1, 1) := by decide +kernel
theorem d_S_backFromLatest_29 : decode b_S_backFromLatest 29 = .ok (.isub, 1) := by decide +kernel
theorem d_S_backFromLatest_30 : decode b_S_backFromLatest 30 = .ok (.iload_n 1, 1) := by decide +kernel
theorem d_S_backFromLatest_31 : decode b_S_backFromLatest 31 = .ok (.isub, 1) := by decide +kernel
theorem d_S_backFromLatest_32 : decode b_S_backFromLatest 32 = .ok (.bipush 31, 2) := by decide +kernel
theorem d_S_backFromLatest_34 : decode b_S_backFromLatest 34 = .ok (.iand, 1) := by decide +kernel
theorem d_S_backFromLatest_35 : decode b_S_backFromLatest 35 = .ok (.iaload, 1) := by decide +kernel
theorem d_S_backFromLatest_36 : decode b_S_backFromLatest 36 = .ok (.ireturn, 1) := by decide +kernel
end
section
theorem d_P_init_0 : decode b_P_init 0 = .ok (.aload_n 0, 1) := by decide +kernel
theorem d_P_init_1 : decode b_P_init 1 = .ok (.invokespecial 1, 3) := by decide +kernel
theorem d_P_init_4 : decode b_P_init 4 = .ok (.aload_n 0, 1) := by decide +kernel
theorem d_P_init_5 : decode b_P_init 5 = .ok (.new 7, 3) := by decide +kernel
theorem d_P_init_8 : decode b_P_init 8 = .ok (.dup, 1) := by decide +kernel
theorem d_P_init_9 : decode b_P_init 9 = .ok (.iconst 1, 1) := by decide +kernel
theorem d_P_init_10 : decode b_P_init 10 = .ok (.invokespecial 9, 3) := by decide +kernel
theorem d_P_init_13 : decode b_P_init 13 = .ok (.putfield 12, 3) := by decide +kernel
theorem d_P_init_16 : decode b_P_init 16 = .ok (.aload_n 0, 1) := by decide +kernel
theorem d_P_init_17 : decode b_P_init 17 = .ok (.new 7, 3) := by decide +kernel
theorem d_P_init_20 : decode b_P_init 20 = .ok (.dup, 1) := by decide +kernel
theorem d_P_init_21 : decode b_P_init 21 = .ok (.iconst 1, 1) := by decide +kernel
theorem d_P_init_22 : decode b_P_init 22 = .ok (.invokespecial 9, 3) := by decide +kernel
theorem d_P_init_25 : decode b_P_init 25 = .ok (.putfield 18, 3) := by decide +kernel
theorem d_P_init_28 : decode b_P_init 28 = .ok (.aload_n 0, 1) := by decide +kernel
theorem d_P_init_29 : decode b_P_init 29 = .ok (.new 21, 3) := by decide +kernel
theorem d_P_init_32 : decode b_P_init 32 = .ok (.dup, 1) := by decide +kernel
theorem d_P_init_33 : decode b_P_init 33 = .ok (.invokespecial 23, 3) := by decide +kernel
theorem d_P_init_36 : decode b_P_init 36 = .ok (.putfield 24, 3) := by decide +kernel
theorem d_P_init_39 : decode b_P_init 39 = .ok (.aload_n 0, 1) := by decide +kernel
theorem d_P_init_40 : decode b_P_init 40 = .ok (.new 28, 3) := by decide +kernel
theorem d_P_init_43 : decode b_P_init 43 = .ok (.dup, 1) := by decide +kernel
theorem d_P_init_44 : decode b_P_init 44 = .ok (.invokespecial 30, 3) := by decide +kernel
theorem d_P_init_47 : decode b_P_init 47 = .ok (.putfield 31, 3) := by decide +kernel
theorem d_P_init_50 : decode b_P_init 50 = .ok (.aload_n 0, 1) := by decide +kernel
theorem d_P_init_51 : decode b_P_init 51 = .ok (.iconst 1, 1) := by decide +kernel
theorem d_P_init_52 : decode b_P_init 52 = .ok (.putfield 35, 3) := by decide +kernel
theorem d_P_init_55 : decode b_P_init 55 = .ok (.aload_n 0, 1) := by decide +kernel
theorem d_P_init_56 : decode b_P_init 56 = .ok (.iconst 1, 1) := by decide +kernel
theorem d_P_init_57 : decode b_P_init 57 = .ok (.putfield 39, 3) := by decide +kernel
theorem d_P_init_60 : decode b_P_init 60 = .ok (.return_, 1) := by decide +kernel
theorem d_P_hasRegister_0 : decode b_P_hasRegister 0 = .ok (.iload_n 0, 1) := by decide +kernel
theorem d_P_hasRegister_1 : decode b_P_hasRegister 1 = .ok (.ifCond .lt 13, 3) := by decide +kernel
theorem d_P_hasRegister_4 : decode b_P_hasRegister 4 = .ok (.iload_n 0, 1) := by decide +kernel
theorem d_P_hasRegister_5 : decode b_P_hasRegister 5 = .ok (.bipush 7, 2) := by decide +kernel
theorem d_P_hasRegister_7 : decode b_P_hasRegister 7 = .ok (.if_icmp .gt 7, 3) := by decide +kernel
theorem d_P_hasRegister_10 : decode b_P_hasRegister 10 = .ok (.iconst 1, 1) := by decide +kernel
theorem d_P_hasRegister_11 : decode b_P_hasRegister 11 = .ok (.goto 4, 3) := by decide +kernel
theorem d_P_hasRegister_14 : decode b_P_hasRegister 14 = .ok (.iconst 0, 1) := by decide +kernel
theorem d_P_hasRegister_15 : decode b_P_hasRegister 15 = .ok (.ireturn, 1) := by decide +kernel
theorem d_P_load_0 : decode b_P_load 0 = .ok (.iload_n 1, 1) := by decide +kernel
theorem d_P_load_1 : decode b_P_load 1 = .ok (.tableswitch 112 0 6 #[43, 62, 81, 86, 91, 99, 104], 43) := by decide +kernel
theorem d_P_load_44 : decode b_P_load 44 = .ok (.aload_n 0, 1) := by decide +kernel
theorem d_P_load_45 : decode b_P_load 45 = .ok (.invokevirtual 42, 3) := by decide +kernel
theorem d_P_load_48 : decode b_P_load 48 = .ok (.ifCond .eq 10, 3) := by decide +kernel
theorem d_P_load_51 : decode b_P_load 51 = .ok (.aload_n 0, 1) := by decide +kernel
theorem d_P_load_52 : decode b_P_load 52 = .ok (.getfield 39, 3) := by decide +kernel
theorem d_P_load_55 : decode b_P_load 55 = .ok (.goto 7, 3) := by decide +kernel
theorem d_P_load_58 : decode b_P_load 58 = .ok (.aload_n 0, 1) := by decide +kernel
theorem d_P_load_59 : decode b_P_load 59 = .ok (.invokevirtual 46, 3) := by decide +kernel
theorem d_P_load_62 : decode b_P_load 62 = .ok (.ireturn, 1) := by decide +kernel
theorem d_P_load_63 : decode b_P_load 63 = .ok (.aload_n 0, 1) := by decide +kernel
theorem d_P_load_64 : decode b_P_load 64 = .ok (.invokevirtual 42, 3) := by decide +kernel
theorem d_P_load_67 : decode b_P_load 67 = .ok (.ifCond .eq 10, 3) := by decide +kernel
theorem d_P_load_70 : decode b_P_load 70 = .ok (.aload_n 0, 1) := by decide +kernel
theorem d_P_load_71 : decode b_P_load 71 = .ok (.getfield 50, 3) := by decide +kernel
theorem d_P_load_74 : decode b_P_load 74 = .ok (.goto 7, 3) := by decide +kernel
theorem d_P_load_77 : decode b_P_load 77 = .ok (.aload_n 0, 1) := by decide +kernel
theorem d_P_load_78 : decode b_P_load 78 = .ok (.getfield 53, 3) := by decide +kernel
theorem d_P_load_81 : decode b_P_load 81 = .ok (.ireturn, 1) := by decide +kernel
theorem d_P_load_82 : decode b_P_load 82 = .ok (.aload_n 0, 1) := by decide +kernel
theorem d_P_load_83 : decode b_P_load 83 = .ok (.invokevirtual 56, 3) := by decide +kernel
theorem d_P_load_86 : decode b_P_load 86 = .ok (.ireturn, 1) := by decide +kernel
theorem d_P_load_87 : decode b_P_load 87 = .ok (.aload_n 0, 1) := by decide +kernel
theorem d_P_load_88 : decode b_P_load 88 = .ok (.getfield 59, 3) := by decide +kernel
theorem d_P_load_91 : decode b_P_load 91 = .ok (.ireturn, 1) := by decide +kernel
theorem d_P_load_92 : decode b_P_load 92 = .ok (.aload_n 0, 1) := by decide +kernel
theorem d_P_load_93 : decode b_P_load 93 = .ok (.getfield 24, 3) := by decide +kernel
theorem d_P_load_96 : decode b_P_load 96 = .ok (.getfield 62, 3) := by decide +kernel
theorem d_P_load_99 : decode b_P_load 99 = .ok (.ireturn, 1) := by decide +kernel
theorem d_P_load_100 : decode b_P_load 100 = .ok (.aload_n 0, 1) := by decide +kernel
theorem d_P_load_101 : decode b_P_load 101 = .ok (.invokevirtual 65, 3) := by decide +kernel
theorem d_P_load_104 : decode b_P_load 104 = .ok (.ireturn, 1) := by decide +kernel
theorem d_P_load_105 : decode b_P_load 105 = .ok (.aload_n 0, 1) := by decide +kernel
theorem d_P_load_106 : decode b_P_load 106 = .ok (.getfield 24, 3) := by decide +kernel
theorem d_P_load_109 : decode b_P_load 109 = .ok (.invokevirtual 68, 3) := by decide +kernel
theorem d_P_load_112 : decode b_P_load 112 = .ok (.ireturn, 1) := by decide +kernel
theorem d_P_load_113 : decode b_P_load 113 = .ok (.aload_n 0, 1) := by decide +kernel
theorem d_P_load_114 : decode b_P_load 114 = .ok (.getfield 71, 3) := by decide +kernel
theorem d_P_load_117 : decode b_P_load 117 = .ok (.ireturn, 1) := by decide +kernel
theorem d_P_store_0 : decode b_P_store 0 = .ok (.iload_n 2, 1) := by decide +kernel
theorem d_P_store_1 : decode b_P_store 1 = .ok (.sipush 255, 3) := by decide +kernel
theorem d_P_store_4 : decode b_P_store 4 = .ok (.iand, 1) := by decide +kernel
theorem d_P_store_5 : decode b_P_store 5 = .ok (.istore_n 3, 1) := by decide +kernel
theorem d_P_store_6 : decode b_P_store 6 = .ok (.iload_n 1, 1) := by decide +kernel
theorem d_P_store_7 : decode b_P_store 7 = .ok (.tableswitch 129 0 7 #[45, 68, 91, 99, 107, 129, 129, 121], 45) := by decide +kernel
theorem d_P_store_52 : decode b_P_store 52 = .ok (.aload_n 0, 1) := by decide +kernel
theorem d_P_store_53 : decode b_P_store 53 = .ok (.invokevirtual 42, 3) := by decide +kernel
theorem d_P_store_56 : decode b_P_store 56 = .ok (.ifCond .eq 11, 3) := by decide +kernel
theorem d_P_store_59 : decode b_P_store 59 = .ok (.aload_n 0, 1) := by decide +kernel
theorem d_P_store_60 : decode b_P_store 60 = .ok (.iload_n 3, 1) := by decide +kernel
theorem d_P_store_61 : decode b_P_store 61 = .ok (.putfield 39, 3) := by decide +kernel
theorem d_P_store_64 : decode b_P_store 64 = .ok (.goto 72, 3) := by decide +kernel
theorem d_P_store_67 : decode b_P_store 67 = .ok (.aload_n 0, 1) := by decide +kernel
theorem d_P_store_68 : decode b_P_store 68 = .ok (.iload_n 3, 1) := by decide +kernel
theorem d_P_store_69 : decode b_P_store 69 = .ok (.invokevirtual 74, 3) := by decide +kernel
theorem d_P_store_72 : decode b_P_store 72 = .ok (.goto 64, 3) := by decide +kernel
theorem d_P_store_75 : decode b_P_store 75 = .ok (.aload_n 0, 1) := by decide +kernel
theorem d_P_store_76 : decode b_P_store 76 = .ok (.invokevirtual 42, 3) := by decide +kernel
theorem d_P_store_79 : decode b_P_store 79 = .ok (.ifCond .eq 11, 3) := by decide +kernel
theorem d_P_store_82 : decode b_P_store 82 = .ok (.aload_n 0, 1) := by decide +kernel
theorem d_P_store_83 : decode b_P_store 83 = .ok (.iload_n 3, 1) := by decide +kernel
theorem d_P_store_84 : decode b_P_store 84 = .ok (.putfield 50, 3) := by decide +kernel
theorem d_P_store_87 : decode b_P_store 87 = .ok (.goto 49, 3) := by decide +kernel
theorem d_P_store_90 : decode b_P_store 90 = .ok (.aload_n 0, 1) := by decide +kernel
theorem d_P_store_91 : decode b_P_store 91 = .ok (.iload_n 3, 1) := by decide +kernel
theorem d_P_store_92 : decode b_P_store 92 = .ok (.invokevirtual 77, 3) := by decide +kernel
theorem d_P_store_95 : decode b_P_store 95 = .ok (.goto 41, 3) := by decide +kernel
theorem d_P_store_98 : decode b_P_store 98 = .ok (.aload_n 0, 1) := by decide +kernel
theorem d_P_store_99 : decode b_P_store 99 = .ok (.iload_n 3, 1) := by decide +kernel
theorem d_P_store_100 : decode b_P_store 100 = .ok (.invokevirtual 80, 3) := by decide +kernel
theorem d_P_store_103 : decode b_P_store 103 = .ok (.goto 33, 3) := by decide +kernel
theorem d_P_store_106 : decode b_P_store 106 = .ok (.aload_n 0, 1) := by decide +kernel
theorem d_P_store_107 : decode b_P_store 107 = .ok (.iload_n 3, 1) := by decide +kernel
theorem d_P_store_108 : decode b_P_store 108 = .ok (.putfield 59, 3) := by decide +kernel
theorem d_P_store_111 : decode b_P_store 111 = .ok (.goto 25, 3) := by decide +kernel
theorem d_P_store_114 : decode b_P_store 114 = .ok (.aload_n 0, 1) := by decide +kernel
theorem d_P_store_115 : decode b_P_store 115 = .ok (.getfield 24, 3) := by decide +kernel
theorem d_P_store_118 : decode b_P_store 118 = .ok (.iload_n 3, 1) := by decide +kernel
theorem d_P_store_119 : decode b_P_store 119 = .ok (.bipush 31, 2) := by decide +kernel
theorem d_P_store_121 : decode b_P_store 121 = .ok (.iand, 1) := by decide +kernel
theorem d_P_store_122 : decode b_P_store 122 = .ok (.invokevirtual 83, 3) := by decide +kernel
theorem d_P_store_125 : decode b_P_store 125 = .ok (.goto 11, 3) := by decide +kernel
theorem d_P_store_128 : decode b_P_store 128 = .ok (.aload_n 0, 1) := by decide +kernel
theorem d_P_store_129 : decode b_P_store 129 = .ok (.iload_n 3, 1) := by decide +kernel
theorem d_P_store_130 : decode b_P_store 130 = .ok (.putfield 71, 3) := by decide +kernel
theorem d_P_store_133 : decode b_P_store 133 = .ok (.goto 3, 3) := by decide +kernel
theorem d_P_store_136 : decode b_P_store 136 = .ok (.return_, 1) := by decide +kernel
theorem d_P_usesOtherBank_0 : decode b_P_usesOtherBank 0 = .ok (.aload_n 0, 1) := by decide +kernel
theorem d_P_usesOtherBank_1 : decode b_P_usesOtherBank 1 = .ok (.getfield 59, 3) := by decide +kernel
theorem d_P_usesOtherBank_4 : decode b_P_usesOtherBank 4 = .ok (.sipush 128, 3) := by decide +kernel
theorem d_P_usesOtherBank_7 : decode b_P_usesOtherBank 7 = .ok (.iand, 1) := by decide +kernel
theorem d_P_usesOtherBank_8 : decode b_P_usesOtherBank 8 = .ok (.ifCond .eq 7, 3) := by decide +kernel
theorem d_P_usesOtherBank_11 : decode b_P_usesOtherBank 11 = .ok (.iconst 1, 1) := by decide +kernel
theorem d_P_usesOtherBank_12 : decode b_P_usesOtherBank 12 = .ok (.goto 4, 3) := by decide +kernel
theorem d_P_usesOtherBank_15 : decode b_P_usesOtherBank 15 = .ok (.iconst 0, 1) := by decide +kernel
theorem d_P_usesOtherBank_16 : decode b_P_usesOtherBank 16 = .ok (.ireturn, 1) := by decide +kernel
theorem d_P_span_0 : decode b_P_span 0 = .ok (.aload_n 0, 1) := by decide +kernel
theorem d_P_span_1 : decode b_P_span 1 = .ok (.getfield 39, 3) := by decide +kernel
theorem d_P_span_4 : decode b_P_span 4 = .ok (.sipush 256, 3) := by decide +kernel
theorem d_P_span_7 : decode b_P_span 7 = .ok (.aload_n 0, 1) := by decide +kernel
theorem d_P_span_8 : decode b_P_span 8 = .ok (.getfield 50, 3) := by decide +kernel
theorem d_P_span_11 : decode b_P_span 11 = .ok (.imul, 1) := by decide +kernel
theorem d_P_span_12 : decode b_P_span 12 = .ok (.iadd, 1) := by decide +kernel
theorem d_P_span_13 : decode b_P_span 13 = .ok (.istore_n 1, 1) := by decide +kernel
theorem d_P_span_14 : decode b_P_span 14 = .ok (.iload_n 1, 1) := by decide +kernel
theorem d_P_span_15 : decode b_P_span 15 = .ok (.ifCond .ne 7, 3) := by decide +kernel
theorem d_P_span_18 : decode b_P_span 18 = .ok (.iconst 1, 1) := by decide +kernel
theorem d_P_span_19 : decode b_P_span 19 = .ok (.goto 4, 3) := by decide +kernel
theorem d_P_span_22 : decode b_P_span 22 = .ok (.iload_n 1, 1) := by decide +kernel
theorem d_P_span_23 : decode b_P_span 23 = .ok (.ireturn, 1) := by decide +kernel
theorem d_P_findCause_0 : decode b_P_findCause 0 = .ok (.aload_n 0, 1) := by decide +kernel
theorem d_P_findCause_1 : decode b_P_findCause 1 = .ok (.getfield 53, 3) := by decide +kernel
theorem d_P_findCause_4 : decode b_P_findCause 4 = .ok (.iconst 4, 1) := by decide +kernel
theorem d_P_findCause_5 : decode b_P_findCause 5 = .ok (.iand, 1) := by decide +kernel
theorem d_P_findCause_6 : decode b_P_findCause 6 = .ok (.ifCond .eq 26, 3) := by decide +kernel
theorem d_P_findCause_9 : decode b_P_findCause 9 = .ok (.aload_n 0, 1) := by decide +kernel
theorem d_P_findCause_10 : decode b_P_findCause 10 = .ok (.getfield 86, 3) := by decide +kernel
theorem d_P_findCause_13 : decode b_P_findCause 13 = .ok (.ifCond .ne 16, 3) := by decide +kernel
theorem d_P_findCause_16 : decode b_P_findCause 16 = .ok (.aload_n 0, 1) := by decide +kernel
theorem d_P_findCause_17 : decode b_P_findCause 17 = .ok (.getfield 12, 3) := by decide +kernel
theorem d_P_findCause_20 : decode b_P_findCause 20 = .ok (.invokevirtual 90, 3) := by decide +kernel
theorem d_P_findCause_23 : decode b_P_findCause 23 = .ok (.sipush 255, 3) := by decide +kernel
theorem d_P_findCause_26 : decode b_P_findCause 26 = .ok (.if_icmp .le 6, 3) := by decide +kernel
theorem d_P_findCause_29 : decode b_P_findCause 29 = .ok (.bipush 6, 2) := by decide +kernel
theorem d_P_findCause_31 : decode b_P_findCause 31 = .ok (.ireturn, 1) := by decide +kernel
theorem d_P_findCause_32 : decode b_P_findCause 32 = .ok (.aload_n 0, 1) := by decide +kernel
theorem d_P_findCause_33 : decode b_P_findCause 33 = .ok (.getfield 53, 3) := by decide +kernel
theorem d_P_findCause_36 : decode b_P_findCause 36 = .ok (.iconst 1, 1) := by decide +kernel
theorem d_P_findCause_37 : decode b_P_findCause 37 = .ok (.iand, 1) := by decide +kernel
theorem d_P_findCause_38 : decode b_P_findCause 38 = .ok (.ifCond .eq 30, 3) := by decide +kernel
theorem d_P_findCause_41 : decode b_P_findCause 41 = .ok (.aload_n 0, 1) := by decide +kernel
theorem d_P_findCause_42 : decode b_P_findCause 42 = .ok (.getfield 12, 3) := by decide +kernel
theorem d_P_findCause_45 : decode b_P_findCause 45 = .ok (.getfield 93, 3) := by decide +kernel
theorem d_P_findCause_48 : decode b_P_findCause 48 = .ok (.aload_n 0, 1) := by decide +kernel
theorem d_P_findCause_49 : decode b_P_findCause 49 = .ok (.getfield 96, 3) := by decide +kernel
theorem d_P_findCause_52 : decode b_P_findCause 52 = .ok (.ifCond .eq 10, 3) := by decide +kernel
theorem d_P_findCause_55 : decode b_P_findCause 55 = .ok (.aload_n 0, 1) := by decide +kernel
theorem d_P_findCause_56 : decode b_P_findCause 56 = .ok (.getfield 35, 3) := by decide +kernel
theorem d_P_findCause_59 : decode b_P_findCause 59 = .ok (.goto 4, 3) := by decide +kernel
theorem d_P_findCause_62 : decode b_P_findCause 62 = .ok (.iconst 1, 1) := by decide +kernel
theorem d_P_findCause_63 : decode b_P_findCause 63 = .ok (.if_icmp .lt 5, 3) := by decide +kernel
theorem d_P_findCause_66 : decode b_P_findCause 66 = .ok (.iconst 4, 1) := by decide +kernel
theorem d_P_findCause_67 : decode b_P_findCause 67 = .ok (.ireturn, 1) := by decide +kernel
theorem d_P_findCause_68 : decode b_P_findCause 68 = .ok (.aload_n 0, 1) := by decide +kernel
theorem d_P_findCause_69 : decode b_P_findCause 69 = .ok (.getfield 53, 3) := by decide +kernel
theorem d_P_findCause_72 : decode b_P_findCause 72 = .ok (.iconst 1, 1) := by decide +kernel
theorem d_P_findCause_73 : decode b_P_findCause 73 = .ok (.iand, 1) := by decide +kernel
theorem d_P_findCause_74 : decode b_P_findCause 74 = .ok (.ifCond .eq 36, 3) := by decide +kernel
theorem d_P_findCause_77 : decode b_P_findCause 77 = .ok (.aload_n 0, 1) := by decide +kernel
theorem d_P_findCause_78 : decode b_P_findCause 78 = .ok (.getfield 96, 3) := by decide +kernel
theorem d_P_findCause_81 : decode b_P_findCause 81 = .ok (.ifCond .eq 29, 3) := by decide +kernel
theorem d_P_findCause_84 : decode b_P_findCause 84 = .ok (.aload_n 0, 1) := by decide +kernel
theorem d_P_findCause_85 : decode b_P_findCause 85 = .ok (.getfield 12, 3) := by decide +kernel
theorem d_P_findCause_88 : decode b_P_findCause 88 = .ok (.getfield 93, 3) := by decide +kernel
theorem d_P_findCause_91 : decode b_P_findCause 91 = .ok (.ifCond .le 19, 3) := by decide +kernel
theorem d_P_findCause_94 : decode b_P_findCause 94 = .ok (.aload_n 0, 1) := by decide +kernel
theorem d_P_findCause_95 : decode b_P_findCause 95 = .ok (.getfield 99, 3) := by decide +kernel
theorem d_P_findCause_98 : decode b_P_findCause 98 = .ok (.iconst 4, 1) := by decide +kernel
theorem d_P_findCause_99 : decode b_P_findCause 99 = .ok (.aload_n 0, 1) := by decide +kernel
theorem d_P_findCause_100 : decode b_P_findCause 100 = .ok (.invokevirtual 102, 3) := by decide +kernel
theorem d_P_findCause_103 : decode b_P_findCause 103 = .ok (.imul, 1) := by decide +kernel
theorem d_P_findCause_104 : decode b_P_findCause 104 = .ok (.if_icmp .lt 6, 3) := by decide +kernel
theorem d_P_findCause_107 : decode b_P_findCause 107 = .ok (.bipush 12, 2) := by decide +kernel
theorem d_P_findCause_109 : decode b_P_findCause 109 = .ok (.ireturn, 1) := by decide +kernel
theorem d_P_findCause_110 : decode b_P_findCause 110 = .ok (.aload_n 0, 1) := by decide +kernel
theorem d_P_findCause_111 : decode b_P_findCause 111 = .ok (.getfield 53, 3) := by decide +kernel
theorem d_P_findCause_114 : decode b_P_findCause 114 = .ok (.iconst 2, 1) := by decide +kernel
theorem d_P_findCause_115 : decode b_P_findCause 115 = .ok (.iand, 1) := by decide +kernel
theorem d_P_findCause_116 : decode b_P_findCause 116 = .ok (.ifCond .eq 12, 3) := by decide +kernel
theorem d_P_findCause_119 : decode b_P_findCause 119 = .ok (.aload_n 0, 1) := by decide +kernel
theorem d_P_findCause_120 : decode b_P_findCause 120 = .ok (.getfield 105, 3) := by decide +kernel
theorem d_P_findCause_123 : decode b_P_findCause 123 = .ok (.ifCond .eq 5, 3) := by decide +kernel
theorem d_P_findCause_126 : decode b_P_findCause 126 = .ok (.iconst 2, 1) := by decide +kernel
theorem d_P_findCause_127 : decode b_P_findCause 127 = .ok (.ireturn, 1) := by decide +kernel
theorem d_P_findCause_128 : decode b_P_findCause 128 = .ok (.aload_n 0, 1) := by decide +kernel
theorem d_P_findCause_129 : decode b_P_findCause 129 = .ok (.getfield 53, 3) := by decide +kernel
theorem d_P_findCause_132 : decode b_P_findCause 132 = .ok (.bipush 8, 2) := by decide +kernel
theorem d_P_findCause_134 : decode b_P_findCause 134 = .ok (.iand, 1) := by decide +kernel
theorem d_P_findCause_135 : decode b_P_findCause 135 = .ok (.ifCond .eq 15, 3) := by decide +kernel
theorem d_P_findCause_138 : decode b_P_findCause 138 = .ok (.aload_n 0, 1) := by decide +kernel
theorem d_P_findCause_139 : decode b_P_findCause 139 = .ok (.getfield 24, 3) := by decide +kernel
theorem d_P_findCause_142 : decode b_P_findCause 142 = .ok (.getfield 108, 3) := by decide +kernel
theorem d_P_findCause_145 : decode b_P_findCause 145 = .ok (.ifCond .eq 5, 3) := by decide +kernel
theorem d_P_findCause_148 : decode b_P_findCause 148 = .ok (.iconst 0, 1) := by decide +kernel
theorem d_P_findCause_149 : decode b_P_findCause 149 = .ok (.ireturn, 1) := by decide +kernel
theorem d_P_findCause_150 : decode b_P_findCause 150 = .ok (.iconst 1, 1) := by decide +kernel
theorem d_P_findCause_151 : decode b_P_findCause 151 = .ok (.ireturn, 1) := by decide +kernel
theorem d_P_identify_0 : decode b_P_identify 0 = .ok (.aload_n 0, 1) := by decide +kernel
theorem d_P_identify_1 : decode b_P_identify 1 = .ok (.invokevirtual 111, 3) := by decide +kernel
theorem d_P_identify_4 : decode b_P_identify 4 = .ok (.istore_n 1, 1) := by decide +kernel
theorem d_P_identify_5 : decode b_P_identify 5 = .ok (.iload_n 1, 1) := by decide +kernel
theorem d_P_identify_6 : decode b_P_identify 6 = .ok (.iconst 2, 1) := by decide +kernel
theorem d_P_identify_7 : decode b_P_identify 7 = .ok (.if_icmp .ne 8, 3) := by decide +kernel
theorem d_P_identify_10 : decode b_P_identify 10 = .ok (.aload_n 0, 1) := by decide +kernel
theorem d_P_identify_11 : decode b_P_identify 11 = .ok (.iconst 0, 1) := by decide +kernel
theorem d_P_identify_12 : decode b_P_identify 12 = .ok (.putfield 105, 3) := by decide +kernel
theorem d_P_identify_15 : decode b_P_identify 15 = .ok (.aload_n 0, 1) := by decide +kernel
theorem d_P_identify_16 : decode b_P_identify 16 = .ok (.getfield 96, 3) := by decide +kernel
theorem d_P_identify_19 : decode b_P_identify 19 = .ok (.ifCond .eq 11, 3) := by decide +kernel
theorem d_P_identify_22 : decode b_P_identify 22 = .ok (.iload_n 1, 1) := by decide +kernel
theorem d_P_identify_23 : decode b_P_identify 23 = .ok (.sipush 192, 3) := by decide +kernel
theorem d_P_identify_26 : decode b_P_identify 26 = .ok (.iadd, 1) := by decide +kernel
theorem d_P_identify_27 : decode b_P_identify 27 = .ok (.goto 4, 3) := by decide +kernel
theorem d_P_identify_30 : decode b_P_identify 30 = .ok (.iload_n 1, 1) := by decide +kernel
theorem d_P_identify_31 : decode b_P_identify 31 = .ok (.ireturn, 1) := by decide +kernel
theorem d_P_takeIn_0 : decode b_P_takeIn 0 = .ok (.aload_n 0, 1) := by decide +kernel
theorem d_P_takeIn_1 : decode b_P_takeIn 1 = .ok (.getfield 12, 3) := by decide +kernel
theorem d_P_takeIn_4 : decode b_P_takeIn 4 = .ok (.getfield 93, 3) := by decide +kernel
theorem d_P_takeIn_7 : decode b_P_takeIn 7 = .ok (.ifCond .le 8, 3) := by decide +kernel
theorem d_P_takeIn_10 : decode b_P_takeIn 10 = .ok (.aload_n 0, 1) := by decide +kernel
theorem d_P_takeIn_11 : decode b_P_takeIn 11 = .ok (.iconst 0, 1) := by decide +kernel
theorem d_P_takeIn_12 : decode b_P_takeIn 12 = .ok (.putfield 99, 3) := by decide +kernel
theorem d_P_takeIn_15 : decode b_P_takeIn 15 = .ok (.aload_n 0, 1) := by decide +kernel
theorem d_P_takeIn_16 : decode b_P_takeIn 16 = .ok (.getfield 12, 3) := by decide +kernel
theorem d_P_takeIn_19 : decode b_P_takeIn 19 = .ok (.invokevirtual 114, 3) := by decide +kernel
theorem d_P_takeIn_22 : decode b_P_takeIn 22 = .ok (.sipush 255, 3) := by decide +kernel
theorem d_P_takeIn_25 : decode b_P_takeIn 25 = .ok (.iand, 1) := by decide +kernel
theorem d_P_takeIn_26 : decode b_P_takeIn 26 = .ok (.ireturn, 1) := by decide +kernel
theorem d_P_readStatus_0 : decode b_P_readStatus 0 = .ok (.aload_n 0, 1) := by decide +kernel
theorem d_P_readStatus_1 : decode b_P_readStatus 1 = .ok (.getfield 12, 3) := by decide +kernel
theorem d_P_readStatus_4 : decode b_P_readStatus 4 = .ok (.getfield 93, 3) := by decide +kernel
theorem d_P_readStatus_7 : decode b_P_readStatus 7 = .ok (.ifCond .le 7, 3) := by decide +kernel
theorem d_P_readStatus_10 : decode b_P_readStatus 10 = .ok (.iconst 1, 1) := by decide +kernel
theorem d_P_readStatus_11 : decode b_P_readStatus 11 = .ok (.goto 4, 3) := by decide +kernel
theorem d_P_readStatus_14 : decode b_P_readStatus 14 = .ok (.iconst 0, 1) := by decide +kernel
theorem d_P_readStatus_15 : decode b_P_readStatus 15 = .ok (.istore_n 1, 1) := by decide +kernel
theorem d_P_readStatus_16 : decode b_P_readStatus 16 = .ok (.iload_n 1, 1) := by decide +kernel
theorem d_P_readStatus_17 : decode b_P_readStatus 17 = .ok (.aload_n 0, 1) := by decide +kernel
theorem d_P_readStatus_18 : decode b_P_readStatus 18 = .ok (.getfield 86, 3) := by decide +kernel
theorem d_P_readStatus_21 : decode b_P_readStatus 21 = .ok (.ifCond .eq 7, 3) := by decide +kernel
theorem d_P_readStatus_24 : decode b_P_readStatus 24 = .ok (.iconst 2, 1) := by decide +kernel
theorem d_P_readStatus_25 : decode b_P_readStatus 25 = .ok (.goto 4, 3) := by decide +kernel
theorem d_P_readStatus_28 : decode b_P_readStatus 28 = .ok (.iconst 0, 1) := by decide +kernel
theorem d_P_readStatus_29 : decode b_P_readStatus 29 = .ok (.iadd, 1) := by decide +kernel
theorem d_P_readStatus_30 : decode b_P_readStatus 30 = .ok (.istore_n 1, 1) := by decide +kernel
theorem d_P_readStatus_31 : decode b_P_readStatus 31 = .ok (.iload_n 1, 1) := by decide +kernel
theorem d_P_readStatus_32 : decode b_P_readStatus 32 = .ok (.iconst 4, 1) := by decide +kernel
theorem d_P_readStatus_33 : decode b_P_readStatus 33 = .ok (.aload_n 0, 1) := by decide +kernel
theorem d_P_readStatus_34 : decode b_P_readStatus 34 = .ok (.getfield 12, 3) := by decide +kernel
theorem d_P_readStatus_37 : decode b_P_readStatus 37 = .ok (.invokevirtual 90, 3) := by decide +kernel
theorem d_P_readStatus_40 : decode b_P_readStatus 40 = .ok (.bipush 8, 2) := by decide +kernel
theorem d_P_readStatus_42 : decode b_P_readStatus 42 = .ok (.ishr, 1) := by decide +kernel
theorem d_P_readStatus_43 : decode b_P_readStatus 43 = .ok (.imul, 1) := by decide +kernel
theorem d_P_readStatus_44 : decode b_P_readStatus 44 = .ok (.iadd, 1) := by decide +kernel
theorem d_P_readStatus_45 : decode b_P_readStatus 45 = .ok (.istore_n 1, 1) := by decide +kernel
theorem d_P_readStatus_46 : decode b_P_readStatus 46 = .ok (.iload_n 1, 1) := by decide +kernel
theorem d_P_readStatus_47 : decode b_P_readStatus 47 = .ok (.aload_n 0, 1) := by decide +kernel
theorem d_P_readStatus_48 : decode b_P_readStatus 48 = .ok (.getfield 18, 3) := by decide +kernel
theorem d_P_readStatus_51 : decode b_P_readStatus 51 = .ok (.getfield 93, 3) := by decide +kernel
theorem d_P_readStatus_54 : decode b_P_readStatus 54 = .ok (.ifCond .ne 8, 3) := by decide +kernel
theorem d_P_readStatus_57 : decode b_P_readStatus 57 = .ok (.bipush 32, 2) := by decide +kernel
theorem d_P_readStatus_59 : decode b_P_readStatus 59 = .ok (.goto 4, 3) := by decide +kernel
theorem d_P_readStatus_62 : decode b_P_readStatus 62 = .ok (.iconst 0, 1) := by decide +kernel
theorem d_P_readStatus_63 : decode b_P_readStatus 63 = .ok (.iadd, 1) := by decide +kernel
theorem d_P_readStatus_64 : decode b_P_readStatus 64 = .ok (.istore_n 1, 1) := by decide +kernel
theorem d_P_readStatus_65 : decode b_P_readStatus 65 = .ok (.iload_n 1, 1) := by decide +kernel
theorem d_P_readStatus_66 : decode b_P_readStatus 66 = .ok (.aload_n 0, 1) := by decide +kernel
theorem d_P_readStatus_67 : decode b_P_readStatus 67 = .ok (.getfield 18, 3) := by decide +kernel
theorem d_P_readStatus_70 : decode b_P_readStatus 70 = .ok (.getfield 93, 3) := by decide +kernel
theorem d_P_readStatus_73 : decode b_P_readStatus 73 = .ok (.ifCond .ne 15, 3) := by decide +kernel
theorem d_P_readStatus_76 : decode b_P_readStatus 76 = .ok (.aload_n 0, 1) := by decide +kernel
theorem d_P_readStatus_77 : decode b_P_readStatus 77 = .ok (.getfield 117, 3) := by decide +kernel
theorem d_P_readStatus_80 : decode b_P_readStatus 80 = .ok (.ifCond .ne 8, 3) := by decide +kernel
theorem d_P_readStatus_83 : decode b_P_readStatus 83 = .ok (.bipush 64, 2) := by decide +kernel
theorem d_P_readStatus_85 : decode b_P_readStatus 85 = .ok (.goto 4, 3) := by decide +kernel
theorem d_P_readStatus_88 : decode b_P_readStatus 88 = .ok (.iconst 0, 1) := by decide +kernel
theorem d_P_readStatus_89 : decode b_P_readStatus 89 = .ok (.iadd, 1) := by decide +kernel
theorem d_P_readStatus_90 : decode b_P_readStatus 90 = .ok (.istore_n 1, 1) := by decide +kernel
theorem d_P_readStatus_91 : decode b_P_readStatus 91 = .ok (.iload_n 1, 1) := by decide +kernel
theorem d_P_readStatus_92 : decode b_P_readStatus 92 = .ok (.aload_n 0, 1) := by decide +kernel
theorem d_P_readStatus_93 : decode b_P_readStatus 93 = .ok (.getfield 96, 3) := by decide +kernel
theorem d_P_readStatus_96 : decode b_P_readStatus 96 = .ok (.ifCond .eq 22, 3) := by decide +kernel
theorem d_P_readStatus_99 : decode b_P_readStatus 99 = .ok (.aload_n 0, 1) := by decide +kernel
theorem d_P_readStatus_100 : decode b_P_readStatus 100 = .ok (.getfield 12, 3) := by decide +kernel
theorem d_P_readStatus_103 : decode b_P_readStatus 103 = .ok (.sipush 255, 3) := by decide +kernel
theorem d_P_readStatus_106 : decode b_P_readStatus 106 = .ok (.invokevirtual 120, 3) := by decide +kernel
theorem d_P_readStatus_109 : decode b_P_readStatus 109 = .ok (.ifCond .eq 9, 3) := by decide +kernel
theorem d_P_readStatus_112 : decode b_P_readStatus 112 = .ok (.sipush 128, 3) := by decide +kernel
theorem d_P_readStatus_115 : decode b_P_readStatus 115 = .ok (.goto 4, 3) := by decide +kernel
theorem d_P_readStatus_118 : decode b_P_readStatus 118 = .ok (.iconst 0, 1) := by decide +kernel
theorem d_P_readStatus_119 : decode b_P_readStatus 119 = .ok (.iadd, 1) := by decide +kernel
theorem d_P_readStatus_120 : decode b_P_readStatus 120 = .ok (.istore_n 1, 1) := by decide +kernel
theorem d_P_readStatus_121 : decode b_P_readStatus 121 = .ok (.aload_n 0, 1) := by decide +kernel
theorem d_P_readStatus_122 : decode b_P_readStatus 122 = .ok (.iconst 0, 1) := by decide +kernel
theorem d_P_readStatus_123 : decode b_P_readStatus 123 = .ok (.putfield 86, 3) := by decide +kernel
theorem d_P_readStatus_126 : decode b_P_readStatus 126 = .ok (.aload_n 0, 1) := by decide +kernel
theorem d_P_readStatus_127 : decode b_P_readStatus 127 = .ok (.getfield 12, 3) := by decide +kernel
theorem d_P_readStatus_130 : decode b_P_readStatus 130 = .ok (.aload_n 0, 1) := by decide +kernel
theorem d_P_readStatus_131 : decode b_P_readStatus 131 = .ok (.getfield 12, 3) := by decide +kernel
theorem d_P_readStatus_134 : decode b_P_readStatus 134 = .ok (.invokevirtual 90, 3) := by decide +kernel
theorem d_P_readStatus_137 : decode b_P_readStatus 137 = .ok (.sipush 255, 3) := by decide +kernel
theorem d_P_readStatus_140 : decode b_P_readStatus 140 = .ok (.iand, 1) := by decide +kernel
theorem d_P_readStatus_141 : decode b_P_readStatus 141 = .ok (.invokevirtual 124, 3) := by decide +kernel
theorem d_P_readStatus_144 : decode b_P_readStatus 144 = .ok (.iload_n 1, 1) := by decide +kernel
theorem d_P_readStatus_145 : decode b_P_readStatus 145 = .ok (.ireturn, 1) := by decide +kernel
theorem d_P_storeData_0 : decode b_P_storeData 0 = .ok (.aload_n 0, 1) := by decide +kernel
theorem d_P_storeData_1 : decode b_P_storeData 1 = .ok (.iconst 0, 1) := by decide +kernel
theorem d_P_storeData_2 : decode b_P_storeData 2 = .ok (.putfield 105, 3) := by decide +kernel
theorem d_P_storeData_5 : decode b_P_storeData 5 = .ok (.aload_n 0, 1) := by decide +kernel
theorem d_P_storeData_6 : decode b_P_storeData 6 = .ok (.getfield 18, 3) := by decide +kernel
theorem d_P_storeData_9 : decode b_P_storeData 9 = .ok (.iload_n 1, 1) := by decide +kernel
theorem d_P_storeData_10 : decode b_P_storeData 10 = .ok (.invokevirtual 127, 3) := by decide +kernel
theorem d_P_storeData_13 : decode b_P_storeData 13 = .ok (.aload_n 0, 1) := by decide +kernel
theorem d_P_storeData_14 : decode b_P_storeData 14 = .ok (.invokevirtual 130, 3) := by decide +kernel
theorem d_P_storeData_17 : decode b_P_storeData 17 = .ok (.return_, 1) := by decide +kernel
theorem d_P_storeEnabled_0 : decode b_P_storeEnabled 0 = .ok (.aload_n 0, 1) := by decide +kernel
theorem d_P_storeEnabled_1 : decode b_P_storeEnabled 1 = .ok (.getfield 53, 3) := by decide +kernel
theorem d_P_storeEnabled_4 : decode b_P_storeEnabled 4 = .ok (.iconst 2, 1) := by decide +kernel
theorem d_P_storeEnabled_5 : decode b_P_storeEnabled 5 = .ok (.iand, 1) := by decide +kernel
theorem d_P_storeEnabled_6 : decode b_P_storeEnabled 6 = .ok (.ifCond .ne 13, 3) := by decide +kernel
theorem d_P_storeEnabled_9 : decode b_P_storeEnabled 9 = .ok (.iload_n 1, 1) := by decide +kernel
theorem d_P_storeEnabled_10 : decode b_P_storeEnabled 10 = .ok (.iconst 2, 1) := by decide +kernel
theorem d_P_storeEnabled_11 : decode b_P_storeEnabled 11 = .ok (.iand, 1) := by decide +kernel
theorem d_P_storeEnabled_12 : decode b_P_storeEnabled 12 = .ok (.ifCond .eq 7, 3) := by decide +kernel
theorem d_P_storeEnabled_15 : decode b_P_storeEnabled 15 = .ok (.iconst 1, 1) := by decide +kernel
theorem d_P_storeEnabled_16 : decode b_P_storeEnabled 16 = .ok (.goto 4, 3) := by decide +kernel
theorem d_P_storeEnabled_19 : decode b_P_storeEnabled 19 = .ok (.iconst 0, 1) := by decide +kernel
theorem d_P_storeEnabled_20 : decode b_P_storeEnabled 20 = .ok (.istore_n 2, 1) := by decide +kernel
theorem d_P_storeEnabled_21 : decode b_P_storeEnabled 21 = .ok (.aload_n 0, 1) := by decide +kernel
theorem d_P_storeEnabled_22 : decode b_P_storeEnabled 22 = .ok (.iload_n 1, 1) := by decide +kernel
theorem d_P_storeEnabled_23 : decode b_P_storeEnabled 23 = .ok (.bipush 15, 2) := by decide +kernel
theorem d_P_storeEnabled_25 : decode b_P_storeEnabled 25 = .ok (.iand, 1) := by decide +kernel
theorem d_P_storeEnabled_26 : decode b_P_storeEnabled 26 = .ok (.putfield 53, 3) := by decide +kernel
theorem d_P_storeEnabled_29 : decode b_P_storeEnabled 29 = .ok (.iload_n 2, 1) := by decide +kernel
theorem d_P_storeEnabled_30 : decode b_P_storeEnabled 30 = .ok (.ifCond .eq 18, 3) := by decide +kernel
theorem d_P_storeEnabled_33 : decode b_P_storeEnabled 33 = .ok (.aload_n 0, 1) := by decide +kernel
theorem d_P_storeEnabled_34 : decode b_P_storeEnabled 34 = .ok (.getfield 18, 3) := by decide +kernel
theorem d_P_storeEnabled_37 : decode b_P_storeEnabled 37 = .ok (.getfield 93, 3) := by decide +kernel
theorem d_P_storeEnabled_40 : decode b_P_storeEnabled 40 = .ok (.ifCond .ne 8, 3) := by decide +kernel
theorem d_P_storeEnabled_43 : decode b_P_storeEnabled 43 = .ok (.aload_n 0, 1) := by decide +kernel
theorem d_P_storeEnabled_44 : decode b_P_storeEnabled 44 = .ok (.iconst 1, 1) := by decide +kernel
theorem d_P_storeEnabled_45 : decode b_P_storeEnabled 45 = .ok (.putfield 105, 3) := by decide +kernel
theorem d_P_storeEnabled_48 : decode b_P_storeEnabled 48 = .ok (.return_, 1) := by decide +kernel
theorem d_P_storeQueueing_0 : decode b_P_storeQueueing 0 = .ok (.aload_n 0, 1) := by decide +kernel
theorem d_P_storeQueueing_1 : decode b_P_storeQueueing 1 = .ok (.getfield 18, 3) := by decide +kernel
theorem d_P_storeQueueing_4 : decode b_P_storeQueueing 4 = .ok (.getfield 93, 3) := by decide +kernel
theorem d_P_storeQueueing_7 : decode b_P_storeQueueing 7 = .ok (.ifCond .le 7, 3) := by decide +kernel
theorem d_P_storeQueueing_10 : decode b_P_storeQueueing 10 = .ok (.iconst 1, 1) := by decide +kernel
theorem d_P_storeQueueing_11 : decode b_P_storeQueueing 11 = .ok (.goto 4, 3) := by decide +kernel
theorem d_P_storeQueueing_14 : decode b_P_storeQueueing 14 = .ok (.iconst 0, 1) := by decide +kernel
theorem d_P_storeQueueing_15 : decode b_P_storeQueueing 15 = .ok (.istore_n 2, 1) := by decide +kernel
theorem d_P_storeQueueing_16 : decode b_P_storeQueueing 16 = .ok (.iload_n 1, 1) := by decide +kernel
theorem d_P_storeQueueing_17 : decode b_P_storeQueueing 17 = .ok (.iconst 1, 1) := by decide +kernel
theorem d_P_storeQueueing_18 : decode b_P_storeQueueing 18 = .ok (.iand, 1) := by decide +kernel
theorem d_P_storeQueueing_19 : decode b_P_storeQueueing 19 = .ok (.ifCond .eq 7, 3) := by decide +kernel
theorem d_P_storeQueueing_22 : decode b_P_storeQueueing 22 = .ok (.iconst 1, 1) := by decide +kernel
theorem d_P_storeQueueing_23 : decode b_P_storeQueueing 23 = .ok (.goto 4, 3) := by decide +kernel
theorem d_P_storeQueueing_26 : decode b_P_storeQueueing 26 = .ok (.iconst 0, 1) := by decide +kernel
theorem d_P_storeQueueing_27 : decode b_P_storeQueueing 27 = .ok (.istore_n 3, 1) := by decide +kernel
theorem d_P_storeQueueing_28 : decode b_P_storeQueueing 28 = .ok (.iload_n 3, 1) := by decide +kernel
theorem d_P_storeQueueing_29 : decode b_P_storeQueueing 29 = .ok (.aload_n 0, 1) := by decide +kernel
theorem d_P_storeQueueing_30 : decode b_P_storeQueueing 30 = .ok (.getfield 96, 3) := by decide +kernel
theorem d_P_storeQueueing_33 : decode b_P_storeQueueing 33 = .ok (.if_icmp .eq 7, 3) := by decide +kernel
theorem d_P_storeQueueing_36 : decode b_P_storeQueueing 36 = .ok (.iconst 1, 1) := by decide +kernel
theorem d_P_storeQueueing_37 : decode b_P_storeQueueing 37 = .ok (.goto 4, 3) := by decide +kernel
theorem d_P_storeQueueing_40 : decode b_P_storeQueueing 40 = .ok (.iconst 0, 1) := by decide +kernel
theorem d_P_storeQueueing_41 : decode b_P_storeQueueing 41 = .ok (.istore 4, 2) := by decide +kernel
theorem d_P_storeQueueing_43 : decode b_P_storeQueueing 43 = .ok (.aload_n 0, 1) := by decide +kernel
theorem d_P_storeQueueing_44 : decode b_P_storeQueueing 44 = .ok (.iload_n 3, 1) := by decide +kernel
theorem d_P_storeQueueing_45 : decode b_P_storeQueueing 45 = .ok (.putfield 96, 3) := by decide +kernel
theorem d_P_storeQueueing_48 : decode b_P_storeQueueing 48 = .ok (.iload 4, 2) := by decide +kernel
theorem d_P_storeQueueing_50 : decode b_P_storeQueueing 50 = .ok (.ifCond .ne 16, 3) := by decide +kernel
theorem d_P_storeQueueing_53 : decode b_P_storeQueueing 53 = .ok (.aload_n 0, 1) := by decide +kernel
theorem d_P_storeQueueing_54 : decode b_P_storeQueueing 54 = .ok (.getfield 96, 3) := by decide +kernel
theorem d_P_storeQueueing_57 : decode b_P_storeQueueing 57 = .ok (.ifCond .eq 16, 3) := by decide +kernel
theorem d_P_storeQueueing_60 : decode b_P_storeQueueing 60 = .ok (.iload_n 1, 1) := by decide +kernel
theorem d_P_storeQueueing_61 : decode b_P_storeQueueing 61 = .ok (.iconst 2, 1) := by decide +kernel
theorem d_P_storeQueueing_62 : decode b_P_storeQueueing 62 = .ok (.iand, 1) := by decide +kernel
theorem d_P_storeQueueing_63 : decode b_P_storeQueueing 63 = .ok (.ifCond .eq 10, 3) := by decide +kernel
theorem d_P_storeQueueing_66 : decode b_P_storeQueueing 66 = .ok (.aload_n 0, 1) := by decide +kernel
theorem d_P_storeQueueing_67 : decode b_P_storeQueueing 67 = .ok (.getfield 12, 3) := by decide +kernel
theorem d_P_storeQueueing_70 : decode b_P_storeQueueing 70 = .ok (.invokevirtual 133, 3) := by decide +kernel
theorem d_P_storeQueueing_73 : decode b_P_storeQueueing 73 = .ok (.iload 4, 2) := by decide +kernel
theorem d_P_storeQueueing_75 : decode b_P_storeQueueing 75 = .ok (.ifCond .ne 16, 3) := by decide +kernel
theorem d_P_storeQueueing_78 : decode b_P_storeQueueing 78 = .ok (.aload_n 0, 1) := by decide +kernel
theorem d_P_storeQueueing_79 : decode b_P_storeQueueing 79 = .ok (.getfield 96, 3) := by decide +kernel
theorem d_P_storeQueueing_82 : decode b_P_storeQueueing 82 = .ok (.ifCond .eq 16, 3) := by decide +kernel
theorem d_P_storeQueueing_85 : decode b_P_storeQueueing 85 = .ok (.iload_n 1, 1) := by decide +kernel
theorem d_P_storeQueueing_86 : decode b_P_storeQueueing 86 = .ok (.iconst 4, 1) := by decide +kernel
theorem d_P_storeQueueing_87 : decode b_P_storeQueueing 87 = .ok (.iand, 1) := by decide +kernel
theorem d_P_storeQueueing_88 : decode b_P_storeQueueing 88 = .ok (.ifCond .eq 10, 3) := by decide +kernel
theorem d_P_storeQueueing_91 : decode b_P_storeQueueing 91 = .ok (.aload_n 0, 1) := by decide +kernel
theorem d_P_storeQueueing_92 : decode b_P_storeQueueing 92 = .ok (.getfield 18, 3) := by decide +kernel
theorem d_P_storeQueueing_95 : decode b_P_storeQueueing 95 = .ok (.invokevirtual 133, 3) := by decide +kernel
theorem d_P_storeQueueing_98 : decode b_P_storeQueueing 98 = .ok (.aload_n 0, 1) := by decide +kernel
theorem d_P_storeQueueing_99 : decode b_P_storeQueueing 99 = .ok (.getfield 12, 3) := by decide +kernel
theorem d_P_storeQueueing_102 : decode b_P_storeQueueing 102 = .ok (.aload_n 0, 1) := by decide +kernel
theorem d_P_storeQueueing_103 : decode b_P_storeQueueing 103 = .ok (.getfield 96, 3) := by decide +kernel
theorem d_P_storeQueueing_106 : decode b_P_storeQueueing 106 = .ok (.ifCond .eq 8, 3) := by decide +kernel
theorem d_P_storeQueueing_109 : decode b_P_storeQueueing 109 = .ok (.bipush 16, 2) := by decide +kernel
theorem d_P_storeQueueing_111 : decode b_P_storeQueueing 111 = .ok (.goto 4, 3) := by decide +kernel
theorem d_P_storeQueueing_114 : decode b_P_storeQueueing 114 = .ok (.iconst 1, 1) := by decide +kernel
theorem d_P_storeQueueing_115 : decode b_P_storeQueueing 115 = .ok (.putfield 136, 3) := by decide +kernel
theorem d_P_storeQueueing_118 : decode b_P_storeQueueing 118 = .ok (.aload_n 0, 1) := by decide +kernel
theorem d_P_storeQueueing_119 : decode b_P_storeQueueing 119 = .ok (.getfield 18, 3) := by decide +kernel
theorem d_P_storeQueueing_122 : decode b_P_storeQueueing 122 = .ok (.aload_n 0, 1) := by decide +kernel
theorem d_P_storeQueueing_123 : decode b_P_storeQueueing 123 = .ok (.getfield 12, 3) := by decide +kernel
theorem d_P_storeQueueing_126 : decode b_P_storeQueueing 126 = .ok (.getfield 136, 3) := by decide +kernel
theorem d_P_storeQueueing_129 : decode b_P_storeQueueing 129 = .ok (.putfield 136, 3) := by decide +kernel
theorem d_P_storeQueueing_132 : decode b_P_storeQueueing 132 = .ok (.aload_n 0, 1) := by decide +kernel
theorem d_P_storeQueueing_133 : decode b_P_storeQueueing 133 = .ok (.getfield 96, 3) := by decide +kernel
theorem d_P_storeQueueing_136 : decode b_P_storeQueueing 136 = .ok (.ifCond .eq 17, 3) := by decide +kernel
theorem d_P_storeQueueing_139 : decode b_P_storeQueueing 139 = .ok (.aload_n 0, 1) := by decide +kernel
theorem d_P_storeQueueing_140 : decode b_P_storeQueueing 140 = .ok (.getstatic 139, 3) := by decide +kernel
theorem d_P_storeQueueing_143 : decode b_P_storeQueueing 143 = .ok (.iload_n 1, 1) := by decide +kernel
theorem d_P_storeQueueing_144 : decode b_P_storeQueueing 144 = .ok (.bipush 6, 2) := by decide +kernel
theorem d_P_storeQueueing_146 : decode b_P_storeQueueing 146 = .ok (.ishr, 1) := by decide +kernel
theorem d_P_storeQueueing_147 : decode b_P_storeQueueing 147 = .ok (.iconst 3, 1) := by decide +kernel
theorem d_P_storeQueueing_148 : decode b_P_storeQueueing 148 = .ok (.iand, 1) := by decide +kernel
theorem d_P_storeQueueing_149 : decode b_P_storeQueueing 149 = .ok (.iaload, 1) := by decide +kernel
theorem d_P_storeQueueing_150 : decode b_P_storeQueueing 150 = .ok (.putfield 35, 3) := by decide +kernel
theorem d_P_storeQueueing_153 : decode b_P_storeQueueing 153 = .ok (.iload_n 2, 1) := by decide +kernel
theorem d_P_storeQueueing_154 : decode b_P_storeQueueing 154 = .ok (.ifCond .eq 18, 3) := by decide +kernel
theorem d_P_storeQueueing_157 : decode b_P_storeQueueing 157 = .ok (.aload_n 0, 1) := by decide +kernel
theorem d_P_storeQueueing_158 : decode b_P_storeQueueing 158 = .ok (.getfield 18, 3) := by decide +kernel
theorem d_P_storeQueueing_161 : decode b_P_storeQueueing 161 = .ok (.getfield 93, 3) := by decide +kernel
theorem d_P_storeQueueing_164 : decode b_P_storeQueueing 164 = .ok (.ifCond .ne 8, 3) := by decide +kernel
theorem d_P_storeQueueing_167 : decode b_P_storeQueueing 167 = .ok (.aload_n 0, 1) := by decide +kernel
theorem d_P_storeQueueing_168 : decode b_P_storeQueueing 168 = .ok (.iconst 1, 1) := by decide +kernel
theorem d_P_storeQueueing_169 : decode b_P_storeQueueing 169 = .ok (.putfield 105, 3) := by decide +kernel
theorem d_P_storeQueueing_172 : decode b_P_storeQueueing 172 = .ok (.return_, 1) := by decide +kernel
theorem d_P_moveIfPossible_0 : decode b_P_moveIfPossible 0 = .ok (.aload_n 0, 1) := by decide +kernel
theorem d_P_moveIfPossible_1 : decode b_P_moveIfPossible 1 = .ok (.getfield 117, 3) := by decide +kernel
theorem d_P_moveIfPossible_4 : decode b_P_moveIfPossible 4 = .ok (.ifCond .gt 13, 3) := by decide +kernel
theorem d_P_moveIfPossible_7 : decode b_P_moveIfPossible 7 = .ok (.aload_n 0, 1) := by decide +kernel
theorem d_P_moveIfPossible_8 : decode b_P_moveIfPossible 8 = .ok (.getfield 18, 3) := by decide +kernel
theorem d_P_moveIfPossible_11 : decode b_P_moveIfPossible 11 = .ok (.getfield 93, 3) := by decide +kernel
theorem d_P_moveIfPossible_14 : decode b_P_moveIfPossible 14 = .ok (.ifCond .ne 4, 3) := by decide +kernel
theorem d_P_moveIfPossible_17 : decode b_P_moveIfPossible 17 = .ok (.return_, 1) := by decide +kernel
theorem d_P_moveIfPossible_18 : decode b_P_moveIfPossible 18 = .ok (.aload_n 0, 1) := by decide +kernel
theorem d_P_moveIfPossible_19 : decode b_P_moveIfPossible 19 = .ok (.aload_n 0, 1) := by decide +kernel
theorem d_P_moveIfPossible_20 : decode b_P_moveIfPossible 20 = .ok (.getfield 18, 3) := by decide +kernel
theorem d_P_moveIfPossible_23 : decode b_P_moveIfPossible 23 = .ok (.invokevirtual 114, 3) := by decide +kernel
theorem d_P_moveIfPossible_26 : decode b_P_moveIfPossible 26 = .ok (.putfield 143, 3) := by decide +kernel
theorem d_P_moveIfPossible_29 : decode b_P_moveIfPossible 29 = .ok (.aload_n 0, 1) := by decide +kernel
theorem d_P_moveIfPossible_30 : decode b_P_moveIfPossible 30 = .ok (.aload_n 0, 1) := by decide +kernel
theorem d_P_moveIfPossible_31 : decode b_P_moveIfPossible 31 = .ok (.invokevirtual 102, 3) := by decide +kernel
theorem d_P_moveIfPossible_34 : decode b_P_moveIfPossible 34 = .ok (.putfield 117, 3) := by decide +kernel
theorem d_P_moveIfPossible_37 : decode b_P_moveIfPossible 37 = .ok (.aload_n 0, 1) := by decide +kernel
theorem d_P_moveIfPossible_38 : decode b_P_moveIfPossible 38 = .ok (.getfield 18, 3) := by decide +kernel
theorem d_P_moveIfPossible_41 : decode b_P_moveIfPossible 41 = .ok (.getfield 93, 3) := by decide +kernel
theorem d_P_moveIfPossible_44 : decode b_P_moveIfPossible 44 = .ok (.ifCond .ne 8, 3) := by decide +kernel
theorem d_P_moveIfPossible_47 : decode b_P_moveIfPossible 47 = .ok (.aload_n 0, 1) := by decide +kernel
theorem d_P_moveIfPossible_48 : decode b_P_moveIfPossible 48 = .ok (.iconst 1, 1) := by decide +kernel
theorem d_P_moveIfPossible_49 : decode b_P_moveIfPossible 49 = .ok (.putfield 105, 3) := by decide +kernel
theorem d_P_moveIfPossible_52 : decode b_P_moveIfPossible 52 = .ok (.return_, 1) := by decide +kernel
theorem d_P_arrive_0 : decode b_P_arrive 0 = .ok (.iload_n 1, 1) := by decide +kernel
theorem d_P_arrive_1 : decode b_P_arrive 1 = .ok (.sipush 256, 3) := by decide +kernel
theorem d_P_arrive_4 : decode b_P_arrive 4 = .ok (.iload_n 2, 1) := by decide +kernel
theorem d_P_arrive_5 : decode b_P_arrive 5 = .ok (.imul, 1) := by decide +kernel
theorem d_P_arrive_6 : decode b_P_arrive 6 = .ok (.iadd, 1) := by decide +kernel
theorem d_P_arrive_7 : decode b_P_arrive 7 = .ok (.istore_n 3, 1) := by decide +kernel
theorem d_P_arrive_8 : decode b_P_arrive 8 = .ok (.aload_n 0, 1) := by decide +kernel
theorem d_P_arrive_9 : decode b_P_arrive 9 = .ok (.iconst 0, 1) := by decide +kernel
theorem d_P_arrive_10 : decode b_P_arrive 10 = .ok (.putfield 99, 3) := by decide +kernel
theorem d_P_arrive_13 : decode b_P_arrive 13 = .ok (.aload_n 0, 1) := by decide +kernel
theorem d_P_arrive_14 : decode b_P_arrive 14 = .ok (.getfield 12, 3) := by decide +kernel
theorem d_P_arrive_17 : decode b_P_arrive 17 = .ok (.invokevirtual 146, 3) := by decide +kernel
theorem d_P_arrive_20 : decode b_P_arrive 20 = .ok (.ifCond .ne 12, 3) := by decide +kernel
theorem d_P_arrive_23 : decode b_P_arrive 23 = .ok (.aload_n 0, 1) := by decide +kernel
theorem d_P_arrive_24 : decode b_P_arrive 24 = .ok (.getfield 12, 3) := by decide +kernel
theorem d_P_arrive_27 : decode b_P_arrive 27 = .ok (.iload_n 3, 1) := by decide +kernel
theorem d_P_arrive_28 : decode b_P_arrive 28 = .ok (.invokevirtual 127, 3) := by decide +kernel
theorem d_P_arrive_31 : decode b_P_arrive 31 = .ok (.return_, 1) := by decide +kernel
theorem d_P_arrive_32 : decode b_P_arrive 32 = .ok (.aload_n 0, 1) := by decide +kernel
theorem d_P_arrive_33 : decode b_P_arrive 33 = .ok (.iconst 1, 1) := by decide +kernel
theorem d_P_arrive_34 : decode b_P_arrive 34 = .ok (.putfield 86, 3) := by decide +kernel
theorem d_P_arrive_37 : decode b_P_arrive 37 = .ok (.aload_n 0, 1) := by decide +kernel
theorem d_P_arrive_38 : decode b_P_arrive 38 = .ok (.getfield 96, 3) := by decide +kernel
theorem d_P_arrive_41 : decode b_P_arrive 41 = .ok (.ifCond .ne 11, 3) := by decide +kernel
theorem d_P_arrive_44 : decode b_P_arrive 44 = .ok (.aload_n 0, 1) := by decide +kernel
theorem d_P_arrive_45 : decode b_P_arrive 45 = .ok (.getfield 12, 3) := by decide +kernel
theorem d_P_arrive_48 : decode b_P_arrive 48 = .ok (.iload_n 3, 1) := by decide +kernel
theorem d_P_arrive_49 : decode b_P_arrive 49 = .ok (.invokevirtual 124, 3) := by decide +kernel
theorem d_P_arrive_52 : decode b_P_arrive 52 = .ok (.return_, 1) := by decide +kernel
theorem d_P_passTick_0 : decode b_P_passTick 0 = .ok (.aload_n 0, 1) := by decide +kernel
theorem d_P_passTick_1 : decode b_P_passTick 1 = .ok (.getfield 117, 3) := by decide +kernel
theorem d_P_passTick_4 : decode b_P_passTick 4 = .ok (.iconst 1, 1) := by decide +kernel
theorem d_P_passTick_5 : decode b_P_passTick 5 = .ok (.if_icmp .ne 7, 3) := by decide +kernel
theorem d_P_passTick_8 : decode b_P_passTick 8 = .ok (.iconst 1, 1) := by decide +kernel
theorem d_P_passTick_9 : decode b_P_passTick 9 = .ok (.goto 4, 3) := by decide +kernel
theorem d_P_passTick_12 : decode b_P_passTick 12 = .ok (.iconst 0, 1) := by decide +kernel
theorem d_P_passTick_13 : decode b_P_passTick 13 = .ok (.istore_n 1, 1) := by decide +kernel
theorem d_P_passTick_14 : decode b_P_passTick 14 = .ok (.aload_n 0, 1) := by decide +kernel
theorem d_P_passTick_15 : decode b_P_passTick 15 = .ok (.getfield 117, 3) := by decide +kernel
theorem d_P_passTick_18 : decode b_P_passTick 18 = .ok (.ifCond .le 13, 3) := by decide +kernel
theorem d_P_passTick_21 : decode b_P_passTick 21 = .ok (.aload_n 0, 1) := by decide +kernel
theorem d_P_passTick_22 : decode b_P_passTick 22 = .ok (.dup, 1) := by decide +kernel
theorem d_P_passTick_23 : decode b_P_passTick 23 = .ok (.getfield 117, 3) := by decide +kernel
theorem d_P_passTick_26 : decode b_P_passTick 26 = .ok (.iconst 1, 1) := by decide +kernel
theorem d_P_passTick_27 : decode b_P_passTick 27 = .ok (.isub, 1) := by decide +kernel
theorem d_P_passTick_28 : decode b_P_passTick 28 = .ok (.putfield 117, 3) := by decide +kernel
theorem d_P_passTick_31 : decode b_P_passTick 31 = .ok (.iload_n 1, 1) := by decide +kernel
theorem d_P_passTick_32 : decode b_P_passTick 32 = .ok (.ifCond .eq 23, 3) := by decide +kernel
theorem d_P_passTick_35 : decode b_P_passTick 35 = .ok (.aload_n 0, 1) := by decide +kernel
theorem d_P_passTick_36 : decode b_P_passTick 36 = .ok (.aload_n 0, 1) := by decide +kernel
theorem d_P_passTick_37 : decode b_P_passTick 37 = .ok (.getfield 143, 3) := by decide +kernel
theorem d_P_passTick_40 : decode b_P_passTick 40 = .ok (.bipush 32, 2) := by decide +kernel
theorem d_P_passTick_42 : decode b_P_passTick 42 = .ok (.aload_n 0, 1) := by decide +kernel
theorem d_P_passTick_43 : decode b_P_passTick 43 = .ok (.getfield 59, 3) := by decide +kernel
theorem d_P_passTick_46 : decode b_P_passTick 46 = .ok (.iconst 3, 1) := by decide +kernel
theorem d_P_passTick_47 : decode b_P_passTick 47 = .ok (.iand, 1) := by decide +kernel
theorem d_P_passTick_48 : decode b_P_passTick 48 = .ok (.ishl, 1) := by decide +kernel
theorem d_P_passTick_49 : decode b_P_passTick 49 = .ok (.iconst 1, 1) := by decide +kernel
theorem d_P_passTick_50 : decode b_P_passTick 50 = .ok (.isub, 1) := by decide +kernel
theorem d_P_passTick_51 : decode b_P_passTick 51 = .ok (.iand, 1) := by decide +kernel
theorem d_P_passTick_52 : decode b_P_passTick 52 = .ok (.invokevirtual 149, 3) := by decide +kernel
theorem d_P_passTick_55 : decode b_P_passTick 55 = .ok (.aload_n 0, 1) := by decide +kernel
theorem d_P_passTick_56 : decode b_P_passTick 56 = .ok (.invokevirtual 130, 3) := by decide +kernel
theorem d_P_passTick_59 : decode b_P_passTick 59 = .ok (.aload_n 0, 1) := by decide +kernel
theorem d_P_passTick_60 : decode b_P_passTick 60 = .ok (.getfield 12, 3) := by decide +kernel
theorem d_P_passTick_63 : decode b_P_passTick 63 = .ok (.getfield 93, 3) := by decide +kernel
theorem d_P_passTick_66 : decode b_P_passTick 66 = .ok (.ifCond .le 13, 3) := by decide +kernel
theorem d_P_passTick_69 : decode b_P_passTick 69 = .ok (.aload_n 0, 1) := by decide +kernel
theorem d_P_passTick_70 : decode b_P_passTick 70 = .ok (.dup, 1) := by decide +kernel
theorem d_P_passTick_71 : decode b_P_passTick 71 = .ok (.getfield 99, 3) := by decide +kernel
theorem d_P_passTick_74 : decode b_P_passTick 74 = .ok (.iconst 1, 1) := by decide +kernel
theorem d_P_passTick_75 : decode b_P_passTick 75 = .ok (.iadd, 1) := by decide +kernel
theorem d_P_passTick_76 : decode b_P_passTick 76 = .ok (.putfield 99, 3) := by decide +kernel
theorem d_P_passTick_79 : decode b_P_passTick 79 = .ok (.iload_n 1, 1) := by decide +kernel
theorem d_P_passTick_80 : decode b_P_passTick 80 = .ok (.ireturn, 1) := by decide +kernel
theorem d_P_sendOff_0 : decode b_P_sendOff 0 = .ok (.aload_n 0, 1) := by decide +kernel
theorem d_P_sendOff_1 : decode b_P_sendOff 1 = .ok (.getfield 24, 3) := by decide +kernel
theorem d_P_sendOff_4 : decode b_P_sendOff 4 = .ok (.invokevirtual 152, 3) := by decide +kernel
theorem d_P_sendOff_7 : decode b_P_sendOff 7 = .ok (.ifCond .eq 12, 3) := by decide +kernel
theorem d_P_sendOff_10 : decode b_P_sendOff 10 = .ok (.aload_n 0, 1) := by decide +kernel
theorem d_P_sendOff_11 : decode b_P_sendOff 11 = .ok (.iload_n 1, 1) := by decide +kernel
theorem d_P_sendOff_12 : decode b_P_sendOff 12 = .ok (.iconst 0, 1) := by decide +kernel
theorem d_P_sendOff_13 : decode b_P_sendOff 13 = .ok (.invokevirtual 155, 3) := by decide +kernel
theorem d_P_sendOff_16 : decode b_P_sendOff 16 = .ok (.goto 11, 3) := by decide +kernel
theorem d_P_sendOff_19 : decode b_P_sendOff 19 = .ok (.aload_n 0, 1) := by decide +kernel
theorem d_P_sendOff_20 : decode b_P_sendOff 20 = .ok (.getfield 31, 3) := by decide +kernel
theorem d_P_sendOff_23 : decode b_P_sendOff 23 = .ok (.iload_n 1, 1) := by decide +kernel
theorem d_P_sendOff_24 : decode b_P_sendOff 24 = .ok (.invokevirtual 159, 3) := by decide +kernel
theorem d_P_sendOff_27 : decode b_P_sendOff 27 = .ok (.return_, 1) := by decide +kernel
end
section
theorem d_T_init_0 : decode b_T_init 0 = .ok (.aload_n 0, 1) := by decide +kernel
theorem d_T_init_1 : decode b_T_init 1 = .ok (.invokespecial 1, 3) := by decide +kernel
theorem d_T_init_4 : decode b_T_init 4 = .ok (.aload_n 0, 1) := by decide +kernel
theorem d_T_init_5 : decode b_T_init 5 = .ok (.bipush 96, 2) := by decide +kernel
theorem d_T_init_7 : decode b_T_init 7 = .ok (.newarray .int, 2) := by decide +kernel
theorem d_T_init_9 : decode b_T_init 9 = .ok (.putfield 7, 3) := by decide +kernel
theorem d_T_init_12 : decode b_T_init 12 = .ok (.aload_n 0, 1) := by decide +kernel
theorem d_T_init_13 : decode b_T_init 13 = .ok (.iconst 4, 1) := by decide +kernel
theorem d_T_init_14 : decode b_T_init 14 = .ok (.newarray .int, 2) := by decide +kernel
theorem d_T_init_16 : decode b_T_init 16 = .ok (.putfield 13, 3) := by decide +kernel
theorem d_T_init_19 : decode b_T_init 19 = .ok (.aload_n 0, 1) := by decide +kernel
theorem d_T_init_20 : decode b_T_init 20 = .ok (.bipush 16, 2) := by decide +kernel
theorem d_T_init_22 : decode b_T_init 22 = .ok (.newarray .int, 2) := by decide +kernel
theorem d_T_init_24 : decode b_T_init 24 = .ok (.putfield 16, 3) := by decide +kernel
theorem d_T_init_27 : decode b_T_init 27 = .ok (.aload_n 0, 1) := by decide +kernel
theorem d_T_init_28 : decode b_T_init 28 = .ok (.iconst 1, 1) := by decide +kernel
theorem d_T_init_29 : decode b_T_init 29 = .ok (.putfield 19, 3) := by decide +kernel
theorem d_T_init_32 : decode b_T_init 32 = .ok (.aload_n 0, 1) := by decide +kernel
theorem d_T_init_33 : decode b_T_init 33 = .ok (.iconst 1, 1) := by decide +kernel
theorem d_T_init_34 : decode b_T_init 34 = .ok (.putfield 23, 3) := by decide +kernel
theorem d_T_init_37 : decode b_T_init 37 = .ok (.aload_n 0, 1) := by decide +kernel
theorem d_T_init_38 : decode b_T_init 38 = .ok (.bipush 32, 2) := by decide +kernel
theorem d_T_init_40 : decode b_T_init 40 = .ok (.newarray .int, 2) := by decide +kernel
theorem d_T_init_42 : decode b_T_init 42 = .ok (.putfield 26, 3) := by decide +kernel
theorem d_T_init_45 : decode b_T_init 45 = .ok (.return_, 1) := by decide +kernel
theorem d_T_append_0 : decode b_T_append 0 = .ok (.aload_n 0, 1) := by decide +kernel
theorem d_T_append_1 : decode b_T_append 1 = .ok (.getfield 7, 3) := by decide +kernel
theorem d_T_append_4 : decode b_T_append 4 = .ok (.bipush 24, 2) := by decide +kernel
theorem d_T_append_6 : decode b_T_append 6 = .ok (.iload_n 1, 1) := by decide +kernel
theorem d_T_append_7 : decode b_T_append 7 = .ok (.imul, 1) := by decide +kernel
theorem d_T_append_8 : decode b_T_append 8 = .ok (.aload_n 0, 1) := by decide +kernel
theorem d_T_append_9 : decode b_T_append 9 = .ok (.getfield 13, 3) := by decide +kernel
theorem d_T_append_12 : decode b_T_append 12 = .ok (.iload_n 1, 1) := by decide +kernel
theorem d_T_append_13 : decode b_T_append 13 = .ok (.iaload, 1) := by decide +kernel
theorem d_T_append_14 : decode b_T_append 14 = .ok (.iadd, 1) := by decide +kernel
theorem d_T_append_15 : decode b_T_append 15 = .ok (.iload_n 2, 1) := by decide +kernel
theorem d_T_append_16 : decode b_T_append 16 = .ok (.iastore, 1) := by decide +kernel
theorem d_T_append_17 : decode b_T_append 17 = .ok (.aload_n 0, 1) := by decide +kernel
theorem d_T_append_18 : decode b_T_append 18 = .ok (.getfield 13, 3) := by decide +kernel
theorem d_T_append_21 : decode b_T_append 21 = .ok (.iload_n 1, 1) := by decide +kernel
theorem d_T_append_22 : decode b_T_append 22 = .ok (.aload_n 0, 1) := by decide +kernel
theorem d_T_append_23 : decode b_T_append 23 = .ok (.getfield 13, 3) := by decide +kernel
theorem d_T_append_26 : decode b_T_append 26 = .ok (.iload_n 1, 1) := by decide +kernel
theorem d_T_append_27 : decode b_T_append 27 = .ok (.iaload, 1) := by decide +kernel
theorem d_T_append_28 : decode b_T_append 28 = .ok (.iconst 1, 1) := by decide +kernel
theorem d_T_append_29 : decode b_T_append 29 = .ok (.iadd, 1) := by decide +kernel
theorem d_T_append_30 : decode b_T_append 30 = .ok (.iastore, 1) := by decide +kernel
theorem d_T_append_31 : decode b_T_append 31 = .ok (.return_, 1) := by decide +kernel
theorem d_T_removeFirst_0 : decode b_T_removeFirst 0 = .ok (.aload_n 0, 1) := by decide +kernel
theorem d_T_removeFirst_1 : decode b_T_removeFirst 1 = .ok (.getfield 7, 3) := by decide +kernel
theorem d_T_removeFirst_4 : decode b_T_removeFirst 4 = .ok (.bipush 24, 2) := by decide +kernel
theorem d_T_removeFirst_6 : decode b_T_removeFirst 6 = .ok (.iload_n 1, 1) := by decide +kernel
theorem d_T_removeFirst_7 : decode b_T_removeFirst 7 = .ok (.imul, 1) := by decide +kernel
theorem d_T_removeFirst_8 : decode b_T_removeFirst 8 = .ok (.iaload, 1) := by decide +kernel
theorem d_T_removeFirst_9 : decode b_T_removeFirst 9 = .ok (.istore_n 2, 1) := by decide +kernel
theorem d_T_removeFirst_10 : decode b_T_removeFirst 10 = .ok (.aload_n 0, 1) := by decide +kernel
theorem d_T_removeFirst_11 : decode b_T_removeFirst 11 = .ok (.getfield 13, 3) := by decide +kernel
theorem d_T_removeFirst_14 : decode b_T_removeFirst 14 = .ok (.iload_n 1, 1) := by decide +kernel
theorem d_T_removeFirst_15 : decode b_T_removeFirst 15 = .ok (.aload_n 0, 1) := by decide +kernel
theorem d_T_removeFirst_16 : decode b_T_removeFirst 16 = .ok (.getfield 13, 3) := by decide +kernel
theorem d_T_removeFirst_19 : decode b_T_removeFirst 19 = .ok (.iload_n 1, 1) := by decide +kernel
theorem d_T_removeFirst_20 : decode b_T_removeFirst 20 = .ok (.iaload, 1) := by decide +kernel
theorem d_T_removeFirst_21 : decode b_T_removeFirst 21 = .ok (.iconst 1, 1) := by decide +kernel
theorem d_T_removeFirst_22 : decode b_T_removeFirst 22 = .ok (.isub, 1) := by decide +kernel
theorem d_T_removeFirst_23 : decode b_T_removeFirst 23 = .ok (.iastore, 1) := by decide +kernel
theorem d_T_removeFirst_24 : decode b_T_removeFirst 24 = .ok (.bipush 24, 2) := by decide +kernel
theorem d_T_removeFirst_26 : decode b_T_removeFirst 26 = .ok (.iload_n 1, 1) := by decide +kernel
theorem d_T_removeFirst_27 : decode b_T_removeFirst 27 = .ok (.imul, 1) := by decide +kernel
theorem d_T_removeFirst_28 : decode b_T_removeFirst 28 = .ok (.istore_n 3, 1) := by decide +kernel
theorem d_T_removeFirst_29 : decode b_T_removeFirst 29 = .ok (.iload_n 3, 1) := by decide +kernel
theorem d_T_removeFirst_30 : decode b_T_removeFirst 30 = .ok (.bipush 24, 2) := by decide +kernel
theorem d_T_removeFirst_32 : decode b_T_removeFirst 32 = .ok (.iload_n 1, 1) := by decide +kernel
theorem d_T_removeFirst_33 : decode b_T_removeFirst 33 = .ok (.imul, 1) := by decide +kernel
theorem d_T_removeFirst_34 : decode b_T_removeFirst 34 = .ok (.aload_n 0, 1) := by decide +kernel
theorem d_T_removeFirst_35 : decode b_T_removeFirst 35 = .ok (.getfield 13, 3) := by decide +kernel
theorem d_T_removeFirst_38 : decode b_T_removeFirst 38 = .ok (.iload_n 1, 1) := by decide +kernel
theorem d_T_removeFirst_39 : decode b_T_removeFirst 39 = .ok (.iaload, 1) := by decide +kernel
theorem d_T_removeFirst_40 : decode b_T_removeFirst 40 = .ok (.iadd, 1) := by decide +kernel
theorem d_T_removeFirst_41 : decode b_T_removeFirst 41 = .ok (.if_icmp .ge 23, 3) := by decide +kernel
theorem d_T_removeFirst_44 : decode b_T_removeFirst 44 = .ok (.aload_n 0, 1) := by decide +kernel
theorem d_T_removeFirst_45 : decode b_T_removeFirst 45 = .ok (.getfield 7, 3) := by decide +kernel
theorem d_T_removeFirst_48 : decode b_T_removeFirst 48 = .ok (.iload_n 3, 1) := by decide +kernel
theorem d_T_removeFirst_49 : decode b_T_removeFirst 49 = .ok (.aload_n 0, 1) := by decide +kernel
theorem d_T_removeFirst_50 : decode b_T_removeFirst 50 = .ok (.getfield 7, 3) := by decide +kernel
theorem d_T_removeFirst_53 : decode b_T_removeFirst 53 = .ok (.iload_n 3, 1) := by decide +kernel
theorem d_T_removeFirst_54 : decode b_T_removeFirst 54 = .ok (.iconst 1, 1) := by decide +kernel
theorem d_T_removeFirst_55 : decode b_T_removeFirst 55 = .ok (.iadd, 1) := by decide +kernel
theorem d_T_removeFirst_56 : decode b_T_removeFirst 56 = .ok (.iaload, 1) := by decide +kernel
theorem d_T_removeFirst_57 : decode b_T_removeFirst 57 = .ok (.iastore, 1) := by decide +kernel
theorem d_T_removeFirst_58 : decode b_T_removeFirst 58 = .ok (.iinc 3 1, 3) := by decide +kernel
theorem d_T_removeFirst_61 : decode b_T_removeFirst 61 = .ok (.goto (-32), 3) := by decide +kernel
theorem d_T_removeFirst_64 : decode b_T_removeFirst 64 = .ok (.iload_n 2, 1) := by decide +kernel
theorem d_T_removeFirst_65 : decode b_T_removeFirst 65 = .ok (.ireturn, 1) := by decide +kernel
theorem d_T_places_0 : decode b_T_places 0 = .ok (.aload_n 0, 1) := by decide +kernel
theorem d_T_places_1 : decode b_T_places 1 = .ok (.getfield 29, 3) := by decide +kernel
theorem d_T_places_4 : decode b_T_places 4 = .ok (.ifCond .eq 8, 3) := by decide +kernel
theorem d_T_places_7 : decode b_T_places 7 = .ok (.bipush 16, 2) := by decide +kernel
theorem d_T_places_9 : decode b_T_places 9 = .ok (.goto 4, 3) := by decide +kernel
theorem d_T_places_12 : decode b_T_places 12 = .ok (.iconst 1, 1) := by decide +kernel
theorem d_T_places_13 : decode b_T_places 13 = .ok (.ireturn, 1) := by decide +kernel
theorem d_T_span_0 : decode b_T_span 0 = .ok (.aload_n 0, 1) := by decide +kernel
theorem d_T_span_1 : decode b_T_span 1 = .ok (.getfield 23, 3) := by decide +kernel
theorem d_T_span_4 : decode b_T_span 4 = .ok (.sipush 256, 3) := by decide +kernel
theorem d_T_span_7 : decode b_T_span 7 = .ok (.aload_n 0, 1) := by decide +kernel
theorem d_T_span_8 : decode b_T_span 8 = .ok (.getfield 33, 3) := by decide +kernel
theorem d_T_span_11 : decode b_T_span 11 = .ok (.imul, 1) := by decide +kernel
theorem d_T_span_12 : decode b_T_span 12 = .ok (.iadd, 1) := by decide +kernel
theorem d_T_span_13 : decode b_T_span 13 = .ok (.istore_n 1, 1) := by decide +kernel
theorem d_T_span_14 : decode b_T_span 14 = .ok (.iload_n 1, 1) := by decide +kernel
theorem d_T_span_15 : decode b_T_span 15 = .ok (.iconst 1, 1) := by decide +kernel
theorem d_T_span_16 : decode b_T_span 16 = .ok (.if_icmp .ge 7, 3) := by decide +kernel
theorem d_T_span_19 : decode b_T_span 19 = .ok (.iconst 1, 1) := by decide +kernel
theorem d_T_span_20 : decode b_T_span 20 = .ok (.goto 4, 3) := by decide +kernel
theorem d_T_span_23 : decode b_T_span 23 = .ok (.iload_n 1, 1) := by decide +kernel
theorem d_T_span_24 : decode b_T_span 24 = .ok (.ireturn, 1) := by decide +kernel
theorem d_T_isOn_0 : decode b_T_isOn 0 = .ok (.iload_n 1, 1) := by decide +kernel
theorem d_T_isOn_1 : decode b_T_isOn 1 = .ok (.iload_n 2, 1) := by decide +kernel
theorem d_T_isOn_2 : decode b_T_isOn 2 = .ok (.ishr, 1) := by decide +kernel
theorem d_T_isOn_3 : decode b_T_isOn 3 = .ok (.iconst 1, 1) := by decide +kernel
theorem d_T_isOn_4 : decode b_T_isOn 4 = .ok (.iand, 1) := by decide +kernel
theorem d_T_isOn_5 : decode b_T_isOn 5 = .ok (.iconst 1, 1) := by decide +kernel
theorem d_T_isOn_6 : decode b_T_isOn 6 = .ok (.if_icmp .ne 7, 3) := by decide +kernel
theorem d_T_isOn_9 : decode b_T_isOn 9 = .ok (.iconst 1, 1) := by decide +kernel
theorem d_T_isOn_10 : decode b_T_isOn 10 = .ok (.goto 4, 3) := by decide +kernel
theorem d_T_isOn_13 : decode b_T_isOn 13 = .ok (.iconst 0, 1) := by decide +kernel
theorem d_T_isOn_14 : decode b_T_isOn 14 = .ok (.ireturn, 1) := by decide +kernel
theorem d_T_loops_0 : decode b_T_loops 0 = .ok (.aload_n 0, 1) := by decide +kernel
theorem d_T_loops_1 : decode b_T_loops 1 = .ok (.aload_n 0, 1) := by decide +kernel
theorem d_T_loops_2 : decode b_T_loops 2 = .ok (.getfield 36, 3) := by decide +kernel
theorem d_T_loops_5 : decode b_T_loops 5 = .ok (.iconst 4, 1) := by decide +kernel
theorem d_T_loops_6 : decode b_T_loops 6 = .ok (.invokevirtual 39, 3) := by decide +kernel
theorem d_T_loops_9 : decode b_T_loops 9 = .ok (.ireturn, 1) := by decide +kernel
theorem d_T_inputs_0 : decode b_T_inputs 0 = .ok (.aload_n 0, 1) := by decide +kernel
theorem d_T_inputs_1 : decode b_T_inputs 1 = .ok (.invokevirtual 43, 3) := by decide +kernel
theorem d_T_inputs_4 : decode b_T_inputs 4 = .ok (.ifCond .ne 8, 3) := by decide +kernel
theorem d_T_inputs_7 : decode b_T_inputs 7 = .ok (.aload_n 0, 1) := by decide +kernel
theorem d_T_inputs_8 : decode b_T_inputs 8 = .ok (.getfield 47, 3) := by decide +kernel
theorem d_T_inputs_11 : decode b_T_inputs 11 = .ok (.ireturn, 1) := by decide +kernel
theorem d_T_inputs_12 : decode b_T_inputs 12 = .ok (.aload_n 0, 1) := by decide +kernel
theorem d_T_inputs_13 : decode b_T_inputs 13 = .ok (.getfield 36, 3) := by decide +kernel
theorem d_T_inputs_16 : decode b_T_inputs 16 = .ok (.bipush 12, 2) := by decide +kernel
theorem d_T_inputs_18 : decode b_T_inputs 18 = .ok (.iand, 1) := by decide +kernel
theorem d_T_inputs_19 : decode b_T_inputs 19 = .ok (.aload_n 0, 1) := by decide +kernel
theorem d_T_inputs_20 : decode b_T_inputs 20 = .ok (.getfield 36, 3) := by decide +kernel
theorem d_T_inputs_23 : decode b_T_inputs 23 = .ok (.iconst 1, 1) := by decide +kernel
theorem d_T_inputs_24 : decode b_T_inputs 24 = .ok (.ishr, 1) := by decide +kernel
theorem d_T_inputs_25 : decode b_T_inputs 25 = .ok (.iconst 1, 1) := by decide +kernel
theorem d_T_inputs_26 : decode b_T_inputs 26 = .ok (.iand, 1) := by decide +kernel
theorem d_T_inputs_27 : decode b_T_inputs 27 = .ok (.iadd, 1) := by decide +kernel
theorem d_T_inputs_28 : decode b_T_inputs 28 = .ok (.aload_n 0, 1) := by decide +kernel
theorem d_T_inputs_29 : decode b_T_inputs 29 = .ok (.getfield 36, 3) := by decide +kernel
theorem d_T_inputs_32 : decode b_T_inputs 32 = .ok (.iconst 1, 1) := by decide +kernel
theorem d_T_inputs_33 : decode b_T_inputs 33 = .ok (.iand, 1) := by decide +kernel
theorem d_T_inputs_34 : decode b_T_inputs 34 = .ok (.iconst 2, 1) := by decide +kernel
theorem d_T_inputs_35 : decode b_T_inputs 35 = .ok (.imul, 1) := by decide +kernel
theorem d_T_inputs_36 : decode b_T_inputs 36 = .ok (.iadd, 1) := by decide +kernel
theorem d_T_inputs_37 : decode b_T_inputs 37 = .ok (.ireturn, 1) := by decide +kernel
theorem d_T_noteInputs_0 : decode b_T_noteInputs 0 = .ok (.aload_n 0, 1) := by decide +kernel
theorem d_T_noteInputs_1 : decode b_T_noteInputs 1 = .ok (.invokevirtual 50, 3) := by decide +kernel
theorem d_T_noteInputs_4 : decode b_T_noteInputs 4 = .ok (.istore_n 2, 1) := by decide +kernel
theorem d_T_noteInputs_5 : decode b_T_noteInputs 5 = .ok (.iload_n 1, 1) := by decide +kernel
theorem d_T_noteInputs_6 : decode b_T_noteInputs 6 = .ok (.iload_n 2, 1) := by decide +kernel
theorem d_T_noteInputs_7 : decode b_T_noteInputs 7 = .ok (.ixor, 1) := by decide +kernel
theorem d_T_noteInputs_8 : decode b_T_noteInputs 8 = .ok (.bipush 11, 2) := by decide +kernel
theorem d_T_noteInputs_10 : decode b_T_noteInputs 10 = .ok (.iand, 1) := by decide +kernel
theorem d_T_noteInputs_11 : decode b_T_noteInputs 11 = .ok (.istore_n 3, 1) := by decide +kernel
theorem d_T_noteInputs_12 : decode b_T_noteInputs 12 = .ok (.iload_n 1, 1) := by decide +kernel
theorem d_T_noteInputs_13 : decode b_T_noteInputs 13 = .ok (.iload_n 2, 1) := by decide +kernel
theorem d_T_noteInputs_14 : decode b_T_noteInputs 14 = .ok (.iconst (-1), 1) := by decide +kernel
theorem d_T_noteInputs_15 : decode b_T_noteInputs 15 = .ok (.ixor, 1) := by decide +kernel
theorem d_T_noteInputs_16 : decode b_T_noteInputs 16 = .ok (.iand, 1) := by decide +kernel
theorem d_T_noteInputs_17 : decode b_T_noteInputs 17 = .ok (.iconst 4, 1) := by decide +kernel
theorem d_T_noteInputs_18 : decode b_T_noteInputs 18 = .ok (.iand, 1) := by decide +kernel
theorem d_T_noteInputs_19 : decode b_T_noteInputs 19 = .ok (.istore 4, 2) := by decide +kernel
theorem d_T_noteInputs_21 : decode b_T_noteInputs 21 = .ok (.aload_n 0, 1) := by decide +kernel
theorem d_T_noteInputs_22 : decode b_T_noteInputs 22 = .ok (.aload_n 0, 1) := by decide +kernel
theorem d_T_noteInputs_23 : decode b_T_noteInputs 23 = .ok (.getfield 54, 3) := by decide +kernel
theorem d_T_noteInputs_26 : decode b_T_noteInputs 26 = .ok (.iload_n 3, 1) := by decide +kernel
theorem d_T_noteInputs_27 : decode b_T_noteInputs 27 = .ok (.ior, 1) := by decide +kernel
theorem d_T_noteInputs_28 : decode b_T_noteInputs 28 = .ok (.iload 4, 2) := by decide +kernel
theorem d_T_noteInputs_30 : decode b_T_noteInputs 30 = .ok (.ior, 1) := by decide +kernel
theorem d_T_noteInputs_31 : decode b_T_noteInputs 31 = .ok (.putfield 54, 3) := by decide +kernel
theorem d_T_noteInputs_34 : decode b_T_noteInputs 34 = .ok (.return_, 1) := by decide +kernel
theorem d_T_moveOne_0 : decode b_T_moveOne 0 = .ok (.aload_n 0, 1) := by decide +kernel
theorem d_T_moveOne_1 : decode b_T_moveOne 1 = .ok (.getfield 57, 3) := by decide +kernel
theorem d_T_moveOne_4 : decode b_T_moveOne 4 = .ok (.ifCond .gt 12, 3) := by decide +kernel
theorem d_T_moveOne_7 : decode b_T_moveOne 7 = .ok (.aload_n 0, 1) := by decide +kernel
theorem d_T_moveOne_8 : decode b_T_moveOne 8 = .ok (.getfield 13, 3) := by decide +kernel
theorem d_T_moveOne_11 : decode b_T_moveOne 11 = .ok (.iconst 3, 1) := by decide +kernel
theorem d_T_moveOne_12 : decode b_T_moveOne 12 = .ok (.iaload, 1) := by decide +kernel
theorem d_T_moveOne_13 : decode b_T_moveOne 13 = .ok (.ifCond .ne 4, 3) := by decide +kernel
theorem d_T_moveOne_16 : decode b_T_moveOne 16 = .ok (.return_, 1) := by decide +kernel
theorem d_T_moveOne_17 : decode b_T_moveOne 17 = .ok (.aload_n 0, 1) := by decide +kernel
theorem d_T_moveOne_18 : decode b_T_moveOne 18 = .ok (.aload_n 0, 1) := by decide +kernel
theorem d_T_moveOne_19 : decode b_T_moveOne 19 = .ok (.iconst 3, 1) := by decide +kernel
theorem d_T_moveOne_20 : decode b_T_moveOne 20 = .ok (.invokevirtual 60, 3) := by decide +kernel
theorem d_T_moveOne_23 : decode b_T_moveOne 23 = .ok (.putfield 64, 3) := by decide +kernel
theorem d_T_moveOne_26 : decode b_T_moveOne 26 = .ok (.aload_n 0, 1) := by decide +kernel
theorem d_T_moveOne_27 : decode b_T_moveOne 27 = .ok (.aload_n 0, 1) := by decide +kernel
theorem d_T_moveOne_28 : decode b_T_moveOne 28 = .ok (.getfield 67, 3) := by decide +kernel
theorem d_T_moveOne_31 : decode b_T_moveOne 31 = .ok (.iload_n 1, 1) := by decide +kernel
theorem d_T_moveOne_32 : decode b_T_moveOne 32 = .ok (.iadd, 1) := by decide +kernel
theorem d_T_moveOne_33 : decode b_T_moveOne 33 = .ok (.aload_n 0, 1) := by decide +kernel
theorem d_T_moveOne_34 : decode b_T_moveOne 34 = .ok (.invokevirtual 70, 3) := by decide +kernel
theorem d_T_moveOne_37 : decode b_T_moveOne 37 = .ok (.iadd, 1) := by decide +kernel
theorem d_T_moveOne_38 : decode b_T_moveOne 38 = .ok (.putfield 57, 3) := by decide +kernel
theorem d_T_moveOne_41 : decode b_T_moveOne 41 = .ok (.aload_n 0, 1) := by decide +kernel
theorem d_T_moveOne_42 : decode b_T_moveOne 42 = .ok (.aload_n 0, 1) := by decide +kernel
theorem d_T_moveOne_43 : decode b_T_moveOne 43 = .ok (.getfield 73, 3) := by decide +kernel
theorem d_T_moveOne_46 : decode b_T_moveOne 46 = .ok (.ifCond .ne 12, 3) := by decide +kernel
theorem d_T_moveOne_49 : decode b_T_moveOne 49 = .ok (.aload_n 0, 1) := by decide +kernel
theorem d_T_moveOne_50 : decode b_T_moveOne 50 = .ok (.getfield 13, 3) := by decide +kernel
theorem d_T_moveOne_53 : decode b_T_moveOne 53 = .ok (.iconst 3, 1) := by decide +kernel
theorem d_T_moveOne_54 : decode b_T_moveOne 54 = .ok (.iaload, 1) := by decide +kernel
theorem d_T_moveOne_55 : decode b_T_moveOne 55 = .ok (.ifCond .ne 7, 3) := by decide +kernel
theorem d_T_moveOne_58 : decode b_T_moveOne 58 = .ok (.iconst 1, 1) := by decide +kernel
theorem d_T_moveOne_59 : decode b_T_moveOne 59 = .ok (.goto 4, 3) := by decide +kernel
theorem d_T_moveOne_62 : decode b_T_moveOne 62 = .ok (.iconst 0, 1) := by decide +kernel
theorem d_T_moveOne_63 : decode b_T_moveOne 63 = .ok (.putfield 73, 3) := by decide +kernel
theorem d_T_moveOne_66 : decode b_T_moveOne 66 = .ok (.return_, 1) := by decide +kernel
theorem d_T_arrive_0 : decode b_T_arrive 0 = .ok (.aload_n 0, 1) := by decide +kernel
theorem d_T_arrive_1 : decode b_T_arrive 1 = .ok (.aload_n 0, 1) := by decide +kernel
theorem d_T_arrive_2 : decode b_T_arrive 2 = .ok (.getfield 67, 3) := by decide +kernel
theorem d_T_arrive_5 : decode b_T_arrive 5 = .ok (.putfield 76, 3) := by decide +kernel
theorem d_T_arrive_8 : decode b_T_arrive 8 = .ok (.aload_n 0, 1) := by decide +kernel
theorem d_T_arrive_9 : decode b_T_arrive 9 = .ok (.getfield 13, 3) := by decide +kernel
theorem d_T_arrive_12 : decode b_T_arrive 12 = .ok (.iconst 2, 1) := by decide +kernel
theorem d_T_arrive_13 : decode b_T_arrive 13 = .ok (.iaload, 1) := by decide +kernel
theorem d_T_arrive_14 : decode b_T_arrive 14 = .ok (.aload_n 0, 1) := by decide +kernel
theorem d_T_arrive_15 : decode b_T_arrive 15 = .ok (.invokevirtual 79, 3) := by decide +kernel
theorem d_T_arrive_18 : decode b_T_arrive 18 = .ok (.if_icmp .ge 22, 3) := by decide +kernel
theorem d_T_arrive_21 : decode b_T_arrive 21 = .ok (.aload_n 0, 1) := by decide +kernel
theorem d_T_arrive_22 : decode b_T_arrive 22 = .ok (.getfield 16, 3) := by decide +kernel
theorem d_T_arrive_25 : decode b_T_arrive 25 = .ok (.aload_n 0, 1) := by decide +kernel
theorem d_T_arrive_26 : decode b_T_arrive 26 = .ok (.getfield 13, 3) := by decide +kernel
theorem d_T_arrive_29 : decode b_T_arrive 29 = .ok (.iconst 2, 1) := by decide +kernel
theorem d_T_arrive_30 : decode b_T_arrive 30 = .ok (.iaload, 1) := by decide +kernel
theorem d_T_arrive_31 : decode b_T_arrive 31 = .ok (.iload_n 2, 1) := by decide +kernel
theorem d_T_arrive_32 : decode b_T_arrive 32 = .ok (.iastore, 1) := by decide +kernel
theorem d_T_arrive_33 : decode b_T_arrive 33 = .ok (.aload_n 0, 1) := by decide +kernel
theorem d_T_arrive_34 : decode b_T_arrive 34 = .ok (.iconst 2, 1) := by decide +kernel
theorem d_T_arrive_35 : decode b_T_arrive 35 = .ok (.iload_n 1, 1) := by decide +kernel
theorem d_T_arrive_36 : decode b_T_arrive 36 = .ok (.invokevirtual 82, 3) := by decide +kernel
theorem d_T_arrive_39 : decode b_T_arrive 39 = .ok (.return_, 1) := by decide +kernel
theorem d_T_arrive_40 : decode b_T_arrive 40 = .ok (.aload_n 0, 1) := by decide +kernel
theorem d_T_arrive_41 : decode b_T_arrive 41 = .ok (.iconst 1, 1) := by decide +kernel
theorem d_T_arrive_42 : decode b_T_arrive 42 = .ok (.putfield 86, 3) := by decide +kernel
theorem d_T_arrive_45 : decode b_T_arrive 45 = .ok (.aload_n 0, 1) := by decide +kernel
theorem d_T_arrive_46 : decode b_T_arrive 46 = .ok (.getfield 29, 3) := by decide +kernel
theorem d_T_arrive_49 : decode b_T_arrive 49 = .ok (.ifCond .ne 18, 3) := by decide +kernel
theorem d_T_arrive_52 : decode b_T_arrive 52 = .ok (.aload_n 0, 1) := by decide +kernel
theorem d_T_arrive_53 : decode b_T_arrive 53 = .ok (.getfield 7, 3) := by decide +kernel
theorem d_T_arrive_56 : decode b_T_arrive 56 = .ok (.bipush 48, 2) := by decide +kernel
theorem d_T_arrive_58 : decode b_T_arrive 58 = .ok (.iload_n 1, 1) := by decide +kernel
theorem d_T_arrive_59 : decode b_T_arrive 59 = .ok (.iastore, 1) := by decide +kernel
theorem d_T_arrive_60 : decode b_T_arrive 60 = .ok (.aload_n 0, 1) := by decide +kernel
theorem d_T_arrive_61 : decode b_T_arrive 61 = .ok (.getfield 16, 3) := by decide +kernel
theorem d_T_arrive_64 : decode b_T_arrive 64 = .ok (.iconst 0, 1) := by decide +kernel
theorem d_T_arrive_65 : decode b_T_arrive 65 = .ok (.iload_n 2, 1) := by decide +kernel
theorem d_T_arrive_66 : decode b_T_arrive 66 = .ok (.iastore, 1) := by decide +kernel
theorem d_T_arrive_67 : decode b_T_arrive 67 = .ok (.return_, 1) := by decide +kernel
theorem d_T_takeIn_0 : decode b_T_takeIn 0 = .ok (.aload_n 0, 1) := by decide +kernel
theorem d_T_takeIn_1 : decode b_T_takeIn 1 = .ok (.iconst 2, 1) := by decide +kernel
theorem d_T_takeIn_2 : decode b_T_takeIn 2 = .ok (.invokevirtual 60, 3) := by decide +kernel
theorem d_T_takeIn_5 : decode b_T_takeIn 5 = .ok (.istore_n 1, 1) := by decide +kernel
theorem d_T_takeIn_6 : decode b_T_takeIn 6 = .ok (.iconst 0, 1) := by decide +kernel
theorem d_T_takeIn_7 : decode b_T_takeIn 7 = .ok (.istore_n 2, 1) := by decide +kernel
theorem d_T_takeIn_8 : decode b_T_takeIn 8 = .ok (.iload_n 2, 1) := by decide +kernel
theorem d_T_takeIn_9 : decode b_T_takeIn 9 = .ok (.aload_n 0, 1) := by decide +kernel
theorem d_T_takeIn_10 : decode b_T_takeIn 10 = .ok (.getfield 13, 3) := by decide +kernel
theorem d_T_takeIn_13 : decode b_T_takeIn 13 = .ok (.iconst 2, 1) := by decide +kernel
theorem d_T_takeIn_14 : decode b_T_takeIn 14 = .ok (.iaload, 1) := by decide +kernel
theorem d_T_takeIn_15 : decode b_T_takeIn 15 = .ok (.if_icmp .ge 23, 3) := by decide +kernel
theorem d_T_takeIn_18 : decode b_T_takeIn 18 = .ok (.aload_n 0, 1) := by decide +kernel
theorem d_T_takeIn_19 : decode b_T_takeIn 19 = .ok (.getfield 16, 3) := by decide +kernel
theorem d_T_takeIn_22 : decode b_T_takeIn 22 = .ok (.iload_n 2, 1) := by decide +kernel
theorem d_T_takeIn_23 : decode b_T_takeIn 23 = .ok (.aload_n 0, 1) := by decide +kernel
theorem d_T_takeIn_24 : decode b_T_takeIn 24 = .ok (.getfield 16, 3) := by decide +kernel
theorem d_T_takeIn_27 : decode b_T_takeIn 27 = .ok (.iload_n 2, 1) := by decide +kernel
theorem d_T_takeIn_28 : decode b_T_takeIn 28 = .ok (.iconst 1, 1) := by decide +kernel
theorem d_T_takeIn_29 : decode b_T_takeIn 29 = .ok (.iadd, 1) := by decide +kernel
theorem d_T_takeIn_30 : decode b_T_takeIn 30 = .ok (.iaload, 1) := by decide +kernel
theorem d_T_takeIn_31 : decode b_T_takeIn 31 = .ok (.iastore, 1) := by decide +kernel
theorem d_T_takeIn_32 : decode b_T_takeIn 32 = .ok (.iinc 2 1, 3) := by decide +kernel
theorem d_T_takeIn_35 : decode b_T_takeIn 35 = .ok (.goto (-27), 3) := by decide +kernel
theorem d_T_takeIn_38 : decode b_T_takeIn 38 = .ok (.aload_n 0, 1) := by decide +kernel
theorem d_T_takeIn_39 : decode b_T_takeIn 39 = .ok (.aload_n 0, 1) := by decide +kernel
theorem d_T_takeIn_40 : decode b_T_takeIn 40 = .ok (.getfield 67, 3) := by decide +kernel
theorem d_T_takeIn_43 : decode b_T_takeIn 43 = .ok (.putfield 76, 3) := by decide +kernel
theorem d_T_takeIn_46 : decode b_T_takeIn 46 = .ok (.iload_n 1, 1) := by decide +kernel
theorem d_T_takeIn_47 : decode b_T_takeIn 47 = .ok (.ireturn, 1) := by decide +kernel
theorem d_T_wire_0 : decode b_T_wire 0 = .ok (.iload_n 2, 1) := by decide +kernel
theorem d_T_wire_1 : decode b_T_wire 1 = .ok (.ifCond .lt 16, 3) := by decide +kernel
theorem d_T_wire_4 : decode b_T_wire 4 = .ok (.iload_n 2, 1) := by decide +kernel
theorem d_T_wire_5 : decode b_T_wire 5 = .ok (.bipush 7, 2) := by decide +kernel
theorem d_T_wire_7 : decode b_T_wire 7 = .ok (.if_icmp .gt 10, 3) := by decide +kernel
theorem d_T_wire_10 : decode b_T_wire 10 = .ok (.aload_n 0, 1) := by decide +kernel
theorem d_T_wire_11 : decode b_T_wire 11 = .ok (.invokevirtual 43, 3) := by decide +kernel
theorem d_T_wire_14 : decode b_T_wire 14 = .ok (.ifCond .eq 5, 3) := by decide +kernel
theorem d_T_wire_17 : decode b_T_wire 17 = .ok (.iconst 0, 1) := by decide +kernel
theorem d_T_wire_18 : decode b_T_wire 18 = .ok (.ireturn, 1) := by decide +kernel
theorem d_T_wire_19 : decode b_T_wire 19 = .ok (.aload_n 0, 1) := by decide +kernel
theorem d_T_wire_20 : decode b_T_wire 20 = .ok (.iload_n 1, 1) := by decide +kernel
theorem d_T_wire_21 : decode b_T_wire 21 = .ok (.sipush 255, 3) := by decide +kernel
theorem d_T_wire_24 : decode b_T_wire 24 = .ok (.iand, 1) := by decide +kernel
theorem d_T_wire_25 : decode b_T_wire 25 = .ok (.iload_n 2, 1) := by decide +kernel
theorem d_T_wire_26 : decode b_T_wire 26 = .ok (.invokevirtual 89, 3) := by decide +kernel
theorem d_T_wire_29 : decode b_T_wire 29 = .ok (.iconst 1, 1) := by decide +kernel
theorem d_T_wire_30 : decode b_T_wire 30 = .ok (.ireturn, 1) := by decide +kernel
theorem d_T_leave_0 : decode b_T_leave 0 = .ok (.aload_n 0, 1) := by decide +kernel
theorem d_T_leave_1 : decode b_T_leave 1 = .ok (.getfield 64, 3) := by decide +kernel
theorem d_T_leave_4 : decode b_T_leave 4 = .ok (.iconst 1, 1) := by decide +kernel
theorem d_T_leave_5 : decode b_T_leave 5 = .ok (.iconst 5, 1) := by decide +kernel
theorem d_T_leave_6 : decode b_T_leave 6 = .ok (.aload_n 0, 1) := by decide +kernel
theorem d_T_leave_7 : decode b_T_leave 7 = .ok (.getfield 92, 3) := by decide +kernel
theorem d_T_leave_10 : decode b_T_leave 10 = .ok (.iconst 3, 1) := by decide +kernel
theorem d_T_leave_11 : decode b_T_leave 11 = .ok (.iand, 1) := by decide +kernel
theorem d_T_leave_12 : decode b_T_leave 12 = .ok (.iadd, 1) := by decide +kernel
theorem d_T_leave_13 : decode b_T_leave 13 = .ok (.ishl, 1) := by decide +kernel
theorem d_T_leave_14 : decode b_T_leave 14 = .ok (.iconst 1, 1) := by decide +kernel
theorem d_T_leave_15 : decode b_T_leave 15 = .ok (.isub, 1) := by decide +kernel
theorem d_T_leave_16 : decode b_T_leave 16 = .ok (.iand, 1) := by decide +kernel
theorem d_T_leave_17 : decode b_T_leave 17 = .ok (.istore_n 1, 1) := by decide +kernel
theorem d_T_leave_18 : decode b_T_leave 18 = .ok (.aload_n 0, 1) := by decide +kernel
theorem d_T_leave_19 : decode b_T_leave 19 = .ok (.iconst 0, 1) := by decide +kernel
theorem d_T_leave_20 : decode b_T_leave 20 = .ok (.putfield 57, 3) := by decide +kernel
theorem d_T_leave_23 : decode b_T_leave 23 = .ok (.aload_n 0, 1) := by decide +kernel
theorem d_T_leave_24 : decode b_T_leave 24 = .ok (.invokevirtual 43, 3) := by decide +kernel
theorem d_T_leave_27 : decode b_T_leave 27 = .ok (.ifCond .eq 12, 3) := by decide +kernel
theorem d_T_leave_30 : decode b_T_leave 30 = .ok (.aload_n 0, 1) := by decide +kernel
theorem d_T_leave_31 : decode b_T_leave 31 = .ok (.iload_n 1, 1) := by decide +kernel
theorem d_T_leave_32 : decode b_T_leave 32 = .ok (.iconst 0, 1) := by decide +kernel
theorem d_T_leave_33 : decode b_T_leave 33 = .ok (.invokevirtual 89, 3) := by decide +kernel
theorem d_T_leave_36 : decode b_T_leave 36 = .ok (.goto 26, 3) := by decide +kernel
theorem d_T_leave_39 : decode b_T_leave 39 = .ok (.aload_n 0, 1) := by decide +kernel
theorem d_T_leave_40 : decode b_T_leave 40 = .ok (.getfield 26, 3) := by decide +kernel
theorem d_T_leave_43 : decode b_T_leave 43 = .ok (.aload_n 0, 1) := by decide +kernel
theorem d_T_leave_44 : decode b_T_leave 44 = .ok (.getfield 95, 3) := by decide +kernel
theorem d_T_leave_47 : decode b_T_leave 47 = .ok (.bipush 31, 2) := by decide +kernel
theorem d_T_leave_49 : decode b_T_leave 49 = .ok (.iand, 1) := by decide +kernel
theorem d_T_leave_50 : decode b_T_leave 50 = .ok (.iload_n 1, 1) := by decide +kernel
theorem d_T_leave_51 : decode b_T_leave 51 = .ok (.iastore, 1) := by decide +kernel
theorem d_T_leave_52 : decode b_T_leave 52 = .ok (.aload_n 0, 1) := by decide +kernel
theorem d_T_leave_53 : decode b_T_leave 53 = .ok (.aload_n 0, 1) := by decide +kernel
theorem d_T_leave_54 : decode b_T_leave 54 = .ok (.getfield 95, 3) := by decide +kernel
theorem d_T_leave_57 : decode b_T_leave 57 = .ok (.iconst 1, 1) := by decide +kernel
theorem d_T_leave_58 : decode b_T_leave 58 = .ok (.iadd, 1) := by decide +kernel
theorem d_T_leave_59 : decode b_T_leave 59 = .ok (.putfield 95, 3) := by decide +kernel
theorem d_T_leave_62 : decode b_T_leave 62 = .ok (.iconst 1, 1) := by decide +kernel
theorem d_T_leave_63 : decode b_T_leave 63 = .ok (.ireturn, 1) := by decide +kernel
theorem d_T_tick_0 : decode b_T_tick 0 = .ok (.iload_n 1, 1) := by decide +kernel
theorem d_T_tick_1 : decode b_T_tick 1 = .ok (.iconst 1, 1) := by decide +kernel
theorem d_T_tick_2 : decode b_T_tick 2 = .ok (.if_icmp .lt 9, 3) := by decide +kernel
theorem d_T_tick_5 : decode b_T_tick 5 = .ok (.iload_n 1, 1) := by decide +kernel
theorem d_T_tick_6 : decode b_T_tick 6 = .ok (.bipush 100, 2) := by decide +kernel
theorem d_T_tick_8 : decode b_T_tick 8 = .ok (.if_icmp .le 5, 3) := by decide +kernel
theorem d_T_tick_11 : decode b_T_tick 11 = .ok (.iconst (-1), 1) := by decide +kernel
theorem d_T_tick_12 : decode b_T_tick 12 = .ok (.ireturn, 1) := by decide +kernel
theorem d_T_tick_13 : decode b_T_tick 13 = .ok (.iconst 0, 1) := by decide +kernel
theorem d_T_tick_14 : decode b_T_tick 14 = .ok (.istore_n 2, 1) := by decide +kernel
theorem d_T_tick_15 : decode b_T_tick 15 = .ok (.iconst 0, 1) := by decide +kernel
theorem d_T_tick_16 : decode b_T_tick 16 = .ok (.istore_n 3, 1) := by decide +kernel
theorem d_T_tick_17 : decode b_T_tick 17 = .ok (.iload_n 3, 1) := by decide +kernel
theorem d_T_tick_18 : decode b_T_tick 18 = .ok (.iload_n 1, 1) := by decide +kernel
theorem d_T_tick_19 : decode b_T_tick 19 = .ok (.if_icmp .ge 48, 3) := by decide +kernel
theorem d_T_tick_22 : decode b_T_tick 22 = .ok (.aload_n 0, 1) := by decide +kernel
theorem d_T_tick_23 : decode b_T_tick 23 = .ok (.getfield 57, 3) := by decide +kernel
theorem d_T_tick_26 : decode b_T_tick 26 = .ok (.aload_n 0, 1) := by decide +kernel
theorem d_T_tick_27 : decode b_T_tick 27 = .ok (.getfield 67, 3) := by decide +kernel
theorem d_T_tick_30 : decode b_T_tick 30 = .ok (.iconst 1, 1) := by decide +kernel
theorem d_T_tick_31 : decode b_T_tick 31 = .ok (.iadd, 1) := by decide +kernel
theorem d_T_tick_32 : decode b_T_tick 32 = .ok (.if_icmp .ne 12, 3) := by decide +kernel
theorem d_T_tick_35 : decode b_T_tick 35 = .ok (.iload_n 2, 1) := by decide +kernel
theorem d_T_tick_36 : decode b_T_tick 36 = .ok (.aload_n 0, 1) := by decide +kernel
theorem d_T_tick_37 : decode b_T_tick 37 = .ok (.invokevirtual 98, 3) := by decide +kernel
theorem d_T_tick_40 : decode b_T_tick 40 = .ok (.iadd, 1) := by decide +kernel
theorem d_T_tick_41 : decode b_T_tick 41 = .ok (.goto 4, 3) := by decide +kernel
theorem d_T_tick_44 : decode b_T_tick 44 = .ok (.iload_n 2, 1) := by decide +kernel
theorem d_T_tick_45 : decode b_T_tick 45 = .ok (.istore_n 2, 1) := by decide +kernel
theorem d_T_tick_46 : decode b_T_tick 46 = .ok (.aload_n 0, 1) := by decide +kernel
theorem d_T_tick_47 : decode b_T_tick 47 = .ok (.iconst 1, 1) := by decide +kernel
theorem d_T_tick_48 : decode b_T_tick 48 = .ok (.invokevirtual 101, 3) := by decide +kernel
theorem d_T_tick_51 : decode b_T_tick 51 = .ok (.aload_n 0, 1) := by decide +kernel
theorem d_T_tick_52 : decode b_T_tick 52 = .ok (.aload_n 0, 1) := by decide +kernel
theorem d_T_tick_53 : decode b_T_tick 53 = .ok (.getfield 67, 3) := by decide +kernel
theorem d_T_tick_56 : decode b_T_tick 56 = .ok (.iconst 1, 1) := by decide +kernel
theorem d_T_tick_57 : decode b_T_tick 57 = .ok (.iadd, 1) := by decide +kernel
theorem d_T_tick_58 : decode b_T_tick 58 = .ok (.putfield 67, 3) := by decide +kernel
theorem d_T_tick_61 : decode b_T_tick 61 = .ok (.iinc 3 1, 3) := by decide +kernel
theorem d_T_tick_64 : decode b_T_tick 64 = .ok (.goto (-47), 3) := by decide +kernel
theorem d_T_tick_67 : decode b_T_tick 67 = .ok (.iload_n 2, 1) := by decide +kernel
theorem d_T_tick_68 : decode b_T_tick 68 = .ok (.ireturn, 1) := by decide +kernel
theorem d_T_lines_0 : decode b_T_lines 0 = .ok (.aload_n 0, 1) := by decide +kernel
theorem d_T_lines_1 : decode b_T_lines 1 = .ok (.invokevirtual 50, 3) := by decide +kernel
theorem d_T_lines_4 : decode b_T_lines 4 = .ok (.istore_n 2, 1) := by decide +kernel
theorem d_T_lines_5 : decode b_T_lines 5 = .ok (.aload_n 0, 1) := by decide +kernel
theorem d_T_lines_6 : decode b_T_lines 6 = .ok (.iload_n 1, 1) := by decide +kernel
theorem d_T_lines_7 : decode b_T_lines 7 = .ok (.bipush 15, 2) := by decide +kernel
theorem d_T_lines_9 : decode b_T_lines 9 = .ok (.iand, 1) := by decide +kernel
theorem d_T_lines_10 : decode b_T_lines 10 = .ok (.putfield 47, 3) := by decide +kernel
theorem d_T_lines_13 : decode b_T_lines 13 = .ok (.aload_n 0, 1) := by decide +kernel
theorem d_T_lines_14 : decode b_T_lines 14 = .ok (.iload_n 2, 1) := by decide +kernel
theorem d_T_lines_15 : decode b_T_lines 15 = .ok (.invokevirtual 105, 3) := by decide +kernel
theorem d_T_lines_18 : decode b_T_lines 18 = .ok (.return_, 1) := by decide +kernel
theorem d_T_sent_0 : decode b_T_sent 0 = .ok (.iload_n 1, 1) := by decide +kernel
theorem d_T_sent_1 : decode b_T_sent 1 = .ok (.ifCond .lt 17, 3) := by decide +kernel
theorem d_T_sent_4 : decode b_T_sent 4 = .ok (.iload_n 1, 1) := by decide +kernel
theorem d_T_sent_5 : decode b_T_sent 5 = .ok (.bipush 31, 2) := by decide +kernel
theorem d_T_sent_7 : decode b_T_sent 7 = .ok (.if_icmp .gt 11, 3) := by decide +kernel
theorem d_T_sent_10 : decode b_T_sent 10 = .ok (.iload_n 1, 1) := by decide +kernel
theorem d_T_sent_11 : decode b_T_sent 11 = .ok (.aload_n 0, 1) := by decide +kernel
theorem d_T_sent_12 : decode b_T_sent 12 = .ok (.getfield 95, 3) := by decide +kernel
theorem d_T_sent_15 : decode b_T_sent 15 = .ok (.if_icmp .lt 7, 3) := by decide +kernel
theorem d_T_sent_18 : decode b_T_sent 18 = .ok (.iconst (-1), 1) := by decide +kernel
theorem d_T_sent_19 : decode b_T_sent 19 = .ok (.goto 19, 3) := by decide +kernel
theorem d_T_sent_22 : decode b_T_sent 22 = .ok (.aload_n 0, 1) := by decide +kernel
theorem d_T_sent_23 : decode b_T_sent 23 = .ok (.getfield 26, 3) := by decide +kernel
theorem d_T_sent_26 : decode b_T_sent 26 = .ok (.aload_n 0, 1) := by decide +kernel
theorem d_T_sent_27 : decode b_T_sent 27 = .ok (.getfield 95, 3) := by decide +kernel
theorem d_T_sent_30 : decode b_T_sent 30 = .ok (.iconst 1, 1) := by decide +kernel
theorem d_T_sent_31 : decode b_T_sent 31 = .ok (.isub, 1) := by decide +kernel
theorem d_T_sent_32 : decode b_T_sent 32 = .ok (.iload_n 1, 1) := by decide +kernel
theorem d_T_sent_33 : decode b_T_sent 33 = .ok (.isub, 1) := by decide +kernel
theorem d_T_sent_34 : decode b_T_sent 34 = .ok (.bipush 31, 2) := by decide +kernel
theorem d_T_sent_36 : decode b_T_sent 36 = .ok (.iand, 1) := by decide +kernel
theorem d_T_sent_37 : decode b_T_sent 37 = .ok (.iaload, 1) := by decide +kernel
theorem d_T_sent_38 : decode b_T_sent 38 = .ok (.ireturn, 1) := by decide +kernel
theorem d_T_total_0 : decode b_T_total 0 = .ok (.aload_n 0, 1) := by decide +kernel
theorem d_T_total_1 : decode b_T_total 1 = .ok (.getfield 95, 3) := by decide +kernel
theorem d_T_total_4 : decode b_T_total 4 = .ok (.ireturn, 1) := by decide +kernel
theorem d_T_cause_0 : decode b_T_cause 0 = .ok (.aload_n 0, 1) := by decide +kernel
theorem d_T_cause_1 : decode b_T_cause 1 = .ok (.getfield 13, 3) := by decide +kernel
theorem d_T_cause_4 : decode b_T_cause 4 = .ok (.iconst 2, 1) := by decide +kernel
theorem d_T_cause_5 : decode b_T_cause 5 = .ok (.iaload, 1) := by decide +kernel
theorem d_T_cause_6 : decode b_T_cause 6 = .ok (.ifCond .le 7, 3) := by decide +kernel
theorem d_T_cause_9 : decode b_T_cause 9 = .ok (.iconst 1, 1) := by decide +kernel
theorem d_T_cause_10 : decode b_T_cause 10 = .ok (.goto 4, 3) := by decide +kernel
theorem d_T_cause_13 : decode b_T_cause 13 = .ok (.iconst 0, 1) := by decide +kernel
theorem d_T_cause_14 : decode b_T_cause 14 = .ok (.istore_n 1, 1) := by decide +kernel
theorem d_T_cause_15 : decode b_T_cause 15 = .ok (.aload_n 0, 1) := by decide +kernel
theorem d_T_cause_16 : decode b_T_cause 16 = .ok (.aload_n 0, 1) := by decide +kernel
theorem d_T_cause_17 : decode b_T_cause 17 = .ok (.getfield 108, 3) := by decide +kernel
theorem d_T_cause_20 : decode b_T_cause 20 = .ok (.iconst 0, 1) := by decide +kernel
theorem d_T_cause_21 : decode b_T_cause 21 = .ok (.invokevirtual 39, 3) := by decide +kernel
theorem d_T_cause_24 : decode b_T_cause 24 = .ok (.istore_n 2, 1) := by decide +kernel
theorem d_T_cause_25 : decode b_T_cause 25 = .ok (.aload_n 0, 1) := by decide +kernel
theorem d_T_cause_26 : decode b_T_cause 26 = .ok (.aload_n 0, 1) := by decide +kernel
theorem d_T_cause_27 : decode b_T_cause 27 = .ok (.getfield 108, 3) := by decide +kernel
theorem d_T_cause_30 : decode b_T_cause 30 = .ok (.iconst 2, 1) := by decide +kernel
theorem d_T_cause_31 : decode b_T_cause 31 = .ok (.invokevirtual 39, 3) := by decide +kernel
theorem d_T_cause_34 : decode b_T_cause 34 = .ok (.ifCond .eq 26, 3) := by decide +kernel
theorem d_T_cause_37 : decode b_T_cause 37 = .ok (.aload_n 0, 1) := by decide +kernel
theorem d_T_cause_38 : decode b_T_cause 38 = .ok (.getfield 86, 3) := by decide +kernel
theorem d_T_cause_41 : decode b_T_cause 41 = .ok (.ifCond .ne 16, 3) := by decide +kernel
theorem d_T_cause_44 : decode b_T_cause 44 = .ok (.iload_n 1, 1) := by decide +kernel
theorem d_T_cause_45 : decode b_T_cause 45 = .ok (.ifCond .eq 15, 3) := by decide +kernel
theorem d_T_cause_48 : decode b_T_cause 48 = .ok (.aload_n 0, 1) := by decide +kernel
theorem d_T_cause_49 : decode b_T_cause 49 = .ok (.getfield 16, 3) := by decide +kernel
theorem d_T_cause_52 : decode b_T_cause 52 = .ok (.iconst 0, 1) := by decide +kernel
theorem d_T_cause_53 : decode b_T_cause 53 = .ok (.iaload, 1) := by decide +kernel
theorem d_T_cause_54 : decode b_T_cause 54 = .ok (.ifCond .eq 6, 3) := by decide +kernel
theorem d_T_cause_57 : decode b_T_cause 57 = .ok (.bipush 6, 2) := by decide +kernel
theorem d_T_cause_59 : decode b_T_cause 59 = .ok (.ireturn, 1) := by decide +kernel
theorem d_T_cause_60 : decode b_T_cause 60 = .ok (.iload_n 2, 1) := by decide +kernel
theorem d_T_cause_61 : decode b_T_cause 61 = .ok (.ifCond .eq 29, 3) := by decide +kernel
theorem d_T_cause_64 : decode b_T_cause 64 = .ok (.aload_n 0, 1) := by decide +kernel
theorem d_T_cause_65 : decode b_T_cause 65 = .ok (.getfield 13, 3) := by decide +kernel
theorem d_T_cause_68 : decode b_T_cause 68 = .ok (.iconst 2, 1) := by decide +kernel
theorem d_T_cause_69 : decode b_T_cause 69 = .ok (.iaload, 1) := by decide +kernel
theorem d_T_cause_70 : decode b_T_cause 70 = .ok (.aload_n 0, 1) := by decide +kernel
theorem d_T_cause_71 : decode b_T_cause 71 = .ok (.getfield 29, 3) := by decide +kernel
theorem d_T_cause_74 : decode b_T_cause 74 = .ok (.ifCond .eq 10, 3) := by decide +kernel
theorem d_T_cause_77 : decode b_T_cause 77 = .ok (.aload_n 0, 1) := by decide +kernel
theorem d_T_cause_78 : decode b_T_cause 78 = .ok (.getfield 19, 3) := by decide +kernel
theorem d_T_cause_81 : decode b_T_cause 81 = .ok (.goto 4, 3) := by decide +kernel
theorem d_T_cause_84 : decode b_T_cause 84 = .ok (.iconst 1, 1) := by decide +kernel
theorem d_T_cause_85 : decode b_T_cause 85 = .ok (.if_icmp .lt 5, 3) := by decide +kernel
theorem d_T_cause_88 : decode b_T_cause 88 = .ok (.iconst 4, 1) := by decide +kernel
theorem d_T_cause_89 : decode b_T_cause 89 = .ok (.ireturn, 1) := by decide +kernel
theorem d_T_cause_90 : decode b_T_cause 90 = .ok (.iload_n 2, 1) := by decide +kernel
theorem d_T_cause_91 : decode b_T_cause 91 = .ok (.ifCond .eq 35, 3) := by decide +kernel
theorem d_T_cause_94 : decode b_T_cause 94 = .ok (.aload_n 0, 1) := by decide +kernel
theorem d_T_cause_95 : decode b_T_cause 95 = .ok (.getfield 29, 3) := by decide +kernel
theorem d_T_cause_98 : decode b_T_cause 98 = .ok (.ifCond .eq 28, 3) := by decide +kernel
theorem d_T_cause_101 : decode b_T_cause 101 = .ok (.iload_n 1, 1) := by decide +kernel
theorem d_T_cause_102 : decode b_T_cause 102 = .ok (.ifCond .eq 24, 3) := by decide +kernel
theorem d_T_cause_105 : decode b_T_cause 105 = .ok (.aload_n 0, 1) := by decide +kernel
theorem d_T_cause_106 : decode b_T_cause 106 = .ok (.getfield 67, 3) := by decide +kernel
theorem d_T_cause_109 : decode b_T_cause 109 = .ok (.aload_n 0, 1) := by decide +kernel
theorem d_T_cause_110 : decode b_T_cause 110 = .ok (.getfield 76, 3) := by decide +kernel
theorem d_T_cause_113 : decode b_T_cause 113 = .ok (.isub, 1) := by decide +kernel
theorem d_T_cause_114 : decode b_T_cause 114 = .ok (.iconst 4, 1) := by decide +kernel
theorem d_T_cause_115 : decode b_T_cause 115 = .ok (.aload_n 0, 1) := by decide +kernel
theorem d_T_cause_116 : decode b_T_cause 116 = .ok (.invokevirtual 70, 3) := by decide +kernel
theorem d_T_cause_119 : decode b_T_cause 119 = .ok (.imul, 1) := by decide +kernel
theorem d_T_cause_120 : decode b_T_cause 120 = .ok (.if_icmp .lt 6, 3) := by decide +kernel
theorem d_T_cause_123 : decode b_T_cause 123 = .ok (.bipush 12, 2) := by decide +kernel
theorem d_T_cause_125 : decode b_T_cause 125 = .ok (.ireturn, 1) := by decide +kernel
theorem d_T_cause_126 : decode b_T_cause 126 = .ok (.aload_n 0, 1) := by decide +kernel
theorem d_T_cause_127 : decode b_T_cause 127 = .ok (.aload_n 0, 1) := by decide +kernel
theorem d_T_cause_128 : decode b_T_cause 128 = .ok (.getfield 108, 3) := by decide +kernel
theorem d_T_cause_131 : decode b_T_cause 131 = .ok (.iconst 1, 1) := by decide +kernel
theorem d_T_cause_132 : decode b_T_cause 132 = .ok (.invokevirtual 39, 3) := by decide +kernel
theorem d_T_cause_135 : decode b_T_cause 135 = .ok (.ifCond .eq 14, 3) := by decide +kernel
theorem d_T_cause_138 : decode b_T_cause 138 = .ok (.aload_n 0, 1) := by decide +kernel
theorem d_T_cause_139 : decode b_T_cause 139 = .ok (.getfield 73, 3) := by decide +kernel
theorem d_T_cause_142 : decode b_T_cause 142 = .ok (.ifCond .eq 7, 3) := by decide +kernel
theorem d_T_cause_145 : decode b_T_cause 145 = .ok (.iconst 2, 1) := by decide +kernel
theorem d_T_cause_146 : decode b_T_cause 146 = .ok (.goto 27, 3) := by decide +kernel
theorem d_T_cause_149 : decode b_T_cause 149 = .ok (.aload_n 0, 1) := by decide +kernel
theorem d_T_cause_150 : decode b_T_cause 150 = .ok (.aload_n 0, 1) := by decide +kernel
theorem d_T_cause_151 : decode b_T_cause 151 = .ok (.getfield 108, 3) := by decide +kernel
theorem d_T_cause_154 : decode b_T_cause 154 = .ok (.iconst 3, 1) := by decide +kernel
theorem d_T_cause_155 : decode b_T_cause 155 = .ok (.invokevirtual 39, 3) := by decide +kernel
theorem d_T_cause_158 : decode b_T_cause 158 = .ok (.ifCond .eq 14, 3) := by decide +kernel
theorem d_T_cause_161 : decode b_T_cause 161 = .ok (.aload_n 0, 1) := by decide +kernel
theorem d_T_cause_162 : decode b_T_cause 162 = .ok (.getfield 54, 3) := by decide +kernel
theorem d_T_cause_165 : decode b_T_cause 165 = .ok (.ifCond .eq 7, 3) := by decide +kernel
theorem d_T_cause_168 : decode b_T_cause 168 = .ok (.iconst 0, 1) := by decide +kernel
theorem d_T_cause_169 : decode b_T_cause 169 = .ok (.goto 4, 3) := by decide +kernel
theorem d_T_cause_172 : decode b_T_cause 172 = .ok (.iconst 1, 1) := by decide +kernel
theorem d_T_cause_173 : decode b_T_cause 173 = .ok (.ireturn, 1) := by decide +kernel
theorem d_T_readCause_0 : decode b_T_readCause 0 = .ok (.aload_n 0, 1) := by decide +kernel
theorem d_T_readCause_1 : decode b_T_readCause 1 = .ok (.invokevirtual 111, 3) := by decide +kernel
theorem d_T_readCause_4 : decode b_T_readCause 4 = .ok (.istore_n 1, 1) := by decide +kernel
theorem d_T_readCause_5 : decode b_T_readCause 5 = .ok (.aload_n 0, 1) := by decide +kernel
theorem d_T_readCause_6 : decode b_T_readCause 6 = .ok (.aload_n 0, 1) := by decide +kernel
theorem d_T_readCause_7 : decode b_T_readCause 7 = .ok (.getfield 73, 3) := by decide +kernel
theorem d_T_readCause_10 : decode b_T_readCause 10 = .ok (.ifCond .eq 12, 3) := by decide +kernel
theorem d_T_readCause_13 : decode b_T_readCause 13 = .ok (.iload_n 1, 1) := by decide +kernel
theorem d_T_readCause_14 : decode b_T_readCause 14 = .ok (.iconst 2, 1) := by decide +kernel
theorem d_T_readCause_15 : decode b_T_readCause 15 = .ok (.if_icmp .eq 7, 3) := by decide +kernel
theorem d_T_readCause_18 : decode b_T_readCause 18 = .ok (.iconst 1, 1) := by decide +kernel
theorem d_T_readCause_19 : decode b_T_readCause 19 = .ok (.goto 4, 3) := by decide +kernel
theorem d_T_readCause_22 : decode b_T_readCause 22 = .ok (.iconst 0, 1) := by decide +kernel
theorem d_T_readCause_23 : decode b_T_readCause 23 = .ok (.putfield 73, 3) := by decide +kernel
theorem d_T_readCause_26 : decode b_T_readCause 26 = .ok (.aload_n 0, 1) := by decide +kernel
theorem d_T_readCause_27 : decode b_T_readCause 27 = .ok (.getfield 29, 3) := by decide +kernel
theorem d_T_readCause_30 : decode b_T_readCause 30 = .ok (.ifCond .eq 11, 3) := by decide +kernel
theorem d_T_readCause_33 : decode b_T_readCause 33 = .ok (.iload_n 1, 1) := by decide +kernel
theorem d_T_readCause_34 : decode b_T_readCause 34 = .ok (.sipush 192, 3) := by decide +kernel
theorem d_T_readCause_37 : decode b_T_readCause 37 = .ok (.iadd, 1) := by decide +kernel
theorem d_T_readCause_38 : decode b_T_readCause 38 = .ok (.goto 4, 3) := by decide +kernel
theorem d_T_readCause_41 : decode b_T_readCause 41 = .ok (.iload_n 1, 1) := by decide +kernel
theorem d_T_readCause_42 : decode b_T_readCause 42 = .ok (.ireturn, 1) := by decide +kernel
theorem d_T_readStatus_0 : decode b_T_readStatus 0 = .ok (.aload_n 0, 1) := by decide +kernel
theorem d_T_readStatus_1 : decode b_T_readStatus 1 = .ok (.getfield 13, 3) := by decide +kernel
theorem d_T_readStatus_4 : decode b_T_readStatus 4 = .ok (.iconst 2, 1) := by decide +kernel
theorem d_T_readStatus_5 : decode b_T_readStatus 5 = .ok (.iaload, 1) := by decide +kernel
theorem d_T_readStatus_6 : decode b_T_readStatus 6 = .ok (.ifCond .le 7, 3) := by decide +kernel
theorem d_T_readStatus_9 : decode b_T_readStatus 9 = .ok (.iconst 1, 1) := by decide +kernel
theorem d_T_readStatus_10 : decode b_T_readStatus 10 = .ok (.goto 4, 3) := by decide +kernel
theorem d_T_readStatus_13 : decode b_T_readStatus 13 = .ok (.iconst 0, 1) := by decide +kernel
theorem d_T_readStatus_14 : decode b_T_readStatus 14 = .ok (.istore_n 1, 1) := by decide +kernel
theorem d_T_readStatus_15 : decode b_T_readStatus 15 = .ok (.iconst 0, 1) := by decide +kernel
theorem d_T_readStatus_16 : decode b_T_readStatus 16 = .ok (.istore_n 2, 1) := by decide +kernel
theorem d_T_readStatus_17 : decode b_T_readStatus 17 = .ok (.iconst 0, 1) := by decide +kernel
theorem d_T_readStatus_18 : decode b_T_readStatus 18 = .ok (.istore_n 3, 1) := by decide +kernel
theorem d_T_readStatus_19 : decode b_T_readStatus 19 = .ok (.iload_n 3, 1) := by decide +kernel
theorem d_T_readStatus_20 : decode b_T_readStatus 20 = .ok (.aload_n 0, 1) := by decide +kernel
theorem d_T_readStatus_21 : decode b_T_readStatus 21 = .ok (.getfield 13, 3) := by decide +kernel
theorem d_T_readStatus_24 : decode b_T_readStatus 24 = .ok (.iconst 2, 1) := by decide +kernel
theorem d_T_readStatus_25 : decode b_T_readStatus 25 = .ok (.iaload, 1) := by decide +kernel
theorem d_T_readStatus_26 : decode b_T_readStatus 26 = .ok (.if_icmp .ge 28, 3) := by decide +kernel
theorem d_T_readStatus_29 : decode b_T_readStatus 29 = .ok (.iload_n 2, 1) := by decide +kernel
theorem d_T_readStatus_30 : decode b_T_readStatus 30 = .ok (.ifCond .ne 12, 3) := by decide +kernel
theorem d_T_readStatus_33 : decode b_T_readStatus 33 = .ok (.aload_n 0, 1) := by decide +kernel
theorem d_T_readStatus_34 : decode b_T_readStatus 34 = .ok (.getfield 16, 3) := by decide +kernel
theorem d_T_readStatus_37 : decode b_T_readStatus 37 = .ok (.iload_n 3, 1) := by decide +kernel
theorem d_T_readStatus_38 : decode b_T_readStatus 38 = .ok (.iaload, 1) := by decide +kernel
theorem d_T_readStatus_39 : decode b_T_readStatus 39 = .ok (.ifCond .eq 7, 3) := by decide +kernel
theorem d_T_readStatus_42 : decode b_T_readStatus 42 = .ok (.iconst 1, 1) := by decide +kernel
theorem d_T_readStatus_43 : decode b_T_readStatus 43 = .ok (.goto 4, 3) := by decide +kernel
theorem d_T_readStatus_46 : decode b_T_readStatus 46 = .ok (.iconst 0, 1) := by decide +kernel
theorem d_T_readStatus_47 : decode b_T_readStatus 47 = .ok (.istore_n 2, 1) := by decide +kernel
theorem d_T_readStatus_48 : decode b_T_readStatus 48 = .ok (.iinc 3 1, 3) := by decide +kernel
theorem d_T_readStatus_51 : decode b_T_readStatus 51 = .ok (.goto (-32), 3) := by decide +kernel
theorem d_T_readStatus_54 : decode b_T_readStatus 54 = .ok (.iload_n 1, 1) := by decide +kernel
theorem d_T_readStatus_55 : decode b_T_readStatus 55 = .ok (.ifCond .eq 16, 3) := by decide +kernel
theorem d_T_readStatus_58 : decode b_T_readStatus 58 = .ok (.iconst 1, 1) := by decide +kernel
theorem d_T_readStatus_59 : decode b_T_readStatus 59 = .ok (.iconst 4, 1) := by decide +kernel
theorem d_T_readStatus_60 : decode b_T_readStatus 60 = .ok (.aload_n 0, 1) := by decide +kernel
theorem d_T_readStatus_61 : decode b_T_readStatus 61 = .ok (.getfield 16, 3) := by decide +kernel
theorem d_T_readStatus_64 : decode b_T_readStatus 64 = .ok (.iconst 0, 1) := by decide +kernel
theorem d_T_readStatus_65 : decode b_T_readStatus 65 = .ok (.iaload, 1) := by decide +kernel
theorem d_T_readStatus_66 : decode b_T_readStatus 66 = .ok (.imul, 1) := by decide +kernel
theorem d_T_readStatus_67 : decode b_T_readStatus 67 = .ok (.iadd, 1) := by decide +kernel
theorem d_T_readStatus_68 : decode b_T_readStatus 68 = .ok (.goto 4, 3) := by decide +kernel
theorem d_T_readStatus_71 : decode b_T_readStatus 71 = .ok (.iconst 0, 1) := by decide +kernel
theorem d_T_readStatus_72 : decode b_T_readStatus 72 = .ok (.aload_n 0, 1) := by decide +kernel
theorem d_T_readStatus_73 : decode b_T_readStatus 73 = .ok (.getfield 86, 3) := by decide +kernel
theorem d_T_readStatus_76 : decode b_T_readStatus 76 = .ok (.ifCond .eq 7, 3) := by decide +kernel
theorem d_T_readStatus_79 : decode b_T_readStatus 79 = .ok (.iconst 2, 1) := by decide +kernel
theorem d_T_readStatus_80 : decode b_T_readStatus 80 = .ok (.goto 4, 3) := by decide +kernel
theorem d_T_readStatus_83 : decode b_T_readStatus 83 = .ok (.iconst 0, 1) := by decide +kernel
theorem d_T_readStatus_84 : decode b_T_readStatus 84 = .ok (.iadd, 1) := by decide +kernel
theorem d_T_readStatus_85 : decode b_T_readStatus 85 = .ok (.aload_n 0, 1) := by decide +kernel
theorem d_T_readStatus_86 : decode b_T_readStatus 86 = .ok (.getfield 13, 3) := by decide +kernel
theorem d_T_readStatus_89 : decode b_T_readStatus 89 = .ok (.iconst 3, 1) := by decide +kernel
theorem d_T_readStatus_90 : decode b_T_readStatus 90 = .ok (.iaload, 1) := by decide +kernel
theorem d_T_readStatus_91 : decode b_T_readStatus 91 = .ok (.ifCond .ne 8, 3) := by decide +kernel
theorem d_T_readStatus_94 : decode b_T_readStatus 94 = .ok (.bipush 32, 2) := by decide +kernel
theorem d_T_readStatus_96 : decode b_T_readStatus 96 = .ok (.goto 4, 3) := by decide +kernel
theorem d_T_readStatus_99 : decode b_T_readStatus 99 = .ok (.iconst 0, 1) := by decide +kernel
theorem d_T_readStatus_100 : decode b_T_readStatus 100 = .ok (.iadd, 1) := by decide +kernel
theorem d_T_readStatus_101 : decode b_T_readStatus 101 = .ok (.aload_n 0, 1) := by decide +kernel
theorem d_T_readStatus_102 : decode b_T_readStatus 102 = .ok (.getfield 13, 3) := by decide +kernel
theorem d_T_readStatus_105 : decode b_T_readStatus 105 = .ok (.iconst 3, 1) := by decide +kernel
theorem d_T_readStatus_106 : decode b_T_readStatus 106 = .ok (.iaload, 1) := by decide +kernel
theorem d_T_readStatus_107 : decode b_T_readStatus 107 = .ok (.ifCond .ne 15, 3) := by decide +kernel
theorem d_T_readStatus_110 : decode b_T_readStatus 110 = .ok (.aload_n 0, 1) := by decide +kernel
theorem d_T_readStatus_111 : decode b_T_readStatus 111 = .ok (.getfield 57, 3) := by decide +kernel
theorem d_T_readStatus_114 : decode b_T_readStatus 114 = .ok (.ifCond .ne 8, 3) := by decide +kernel
theorem d_T_readStatus_117 : decode b_T_readStatus 117 = .ok (.bipush 64, 2) := by decide +kernel
theorem d_T_readStatus_119 : decode b_T_readStatus 119 = .ok (.goto 4, 3) := by decide +kernel
theorem d_T_readStatus_122 : decode b_T_readStatus 122 = .ok (.iconst 0, 1) := by decide +kernel
theorem d_T_readStatus_123 : decode b_T_readStatus 123 = .ok (.iadd, 1) := by decide +kernel
theorem d_T_readStatus_124 : decode b_T_readStatus 124 = .ok (.aload_n 0, 1) := by decide +kernel
theorem d_T_readStatus_125 : decode b_T_readStatus 125 = .ok (.getfield 29, 3) := by decide +kernel
theorem d_T_readStatus_128 : decode b_T_readStatus 128 = .ok (.ifCond .eq 13, 3) := by decide +kernel
theorem d_T_readStatus_131 : decode b_T_readStatus 131 = .ok (.iload_n 2, 1) := by decide +kernel
theorem d_T_readStatus_132 : decode b_T_readStatus 132 = .ok (.ifCond .eq 9, 3) := by decide +kernel
theorem d_T_readStatus_135 : decode b_T_readStatus 135 = .ok (.sipush 128, 3) := by decide +kernel
theorem d_T_readStatus_138 : decode b_T_readStatus 138 = .ok (.goto 4, 3) := by decide +kernel
theorem d_T_readStatus_141 : decode b_T_readStatus 141 = .ok (.iconst 0, 1) := by decide +kernel
theorem d_T_readStatus_142 : decode b_T_readStatus 142 = .ok (.iadd, 1) := by decide +kernel
theorem d_T_readStatus_143 : decode b_T_readStatus 143 = .ok (.istore_n 3, 1) := by decide +kernel
theorem d_T_readStatus_144 : decode b_T_readStatus 144 = .ok (.aload_n 0, 1) := by decide +kernel
theorem d_T_readStatus_145 : decode b_T_readStatus 145 = .ok (.iconst 0, 1) := by decide +kernel
theorem d_T_readStatus_146 : decode b_T_readStatus 146 = .ok (.putfield 86, 3) := by decide +kernel
theorem d_T_readStatus_149 : decode b_T_readStatus 149 = .ok (.aload_n 0, 1) := by decide +kernel
theorem d_T_readStatus_150 : decode b_T_readStatus 150 = .ok (.getfield 16, 3) := by decide +kernel
theorem d_T_readStatus_153 : decode b_T_readStatus 153 = .ok (.iconst 0, 1) := by decide +kernel
theorem d_T_readStatus_154 : decode b_T_readStatus 154 = .ok (.iload_n 1, 1) := by decide +kernel
theorem d_T_readStatus_155 : decode b_T_readStatus 155 = .ok (.ifCond .eq 7, 3) := by decide +kernel
theorem d_T_readStatus_158 : decode b_T_readStatus 158 = .ok (.iconst 0, 1) := by decide +kernel
theorem d_T_readStatus_159 : decode b_T_readStatus 159 = .ok (.goto 9, 3) := by decide +kernel
theorem d_T_readStatus_162 : decode b_T_readStatus 162 = .ok (.aload_n 0, 1) := by decide +kernel
theorem d_T_readStatus_163 : decode b_T_readStatus 163 = .ok (.getfield 16, 3) := by decide +kernel
theorem d_T_readStatus_166 : decode b_T_readStatus 166 = .ok (.iconst 0, 1) := by decide +kernel
theorem d_T_readStatus_167 : decode b_T_readStatus 167 = .ok (.iaload, 1) := by decide +kernel
theorem d_T_readStatus_168 : decode b_T_readStatus 168 = .ok (.iastore, 1) := by decide +kernel
theorem d_T_readStatus_169 : decode b_T_readStatus 169 = .ok (.iload_n 3, 1) := by decide +kernel
theorem d_T_readStatus_170 : decode b_T_readStatus 170 = .ok (.ireturn, 1) := by decide +kernel
theorem d_T_readChanges_0 : decode b_T_readChanges 0 = .ok (.aload_n 0, 1) := by decide +kernel
theorem d_T_readChanges_1 : decode b_T_readChanges 1 = .ok (.getfield 54, 3) := by decide +kernel
theorem d_T_readChanges_4 : decode b_T_readChanges 4 = .ok (.bipush 16, 2) := by decide +kernel
theorem d_T_readChanges_6 : decode b_T_readChanges 6 = .ok (.aload_n 0, 1) := by decide +kernel
theorem d_T_readChanges_7 : decode b_T_readChanges 7 = .ok (.invokevirtual 50, 3) := by decide +kernel
theorem d_T_readChanges_10 : decode b_T_readChanges 10 = .ok (.imul, 1) := by decide +kernel
theorem d_T_readChanges_11 : decode b_T_readChanges 11 = .ok (.iadd, 1) := by decide +kernel
theorem d_T_readChanges_12 : decode b_T_readChanges 12 = .ok (.istore_n 1, 1) := by decide +kernel
theorem d_T_readChanges_13 : decode b_T_readChanges 13 = .ok (.aload_n 0, 1) := by decide +kernel
theorem d_T_readChanges_14 : decode b_T_readChanges 14 = .ok (.iconst 0, 1) := by decide +kernel
theorem d_T_readChanges_15 : decode b_T_readChanges 15 = .ok (.putfield 54, 3) := by decide +kernel
theorem d_T_readChanges_18 : decode b_T_readChanges 18 = .ok (.iload_n 1, 1) := by decide +kernel
theorem d_T_readChanges_19 : decode b_T_readChanges 19 = .ok (.ireturn, 1) := by decide +kernel
theorem d_T_read_0 : decode b_T_read 0 = .ok (.aload_n 0, 1) := by decide +kernel
theorem d_T_read_1 : decode b_T_read 1 = .ok (.aload_n 0, 1) := by decide +kernel
theorem d_T_read_2 : decode b_T_read 2 = .ok (.getfield 92, 3) := by decide +kernel
theorem d_T_read_5 : decode b_T_read 5 = .ok (.bipush 7, 2) := by decide +kernel
theorem d_T_read_7 : decode b_T_read 7 = .ok (.invokevirtual 39, 3) := by decide +kernel
theorem d_T_read_10 : decode b_T_read 10 = .ok (.istore_n 2, 1) := by decide +kernel
theorem d_T_read_11 : decode b_T_read 11 = .ok (.iload_n 1, 1) := by decide +kernel
theorem d_T_read_12 : decode b_T_read 12 = .ok (.tableswitch 123 0 7 #[48, 77, 93, 98, 103, 108, 113, 118], 48) := by decide +kernel
theorem d_T_read_60 : decode b_T_read 60 = .ok (.iload_n 2, 1) := by decide +kernel
theorem d_T_read_61 : decode b_T_read 61 = .ok (.ifCond .eq 10, 3) := by decide +kernel
theorem d_T_read_64 : decode b_T_read 64 = .ok (.aload_n 0, 1) := by decide +kernel
theorem d_T_read_65 : decode b_T_read 65 = .ok (.getfield 23, 3) := by decide +kernel
theorem d_T_read_68 : decode b_T_read 68 = .ok (.goto 20, 3) := by decide +kernel
theorem d_T_read_71 : decode b_T_read 71 = .ok (.aload_n 0, 1) := by decide +kernel
theorem d_T_read_72 : decode b_T_read 72 = .ok (.getfield 13, 3) := by decide +kernel
theorem d_T_read_75 : decode b_T_read 75 = .ok (.iconst 2, 1) := by decide +kernel
theorem d_T_read_76 : decode b_T_read 76 = .ok (.iaload, 1) := by decide +kernel
theorem d_T_read_77 : decode b_T_read 77 = .ok (.ifCond .le 10, 3) := by decide +kernel
theorem d_T_read_80 : decode b_T_read 80 = .ok (.aload_n 0, 1) := by decide +kernel
theorem d_T_read_81 : decode b_T_read 81 = .ok (.invokevirtual 114, 3) := by decide +kernel
theorem d_T_read_84 : decode b_T_read 84 = .ok (.goto 4, 3) := by decide +kernel
theorem d_T_read_87 : decode b_T_read 87 = .ok (.iconst 0, 1) := by decide +kernel
theorem d_T_read_88 : decode b_T_read 88 = .ok (.ireturn, 1) := by decide +kernel
theorem d_T_read_89 : decode b_T_read 89 = .ok (.iload_n 2, 1) := by decide +kernel
theorem d_T_read_90 : decode b_T_read 90 = .ok (.ifCond .eq 10, 3) := by decide +kernel
theorem d_T_read_93 : decode b_T_read 93 = .ok (.aload_n 0, 1) := by decide +kernel
theorem d_T_read_94 : decode b_T_read 94 = .ok (.getfield 33, 3) := by decide +kernel
theorem d_T_read_97 : decode b_T_read 97 = .ok (.goto 7, 3) := by decide +kernel
theorem d_T_read_100 : decode b_T_read 100 = .ok (.aload_n 0, 1) := by decide +kernel
theorem d_T_read_101 : decode b_T_read 101 = .ok (.getfield 108, 3) := by decide +kernel
theorem d_T_read_104 : decode b_T_read 104 = .ok (.ireturn, 1) := by decide +kernel
theorem d_T_read_105 : decode b_T_read 105 = .ok (.aload_n 0, 1) := by decide +kernel
theorem d_T_read_106 : decode b_T_read 106 = .ok (.invokevirtual 117, 3) := by decide +kernel
theorem d_T_read_109 : decode b_T_read 109 = .ok (.ireturn, 1) := by decide +kernel
theorem d_T_read_110 : decode b_T_read 110 = .ok (.aload_n 0, 1) := by decide +kernel
theorem d_T_read_111 : decode b_T_read 111 = .ok (.getfield 92, 3) := by decide +kernel
theorem d_T_read_114 : decode b_T_read 114 = .ok (.ireturn, 1) := by decide +kernel
theorem d_T_read_115 : decode b_T_read 115 = .ok (.aload_n 0, 1) := by decide +kernel
theorem d_T_read_116 : decode b_T_read 116 = .ok (.getfield 36, 3) := by decide +kernel
theorem d_T_read_119 : decode b_T_read 119 = .ok (.ireturn, 1) := by decide +kernel
theorem d_T_read_120 : decode b_T_read 120 = .ok (.aload_n 0, 1) := by decide +kernel
theorem d_T_read_121 : decode b_T_read 121 = .ok (.invokevirtual 120, 3) := by decide +kernel
theorem d_T_read_124 : decode b_T_read 124 = .ok (.ireturn, 1) := by decide +kernel
theorem d_T_read_125 : decode b_T_read 125 = .ok (.aload_n 0, 1) := by decide +kernel
theorem d_T_read_126 : decode b_T_read 126 = .ok (.invokevirtual 123, 3) := by decide +kernel
theorem d_T_read_129 : decode b_T_read 129 = .ok (.ireturn, 1) := by decide +kernel
theorem d_T_read_130 : decode b_T_read 130 = .ok (.aload_n 0, 1) := by decide +kernel
theorem d_T_read_131 : decode b_T_read 131 = .ok (.getfield 126, 3) := by decide +kernel
theorem d_T_read_134 : decode b_T_read 134 = .ok (.ireturn, 1) := by decide +kernel
theorem d_T_read_135 : decode b_T_read 135 = .ok (.iconst (-1), 1) := by decide +kernel
theorem d_T_read_136 : decode b_T_read 136 = .ok (.ireturn, 1) := by decide +kernel
theorem d_T_writeData_0 : decode b_T_writeData 0 = .ok (.aload_n 0, 1) := by decide +kernel
theorem d_T_writeData_1 : decode b_T_writeData 1 = .ok (.iconst 0, 1) := by decide +kernel
theorem d_T_writeData_2 : decode b_T_writeData 2 = .ok (.putfield 73, 3) := by decide +kernel
theorem d_T_writeData_5 : decode b_T_writeData 5 = .ok (.aload_n 0, 1) := by decide +kernel
theorem d_T_writeData_6 : decode b_T_writeData 6 = .ok (.getfield 13, 3) := by decide +kernel
theorem d_T_writeData_9 : decode b_T_writeData 9 = .ok (.iconst 3, 1) := by decide +kernel
theorem d_T_writeData_10 : decode b_T_writeData 10 = .ok (.iaload, 1) := by decide +kernel
theorem d_T_writeData_11 : decode b_T_writeData 11 = .ok (.aload_n 0, 1) := by decide +kernel
theorem d_T_writeData_12 : decode b_T_writeData 12 = .ok (.invokevirtual 79, 3) := by decide +kernel
theorem d_T_writeData_15 : decode b_T_writeData 15 = .ok (.if_icmp .ge 9, 3) := by decide +kernel
theorem d_T_writeData_18 : decode b_T_writeData 18 = .ok (.aload_n 0, 1) := by decide +kernel
theorem d_T_writeData_19 : decode b_T_writeData 19 = .ok (.iconst 3, 1) := by decide +kernel
theorem d_T_writeData_20 : decode b_T_writeData 20 = .ok (.iload_n 1, 1) := by decide +kernel
theorem d_T_writeData_21 : decode b_T_writeData 21 = .ok (.invokevirtual 82, 3) := by decide +kernel
theorem d_T_writeData_24 : decode b_T_writeData 24 = .ok (.aload_n 0, 1) := by decide +kernel
theorem d_T_writeData_25 : decode b_T_writeData 25 = .ok (.iconst 0, 1) := by decide +kernel
theorem d_T_writeData_26 : decode b_T_writeData 26 = .ok (.invokevirtual 101, 3) := by decide +kernel
theorem d_T_writeData_29 : decode b_T_writeData 29 = .ok (.return_, 1) := by decide +kernel
theorem d_T_writeEnabled_0 : decode b_T_writeEnabled 0 = .ok (.aload_n 0, 1) := by decide +kernel
theorem d_T_writeEnabled_1 : decode b_T_writeEnabled 1 = .ok (.aload_n 0, 1) := by decide +kernel
theorem d_T_writeEnabled_2 : decode b_T_writeEnabled 2 = .ok (.getfield 108, 3) := by decide +kernel
theorem d_T_writeEnabled_5 : decode b_T_writeEnabled 5 = .ok (.iconst 1, 1) := by decide +kernel
theorem d_T_writeEnabled_6 : decode b_T_writeEnabled 6 = .ok (.invokevirtual 39, 3) := by decide +kernel
theorem d_T_writeEnabled_9 : decode b_T_writeEnabled 9 = .ok (.istore_n 2, 1) := by decide +kernel
theorem d_T_writeEnabled_10 : decode b_T_writeEnabled 10 = .ok (.aload_n 0, 1) := by decide +kernel
theorem d_T_writeEnabled_11 : decode b_T_writeEnabled 11 = .ok (.iload_n 1, 1) := by decide +kernel
theorem d_T_writeEnabled_12 : decode b_T_writeEnabled 12 = .ok (.bipush 15, 2) := by decide +kernel
theorem d_T_writeEnabled_14 : decode b_T_writeEnabled 14 = .ok (.iand, 1) := by decide +kernel
theorem d_T_writeEnabled_15 : decode b_T_writeEnabled 15 = .ok (.putfield 108, 3) := by decide +kernel
theorem d_T_writeEnabled_18 : decode b_T_writeEnabled 18 = .ok (.aload_n 0, 1) := by decide +kernel
theorem d_T_writeEnabled_19 : decode b_T_writeEnabled 19 = .ok (.aload_n 0, 1) := by decide +kernel
theorem d_T_writeEnabled_20 : decode b_T_writeEnabled 20 = .ok (.getfield 73, 3) := by decide +kernel
theorem d_T_writeEnabled_23 : decode b_T_writeEnabled 23 = .ok (.ifCond .ne 28, 3) := by decide +kernel
theorem d_T_writeEnabled_26 : decode b_T_writeEnabled 26 = .ok (.iload_n 2, 1) := by decide +kernel
theorem d_T_writeEnabled_27 : decode b_T_writeEnabled 27 = .ok (.ifCond .ne 28, 3) := by decide +kernel
theorem d_T_writeEnabled_30 : decode b_T_writeEnabled 30 = .ok (.aload_n 0, 1) := by decide +kernel
theorem d_T_writeEnabled_31 : decode b_T_writeEnabled 31 = .ok (.aload_n 0, 1) := by decide +kernel
theorem d_T_writeEnabled_32 : decode b_T_writeEnabled 32 = .ok (.getfield 108, 3) := by decide +kernel
theorem d_T_writeEnabled_35 : decode b_T_writeEnabled 35 = .ok (.iconst 1, 1) := by decide +kernel
theorem d_T_writeEnabled_36 : decode b_T_writeEnabled 36 = .ok (.invokevirtual 39, 3) := by decide +kernel
theorem d_T_writeEnabled_39 : decode b_T_writeEnabled 39 = .ok (.ifCond .eq 16, 3) := by decide +kernel
theorem d_T_writeEnabled_42 : decode b_T_writeEnabled 42 = .ok (.aload_n 0, 1) := by decide +kernel
theorem d_T_writeEnabled_43 : decode b_T_writeEnabled 43 = .ok (.getfield 13, 3) := by decide +kernel
theorem d_T_writeEnabled_46 : decode b_T_writeEnabled 46 = .ok (.iconst 3, 1) := by decide +kernel
theorem d_T_writeEnabled_47 : decode b_T_writeEnabled 47 = .ok (.iaload, 1) := by decide +kernel
theorem d_T_writeEnabled_48 : decode b_T_writeEnabled 48 = .ok (.ifCond .ne 7, 3) := by decide +kernel
theorem d_T_writeEnabled_51 : decode b_T_writeEnabled 51 = .ok (.iconst 1, 1) := by decide +kernel
theorem d_T_writeEnabled_52 : decode b_T_writeEnabled 52 = .ok (.goto 4, 3) := by decide +kernel
theorem d_T_writeEnabled_55 : decode b_T_writeEnabled 55 = .ok (.iconst 0, 1) := by decide +kernel
theorem d_T_writeEnabled_56 : decode b_T_writeEnabled 56 = .ok (.putfield 73, 3) := by decide +kernel
theorem d_T_writeEnabled_59 : decode b_T_writeEnabled 59 = .ok (.return_, 1) := by decide +kernel
theorem d_T_writeQueues_0 : decode b_T_writeQueues 0 = .ok (.aload_n 0, 1) := by decide +kernel
theorem d_T_writeQueues_1 : decode b_T_writeQueues 1 = .ok (.getfield 13, 3) := by decide +kernel
theorem d_T_writeQueues_4 : decode b_T_writeQueues 4 = .ok (.iconst 3, 1) := by decide +kernel
theorem d_T_writeQueues_5 : decode b_T_writeQueues 5 = .ok (.iaload, 1) := by decide +kernel
theorem d_T_writeQueues_6 : decode b_T_writeQueues 6 = .ok (.ifCond .le 7, 3) := by decide +kernel
theorem d_T_writeQueues_9 : decode b_T_writeQueues 9 = .ok (.iconst 1, 1) := by decide +kernel
theorem d_T_writeQueues_10 : decode b_T_writeQueues 10 = .ok (.goto 4, 3) := by decide +kernel
theorem d_T_writeQueues_13 : decode b_T_writeQueues 13 = .ok (.iconst 0, 1) := by decide +kernel
theorem d_T_writeQueues_14 : decode b_T_writeQueues 14 = .ok (.istore_n 2, 1) := by decide +kernel
theorem d_T_writeQueues_15 : decode b_T_writeQueues 15 = .ok (.aload_n 0, 1) := by decide +kernel
theorem d_T_writeQueues_16 : decode b_T_writeQueues 16 = .ok (.getfield 29, 3) := by decide +kernel
theorem d_T_writeQueues_19 : decode b_T_writeQueues 19 = .ok (.aload_n 0, 1) := by decide +kernel
theorem d_T_writeQueues_20 : decode b_T_writeQueues 20 = .ok (.iload_n 1, 1) := by decide +kernel
theorem d_T_writeQueues_21 : decode b_T_writeQueues 21 = .ok (.iconst 0, 1) := by decide +kernel
theorem d_T_writeQueues_22 : decode b_T_writeQueues 22 = .ok (.invokevirtual 39, 3) := by decide +kernel
theorem d_T_writeQueues_25 : decode b_T_writeQueues 25 = .ok (.if_icmp .eq 7, 3) := by decide +kernel
theorem d_T_writeQueues_28 : decode b_T_writeQueues 28 = .ok (.iconst 1, 1) := by decide +kernel
theorem d_T_writeQueues_29 : decode b_T_writeQueues 29 = .ok (.goto 4, 3) := by decide +kernel
theorem d_T_writeQueues_32 : decode b_T_writeQueues 32 = .ok (.iconst 0, 1) := by decide +kernel
theorem d_T_writeQueues_33 : decode b_T_writeQueues 33 = .ok (.istore_n 3, 1) := by decide +kernel
theorem d_T_writeQueues_34 : decode b_T_writeQueues 34 = .ok (.aload_n 0, 1) := by decide +kernel
theorem d_T_writeQueues_35 : decode b_T_writeQueues 35 = .ok (.aload_n 0, 1) := by decide +kernel
theorem d_T_writeQueues_36 : decode b_T_writeQueues 36 = .ok (.iload_n 1, 1) := by decide +kernel
theorem d_T_writeQueues_37 : decode b_T_writeQueues 37 = .ok (.iconst 0, 1) := by decide +kernel
theorem d_T_writeQueues_38 : decode b_T_writeQueues 38 = .ok (.invokevirtual 39, 3) := by decide +kernel
theorem d_T_writeQueues_41 : decode b_T_writeQueues 41 = .ok (.putfield 29, 3) := by decide +kernel
theorem d_T_writeQueues_44 : decode b_T_writeQueues 44 = .ok (.iload_n 3, 1) := by decide +kernel
theorem d_T_writeQueues_45 : decode b_T_writeQueues 45 = .ok (.ifCond .ne 19, 3) := by decide +kernel
theorem d_T_writeQueues_48 : decode b_T_writeQueues 48 = .ok (.aload_n 0, 1) := by decide +kernel
theorem d_T_writeQueues_49 : decode b_T_writeQueues 49 = .ok (.getfield 29, 3) := by decide +kernel
theorem d_T_writeQueues_52 : decode b_T_writeQueues 52 = .ok (.ifCond .eq 19, 3) := by decide +kernel
theorem d_T_writeQueues_55 : decode b_T_writeQueues 55 = .ok (.aload_n 0, 1) := by decide +kernel
theorem d_T_writeQueues_56 : decode b_T_writeQueues 56 = .ok (.iload_n 1, 1) := by decide +kernel
theorem d_T_writeQueues_57 : decode b_T_writeQueues 57 = .ok (.iconst 1, 1) := by decide +kernel
theorem d_T_writeQueues_58 : decode b_T_writeQueues 58 = .ok (.invokevirtual 39, 3) := by decide +kernel
theorem d_T_writeQueues_61 : decode b_T_writeQueues 61 = .ok (.ifCond .eq 10, 3) := by decide +kernel
theorem d_T_writeQueues_64 : decode b_T_writeQueues 64 = .ok (.aload_n 0, 1) := by decide +kernel
theorem d_T_writeQueues_65 : decode b_T_writeQueues 65 = .ok (.getfield 13, 3) := by decide +kernel
theorem d_T_writeQueues_68 : decode b_T_writeQueues 68 = .ok (.iconst 2, 1) := by decide +kernel
theorem d_T_writeQueues_69 : decode b_T_writeQueues 69 = .ok (.iconst 0, 1) := by decide +kernel
theorem d_T_writeQueues_70 : decode b_T_writeQueues 70 = .ok (.iastore, 1) := by decide +kernel
theorem d_T_writeQueues_71 : decode b_T_writeQueues 71 = .ok (.iload_n 3, 1) := by decide +kernel
theorem d_T_writeQueues_72 : decode b_T_writeQueues 72 = .ok (.ifCond .ne 19, 3) := by decide +kernel
theorem d_T_writeQueues_75 : decode b_T_writeQueues 75 = .ok (.aload_n 0, 1) := by decide +kernel
theorem d_T_writeQueues_76 : decode b_T_writeQueues 76 = .ok (.getfield 29, 3) := by decide +kernel
theorem d_T_writeQueues_79 : decode b_T_writeQueues 79 = .ok (.ifCond .eq 19, 3) := by decide +kernel
theorem d_T_writeQueues_82 : decode b_T_writeQueues 82 = .ok (.aload_n 0, 1) := by decide +kernel
theorem d_T_writeQueues_83 : decode b_T_writeQueues 83 = .ok (.iload_n 1, 1) := by decide +kernel
theorem d_T_writeQueues_84 : decode b_T_writeQueues 84 = .ok (.iconst 2, 1) := by decide +kernel
theorem d_T_writeQueues_85 : decode b_T_writeQueues 85 = .ok (.invokevirtual 39, 3) := by decide +kernel
theorem d_T_writeQueues_88 : decode b_T_writeQueues 88 = .ok (.ifCond .eq 10, 3) := by decide +kernel
theorem d_T_writeQueues_91 : decode b_T_writeQueues 91 = .ok (.aload_n 0, 1) := by decide +kernel
theorem d_T_writeQueues_92 : decode b_T_writeQueues 92 = .ok (.getfield 13, 3) := by decide +kernel
theorem d_T_writeQueues_95 : decode b_T_writeQueues 95 = .ok (.iconst 3, 1) := by decide +kernel
theorem d_T_writeQueues_96 : decode b_T_writeQueues 96 = .ok (.iconst 0, 1) := by decide +kernel
theorem d_T_writeQueues_97 : decode b_T_writeQueues 97 = .ok (.iastore, 1) := by decide +kernel
theorem d_T_writeQueues_98 : decode b_T_writeQueues 98 = .ok (.iload_n 1, 1) := by decide +kernel
theorem d_T_writeQueues_99 : decode b_T_writeQueues 99 = .ok (.bipush 6, 2) := by decide +kernel
theorem d_T_writeQueues_101 : decode b_T_writeQueues 101 = .ok (.ishr, 1) := by decide +kernel
theorem d_T_writeQueues_102 : decode b_T_writeQueues 102 = .ok (.istore 4, 2) := by decide +kernel
theorem d_T_writeQueues_104 : decode b_T_writeQueues 104 = .ok (.iload 4, 2) := by decide +kernel
theorem d_T_writeQueues_106 : decode b_T_writeQueues 106 = .ok (.ifCond .ne 7, 3) := by decide +kernel
theorem d_T_writeQueues_109 : decode b_T_writeQueues 109 = .ok (.iconst 1, 1) := by decide +kernel
theorem d_T_writeQueues_110 : decode b_T_writeQueues 110 = .ok (.goto 26, 3) := by decide +kernel
theorem d_T_writeQueues_113 : decode b_T_writeQueues 113 = .ok (.iload 4, 2) := by decide +kernel
theorem d_T_writeQueues_115 : decode b_T_writeQueues 115 = .ok (.iconst 1, 1) := by decide +kernel
theorem d_T_writeQueues_116 : decode b_T_writeQueues 116 = .ok (.if_icmp .ne 7, 3) := by decide +kernel
theorem d_T_writeQueues_119 : decode b_T_writeQueues 119 = .ok (.iconst 4, 1) := by decide +kernel
theorem d_T_writeQueues_120 : decode b_T_writeQueues 120 = .ok (.goto 16, 3) := by decide +kernel
theorem d_T_writeQueues_123 : decode b_T_writeQueues 123 = .ok (.iload 4, 2) := by decide +kernel
theorem d_T_writeQueues_125 : decode b_T_writeQueues 125 = .ok (.iconst 2, 1) := by decide +kernel
theorem d_T_writeQueues_126 : decode b_T_writeQueues 126 = .ok (.if_icmp .ne 8, 3) := by decide +kernel
theorem d_T_writeQueues_129 : decode b_T_writeQueues 129 = .ok (.bipush 8, 2) := by decide +kernel
theorem d_T_writeQueues_131 : decode b_T_writeQueues 131 = .ok (.goto 5, 3) := by decide +kernel
theorem d_T_writeQueues_134 : decode b_T_writeQueues 134 = .ok (.bipush 14, 2) := by decide +kernel
theorem d_T_writeQueues_136 : decode b_T_writeQueues 136 = .ok (.istore 5, 2) := by decide +kernel
theorem d_T_writeQueues_138 : decode b_T_writeQueues 138 = .ok (.aload_n 0, 1) := by decide +kernel
theorem d_T_writeQueues_139 : decode b_T_writeQueues 139 = .ok (.aload_n 0, 1) := by decide +kernel
theorem d_T_writeQueues_140 : decode b_T_writeQueues 140 = .ok (.getfield 29, 3) := by decide +kernel
theorem d_T_writeQueues_143 : decode b_T_writeQueues 143 = .ok (.ifCond .eq 8, 3) := by decide +kernel
theorem d_T_writeQueues_146 : decode b_T_writeQueues 146 = .ok (.iload 5, 2) := by decide +kernel
theorem d_T_writeQueues_148 : decode b_T_writeQueues 148 = .ok (.goto 7, 3) := by decide +kernel
theorem d_T_writeQueues_151 : decode b_T_writeQueues 151 = .ok (.aload_n 0, 1) := by decide +kernel
theorem d_T_writeQueues_152 : decode b_T_writeQueues 152 = .ok (.getfield 19, 3) := by decide +kernel
theorem d_T_writeQueues_155 : decode b_T_writeQueues 155 = .ok (.putfield 19, 3) := by decide +kernel
theorem d_T_writeQueues_158 : decode b_T_writeQueues 158 = .ok (.aload_n 0, 1) := by decide +kernel
theorem d_T_writeQueues_159 : decode b_T_writeQueues 159 = .ok (.aload_n 0, 1) := by decide +kernel
theorem d_T_writeQueues_160 : decode b_T_writeQueues 160 = .ok (.getfield 73, 3) := by decide +kernel
theorem d_T_writeQueues_163 : decode b_T_writeQueues 163 = .ok (.ifCond .ne 16, 3) := by decide +kernel
theorem d_T_writeQueues_166 : decode b_T_writeQueues 166 = .ok (.iload_n 2, 1) := by decide +kernel
theorem d_T_writeQueues_167 : decode b_T_writeQueues 167 = .ok (.ifCond .eq 16, 3) := by decide +kernel
theorem d_T_writeQueues_170 : decode b_T_writeQueues 170 = .ok (.aload_n 0, 1) := by decide +kernel
theorem d_T_writeQueues_171 : decode b_T_writeQueues 171 = .ok (.getfield 13, 3) := by decide +kernel
theorem d_T_writeQueues_174 : decode b_T_writeQueues 174 = .ok (.iconst 3, 1) := by decide +kernel
theorem d_T_writeQueues_175 : decode b_T_writeQueues 175 = .ok (.iaload, 1) := by decide +kernel
theorem d_T_writeQueues_176 : decode b_T_writeQueues 176 = .ok (.ifCond .ne 7, 3) := by decide +kernel
theorem d_T_writeQueues_179 : decode b_T_writeQueues 179 = .ok (.iconst 1, 1) := by decide +kernel
theorem d_T_writeQueues_180 : decode b_T_writeQueues 180 = .ok (.goto 4, 3) := by decide +kernel
theorem d_T_writeQueues_183 : decode b_T_writeQueues 183 = .ok (.iconst 0, 1) := by decide +kernel
theorem d_T_writeQueues_184 : decode b_T_writeQueues 184 = .ok (.putfield 73, 3) := by decide +kernel
theorem d_T_writeQueues_187 : decode b_T_writeQueues 187 = .ok (.return_, 1) := by decide +kernel
theorem d_T_write_0 : decode b_T_write 0 = .ok (.iload_n 2, 1) := by decide +kernel
theorem d_T_write_1 : decode b_T_write 1 = .ok (.sipush 255, 3) := by decide +kernel
theorem d_T_write_4 : decode b_T_write 4 = .ok (.iand, 1) := by decide +kernel
theorem d_T_write_5 : decode b_T_write 5 = .ok (.istore_n 3, 1) := by decide +kernel
theorem d_T_write_6 : decode b_T_write 6 = .ok (.aload_n 0, 1) := by decide +kernel
theorem d_T_write_7 : decode b_T_write 7 = .ok (.aload_n 0, 1) := by decide +kernel
theorem d_T_write_8 : decode b_T_write 8 = .ok (.getfield 92, 3) := by decide +kernel
theorem d_T_write_11 : decode b_T_write 11 = .ok (.bipush 7, 2) := by decide +kernel
theorem d_T_write_13 : decode b_T_write 13 = .ok (.invokevirtual 39, 3) := by decide +kernel
theorem d_T_write_16 : decode b_T_write 16 = .ok (.istore 4, 2) := by decide +kernel
theorem d_T_write_18 : decode b_T_write 18 = .ok (.aload_n 0, 1) := by decide +kernel
theorem d_T_write_19 : decode b_T_write 19 = .ok (.invokevirtual 50, 3) := by decide +kernel
theorem d_T_write_22 : decode b_T_write 22 = .ok (.istore 5, 2) := by decide +kernel
theorem d_T_write_24 : decode b_T_write 24 = .ok (.iload_n 1, 1) := by decide +kernel
theorem d_T_write_25 : decode b_T_write 25 = .ok (.ifCond .lt 9, 3) := by decide +kernel
theorem d_T_write_28 : decode b_T_write 28 = .ok (.iload_n 1, 1) := by decide +kernel
theorem d_T_write_29 : decode b_T_write 29 = .ok (.bipush 7, 2) := by decide +kernel
theorem d_T_write_31 : decode b_T_write 31 = .ok (.if_icmp .le 5, 3) := by decide +kernel
theorem d_T_write_34 : decode b_T_write 34 = .ok (.iconst 0, 1) := by decide +kernel
theorem d_T_write_35 : decode b_T_write 35 = .ok (.ireturn, 1) := by decide +kernel
theorem d_T_write_36 : decode b_T_write 36 = .ok (.iload_n 1, 1) := by decide +kernel
theorem d_T_write_37 : decode b_T_write 37 = .ok (.ifCond .ne 16, 3) := by decide +kernel
theorem d_T_write_40 : decode b_T_write 40 = .ok (.iload 4, 2) := by decide +kernel
theorem d_T_write_42 : decode b_T_write 42 = .ok (.ifCond .eq 11, 3) := by decide +kernel
theorem d_T_write_45 : decode b_T_write 45 = .ok (.aload_n 0, 1) := by decide +kernel
theorem d_T_write_46 : decode b_T_write 46 = .ok (.iload_n 3, 1) := by decide +kernel
theorem d_T_write_47 : decode b_T_write 47 = .ok (.putfield 23, 3) := by decide +kernel
theorem d_T_write_50 : decode b_T_write 50 = .ok (.goto 56, 3) := by decide +kernel
theorem d_T_write_53 : decode b_T_write 53 = .ok (.iload_n 1, 1) := by decide +kernel
theorem d_T_write_54 : decode b_T_write 54 = .ok (.ifCond .ne 11, 3) := by decide +kernel
theorem d_T_write_57 : decode b_T_write 57 = .ok (.aload_n 0, 1) := by decide +kernel
theorem d_T_write_58 : decode b_T_write 58 = .ok (.iload_n 3, 1) := by decide +kernel
theorem d_T_write_59 : decode b_T_write 59 = .ok (.invokevirtual 129, 3) := by decide +kernel
theorem d_T_write_62 : decode b_T_write 62 = .ok (.goto 44, 3) := by decide +kernel
theorem d_T_write_65 : decode b_T_write 65 = .ok (.iload_n 1, 1) := by decide +kernel
theorem d_T_write_66 : decode b_T_write 66 = .ok (.iconst 1, 1) := by decide +kernel
theorem d_T_write_67 : decode b_T_write 67 = .ok (.if_icmp .ne 16, 3) := by decide +kernel
theorem d_T_write_70 : decode b_T_write 70 = .ok (.iload 4, 2) := by decide +kernel
theorem d_T_write_72 : decode b_T_write 72 = .ok (.ifCond .eq 11, 3) := by decide +kernel
theorem d_T_write_75 : decode b_T_write 75 = .ok (.aload_n 0, 1) := by decide +kernel
theorem d_T_write_76 : decode b_T_write 76 = .ok (.iload_n 3, 1) := by decide +kernel
theorem d_T_write_77 : decode b_T_write 77 = .ok (.putfield 33, 3) := by decide +kernel
theorem d_T_write_80 : decode b_T_write 80 = .ok (.goto 26, 3) := by decide +kernel
theorem d_T_write_83 : decode b_T_write 83 = .ok (.iload_n 1, 1) := by decide +kernel
theorem d_T_write_84 : decode b_T_write 84 = .ok (.iconst 1, 1) := by decide +kernel
theorem d_T_write_85 : decode b_T_write 85 = .ok (.if_icmp .ne 11, 3) := by decide +kernel
theorem d_T_write_88 : decode b_T_write 88 = .ok (.aload_n 0, 1) := by decide +kernel
theorem d_T_write_89 : decode b_T_write 89 = .ok (.iload_n 3, 1) := by decide +kernel
theorem d_T_write_90 : decode b_T_write 90 = .ok (.invokevirtual 132, 3) := by decide +kernel
theorem d_T_write_93 : decode b_T_write 93 = .ok (.goto 13, 3) := by decide +kernel
theorem d_T_write_96 : decode b_T_write 96 = .ok (.iload_n 1, 1) := by decide +kernel
theorem d_T_write_97 : decode b_T_write 97 = .ok (.iconst 2, 1) := by decide +kernel
theorem d_T_write_98 : decode b_T_write 98 = .ok (.if_icmp .ne 8, 3) := by decide +kernel
theorem d_T_write_101 : decode b_T_write 101 = .ok (.aload_n 0, 1) := by decide +kernel
theorem d_T_write_102 : decode b_T_write 102 = .ok (.iload_n 3, 1) := by decide +kernel
theorem d_T_write_103 : decode b_T_write 103 = .ok (.invokevirtual 135, 3) := by decide +kernel
theorem d_T_write_106 : decode b_T_write 106 = .ok (.aload_n 0, 1) := by decide +kernel
theorem d_T_write_107 : decode b_T_write 107 = .ok (.iload_n 1, 1) := by decide +kernel
theorem d_T_write_108 : decode b_T_write 108 = .ok (.iconst 3, 1) := by decide +kernel
theorem d_T_write_109 : decode b_T_write 109 = .ok (.if_icmp .ne 7, 3) := by decide +kernel
theorem d_T_write_112 : decode b_T_write 112 = .ok (.iload_n 3, 1) := by decide +kernel
theorem d_T_write_113 : decode b_T_write 113 = .ok (.goto 7, 3) := by decide +kernel
theorem d_T_write_116 : decode b_T_write 116 = .ok (.aload_n 0, 1) := by decide +kernel
theorem d_T_write_117 : decode b_T_write 117 = .ok (.getfield 92, 3) := by decide +kernel
theorem d_T_write_120 : decode b_T_write 120 = .ok (.putfield 92, 3) := by decide +kernel
theorem d_T_write_123 : decode b_T_write 123 = .ok (.aload_n 0, 1) := by decide +kernel
theorem d_T_write_124 : decode b_T_write 124 = .ok (.iload_n 1, 1) := by decide +kernel
theorem d_T_write_125 : decode b_T_write 125 = .ok (.iconst 4, 1) := by decide +kernel
theorem d_T_write_126 : decode b_T_write 126 = .ok (.if_icmp .ne 10, 3) := by decide +kernel
theorem d_T_write_129 : decode b_T_write 129 = .ok (.iload_n 3, 1) := by decide +kernel
theorem d_T_write_130 : decode b_T_write 130 = .ok (.bipush 31, 2) := by decide +kernel
theorem d_T_write_132 : decode b_T_write 132 = .ok (.iand, 1) := by decide +kernel
theorem d_T_write_133 : decode b_T_write 133 = .ok (.goto 7, 3) := by decide +kernel
theorem d_T_write_136 : decode b_T_write 136 = .ok (.aload_n 0, 1) := by decide +kernel
theorem d_T_write_137 : decode b_T_write 137 = .ok (.getfield 36, 3) := by decide +kernel
theorem d_T_write_140 : decode b_T_write 140 = .ok (.putfield 36, 3) := by decide +kernel
theorem d_T_write_143 : decode b_T_write 143 = .ok (.aload_n 0, 1) := by decide +kernel
theorem d_T_write_144 : decode b_T_write 144 = .ok (.iload_n 1, 1) := by decide +kernel
theorem d_T_write_145 : decode b_T_write 145 = .ok (.bipush 7, 2) := by decide +kernel
theorem d_T_write_147 : decode b_T_write 147 = .ok (.if_icmp .ne 7, 3) := by decide +kernel
theorem d_T_write_150 : decode b_T_write 150 = .ok (.iload_n 3, 1) := by decide +kernel
theorem d_T_write_151 : decode b_T_write 151 = .ok (.goto 7, 3) := by decide +kernel
theorem d_T_write_154 : decode b_T_write 154 = .ok (.aload_n 0, 1) := by decide +kernel
theorem d_T_write_155 : decode b_T_write 155 = .ok (.getfield 126, 3) := by decide +kernel
theorem d_T_write_158 : decode b_T_write 158 = .ok (.putfield 126, 3) := by decide +kernel
theorem d_T_write_161 : decode b_T_write 161 = .ok (.aload_n 0, 1) := by decide +kernel
theorem d_T_write_162 : decode b_T_write 162 = .ok (.iload 5, 2) := by decide +kernel
theorem d_T_write_164 : decode b_T_write 164 = .ok (.invokevirtual 105, 3) := by decide +kernel
theorem d_T_write_167 : decode b_T_write 167 = .ok (.iconst 1, 1) := by decide +kernel
theorem d_T_write_168 : decode b_T_write 168 = .ok (.ireturn, 1) := by decide +kernel
theorem d_T_wake_0 : decode b_T_wake 0 = .ok (.aload_n 0, 1) := by decide +kernel
theorem d_T_wake_1 : decode b_T_wake 1 = .ok (.iconst 1, 1) := by decide +kernel
theorem d_T_wake_2 : decode b_T_wake 2 = .ok (.invokevirtual 138, 3) := by decide +kernel
theorem d_T_wake_5 : decode b_T_wake 5 = .ok (.istore_n 1, 1) := by decide +kernel
theorem d_T_wake_6 : decode b_T_wake 6 = .ok (.aload_n 0, 1) := by decide +kernel
theorem d_T_wake_7 : decode b_T_wake 7 = .ok (.iconst 1, 1) := by decide +kernel
theorem d_T_wake_8 : decode b_T_wake 8 = .ok (.iload_n 1, 1) := by decide +kernel
theorem d_T_wake_9 : decode b_T_wake 9 = .ok (.iconst 2, 1) := by decide +kernel
theorem d_T_wake_10 : decode b_T_wake 10 = .ok (.ior, 1) := by decide +kernel
theorem d_T_wake_11 : decode b_T_wake 11 = .ok (.invokevirtual 141, 3) := by decide +kernel
theorem d_T_wake_14 : decode b_T_wake 14 = .ok (.pop, 1) := by decide +kernel
theorem d_T_wake_15 : decode b_T_wake 15 = .ok (.return_, 1) := by decide +kernel
theorem d_T_start_0 : decode b_T_start 0 = .ok (.aload_n 0, 1) := by decide +kernel
theorem d_T_start_1 : decode b_T_start 1 = .ok (.getfield 13, 3) := by decide +kernel
theorem d_T_start_4 : decode b_T_start 4 = .ok (.iconst 0, 1) := by decide +kernel
theorem d_T_start_5 : decode b_T_start 5 = .ok (.iconst 0, 1) := by decide +kernel
theorem d_T_start_6 : decode b_T_start 6 = .ok (.iastore, 1) := by decide +kernel
theorem d_T_start_7 : decode b_T_start 7 = .ok (.aload_n 0, 1) := by decide +kernel
theorem d_T_start_8 : decode b_T_start 8 = .ok (.getfield 13, 3) := by decide +kernel
theorem d_T_start_11 : decode b_T_start 11 = .ok (.iconst 1, 1) := by decide +kernel
theorem d_T_start_12 : decode b_T_start 12 = .ok (.iconst 0, 1) := by decide +kernel
theorem d_T_start_13 : decode b_T_start 13 = .ok (.iastore, 1) := by decide +kernel
theorem d_T_start_14 : decode b_T_start 14 = .ok (.aload_n 0, 1) := by decide +kernel
theorem d_T_start_15 : decode b_T_start 15 = .ok (.iconst 0, 1) := by decide +kernel
theorem d_T_start_16 : decode b_T_start 16 = .ok (.putfield 144, 3) := by decide +kernel
theorem d_T_start_19 : decode b_T_start 19 = .ok (.aload_n 0, 1) := by decide +kernel
theorem d_T_start_20 : decode b_T_start 20 = .ok (.iconst 0, 1) := by decide +kernel
theorem d_T_start_21 : decode b_T_start 21 = .ok (.putfield 147, 3) := by decide +kernel
theorem d_T_start_24 : decode b_T_start 24 = .ok (.aload_n 0, 1) := by decide +kernel
theorem d_T_start_25 : decode b_T_start 25 = .ok (.iconst 0, 1) := by decide +kernel
theorem d_T_start_26 : decode b_T_start 26 = .ok (.putfield 150, 3) := by decide +kernel
theorem d_T_start_29 : decode b_T_start 29 = .ok (.aload_n 0, 1) := by decide +kernel
theorem d_T_start_30 : decode b_T_start 30 = .ok (.iconst 2, 1) := by decide +kernel
theorem d_T_start_31 : decode b_T_start 31 = .ok (.bipush 71, 2) := by decide +kernel
theorem d_T_start_33 : decode b_T_start 33 = .ok (.invokevirtual 141, 3) := by decide +kernel
theorem d_T_start_36 : decode b_T_start 36 = .ok (.pop, 1) := by decide +kernel
theorem d_T_start_37 : decode b_T_start 37 = .ok (.aload_n 0, 1) := by decide +kernel
theorem d_T_start_38 : decode b_T_start 38 = .ok (.iconst 3, 1) := by decide +kernel
theorem d_T_start_39 : decode b_T_start 39 = .ok (.iconst 3, 1) := by decide +kernel
theorem d_T_start_40 : decode b_T_start 40 = .ok (.invokevirtual 141, 3) := by decide +kernel
theorem d_T_start_43 : decode b_T_start 43 = .ok (.pop, 1) := by decide +kernel
theorem d_T_start_44 : decode b_T_start 44 = .ok (.aload_n 0, 1) := by decide +kernel
theorem d_T_start_45 : decode b_T_start 45 = .ok (.iconst 1, 1) := by decide +kernel
theorem d_T_start_46 : decode b_T_start 46 = .ok (.bipush 7, 2) := by decide +kernel
theorem d_T_start_48 : decode b_T_start 48 = .ok (.invokevirtual 141, 3) := by decide +kernel
theorem d_T_start_51 : decode b_T_start 51 = .ok (.pop, 1) := by decide +kernel
theorem d_T_start_52 : decode b_T_start 52 = .ok (.return_, 1) := by decide +kernel
theorem d_T_accept_0 : decode b_T_accept 0 = .ok (.aload_n 0, 1) := by decide +kernel
theorem d_T_accept_1 : decode b_T_accept 1 = .ok (.getfield 13, 3) := by decide +kernel
theorem d_T_accept_4 : decode b_T_accept 4 = .ok (.iconst 1, 1) := by decide +kernel
theorem d_T_accept_5 : decode b_T_accept 5 = .ok (.iaload, 1) := by decide +kernel
theorem d_T_accept_6 : decode b_T_accept 6 = .ok (.bipush 24, 2) := by decide +kernel
theorem d_T_accept_8 : decode b_T_accept 8 = .ok (.if_icmp .ne 5, 3) := by decide +kernel
theorem d_T_accept_11 : decode b_T_accept 11 = .ok (.iconst 0, 1) := by decide +kernel
theorem d_T_accept_12 : decode b_T_accept 12 = .ok (.ireturn, 1) := by decide +kernel
theorem d_T_accept_13 : decode b_T_accept 13 = .ok (.aload_n 0, 1) := by decide +kernel
theorem d_T_accept_14 : decode b_T_accept 14 = .ok (.iconst 1, 1) := by decide +kernel
theorem d_T_accept_15 : decode b_T_accept 15 = .ok (.iload_n 1, 1) := by decide +kernel
theorem d_T_accept_16 : decode b_T_accept 16 = .ok (.sipush 255, 3) := by decide +kernel
theorem d_T_accept_19 : decode b_T_accept 19 = .ok (.iand, 1) := by decide +kernel
theorem d_T_accept_20 : decode b_T_accept 20 = .ok (.invokevirtual 82, 3) := by decide +kernel
theorem d_T_accept_23 : decode b_T_accept 23 = .ok (.aload_n 0, 1) := by decide +kernel
theorem d_T_accept_24 : decode b_T_accept 24 = .ok (.invokevirtual 153, 3) := by decide +kernel
theorem d_T_accept_27 : decode b_T_accept 27 = .ok (.iconst 1, 1) := by decide +kernel
theorem d_T_accept_28 : decode b_T_accept 28 = .ok (.ireturn, 1) := by decide +kernel
theorem d_T_take_0 : decode b_T_take 0 = .ok (.aload_n 0, 1) := by decide +kernel
theorem d_T_take_1 : decode b_T_take 1 = .ok (.getfield 13, 3) := by decide +kernel
theorem d_T_take_4 : decode b_T_take 4 = .ok (.iconst 0, 1) := by decide +kernel
theorem d_T_take_5 : decode b_T_take 5 = .ok (.iaload, 1) := by decide +kernel
theorem d_T_take_6 : decode b_T_take 6 = .ok (.ifCond .ne 5, 3) := by decide +kernel
theorem d_T_take_9 : decode b_T_take 9 = .ok (.iconst (-1), 1) := by decide +kernel
theorem d_T_take_10 : decode b_T_take 10 = .ok (.ireturn, 1) := by decide +kernel
theorem d_T_take_11 : decode b_T_take 11 = .ok (.aload_n 0, 1) := by decide +kernel
theorem d_T_take_12 : decode b_T_take 12 = .ok (.iconst 0, 1) := by decide +kernel
theorem d_T_take_13 : decode b_T_take 13 = .ok (.invokevirtual 60, 3) := by decide +kernel
theorem d_T_take_16 : decode b_T_take 16 = .ok (.istore_n 1, 1) := by decide +kernel
theorem d_T_take_17 : decode b_T_take 17 = .ok (.aload_n 0, 1) := by decide +kernel
theorem d_T_take_18 : decode b_T_take 18 = .ok (.getfield 147, 3) := by decide +kernel
theorem d_T_take_21 : decode b_T_take 21 = .ok (.ifCond .eq 29, 3) := by decide +kernel
theorem d_T_take_24 : decode b_T_take 24 = .ok (.aload_n 0, 1) := by decide +kernel
theorem d_T_take_25 : decode b_T_take 25 = .ok (.getfield 13, 3) := by decide +kernel
theorem d_T_take_28 : decode b_T_take 28 = .ok (.iconst 0, 1) := by decide +kernel
theorem d_T_take_29 : decode b_T_take 29 = .ok (.iaload, 1) := by decide +kernel
theorem d_T_take_30 : decode b_T_take 30 = .ok (.bipush 6, 2) := by decide +kernel
theorem d_T_take_32 : decode b_T_take 32 = .ok (.if_icmp .gt 18, 3) := by decide +kernel
theorem d_T_take_35 : decode b_T_take 35 = .ok (.aload_n 0, 1) := by decide +kernel
theorem d_T_take_36 : decode b_T_take 36 = .ok (.bipush 17, 2) := by decide +kernel
theorem d_T_take_38 : decode b_T_take 38 = .ok (.putfield 150, 3) := by decide +kernel
theorem d_T_take_41 : decode b_T_take 41 = .ok (.aload_n 0, 1) := by decide +kernel
theorem d_T_take_42 : decode b_T_take 42 = .ok (.iconst 0, 1) := by decide +kernel
theorem d_T_take_43 : decode b_T_take 43 = .ok (.putfield 147, 3) := by decide +kernel
theorem d_T_take_46 : decode b_T_take 46 = .ok (.aload_n 0, 1) := by decide +kernel
theorem d_T_take_47 : decode b_T_take 47 = .ok (.invokevirtual 153, 3) := by decide +kernel
theorem d_T_take_50 : decode b_T_take 50 = .ok (.iload_n 1, 1) := by decide +kernel
theorem d_T_take_51 : decode b_T_take 51 = .ok (.ireturn, 1) := by decide +kernel
theorem d_T_handle_0 : decode b_T_handle 0 = .ok (.iload_n 1, 1) := by decide +kernel
theorem d_T_handle_1 : decode b_T_handle 1 = .ok (.bipush 19, 2) := by decide +kernel
theorem d_T_handle_3 : decode b_T_handle 3 = .ok (.if_icmp .ne 11, 3) := by decide +kernel
theorem d_T_handle_6 : decode b_T_handle 6 = .ok (.aload_n 0, 1) := by decide +kernel
theorem d_T_handle_7 : decode b_T_handle 7 = .ok (.iconst 1, 1) := by decide +kernel
theorem d_T_handle_8 : decode b_T_handle 8 = .ok (.putfield 144, 3) := by decide +kernel
theorem d_T_handle_11 : decode b_T_handle 11 = .ok (.goto 84, 3) := by decide +kernel
theorem d_T_handle_14 : decode b_T_handle 14 = .ok (.iload_n 1, 1) := by decide +kernel
theorem d_T_handle_15 : decode b_T_handle 15 = .ok (.bipush 17, 2) := by decide +kernel
theorem d_T_handle_17 : decode b_T_handle 17 = .ok (.if_icmp .ne 15, 3) := by decide +kernel
theorem d_T_handle_20 : decode b_T_handle 20 = .ok (.aload_n 0, 1) := by decide +kernel
theorem d_T_handle_21 : decode b_T_handle 21 = .ok (.iconst 0, 1) := by decide +kernel
theorem d_T_handle_22 : decode b_T_handle 22 = .ok (.putfield 144, 3) := by decide +kernel
theorem d_T_handle_25 : decode b_T_handle 25 = .ok (.aload_n 0, 1) := by decide +kernel
theorem d_T_handle_26 : decode b_T_handle 26 = .ok (.invokevirtual 153, 3) := by decide +kernel
theorem d_T_handle_29 : decode b_T_handle 29 = .ok (.goto 66, 3) := by decide +kernel
theorem d_T_handle_32 : decode b_T_handle 32 = .ok (.aload_n 0, 1) := by decide +kernel
theorem d_T_handle_33 : decode b_T_handle 33 = .ok (.getfield 13, 3) := by decide +kernel
theorem d_T_handle_36 : decode b_T_handle 36 = .ok (.iconst 0, 1) := by decide +kernel
theorem d_T_handle_37 : decode b_T_handle 37 = .ok (.iaload, 1) := by decide +kernel
theorem d_T_handle_38 : decode b_T_handle 38 = .ok (.bipush 24, 2) := by decide +kernel
theorem d_T_handle_40 : decode b_T_handle 40 = .ok (.if_icmp .ne 16, 3) := by decide +kernel
theorem d_T_handle_43 : decode b_T_handle 43 = .ok (.aload_n 0, 1) := by decide +kernel
theorem d_T_handle_44 : decode b_T_handle 44 = .ok (.aload_n 0, 1) := by decide +kernel
theorem d_T_handle_45 : decode b_T_handle 45 = .ok (.getfield 156, 3) := by decide +kernel
theorem d_T_handle_48 : decode b_T_handle 48 = .ok (.iconst 1, 1) := by decide +kernel
theorem d_T_handle_49 : decode b_T_handle 49 = .ok (.iadd, 1) := by decide +kernel
theorem d_T_handle_50 : decode b_T_handle 50 = .ok (.putfield 156, 3) := by decide +kernel
theorem d_T_handle_53 : decode b_T_handle 53 = .ok (.goto 42, 3) := by decide +kernel
theorem d_T_handle_56 : decode b_T_handle 56 = .ok (.aload_n 0, 1) := by decide +kernel
theorem d_T_handle_57 : decode b_T_handle 57 = .ok (.iconst 0, 1) := by decide +kernel
theorem d_T_handle_58 : decode b_T_handle 58 = .ok (.iload_n 1, 1) := by decide +kernel
theorem d_T_handle_59 : decode b_T_handle 59 = .ok (.invokevirtual 82, 3) := by decide +kernel
theorem d_T_handle_62 : decode b_T_handle 62 = .ok (.aload_n 0, 1) := by decide +kernel
theorem d_T_handle_63 : decode b_T_handle 63 = .ok (.getfield 13, 3) := by decide +kernel
theorem d_T_handle_66 : decode b_T_handle 66 = .ok (.iconst 0, 1) := by decide +kernel
theorem d_T_handle_67 : decode b_T_handle 67 = .ok (.iaload, 1) := by decide +kernel
theorem d_T_handle_68 : decode b_T_handle 68 = .ok (.bipush 18, 2) := by decide +kernel
theorem d_T_handle_70 : decode b_T_handle 70 = .ok (.if_icmp .lt 25, 3) := by decide +kernel
theorem d_T_handle_73 : decode b_T_handle 73 = .ok (.aload_n 0, 1) := by decide +kernel
theorem d_T_handle_74 : decode b_T_handle 74 = .ok (.getfield 147, 3) := by decide +kernel
theorem d_T_handle_77 : decode b_T_handle 77 = .ok (.ifCond .ne 18, 3) := by decide +kernel
theorem d_T_handle_80 : decode b_T_handle 80 = .ok (.aload_n 0, 1) := by decide +kernel
theorem d_T_handle_81 : decode b_T_handle 81 = .ok (.bipush 19, 2) := by decide +kernel
theorem d_T_handle_83 : decode b_T_handle 83 = .ok (.putfield 150, 3) := by decide +kernel
theorem d_T_handle_86 : decode b_T_handle 86 = .ok (.aload_n 0, 1) := by decide +kernel
theorem d_T_handle_87 : decode b_T_handle 87 = .ok (.iconst 1, 1) := by decide +kernel
theorem d_T_handle_88 : decode b_T_handle 88 = .ok (.putfield 147, 3) := by decide +kernel
theorem d_T_handle_91 : decode b_T_handle 91 = .ok (.aload_n 0, 1) := by decide +kernel
theorem d_T_handle_92 : decode b_T_handle 92 = .ok (.invokevirtual 153, 3) := by decide +kernel
theorem d_T_handle_95 : decode b_T_handle 95 = .ok (.return_, 1) := by decide +kernel
theorem d_T_receive_0 : decode b_T_receive 0 = .ok (.iconst 1, 1) := by decide +kernel
theorem d_T_receive_1 : decode b_T_receive 1 = .ok (.istore_n 1, 1) := by decide +kernel
theorem d_T_receive_2 : decode b_T_receive 2 = .ok (.iconst 1, 1) := by decide +kernel
theorem d_T_receive_3 : decode b_T_receive 3 = .ok (.istore_n 2, 1) := by decide +kernel
theorem d_T_receive_4 : decode b_T_receive 4 = .ok (.iload_n 2, 1) := by decide +kernel
theorem d_T_receive_5 : decode b_T_receive 5 = .ok (.bipush 17, 2) := by decide +kernel
theorem d_T_receive_7 : decode b_T_receive 7 = .ok (.if_icmp .gt 83, 3) := by decide +kernel
theorem d_T_receive_10 : decode b_T_receive 10 = .ok (.iload_n 1, 1) := by decide +kernel
theorem d_T_receive_11 : decode b_T_receive 11 = .ok (.ifCond .eq 79, 3) := by decide +kernel
theorem d_T_receive_14 : decode b_T_receive 14 = .ok (.aload_n 0, 1) := by decide +kernel
theorem d_T_receive_15 : decode b_T_receive 15 = .ok (.iconst 5, 1) := by decide +kernel
theorem d_T_receive_16 : decode b_T_receive 16 = .ok (.invokevirtual 138, 3) := by decide +kernel
theorem d_T_receive_19 : decode b_T_receive 19 = .ok (.istore_n 3, 1) := by decide +kernel
theorem d_T_receive_20 : decode b_T_receive 20 = .ok (.aload_n 0, 1) := by decide +kernel
theorem d_T_receive_21 : decode b_T_receive 21 = .ok (.aload_n 0, 1) := by decide +kernel
theorem d_T_receive_22 : decode b_T_receive 22 = .ok (.iload_n 3, 1) := by decide +kernel
theorem d_T_receive_23 : decode b_T_receive 23 = .ok (.iconst 1, 1) := by decide +kernel
theorem d_T_receive_24 : decode b_T_receive 24 = .ok (.invokevirtual 39, 3) := by decide +kernel
theorem d_T_receive_27 : decode b_T_receive 27 = .ok (.ifCond .eq 12, 3) := by decide +kernel
theorem d_T_receive_30 : decode b_T_receive 30 = .ok (.aload_n 0, 1) := by decide +kernel
theorem d_T_receive_31 : decode b_T_receive 31 = .ok (.getfield 156, 3) := by decide +kernel
theorem d_T_receive_34 : decode b_T_receive 34 = .ok (.iconst 1, 1) := by decide +kernel
theorem d_T_receive_35 : decode b_T_receive 35 = .ok (.iadd, 1) := by decide +kernel
theorem d_T_receive_36 : decode b_T_receive 36 = .ok (.goto 7, 3) := by decide +kernel
theorem d_T_receive_39 : decode b_T_receive 39 = .ok (.aload_n 0, 1) := by decide +kernel
theorem d_T_receive_40 : decode b_T_receive 40 = .ok (.getfield 156, 3) := by decide +kernel
theorem d_T_receive_43 : decode b_T_receive 43 = .ok (.putfield 156, 3) := by decide +kernel
theorem d_T_receive_46 : decode b_T_receive 46 = .ok (.aload_n 0, 1) := by decide +kernel
theorem d_T_receive_47 : decode b_T_receive 47 = .ok (.iload_n 3, 1) := by decide +kernel
theorem d_T_receive_48 : decode b_T_receive 48 = .ok (.iconst 0, 1) := by decide +kernel
theorem d_T_receive_49 : decode b_T_receive 49 = .ok (.invokevirtual 39, 3) := by decide +kernel
theorem d_T_receive_52 : decode b_T_receive 52 = .ok (.ifCond .eq 13, 3) := by decide +kernel
theorem d_T_receive_55 : decode b_T_receive 55 = .ok (.iload_n 2, 1) := by decide +kernel
theorem d_T_receive_56 : decode b_T_receive 56 = .ok (.bipush 17, 2) := by decide +kernel
theorem d_T_receive_58 : decode b_T_receive 58 = .ok (.if_icmp .ge 7, 3) := by decide +kernel
theorem d_T_receive_61 : decode b_T_receive 61 = .ok (.iconst 1, 1) := by decide +kernel
theorem d_T_receive_62 : decode b_T_receive 62 = .ok (.goto 4, 3) := by decide +kernel
theorem d_T_receive_65 : decode b_T_receive 65 = .ok (.iconst 0, 1) := by decide +kernel
theorem d_T_receive_66 : decode b_T_receive 66 = .ok (.istore_n 1, 1) := by decide +kernel
theorem d_T_receive_67 : decode b_T_receive 67 = .ok (.iload_n 1, 1) := by decide +kernel
theorem d_T_receive_68 : decode b_T_receive 68 = .ok (.ifCond .eq 16, 3) := by decide +kernel
theorem d_T_receive_71 : decode b_T_receive 71 = .ok (.aload_n 0, 1) := by decide +kernel
theorem d_T_receive_72 : decode b_T_receive 72 = .ok (.iconst 0, 1) := by decide +kernel
theorem d_T_receive_73 : decode b_T_receive 73 = .ok (.invokevirtual 138, 3) := by decide +kernel
theorem d_T_receive_76 : decode b_T_receive 76 = .ok (.istore 4, 2) := by decide +kernel
theorem d_T_receive_78 : decode b_T_receive 78 = .ok (.aload_n 0, 1) := by decide +kernel
theorem d_T_receive_79 : decode b_T_receive 79 = .ok (.iload 4, 2) := by decide +kernel
theorem d_T_receive_81 : decode b_T_receive 81 = .ok (.invokevirtual 159, 3) := by decide +kernel
theorem d_T_receive_84 : decode b_T_receive 84 = .ok (.iinc 2 1, 3) := by decide +kernel
theorem d_T_receive_87 : decode b_T_receive 87 = .ok (.goto (-83), 3) := by decide +kernel
theorem d_T_receive_90 : decode b_T_receive 90 = .ok (.return_, 1) := by decide +kernel
theorem d_T_transmit_0 : decode b_T_transmit 0 = .ok (.iconst 0, 1) := by decide +kernel
theorem d_T_transmit_1 : decode b_T_transmit 1 = .ok (.istore_n 1, 1) := by decide +kernel
theorem d_T_transmit_2 : decode b_T_transmit 2 = .ok (.aload_n 0, 1) := by decide +kernel
theorem d_T_transmit_3 : decode b_T_transmit 3 = .ok (.getfield 150, 3) := by decide +kernel
theorem d_T_transmit_6 : decode b_T_transmit 6 = .ok (.ifCond .eq 22, 3) := by decide +kernel
theorem d_T_transmit_9 : decode b_T_transmit 9 = .ok (.aload_n 0, 1) := by decide +kernel
theorem d_T_transmit_10 : decode b_T_transmit 10 = .ok (.getfield 150, 3) := by decide +kernel
theorem d_T_transmit_13 : decode b_T_transmit 13 = .ok (.istore_n 2, 1) := by decide +kernel
theorem d_T_transmit_14 : decode b_T_transmit 14 = .ok (.aload_n 0, 1) := by decide +kernel
theorem d_T_transmit_15 : decode b_T_transmit 15 = .ok (.iconst 0, 1) := by decide +kernel
theorem d_T_transmit_16 : decode b_T_transmit 16 = .ok (.putfield 150, 3) := by decide +kernel
theorem d_T_transmit_19 : decode b_T_transmit 19 = .ok (.aload_n 0, 1) := by decide +kernel
theorem d_T_transmit_20 : decode b_T_transmit 20 = .ok (.iconst 0, 1) := by decide +kernel
theorem d_T_transmit_21 : decode b_T_transmit 21 = .ok (.iload_n 2, 1) := by decide +kernel
theorem d_T_transmit_22 : decode b_T_transmit 22 = .ok (.invokevirtual 141, 3) := by decide +kernel
theorem d_T_transmit_25 : decode b_T_transmit 25 = .ok (.pop, 1) := by decide +kernel
theorem d_T_transmit_26 : decode b_T_transmit 26 = .ok (.iconst 1, 1) := by decide +kernel
theorem d_T_transmit_27 : decode b_T_transmit 27 = .ok (.istore_n 1, 1) := by decide +kernel
theorem d_T_transmit_28 : decode b_T_transmit 28 = .ok (.aload_n 0, 1) := by decide +kernel
theorem d_T_transmit_29 : decode b_T_transmit 29 = .ok (.getfield 144, 3) := by decide +kernel
theorem d_T_transmit_32 : decode b_T_transmit 32 = .ok (.ifCond .ne 38, 3) := by decide +kernel
theorem d_T_transmit_35 : decode b_T_transmit 35 = .ok (.aload_n 0, 1) := by decide +kernel
theorem d_T_transmit_36 : decode b_T_transmit 36 = .ok (.getfield 13, 3) := by decide +kernel
theorem d_T_transmit_39 : decode b_T_transmit 39 = .ok (.iconst 1, 1) := by decide +kernel
theorem d_T_transmit_40 : decode b_T_transmit 40 = .ok (.iaload, 1) := by decide +kernel
theorem d_T_transmit_41 : decode b_T_transmit 41 = .ok (.ifCond .le 29, 3) := by decide +kernel
theorem d_T_transmit_44 : decode b_T_transmit 44 = .ok (.iload_n 1, 1) := by decide +kernel
theorem d_T_transmit_45 : decode b_T_transmit 45 = .ok (.bipush 16, 2) := by decide +kernel
theorem d_T_transmit_47 : decode b_T_transmit 47 = .ok (.if_icmp .ge 23, 3) := by decide +kernel
theorem d_T_transmit_50 : decode b_T_transmit 50 = .ok (.aload_n 0, 1) := by decide +kernel
theorem d_T_transmit_51 : decode b_T_transmit 51 = .ok (.iconst 1, 1) := by decide +kernel
theorem d_T_transmit_52 : decode b_T_transmit 52 = .ok (.invokevirtual 60, 3) := by decide +kernel
theorem d_T_transmit_55 : decode b_T_transmit 55 = .ok (.istore_n 2, 1) := by decide +kernel
theorem d_T_transmit_56 : decode b_T_transmit 56 = .ok (.aload_n 0, 1) := by decide +kernel
theorem d_T_transmit_57 : decode b_T_transmit 57 = .ok (.iconst 0, 1) := by decide +kernel
theorem d_T_transmit_58 : decode b_T_transmit 58 = .ok (.iload_n 2, 1) := by decide +kernel
theorem d_T_transmit_59 : decode b_T_transmit 59 = .ok (.invokevirtual 141, 3) := by decide +kernel
theorem d_T_transmit_62 : decode b_T_transmit 62 = .ok (.pop, 1) := by decide +kernel
theorem d_T_transmit_63 : decode b_T_transmit 63 = .ok (.iload_n 1, 1) := by decide +kernel
theorem d_T_transmit_64 : decode b_T_transmit 64 = .ok (.iconst 1, 1) := by decide +kernel
theorem d_T_transmit_65 : decode b_T_transmit 65 = .ok (.iadd, 1) := by decide +kernel
theorem d_T_transmit_66 : decode b_T_transmit 66 = .ok (.istore_n 1, 1) := by decide +kernel
theorem d_T_transmit_67 : decode b_T_transmit 67 = .ok (.goto (-39), 3) := by decide +kernel
theorem d_T_transmit_70 : decode b_T_transmit 70 = .ok (.iload_n 1, 1) := by decide +kernel
theorem d_T_transmit_71 : decode b_T_transmit 71 = .ok (.ifCond .ne 19, 3) := by decide +kernel
theorem d_T_transmit_74 : decode b_T_transmit 74 = .ok (.aload_n 0, 1) := by decide +kernel
theorem d_T_transmit_75 : decode b_T_transmit 75 = .ok (.iconst 1, 1) := by decide +kernel
theorem d_T_transmit_76 : decode b_T_transmit 76 = .ok (.invokevirtual 138, 3) := by decide +kernel
theorem d_T_transmit_79 : decode b_T_transmit 79 = .ok (.istore_n 2, 1) := by decide +kernel
theorem d_T_transmit_80 : decode b_T_transmit 80 = .ok (.aload_n 0, 1) := by decide +kernel
theorem d_T_transmit_81 : decode b_T_transmit 81 = .ok (.iconst 1, 1) := by decide +kernel
theorem d_T_transmit_82 : decode b_T_transmit 82 = .ok (.iload_n 2, 1) := by decide +kernel
theorem d_T_transmit_83 : decode b_T_transmit 83 = .ok (.bipush (-3), 2) := by decide +kernel
theorem d_T_transmit_85 : decode b_T_transmit 85 = .ok (.iand, 1) := by decide +kernel
theorem d_T_transmit_86 : decode b_T_transmit 86 = .ok (.invokevirtual 141, 3) := by decide +kernel
theorem d_T_transmit_89 : decode b_T_transmit 89 = .ok (.pop, 1) := by decide +kernel
theorem d_T_transmit_90 : decode b_T_transmit 90 = .ok (.return_, 1) := by decide +kernel
theorem d_T_round_0 : decode b_T_round 0 = .ok (.aload_n 0, 1) := by decide +kernel
theorem d_T_round_1 : decode b_T_round 1 = .ok (.iconst 2, 1) := by decide +kernel
theorem d_T_round_2 : decode b_T_round 2 = .ok (.invokevirtual 138, 3) := by decide +kernel
theorem d_T_round_5 : decode b_T_round 5 = .ok (.bipush 15, 2) := by decide +kernel
theorem d_T_round_7 : decode b_T_round 7 = .ok (.iand, 1) := by decide +kernel
theorem d_T_round_8 : decode b_T_round 8 = .ok (.istore_n 1, 1) := by decide +kernel
theorem d_T_round_9 : decode b_T_round 9 = .ok (.iconst 0, 1) := by decide +kernel
theorem d_T_round_10 : decode b_T_round 10 = .ok (.istore_n 2, 1) := by decide +kernel
theorem d_T_round_11 : decode b_T_round 11 = .ok (.iload_n 1, 1) := by decide +kernel
theorem d_T_round_12 : decode b_T_round 12 = .ok (.bipush 6, 2) := by decide +kernel
theorem d_T_round_14 : decode b_T_round 14 = .ok (.if_icmp .ne 38, 3) := by decide +kernel
theorem d_T_round_17 : decode b_T_round 17 = .ok (.aload_n 0, 1) := by decide +kernel
theorem d_T_round_18 : decode b_T_round 18 = .ok (.iconst 5, 1) := by decide +kernel
theorem d_T_round_19 : decode b_T_round 19 = .ok (.invokevirtual 138, 3) := by decide +kernel
theorem d_T_round_22 : decode b_T_round 22 = .ok (.istore_n 2, 1) := by decide +kernel
theorem d_T_round_23 : decode b_T_round 23 = .ok (.aload_n 0, 1) := by decide +kernel
theorem d_T_round_24 : decode b_T_round 24 = .ok (.aload_n 0, 1) := by decide +kernel
theorem d_T_round_25 : decode b_T_round 25 = .ok (.iload_n 2, 1) := by decide +kernel
theorem d_T_round_26 : decode b_T_round 26 = .ok (.iconst 1, 1) := by decide +kernel
theorem d_T_round_27 : decode b_T_round 27 = .ok (.invokevirtual 39, 3) := by decide +kernel
theorem d_T_round_30 : decode b_T_round 30 = .ok (.ifCond .eq 12, 3) := by decide +kernel
theorem d_T_round_33 : decode b_T_round 33 = .ok (.aload_n 0, 1) := by decide +kernel
theorem d_T_round_34 : decode b_T_round 34 = .ok (.getfield 156, 3) := by decide +kernel
theorem d_T_round_37 : decode b_T_round 37 = .ok (.iconst 1, 1) := by decide +kernel
theorem d_T_round_38 : decode b_T_round 38 = .ok (.iadd, 1) := by decide +kernel
theorem d_T_round_39 : decode b_T_round 39 = .ok (.goto 7, 3) := by decide +kernel
theorem d_T_round_42 : decode b_T_round 42 = .ok (.aload_n 0, 1) := by decide +kernel
theorem d_T_round_43 : decode b_T_round 43 = .ok (.getfield 156, 3) := by decide +kernel
theorem d_T_round_46 : decode b_T_round 46 = .ok (.putfield 156, 3) := by decide +kernel
theorem d_T_round_49 : decode b_T_round 49 = .ok (.goto 44, 3) := by decide +kernel
theorem d_T_round_52 : decode b_T_round 52 = .ok (.iload_n 1, 1) := by decide +kernel
theorem d_T_round_53 : decode b_T_round 53 = .ok (.iconst 4, 1) := by decide +kernel
theorem d_T_round_54 : decode b_T_round 54 = .ok (.if_icmp .eq 9, 3) := by decide +kernel
theorem d_T_round_57 : decode b_T_round 57 = .ok (.iload_n 1, 1) := by decide +kernel
theorem d_T_round_58 : decode b_T_round 58 = .ok (.bipush 12, 2) := by decide +kernel
theorem d_T_round_60 : decode b_T_round 60 = .ok (.if_icmp .ne 10, 3) := by decide +kernel
theorem d_T_round_63 : decode b_T_round 63 = .ok (.aload_n 0, 1) := by decide +kernel
theorem d_T_round_64 : decode b_T_round 64 = .ok (.invokevirtual 162, 3) := by decide +kernel
theorem d_T_round_67 : decode b_T_round 67 = .ok (.goto 26, 3) := by decide +kernel
theorem d_T_round_70 : decode b_T_round 70 = .ok (.iload_n 1, 1) := by decide +kernel
theorem d_T_round_71 : decode b_T_round 71 = .ok (.iconst 2, 1) := by decide +kernel
theorem d_T_round_72 : decode b_T_round 72 = .ok (.if_icmp .ne 10, 3) := by decide +kernel
theorem d_T_round_75 : decode b_T_round 75 = .ok (.aload_n 0, 1) := by decide +kernel
theorem d_T_round_76 : decode b_T_round 76 = .ok (.invokevirtual 165, 3) := by decide +kernel
theorem d_T_round_79 : decode b_T_round 79 = .ok (.goto 14, 3) := by decide +kernel
theorem d_T_round_82 : decode b_T_round 82 = .ok (.iload_n 1, 1) := by decide +kernel
theorem d_T_round_83 : decode b_T_round 83 = .ok (.ifCond .ne 10, 3) := by decide +kernel
theorem d_T_round_86 : decode b_T_round 86 = .ok (.aload_n 0, 1) := by decide +kernel
theorem d_T_round_87 : decode b_T_round 87 = .ok (.bipush 6, 2) := by decide +kernel
theorem d_T_round_89 : decode b_T_round 89 = .ok (.invokevirtual 138, 3) := by decide +kernel
theorem d_T_round_92 : decode b_T_round 92 = .ok (.istore_n 2, 1) := by decide +kernel
theorem d_T_round_93 : decode b_T_round 93 = .ok (.iload_n 1, 1) := by decide +kernel
theorem d_T_round_94 : decode b_T_round 94 = .ok (.iconst 1, 1) := by decide +kernel
theorem d_T_round_95 : decode b_T_round 95 = .ok (.if_icmp .eq 7, 3) := by decide +kernel
theorem d_T_round_98 : decode b_T_round 98 = .ok (.iconst 1, 1) := by decide +kernel
theorem d_T_round_99 : decode b_T_round 99 = .ok (.goto 4, 3) := by decide +kernel
theorem d_T_round_102 : decode b_T_round 102 = .ok (.iconst 0, 1) := by decide +kernel
theorem d_T_round_103 : decode b_T_round 103 = .ok (.ireturn, 1) := by decide +kernel
theorem d_T_service_0 : decode b_T_service 0 = .ok (.iconst 0, 1) := by decide +kernel
theorem d_T_service_1 : decode b_T_service 1 = .ok (.istore_n 1, 1) := by decide +kernel
theorem d_T_service_2 : decode b_T_service 2 = .ok (.iconst 1, 1) := by decide +kernel
theorem d_T_service_3 : decode b_T_service 3 = .ok (.istore_n 2, 1) := by decide +kernel
theorem d_T_service_4 : decode b_T_service 4 = .ok (.iload_n 1, 1) := by decide +kernel
theorem d_T_service_5 : decode b_T_service 5 = .ok (.bipush 8, 2) := by decide +kernel
theorem d_T_service_7 : decode b_T_service 7 = .ok (.if_icmp .ge 27, 3) := by decide +kernel
theorem d_T_service_10 : decode b_T_service 10 = .ok (.iload_n 2, 1) := by decide +kernel
theorem d_T_service_11 : decode b_T_service 11 = .ok (.ifCond .eq 23, 3) := by decide +kernel
theorem d_T_service_14 : decode b_T_service 14 = .ok (.aload_n 0, 1) := by decide +kernel
theorem d_T_service_15 : decode b_T_service 15 = .ok (.invokevirtual 168, 3) := by decide +kernel
theorem d_T_service_18 : decode b_T_service 18 = .ok (.istore_n 2, 1) := by decide +kernel
theorem d_T_service_19 : decode b_T_service 19 = .ok (.iload_n 2, 1) := by decide +kernel
theorem d_T_service_20 : decode b_T_service 20 = .ok (.ifCond .eq 9, 3) := by decide +kernel
theorem d_T_service_23 : decode b_T_service 23 = .ok (.iload_n 1, 1) := by decide +kernel
theorem d_T_service_24 : decode b_T_service 24 = .ok (.iconst 1, 1) := by decide +kernel
theorem d_T_service_25 : decode b_T_service 25 = .ok (.iadd, 1) := by decide +kernel
theorem d_T_service_26 : decode b_T_service 26 = .ok (.goto 4, 3) := by decide +kernel
theorem d_T_service_29 : decode b_T_service 29 = .ok (.iload_n 1, 1) := by decide +kernel
theorem d_T_service_30 : decode b_T_service 30 = .ok (.istore_n 1, 1) := by decide +kernel
theorem d_T_service_31 : decode b_T_service 31 = .ok (.goto (-27), 3) := by decide +kernel
theorem d_T_service_34 : decode b_T_service 34 = .ok (.iload_n 1, 1) := by decide +kernel
theorem d_T_service_35 : decode b_T_service 35 = .ok (.ireturn, 1) := by decide +kernel
theorem d_T_count_0 : decode b_T_count 0 = .ok (.iload_n 1, 1) := by decide +kernel
theorem d_T_count_1 : decode b_T_count 1 = .ok (.ifCond .lt 8, 3) := by decide +kernel
theorem d_T_count_4 : decode b_T_count 4 = .ok (.iload_n 1, 1) := by decide +kernel
theorem d_T_count_5 : decode b_T_count 5 = .ok (.iconst 3, 1) := by decide +kernel
theorem d_T_count_6 : decode b_T_count 6 = .ok (.if_icmp .le 7, 3) := by decide +kernel
theorem d_T_count_9 : decode b_T_count 9 = .ok (.iconst (-1), 1) := by decide +kernel
theorem d_T_count_10 : decode b_T_count 10 = .ok (.goto 9, 3) := by decide +kernel
theorem d_T_count_13 : decode b_T_count 13 = .ok (.aload_n 0, 1) := by decide +kernel
theorem d_T_count_14 : decode b_T_count 14 = .ok (.getfield 13, 3) := by decide +kernel
theorem d_T_count_17 : decode b_T_count 17 = .ok (.iload_n 1, 1) := by decide +kernel
theorem d_T_count_18 : decode b_T_count 18 = .ok (.iaload, 1) := by decide +kernel
theorem d_T_count_19 : decode b_T_count 19 = .ok (.ireturn, 1) := by decide +kernel
theorem d_T_flow_0 : decode b_T_flow 0 = .ok (.aload_n 0, 1) := by decide +kernel
theorem d_T_flow_1 : decode b_T_flow 1 = .ok (.getfield 144, 3) := by decide +kernel
theorem d_T_flow_4 : decode b_T_flow 4 = .ok (.ifCond .eq 7, 3) := by decide +kernel
theorem d_T_flow_7 : decode b_T_flow 7 = .ok (.iconst 1, 1) := by decide +kernel
theorem d_T_flow_8 : decode b_T_flow 8 = .ok (.goto 4, 3) := by decide +kernel
theorem d_T_flow_11 : decode b_T_flow 11 = .ok (.iconst 0, 1) := by decide +kernel
theorem d_T_flow_12 : decode b_T_flow 12 = .ok (.aload_n 0, 1) := by decide +kernel
theorem d_T_flow_13 : decode b_T_flow 13 = .ok (.getfield 147, 3) := by decide +kernel
theorem d_T_flow_16 : decode b_T_flow 16 = .ok (.ifCond .eq 7, 3) := by decide +kernel
theorem d_T_flow_19 : decode b_T_flow 19 = .ok (.iconst 2, 1) := by decide +kernel
theorem d_T_flow_20 : decode b_T_flow 20 = .ok (.goto 4, 3) := by decide +kernel
theorem d_T_flow_23 : decode b_T_flow 23 = .ok (.iconst 0, 1) := by decide +kernel
theorem d_T_flow_24 : decode b_T_flow 24 = .ok (.iadd, 1) := by decide +kernel
theorem d_T_flow_25 : decode b_T_flow 25 = .ok (.aload_n 0, 1) := by decide +kernel
theorem d_T_flow_26 : decode b_T_flow 26 = .ok (.getfield 150, 3) := by decide +kernel
theorem d_T_flow_29 : decode b_T_flow 29 = .ok (.bipush 17, 2) := by decide +kernel
theorem d_T_flow_31 : decode b_T_flow 31 = .ok (.if_icmp .ne 7, 3) := by decide +kernel
theorem d_T_flow_34 : decode b_T_flow 34 = .ok (.iconst 4, 1) := by decide +kernel
theorem d_T_flow_35 : decode b_T_flow 35 = .ok (.goto 4, 3) := by decide +kernel
theorem d_T_flow_38 : decode b_T_flow 38 = .ok (.iconst 0, 1) := by decide +kernel
theorem d_T_flow_39 : decode b_T_flow 39 = .ok (.iadd, 1) := by decide +kernel
theorem d_T_flow_40 : decode b_T_flow 40 = .ok (.aload_n 0, 1) := by decide +kernel
theorem d_T_flow_41 : decode b_T_flow 41 = .ok (.getfield 150, 3) := by decide +kernel
theorem d_T_flow_44 : decode b_T_flow 44 = .ok (.bipush 19, 2) := by decide +kernel
theorem d_T_flow_46 : decode b_T_flow 46 = .ok (.if_icmp .ne 8, 3) := by decide +kernel
theorem d_T_flow_49 : decode b_T_flow 49 = .ok (.bipush 8, 2) := by decide +kernel
theorem d_T_flow_51 : decode b_T_flow 51 = .ok (.goto 4, 3) := by decide +kernel
theorem d_T_flow_54 : decode b_T_flow 54 = .ok (.iconst 0, 1) := by decide +kernel
theorem d_T_flow_55 : decode b_T_flow 55 = .ok (.iadd, 1) := by decide +kernel
theorem d_T_flow_56 : decode b_T_flow 56 = .ok (.ireturn, 1) := by decide +kernel
theorem d_T_lost_0 : decode b_T_lost 0 = .ok (.aload_n 0, 1) := by decide +kernel
theorem d_T_lost_1 : decode b_T_lost 1 = .ok (.getfield 156, 3) := by decide +kernel
theorem d_T_lost_4 : decode b_T_lost 4 = .ok (.ireturn, 1) := by decide +kernel
theorem d_T_left_0 : decode b_T_left 0 = .ok (.aload_n 0, 1) := by decide +kernel
theorem d_T_left_1 : decode b_T_left 1 = .ok (.getfield 57, 3) := by decide +kernel
theorem d_T_left_4 : decode b_T_left 4 = .ok (.ifCond .ne 7, 3) := by decide +kernel
theorem d_T_left_7 : decode b_T_left 7 = .ok (.iconst 0, 1) := by decide +kernel
theorem d_T_left_8 : decode b_T_left 8 = .ok (.goto 12, 3) := by decide +kernel
theorem d_T_left_11 : decode b_T_left 11 = .ok (.aload_n 0, 1) := by decide +kernel
theorem d_T_left_12 : decode b_T_left 12 = .ok (.getfield 57, 3) := by decide +kernel
theorem d_T_left_15 : decode b_T_left 15 = .ok (.aload_n 0, 1) := by decide +kernel
theorem d_T_left_16 : decode b_T_left 16 = .ok (.getfield 67, 3) := by decide +kernel
theorem d_T_left_19 : decode b_T_left 19 = .ok (.isub, 1) := by decide +kernel
theorem d_T_left_20 : decode b_T_left 20 = .ok (.ireturn, 1) := by decide +kernel
end
section
theorem d_L_law_0 : decode code 0 = .ok (.new 7, 3) := by decide +kernel
theorem d_L_law_3 : decode code 3 = .ok (.dup, 1) := by decide +kernel
theorem d_L_law_4 : decode code 4 = .ok (.invokespecial 9, 3) := by decide +kernel
theorem d_L_law_7 : decode code 7 = .ok (.astore_n 1, 1) := by decide +kernel
theorem d_L_law_8 : decode code 8 = .ok (.new 10, 3) := by decide +kernel
theorem d_L_law_11 : decode code 11 = .ok (.dup, 1) := by decide +kernel
theorem d_L_law_12 : decode code 12 = .ok (.invokespecial 12, 3) := by decide +kernel
theorem d_L_law_15 : decode code 15 = .ok (.astore_n 2, 1) := by decide +kernel
theorem d_L_law_16 : decode code 16 = .ok (.iconst 0, 1) := by decide +kernel
theorem d_L_law_17 : decode code 17 = .ok (.istore_n 3, 1) := by decide +kernel
theorem d_L_law_18 : decode code 18 = .ok (.iload_n 3, 1) := by decide +kernel
theorem d_L_law_19 : decode code 19 = .ok (.aload_n 0, 1) := by decide +kernel
theorem d_L_law_20 : decode code 20 = .ok (.arraylength, 1) := by decide +kernel
theorem d_L_law_21 : decode code 21 = .ok (.iconst 3, 1) := by decide +kernel
theorem d_L_law_22 : decode code 22 = .ok (.isub, 1) := by decide +kernel
theorem d_L_law_23 : decode code 23 = .ok (.if_icmp .gt 399, 3) := by decide +kernel
theorem d_L_law_26 : decode code 26 = .ok (.aload_n 0, 1) := by decide +kernel
theorem d_L_law_27 : decode code 27 = .ok (.iload_n 3, 1) := by decide +kernel
theorem d_L_law_28 : decode code 28 = .ok (.iaload, 1) := by decide +kernel
theorem d_L_law_29 : decode code 29 = .ok (.bipush 15, 2) := by decide +kernel
theorem d_L_law_31 : decode code 31 = .ok (.iand, 1) := by decide +kernel
theorem d_L_law_32 : decode code 32 = .ok (.tableswitch 384 0 15 #[80, 103, 136, 169, 192, 213, 236, 249, 262, 273, 296, 309, 322, 345, 358, 371], 80) := by decide +kernel
theorem d_L_law_112 : decode code 112 = .ok (.aload_n 1, 1) := by decide +kernel
theorem d_L_law_113 : decode code 113 = .ok (.aload_n 0, 1) := by decide +kernel
theorem d_L_law_114 : decode code 114 = .ok (.iload_n 3, 1) := by decide +kernel
theorem d_L_law_115 : decode code 115 = .ok (.iconst 1, 1) := by decide +kernel
theorem d_L_law_116 : decode code 116 = .ok (.iadd, 1) := by decide +kernel
theorem d_L_law_117 : decode code 117 = .ok (.iaload, 1) := by decide +kernel
theorem d_L_law_118 : decode code 118 = .ok (.invokevirtual 13, 3) := by decide +kernel
theorem d_L_law_121 : decode code 121 = .ok (.aload_n 2, 1) := by decide +kernel
theorem d_L_law_122 : decode code 122 = .ok (.aload_n 0, 1) := by decide +kernel
theorem d_L_law_123 : decode code 123 = .ok (.iload_n 3, 1) := by decide +kernel
theorem d_L_law_124 : decode code 124 = .ok (.iconst 1, 1) := by decide +kernel
theorem d_L_law_125 : decode code 125 = .ok (.iadd, 1) := by decide +kernel
theorem d_L_law_126 : decode code 126 = .ok (.iaload, 1) := by decide +kernel
theorem d_L_law_127 : decode code 127 = .ok (.invokevirtual 17, 3) := by decide +kernel
theorem d_L_law_130 : decode code 130 = .ok (.if_icmp .eq 286, 3) := by decide +kernel
theorem d_L_law_133 : decode code 133 = .ok (.iconst 0, 1) := by decide +kernel
theorem d_L_law_134 : decode code 134 = .ok (.ireturn, 1) := by decide +kernel
theorem d_L_law_135 : decode code 135 = .ok (.aload_n 1, 1) := by decide +kernel
theorem d_L_law_136 : decode code 136 = .ok (.aload_n 0, 1) := by decide +kernel
theorem d_L_law_137 : decode code 137 = .ok (.iload_n 3, 1) := by decide +kernel
theorem d_L_law_138 : decode code 138 = .ok (.iconst 1, 1) := by decide +kernel
theorem d_L_law_139 : decode code 139 = .ok (.iadd, 1) := by decide +kernel
theorem d_L_law_140 : decode code 140 = .ok (.iaload, 1) := by decide +kernel
theorem d_L_law_141 : decode code 141 = .ok (.aload_n 0, 1) := by decide +kernel
theorem d_L_law_142 : decode code 142 = .ok (.iload_n 3, 1) := by decide +kernel
theorem d_L_law_143 : decode code 143 = .ok (.iconst 2, 1) := by decide +kernel
theorem d_L_law_144 : decode code 144 = .ok (.iadd, 1) := by decide +kernel
theorem d_L_law_145 : decode code 145 = .ok (.iaload, 1) := by decide +kernel
theorem d_L_law_146 : decode code 146 = .ok (.invokevirtual 18, 3) := by decide +kernel
theorem d_L_law_149 : decode code 149 = .ok (.aload_n 2, 1) := by decide +kernel
theorem d_L_law_150 : decode code 150 = .ok (.aload_n 0, 1) := by decide +kernel
theorem d_L_law_151 : decode code 151 = .ok (.iload_n 3, 1) := by decide +kernel
theorem d_L_law_152 : decode code 152 = .ok (.iconst 1, 1) := by decide +kernel
theorem d_L_law_153 : decode code 153 = .ok (.iadd, 1) := by decide +kernel
theorem d_L_law_154 : decode code 154 = .ok (.iaload, 1) := by decide +kernel
theorem d_L_law_155 : decode code 155 = .ok (.aload_n 0, 1) := by decide +kernel
theorem d_L_law_156 : decode code 156 = .ok (.iload_n 3, 1) := by decide +kernel
theorem d_L_law_157 : decode code 157 = .ok (.iconst 2, 1) := by decide +kernel
theorem d_L_law_158 : decode code 158 = .ok (.iadd, 1) := by decide +kernel
theorem d_L_law_159 : decode code 159 = .ok (.iaload, 1) := by decide +kernel
theorem d_L_law_160 : decode code 160 = .ok (.invokevirtual 22, 3) := by decide +kernel
theorem d_L_law_163 : decode code 163 = .ok (.if_icmp .eq 253, 3) := by decide +kernel
theorem d_L_law_166 : decode code 166 = .ok (.iconst 0, 1) := by decide +kernel
theorem d_L_law_167 : decode code 167 = .ok (.ireturn, 1) := by decide +kernel
theorem d_L_law_168 : decode code 168 = .ok (.aload_n 1, 1) := by decide +kernel
theorem d_L_law_169 : decode code 169 = .ok (.aload_n 0, 1) := by decide +kernel
theorem d_L_law_170 : decode code 170 = .ok (.iload_n 3, 1) := by decide +kernel
theorem d_L_law_171 : decode code 171 = .ok (.iconst 1, 1) := by decide +kernel
theorem d_L_law_172 : decode code 172 = .ok (.iadd, 1) := by decide +kernel
theorem d_L_law_173 : decode code 173 = .ok (.iaload, 1) := by decide +kernel
theorem d_L_law_174 : decode code 174 = .ok (.aload_n 0, 1) := by decide +kernel
theorem d_L_law_175 : decode code 175 = .ok (.iload_n 3, 1) := by decide +kernel
theorem d_L_law_176 : decode code 176 = .ok (.iconst 2, 1) := by decide +kernel
theorem d_L_law_177 : decode code 177 = .ok (.iadd, 1) := by decide +kernel
theorem d_L_law_178 : decode code 178 = .ok (.iaload, 1) := by decide +kernel
theorem d_L_law_179 : decode code 179 = .ok (.invokevirtual 23, 3) := by decide +kernel
theorem d_L_law_182 : decode code 182 = .ok (.aload_n 2, 1) := by decide +kernel
theorem d_L_law_183 : decode code 183 = .ok (.aload_n 0, 1) := by decide +kernel
theorem d_L_law_184 : decode code 184 = .ok (.iload_n 3, 1) := by decide +kernel
theorem d_L_law_185 : decode code 185 = .ok (.iconst 1, 1) := by decide +kernel
theorem d_L_law_186 : decode code 186 = .ok (.iadd, 1) := by decide +kernel
theorem d_L_law_187 : decode code 187 = .ok (.iaload, 1) := by decide +kernel
theorem d_L_law_188 : decode code 188 = .ok (.aload_n 0, 1) := by decide +kernel
theorem d_L_law_189 : decode code 189 = .ok (.iload_n 3, 1) := by decide +kernel
theorem d_L_law_190 : decode code 190 = .ok (.iconst 2, 1) := by decide +kernel
theorem d_L_law_191 : decode code 191 = .ok (.iadd, 1) := by decide +kernel
theorem d_L_law_192 : decode code 192 = .ok (.iaload, 1) := by decide +kernel
theorem d_L_law_193 : decode code 193 = .ok (.invokevirtual 26, 3) := by decide +kernel
theorem d_L_law_196 : decode code 196 = .ok (.if_icmp .eq 220, 3) := by decide +kernel
theorem d_L_law_199 : decode code 199 = .ok (.iconst 0, 1) := by decide +kernel
theorem d_L_law_200 : decode code 200 = .ok (.ireturn, 1) := by decide +kernel
theorem d_L_law_201 : decode code 201 = .ok (.aload_n 1, 1) := by decide +kernel
theorem d_L_law_202 : decode code 202 = .ok (.aload_n 0, 1) := by decide +kernel
theorem d_L_law_203 : decode code 203 = .ok (.iload_n 3, 1) := by decide +kernel
theorem d_L_law_204 : decode code 204 = .ok (.iconst 1, 1) := by decide +kernel
theorem d_L_law_205 : decode code 205 = .ok (.iadd, 1) := by decide +kernel
theorem d_L_law_206 : decode code 206 = .ok (.iaload, 1) := by decide +kernel
theorem d_L_law_207 : decode code 207 = .ok (.invokevirtual 27, 3) := by decide +kernel
theorem d_L_law_210 : decode code 210 = .ok (.aload_n 2, 1) := by decide +kernel
theorem d_L_law_211 : decode code 211 = .ok (.aload_n 0, 1) := by decide +kernel
theorem d_L_law_212 : decode code 212 = .ok (.iload_n 3, 1) := by decide +kernel
theorem d_L_law_213 : decode code 213 = .ok (.iconst 1, 1) := by decide +kernel
theorem d_L_law_214 : decode code 214 = .ok (.iadd, 1) := by decide +kernel
theorem d_L_law_215 : decode code 215 = .ok (.iaload, 1) := by decide +kernel
theorem d_L_law_216 : decode code 216 = .ok (.invokevirtual 30, 3) := by decide +kernel
theorem d_L_law_219 : decode code 219 = .ok (.if_icmp .eq 197, 3) := by decide +kernel
theorem d_L_law_222 : decode code 222 = .ok (.iconst 0, 1) := by decide +kernel
theorem d_L_law_223 : decode code 223 = .ok (.ireturn, 1) := by decide +kernel
theorem d_L_law_224 : decode code 224 = .ok (.aload_n 1, 1) := by decide +kernel
theorem d_L_law_225 : decode code 225 = .ok (.aload_n 0, 1) := by decide +kernel
theorem d_L_law_226 : decode code 226 = .ok (.iload_n 3, 1) := by decide +kernel
theorem d_L_law_227 : decode code 227 = .ok (.iconst 1, 1) := by decide +kernel
theorem d_L_law_228 : decode code 228 = .ok (.iadd, 1) := by decide +kernel
theorem d_L_law_229 : decode code 229 = .ok (.iaload, 1) := by decide +kernel
theorem d_L_law_230 : decode code 230 = .ok (.invokevirtual 31, 3) := by decide +kernel
theorem d_L_law_233 : decode code 233 = .ok (.aload_n 2, 1) := by decide +kernel
theorem d_L_law_234 : decode code 234 = .ok (.aload_n 0, 1) := by decide +kernel
theorem d_L_law_235 : decode code 235 = .ok (.iload_n 3, 1) := by decide +kernel
theorem d_L_law_236 : decode code 236 = .ok (.iconst 1, 1) := by decide +kernel
theorem d_L_law_237 : decode code 237 = .ok (.iadd, 1) := by decide +kernel
theorem d_L_law_238 : decode code 238 = .ok (.iaload, 1) := by decide +kernel
theorem d_L_law_239 : decode code 239 = .ok (.invokevirtual 35, 3) := by decide +kernel
theorem d_L_law_242 : decode code 242 = .ok (.goto 174, 3) := by decide +kernel
theorem d_L_law_245 : decode code 245 = .ok (.aload_n 1, 1) := by decide +kernel
theorem d_L_law_246 : decode code 246 = .ok (.aload_n 0, 1) := by decide +kernel
theorem d_L_law_247 : decode code 247 = .ok (.iload_n 3, 1) := by decide +kernel
theorem d_L_law_248 : decode code 248 = .ok (.iconst 1, 1) := by decide +kernel
theorem d_L_law_249 : decode code 249 = .ok (.iadd, 1) := by decide +kernel
theorem d_L_law_250 : decode code 250 = .ok (.iaload, 1) := by decide +kernel
theorem d_L_law_251 : decode code 251 = .ok (.invokevirtual 36, 3) := by decide +kernel
theorem d_L_law_254 : decode code 254 = .ok (.aload_n 2, 1) := by decide +kernel
theorem d_L_law_255 : decode code 255 = .ok (.aload_n 0, 1) := by decide +kernel
theorem d_L_law_256 : decode code 256 = .ok (.iload_n 3, 1) := by decide +kernel
theorem d_L_law_257 : decode code 257 = .ok (.iconst 1, 1) := by decide +kernel
theorem d_L_law_258 : decode code 258 = .ok (.iadd, 1) := by decide +kernel
theorem d_L_law_259 : decode code 259 = .ok (.iaload, 1) := by decide +kernel
theorem d_L_law_260 : decode code 260 = .ok (.invokevirtual 39, 3) := by decide +kernel
theorem d_L_law_263 : decode code 263 = .ok (.if_icmp .eq 153, 3) := by decide +kernel
theorem d_L_law_266 : decode code 266 = .ok (.iconst 0, 1) := by decide +kernel
theorem d_L_law_267 : decode code 267 = .ok (.ireturn, 1) := by decide +kernel
theorem d_L_law_268 : decode code 268 = .ok (.aload_n 1, 1) := by decide +kernel
theorem d_L_law_269 : decode code 269 = .ok (.invokevirtual 40, 3) := by decide +kernel
theorem d_L_law_272 : decode code 272 = .ok (.aload_n 2, 1) := by decide +kernel
theorem d_L_law_273 : decode code 273 = .ok (.invokevirtual 44, 3) := by decide +kernel
theorem d_L_law_276 : decode code 276 = .ok (.if_icmp .eq 140, 3) := by decide +kernel
theorem d_L_law_279 : decode code 279 = .ok (.iconst 0, 1) := by decide +kernel
theorem d_L_law_280 : decode code 280 = .ok (.ireturn, 1) := by decide +kernel
theorem d_L_law_281 : decode code 281 = .ok (.aload_n 1, 1) := by decide +kernel
theorem d_L_law_282 : decode code 282 = .ok (.invokevirtual 45, 3) := by decide +kernel
theorem d_L_law_285 : decode code 285 = .ok (.aload_n 2, 1) := by decide +kernel
theorem d_L_law_286 : decode code 286 = .ok (.invokevirtual 48, 3) := by decide +kernel
theorem d_L_law_289 : decode code 289 = .ok (.if_icmp .eq 127, 3) := by decide +kernel
theorem d_L_law_292 : decode code 292 = .ok (.iconst 0, 1) := by decide +kernel
theorem d_L_law_293 : decode code 293 = .ok (.ireturn, 1) := by decide +kernel
theorem d_L_law_294 : decode code 294 = .ok (.aload_n 1, 1) := by decide +kernel
theorem d_L_law_295 : decode code 295 = .ok (.invokevirtual 49, 3) := by decide +kernel
theorem d_L_law_298 : decode code 298 = .ok (.aload_n 2, 1) := by decide +kernel
theorem d_L_law_299 : decode code 299 = .ok (.invokevirtual 52, 3) := by decide +kernel
theorem d_L_law_302 : decode code 302 = .ok (.goto 114, 3) := by decide +kernel
theorem d_L_law_305 : decode code 305 = .ok (.aload_n 1, 1) := by decide +kernel
theorem d_L_law_306 : decode code 306 = .ok (.aload_n 0, 1) := by decide +kernel
theorem d_L_law_307 : decode code 307 = .ok (.iload_n 3, 1) := by decide +kernel
theorem d_L_law_308 : decode code 308 = .ok (.iconst 1, 1) := by decide +kernel
theorem d_L_law_309 : decode code 309 = .ok (.iadd, 1) := by decide +kernel
theorem d_L_law_310 : decode code 310 = .ok (.iaload, 1) := by decide +kernel
theorem d_L_law_311 : decode code 311 = .ok (.invokevirtual 53, 3) := by decide +kernel
theorem d_L_law_314 : decode code 314 = .ok (.aload_n 2, 1) := by decide +kernel
theorem d_L_law_315 : decode code 315 = .ok (.aload_n 0, 1) := by decide +kernel
theorem d_L_law_316 : decode code 316 = .ok (.iload_n 3, 1) := by decide +kernel
theorem d_L_law_317 : decode code 317 = .ok (.iconst 1, 1) := by decide +kernel
theorem d_L_law_318 : decode code 318 = .ok (.iadd, 1) := by decide +kernel
theorem d_L_law_319 : decode code 319 = .ok (.iaload, 1) := by decide +kernel
theorem d_L_law_320 : decode code 320 = .ok (.invokevirtual 57, 3) := by decide +kernel
theorem d_L_law_323 : decode code 323 = .ok (.if_icmp .eq 93, 3) := by decide +kernel
theorem d_L_law_326 : decode code 326 = .ok (.iconst 0, 1) := by decide +kernel
theorem d_L_law_327 : decode code 327 = .ok (.ireturn, 1) := by decide +kernel
theorem d_L_law_328 : decode code 328 = .ok (.aload_n 1, 1) := by decide +kernel
theorem d_L_law_329 : decode code 329 = .ok (.invokevirtual 58, 3) := by decide +kernel
theorem d_L_law_332 : decode code 332 = .ok (.aload_n 2, 1) := by decide +kernel
theorem d_L_law_333 : decode code 333 = .ok (.invokevirtual 61, 3) := by decide +kernel
theorem d_L_law_336 : decode code 336 = .ok (.if_icmp .eq 80, 3) := by decide +kernel
theorem d_L_law_339 : decode code 339 = .ok (.iconst 0, 1) := by decide +kernel
theorem d_L_law_340 : decode code 340 = .ok (.ireturn, 1) := by decide +kernel
theorem d_L_law_341 : decode code 341 = .ok (.aload_n 1, 1) := by decide +kernel
theorem d_L_law_342 : decode code 342 = .ok (.invokevirtual 62, 3) := by decide +kernel
theorem d_L_law_345 : decode code 345 = .ok (.aload_n 2, 1) := by decide +kernel
theorem d_L_law_346 : decode code 346 = .ok (.invokevirtual 65, 3) := by decide +kernel
theorem d_L_law_349 : decode code 349 = .ok (.if_icmp .eq 67, 3) := by decide +kernel
theorem d_L_law_352 : decode code 352 = .ok (.iconst 0, 1) := by decide +kernel
theorem d_L_law_353 : decode code 353 = .ok (.ireturn, 1) := by decide +kernel
theorem d_L_law_354 : decode code 354 = .ok (.aload_n 1, 1) := by decide +kernel
theorem d_L_law_355 : decode code 355 = .ok (.aload_n 0, 1) := by decide +kernel
theorem d_L_law_356 : decode code 356 = .ok (.iload_n 3, 1) := by decide +kernel
theorem d_L_law_357 : decode code 357 = .ok (.iconst 1, 1) := by decide +kernel
theorem d_L_law_358 : decode code 358 = .ok (.iadd, 1) := by decide +kernel
theorem d_L_law_359 : decode code 359 = .ok (.iaload, 1) := by decide +kernel
theorem d_L_law_360 : decode code 360 = .ok (.invokevirtual 66, 3) := by decide +kernel
theorem d_L_law_363 : decode code 363 = .ok (.aload_n 2, 1) := by decide +kernel
theorem d_L_law_364 : decode code 364 = .ok (.aload_n 0, 1) := by decide +kernel
theorem d_L_law_365 : decode code 365 = .ok (.iload_n 3, 1) := by decide +kernel
theorem d_L_law_366 : decode code 366 = .ok (.iconst 1, 1) := by decide +kernel
theorem d_L_law_367 : decode code 367 = .ok (.iadd, 1) := by decide +kernel
theorem d_L_law_368 : decode code 368 = .ok (.iaload, 1) := by decide +kernel
theorem d_L_law_369 : decode code 369 = .ok (.invokevirtual 69, 3) := by decide +kernel
theorem d_L_law_372 : decode code 372 = .ok (.if_icmp .eq 44, 3) := by decide +kernel
theorem d_L_law_375 : decode code 375 = .ok (.iconst 0, 1) := by decide +kernel
theorem d_L_law_376 : decode code 376 = .ok (.ireturn, 1) := by decide +kernel
theorem d_L_law_377 : decode code 377 = .ok (.aload_n 1, 1) := by decide +kernel
theorem d_L_law_378 : decode code 378 = .ok (.invokevirtual 70, 3) := by decide +kernel
theorem d_L_law_381 : decode code 381 = .ok (.aload_n 2, 1) := by decide +kernel
theorem d_L_law_382 : decode code 382 = .ok (.invokevirtual 73, 3) := by decide +kernel
theorem d_L_law_385 : decode code 385 = .ok (.if_icmp .eq 31, 3) := by decide +kernel
theorem d_L_law_388 : decode code 388 = .ok (.iconst 0, 1) := by decide +kernel
theorem d_L_law_389 : decode code 389 = .ok (.ireturn, 1) := by decide +kernel
theorem d_L_law_390 : decode code 390 = .ok (.aload_n 1, 1) := by decide +kernel
theorem d_L_law_391 : decode code 391 = .ok (.invokevirtual 74, 3) := by decide +kernel
theorem d_L_law_394 : decode code 394 = .ok (.aload_n 2, 1) := by decide +kernel
theorem d_L_law_395 : decode code 395 = .ok (.invokevirtual 77, 3) := by decide +kernel
theorem d_L_law_398 : decode code 398 = .ok (.if_icmp .eq 18, 3) := by decide +kernel
theorem d_L_law_401 : decode code 401 = .ok (.iconst 0, 1) := by decide +kernel
theorem d_L_law_402 : decode code 402 = .ok (.ireturn, 1) := by decide +kernel
theorem d_L_law_403 : decode code 403 = .ok (.aload_n 1, 1) := by decide +kernel
theorem d_L_law_404 : decode code 404 = .ok (.invokevirtual 78, 3) := by decide +kernel
theorem d_L_law_407 : decode code 407 = .ok (.aload_n 2, 1) := by decide +kernel
theorem d_L_law_408 : decode code 408 = .ok (.invokevirtual 81, 3) := by decide +kernel
theorem d_L_law_411 : decode code 411 = .ok (.if_icmp .eq 5, 3) := by decide +kernel
theorem d_L_law_414 : decode code 414 = .ok (.iconst 0, 1) := by decide +kernel
theorem d_L_law_415 : decode code 415 = .ok (.ireturn, 1) := by decide +kernel
theorem d_L_law_416 : decode code 416 = .ok (.iinc 3 3, 3) := by decide +kernel
theorem d_L_law_419 : decode code 419 = .ok (.goto (-401), 3) := by decide +kernel
theorem d_L_law_422 : decode code 422 = .ok (.iconst 1, 1) := by decide +kernel
theorem d_L_law_423 : decode code 423 = .ok (.ireturn, 1) := by decide +kernel
end
section
/-! helpers: partial answers (Option), the start of a contract, calls with the frame rule -/
theorem ite_t {α : Type} {c : Prop} [Decidable c] {a b r : α} (h : (if c then a else b) = r) (hc : c) : a = r := by rw [if_pos hc] at h; exact h
theorem ite_f {α : Type} {c : Prop} [Decidable c] {a b r : α} (h : (if c then a else b) = r) (hc : ¬ c) : b = r := by rw [if_neg hc] at h; exact h
def gi_ {α : Type} (i : Int32) (n : Nat) (k : Option α) : Option α := if i < 0 ∨ n ≤ i.toNatClampNeg then none else k
theorem gi_e {α : Type} {i : Int32} {n : Nat} {k : Option α} {r : α} (h : gi_ i n k = some r) : vp_in i n ∧ k = some r := by
  unfold gi_ at h
  by_cases hc : i < 0 ∨ n ≤ i.toNatClampNeg
  · rw [if_pos hc] at h; cases h
  · rw [if_neg hc] at h; exact ⟨hc, h⟩
def gb_ {α : Type} (x : Int32) (k : Option α) : Option α := if x = 0 ∨ x = 1 then k else none
theorem gb_e {α : Type} {x : Int32} {k : Option α} {r : α} (h : gb_ x k = some r) : (narrow .boolean (.int x) = .int x ∧ fits .boolean (.int x) = true) ∧ k = some r := by
  unfold gb_ at h
  by_cases hc : x = 0 ∨ x = 1
  · rw [if_pos hc] at h
    rcases hc with rfl | rfl
    · exact ⟨⟨by decide +kernel, by decide +kernel⟩, h⟩
    · exact ⟨⟨by decide +kernel, by decide +kernel⟩, h⟩
  · rw [if_neg hc] at h; cases h
theorem bind_e {α β : Type} {o : Option α} {k : α → Option β} {r : β} (h : o.bind k = some r) : ∃ q, o = some q ∧ k q = some r := by
  cases o with
  | none => cases h
  | some q => exact ⟨q, rfl, h⟩
/-- the table LEVELS -/
def lvI (j : Nat) : Int32 := if j = 0 then 1 else if j = 1 then 4 else if j = 2 then 8 else 14
def st_ (t : Nat) (A : Nat → Prop) (U : State) (H : Heap) : Prop := va_Z "FlowedLine$Port" "LEVELS" "[I" (.ref t) A U H ∧ va_T .int t 4 (fun j => .int (lvI j)) A U H
theorem st_moved {t : Nat} {A : Nat → Prop} {u U : State} {H : Heap} (hvm : u.vm.Alike U.vm) (h : st_ t A u H) : st_ t A U H := ⟨va_Z.moved hvm h.1, va_T.moved hvm h.2⟩
theorem st_kept {t : Nat} {A : Nat → Prop} {U : State} {H H1 : Heap} (h : st_ t A U H) (hq : ∀ a : Nat, a < H.size → ¬ A a → H1[a]? = H[a]?) : st_ t A U H1 := ⟨va_Z.kept h.1 hq, va_T.kept h.2 hq⟩
theorem st_narrow {t : Nat} {A B : Nat → Prop} {U : State} {H : Heap} (h : st_ t A U H) (hAB : ∀ q, B q → A q) : st_ t B U H := ⟨va_Z.narrow h.1 hAB, va_T.narrow h.2 hAB⟩
/-- a contract's start: the heap holds these cells, apart -/
def pc_ (D : va_G) (tys : List (ClassId × FieldType)) (t sz : Nat) (ws : va_W) : State → Prop := fun U => U.heap.size = sz ∧ va_P D cls ws U.heap ∧ va_K D cls tys U ∧ va_D (fun _ => True) ws ∧ st_ t (va_A ws sz) U U.heap
theorem pc_blind {D : va_G} {tys : List (ClassId × FieldType)} {t sz : Nat} {ws : va_W} {av : List Value} : FrameBlind (va_Pc av (pc_ D tys t sz ws)) := by
  intro a U g mk q
  obtain ⟨q0, q1, qP, qK, qD, qZ⟩ := q
  exact ⟨q0, q1, qP, va_K.moved (u := U) (U := U.calling g mk a) (Vm.Alike.refl U.vm) qK, qD, st_moved (u := U) (U := U.calling g mk a) (Vm.Alike.refl U.vm) qZ⟩
theorem pc_pre {D : va_G} {tys : List (ClassId × FieldType)} {t : Nat} {wc : va_W} {av : List Value} {s : State} {H : Heap} {locs : List Loc} {A : Nat → Prop} (hK : va_K D cls tys s) (hZ : st_ t A s s.heap) (hS : va_S A s.heap H locs) (hP : va_P D cls wc H) (hD : va_D A wc) (hF : ∀ q, va_A wc H.size q → A q) : PreS s H (va_Pc av (pc_ D tys t H.size wc)) av :=
  ⟨pc_blind, fun U hU hW => ⟨rfl, by rw [hU], by rw [hU]; exact hP, va_K.moved hW.alike hK, hD.weaken (fun _ _ _ _ => trivial), by rw [hU]; exact st_moved hW.alike (st_narrow (st_kept hZ hS.2.1) hF)⟩⟩
/-! ends: an int and a new state; an int alone; a new state alone -/
def qi_ {S : Type} (D : va_G) (cw : S → va_W) (q : Int32 × S) (A : Nat → Prop) : Array Value → State → Outcome → State → Prop := va_Qi (fun r v => (r, v) = q) (fun v T => va_P D cls (cw v) T.heap ∧ va_D A (cw v)) A
def qr_ (D : va_G) (ws : va_W) (q : Int32) (A : Nat → Prop) : Array Value → State → Outcome → State → Prop := va_Qi (fun r (_ : Unit) => r = q) (fun _ T => va_P D cls ws T.heap ∧ va_D A ws) A
def qv_ {S : Type} (D : va_G) (cw : S → va_W) (q : S) (A : Nat → Prop) : Array Value → State → Outcome → State → Prop := va_Qv (fun v => v = q) (fun v T => va_P D cls (cw v) T.heap ∧ va_D A (cw v)) A
theorem ri_ {S : Type} {D : va_G} {cw : S → va_W} {q : Int32 × S} {A : Nat → Prop} {a : Array Value} {s T : State} {H : Heap} {locs : List Loc} {v : Int32} {u : S} (e : (v, u) = q) (hP : va_P D cls (cw u) H) (hD : va_D A (cw u)) (hS : va_S A s.heap H locs) (ht : T.heap = H) : qi_ D cw q A a s (.returned (some (.int v))) T :=
  ⟨⟨v, u, rfl, e, by rw [ht]; exact hP, hD⟩, hS.F ht⟩
theorem rr_ {D : va_G} {ws : va_W} {q : Int32} {A : Nat → Prop} {a : Array Value} {s T : State} {H : Heap} {locs : List Loc} {v : Int32} (e : v = q) (hP : va_P D cls ws H) (hD : va_D A ws) (hS : va_S A s.heap H locs) (ht : T.heap = H) : qr_ D ws q A a s (.returned (some (.int v))) T :=
  ⟨⟨v, (), rfl, e, by rw [ht]; exact hP, hD⟩, hS.F ht⟩
theorem rv_ {S : Type} {D : va_G} {cw : S → va_W} {q : S} {A : Nat → Prop} {a : Array Value} {s T : State} {H : Heap} {locs : List Loc} {u : S} (e : u = q) (hP : va_P D cls (cw u) H) (hD : va_D A (cw u)) (hS : va_S A s.heap H locs) (ht : T.heap = H) : qv_ D cw q A a s (.returned none) T :=
  ⟨⟨u, rfl, e, by rw [ht]; exact hP, hD⟩, hS.F ht⟩
theorem start_ (l : Launch) {y : MethodName} {cc : ByteArray} {maxL : Nat} {ret : Option FieldType} {rm : Room} {D : va_G} {tys : List (ClassId × FieldType)} {t sz : Nat} {ws : va_W} {av : List Value} {mc ms : Nat} (Q : (Nat → Prop) → Array Value → State → Outcome → State → Prop) (hy : plainName y.cls = true) (hav : (lg_sl av).length ≤ maxL)
    (body : ∀ (p : Program) (e : Env) (s : State) (m : MethodId) (below : List Frame) (meth : Method) (c : Code), p.tables.exec = Jvm.exec → c.code = cc → c.maxLocals = maxL → meth.sig.returnType = ret → s.vm.findClass y.cls = some m.cls → (∀ w ∈ W0, w.before av.toArray s = true) → meth.locks = false → meth.name = y.name → ∀ A : Nat → Prop, (∀ q : Nat, s.heap.size ≤ q → A q) → va_S A s.heap s.heap [] → va_P D cls ws s.heap → va_K D cls tys s → va_D A ws → st_ t A s s.heap → ∀ ls : Array Slot, lv_has ls maxL (lv_args 0 av) → W p l e rm s m av.toArray below meth c s.heap [] 0 0 (MQ below (Q A) av.toArray s mc ms A) (F0 m 0 ls [])) :
    Met l y (Cond.code y cc maxL ret :: W0) rm (va_Pc av (pc_ D tys t sz ws)) (Q (va_A ws sz)) mc ms (va_A ws sz) := by
  refine Met.ofW (cc := cc) (maxL := maxL) (ret := ret) hy rfl ?_
  intro p e s m args below meth c s₁ B hml hv
  obtain ⟨rfl, hsz, hP, hK, hD0, hZ⟩ := hv
  subst hsz
  have hts := atoms_spec (ws := Cond.code y cc maxL ret :: W0) B.pre
  have hl := lv_entry av (n := maxL) hav
  rw [lg_entry_eq]
  exact body p e s m below meth c B.exec B.bytes hml B.returns (findClass_of_methodNamed B.named) (fun w h => hts w (List.mem_cons_of_mem _ h)) B.notSynchronized (name_of_methodNamed B.named B.method).1 _ (fun q h => Or.inr h) va_S.rf hP hK hD0.self hZ _ hl
theorem good0 {w : Cond} (h : w ∈ W0) : w ∈ W0 ∧ ((w.onTables && w.keeps) = true ∨ ∃ ty, w = .arrayClass ty) := ⟨h, good_of_word (List.mem_filter.mp h).2⟩
theorem gc_ {k : Cond} (h5 : k ∈ W0) : GoodIn W0 (k :: W0) := fun w h => (List.mem_cons.mp h).elim (fun e => by rw [e]; exact good0 h5) good0
theorem gV_ {own C : String} {idx : Nat} {y : MethodName} {k : Cond} (h1 : Cond.methodLink own idx y ∈ W0) (h2 : Cond.instanceMethod y ∈ W0) (h3 : Cond.selects C y y ∈ W0) (h4 : Cond.initialized C ∈ W0) (h5 : k ∈ W0) : GoodIn W0 (wsV own idx C y (k :: W0)) := by
  intro w h
  rcases List.mem_append.mp h with h | h
  · simp only [List.mem_cons, List.not_mem_nil, or_false] at h
    rcases h with rfl | rfl | rfl | rfl
    · exact good0 h1
    · exact good0 h2
    · exact good0 h3
    · exact good0 h4
  · exact gc_ h5 w h
theorem gS_ {own : String} {idx : Nat} {y : MethodName} {k : Cond} (h1 : Cond.methodLink own idx y ∈ W0) (h2 : Cond.static y ∈ W0) (h4 : Cond.initialized y.cls ∈ W0) (h5 : k ∈ W0) : GoodIn W0 (va_wsS own idx y (k :: W0)) := by
  intro w h
  rcases List.mem_append.mp h with h | h
  · simp only [List.mem_cons, List.not_mem_nil, or_false] at h
    rcases h with rfl | rfl | rfl
    · exact good0 h1
    · exact good0 h2
    · exact good0 h4
  · exact gc_ h5 w h
theorem fm_of {α : Type} {f : Nat → Option α} : ∀ {l : List Nat} {r : List α}, l.map f = r.map some → l.filterMap f = r
  | [], [], _ => rfl
  | [], _ :: _, h => by cases h
  | _ :: _, [], h => by cases h
  | a :: l, b :: r, h => by
    simp only [List.map_cons, List.cons.injEq] at h
    rw [List.filterMap_cons, h.1]
    exact congrArg (b :: ·) (fm_of h.2)
section WK
variable {p : Program} {l : Launch} {e : Env} {R : Room} {s : State} {m : MethodId} {args : Array Value} {below : List Frame} {meth : Method} {c : Code} {H : Heap} {locs : List Loc} {cells slots : Nat} {Q : State → Prop}
/-- the walk as one word -/
theorem wabs_ {g : JFrame} (k : ∀ WW : Heap → List Loc → JFrame → Prop, (∀ H locs g, W p l e R s m args below meth c H locs cells slots Q g → WW H locs g) → (∀ H locs g, WW H locs g → W p l e R s m args below meth c H locs cells slots Q g) → WW H locs g) : W p l e R s m args below meth c H locs cells slots Q g := k _ (fun _ _ _ h => h) (fun _ _ _ h => h)
variable {cc : ByteArray} {pc : Nat} {ls : Array Slot} {rest : List Value}
theorem lv_swk_ (hexec : p.tables.exec = Jvm.exec) (hb : c.code = cc) {dflt lo hi : Int} {offs : Array Int} {len : Nat} {x k : Int32} {a off : Int} {tgt : Nat} (hdg : decode cc pc = .ok (.tableswitch dflt lo hi offs, len)) (ek : x = k) (ha : k.toInt = a) (h1 : ¬ a < lo) (h2 : ¬ hi < a) (ho : offs[(a - lo).toNat]? = some off) (ht : (pc : Int) + off = (tgt : Int))
    (kk : W p l e R s m args below meth c H locs cells slots Q (F0 m tgt ls rest)) : W p l e R s m args below meth c H locs cells slots Q (F0 m pc ls (.int x :: rest)) := by
  subst ek
  subst ha
  exact lv_tableIn hexec hb hdg h1 h2 ho ht kk
variable {nL maxL index n mc ms b t : Nat} {own C : String} {T : u_T} {N ci : Nat} {y : MethodName} {ret : Option FieldType} {rm : Room} {bytes : ByteArray} {D : va_G} {tys : List (ClassId × FieldType)} {A : Nat → Prop} {ws wc wr : va_W} {fs : List Value} {As st0 : List Value}
/-- a call of a method that answers an int and changes its world -/
theorem cVi_ {S : Type} {cw : S → va_W} {q : Int32 × S} (X : CallFix p m c cc nL s args W0 own) (hM : Met l y (Cond.code y bytes maxL ret :: W0) rm (va_Pc (.ref b :: As) (pc_ D tys t H.size wc)) (qi_ D cw q (va_A wc H.size)) mc ms (va_A wc H.size)) (cw0 : CallW R s args own C index y bytes maxL ret (Cond.code y bytes maxL ret :: W0) rm mc ms n) (hK : va_K D cls tys s) (hZ : st_ t A s s.heap) (hA : ∀ q : Nat, s.heap.size ≤ q → A q) (hP : va_P D cls ws H) (hD : va_D A ws) (hS : va_S A s.heap H locs) (isC isR : List Nat) (hC : isC.map (fun i => ws[i]?) = wc.map some) (hR : isR.map (fun i => ws[i]?) = wr.map some) (hn : va_nd isR = true) (hdis : ∀ i ∈ isR, i ∉ isC) (hnC : va_nd isC = true) (he : wc[0]? = some (b, .inr (ci, fs))) (hcl : cls[ci]? = some (C, T, N))
    (hst : st0 = As.reverse ++ .ref b :: rest) (hlen : As.length = n) (hsize : ls.size = nL) (hW : (rest.map fun v => v.category).sum ≤ 8) (hdg : decode cc pc = .ok (.invokevirtual index, 3)) (hf : cells + mc ≤ R.cells ∧ slots + ms ≤ R.slots)
    (kk : ∀ (r : Int32) (u : S) (H1 : Heap) (locs1 : List Loc), (r, u) = q → va_P D cls (wr ++ cw u) H1 → va_D A (wr ++ cw u) → va_S A s.heap H1 locs1 → W p l e R s m args below meth c H1 locs1 (cells + mc) (slots + ms) Q (F0 m (pc + 3) ls (.int r :: rest))) : W p l e R s m args below meth c H locs cells slots Q (F0 m pc ls st0) := by
  have hPc : va_P D cls wc H := hP.sub isC (fm_of hC)
  have hDc := hD.sub isC hnC hC
  have hFc := va_free (wc := wc) hD hS hA isC hC
  have hpre := pc_pre (av := .ref b :: As) hK hZ hS hPc hDc hFc
  refine va_calli (va_runV (As := As) (rest := rest) X hM cw0 ⟨hpre.1, va_recv hK hPc hcl he, hpre.2⟩ rfl hlen hsize hst (lv_room hW) hdg hf) hS (fun q _ h => hFc q h) hFc (fun r u t2 H1 locs1 ht hvm hw hB hz1 hk1 hS1 => ?_)
  obtain ⟨hP1, hD1⟩ := hB
  rw [ht] at hP1
  obtain ⟨hP2, hD2⟩ := va_join hP hD isC isR hC hR hn hdis hk1 hFc hP1 hD1
  exact kk r u H1 locs1 hw hP2 hD2 hS1
theorem cVr_ {q : Int32} (X : CallFix p m c cc nL s args W0 own) (hM : Met l y (Cond.code y bytes maxL ret :: W0) rm (va_Pc (.ref b :: As) (pc_ D tys t H.size wc)) (qr_ D wc q (va_A wc H.size)) mc ms (va_A wc H.size)) (cw0 : CallW R s args own C index y bytes maxL ret (Cond.code y bytes maxL ret :: W0) rm mc ms n) (hK : va_K D cls tys s) (hZ : st_ t A s s.heap) (hA : ∀ q : Nat, s.heap.size ≤ q → A q) (hP : va_P D cls ws H) (hD : va_D A ws) (hS : va_S A s.heap H locs) (isC isR : List Nat) (hC : isC.map (fun i => ws[i]?) = wc.map some) (hR : isR.map (fun i => ws[i]?) = wr.map some) (hn : va_nd isR = true) (hdis : ∀ i ∈ isR, i ∉ isC) (hnC : va_nd isC = true) (he : wc[0]? = some (b, .inr (ci, fs))) (hcl : cls[ci]? = some (C, T, N))
    (hst : st0 = As.reverse ++ .ref b :: rest) (hlen : As.length = n) (hsize : ls.size = nL) (hW : (rest.map fun v => v.category).sum ≤ 8) (hdg : decode cc pc = .ok (.invokevirtual index, 3)) (hf : cells + mc ≤ R.cells ∧ slots + ms ≤ R.slots)
    (kk : ∀ (r : Int32) (H1 : Heap) (locs1 : List Loc), r = q → va_P D cls (wr ++ wc) H1 → va_D A (wr ++ wc) → va_S A s.heap H1 locs1 → W p l e R s m args below meth c H1 locs1 (cells + mc) (slots + ms) Q (F0 m (pc + 3) ls (.int r :: rest))) : W p l e R s m args below meth c H locs cells slots Q (F0 m pc ls st0) := by
  have hPc : va_P D cls wc H := hP.sub isC (fm_of hC)
  have hDc := hD.sub isC hnC hC
  have hFc := va_free (wc := wc) hD hS hA isC hC
  have hpre := pc_pre (av := .ref b :: As) hK hZ hS hPc hDc hFc
  refine va_calli (va_runV (As := As) (rest := rest) X hM cw0 ⟨hpre.1, va_recv hK hPc hcl he, hpre.2⟩ rfl hlen hsize hst (lv_room hW) hdg hf) hS (fun q _ h => hFc q h) hFc (fun r u t2 H1 locs1 ht hvm hw hB hz1 hk1 hS1 => ?_)
  obtain ⟨hP1, hD1⟩ := hB
  rw [ht] at hP1
  obtain ⟨hP2, hD2⟩ := va_join hP hD isC isR hC hR hn hdis hk1 hFc hP1 hD1
  exact kk r H1 locs1 hw hP2 hD2 hS1
theorem cVv_ {S : Type} {cw : S → va_W} {q : S} (X : CallFix p m c cc nL s args W0 own) (hM : Met l y (Cond.code y bytes maxL ret :: W0) rm (va_Pc (.ref b :: As) (pc_ D tys t H.size wc)) (qv_ D cw q (va_A wc H.size)) mc ms (va_A wc H.size)) (cw0 : CallW R s args own C index y bytes maxL ret (Cond.code y bytes maxL ret :: W0) rm mc ms n) (hK : va_K D cls tys s) (hZ : st_ t A s s.heap) (hA : ∀ q : Nat, s.heap.size ≤ q → A q) (hP : va_P D cls ws H) (hD : va_D A ws) (hS : va_S A s.heap H locs) (isC isR : List Nat) (hC : isC.map (fun i => ws[i]?) = wc.map some) (hR : isR.map (fun i => ws[i]?) = wr.map some) (hn : va_nd isR = true) (hdis : ∀ i ∈ isR, i ∉ isC) (hnC : va_nd isC = true) (he : wc[0]? = some (b, .inr (ci, fs))) (hcl : cls[ci]? = some (C, T, N))
    (hst : st0 = As.reverse ++ .ref b :: rest) (hlen : As.length = n) (hsize : ls.size = nL) (hW : (rest.map fun v => v.category).sum ≤ 8) (hdg : decode cc pc = .ok (.invokevirtual index, 3)) (hf : cells + mc ≤ R.cells ∧ slots + ms ≤ R.slots)
    (kk : ∀ (u : S) (H1 : Heap) (locs1 : List Loc), u = q → va_P D cls (wr ++ cw u) H1 → va_D A (wr ++ cw u) → va_S A s.heap H1 locs1 → W p l e R s m args below meth c H1 locs1 (cells + mc) (slots + ms) Q (F0 m (pc + 3) ls rest)) : W p l e R s m args below meth c H locs cells slots Q (F0 m pc ls st0) := by
  have hPc : va_P D cls wc H := hP.sub isC (fm_of hC)
  have hDc := hD.sub isC hnC hC
  have hFc := va_free (wc := wc) hD hS hA isC hC
  have hpre := pc_pre (av := .ref b :: As) hK hZ hS hPc hDc hFc
  refine va_callv (va_runV (As := As) (rest := rest) X hM cw0 ⟨hpre.1, va_recv hK hPc hcl he, hpre.2⟩ rfl hlen hsize hst (lv_room hW) hdg hf) hS (fun q _ h => hFc q h) hFc (fun u t2 H1 locs1 ht hvm hw hB hz1 hk1 hS1 => ?_)
  obtain ⟨hP1, hD1⟩ := hB
  rw [ht] at hP1
  obtain ⟨hP2, hD2⟩ := va_join hP hD isC isR hC hR hn hdis hk1 hFc hP1 hD1
  exact kk u H1 locs1 hw hP2 hD2 hS1
/-- a static method without a world -/
theorem cSr_ {q : Int32} (X : CallFix p m c cc nL s args W0 own) (hM : Met l y (Cond.code y bytes maxL ret :: W0) rm (va_Pc As (pc_ D tys t H.size [])) (qr_ D [] q (va_A [] H.size)) mc ms (va_A [] H.size)) (cw0 : CallB R s args own index y bytes maxL ret (Cond.code y bytes maxL ret :: W0) rm mc ms n ∧ (Cond.static y).before args s = true) (hK : va_K D cls tys s) (hZ : st_ t A s s.heap) (hA : ∀ q : Nat, s.heap.size ≤ q → A q) (hP : va_P D cls ws H) (hD : va_D A ws) (hS : va_S A s.heap H locs) (isR : List Nat) (hR : isR.map (fun i => ws[i]?) = ws.map some) (hn : va_nd isR = true)
    (hst : st0 = As.reverse ++ rest) (hlen : As.length = n) (hsize : ls.size = nL) (hW : (rest.map fun v => v.category).sum ≤ 8) (hdg : decode cc pc = .ok (.invokestatic index, 3)) (hf : cells + mc ≤ R.cells ∧ slots + ms ≤ R.slots)
    (kk : ∀ (r : Int32) (H1 : Heap) (locs1 : List Loc), r = q → va_P D cls ws H1 → va_D A ws → va_S A s.heap H1 locs1 → W p l e R s m args below meth c H1 locs1 (cells + mc) (slots + ms) Q (F0 m (pc + 3) ls (.int r :: rest))) : W p l e R s m args below meth c H locs cells slots Q (F0 m pc ls st0) := by
  have hPc : va_P D cls [] H := hP.sub [] rfl
  have hDc : va_D A [] := hD.sub [] rfl rfl
  have hFc := va_free (wc := []) hD hS hA [] rfl
  have hpre := pc_pre (av := As) hK hZ hS hPc hDc hFc
  refine va_calli (va_runS (As := As) (rest := rest) X hM cw0 hpre rfl hlen hsize hst (lv_room hW) hdg hf) hS (fun q _ h => hFc q h) hFc (fun r u t2 H1 locs1 ht hvm hw hB hz1 hk1 hS1 => ?_)
  obtain ⟨hP1, hD1⟩ := hB
  rw [ht] at hP1
  obtain ⟨hP2, hD2⟩ := va_join (wr := ws) (w1 := []) hP hD [] isR rfl hR hn (fun i _ h => by cases h) hk1 hFc hP1 hD1
  rw [List.append_nil] at hP2 hD2
  exact kk r H1 locs1 hw hP2 hD2 hS1
end WK
end
section
abbrev RgT : Type := Int32 × Int32 × Int32 × (Nat → Int32)
abbrev cw_R (cA : ClassId) (a0 a_places : Nat) (u : RgT) : va_W := match u with
  | (v_limit, v_first, v_size, v_places) => [(a0, .inr (3, [.ref a_places, .int v_limit, .int v_first, .int v_size])), (a_places, .inl (cA, 32, .inl v_places))]
abbrev MdT : Type := Int32 × Int32 × Int32
abbrev cw_M (cA : ClassId) (a0 : Nat) (u : MdT) : va_W := match u with
  | (v_control, v_changes, v_given) => [(a0, .inr (1, [.int v_control, .int v_changes, .int v_given]))]
abbrev LgT : Type := Int32 × (Nat → Int32)
abbrev cw_S (cA : ClassId) (a0 a_latest : Nat) (u : LgT) : va_W := match u with
  | (v_size, v_latest) => [(a0, .inr (4, [.ref a_latest, .int v_size])), (a_latest, .inl (cA, 32, .inl v_latest))]
abbrev PtT : Type := Int32 × Int32 × Int32 × Int32 × Int32 × Int32 × Int32 × Int32 × Int32 × Int32 × Int32 × Int32 × RgT × RgT × MdT × LgT
abbrev cw_P (cA : ClassId) (a0 a_in a_in_places a_out a_out_places a_modem a_log a_log_latest : Nat) (u : PtT) : va_W := match u with
  | (v_queued, v_level, v_enabled, v_format, v_spare, v_low, v_high, v_overrun, v_vacated, v_quiet, v_shifting, v_ticksToGo, (v_in_limit, v_in_first, v_in_size, v_in_places), (v_out_limit, v_out_first, v_out_size, v_out_places), (v_modem_control, v_modem_changes, v_modem_given), (v_log_size, v_log_latest)) => [(a0, .inr (2, [.ref a_in, .ref a_out, .ref a_modem, .ref a_log, .int v_queued, .int v_level, .int v_enabled, .int v_format, .int v_spare, .int v_low, .int v_high, .int v_overrun, .int v_vacated, .int v_quiet, .int v_shifting, .int v_ticksToGo])), (a_in, .inr (3, [.ref a_in_places, .int v_in_limit, .int v_in_first, .int v_in_size])), (a_in_places, .inl (cA, 32, .inl v_in_places)), (a_out, .inr (3, [.ref a_out_places, .int v_out_limit, .int v_out_first, .int v_out_size])), (a_out_places, .inl (cA, 32, .inl v_out_places)), (a_modem, .inr (1, [.int v_modem_control, .int v_modem_changes, .int v_modem_given])), (a_log, .inr (4, [.ref a_log_latest, .int v_log_size])), (a_log_latest, .inl (cA, 32, .inl v_log_latest))]
abbrev DrT : Type := Int32 × Int32 × Int32 × Int32 × RgT × RgT × PtT
abbrev cw_D (cA : ClassId) (a0 a_forth a_forth_places a_back a_back_places a_port a_port_in a_port_in_places a_port_out a_port_out_places a_port_modem a_port_log a_port_log_latest : Nat) (u : DrT) : va_W := match u with
  | (v_held, v_asked, v_urgent, v_lostCount, (v_forth_limit, v_forth_first, v_forth_size, v_forth_places), (v_back_limit, v_back_first, v_back_size, v_back_places), (v_port_queued, v_port_level, v_port_enabled, v_port_format, v_port_spare, v_port_low, v_port_high, v_port_overrun, v_port_vacated, v_port_quiet, v_port_shifting, v_port_ticksToGo, (v_port_in_limit, v_port_in_first, v_port_in_size, v_port_in_places), (v_port_out_limit, v_port_out_first, v_port_out_size, v_port_out_places), (v_port_modem_control, v_port_modem_changes, v_port_modem_given), (v_port_log_size, v_port_log_latest))) => [(a0, .inr (0, [.ref a_forth, .ref a_back, .ref a_port, .int v_held, .int v_asked, .int v_urgent, .int v_lostCount])), (a_forth, .inr (3, [.ref a_forth_places, .int v_forth_limit, .int v_forth_first, .int v_forth_size])), (a_forth_places, .inl (cA, 32, .inl v_forth_places)), (a_back, .inr (3, [.ref a_back_places, .int v_back_limit, .int v_back_first, .int v_back_size])), (a_back_places, .inl (cA, 32, .inl v_back_places)), (a_port, .inr (2, [.ref a_port_in, .ref a_port_out, .ref a_port_modem, .ref a_port_log, .int v_port_queued, .int v_port_level, .int v_port_enabled, .int v_port_format, .int v_port_spare, .int v_port_low, .int v_port_high, .int v_port_overrun, .int v_port_vacated, .int v_port_quiet, .int v_port_shifting, .int v_port_ticksToGo])), (a_port_in, .inr (3, [.ref a_port_in_places, .int v_port_in_limit, .int v_port_in_first, .int v_port_in_size])), (a_port_in_places, .inl (cA, 32, .inl v_port_in_places)), (a_port_out, .inr (3, [.ref a_port_out_places, .int v_port_out_limit, .int v_port_out_first, .int v_port_out_size])), (a_port_out_places, .inl (cA, 32, .inl v_port_out_places)), (a_port_modem, .inr (1, [.int v_port_modem_control, .int v_port_modem_changes, .int v_port_modem_given])), (a_port_log, .inr (4, [.ref a_port_log_latest, .int v_port_log_size])), (a_port_log_latest, .inl (cA, 32, .inl v_port_log_latest))]
abbrev FlT : Type := DrT
abbrev cw_F (cA : ClassId) (a0 a_driver a_driver_forth a_driver_forth_places a_driver_back a_driver_back_places a_driver_port a_driver_port_in a_driver_port_in_places a_driver_port_out a_driver_port_out_places a_driver_port_modem a_driver_port_log a_driver_port_log_latest : Nat) (u : FlT) : va_W := match u with
  | (v_driver_held, v_driver_asked, v_driver_urgent, v_driver_lostCount, (v_driver_forth_limit, v_driver_forth_first, v_driver_forth_size, v_driver_forth_places), (v_driver_back_limit, v_driver_back_first, v_driver_back_size, v_driver_back_places), (v_driver_port_queued, v_driver_port_level, v_driver_port_enabled, v_driver_port_format, v_driver_port_spare, v_driver_port_low, v_driver_port_high, v_driver_port_overrun, v_driver_port_vacated, v_driver_port_quiet, v_driver_port_shifting, v_driver_port_ticksToGo, (v_driver_port_in_limit, v_driver_port_in_first, v_driver_port_in_size, v_driver_port_in_places), (v_driver_port_out_limit, v_driver_port_out_first, v_driver_port_out_size, v_driver_port_out_places), (v_driver_port_modem_control, v_driver_port_modem_changes, v_driver_port_modem_given), (v_driver_port_log_size, v_driver_port_log_latest))) => [(a0, .inr (5, [.ref a_driver_port, .ref a_driver])), (a_driver, .inr (0, [.ref a_driver_forth, .ref a_driver_back, .ref a_driver_port, .int v_driver_held, .int v_driver_asked, .int v_driver_urgent, .int v_driver_lostCount])), (a_driver_forth, .inr (3, [.ref a_driver_forth_places, .int v_driver_forth_limit, .int v_driver_forth_first, .int v_driver_forth_size])), (a_driver_forth_places, .inl (cA, 32, .inl v_driver_forth_places)), (a_driver_back, .inr (3, [.ref a_driver_back_places, .int v_driver_back_limit, .int v_driver_back_first, .int v_driver_back_size])), (a_driver_back_places, .inl (cA, 32, .inl v_driver_back_places)), (a_driver_port, .inr (2, [.ref a_driver_port_in, .ref a_driver_port_out, .ref a_driver_port_modem, .ref a_driver_port_log, .int v_driver_port_queued, .int v_driver_port_level, .int v_driver_port_enabled, .int v_driver_port_format, .int v_driver_port_spare, .int v_driver_port_low, .int v_driver_port_high, .int v_driver_port_overrun, .int v_driver_port_vacated, .int v_driver_port_quiet, .int v_driver_port_shifting, .int v_driver_port_ticksToGo])), (a_driver_port_in, .inr (3, [.ref a_driver_port_in_places, .int v_driver_port_in_limit, .int v_driver_port_in_first, .int v_driver_port_in_size])), (a_driver_port_in_places, .inl (cA, 32, .inl v_driver_port_in_places)), (a_driver_port_out, .inr (3, [.ref a_driver_port_out_places, .int v_driver_port_out_limit, .int v_driver_port_out_first, .int v_driver_port_out_size])), (a_driver_port_out_places, .inl (cA, 32, .inl v_driver_port_out_places)), (a_driver_port_modem, .inr (1, [.int v_driver_port_modem_control, .int v_driver_port_modem_changes, .int v_driver_port_modem_given])), (a_driver_port_log, .inr (4, [.ref a_driver_port_log_latest, .int v_driver_port_log_size])), (a_driver_port_log_latest, .inl (cA, 32, .inl v_driver_port_log_latest))]
abbrev TwT : Type := Int32 × Int32 × Int32 × Int32 × Int32 × Int32 × Int32 × Int32 × Int32 × Int32 × Int32 × Int32 × Int32 × Int32 × Int32 × Int32 × Int32 × Int32 × Int32 × Int32 × Int32 × (Nat → Int32) × (Nat → Int32) × (Nat → Int32) × (Nat → Int32)
abbrev cw_T (cA : ClassId) (a0 a_rows a_sizes a_faults a_last : Nat) (u : TwT) : va_W := match u with
  | (v_ticks, v_due, v_sending, v_heard, v_level, v_enabled, v_format, v_control, v_spare, v_low, v_high, v_overrun, v_vacated, v_queued, v_given, v_changes, v_total, v_held, v_asked, v_urgent, v_lost, v_rows, v_sizes, v_faults, v_last) => [(a0, .inr (6, [.ref a_rows, .ref a_sizes, .ref a_faults, .int v_ticks, .int v_due, .int v_sending, .int v_heard, .int v_level, .int v_enabled, .int v_format, .int v_control, .int v_spare, .int v_low, .int v_high, .int v_overrun, .int v_vacated, .int v_queued, .int v_given, .int v_changes, .int v_total, .ref a_last, .int v_held, .int v_asked, .int v_urgent, .int v_lost])), (a_rows, .inl (cA, 96, .inl v_rows)), (a_sizes, .inl (cA, 4, .inl v_sizes)), (a_faults, .inl (cA, 16, .inl v_faults)), (a_last, .inl (cA, 32, .inl v_last))]
end
section
def f_R_isFull_16 : RgT → Int32 → Option (Int32)
  | (v_limit, v_first, v_size, v_places), s_1 => gb_ s_1 (some s_1)
def f_R_isFull : RgT → Option (Int32)
  | (v_limit, v_first, v_size, v_places) => if v_size < v_limit then (f_R_isFull_16 (v_limit, v_first, v_size, v_places) 0) else (f_R_isFull_16 (v_limit, v_first, v_size, v_places) 1)
set_option maxHeartbeats 8000000 in
set_option maxRecDepth 100000 in
theorem c_R_isFull (l : Launch) (dC : Nat → ClassId) (dI : Nat → Nat → Nat) (cA : ClassId) (t : Nat) (a0 a_places : Nat) (sz : Nat) (u : RgT) (q : Int32) (hf : f_R_isFull u = some q) : Met l y_R_isFull (Cond.code y_R_isFull b_R_isFull 1 (some .boolean) :: W0) ({ frames := 0, cells := 0, slots := 0, locals := 0 }) (va_Pc [.ref a0] (pc_ (dC, dI) [(cA, .int)] t sz (cw_R cA a0 a_places u))) (qr_ (dC, dI) (cw_R cA a0 a_places u) q (va_A (cw_R cA a0 a_places u) sz)) 0 0 (va_A (cw_R cA a0 a_places u) sz) := by
  obtain ⟨v_limit, v_first, v_size, v_places⟩ := u
  refine start_ l (qr_ (dC, dI) _ q) (by decide) (Nat.le_of_ble_eq_true rfl) ?_
  intro p e s m below meth c hx hb hml hr hown ht hlocks hnm A hA hS hP hK hD hZ ls hl
  have hown : s.vm.findClass cls_R = some m.cls := hown
  refine wabs_ (fun WW wi wo => ?_)
  have k_16 : ∀ (s_1 : Int32), f_R_isFull_16 (v_limit, v_first, v_size, v_places) s_1 = some q → ∀ (H : Heap) (locs : List Loc) (ls : Array Slot), va_P (dC, dI) cls [(a0, .inr (3, [.ref a_places, .int v_limit, .int v_first, .int v_size])), (a_places, .inl (cA, 32, .inl v_places))] H → va_D A [(a0, .inr (3, [.ref a_places, .int v_limit, .int v_first, .int v_size])), (a_places, .inl (cA, 32, .inl v_places))] → va_S A s.heap H locs → lv_has ls 1 [] → WW H locs (F0 m 16 ls [.int s_1]) := by
    intro s_1 hf H locs ls hP hD hS hl
    unfold f_R_isFull_16 at hf
    try dsimp only at hf
    have hP : va_P (dC, dI) cls [(a0, .inr (3, [.ref a_places, .int v_limit, .int v_first, .int v_size])), (a_places, .inl (cA, 32, .inl v_places))] _ := hP
    have hD : va_D A [(a0, .inr (3, [.ref a_places, .int v_limit, .int v_first, .int v_size])), (a_places, .inl (cA, 32, .inl v_places))] := hD
    refine wi _ _ _ ?_
    obtain ⟨hb_16, hf⟩ := gb_e hf
    exact W.zret hx hb hr hb_16.1 (fun t9 ht9 _ => rr_ (Option.some.inj hf) hP hD hS ht9) hS.2.2 d_R_isFull_16
  unfold f_R_isFull at hf
  try dsimp only at hf
  have hP : va_P (dC, dI) cls [(a0, .inr (3, [.ref a_places, .int v_limit, .int v_first, .int v_size])), (a_places, .inl (cA, 32, .inl v_places))] _ := hP
  have hD : va_D A [(a0, .inr (3, [.ref a_places, .int v_limit, .int v_first, .int v_size])), (a_places, .inl (cA, 32, .inl v_places))] := hD
  refine wi _ _ _ ?_
  have hl : lv_has ls 1 [(0, .ref a0)] := hl
  refine lv_aload_n hx hb d_R_isFull_0 rfl (lv_at hl 0 rfl) ?_
  refine va_get (D := (dC, dI)) (ci := 3) (v := .int v_size) (C := cls_R) (T := fld_R) (N := 4) hx hb ht iin_R hown hK hP 0 rfl rfl 3 (by decide) (ht _ k_R_17) (fun _ h9 => h9) rfl d_R_isFull_1 ?_
  refine lv_aload_n hx hb d_R_isFull_4 rfl (lv_at hl 0 rfl) ?_
  refine va_get (D := (dC, dI)) (ci := 3) (v := .int v_limit) (C := cls_R) (T := fld_R) (N := 4) hx hb ht iin_R hown hK hP 0 rfl rfl 1 (by decide) (ht _ k_R_13) (fun _ h9 => h9) rfl d_R_isFull_5 ?_
  refine lv_icmp_lt (tgt := 15) hx hb d_R_isFull_8 (by decide) (fun c_8 => ?_) (fun c_8 => ?_)
  · have hf := ite_t hf c_8
    refine lv_iconst (v := 0) hx hb d_R_isFull_15 (by decide) ?_
    exact wo _ _ _ (k_16 0 hf _ _ _ hP hD hS (lv_sub hl [] rfl))
  · have hf := ite_f hf c_8
    refine lv_iconst (v := 1) hx hb d_R_isFull_11 (by decide) ?_
    refine lv_goto (tgt := 16) hx hb d_R_isFull_12 (by decide) ?_
    exact wo _ _ _ (k_16 1 hf _ _ _ hP hD hS (lv_sub hl [] rfl))
def f_R_clear : RgT → Option (RgT)
  | (v_limit, v_first, v_size, v_places) => some (v_limit, v_first, 0, v_places)
set_option maxHeartbeats 8000000 in
set_option maxRecDepth 100000 in
theorem c_R_clear (l : Launch) (dC : Nat → ClassId) (dI : Nat → Nat → Nat) (cA : ClassId) (t : Nat) (a0 a_places : Nat) (sz : Nat) (u : RgT) (q : RgT) (hf : f_R_clear u = some q) : Met l y_R_clear (Cond.code y_R_clear b_R_clear 1 none :: W0) ({ frames := 0, cells := 0, slots := 0, locals := 0 }) (va_Pc [.ref a0] (pc_ (dC, dI) [(cA, .int)] t sz (cw_R cA a0 a_places u))) (qv_ (dC, dI) (cw_R cA a0 a_places) q (va_A (cw_R cA a0 a_places u) sz)) 0 0 (va_A (cw_R cA a0 a_places u) sz) := by
  refine start_ l (qv_ (dC, dI) (cw_R cA a0 a_places) q) (by decide) (Nat.le_of_ble_eq_true rfl) ?_
  intro p e s m below meth c hx hb hml hr hown ht hlocks hnm A hA hS hP hK hD hZ ls hl
  have hown : s.vm.findClass cls_R = some m.cls := hown
  refine wabs_ (fun WW wi wo => ?_)
  obtain ⟨v_limit, v_first, v_size, v_places⟩ := u
  unfold f_R_clear at hf
  try dsimp only at hf
  have hP : va_P (dC, dI) cls [(a0, .inr (3, [.ref a_places, .int v_limit, .int v_first, .int v_size])), (a_places, .inl (cA, 32, .inl v_places))] _ := hP
  have hD : va_D A [(a0, .inr (3, [.ref a_places, .int v_limit, .int v_first, .int v_size])), (a_places, .inl (cA, 32, .inl v_places))] := hD
  refine wi _ _ _ ?_
  have hl : lv_has ls 1 [(0, .ref a0)] := hl
  refine lv_aload_n hx hb d_R_clear_0 rfl (lv_at hl 0 rfl) ?_
  refine lv_iconst (v := 0) hx hb d_R_clear_1 (by decide) ?_
  refine va_put (D := (dC, dI)) (ci := 3) (v := .int 0) (ty := .int) (C := cls_R) (T := fld_R) (N := 4) hx hb ht iin_R typ_R tok_R nam_R hown hK hP hD hS 0 rfl rfl 3 (by decide) (ht _ k_R_17) (fun _ h9 => h9) rfl (tok_R 3 (by decide)) rfl rfl (Nat.le_of_ble_eq_true rfl) d_R_clear_2 (fun H locs hP hD hS => ?_)
  have hP : va_P (dC, dI) cls [(a0, .inr (3, [.ref a_places, .int v_limit, .int v_first, .int 0])), (a_places, .inl (cA, 32, .inl v_places))] _ := hP
  have hD : va_D A [(a0, .inr (3, [.ref a_places, .int v_limit, .int v_first, .int 0])), (a_places, .inl (cA, 32, .inl v_places))] := hD
  exact W.vret hx hb hr (fun t9 ht9 _ => rv_ (Option.some.inj hf) hP hD hS ht9) hS.2.2 d_R_clear_5
def f_R_append_39 : RgT → Option (RgT)
  | (v_limit, v_first, v_size, v_places) => some (v_limit, v_first, v_size, v_places)
def f_R_append : RgT → Int32 → Option (RgT)
  | (v_limit, v_first, v_size, v_places), p_1 => if v_limit ≤ v_size then (f_R_append_39 (v_limit, v_first, v_size, v_places)) else (gi_ ((v_first + v_size) &&& 31) 32 (f_R_append_39 (v_limit, v_first, (v_size + 1), (upd v_places ((v_first + v_size) &&& 31).toNatClampNeg p_1))))
set_option maxHeartbeats 8000000 in
set_option maxRecDepth 100000 in
theorem c_R_append (l : Launch) (dC : Nat → ClassId) (dI : Nat → Nat → Nat) (cA : ClassId) (t : Nat) (a0 a_places : Nat) (sz : Nat) (u : RgT) (p_1 : Int32) (q : RgT) (hf : f_R_append u p_1 = some q) : Met l y_R_append (Cond.code y_R_append b_R_append 2 none :: W0) ({ frames := 0, cells := 0, slots := 0, locals := 0 }) (va_Pc [.ref a0, .int p_1] (pc_ (dC, dI) [(cA, .int)] t sz (cw_R cA a0 a_places u))) (qv_ (dC, dI) (cw_R cA a0 a_places) q (va_A (cw_R cA a0 a_places u) sz)) 0 0 (va_A (cw_R cA a0 a_places u) sz) := by
  refine start_ l (qv_ (dC, dI) (cw_R cA a0 a_places) q) (by decide) (Nat.le_of_ble_eq_true rfl) ?_
  intro p e s m below meth c hx hb hml hr hown ht hlocks hnm A hA hS hP hK hD hZ ls hl
  have hown : s.vm.findClass cls_R = some m.cls := hown
  refine wabs_ (fun WW wi wo => ?_)
  have k_39 : ∀ (u : RgT), f_R_append_39 u = some q → ∀ (H : Heap) (locs : List Loc) (ls : Array Slot), va_P (dC, dI) cls (cw_R cA a0 a_places u) H → va_D A (cw_R cA a0 a_places u) → va_S A s.heap H locs → lv_has ls 2 [] → WW H locs (F0 m 39 ls []) := by
    intro u hf H locs ls hP hD hS hl
    obtain ⟨v_limit, v_first, v_size, v_places⟩ := u
    unfold f_R_append_39 at hf
    try dsimp only at hf
    have hP : va_P (dC, dI) cls [(a0, .inr (3, [.ref a_places, .int v_limit, .int v_first, .int v_size])), (a_places, .inl (cA, 32, .inl v_places))] _ := hP
    have hD : va_D A [(a0, .inr (3, [.ref a_places, .int v_limit, .int v_first, .int v_size])), (a_places, .inl (cA, 32, .inl v_places))] := hD
    refine wi _ _ _ ?_
    exact W.vret hx hb hr (fun t9 ht9 _ => rv_ (Option.some.inj hf) hP hD hS ht9) hS.2.2 d_R_append_39
  obtain ⟨v_limit, v_first, v_size, v_places⟩ := u
  unfold f_R_append at hf
  try dsimp only at hf
  have hP : va_P (dC, dI) cls [(a0, .inr (3, [.ref a_places, .int v_limit, .int v_first, .int v_size])), (a_places, .inl (cA, 32, .inl v_places))] _ := hP
  have hD : va_D A [(a0, .inr (3, [.ref a_places, .int v_limit, .int v_first, .int v_size])), (a_places, .inl (cA, 32, .inl v_places))] := hD
  refine wi _ _ _ ?_
  have hl : lv_has ls 2 [(0, .ref a0), (1, .int p_1)] := hl
  refine lv_aload_n hx hb d_R_append_0 rfl (lv_at hl 0 rfl) ?_
  refine va_get (D := (dC, dI)) (ci := 3) (v := .int v_size) (C := cls_R) (T := fld_R) (N := 4) hx hb ht iin_R hown hK hP 0 rfl rfl 3 (by decide) (ht _ k_R_17) (fun _ h9 => h9) rfl d_R_append_1 ?_
  refine lv_aload_n hx hb d_R_append_4 rfl (lv_at hl 0 rfl) ?_
  refine va_get (D := (dC, dI)) (ci := 3) (v := .int v_limit) (C := cls_R) (T := fld_R) (N := 4) hx hb ht iin_R hown hK hP 0 rfl rfl 1 (by decide) (ht _ k_R_13) (fun _ h9 => h9) rfl d_R_append_5 ?_
  refine lv_icmp_ge (tgt := 39) hx hb d_R_append_8 (by decide) (fun c_8 => ?_) (fun c_8 => ?_)
  · have hf := ite_t hf c_8
    exact wo _ _ _ (k_39 (v_limit, v_first, v_size, v_places) hf _ _ _ hP hD hS (lv_sub hl [] rfl))
  · have hf := ite_f hf c_8
    refine lv_aload_n hx hb d_R_append_11 rfl (lv_at hl 0 rfl) ?_
    refine va_get (D := (dC, dI)) (ci := 3) (v := .ref a_places) (C := cls_R) (T := fld_R) (N := 4) hx hb ht iin_R hown hK hP 0 rfl rfl 0 (by decide) (ht _ k_R_9) (fun _ h9 => h9) rfl d_R_append_12 ?_
    refine lv_aload_n hx hb d_R_append_15 rfl (lv_at hl 0 rfl) ?_
    refine va_get (D := (dC, dI)) (ci := 3) (v := .int v_first) (C := cls_R) (T := fld_R) (N := 4) hx hb ht iin_R hown hK hP 0 rfl rfl 2 (by decide) (ht _ k_R_20) (fun _ h9 => h9) rfl d_R_append_16 ?_
    refine lv_aload_n hx hb d_R_append_19 rfl (lv_at hl 0 rfl) ?_
    refine va_get (D := (dC, dI)) (ci := 3) (v := .int v_size) (C := cls_R) (T := fld_R) (N := 4) hx hb ht iin_R hown hK hP 0 rfl rfl 3 (by decide) (ht _ k_R_17) (fun _ h9 => h9) rfl d_R_append_20 ?_
    refine lv_iadd hx hb d_R_append_23 ?_
    refine lv_bipush (v := 31) hx hb d_R_append_24 (by decide) ?_
    refine lv_iand hx hb d_R_append_26 ?_
    refine lv_iload_n hx hb d_R_append_27 rfl (lv_at hl 1 rfl) ?_
    obtain ⟨hi_28, hf⟩ := gi_e hf
    refine va_iast hx hb hK hP hD hS 1 0 rfl rfl hi_28 d_R_append_28 (fun H locs hP hD hS => ?_)
    have hP : va_P (dC, dI) cls [(a0, .inr (3, [.ref a_places, .int v_limit, .int v_first, .int v_size])), (a_places, .inl (cA, 32, .inl (upd v_places ((v_first + v_size) &&& 31).toNatClampNeg p_1)))] _ := hP
    have hD : va_D A [(a0, .inr (3, [.ref a_places, .int v_limit, .int v_first, .int v_size])), (a_places, .inl (cA, 32, .inl (upd v_places ((v_first + v_size) &&& 31).toNatClampNeg p_1)))] := hD
    refine lv_aload_n hx hb d_R_append_29 rfl (lv_at hl 0 rfl) ?_
    refine lv_dup hx hb d_R_append_30 rfl ?_
    refine va_get (D := (dC, dI)) (ci := 3) (v := .int v_size) (C := cls_R) (T := fld_R) (N := 4) hx hb ht iin_R hown hK hP 0 rfl rfl 3 (by decide) (ht _ k_R_17) (fun _ h9 => h9) rfl d_R_append_31 ?_
    refine lv_iconst (v := 1) hx hb d_R_append_34 (by decide) ?_
    refine lv_iadd hx hb d_R_append_35 ?_
    refine va_put (D := (dC, dI)) (ci := 3) (v := .int (v_size + 1)) (ty := .int) (C := cls_R) (T := fld_R) (N := 4) hx hb ht iin_R typ_R tok_R nam_R hown hK hP hD hS 0 rfl rfl 3 (by decide) (ht _ k_R_17) (fun _ h9 => h9) rfl (tok_R 3 (by decide)) rfl rfl (Nat.le_of_ble_eq_true rfl) d_R_append_36 (fun H locs hP hD hS => ?_)
    have hP : va_P (dC, dI) cls [(a0, .inr (3, [.ref a_places, .int v_limit, .int v_first, .int (v_size + 1)])), (a_places, .inl (cA, 32, .inl (upd v_places ((v_first + v_size) &&& 31).toNatClampNeg p_1)))] _ := hP
    have hD : va_D A [(a0, .inr (3, [.ref a_places, .int v_limit, .int v_first, .int (v_size + 1)])), (a_places, .inl (cA, 32, .inl (upd v_places ((v_first + v_size) &&& 31).toNatClampNeg p_1)))] := hD
    exact wo _ _ _ (k_39 (v_limit, v_first, (v_size + 1), (upd v_places ((v_first + v_size) &&& 31).toNatClampNeg p_1)) hf _ _ _ hP hD hS (lv_sub hl [] rfl))
def f_R_oldest_23 : RgT → Int32 → Option (Int32)
  | (v_limit, v_first, v_size, v_places), s_1 => some s_1
def f_R_oldest : RgT → Option (Int32)
  | (v_limit, v_first, v_size, v_places) => if v_size ≤ 0 then (f_R_oldest_23 (v_limit, v_first, v_size, v_places) 0) else (gi_ (v_first &&& 31) 32 (f_R_oldest_23 (v_limit, v_first, v_size, v_places) (v_places (v_first &&& 31).toNatClampNeg)))
set_option maxHeartbeats 8000000 in
set_option maxRecDepth 100000 in
theorem c_R_oldest (l : Launch) (dC : Nat → ClassId) (dI : Nat → Nat → Nat) (cA : ClassId) (t : Nat) (a0 a_places : Nat) (sz : Nat) (u : RgT) (q : Int32) (hf : f_R_oldest u = some q) : Met l y_R_oldest (Cond.code y_R_oldest b_R_oldest 1 (some .int) :: W0) ({ frames := 0, cells := 0, slots := 0, locals := 0 }) (va_Pc [.ref a0] (pc_ (dC, dI) [(cA, .int)] t sz (cw_R cA a0 a_places u))) (qr_ (dC, dI) (cw_R cA a0 a_places u) q (va_A (cw_R cA a0 a_places u) sz)) 0 0 (va_A (cw_R cA a0 a_places u) sz) := by
  obtain ⟨v_limit, v_first, v_size, v_places⟩ := u
  refine start_ l (qr_ (dC, dI) _ q) (by decide) (Nat.le_of_ble_eq_true rfl) ?_
  intro p e s m below meth c hx hb hml hr hown ht hlocks hnm A hA hS hP hK hD hZ ls hl
  have hown : s.vm.findClass cls_R = some m.cls := hown
  refine wabs_ (fun WW wi wo => ?_)
  have k_23 : ∀ (s_1 : Int32), f_R_oldest_23 (v_limit, v_first, v_size, v_places) s_1 = some q → ∀ (H : Heap) (locs : List Loc) (ls : Array Slot), va_P (dC, dI) cls [(a0, .inr (3, [.ref a_places, .int v_limit, .int v_first, .int v_size])), (a_places, .inl (cA, 32, .inl v_places))] H → va_D A [(a0, .inr (3, [.ref a_places, .int v_limit, .int v_first, .int v_size])), (a_places, .inl (cA, 32, .inl v_places))] → va_S A s.heap H locs → lv_has ls 1 [] → WW H locs (F0 m 23 ls [.int s_1]) := by
    intro s_1 hf H locs ls hP hD hS hl
    unfold f_R_oldest_23 at hf
    try dsimp only at hf
    have hP : va_P (dC, dI) cls [(a0, .inr (3, [.ref a_places, .int v_limit, .int v_first, .int v_size])), (a_places, .inl (cA, 32, .inl v_places))] _ := hP
    have hD : va_D A [(a0, .inr (3, [.ref a_places, .int v_limit, .int v_first, .int v_size])), (a_places, .inl (cA, 32, .inl v_places))] := hD
    refine wi _ _ _ ?_
    exact W.iret hx hb hr (fun t9 ht9 _ => rr_ (Option.some.inj hf) hP hD hS ht9) hS.2.2 d_R_oldest_23
  unfold f_R_oldest at hf
  try dsimp only at hf
  have hP : va_P (dC, dI) cls [(a0, .inr (3, [.ref a_places, .int v_limit, .int v_first, .int v_size])), (a_places, .inl (cA, 32, .inl v_places))] _ := hP
  have hD : va_D A [(a0, .inr (3, [.ref a_places, .int v_limit, .int v_first, .int v_size])), (a_places, .inl (cA, 32, .inl v_places))] := hD
  refine wi _ _ _ ?_
  have hl : lv_has ls 1 [(0, .ref a0)] := hl
  refine lv_aload_n hx hb d_R_oldest_0 rfl (lv_at hl 0 rfl) ?_
  refine va_get (D := (dC, dI)) (ci := 3) (v := .int v_size) (C := cls_R) (T := fld_R) (N := 4) hx hb ht iin_R hown hK hP 0 rfl rfl 3 (by decide) (ht _ k_R_17) (fun _ h9 => h9) rfl d_R_oldest_1 ?_
  refine lv_if_le (tgt := 22) hx hb d_R_oldest_4 (by decide) (fun c_4 => ?_) (fun c_4 => ?_)
  · have hf := ite_t hf c_4
    refine lv_iconst (v := 0) hx hb d_R_oldest_22 (by decide) ?_
    exact wo _ _ _ (k_23 0 hf _ _ _ hP hD hS (lv_sub hl [] rfl))
  · have hf := ite_f hf c_4
    refine lv_aload_n hx hb d_R_oldest_7 rfl (lv_at hl 0 rfl) ?_
    refine va_get (D := (dC, dI)) (ci := 3) (v := .ref a_places) (C := cls_R) (T := fld_R) (N := 4) hx hb ht iin_R hown hK hP 0 rfl rfl 0 (by decide) (ht _ k_R_9) (fun _ h9 => h9) rfl d_R_oldest_8 ?_
    refine lv_aload_n hx hb d_R_oldest_11 rfl (lv_at hl 0 rfl) ?_
    refine va_get (D := (dC, dI)) (ci := 3) (v := .int v_first) (C := cls_R) (T := fld_R) (N := 4) hx hb ht iin_R hown hK hP 0 rfl rfl 2 (by decide) (ht _ k_R_20) (fun _ h9 => h9) rfl d_R_oldest_12 ?_
    refine lv_bipush (v := 31) hx hb d_R_oldest_15 (by decide) ?_
    refine lv_iand hx hb d_R_oldest_17 ?_
    obtain ⟨hi_18, hf⟩ := gi_e hf
    refine va_iald hx hb hK hP 1 0 rfl rfl hi_18 d_R_oldest_18 ?_
    refine lv_goto (tgt := 23) hx hb d_R_oldest_19 (by decide) ?_
    exact wo _ _ _ (k_23 (v_places (v_first &&& 31).toNatClampNeg) hf _ _ _ hP hD hS (lv_sub hl [] rfl))
def f_R_replaceOldest_20 : RgT → Option (RgT)
  | (v_limit, v_first, v_size, v_places) => some (v_limit, v_first, v_size, v_places)
def f_R_replaceOldest : RgT → Int32 → Option (RgT)
  | (v_limit, v_first, v_size, v_places), p_1 => if v_size ≤ 0 then (f_R_replaceOldest_20 (v_limit, v_first, v_size, v_places)) else (gi_ (v_first &&& 31) 32 (f_R_replaceOldest_20 (v_limit, v_first, v_size, (upd v_places (v_first &&& 31).toNatClampNeg p_1))))
set_option maxHeartbeats 8000000 in
set_option maxRecDepth 100000 in
theorem c_R_replaceOldest (l : Launch) (dC : Nat → ClassId) (dI : Nat → Nat → Nat) (cA : ClassId) (t : Nat) (a0 a_places : Nat) (sz : Nat) (u : RgT) (p_1 : Int32) (q : RgT) (hf : f_R_replaceOldest u p_1 = some q) : Met l y_R_replaceOldest (Cond.code y_R_replaceOldest b_R_replaceOldest 2 none :: W0) ({ frames := 0, cells := 0, slots := 0, locals := 0 }) (va_Pc [.ref a0, .int p_1] (pc_ (dC, dI) [(cA, .int)] t sz (cw_R cA a0 a_places u))) (qv_ (dC, dI) (cw_R cA a0 a_places) q (va_A (cw_R cA a0 a_places u) sz)) 0 0 (va_A (cw_R cA a0 a_places u) sz) := by
  refine start_ l (qv_ (dC, dI) (cw_R cA a0 a_places) q) (by decide) (Nat.le_of_ble_eq_true rfl) ?_
  intro p e s m below meth c hx hb hml hr hown ht hlocks hnm A hA hS hP hK hD hZ ls hl
  have hown : s.vm.findClass cls_R = some m.cls := hown
  refine wabs_ (fun WW wi wo => ?_)
  have k_20 : ∀ (u : RgT), f_R_replaceOldest_20 u = some q → ∀ (H : Heap) (locs : List Loc) (ls : Array Slot), va_P (dC, dI) cls (cw_R cA a0 a_places u) H → va_D A (cw_R cA a0 a_places u) → va_S A s.heap H locs → lv_has ls 2 [] → WW H locs (F0 m 20 ls []) := by
    intro u hf H locs ls hP hD hS hl
    obtain ⟨v_limit, v_first, v_size, v_places⟩ := u
    unfold f_R_replaceOldest_20 at hf
    try dsimp only at hf
    have hP : va_P (dC, dI) cls [(a0, .inr (3, [.ref a_places, .int v_limit, .int v_first, .int v_size])), (a_places, .inl (cA, 32, .inl v_places))] _ := hP
    have hD : va_D A [(a0, .inr (3, [.ref a_places, .int v_limit, .int v_first, .int v_size])), (a_places, .inl (cA, 32, .inl v_places))] := hD
    refine wi _ _ _ ?_
    exact W.vret hx hb hr (fun t9 ht9 _ => rv_ (Option.some.inj hf) hP hD hS ht9) hS.2.2 d_R_replaceOldest_20
  obtain ⟨v_limit, v_first, v_size, v_places⟩ := u
  unfold f_R_replaceOldest at hf
  try dsimp only at hf
  have hP : va_P (dC, dI) cls [(a0, .inr (3, [.ref a_places, .int v_limit, .int v_first, .int v_size])), (a_places, .inl (cA, 32, .inl v_places))] _ := hP
  have hD : va_D A [(a0, .inr (3, [.ref a_places, .int v_limit, .int v_first, .int v_size])), (a_places, .inl (cA, 32, .inl v_places))] := hD
  refine wi _ _ _ ?_
  have hl : lv_has ls 2 [(0, .ref a0), (1, .int p_1)] := hl
  refine lv_aload_n hx hb d_R_replaceOldest_0 rfl (lv_at hl 0 rfl) ?_
  refine va_get (D := (dC, dI)) (ci := 3) (v := .int v_size) (C := cls_R) (T := fld_R) (N := 4) hx hb ht iin_R hown hK hP 0 rfl rfl 3 (by decide) (ht _ k_R_17) (fun _ h9 => h9) rfl d_R_replaceOldest_1 ?_
  refine lv_if_le (tgt := 20) hx hb d_R_replaceOldest_4 (by decide) (fun c_4 => ?_) (fun c_4 => ?_)
  · have hf := ite_t hf c_4
    exact wo _ _ _ (k_20 (v_limit, v_first, v_size, v_places) hf _ _ _ hP hD hS (lv_sub hl [] rfl))
  · have hf := ite_f hf c_4
    refine lv_aload_n hx hb d_R_replaceOldest_7 rfl (lv_at hl 0 rfl) ?_
    refine va_get (D := (dC, dI)) (ci := 3) (v := .ref a_places) (C := cls_R) (T := fld_R) (N := 4) hx hb ht iin_R hown hK hP 0 rfl rfl 0 (by decide) (ht _ k_R_9) (fun _ h9 => h9) rfl d_R_replaceOldest_8 ?_
    refine lv_aload_n hx hb d_R_replaceOldest_11 rfl (lv_at hl 0 rfl) ?_
    refine va_get (D := (dC, dI)) (ci := 3) (v := .int v_first) (C := cls_R) (T := fld_R) (N := 4) hx hb ht iin_R hown hK hP 0 rfl rfl 2 (by decide) (ht _ k_R_20) (fun _ h9 => h9) rfl d_R_replaceOldest_12 ?_
    refine lv_bipush (v := 31) hx hb d_R_replaceOldest_15 (by decide) ?_
    refine lv_iand hx hb d_R_replaceOldest_17 ?_
    refine lv_iload_n hx hb d_R_replaceOldest_18 rfl (lv_at hl 1 rfl) ?_
    obtain ⟨hi_19, hf⟩ := gi_e hf
    refine va_iast hx hb hK hP hD hS 1 0 rfl rfl hi_19 d_R_replaceOldest_19 (fun H locs hP hD hS => ?_)
    have hP : va_P (dC, dI) cls [(a0, .inr (3, [.ref a_places, .int v_limit, .int v_first, .int v_size])), (a_places, .inl (cA, 32, .inl (upd v_places (v_first &&& 31).toNatClampNeg p_1)))] _ := hP
    have hD : va_D A [(a0, .inr (3, [.ref a_places, .int v_limit, .int v_first, .int v_size])), (a_places, .inl (cA, 32, .inl (upd v_places (v_first &&& 31).toNatClampNeg p_1)))] := hD
    exact wo _ _ _ (k_20 (v_limit, v_first, v_size, (upd v_places (v_first &&& 31).toNatClampNeg p_1)) hf _ _ _ hP hD hS (lv_sub hl [] rfl))
def f_R_removeOldest : RgT → Option (Int32 × RgT)
  | (v_limit, v_first, v_size, v_places) => if v_size = 0 then (some (0, (v_limit, v_first, v_size, v_places))) else (gi_ (v_first &&& 31) 32 (some ((v_places (v_first &&& 31).toNatClampNeg), (v_limit, ((v_first + 1) &&& 31), (v_size - 1), v_places))))
set_option maxHeartbeats 8000000 in
set_option maxRecDepth 100000 in
theorem c_R_removeOldest (l : Launch) (dC : Nat → ClassId) (dI : Nat → Nat → Nat) (cA : ClassId) (t : Nat) (a0 a_places : Nat) (sz : Nat) (u : RgT) (q : Int32 × RgT) (hf : f_R_removeOldest u = some q) : Met l y_R_removeOldest (Cond.code y_R_removeOldest b_R_removeOldest 2 (some .int) :: W0) ({ frames := 0, cells := 0, slots := 0, locals := 0 }) (va_Pc [.ref a0] (pc_ (dC, dI) [(cA, .int)] t sz (cw_R cA a0 a_places u))) (qi_ (dC, dI) (cw_R cA a0 a_places) q (va_A (cw_R cA a0 a_places u) sz)) 0 0 (va_A (cw_R cA a0 a_places u) sz) := by
  refine start_ l (qi_ (dC, dI) (cw_R cA a0 a_places) q) (by decide) (Nat.le_of_ble_eq_true rfl) ?_
  intro p e s m below meth c hx hb hml hr hown ht hlocks hnm A hA hS hP hK hD hZ ls hl
  have hown : s.vm.findClass cls_R = some m.cls := hown
  refine wabs_ (fun WW wi wo => ?_)
  obtain ⟨v_limit, v_first, v_size, v_places⟩ := u
  unfold f_R_removeOldest at hf
  try dsimp only at hf
  have hP : va_P (dC, dI) cls [(a0, .inr (3, [.ref a_places, .int v_limit, .int v_first, .int v_size])), (a_places, .inl (cA, 32, .inl v_places))] _ := hP
  have hD : va_D A [(a0, .inr (3, [.ref a_places, .int v_limit, .int v_first, .int v_size])), (a_places, .inl (cA, 32, .inl v_places))] := hD
  refine wi _ _ _ ?_
  have hl : lv_has ls 2 [(0, .ref a0)] := hl
  refine lv_aload_n hx hb d_R_removeOldest_0 rfl (lv_at hl 0 rfl) ?_
  refine va_get (D := (dC, dI)) (ci := 3) (v := .int v_size) (C := cls_R) (T := fld_R) (N := 4) hx hb ht iin_R hown hK hP 0 rfl rfl 3 (by decide) (ht _ k_R_17) (fun _ h9 => h9) rfl d_R_removeOldest_1 ?_
  refine lv_if_ne (tgt := 9) hx hb d_R_removeOldest_4 (by decide) (fun c_4 => ?_) (fun c_4 => ?_)
  · have hf := ite_f hf c_4
    refine lv_aload_n hx hb d_R_removeOldest_9 rfl (lv_at hl 0 rfl) ?_
    refine va_get (D := (dC, dI)) (ci := 3) (v := .ref a_places) (C := cls_R) (T := fld_R) (N := 4) hx hb ht iin_R hown hK hP 0 rfl rfl 0 (by decide) (ht _ k_R_9) (fun _ h9 => h9) rfl d_R_removeOldest_10 ?_
    refine lv_aload_n hx hb d_R_removeOldest_13 rfl (lv_at hl 0 rfl) ?_
    refine va_get (D := (dC, dI)) (ci := 3) (v := .int v_first) (C := cls_R) (T := fld_R) (N := 4) hx hb ht iin_R hown hK hP 0 rfl rfl 2 (by decide) (ht _ k_R_20) (fun _ h9 => h9) rfl d_R_removeOldest_14 ?_
    refine lv_bipush (v := 31) hx hb d_R_removeOldest_17 (by decide) ?_
    refine lv_iand hx hb d_R_removeOldest_19 ?_
    obtain ⟨hi_20, hf⟩ := gi_e hf
    refine va_iald hx hb hK hP 1 0 rfl rfl hi_20 d_R_removeOldest_20 ?_
    refine lv_istore_n (lv' := [(1, .int (v_places (v_first &&& 31).toNatClampNeg)), (0, .ref a0)]) hx hb d_R_removeOldest_21 rfl hl (by decide) rfl (fun ls hl => ?_)
    refine lv_aload_n hx hb d_R_removeOldest_22 rfl (lv_at hl 1 rfl) ?_
    refine lv_aload_n hx hb d_R_removeOldest_23 rfl (lv_at hl 1 rfl) ?_
    refine va_get (D := (dC, dI)) (ci := 3) (v := .int v_first) (C := cls_R) (T := fld_R) (N := 4) hx hb ht iin_R hown hK hP 0 rfl rfl 2 (by decide) (ht _ k_R_20) (fun _ h9 => h9) rfl d_R_removeOldest_24 ?_
    refine lv_iconst (v := 1) hx hb d_R_removeOldest_27 (by decide) ?_
    refine lv_iadd hx hb d_R_removeOldest_28 ?_
    refine lv_bipush (v := 31) hx hb d_R_removeOldest_29 (by decide) ?_
    refine lv_iand hx hb d_R_removeOldest_31 ?_
    refine va_put (D := (dC, dI)) (ci := 3) (v := .int ((v_first + 1) &&& 31)) (ty := .int) (C := cls_R) (T := fld_R) (N := 4) hx hb ht iin_R typ_R tok_R nam_R hown hK hP hD hS 0 rfl rfl 2 (by decide) (ht _ k_R_20) (fun _ h9 => h9) rfl (tok_R 2 (by decide)) rfl rfl (Nat.le_of_ble_eq_true rfl) d_R_removeOldest_32 (fun H locs hP hD hS => ?_)
    have hP : va_P (dC, dI) cls [(a0, .inr (3, [.ref a_places, .int v_limit, .int ((v_first + 1) &&& 31), .int v_size])), (a_places, .inl (cA, 32, .inl v_places))] _ := hP
    have hD : va_D A [(a0, .inr (3, [.ref a_places, .int v_limit, .int ((v_first + 1) &&& 31), .int v_size])), (a_places, .inl (cA, 32, .inl v_places))] := hD
    refine lv_aload_n hx hb d_R_removeOldest_35 rfl (lv_at hl 1 rfl) ?_
    refine lv_dup hx hb d_R_removeOldest_36 rfl ?_
    refine va_get (D := (dC, dI)) (ci := 3) (v := .int v_size) (C := cls_R) (T := fld_R) (N := 4) hx hb ht iin_R hown hK hP 0 rfl rfl 3 (by decide) (ht _ k_R_17) (fun _ h9 => h9) rfl d_R_removeOldest_37 ?_
    refine lv_iconst (v := 1) hx hb d_R_removeOldest_40 (by decide) ?_
    refine lv_isub hx hb d_R_removeOldest_41 ?_
    refine va_put (D := (dC, dI)) (ci := 3) (v := .int (v_size - 1)) (ty := .int) (C := cls_R) (T := fld_R) (N := 4) hx hb ht iin_R typ_R tok_R nam_R hown hK hP hD hS 0 rfl rfl 3 (by decide) (ht _ k_R_17) (fun _ h9 => h9) rfl (tok_R 3 (by decide)) rfl rfl (Nat.le_of_ble_eq_true rfl) d_R_removeOldest_42 (fun H locs hP hD hS => ?_)
    have hP : va_P (dC, dI) cls [(a0, .inr (3, [.ref a_places, .int v_limit, .int ((v_first + 1) &&& 31), .int (v_size - 1)])), (a_places, .inl (cA, 32, .inl v_places))] _ := hP
    have hD : va_D A [(a0, .inr (3, [.ref a_places, .int v_limit, .int ((v_first + 1) &&& 31), .int (v_size - 1)])), (a_places, .inl (cA, 32, .inl v_places))] := hD
    refine lv_iload_n hx hb d_R_removeOldest_45 rfl (lv_at hl 0 rfl) ?_
    exact W.iret hx hb hr (fun t9 ht9 _ => ri_ (Option.some.inj hf) hP hD hS ht9) hS.2.2 d_R_removeOldest_46
  · have hf := ite_t hf c_4
    refine lv_iconst (v := 0) hx hb d_R_removeOldest_7 (by decide) ?_
    exact W.iret hx hb hr (fun t9 ht9 _ => ri_ (Option.some.inj hf) hP hD hS ht9) hS.2.2 d_R_removeOldest_8
def f_R_hasItemAbove_2 : Nat → RgT → Int32 → Int32 → Option (Int32)
  | 0, _, _, _ => none
  | n + 1, (v_limit, v_first, v_size, v_places), x_1, x_2 => if v_size ≤ x_2 then (some 0) else (gi_ ((v_first + x_2) &&& 31) 32 (if (v_places ((v_first + x_2) &&& 31).toNatClampNeg) ≤ x_1 then (f_R_hasItemAbove_2 n (v_limit, v_first, v_size, v_places) x_1 (x_2 + 1)) else (some 1)))
def f_R_hasItemAbove : RgT → Int32 → Option (Int32)
  | (v_limit, v_first, v_size, v_places), p_1 => f_R_hasItemAbove_2 128 (v_limit, v_first, v_size, v_places) p_1 0
set_option maxHeartbeats 8000000 in
set_option maxRecDepth 100000 in
theorem c_R_hasItemAbove (l : Launch) (dC : Nat → ClassId) (dI : Nat → Nat → Nat) (cA : ClassId) (t : Nat) (a0 a_places : Nat) (sz : Nat) (u : RgT) (p_1 : Int32) (q : Int32) (hf : f_R_hasItemAbove u p_1 = some q) : Met l y_R_hasItemAbove (Cond.code y_R_hasItemAbove b_R_hasItemAbove 3 (some .boolean) :: W0) ({ frames := 0, cells := 0, slots := 0, locals := 0 }) (va_Pc [.ref a0, .int p_1] (pc_ (dC, dI) [(cA, .int)] t sz (cw_R cA a0 a_places u))) (qr_ (dC, dI) (cw_R cA a0 a_places u) q (va_A (cw_R cA a0 a_places u) sz)) 0 0 (va_A (cw_R cA a0 a_places u) sz) := by
  obtain ⟨v_limit, v_first, v_size, v_places⟩ := u
  refine start_ l (qr_ (dC, dI) _ q) (by decide) (Nat.le_of_ble_eq_true rfl) ?_
  intro p e s m below meth c hx hb hml hr hown ht hlocks hnm A hA hS hP hK hD hZ ls hl
  have hown : s.vm.findClass cls_R = some m.cls := hown
  refine wabs_ (fun WW wi wo => ?_)
  have k_2 : ∀ n : Nat, ∀ (x_1 x_2 : Int32), f_R_hasItemAbove_2 n (v_limit, v_first, v_size, v_places) x_1 x_2 = some q → ∀ (H : Heap) (locs : List Loc) (ls : Array Slot), va_P (dC, dI) cls [(a0, .inr (3, [.ref a_places, .int v_limit, .int v_first, .int v_size])), (a_places, .inl (cA, 32, .inl v_places))] H → va_D A [(a0, .inr (3, [.ref a_places, .int v_limit, .int v_first, .int v_size])), (a_places, .inl (cA, 32, .inl v_places))] → va_S A s.heap H locs → lv_has ls 3 [(0, .ref a0), (1, .int x_1), (2, .int x_2)] → WW H locs (F0 m 2 ls []) := by
    intro n
    induction n with
    | zero =>
      intro x_1 x_2 hf
      unfold f_R_hasItemAbove_2 at hf
      cases hf
    | succ n ih =>
      intro x_1 x_2 hf H locs ls hP hD hS hl
      unfold f_R_hasItemAbove_2 at hf
      try dsimp only at hf
      have hP : va_P (dC, dI) cls [(a0, .inr (3, [.ref a_places, .int v_limit, .int v_first, .int v_size])), (a_places, .inl (cA, 32, .inl v_places))] _ := hP
      have hD : va_D A [(a0, .inr (3, [.ref a_places, .int v_limit, .int v_first, .int v_size])), (a_places, .inl (cA, 32, .inl v_places))] := hD
      refine wi _ _ _ ?_
      refine lv_iload_n hx hb d_R_hasItemAbove_2 rfl (lv_at hl 2 rfl) ?_
      refine lv_aload_n hx hb d_R_hasItemAbove_3 rfl (lv_at hl 0 rfl) ?_
      refine va_get (D := (dC, dI)) (ci := 3) (v := .int v_size) (C := cls_R) (T := fld_R) (N := 4) hx hb ht iin_R hown hK hP 0 rfl rfl 3 (by decide) (ht _ k_R_17) (fun _ h9 => h9) rfl d_R_hasItemAbove_4 ?_
      refine lv_icmp_ge (tgt := 36) hx hb d_R_hasItemAbove_7 (by decide) (fun c_7 => ?_) (fun c_7 => ?_)
      · have hf := ite_t hf c_7
        refine lv_iconst (v := 0) hx hb d_R_hasItemAbove_36 (by decide) ?_
        exact W.zret hx hb hr rfl (fun t9 ht9 _ => rr_ (Option.some.inj hf) hP hD hS ht9) hS.2.2 d_R_hasItemAbove_37
      · have hf := ite_f hf c_7
        refine lv_aload_n hx hb d_R_hasItemAbove_10 rfl (lv_at hl 0 rfl) ?_
        refine va_get (D := (dC, dI)) (ci := 3) (v := .ref a_places) (C := cls_R) (T := fld_R) (N := 4) hx hb ht iin_R hown hK hP 0 rfl rfl 0 (by decide) (ht _ k_R_9) (fun _ h9 => h9) rfl d_R_hasItemAbove_11 ?_
        refine lv_aload_n hx hb d_R_hasItemAbove_14 rfl (lv_at hl 0 rfl) ?_
        refine va_get (D := (dC, dI)) (ci := 3) (v := .int v_first) (C := cls_R) (T := fld_R) (N := 4) hx hb ht iin_R hown hK hP 0 rfl rfl 2 (by decide) (ht _ k_R_20) (fun _ h9 => h9) rfl d_R_hasItemAbove_15 ?_
        refine lv_iload_n hx hb d_R_hasItemAbove_18 rfl (lv_at hl 2 rfl) ?_
        refine lv_iadd hx hb d_R_hasItemAbove_19 ?_
        refine lv_bipush (v := 31) hx hb d_R_hasItemAbove_20 (by decide) ?_
        refine lv_iand hx hb d_R_hasItemAbove_22 ?_
        obtain ⟨hi_23, hf⟩ := gi_e hf
        refine va_iald hx hb hK hP 1 0 rfl rfl hi_23 d_R_hasItemAbove_23 ?_
        refine lv_iload_n hx hb d_R_hasItemAbove_24 rfl (lv_at hl 1 rfl) ?_
        refine lv_icmp_le (tgt := 30) hx hb d_R_hasItemAbove_25 (by decide) (fun c_25 => ?_) (fun c_25 => ?_)
        · have hf := ite_t hf c_25
          refine lv_iinc (v := (x_2 + 1)) (lv' := [(2, .int (x_2 + 1)), (0, .ref a0), (1, .int x_1)]) hx hb d_R_hasItemAbove_30 hl (k := 2) rfl rfl (by decide) rfl (fun ls hl => ?_)
          refine lv_goto (tgt := 2) hx hb d_R_hasItemAbove_33 (by decide) ?_
          exact wo _ _ _ (ih x_1 (x_2 + 1) hf _ _ _ hP hD hS (lv_sub hl [1, 2, 0] rfl))
        · have hf := ite_f hf c_25
          refine lv_iconst (v := 1) hx hb d_R_hasItemAbove_28 (by decide) ?_
          exact W.zret hx hb hr rfl (fun t9 ht9 _ => rr_ (Option.some.inj hf) hP hD hS ht9) hS.2.2 d_R_hasItemAbove_29
  unfold f_R_hasItemAbove at hf
  try dsimp only at hf
  have hP : va_P (dC, dI) cls [(a0, .inr (3, [.ref a_places, .int v_limit, .int v_first, .int v_size])), (a_places, .inl (cA, 32, .inl v_places))] _ := hP
  have hD : va_D A [(a0, .inr (3, [.ref a_places, .int v_limit, .int v_first, .int v_size])), (a_places, .inl (cA, 32, .inl v_places))] := hD
  refine wi _ _ _ ?_
  have hl : lv_has ls 3 [(0, .ref a0), (1, .int p_1)] := hl
  refine lv_iconst (v := 0) hx hb d_R_hasItemAbove_0 (by decide) ?_
  refine lv_istore_n (lv' := [(2, .int 0), (0, .ref a0), (1, .int p_1)]) hx hb d_R_hasItemAbove_1 rfl hl (by decide) rfl (fun ls hl => ?_)
  exact wo _ _ _ (k_2 128 p_1 0 hf _ _ _ hP hD hS (lv_sub hl [1, 2, 0] rfl))
end
section
def f_M_isLooped_15 : MdT → Int32 → Option (Int32)
  | (v_control, v_changes, v_given), s_1 => gb_ s_1 (some s_1)
def f_M_isLooped : MdT → Option (Int32)
  | (v_control, v_changes, v_given) => if (v_control &&& 16) = 0 then (f_M_isLooped_15 (v_control, v_changes, v_given) 0) else (f_M_isLooped_15 (v_control, v_changes, v_given) 1)
set_option maxHeartbeats 8000000 in
set_option maxRecDepth 100000 in
theorem c_M_isLooped (l : Launch) (dC : Nat → ClassId) (dI : Nat → Nat → Nat) (cA : ClassId) (t : Nat) (a0 : Nat) (sz : Nat) (u : MdT) (q : Int32) (hf : f_M_isLooped u = some q) : Met l y_M_isLooped (Cond.code y_M_isLooped b_M_isLooped 1 (some .boolean) :: W0) ({ frames := 0, cells := 0, slots := 0, locals := 0 }) (va_Pc [.ref a0] (pc_ (dC, dI) [(cA, .int)] t sz (cw_M cA a0 u))) (qr_ (dC, dI) (cw_M cA a0 u) q (va_A (cw_M cA a0 u) sz)) 0 0 (va_A (cw_M cA a0 u) sz) := by
  obtain ⟨v_control, v_changes, v_given⟩ := u
  refine start_ l (qr_ (dC, dI) _ q) (by decide) (Nat.le_of_ble_eq_true rfl) ?_
  intro p e s m below meth c hx hb hml hr hown ht hlocks hnm A hA hS hP hK hD hZ ls hl
  have hown : s.vm.findClass cls_M = some m.cls := hown
  refine wabs_ (fun WW wi wo => ?_)
  have k_15 : ∀ (s_1 : Int32), f_M_isLooped_15 (v_control, v_changes, v_given) s_1 = some q → ∀ (H : Heap) (locs : List Loc) (ls : Array Slot), va_P (dC, dI) cls [(a0, .inr (1, [.int v_control, .int v_changes, .int v_given]))] H → va_D A [(a0, .inr (1, [.int v_control, .int v_changes, .int v_given]))] → va_S A s.heap H locs → lv_has ls 1 [] → WW H locs (F0 m 15 ls [.int s_1]) := by
    intro s_1 hf H locs ls hP hD hS hl
    unfold f_M_isLooped_15 at hf
    try dsimp only at hf
    have hP : va_P (dC, dI) cls [(a0, .inr (1, [.int v_control, .int v_changes, .int v_given]))] _ := hP
    have hD : va_D A [(a0, .inr (1, [.int v_control, .int v_changes, .int v_given]))] := hD
    refine wi _ _ _ ?_
    obtain ⟨hb_15, hf⟩ := gb_e hf
    exact W.zret hx hb hr hb_15.1 (fun t9 ht9 _ => rr_ (Option.some.inj hf) hP hD hS ht9) hS.2.2 d_M_isLooped_15
  unfold f_M_isLooped at hf
  try dsimp only at hf
  have hP : va_P (dC, dI) cls [(a0, .inr (1, [.int v_control, .int v_changes, .int v_given]))] _ := hP
  have hD : va_D A [(a0, .inr (1, [.int v_control, .int v_changes, .int v_given]))] := hD
  refine wi _ _ _ ?_
  have hl : lv_has ls 1 [(0, .ref a0)] := hl
  refine lv_aload_n hx hb d_M_isLooped_0 rfl (lv_at hl 0 rfl) ?_
  refine va_get (D := (dC, dI)) (ci := 1) (v := .int v_control) (C := cls_M) (T := fld_M) (N := 3) hx hb ht iin_M hown hK hP 0 rfl rfl 0 (by decide) (ht _ k_M_7) (fun _ h9 => h9) rfl d_M_isLooped_1 ?_
  refine lv_bipush (v := 16) hx hb d_M_isLooped_4 (by decide) ?_
  refine lv_iand hx hb d_M_isLooped_6 ?_
  refine lv_if_eq (tgt := 14) hx hb d_M_isLooped_7 (by decide) (fun c_7 => ?_) (fun c_7 => ?_)
  · have hf := ite_t hf c_7
    refine lv_iconst (v := 0) hx hb d_M_isLooped_14 (by decide) ?_
    exact wo _ _ _ (k_15 0 hf _ _ _ hP hD hS (lv_sub hl [] rfl))
  · have hf := ite_f hf c_7
    refine lv_iconst (v := 1) hx hb d_M_isLooped_10 (by decide) ?_
    refine lv_goto (tgt := 15) hx hb d_M_isLooped_11 (by decide) ?_
    exact wo _ _ _ (k_15 1 hf _ _ _ hP hD hS (lv_sub hl [] rfl))
def f_M_inputs : MdT → Option (Int32)
  | (v_control, v_changes, v_given) => Option.bind (f_M_isLooped (v_control, v_changes, v_given)) (fun r_1 => if r_1 = 0 then (some v_given) else (some (((v_control &&& 12) ||| ((v_control &&& 1) <<< ((1 : Int32) &&& 31))) ||| ((v_control >>> ((1 : Int32) &&& 31)) &&& 1))))
set_option maxHeartbeats 8000000 in
set_option maxRecDepth 100000 in
theorem c_M_inputs (l : Launch) (dC : Nat → ClassId) (dI : Nat → Nat → Nat) (cA : ClassId) (t : Nat) (a0 : Nat) (sz : Nat) (u : MdT) (q : Int32) (hf : f_M_inputs u = some q) : Met l y_M_inputs (Cond.code y_M_inputs b_M_inputs 1 (some .int) :: W0) ({ frames := 1, cells := 0, slots := 0, locals := 20 }) (va_Pc [.ref a0] (pc_ (dC, dI) [(cA, .int)] t sz (cw_M cA a0 u))) (qr_ (dC, dI) (cw_M cA a0 u) q (va_A (cw_M cA a0 u) sz)) 0 0 (va_A (cw_M cA a0 u) sz) := by
  obtain ⟨v_control, v_changes, v_given⟩ := u
  refine start_ l (qr_ (dC, dI) _ q) (by decide) (Nat.le_of_ble_eq_true rfl) ?_
  intro p e s m below meth c hx hb hml hr hown ht hlocks hnm A hA hS hP hK hD hZ ls hl
  have hown : s.vm.findClass cls_M = some m.cls := hown
  refine wabs_ (fun WW wi wo => ?_)
  unfold f_M_inputs at hf
  try dsimp only at hf
  have hP : va_P (dC, dI) cls [(a0, .inr (1, [.int v_control, .int v_changes, .int v_given]))] _ := hP
  have hD : va_D A [(a0, .inr (1, [.int v_control, .int v_changes, .int v_given]))] := hD
  refine wi _ _ _ ?_
  have hl : lv_has ls 1 [(0, .ref a0)] := hl
  refine lv_aload_n hx hb d_M_inputs_0 rfl (lv_at hl 0 rfl) ?_
  obtain ⟨q_1, hc_1, hf⟩ := bind_e hf
  refine cVr_ (wc := cw_M cA a0 (v_control, v_changes, v_given)) (wr := []) (As := []) (rest := []) ⟨hx, hb, hml, hown, ht⟩ (c_M_isLooped l dC dI cA t a0 _ (v_control, v_changes, v_given)  q_1 hc_1) (cwV 0 ht (gV_ k_M_13 ki_M_isLooped ks_M_isLooped kn_M kc_M_isLooped) rfl rfl rfl ⟨rfl, hd_M_isLooped⟩ ⟨Nat.le_of_ble_eq_true rfl, Nat.le_of_ble_eq_true rfl⟩) hK hZ hA hP hD hS [0] [] rfl rfl (by decide) (by decide) (by decide) rfl rfl rfl rfl hl.1 (Nat.le_of_ble_eq_true rfl) d_M_inputs_1 ⟨Nat.le_of_ble_eq_true rfl, Nat.le_of_ble_eq_true rfl⟩ (fun r_1 H locs hw hP hD hS => ?_)
  subst hw
  have hP : va_P (dC, dI) cls [(a0, .inr (1, [.int v_control, .int v_changes, .int v_given]))] _ := hP.sub [0] rfl
  have hD : va_D A [(a0, .inr (1, [.int v_control, .int v_changes, .int v_given]))] := hD.sub [0] (by decide) rfl
  refine lv_if_ne (tgt := 12) hx hb d_M_inputs_4 (by decide) (fun c_4 => ?_) (fun c_4 => ?_)
  · have hf := ite_f hf c_4
    refine lv_aload_n hx hb d_M_inputs_12 rfl (lv_at hl 0 rfl) ?_
    refine va_get (D := (dC, dI)) (ci := 1) (v := .int v_control) (C := cls_M) (T := fld_M) (N := 3) hx hb ht iin_M hown hK hP 0 rfl rfl 0 (by decide) (ht _ k_M_7) (fun _ h9 => h9) rfl d_M_inputs_13 ?_
    refine lv_bipush (v := 12) hx hb d_M_inputs_16 (by decide) ?_
    refine lv_iand hx hb d_M_inputs_18 ?_
    refine lv_aload_n hx hb d_M_inputs_19 rfl (lv_at hl 0 rfl) ?_
    refine va_get (D := (dC, dI)) (ci := 1) (v := .int v_control) (C := cls_M) (T := fld_M) (N := 3) hx hb ht iin_M hown hK hP 0 rfl rfl 0 (by decide) (ht _ k_M_7) (fun _ h9 => h9) rfl d_M_inputs_20 ?_
    refine lv_iconst (v := 1) hx hb d_M_inputs_23 (by decide) ?_
    refine lv_iand hx hb d_M_inputs_24 ?_
    refine lv_iconst (v := 1) hx hb d_M_inputs_25 (by decide) ?_
    refine lv_ishl hx hb d_M_inputs_26 ?_
    refine lv_ior hx hb d_M_inputs_27 ?_
    refine lv_aload_n hx hb d_M_inputs_28 rfl (lv_at hl 0 rfl) ?_
    refine va_get (D := (dC, dI)) (ci := 1) (v := .int v_control) (C := cls_M) (T := fld_M) (N := 3) hx hb ht iin_M hown hK hP 0 rfl rfl 0 (by decide) (ht _ k_M_7) (fun _ h9 => h9) rfl d_M_inputs_29 ?_
    refine lv_iconst (v := 1) hx hb d_M_inputs_32 (by decide) ?_
    refine lv_ishr hx hb d_M_inputs_33 ?_
    refine lv_iconst (v := 1) hx hb d_M_inputs_34 (by decide) ?_
    refine lv_iand hx hb d_M_inputs_35 ?_
    refine lv_ior hx hb d_M_inputs_36 ?_
    exact W.iret hx hb hr (fun t9 ht9 _ => rr_ (Option.some.inj hf) hP hD hS ht9) hS.2.2 d_M_inputs_37
  · have hf := ite_t hf c_4
    refine lv_aload_n hx hb d_M_inputs_7 rfl (lv_at hl 0 rfl) ?_
    refine va_get (D := (dC, dI)) (ci := 1) (v := .int v_given) (C := cls_M) (T := fld_M) (N := 3) hx hb ht iin_M hown hK hP 0 rfl rfl 2 (by decide) (ht _ k_M_17) (fun _ h9 => h9) rfl d_M_inputs_8 ?_
    exact W.iret hx hb hr (fun t9 ht9 _ => rr_ (Option.some.inj hf) hP hD hS ht9) hS.2.2 d_M_inputs_11
def f_M_noteChanges : MdT → Int32 → Option (MdT)
  | (v_control, v_changes, v_given), p_1 => Option.bind (f_M_inputs (v_control, v_changes, v_given)) (fun r_1 => some (v_control, ((v_changes ||| ((p_1 ^^^ r_1) &&& 11)) ||| ((p_1 &&& (r_1 ^^^ (-1))) &&& 4)), v_given))
set_option maxHeartbeats 8000000 in
set_option maxRecDepth 100000 in
theorem c_M_noteChanges (l : Launch) (dC : Nat → ClassId) (dI : Nat → Nat → Nat) (cA : ClassId) (t : Nat) (a0 : Nat) (sz : Nat) (u : MdT) (p_1 : Int32) (q : MdT) (hf : f_M_noteChanges u p_1 = some q) : Met l y_M_noteChanges (Cond.code y_M_noteChanges b_M_noteChanges 3 none :: W0) ({ frames := 2, cells := 0, slots := 0, locals := 40 }) (va_Pc [.ref a0, .int p_1] (pc_ (dC, dI) [(cA, .int)] t sz (cw_M cA a0 u))) (qv_ (dC, dI) (cw_M cA a0) q (va_A (cw_M cA a0 u) sz)) 0 0 (va_A (cw_M cA a0 u) sz) := by
  refine start_ l (qv_ (dC, dI) (cw_M cA a0) q) (by decide) (Nat.le_of_ble_eq_true rfl) ?_
  intro p e s m below meth c hx hb hml hr hown ht hlocks hnm A hA hS hP hK hD hZ ls hl
  have hown : s.vm.findClass cls_M = some m.cls := hown
  refine wabs_ (fun WW wi wo => ?_)
  obtain ⟨v_control, v_changes, v_given⟩ := u
  unfold f_M_noteChanges at hf
  try dsimp only at hf
  have hP : va_P (dC, dI) cls [(a0, .inr (1, [.int v_control, .int v_changes, .int v_given]))] _ := hP
  have hD : va_D A [(a0, .inr (1, [.int v_control, .int v_changes, .int v_given]))] := hD
  refine wi _ _ _ ?_
  have hl : lv_has ls 3 [(0, .ref a0), (1, .int p_1)] := hl
  refine lv_aload_n hx hb d_M_noteChanges_0 rfl (lv_at hl 0 rfl) ?_
  obtain ⟨q_1, hc_1, hf⟩ := bind_e hf
  refine cVr_ (wc := cw_M cA a0 (v_control, v_changes, v_given)) (wr := []) (As := []) (rest := []) ⟨hx, hb, hml, hown, ht⟩ (c_M_inputs l dC dI cA t a0 _ (v_control, v_changes, v_given)  q_1 hc_1) (cwV 0 ht (gV_ k_M_20 ki_M_inputs ks_M_inputs kn_M kc_M_inputs) rfl rfl rfl ⟨rfl, hd_M_inputs⟩ ⟨Nat.le_of_ble_eq_true rfl, Nat.le_of_ble_eq_true rfl⟩) hK hZ hA hP hD hS [0] [] rfl rfl (by decide) (by decide) (by decide) rfl rfl rfl rfl hl.1 (Nat.le_of_ble_eq_true rfl) d_M_noteChanges_1 ⟨Nat.le_of_ble_eq_true rfl, Nat.le_of_ble_eq_true rfl⟩ (fun r_1 H locs hw hP hD hS => ?_)
  subst hw
  have hP : va_P (dC, dI) cls [(a0, .inr (1, [.int v_control, .int v_changes, .int v_given]))] _ := hP.sub [0] rfl
  have hD : va_D A [(a0, .inr (1, [.int v_control, .int v_changes, .int v_given]))] := hD.sub [0] (by decide) rfl
  refine lv_istore_n (lv' := [(2, .int r_1), (0, .ref a0), (1, .int p_1)]) hx hb d_M_noteChanges_4 rfl hl (by decide) rfl (fun ls hl => ?_)
  refine lv_aload_n hx hb d_M_noteChanges_5 rfl (lv_at hl 1 rfl) ?_
  refine lv_dup hx hb d_M_noteChanges_6 rfl ?_
  refine va_get (D := (dC, dI)) (ci := 1) (v := .int v_changes) (C := cls_M) (T := fld_M) (N := 3) hx hb ht iin_M hown hK hP 0 rfl rfl 1 (by decide) (ht _ k_M_28) (fun _ h9 => h9) rfl d_M_noteChanges_7 ?_
  refine lv_iload_n hx hb d_M_noteChanges_10 rfl (lv_at hl 2 rfl) ?_
  refine lv_iload_n hx hb d_M_noteChanges_11 rfl (lv_at hl 0 rfl) ?_
  refine lv_ixor hx hb d_M_noteChanges_12 ?_
  refine lv_bipush (v := 11) hx hb d_M_noteChanges_13 (by decide) ?_
  refine lv_iand hx hb d_M_noteChanges_15 ?_
  refine lv_ior hx hb d_M_noteChanges_16 ?_
  refine va_put (D := (dC, dI)) (ci := 1) (v := .int (v_changes ||| ((p_1 ^^^ r_1) &&& 11))) (ty := .int) (C := cls_M) (T := fld_M) (N := 3) hx hb ht iin_M typ_M tok_M nam_M hown hK hP hD hS 0 rfl rfl 1 (by decide) (ht _ k_M_28) (fun _ h9 => h9) rfl (tok_M 1 (by decide)) rfl rfl (Nat.le_of_ble_eq_true rfl) d_M_noteChanges_17 (fun H locs hP hD hS => ?_)
  have hP : va_P (dC, dI) cls [(a0, .inr (1, [.int v_control, .int (v_changes ||| ((p_1 ^^^ r_1) &&& 11)), .int v_given]))] _ := hP
  have hD : va_D A [(a0, .inr (1, [.int v_control, .int (v_changes ||| ((p_1 ^^^ r_1) &&& 11)), .int v_given]))] := hD
  refine lv_aload_n hx hb d_M_noteChanges_20 rfl (lv_at hl 1 rfl) ?_
  refine lv_dup hx hb d_M_noteChanges_21 rfl ?_
  refine va_get (D := (dC, dI)) (ci := 1) (v := .int (v_changes ||| ((p_1 ^^^ r_1) &&& 11))) (C := cls_M) (T := fld_M) (N := 3) hx hb ht iin_M hown hK hP 0 rfl rfl 1 (by decide) (ht _ k_M_28) (fun _ h9 => h9) rfl d_M_noteChanges_22 ?_
  refine lv_iload_n hx hb d_M_noteChanges_25 rfl (lv_at hl 2 rfl) ?_
  refine lv_iload_n hx hb d_M_noteChanges_26 rfl (lv_at hl 0 rfl) ?_
  refine lv_iconst (v := (-1)) hx hb d_M_noteChanges_27 (by decide) ?_
  refine lv_ixor hx hb d_M_noteChanges_28 ?_
  refine lv_iand hx hb d_M_noteChanges_29 ?_
  refine lv_iconst (v := 4) hx hb d_M_noteChanges_30 (by decide) ?_
  refine lv_iand hx hb d_M_noteChanges_31 ?_
  refine lv_ior hx hb d_M_noteChanges_32 ?_
  refine va_put (D := (dC, dI)) (ci := 1) (v := .int ((v_changes ||| ((p_1 ^^^ r_1) &&& 11)) ||| ((p_1 &&& (r_1 ^^^ (-1))) &&& 4))) (ty := .int) (C := cls_M) (T := fld_M) (N := 3) hx hb ht iin_M typ_M tok_M nam_M hown hK hP hD hS 0 rfl rfl 1 (by decide) (ht _ k_M_28) (fun _ h9 => h9) rfl (tok_M 1 (by decide)) rfl rfl (Nat.le_of_ble_eq_true rfl) d_M_noteChanges_33 (fun H locs hP hD hS => ?_)
  have hP : va_P (dC, dI) cls [(a0, .inr (1, [.int v_control, .int ((v_changes ||| ((p_1 ^^^ r_1) &&& 11)) ||| ((p_1 &&& (r_1 ^^^ (-1))) &&& 4)), .int v_given]))] _ := hP
  have hD : va_D A [(a0, .inr (1, [.int v_control, .int ((v_changes ||| ((p_1 ^^^ r_1) &&& 11)) ||| ((p_1 &&& (r_1 ^^^ (-1))) &&& 4)), .int v_given]))] := hD
  exact W.vret hx hb hr (fun t9 ht9 _ => rv_ (Option.some.inj hf) hP hD hS ht9) hS.2.2 d_M_noteChanges_36
def f_M_setLines : MdT → Int32 → Option (MdT)
  | (v_control, v_changes, v_given), p_1 => Option.bind (f_M_inputs (v_control, v_changes, v_given)) (fun r_1 => Option.bind (f_M_noteChanges (v_control, v_changes, p_1) r_1) (fun q_12 => match q_12 with | (v_control_12, v_changes_12, v_given_12) => some (v_control_12, v_changes_12, v_given_12)))
set_option maxHeartbeats 8000000 in
set_option maxRecDepth 100000 in
theorem c_M_setLines (l : Launch) (dC : Nat → ClassId) (dI : Nat → Nat → Nat) (cA : ClassId) (t : Nat) (a0 : Nat) (sz : Nat) (u : MdT) (p_1 : Int32) (q : MdT) (hf : f_M_setLines u p_1 = some q) : Met l y_M_setLines (Cond.code y_M_setLines b_M_setLines 3 none :: W0) ({ frames := 3, cells := 0, slots := 0, locals := 62 }) (va_Pc [.ref a0, .int p_1] (pc_ (dC, dI) [(cA, .int)] t sz (cw_M cA a0 u))) (qv_ (dC, dI) (cw_M cA a0) q (va_A (cw_M cA a0 u) sz)) 0 0 (va_A (cw_M cA a0 u) sz) := by
  refine start_ l (qv_ (dC, dI) (cw_M cA a0) q) (by decide) (Nat.le_of_ble_eq_true rfl) ?_
  intro p e s m below meth c hx hb hml hr hown ht hlocks hnm A hA hS hP hK hD hZ ls hl
  have hown : s.vm.findClass cls_M = some m.cls := hown
  refine wabs_ (fun WW wi wo => ?_)
  obtain ⟨v_control, v_changes, v_given⟩ := u
  unfold f_M_setLines at hf
  try dsimp only at hf
  have hP : va_P (dC, dI) cls [(a0, .inr (1, [.int v_control, .int v_changes, .int v_given]))] _ := hP
  have hD : va_D A [(a0, .inr (1, [.int v_control, .int v_changes, .int v_given]))] := hD
  refine wi _ _ _ ?_
  have hl : lv_has ls 3 [(0, .ref a0), (1, .int p_1)] := hl
  refine lv_aload_n hx hb d_M_setLines_0 rfl (lv_at hl 0 rfl) ?_
  obtain ⟨q_1, hc_1, hf⟩ := bind_e hf
  refine cVr_ (wc := cw_M cA a0 (v_control, v_changes, v_given)) (wr := []) (As := []) (rest := []) ⟨hx, hb, hml, hown, ht⟩ (c_M_inputs l dC dI cA t a0 _ (v_control, v_changes, v_given)  q_1 hc_1) (cwV 0 ht (gV_ k_M_20 ki_M_inputs ks_M_inputs kn_M kc_M_inputs) rfl rfl rfl ⟨rfl, hd_M_inputs⟩ ⟨Nat.le_of_ble_eq_true rfl, Nat.le_of_ble_eq_true rfl⟩) hK hZ hA hP hD hS [0] [] rfl rfl (by decide) (by decide) (by decide) rfl rfl rfl rfl hl.1 (Nat.le_of_ble_eq_true rfl) d_M_setLines_1 ⟨Nat.le_of_ble_eq_true rfl, Nat.le_of_ble_eq_true rfl⟩ (fun r_1 H locs hw hP hD hS => ?_)
  subst hw
  have hP : va_P (dC, dI) cls [(a0, .inr (1, [.int v_control, .int v_changes, .int v_given]))] _ := hP.sub [0] rfl
  have hD : va_D A [(a0, .inr (1, [.int v_control, .int v_changes, .int v_given]))] := hD.sub [0] (by decide) rfl
  refine lv_istore_n (lv' := [(2, .int r_1), (0, .ref a0), (1, .int p_1)]) hx hb d_M_setLines_4 rfl hl (by decide) rfl (fun ls hl => ?_)
  refine lv_aload_n hx hb d_M_setLines_5 rfl (lv_at hl 1 rfl) ?_
  refine lv_iload_n hx hb d_M_setLines_6 rfl (lv_at hl 2 rfl) ?_
  refine va_put (D := (dC, dI)) (ci := 1) (v := .int p_1) (ty := .int) (C := cls_M) (T := fld_M) (N := 3) hx hb ht iin_M typ_M tok_M nam_M hown hK hP hD hS 0 rfl rfl 2 (by decide) (ht _ k_M_17) (fun _ h9 => h9) rfl (tok_M 2 (by decide)) rfl rfl (Nat.le_of_ble_eq_true rfl) d_M_setLines_7 (fun H locs hP hD hS => ?_)
  have hP : va_P (dC, dI) cls [(a0, .inr (1, [.int v_control, .int v_changes, .int p_1]))] _ := hP
  have hD : va_D A [(a0, .inr (1, [.int v_control, .int v_changes, .int p_1]))] := hD
  refine lv_aload_n hx hb d_M_setLines_10 rfl (lv_at hl 1 rfl) ?_
  refine lv_iload_n hx hb d_M_setLines_11 rfl (lv_at hl 0 rfl) ?_
  obtain ⟨q_12, hc_12, hf⟩ := bind_e hf
  refine cVv_ (wc := cw_M cA a0 (v_control, v_changes, p_1)) (wr := []) (As := [.int r_1]) (rest := []) ⟨hx, hb, hml, hown, ht⟩ (c_M_noteChanges l dC dI cA t a0 _ (v_control, v_changes, p_1) r_1 q_12 hc_12) (cwV 1 ht (gV_ k_M_24 ki_M_noteChanges ks_M_noteChanges kn_M kc_M_noteChanges) rfl rfl rfl ⟨rfl, hd_M_noteChanges⟩ ⟨Nat.le_of_ble_eq_true rfl, Nat.le_of_ble_eq_true rfl⟩) hK hZ hA hP hD hS [0] [] rfl rfl (by decide) (by decide) (by decide) rfl rfl rfl rfl hl.1 (Nat.le_of_ble_eq_true rfl) d_M_setLines_12 ⟨Nat.le_of_ble_eq_true rfl, Nat.le_of_ble_eq_true rfl⟩ (fun u H locs hw hP hD hS => ?_)
  obtain ⟨v_control_12, v_changes_12, v_given_12⟩ := u
  subst hw
  have hP : va_P (dC, dI) cls [(a0, .inr (1, [.int v_control_12, .int v_changes_12, .int v_given_12]))] _ := hP.sub [0] rfl
  have hD : va_D A [(a0, .inr (1, [.int v_control_12, .int v_changes_12, .int v_given_12]))] := hD.sub [0] (by decide) rfl
  try dsimp only at hf
  exact W.vret hx hb hr (fun t9 ht9 _ => rv_ (Option.some.inj hf) hP hD hS ht9) hS.2.2 d_M_setLines_15
def f_M_setControl : MdT → Int32 → Option (MdT)
  | (v_control, v_changes, v_given), p_1 => Option.bind (f_M_inputs (v_control, v_changes, v_given)) (fun r_1 => Option.bind (f_M_noteChanges (p_1, v_changes, v_given) r_1) (fun q_12 => match q_12 with | (v_control_12, v_changes_12, v_given_12) => some (v_control_12, v_changes_12, v_given_12)))
set_option maxHeartbeats 8000000 in
set_option maxRecDepth 100000 in
theorem c_M_setControl (l : Launch) (dC : Nat → ClassId) (dI : Nat → Nat → Nat) (cA : ClassId) (t : Nat) (a0 : Nat) (sz : Nat) (u : MdT) (p_1 : Int32) (q : MdT) (hf : f_M_setControl u p_1 = some q) : Met l y_M_setControl (Cond.code y_M_setControl b_M_setControl 3 none :: W0) ({ frames := 3, cells := 0, slots := 0, locals := 62 }) (va_Pc [.ref a0, .int p_1] (pc_ (dC, dI) [(cA, .int)] t sz (cw_M cA a0 u))) (qv_ (dC, dI) (cw_M cA a0) q (va_A (cw_M cA a0 u) sz)) 0 0 (va_A (cw_M cA a0 u) sz) := by
  refine start_ l (qv_ (dC, dI) (cw_M cA a0) q) (by decide) (Nat.le_of_ble_eq_true rfl) ?_
  intro p e s m below meth c hx hb hml hr hown ht hlocks hnm A hA hS hP hK hD hZ ls hl
  have hown : s.vm.findClass cls_M = some m.cls := hown
  refine wabs_ (fun WW wi wo => ?_)
  obtain ⟨v_control, v_changes, v_given⟩ := u
  unfold f_M_setControl at hf
  try dsimp only at hf
  have hP : va_P (dC, dI) cls [(a0, .inr (1, [.int v_control, .int v_changes, .int v_given]))] _ := hP
  have hD : va_D A [(a0, .inr (1, [.int v_control, .int v_changes, .int v_given]))] := hD
  refine wi _ _ _ ?_
  have hl : lv_has ls 3 [(0, .ref a0), (1, .int p_1)] := hl
  refine lv_aload_n hx hb d_M_setControl_0 rfl (lv_at hl 0 rfl) ?_
  obtain ⟨q_1, hc_1, hf⟩ := bind_e hf
  refine cVr_ (wc := cw_M cA a0 (v_control, v_changes, v_given)) (wr := []) (As := []) (rest := []) ⟨hx, hb, hml, hown, ht⟩ (c_M_inputs l dC dI cA t a0 _ (v_control, v_changes, v_given)  q_1 hc_1) (cwV 0 ht (gV_ k_M_20 ki_M_inputs ks_M_inputs kn_M kc_M_inputs) rfl rfl rfl ⟨rfl, hd_M_inputs⟩ ⟨Nat.le_of_ble_eq_true rfl, Nat.le_of_ble_eq_true rfl⟩) hK hZ hA hP hD hS [0] [] rfl rfl (by decide) (by decide) (by decide) rfl rfl rfl rfl hl.1 (Nat.le_of_ble_eq_true rfl) d_M_setControl_1 ⟨Nat.le_of_ble_eq_true rfl, Nat.le_of_ble_eq_true rfl⟩ (fun r_1 H locs hw hP hD hS => ?_)
  subst hw
  have hP : va_P (dC, dI) cls [(a0, .inr (1, [.int v_control, .int v_changes, .int v_given]))] _ := hP.sub [0] rfl
  have hD : va_D A [(a0, .inr (1, [.int v_control, .int v_changes, .int v_given]))] := hD.sub [0] (by decide) rfl
  refine lv_istore_n (lv' := [(2, .int r_1), (0, .ref a0), (1, .int p_1)]) hx hb d_M_setControl_4 rfl hl (by decide) rfl (fun ls hl => ?_)
  refine lv_aload_n hx hb d_M_setControl_5 rfl (lv_at hl 1 rfl) ?_
  refine lv_iload_n hx hb d_M_setControl_6 rfl (lv_at hl 2 rfl) ?_
  refine va_put (D := (dC, dI)) (ci := 1) (v := .int p_1) (ty := .int) (C := cls_M) (T := fld_M) (N := 3) hx hb ht iin_M typ_M tok_M nam_M hown hK hP hD hS 0 rfl rfl 0 (by decide) (ht _ k_M_7) (fun _ h9 => h9) rfl (tok_M 0 (by decide)) rfl rfl (Nat.le_of_ble_eq_true rfl) d_M_setControl_7 (fun H locs hP hD hS => ?_)
  have hP : va_P (dC, dI) cls [(a0, .inr (1, [.int p_1, .int v_changes, .int v_given]))] _ := hP
  have hD : va_D A [(a0, .inr (1, [.int p_1, .int v_changes, .int v_given]))] := hD
  refine lv_aload_n hx hb d_M_setControl_10 rfl (lv_at hl 1 rfl) ?_
  refine lv_iload_n hx hb d_M_setControl_11 rfl (lv_at hl 0 rfl) ?_
  obtain ⟨q_12, hc_12, hf⟩ := bind_e hf
  refine cVv_ (wc := cw_M cA a0 (p_1, v_changes, v_given)) (wr := []) (As := [.int r_1]) (rest := []) ⟨hx, hb, hml, hown, ht⟩ (c_M_noteChanges l dC dI cA t a0 _ (p_1, v_changes, v_given) r_1 q_12 hc_12) (cwV 1 ht (gV_ k_M_24 ki_M_noteChanges ks_M_noteChanges kn_M kc_M_noteChanges) rfl rfl rfl ⟨rfl, hd_M_noteChanges⟩ ⟨Nat.le_of_ble_eq_true rfl, Nat.le_of_ble_eq_true rfl⟩) hK hZ hA hP hD hS [0] [] rfl rfl (by decide) (by decide) (by decide) rfl rfl rfl rfl hl.1 (Nat.le_of_ble_eq_true rfl) d_M_setControl_12 ⟨Nat.le_of_ble_eq_true rfl, Nat.le_of_ble_eq_true rfl⟩ (fun u H locs hw hP hD hS => ?_)
  obtain ⟨v_control_12, v_changes_12, v_given_12⟩ := u
  subst hw
  have hP : va_P (dC, dI) cls [(a0, .inr (1, [.int v_control_12, .int v_changes_12, .int v_given_12]))] _ := hP.sub [0] rfl
  have hD : va_D A [(a0, .inr (1, [.int v_control_12, .int v_changes_12, .int v_given_12]))] := hD.sub [0] (by decide) rfl
  try dsimp only at hf
  exact W.vret hx hb hr (fun t9 ht9 _ => rv_ (Option.some.inj hf) hP hD hS ht9) hS.2.2 d_M_setControl_15
def f_M_readChanges : MdT → Option (Int32 × MdT)
  | (v_control, v_changes, v_given) => Option.bind (f_M_inputs (v_control, v_changes, v_given)) (fun r_7 => some ((v_changes + (16 * r_7)), (v_control, 0, v_given)))
set_option maxHeartbeats 8000000 in
set_option maxRecDepth 100000 in
theorem c_M_readChanges (l : Launch) (dC : Nat → ClassId) (dI : Nat → Nat → Nat) (cA : ClassId) (t : Nat) (a0 : Nat) (sz : Nat) (u : MdT) (q : Int32 × MdT) (hf : f_M_readChanges u = some q) : Met l y_M_readChanges (Cond.code y_M_readChanges b_M_readChanges 2 (some .int) :: W0) ({ frames := 2, cells := 0, slots := 0, locals := 40 }) (va_Pc [.ref a0] (pc_ (dC, dI) [(cA, .int)] t sz (cw_M cA a0 u))) (qi_ (dC, dI) (cw_M cA a0) q (va_A (cw_M cA a0 u) sz)) 0 0 (va_A (cw_M cA a0 u) sz) := by
  refine start_ l (qi_ (dC, dI) (cw_M cA a0) q) (by decide) (Nat.le_of_ble_eq_true rfl) ?_
  intro p e s m below meth c hx hb hml hr hown ht hlocks hnm A hA hS hP hK hD hZ ls hl
  have hown : s.vm.findClass cls_M = some m.cls := hown
  refine wabs_ (fun WW wi wo => ?_)
  obtain ⟨v_control, v_changes, v_given⟩ := u
  unfold f_M_readChanges at hf
  try dsimp only at hf
  have hP : va_P (dC, dI) cls [(a0, .inr (1, [.int v_control, .int v_changes, .int v_given]))] _ := hP
  have hD : va_D A [(a0, .inr (1, [.int v_control, .int v_changes, .int v_given]))] := hD
  refine wi _ _ _ ?_
  have hl : lv_has ls 2 [(0, .ref a0)] := hl
  refine lv_aload_n hx hb d_M_readChanges_0 rfl (lv_at hl 0 rfl) ?_
  refine va_get (D := (dC, dI)) (ci := 1) (v := .int v_changes) (C := cls_M) (T := fld_M) (N := 3) hx hb ht iin_M hown hK hP 0 rfl rfl 1 (by decide) (ht _ k_M_28) (fun _ h9 => h9) rfl d_M_readChanges_1 ?_
  refine lv_bipush (v := 16) hx hb d_M_readChanges_4 (by decide) ?_
  refine lv_aload_n hx hb d_M_readChanges_6 rfl (lv_at hl 0 rfl) ?_
  obtain ⟨q_7, hc_7, hf⟩ := bind_e hf
  refine cVr_ (wc := cw_M cA a0 (v_control, v_changes, v_given)) (wr := []) (As := []) (rest := [.int 16, .int v_changes]) ⟨hx, hb, hml, hown, ht⟩ (c_M_inputs l dC dI cA t a0 _ (v_control, v_changes, v_given)  q_7 hc_7) (cwV 0 ht (gV_ k_M_20 ki_M_inputs ks_M_inputs kn_M kc_M_inputs) rfl rfl rfl ⟨rfl, hd_M_inputs⟩ ⟨Nat.le_of_ble_eq_true rfl, Nat.le_of_ble_eq_true rfl⟩) hK hZ hA hP hD hS [0] [] rfl rfl (by decide) (by decide) (by decide) rfl rfl rfl rfl hl.1 (Nat.le_of_ble_eq_true rfl) d_M_readChanges_7 ⟨Nat.le_of_ble_eq_true rfl, Nat.le_of_ble_eq_true rfl⟩ (fun r_7 H locs hw hP hD hS => ?_)
  subst hw
  have hP : va_P (dC, dI) cls [(a0, .inr (1, [.int v_control, .int v_changes, .int v_given]))] _ := hP.sub [0] rfl
  have hD : va_D A [(a0, .inr (1, [.int v_control, .int v_changes, .int v_given]))] := hD.sub [0] (by decide) rfl
  refine lv_imul hx hb d_M_readChanges_10 ?_
  refine lv_iadd hx hb d_M_readChanges_11 ?_
  refine lv_istore_n (lv' := [(1, .int (v_changes + (16 * r_7))), (0, .ref a0)]) hx hb d_M_readChanges_12 rfl hl (by decide) rfl (fun ls hl => ?_)
  refine lv_aload_n hx hb d_M_readChanges_13 rfl (lv_at hl 1 rfl) ?_
  refine lv_iconst (v := 0) hx hb d_M_readChanges_14 (by decide) ?_
  refine va_put (D := (dC, dI)) (ci := 1) (v := .int 0) (ty := .int) (C := cls_M) (T := fld_M) (N := 3) hx hb ht iin_M typ_M tok_M nam_M hown hK hP hD hS 0 rfl rfl 1 (by decide) (ht _ k_M_28) (fun _ h9 => h9) rfl (tok_M 1 (by decide)) rfl rfl (Nat.le_of_ble_eq_true rfl) d_M_readChanges_15 (fun H locs hP hD hS => ?_)
  have hP : va_P (dC, dI) cls [(a0, .inr (1, [.int v_control, .int 0, .int v_given]))] _ := hP
  have hD : va_D A [(a0, .inr (1, [.int v_control, .int 0, .int v_given]))] := hD
  refine lv_iload_n hx hb d_M_readChanges_18 rfl (lv_at hl 0 rfl) ?_
  exact W.iret hx hb hr (fun t9 ht9 _ => ri_ (Option.some.inj hf) hP hD hS ht9) hS.2.2 d_M_readChanges_19
end
section
def f_S_add : LgT → Int32 → Option (LgT)
  | (v_size, v_latest), p_1 => gi_ (v_size &&& 31) 32 (some ((v_size + 1), (upd v_latest (v_size &&& 31).toNatClampNeg p_1)))
set_option maxHeartbeats 8000000 in
set_option maxRecDepth 100000 in
theorem c_S_add (l : Launch) (dC : Nat → ClassId) (dI : Nat → Nat → Nat) (cA : ClassId) (t : Nat) (a0 a_latest : Nat) (sz : Nat) (u : LgT) (p_1 : Int32) (q : LgT) (hf : f_S_add u p_1 = some q) : Met l y_S_add (Cond.code y_S_add b_S_add 2 none :: W0) ({ frames := 0, cells := 0, slots := 0, locals := 0 }) (va_Pc [.ref a0, .int p_1] (pc_ (dC, dI) [(cA, .int)] t sz (cw_S cA a0 a_latest u))) (qv_ (dC, dI) (cw_S cA a0 a_latest) q (va_A (cw_S cA a0 a_latest u) sz)) 0 0 (va_A (cw_S cA a0 a_latest u) sz) := by
  refine start_ l (qv_ (dC, dI) (cw_S cA a0 a_latest) q) (by decide) (Nat.le_of_ble_eq_true rfl) ?_
  intro p e s m below meth c hx hb hml hr hown ht hlocks hnm A hA hS hP hK hD hZ ls hl
  have hown : s.vm.findClass cls_S = some m.cls := hown
  refine wabs_ (fun WW wi wo => ?_)
  obtain ⟨v_size, v_latest⟩ := u
  unfold f_S_add at hf
  try dsimp only at hf
  have hP : va_P (dC, dI) cls [(a0, .inr (4, [.ref a_latest, .int v_size])), (a_latest, .inl (cA, 32, .inl v_latest))] _ := hP
  have hD : va_D A [(a0, .inr (4, [.ref a_latest, .int v_size])), (a_latest, .inl (cA, 32, .inl v_latest))] := hD
  refine wi _ _ _ ?_
  have hl : lv_has ls 2 [(0, .ref a0), (1, .int p_1)] := hl
  refine lv_aload_n hx hb d_S_add_0 rfl (lv_at hl 0 rfl) ?_
  refine va_get (D := (dC, dI)) (ci := 4) (v := .ref a_latest) (C := cls_S) (T := fld_S) (N := 2) hx hb ht iin_S hown hK hP 0 rfl rfl 0 (by decide) (ht _ k_S_11) (fun _ h9 => h9) rfl d_S_add_1 ?_
  refine lv_aload_n hx hb d_S_add_4 rfl (lv_at hl 0 rfl) ?_
  refine va_get (D := (dC, dI)) (ci := 4) (v := .int v_size) (C := cls_S) (T := fld_S) (N := 2) hx hb ht iin_S hown hK hP 0 rfl rfl 1 (by decide) (ht _ k_S_15) (fun _ h9 => h9) rfl d_S_add_5 ?_
  refine lv_bipush (v := 31) hx hb d_S_add_8 (by decide) ?_
  refine lv_iand hx hb d_S_add_10 ?_
  refine lv_iload_n hx hb d_S_add_11 rfl (lv_at hl 1 rfl) ?_
  obtain ⟨hi_12, hf⟩ := gi_e hf
  refine va_iast hx hb hK hP hD hS 1 0 rfl rfl hi_12 d_S_add_12 (fun H locs hP hD hS => ?_)
  have hP : va_P (dC, dI) cls [(a0, .inr (4, [.ref a_latest, .int v_size])), (a_latest, .inl (cA, 32, .inl (upd v_latest (v_size &&& 31).toNatClampNeg p_1)))] _ := hP
  have hD : va_D A [(a0, .inr (4, [.ref a_latest, .int v_size])), (a_latest, .inl (cA, 32, .inl (upd v_latest (v_size &&& 31).toNatClampNeg p_1)))] := hD
  refine lv_aload_n hx hb d_S_add_13 rfl (lv_at hl 0 rfl) ?_
  refine lv_dup hx hb d_S_add_14 rfl ?_
  refine va_get (D := (dC, dI)) (ci := 4) (v := .int v_size) (C := cls_S) (T := fld_S) (N := 2) hx hb ht iin_S hown hK hP 0 rfl rfl 1 (by decide) (ht _ k_S_15) (fun _ h9 => h9) rfl d_S_add_15 ?_
  refine lv_iconst (v := 1) hx hb d_S_add_18 (by decide) ?_
  refine lv_iadd hx hb d_S_add_19 ?_
  refine va_put (D := (dC, dI)) (ci := 4) (v := .int (v_size + 1)) (ty := .int) (C := cls_S) (T := fld_S) (N := 2) hx hb ht iin_S typ_S tok_S nam_S hown hK hP hD hS 0 rfl rfl 1 (by decide) (ht _ k_S_15) (fun _ h9 => h9) rfl (tok_S 1 (by decide)) rfl rfl (Nat.le_of_ble_eq_true rfl) d_S_add_20 (fun H locs hP hD hS => ?_)
  have hP : va_P (dC, dI) cls [(a0, .inr (4, [.ref a_latest, .int (v_size + 1)])), (a_latest, .inl (cA, 32, .inl (upd v_latest (v_size &&& 31).toNatClampNeg p_1)))] _ := hP
  have hD : va_D A [(a0, .inr (4, [.ref a_latest, .int (v_size + 1)])), (a_latest, .inl (cA, 32, .inl (upd v_latest (v_size &&& 31).toNatClampNeg p_1)))] := hD
  exact W.vret hx hb hr (fun t9 ht9 _ => rv_ (Option.some.inj hf) hP hD hS ht9) hS.2.2 d_S_add_23
def f_S_backFromLatest_18 : LgT → Option (Int32)
  | (v_size, v_latest) => some (-1)
def f_S_backFromLatest : LgT → Int32 → Option (Int32)
  | (v_size, v_latest), p_1 => if p_1 < 0 then (f_S_backFromLatest_18 (v_size, v_latest)) else (if 31 < p_1 then (f_S_backFromLatest_18 (v_size, v_latest)) else (if p_1 < v_size then (gi_ (((v_size - 1) - p_1) &&& 31) 32 (some (v_latest (((v_size - 1) - p_1) &&& 31).toNatClampNeg))) else (f_S_backFromLatest_18 (v_size, v_latest))))
set_option maxHeartbeats 8000000 in
set_option maxRecDepth 100000 in
theorem c_S_backFromLatest (l : Launch) (dC : Nat → ClassId) (dI : Nat → Nat → Nat) (cA : ClassId) (t : Nat) (a0 a_latest : Nat) (sz : Nat) (u : LgT) (p_1 : Int32) (q : Int32) (hf : f_S_backFromLatest u p_1 = some q) : Met l y_S_backFromLatest (Cond.code y_S_backFromLatest b_S_backFromLatest 2 (some .int) :: W0) ({ frames := 0, cells := 0, slots := 0, locals := 0 }) (va_Pc [.ref a0, .int p_1] (pc_ (dC, dI) [(cA, .int)] t sz (cw_S cA a0 a_latest u))) (qr_ (dC, dI) (cw_S cA a0 a_latest u) q (va_A (cw_S cA a0 a_latest u) sz)) 0 0 (va_A (cw_S cA a0 a_latest u) sz) := by
  obtain ⟨v_size, v_latest⟩ := u
  refine start_ l (qr_ (dC, dI) _ q) (by decide) (Nat.le_of_ble_eq_true rfl) ?_
  intro p e s m below meth c hx hb hml hr hown ht hlocks hnm A hA hS hP hK hD hZ ls hl
  have hown : s.vm.findClass cls_S = some m.cls := hown
  refine wabs_ (fun WW wi wo => ?_)
  have k_18 : f_S_backFromLatest_18 (v_size, v_latest) = some q → ∀ (H : Heap) (locs : List Loc) (ls : Array Slot), va_P (dC, dI) cls [(a0, .inr (4, [.ref a_latest, .int v_size])), (a_latest, .inl (cA, 32, .inl v_latest))] H → va_D A [(a0, .inr (4, [.ref a_latest, .int v_size])), (a_latest, .inl (cA, 32, .inl v_latest))] → va_S A s.heap H locs → lv_has ls 2 [] → WW H locs (F0 m 18 ls []) := by
    intro hf H locs ls hP hD hS hl
    unfold f_S_backFromLatest_18 at hf
    try dsimp only at hf
    have hP : va_P (dC, dI) cls [(a0, .inr (4, [.ref a_latest, .int v_size])), (a_latest, .inl (cA, 32, .inl v_latest))] _ := hP
    have hD : va_D A [(a0, .inr (4, [.ref a_latest, .int v_size])), (a_latest, .inl (cA, 32, .inl v_latest))] := hD
    refine wi _ _ _ ?_
    refine lv_iconst (v := (-1)) hx hb d_S_backFromLatest_18 (by decide) ?_
    exact W.iret hx hb hr (fun t9 ht9 _ => rr_ (Option.some.inj hf) hP hD hS ht9) hS.2.2 d_S_backFromLatest_19
  unfold f_S_backFromLatest at hf
  try dsimp only at hf
  have hP : va_P (dC, dI) cls [(a0, .inr (4, [.ref a_latest, .int v_size])), (a_latest, .inl (cA, 32, .inl v_latest))] _ := hP
  have hD : va_D A [(a0, .inr (4, [.ref a_latest, .int v_size])), (a_latest, .inl (cA, 32, .inl v_latest))] := hD
  refine wi _ _ _ ?_
  have hl : lv_has ls 2 [(0, .ref a0), (1, .int p_1)] := hl
  refine lv_iload_n hx hb d_S_backFromLatest_0 rfl (lv_at hl 1 rfl) ?_
  refine lv_if_lt (tgt := 18) hx hb d_S_backFromLatest_1 (by decide) (fun c_1 => ?_) (fun c_1 => ?_)
  · have hf := ite_t hf c_1
    exact wo _ _ _ (k_18  hf _ _ _ hP hD hS (lv_sub hl [] rfl))
  · have hf := ite_f hf c_1
    refine lv_iload_n hx hb d_S_backFromLatest_4 rfl (lv_at hl 1 rfl) ?_
    refine lv_bipush (v := 31) hx hb d_S_backFromLatest_5 (by decide) ?_
    refine lv_icmp_gt (tgt := 18) hx hb d_S_backFromLatest_7 (by decide) (fun c_7 => ?_) (fun c_7 => ?_)
    · have hf := ite_t hf c_7
      exact wo _ _ _ (k_18  hf _ _ _ hP hD hS (lv_sub hl [] rfl))
    · have hf := ite_f hf c_7
      refine lv_iload_n hx hb d_S_backFromLatest_10 rfl (lv_at hl 1 rfl) ?_
      refine lv_aload_n hx hb d_S_backFromLatest_11 rfl (lv_at hl 0 rfl) ?_
      refine va_get (D := (dC, dI)) (ci := 4) (v := .int v_size) (C := cls_S) (T := fld_S) (N := 2) hx hb ht iin_S hown hK hP 0 rfl rfl 1 (by decide) (ht _ k_S_15) (fun _ h9 => h9) rfl d_S_backFromLatest_12 ?_
      refine lv_icmp_lt (tgt := 20) hx hb d_S_backFromLatest_15 (by decide) (fun c_15 => ?_) (fun c_15 => ?_)
      · have hf := ite_t hf c_15
        refine lv_aload_n hx hb d_S_backFromLatest_20 rfl (lv_at hl 0 rfl) ?_
        refine va_get (D := (dC, dI)) (ci := 4) (v := .ref a_latest) (C := cls_S) (T := fld_S) (N := 2) hx hb ht iin_S hown hK hP 0 rfl rfl 0 (by decide) (ht _ k_S_11) (fun _ h9 => h9) rfl d_S_backFromLatest_21 ?_
        refine lv_aload_n hx hb d_S_backFromLatest_24 rfl (lv_at hl 0 rfl) ?_
        refine va_get (D := (dC, dI)) (ci := 4) (v := .int v_size) (C := cls_S) (T := fld_S) (N := 2) hx hb ht iin_S hown hK hP 0 rfl rfl 1 (by decide) (ht _ k_S_15) (fun _ h9 => h9) rfl d_S_backFromLatest_25 ?_
        refine lv_iconst (v := 1) hx hb d_S_backFromLatest_28 (by decide) ?_
        refine lv_isub hx hb d_S_backFromLatest_29 ?_
        refine lv_iload_n hx hb d_S_backFromLatest_30 rfl (lv_at hl 1 rfl) ?_
        refine lv_isub hx hb d_S_backFromLatest_31 ?_
        refine lv_bipush (v := 31) hx hb d_S_backFromLatest_32 (by decide) ?_
        refine lv_iand hx hb d_S_backFromLatest_34 ?_
        obtain ⟨hi_35, hf⟩ := gi_e hf
        refine va_iald hx hb hK hP 1 0 rfl rfl hi_35 d_S_backFromLatest_35 ?_
        exact W.iret hx hb hr (fun t9 ht9 _ => rr_ (Option.some.inj hf) hP hD hS ht9) hS.2.2 d_S_backFromLatest_36
      · have hf := ite_f hf c_15
        exact wo _ _ _ (k_18  hf _ _ _ hP hD hS (lv_sub hl [] rfl))
end
section
def f_P_hasRegister_15 : Int32 → Option (Int32)
  | s_1 => gb_ s_1 (some s_1)
def f_P_hasRegister_14 : Option (Int32) := f_P_hasRegister_15 0
def f_P_hasRegister : Int32 → Option (Int32)
  | p_0 => if p_0 < 0 then (f_P_hasRegister_14 ) else (if 7 < p_0 then (f_P_hasRegister_14 ) else (f_P_hasRegister_15 1))
set_option maxHeartbeats 8000000 in
set_option maxRecDepth 100000 in
theorem c_P_hasRegister (l : Launch) (dC : Nat → ClassId) (dI : Nat → Nat → Nat) (cA : ClassId) (t : Nat) (sz : Nat) (p_0 : Int32) (q : Int32) (hf : f_P_hasRegister p_0 = some q) : Met l y_P_hasRegister (Cond.code y_P_hasRegister b_P_hasRegister 1 (some .boolean) :: W0) ({ frames := 0, cells := 0, slots := 0, locals := 0 }) (va_Pc [.int p_0] (pc_ (dC, dI) [(cA, .int)] t sz [])) (qr_ (dC, dI) [] q (va_A [] sz)) 0 0 (va_A [] sz) := by
  refine start_ l (qr_ (dC, dI) _ q) (by decide) (Nat.le_of_ble_eq_true rfl) ?_
  intro p e s m below meth c hx hb hml hr hown ht hlocks hnm A hA hS hP hK hD hZ ls hl
  have hown : s.vm.findClass cls_P = some m.cls := hown
  refine wabs_ (fun WW wi wo => ?_)
  have k_15 : ∀ (s_1 : Int32), f_P_hasRegister_15 s_1 = some q → ∀ (H : Heap) (locs : List Loc) (ls : Array Slot), va_P (dC, dI) cls [] H → va_D A [] → va_S A s.heap H locs → lv_has ls 1 [] → WW H locs (F0 m 15 ls [.int s_1]) := by
    intro s_1 hf H locs ls hP hD hS hl
    unfold f_P_hasRegister_15 at hf
    try dsimp only at hf
    refine wi _ _ _ ?_
    obtain ⟨hb_15, hf⟩ := gb_e hf
    exact W.zret hx hb hr hb_15.1 (fun t9 ht9 _ => rr_ (Option.some.inj hf) hP hD hS ht9) hS.2.2 d_P_hasRegister_15
  have k_14 : f_P_hasRegister_14 = some q → ∀ (H : Heap) (locs : List Loc) (ls : Array Slot), va_P (dC, dI) cls [] H → va_D A [] → va_S A s.heap H locs → lv_has ls 1 [] → WW H locs (F0 m 14 ls []) := by
    intro hf H locs ls hP hD hS hl
    unfold f_P_hasRegister_14 at hf
    try dsimp only at hf
    refine wi _ _ _ ?_
    refine lv_iconst (v := 0) hx hb d_P_hasRegister_14 (by decide) ?_
    exact wo _ _ _ (k_15 0 hf _ _ _ hP hD hS (lv_sub hl [] rfl))
  unfold f_P_hasRegister at hf
  try dsimp only at hf
  refine wi _ _ _ ?_
  have hl : lv_has ls 1 [(0, .int p_0)] := hl
  refine lv_iload_n hx hb d_P_hasRegister_0 rfl (lv_at hl 0 rfl) ?_
  refine lv_if_lt (tgt := 14) hx hb d_P_hasRegister_1 (by decide) (fun c_1 => ?_) (fun c_1 => ?_)
  · have hf := ite_t hf c_1
    exact wo _ _ _ (k_14  hf _ _ _ hP hD hS (lv_sub hl [] rfl))
  · have hf := ite_f hf c_1
    refine lv_iload_n hx hb d_P_hasRegister_4 rfl (lv_at hl 0 rfl) ?_
    refine lv_bipush (v := 7) hx hb d_P_hasRegister_5 (by decide) ?_
    refine lv_icmp_gt (tgt := 14) hx hb d_P_hasRegister_7 (by decide) (fun c_7 => ?_) (fun c_7 => ?_)
    · have hf := ite_t hf c_7
      exact wo _ _ _ (k_14  hf _ _ _ hP hD hS (lv_sub hl [] rfl))
    · have hf := ite_f hf c_7
      refine lv_iconst (v := 1) hx hb d_P_hasRegister_10 (by decide) ?_
      refine lv_goto (tgt := 15) hx hb d_P_hasRegister_11 (by decide) ?_
      exact wo _ _ _ (k_15 1 hf _ _ _ hP hD hS (lv_sub hl [] rfl))
def f_P_usesOtherBank_16 : PtT → Int32 → Option (Int32)
  | (v_queued, v_level, v_enabled, v_format, v_spare, v_low, v_high, v_overrun, v_vacated, v_quiet, v_shifting, v_ticksToGo, (v_in_limit, v_in_first, v_in_size, v_in_places), (v_out_limit, v_out_first, v_out_size, v_out_places), (v_modem_control, v_modem_changes, v_modem_given), (v_log_size, v_log_latest)), s_1 => gb_ s_1 (some s_1)
def f_P_usesOtherBank : PtT → Option (Int32)
  | (v_queued, v_level, v_enabled, v_format, v_spare, v_low, v_high, v_overrun, v_vacated, v_quiet, v_shifting, v_ticksToGo, (v_in_limit, v_in_first, v_in_size, v_in_places), (v_out_limit, v_out_first, v_out_size, v_out_places), (v_modem_control, v_modem_changes, v_modem_given), (v_log_size, v_log_latest)) => if (v_format &&& 128) = 0 then (f_P_usesOtherBank_16 (v_queued, v_level, v_enabled, v_format, v_spare, v_low, v_high, v_overrun, v_vacated, v_quiet, v_shifting, v_ticksToGo, (v_in_limit, v_in_first, v_in_size, v_in_places), (v_out_limit, v_out_first, v_out_size, v_out_places), (v_modem_control, v_modem_changes, v_modem_given), (v_log_size, v_log_latest)) 0) else (f_P_usesOtherBank_16 (v_queued, v_level, v_enabled, v_format, v_spare, v_low, v_high, v_overrun, v_vacated, v_quiet, v_shifting, v_ticksToGo, (v_in_limit, v_in_first, v_in_size, v_in_places), (v_out_limit, v_out_first, v_out_size, v_out_places), (v_modem_control, v_modem_changes, v_modem_given), (v_log_size, v_log_latest)) 1)
set_option maxHeartbeats 8000000 in
set_option maxRecDepth 100000 in
theorem c_P_usesOtherBank (l : Launch) (dC : Nat → ClassId) (dI : Nat → Nat → Nat) (cA : ClassId) (t : Nat) (a0 a_in a_in_places a_out a_out_places a_modem a_log a_log_latest : Nat) (sz : Nat) (u : PtT) (q : Int32) (hf : f_P_usesOtherBank u = some q) : Met l y_P_usesOtherBank (Cond.code y_P_usesOtherBank b_P_usesOtherBank 1 (some .boolean) :: W0) ({ frames := 0, cells := 0, slots := 0, locals := 0 }) (va_Pc [.ref a0] (pc_ (dC, dI) [(cA, .int)] t sz (cw_P cA a0 a_in a_in_places a_out a_out_places a_modem a_log a_log_latest u))) (qr_ (dC, dI) (cw_P cA a0 a_in a_in_places a_out a_out_places a_modem a_log a_log_latest u) q (va_A (cw_P cA a0 a_in a_in_places a_out a_out_places a_modem a_log a_log_latest u) sz)) 0 0 (va_A (cw_P cA a0 a_in a_in_places a_out a_out_places a_modem a_log a_log_latest u) sz) := by
  obtain ⟨v_queued, v_level, v_enabled, v_format, v_spare, v_low, v_high, v_overrun, v_vacated, v_quiet, v_shifting, v_ticksToGo, ⟨v_in_limit, v_in_first, v_in_size, v_in_places⟩, ⟨v_out_limit, v_out_first, v_out_size, v_out_places⟩, ⟨v_modem_control, v_modem_changes, v_modem_given⟩, ⟨v_log_size, v_log_latest⟩⟩ := u
  refine start_ l (qr_ (dC, dI) _ q) (by decide) (Nat.le_of_ble_eq_true rfl) ?_
  intro p e s m below meth c hx hb hml hr hown ht hlocks hnm A hA hS hP hK hD hZ ls hl
  have hown : s.vm.findClass cls_P = some m.cls := hown
  refine wabs_ (fun WW wi wo => ?_)
  have k_16 : ∀ (s_1 : Int32), f_P_usesOtherBank_16 (v_queued, v_level, v_enabled, v_format, v_spare, v_low, v_high, v_overrun, v_vacated, v_quiet, v_shifting, v_ticksToGo, (v_in_limit, v_in_first, v_in_size, v_in_places), (v_out_limit, v_out_first, v_out_size, v_out_places), (v_modem_control, v_modem_changes, v_modem_given), (v_log_size, v_log_latest)) s_1 = some q → ∀ (H : Heap) (locs : List Loc) (ls : Array Slot), va_P (dC, dI) cls [(a0, .inr (2, [.ref a_in, .ref a_out, .ref a_modem, .ref a_log, .int v_queued, .int v_level, .int v_enabled, .int v_format, .int v_spare, .int v_low, .int v_high, .int v_overrun, .int v_vacated, .int v_quiet, .int v_shifting, .int v_ticksToGo])), (a_in, .inr (3, [.ref a_in_places, .int v_in_limit, .int v_in_first, .int v_in_size])), (a_in_places, .inl (cA, 32, .inl v_in_places)), (a_out, .inr (3, [.ref a_out_places, .int v_out_limit, .int v_out_first, .int v_out_size])), (a_out_places, .inl (cA, 32, .inl v_out_places)), (a_modem, .inr (1, [.int v_modem_control, .int v_modem_changes, .int v_modem_given])), (a_log, .inr (4, [.ref a_log_latest, .int v_log_size])), (a_log_latest, .inl (cA, 32, .inl v_log_latest))] H → va_D A [(a0, .inr (2, [.ref a_in, .ref a_out, .ref a_modem, .ref a_log, .int v_queued, .int v_level, .int v_enabled, .int v_format, .int v_spare, .int v_low, .int v_high, .int v_overrun, .int v_vacated, .int v_quiet, .int v_shifting, .int v_ticksToGo])), (a_in, .inr (3, [.ref a_in_places, .int v_in_limit, .int v_in_first, .int v_in_size])), (a_in_places, .inl (cA, 32, .inl v_in_places)), (a_out, .inr (3, [.ref a_out_places, .int v_out_limit, .int v_out_first, .int v_out_size])), (a_out_places, .inl (cA, 32, .inl v_out_places)), (a_modem, .inr (1, [.int v_modem_control, .int v_modem_changes, .int v_modem_given])), (a_log, .inr (4, [.ref a_log_latest, .int v_log_size])), (a_log_latest, .inl (cA, 32, .inl v_log_latest))] → va_S A s.heap H locs → lv_has ls 1 [] → WW H locs (F0 m 16 ls [.int s_1]) := by
    intro s_1 hf H locs ls hP hD hS hl
    unfold f_P_usesOtherBank_16 at hf
    try dsimp only at hf
    have hP : va_P (dC, dI) cls [(a0, .inr (2, [.ref a_in, .ref a_out, .ref a_modem, .ref a_log, .int v_queued, .int v_level, .int v_enabled, .int v_format, .int v_spare, .int v_low, .int v_high, .int v_overrun, .int v_vacated, .int v_quiet, .int v_shifting, .int v_ticksToGo])), (a_in, .inr (3, [.ref a_in_places, .int v_in_limit, .int v_in_first, .int v_in_size])), (a_in_places, .inl (cA, 32, .inl v_in_places)), (a_out, .inr (3, [.ref a_out_places, .int v_out_limit, .int v_out_first, .int v_out_size])), (a_out_places, .inl (cA, 32, .inl v_out_places)), (a_modem, .inr (1, [.int v_modem_control, .int v_modem_changes, .int v_modem_given])), (a_log, .inr (4, [.ref a_log_latest, .int v_log_size])), (a_log_latest, .inl (cA, 32, .inl v_log_latest))] _ := hP
    have hD : va_D A [(a0, .inr (2, [.ref a_in, .ref a_out, .ref a_modem, .ref a_log, .int v_queued, .int v_level, .int v_enabled, .int v_format, .int v_spare, .int v_low, .int v_high, .int v_overrun, .int v_vacated, .int v_quiet, .int v_shifting, .int v_ticksToGo])), (a_in, .inr (3, [.ref a_in_places, .int v_in_limit, .int v_in_first, .int v_in_size])), (a_in_places, .inl (cA, 32, .inl v_in_places)), (a_out, .inr (3, [.ref a_out_places, .int v_out_limit, .int v_out_first, .int v_out_size])), (a_out_places, .inl (cA, 32, .inl v_out_places)), (a_modem, .inr (1, [.int v_modem_control, .int v_modem_changes, .int v_modem_given])), (a_log, .inr (4, [.ref a_log_latest, .int v_log_size])), (a_log_latest, .inl (cA, 32, .inl v_log_latest))] := hD
    refine wi _ _ _ ?_
    obtain ⟨hb_16, hf⟩ := gb_e hf
    exact W.zret hx hb hr hb_16.1 (fun t9 ht9 _ => rr_ (Option.some.inj hf) hP hD hS ht9) hS.2.2 d_P_usesOtherBank_16
  unfold f_P_usesOtherBank at hf
  try dsimp only at hf
  have hP : va_P (dC, dI) cls [(a0, .inr (2, [.ref a_in, .ref a_out, .ref a_modem, .ref a_log, .int v_queued, .int v_level, .int v_enabled, .int v_format, .int v_spare, .int v_low, .int v_high, .int v_overrun, .int v_vacated, .int v_quiet, .int v_shifting, .int v_ticksToGo])), (a_in, .inr (3, [.ref a_in_places, .int v_in_limit, .int v_in_first, .int v_in_size])), (a_in_places, .inl (cA, 32, .inl v_in_places)), (a_out, .inr (3, [.ref a_out_places, .int v_out_limit, .int v_out_first, .int v_out_size])), (a_out_places, .inl (cA, 32, .inl v_out_places)), (a_modem, .inr (1, [.int v_modem_control, .int v_modem_changes, .int v_modem_given])), (a_log, .inr (4, [.ref a_log_latest, .int v_log_size])), (a_log_latest, .inl (cA, 32, .inl v_log_latest))] _ := hP
  have hD : va_D A [(a0, .inr (2, [.ref a_in, .ref a_out, .ref a_modem, .ref a_log, .int v_queued, .int v_level, .int v_enabled, .int v_format, .int v_spare, .int v_low, .int v_high, .int v_overrun, .int v_vacated, .int v_quiet, .int v_shifting, .int v_ticksToGo])), (a_in, .inr (3, [.ref a_in_places, .int v_in_limit, .int v_in_first, .int v_in_size])), (a_in_places, .inl (cA, 32, .inl v_in_places)), (a_out, .inr (3, [.ref a_out_places, .int v_out_limit, .int v_out_first, .int v_out_size])), (a_out_places, .inl (cA, 32, .inl v_out_places)), (a_modem, .inr (1, [.int v_modem_control, .int v_modem_changes, .int v_modem_given])), (a_log, .inr (4, [.ref a_log_latest, .int v_log_size])), (a_log_latest, .inl (cA, 32, .inl v_log_latest))] := hD
  refine wi _ _ _ ?_
  have hl : lv_has ls 1 [(0, .ref a0)] := hl
  refine lv_aload_n hx hb d_P_usesOtherBank_0 rfl (lv_at hl 0 rfl) ?_
  refine va_get (D := (dC, dI)) (ci := 2) (v := .int v_format) (C := cls_P) (T := fld_P) (N := 16) hx hb ht iin_P hown hK hP 0 rfl rfl 7 (by decide) (ht _ k_P_59) (fun _ h9 => h9) rfl d_P_usesOtherBank_1 ?_
  refine lv_sipush (v := 128) hx hb d_P_usesOtherBank_4 (by decide) ?_
  refine lv_iand hx hb d_P_usesOtherBank_7 ?_
  refine lv_if_eq (tgt := 15) hx hb d_P_usesOtherBank_8 (by decide) (fun c_8 => ?_) (fun c_8 => ?_)
  · have hf := ite_t hf c_8
    refine lv_iconst (v := 0) hx hb d_P_usesOtherBank_15 (by decide) ?_
    exact wo _ _ _ (k_16 0 hf _ _ _ hP hD hS (lv_sub hl [] rfl))
  · have hf := ite_f hf c_8
    refine lv_iconst (v := 1) hx hb d_P_usesOtherBank_11 (by decide) ?_
    refine lv_goto (tgt := 16) hx hb d_P_usesOtherBank_12 (by decide) ?_
    exact wo _ _ _ (k_16 1 hf _ _ _ hP hD hS (lv_sub hl [] rfl))
def f_P_span_23 : PtT → Int32 → Option (Int32)
  | (v_queued, v_level, v_enabled, v_format, v_spare, v_low, v_high, v_overrun, v_vacated, v_quiet, v_shifting, v_ticksToGo, (v_in_limit, v_in_first, v_in_size, v_in_places), (v_out_limit, v_out_first, v_out_size, v_out_places), (v_modem_control, v_modem_changes, v_modem_given), (v_log_size, v_log_latest)), s_1 => some s_1
def f_P_span : PtT → Option (Int32)
  | (v_queued, v_level, v_enabled, v_format, v_spare, v_low, v_high, v_overrun, v_vacated, v_quiet, v_shifting, v_ticksToGo, (v_in_limit, v_in_first, v_in_size, v_in_places), (v_out_limit, v_out_first, v_out_size, v_out_places), (v_modem_control, v_modem_changes, v_modem_given), (v_log_size, v_log_latest)) => if (v_low + (256 * v_high)) = 0 then (f_P_span_23 (v_queued, v_level, v_enabled, v_format, v_spare, v_low, v_high, v_overrun, v_vacated, v_quiet, v_shifting, v_ticksToGo, (v_in_limit, v_in_first, v_in_size, v_in_places), (v_out_limit, v_out_first, v_out_size, v_out_places), (v_modem_control, v_modem_changes, v_modem_given), (v_log_size, v_log_latest)) 1) else (f_P_span_23 (v_queued, v_level, v_enabled, v_format, v_spare, v_low, v_high, v_overrun, v_vacated, v_quiet, v_shifting, v_ticksToGo, (v_in_limit, v_in_first, v_in_size, v_in_places), (v_out_limit, v_out_first, v_out_size, v_out_places), (v_modem_control, v_modem_changes, v_modem_given), (v_log_size, v_log_latest)) (v_low + (256 * v_high)))
set_option maxHeartbeats 8000000 in
set_option maxRecDepth 100000 in
theorem c_P_span (l : Launch) (dC : Nat → ClassId) (dI : Nat → Nat → Nat) (cA : ClassId) (t : Nat) (a0 a_in a_in_places a_out a_out_places a_modem a_log a_log_latest : Nat) (sz : Nat) (u : PtT) (q : Int32) (hf : f_P_span u = some q) : Met l y_P_span (Cond.code y_P_span b_P_span 2 (some .int) :: W0) ({ frames := 0, cells := 0, slots := 0, locals := 0 }) (va_Pc [.ref a0] (pc_ (dC, dI) [(cA, .int)] t sz (cw_P cA a0 a_in a_in_places a_out a_out_places a_modem a_log a_log_latest u))) (qr_ (dC, dI) (cw_P cA a0 a_in a_in_places a_out a_out_places a_modem a_log a_log_latest u) q (va_A (cw_P cA a0 a_in a_in_places a_out a_out_places a_modem a_log a_log_latest u) sz)) 0 0 (va_A (cw_P cA a0 a_in a_in_places a_out a_out_places a_modem a_log a_log_latest u) sz) := by
  obtain ⟨v_queued, v_level, v_enabled, v_format, v_spare, v_low, v_high, v_overrun, v_vacated, v_quiet, v_shifting, v_ticksToGo, ⟨v_in_limit, v_in_first, v_in_size, v_in_places⟩, ⟨v_out_limit, v_out_first, v_out_size, v_out_places⟩, ⟨v_modem_control, v_modem_changes, v_modem_given⟩, ⟨v_log_size, v_log_latest⟩⟩ := u
  refine start_ l (qr_ (dC, dI) _ q) (by decide) (Nat.le_of_ble_eq_true rfl) ?_
  intro p e s m below meth c hx hb hml hr hown ht hlocks hnm A hA hS hP hK hD hZ ls hl
  have hown : s.vm.findClass cls_P = some m.cls := hown
  refine wabs_ (fun WW wi wo => ?_)
  have k_23 : ∀ (s_1 : Int32), f_P_span_23 (v_queued, v_level, v_enabled, v_format, v_spare, v_low, v_high, v_overrun, v_vacated, v_quiet, v_shifting, v_ticksToGo, (v_in_limit, v_in_first, v_in_size, v_in_places), (v_out_limit, v_out_first, v_out_size, v_out_places), (v_modem_control, v_modem_changes, v_modem_given), (v_log_size, v_log_latest)) s_1 = some q → ∀ (H : Heap) (locs : List Loc) (ls : Array Slot), va_P (dC, dI) cls [(a0, .inr (2, [.ref a_in, .ref a_out, .ref a_modem, .ref a_log, .int v_queued, .int v_level, .int v_enabled, .int v_format, .int v_spare, .int v_low, .int v_high, .int v_overrun, .int v_vacated, .int v_quiet, .int v_shifting, .int v_ticksToGo])), (a_in, .inr (3, [.ref a_in_places, .int v_in_limit, .int v_in_first, .int v_in_size])), (a_in_places, .inl (cA, 32, .inl v_in_places)), (a_out, .inr (3, [.ref a_out_places, .int v_out_limit, .int v_out_first, .int v_out_size])), (a_out_places, .inl (cA, 32, .inl v_out_places)), (a_modem, .inr (1, [.int v_modem_control, .int v_modem_changes, .int v_modem_given])), (a_log, .inr (4, [.ref a_log_latest, .int v_log_size])), (a_log_latest, .inl (cA, 32, .inl v_log_latest))] H → va_D A [(a0, .inr (2, [.ref a_in, .ref a_out, .ref a_modem, .ref a_log, .int v_queued, .int v_level, .int v_enabled, .int v_format, .int v_spare, .int v_low, .int v_high, .int v_overrun, .int v_vacated, .int v_quiet, .int v_shifting, .int v_ticksToGo])), (a_in, .inr (3, [.ref a_in_places, .int v_in_limit, .int v_in_first, .int v_in_size])), (a_in_places, .inl (cA, 32, .inl v_in_places)), (a_out, .inr (3, [.ref a_out_places, .int v_out_limit, .int v_out_first, .int v_out_size])), (a_out_places, .inl (cA, 32, .inl v_out_places)), (a_modem, .inr (1, [.int v_modem_control, .int v_modem_changes, .int v_modem_given])), (a_log, .inr (4, [.ref a_log_latest, .int v_log_size])), (a_log_latest, .inl (cA, 32, .inl v_log_latest))] → va_S A s.heap H locs → lv_has ls 2 [] → WW H locs (F0 m 23 ls [.int s_1]) := by
    intro s_1 hf H locs ls hP hD hS hl
    unfold f_P_span_23 at hf
    try dsimp only at hf
    have hP : va_P (dC, dI) cls [(a0, .inr (2, [.ref a_in, .ref a_out, .ref a_modem, .ref a_log, .int v_queued, .int v_level, .int v_enabled, .int v_format, .int v_spare, .int v_low, .int v_high, .int v_overrun, .int v_vacated, .int v_quiet, .int v_shifting, .int v_ticksToGo])), (a_in, .inr (3, [.ref a_in_places, .int v_in_limit, .int v_in_first, .int v_in_size])), (a_in_places, .inl (cA, 32, .inl v_in_places)), (a_out, .inr (3, [.ref a_out_places, .int v_out_limit, .int v_out_first, .int v_out_size])), (a_out_places, .inl (cA, 32, .inl v_out_places)), (a_modem, .inr (1, [.int v_modem_control, .int v_modem_changes, .int v_modem_given])), (a_log, .inr (4, [.ref a_log_latest, .int v_log_size])), (a_log_latest, .inl (cA, 32, .inl v_log_latest))] _ := hP
    have hD : va_D A [(a0, .inr (2, [.ref a_in, .ref a_out, .ref a_modem, .ref a_log, .int v_queued, .int v_level, .int v_enabled, .int v_format, .int v_spare, .int v_low, .int v_high, .int v_overrun, .int v_vacated, .int v_quiet, .int v_shifting, .int v_ticksToGo])), (a_in, .inr (3, [.ref a_in_places, .int v_in_limit, .int v_in_first, .int v_in_size])), (a_in_places, .inl (cA, 32, .inl v_in_places)), (a_out, .inr (3, [.ref a_out_places, .int v_out_limit, .int v_out_first, .int v_out_size])), (a_out_places, .inl (cA, 32, .inl v_out_places)), (a_modem, .inr (1, [.int v_modem_control, .int v_modem_changes, .int v_modem_given])), (a_log, .inr (4, [.ref a_log_latest, .int v_log_size])), (a_log_latest, .inl (cA, 32, .inl v_log_latest))] := hD
    refine wi _ _ _ ?_
    exact W.iret hx hb hr (fun t9 ht9 _ => rr_ (Option.some.inj hf) hP hD hS ht9) hS.2.2 d_P_span_23
  unfold f_P_span at hf
  try dsimp only at hf
  have hP : va_P (dC, dI) cls [(a0, .inr (2, [.ref a_in, .ref a_out, .ref a_modem, .ref a_log, .int v_queued, .int v_level, .int v_enabled, .int v_format, .int v_spare, .int v_low, .int v_high, .int v_overrun, .int v_vacated, .int v_quiet, .int v_shifting, .int v_ticksToGo])), (a_in, .inr (3, [.ref a_in_places, .int v_in_limit, .int v_in_first, .int v_in_size])), (a_in_places, .inl (cA, 32, .inl v_in_places)), (a_out, .inr (3, [.ref a_out_places, .int v_out_limit, .int v_out_first, .int v_out_size])), (a_out_places, .inl (cA, 32, .inl v_out_places)), (a_modem, .inr (1, [.int v_modem_control, .int v_modem_changes, .int v_modem_given])), (a_log, .inr (4, [.ref a_log_latest, .int v_log_size])), (a_log_latest, .inl (cA, 32, .inl v_log_latest))] _ := hP
  have hD : va_D A [(a0, .inr (2, [.ref a_in, .ref a_out, .ref a_modem, .ref a_log, .int v_queued, .int v_level, .int v_enabled, .int v_format, .int v_spare, .int v_low, .int v_high, .int v_overrun, .int v_vacated, .int v_quiet, .int v_shifting, .int v_ticksToGo])), (a_in, .inr (3, [.ref a_in_places, .int v_in_limit, .int v_in_first, .int v_in_size])), (a_in_places, .inl (cA, 32, .inl v_in_places)), (a_out, .inr (3, [.ref a_out_places, .int v_out_limit, .int v_out_first, .int v_out_size])), (a_out_places, .inl (cA, 32, .inl v_out_places)), (a_modem, .inr (1, [.int v_modem_control, .int v_modem_changes, .int v_modem_given])), (a_log, .inr (4, [.ref a_log_latest, .int v_log_size])), (a_log_latest, .inl (cA, 32, .inl v_log_latest))] := hD
  refine wi _ _ _ ?_
  have hl : lv_has ls 2 [(0, .ref a0)] := hl
  refine lv_aload_n hx hb d_P_span_0 rfl (lv_at hl 0 rfl) ?_
  refine va_get (D := (dC, dI)) (ci := 2) (v := .int v_low) (C := cls_P) (T := fld_P) (N := 16) hx hb ht iin_P hown hK hP 0 rfl rfl 9 (by decide) (ht _ k_P_39) (fun _ h9 => h9) rfl d_P_span_1 ?_
  refine lv_sipush (v := 256) hx hb d_P_span_4 (by decide) ?_
  refine lv_aload_n hx hb d_P_span_7 rfl (lv_at hl 0 rfl) ?_
  refine va_get (D := (dC, dI)) (ci := 2) (v := .int v_high) (C := cls_P) (T := fld_P) (N := 16) hx hb ht iin_P hown hK hP 0 rfl rfl 10 (by decide) (ht _ k_P_50) (fun _ h9 => h9) rfl d_P_span_8 ?_
  refine lv_imul hx hb d_P_span_11 ?_
  refine lv_iadd hx hb d_P_span_12 ?_
  refine lv_istore_n (lv' := [(1, .int (v_low + (256 * v_high))), (0, .ref a0)]) hx hb d_P_span_13 rfl hl (by decide) rfl (fun ls hl => ?_)
  refine lv_iload_n hx hb d_P_span_14 rfl (lv_at hl 0 rfl) ?_
  refine lv_if_ne (tgt := 22) hx hb d_P_span_15 (by decide) (fun c_15 => ?_) (fun c_15 => ?_)
  · have hf := ite_f hf c_15
    refine lv_iload_n hx hb d_P_span_22 rfl (lv_at hl 0 rfl) ?_
    exact wo _ _ _ (k_23 (v_low + (256 * v_high)) hf _ _ _ hP hD hS (lv_sub hl [] rfl))
  · have hf := ite_t hf c_15
    refine lv_iconst (v := 1) hx hb d_P_span_18 (by decide) ?_
    refine lv_goto (tgt := 23) hx hb d_P_span_19 (by decide) ?_
    exact wo _ _ _ (k_23 1 hf _ _ _ hP hD hS (lv_sub hl [] rfl))
def f_P_findCause_150 : PtT → Option (Int32)
  | (v_queued, v_level, v_enabled, v_format, v_spare, v_low, v_high, v_overrun, v_vacated, v_quiet, v_shifting, v_ticksToGo, (v_in_limit, v_in_first, v_in_size, v_in_places), (v_out_limit, v_out_first, v_out_size, v_out_places), (v_modem_control, v_modem_changes, v_modem_given), (v_log_size, v_log_latest)) => some 1
def f_P_findCause_29 : PtT → Option (Int32)
  | (v_queued, v_level, v_enabled, v_format, v_spare, v_low, v_high, v_overrun, v_vacated, v_quiet, v_shifting, v_ticksToGo, (v_in_limit, v_in_first, v_in_size, v_in_places), (v_out_limit, v_out_first, v_out_size, v_out_places), (v_modem_control, v_modem_changes, v_modem_given), (v_log_size, v_log_latest)) => some 6
def f_P_findCause_128 : PtT → Option (Int32)
  | (v_queued, v_level, v_enabled, v_format, v_spare, v_low, v_high, v_overrun, v_vacated, v_quiet, v_shifting, v_ticksToGo, (v_in_limit, v_in_first, v_in_size, v_in_places), (v_out_limit, v_out_first, v_out_size, v_out_places), (v_modem_control, v_modem_changes, v_modem_given), (v_log_size, v_log_latest)) => if (v_enabled &&& 8) = 0 then (f_P_findCause_150 (v_queued, v_level, v_enabled, v_format, v_spare, v_low, v_high, v_overrun, v_vacated, v_quiet, v_shifting, v_ticksToGo, (v_in_limit, v_in_first, v_in_size, v_in_places), (v_out_limit, v_out_first, v_out_size, v_out_places), (v_modem_control, v_modem_changes, v_modem_given), (v_log_size, v_log_latest))) else (if v_modem_changes = 0 then (f_P_findCause_150 (v_queued, v_level, v_enabled, v_format, v_spare, v_low, v_high, v_overrun, v_vacated, v_quiet, v_shifting, v_ticksToGo, (v_in_limit, v_in_first, v_in_size, v_in_places), (v_out_limit, v_out_first, v_out_size, v_out_places), (v_modem_control, v_modem_changes, v_modem_given), (v_log_size, v_log_latest))) else (some 0))
def f_P_findCause_110 : PtT → Option (Int32)
  | (v_queued, v_level, v_enabled, v_format, v_spare, v_low, v_high, v_overrun, v_vacated, v_quiet, v_shifting, v_ticksToGo, (v_in_limit, v_in_first, v_in_size, v_in_places), (v_out_limit, v_out_first, v_out_size, v_out_places), (v_modem_control, v_modem_changes, v_modem_given), (v_log_size, v_log_latest)) => if (v_enabled &&& 2) = 0 then (f_P_findCause_128 (v_queued, v_level, v_enabled, v_format, v_spare, v_low, v_high, v_overrun, v_vacated, v_quiet, v_shifting, v_ticksToGo, (v_in_limit, v_in_first, v_in_size, v_in_places), (v_out_limit, v_out_first, v_out_size, v_out_places), (v_modem_control, v_modem_changes, v_modem_given), (v_log_size, v_log_latest))) else (if v_vacated = 0 then (f_P_findCause_128 (v_queued, v_level, v_enabled, v_format, v_spare, v_low, v_high, v_overrun, v_vacated, v_quiet, v_shifting, v_ticksToGo, (v_in_limit, v_in_first, v_in_size, v_in_places), (v_out_limit, v_out_first, v_out_size, v_out_places), (v_modem_control, v_modem_changes, v_modem_given), (v_log_size, v_log_latest))) else (some 2))
def f_P_findCause_68 : PtT → Option (Int32)
  | (v_queued, v_level, v_enabled, v_format, v_spare, v_low, v_high, v_overrun, v_vacated, v_quiet, v_shifting, v_ticksToGo, (v_in_limit, v_in_first, v_in_size, v_in_places), (v_out_limit, v_out_first, v_out_size, v_out_places), (v_modem_control, v_modem_changes, v_modem_given), (v_log_size, v_log_latest)) => if (v_enabled &&& 1) = 0 then (f_P_findCause_110 (v_queued, v_level, v_enabled, v_format, v_spare, v_low, v_high, v_overrun, v_vacated, v_quiet, v_shifting, v_ticksToGo, (v_in_limit, v_in_first, v_in_size, v_in_places), (v_out_limit, v_out_first, v_out_size, v_out_places), (v_modem_control, v_modem_changes, v_modem_given), (v_log_size, v_log_latest))) else (if v_queued = 0 then (f_P_findCause_110 (v_queued, v_level, v_enabled, v_format, v_spare, v_low, v_high, v_overrun, v_vacated, v_quiet, v_shifting, v_ticksToGo, (v_in_limit, v_in_first, v_in_size, v_in_places), (v_out_limit, v_out_first, v_out_size, v_out_places), (v_modem_control, v_modem_changes, v_modem_given), (v_log_size, v_log_latest))) else (if v_in_size ≤ 0 then (f_P_findCause_110 (v_queued, v_level, v_enabled, v_format, v_spare, v_low, v_high, v_overrun, v_vacated, v_quiet, v_shifting, v_ticksToGo, (v_in_limit, v_in_first, v_in_size, v_in_places), (v_out_limit, v_out_first, v_out_size, v_out_places), (v_modem_control, v_modem_changes, v_modem_given), (v_log_size, v_log_latest))) else (Option.bind (f_P_span (v_queued, v_level, v_enabled, v_format, v_spare, v_low, v_high, v_overrun, v_vacated, v_quiet, v_shifting, v_ticksToGo, (v_in_limit, v_in_first, v_in_size, v_in_places), (v_out_limit, v_out_first, v_out_size, v_out_places), (v_modem_control, v_modem_changes, v_modem_given), (v_log_size, v_log_latest))) (fun r_100 => if v_quiet < (4 * r_100) then (f_P_findCause_110 (v_queued, v_level, v_enabled, v_format, v_spare, v_low, v_high, v_overrun, v_vacated, v_quiet, v_shifting, v_ticksToGo, (v_in_limit, v_in_first, v_in_size, v_in_places), (v_out_limit, v_out_first, v_out_size, v_out_places), (v_modem_control, v_modem_changes, v_modem_given), (v_log_size, v_log_latest))) else (some 12)))))
def f_P_findCause_63 : PtT → Int32 → Int32 → Option (Int32)
  | (v_queued, v_level, v_enabled, v_format, v_spare, v_low, v_high, v_overrun, v_vacated, v_quiet, v_shifting, v_ticksToGo, (v_in_limit, v_in_first, v_in_size, v_in_places), (v_out_limit, v_out_first, v_out_size, v_out_places), (v_modem_control, v_modem_changes, v_modem_given), (v_log_size, v_log_latest)), s_2, s_1 => if s_1 < s_2 then (f_P_findCause_68 (v_queued, v_level, v_enabled, v_format, v_spare, v_low, v_high, v_overrun, v_vacated, v_quiet, v_shifting, v_ticksToGo, (v_in_limit, v_in_first, v_in_size, v_in_places), (v_out_limit, v_out_first, v_out_size, v_out_places), (v_modem_control, v_modem_changes, v_modem_given), (v_log_size, v_log_latest))) else (some 4)
def f_P_findCause_32 : PtT → Option (Int32)
  | (v_queued, v_level, v_enabled, v_format, v_spare, v_low, v_high, v_overrun, v_vacated, v_quiet, v_shifting, v_ticksToGo, (v_in_limit, v_in_first, v_in_size, v_in_places), (v_out_limit, v_out_first, v_out_size, v_out_places), (v_modem_control, v_modem_changes, v_modem_given), (v_log_size, v_log_latest)) => if (v_enabled &&& 1) = 0 then (f_P_findCause_68 (v_queued, v_level, v_enabled, v_format, v_spare, v_low, v_high, v_overrun, v_vacated, v_quiet, v_shifting, v_ticksToGo, (v_in_limit, v_in_first, v_in_size, v_in_places), (v_out_limit, v_out_first, v_out_size, v_out_places), (v_modem_control, v_modem_changes, v_modem_given), (v_log_size, v_log_latest))) else (if v_queued = 0 then (f_P_findCause_63 (v_queued, v_level, v_enabled, v_format, v_spare, v_low, v_high, v_overrun, v_vacated, v_quiet, v_shifting, v_ticksToGo, (v_in_limit, v_in_first, v_in_size, v_in_places), (v_out_limit, v_out_first, v_out_size, v_out_places), (v_modem_control, v_modem_changes, v_modem_given), (v_log_size, v_log_latest)) 1 v_in_size) else (f_P_findCause_63 (v_queued, v_level, v_enabled, v_format, v_spare, v_low, v_high, v_overrun, v_vacated, v_quiet, v_shifting, v_ticksToGo, (v_in_limit, v_in_first, v_in_size, v_in_places), (v_out_limit, v_out_first, v_out_size, v_out_places), (v_modem_control, v_modem_changes, v_modem_given), (v_log_size, v_log_latest)) v_level v_in_size))
def f_P_findCause : PtT → Option (Int32)
  | (v_queued, v_level, v_enabled, v_format, v_spare, v_low, v_high, v_overrun, v_vacated, v_quiet, v_shifting, v_ticksToGo, (v_in_limit, v_in_first, v_in_size, v_in_places), (v_out_limit, v_out_first, v_out_size, v_out_places), (v_modem_control, v_modem_changes, v_modem_given), (v_log_size, v_log_latest)) => if (v_enabled &&& 4) = 0 then (f_P_findCause_32 (v_queued, v_level, v_enabled, v_format, v_spare, v_low, v_high, v_overrun, v_vacated, v_quiet, v_shifting, v_ticksToGo, (v_in_limit, v_in_first, v_in_size, v_in_places), (v_out_limit, v_out_first, v_out_size, v_out_places), (v_modem_control, v_modem_changes, v_modem_given), (v_log_size, v_log_latest))) else (if v_overrun = 0 then (Option.bind (f_R_oldest (v_in_limit, v_in_first, v_in_size, v_in_places)) (fun r_20 => if r_20 ≤ 255 then (f_P_findCause_32 (v_queued, v_level, v_enabled, v_format, v_spare, v_low, v_high, v_overrun, v_vacated, v_quiet, v_shifting, v_ticksToGo, (v_in_limit, v_in_first, v_in_size, v_in_places), (v_out_limit, v_out_first, v_out_size, v_out_places), (v_modem_control, v_modem_changes, v_modem_given), (v_log_size, v_log_latest))) else (f_P_findCause_29 (v_queued, v_level, v_enabled, v_format, v_spare, v_low, v_high, v_overrun, v_vacated, v_quiet, v_shifting, v_ticksToGo, (v_in_limit, v_in_first, v_in_size, v_in_places), (v_out_limit, v_out_first, v_out_size, v_out_places), (v_modem_control, v_modem_changes, v_modem_given), (v_log_size, v_log_latest))))) else (f_P_findCause_29 (v_queued, v_level, v_enabled, v_format, v_spare, v_low, v_high, v_overrun, v_vacated, v_quiet, v_shifting, v_ticksToGo, (v_in_limit, v_in_first, v_in_size, v_in_places), (v_out_limit, v_out_first, v_out_size, v_out_places), (v_modem_control, v_modem_changes, v_modem_given), (v_log_size, v_log_latest))))
set_option maxHeartbeats 8000000 in
set_option maxRecDepth 100000 in
theorem c_P_findCause (l : Launch) (dC : Nat → ClassId) (dI : Nat → Nat → Nat) (cA : ClassId) (t : Nat) (a0 a_in a_in_places a_out a_out_places a_modem a_log a_log_latest : Nat) (sz : Nat) (u : PtT) (q : Int32) (hf : f_P_findCause u = some q) : Met l y_P_findCause (Cond.code y_P_findCause b_P_findCause 1 (some .int) :: W0) ({ frames := 1, cells := 0, slots := 0, locals := 21 }) (va_Pc [.ref a0] (pc_ (dC, dI) [(cA, .int)] t sz (cw_P cA a0 a_in a_in_places a_out a_out_places a_modem a_log a_log_latest u))) (qr_ (dC, dI) (cw_P cA a0 a_in a_in_places a_out a_out_places a_modem a_log a_log_latest u) q (va_A (cw_P cA a0 a_in a_in_places a_out a_out_places a_modem a_log a_log_latest u) sz)) 0 0 (va_A (cw_P cA a0 a_in a_in_places a_out a_out_places a_modem a_log a_log_latest u) sz) := by
  obtain ⟨v_queued, v_level, v_enabled, v_format, v_spare, v_low, v_high, v_overrun, v_vacated, v_quiet, v_shifting, v_ticksToGo, ⟨v_in_limit, v_in_first, v_in_size, v_in_places⟩, ⟨v_out_limit, v_out_first, v_out_size, v_out_places⟩, ⟨v_modem_control, v_modem_changes, v_modem_given⟩, ⟨v_log_size, v_log_latest⟩⟩ := u
  refine start_ l (qr_ (dC, dI) _ q) (by decide) (Nat.le_of_ble_eq_true rfl) ?_
  intro p e s m below meth c hx hb hml hr hown ht hlocks hnm A hA hS hP hK hD hZ ls hl
  have hown : s.vm.findClass cls_P = some m.cls := hown
  refine wabs_ (fun WW wi wo => ?_)
  have k_150 : f_P_findCause_150 (v_queued, v_level, v_enabled, v_format, v_spare, v_low, v_high, v_overrun, v_vacated, v_quiet, v_shifting, v_ticksToGo, (v_in_limit, v_in_first, v_in_size, v_in_places), (v_out_limit, v_out_first, v_out_size, v_out_places), (v_modem_control, v_modem_changes, v_modem_given), (v_log_size, v_log_latest)) = some q → ∀ (H : Heap) (locs : List Loc) (ls : Array Slot), va_P (dC, dI) cls [(a0, .inr (2, [.ref a_in, .ref a_out, .ref a_modem, .ref a_log, .int v_queued, .int v_level, .int v_enabled, .int v_format, .int v_spare, .int v_low, .int v_high, .int v_overrun, .int v_vacated, .int v_quiet, .int v_shifting, .int v_ticksToGo])), (a_in, .inr (3, [.ref a_in_places, .int v_in_limit, .int v_in_first, .int v_in_size])), (a_in_places, .inl (cA, 32, .inl v_in_places)), (a_out, .inr (3, [.ref a_out_places, .int v_out_limit, .int v_out_first, .int v_out_size])), (a_out_places, .inl (cA, 32, .inl v_out_places)), (a_modem, .inr (1, [.int v_modem_control, .int v_modem_changes, .int v_modem_given])), (a_log, .inr (4, [.ref a_log_latest, .int v_log_size])), (a_log_latest, .inl (cA, 32, .inl v_log_latest))] H → va_D A [(a0, .inr (2, [.ref a_in, .ref a_out, .ref a_modem, .ref a_log, .int v_queued, .int v_level, .int v_enabled, .int v_format, .int v_spare, .int v_low, .int v_high, .int v_overrun, .int v_vacated, .int v_quiet, .int v_shifting, .int v_ticksToGo])), (a_in, .inr (3, [.ref a_in_places, .int v_in_limit, .int v_in_first, .int v_in_size])), (a_in_places, .inl (cA, 32, .inl v_in_places)), (a_out, .inr (3, [.ref a_out_places, .int v_out_limit, .int v_out_first, .int v_out_size])), (a_out_places, .inl (cA, 32, .inl v_out_places)), (a_modem, .inr (1, [.int v_modem_control, .int v_modem_changes, .int v_modem_given])), (a_log, .inr (4, [.ref a_log_latest, .int v_log_size])), (a_log_latest, .inl (cA, 32, .inl v_log_latest))] → va_S A s.heap H locs → lv_has ls 1 [] → WW H locs (F0 m 150 ls []) := by
    intro hf H locs ls hP hD hS hl
    unfold f_P_findCause_150 at hf
    try dsimp only at hf
    have hP : va_P (dC, dI) cls [(a0, .inr (2, [.ref a_in, .ref a_out, .ref a_modem, .ref a_log, .int v_queued, .int v_level, .int v_enabled, .int v_format, .int v_spare, .int v_low, .int v_high, .int v_overrun, .int v_vacated, .int v_quiet, .int v_shifting, .int v_ticksToGo])), (a_in, .inr (3, [.ref a_in_places, .int v_in_limit, .int v_in_first, .int v_in_size])), (a_in_places, .inl (cA, 32, .inl v_in_places)), (a_out, .inr (3, [.ref a_out_places, .int v_out_limit, .int v_out_first, .int v_out_size])), (a_out_places, .inl (cA, 32, .inl v_out_places)), (a_modem, .inr (1, [.int v_modem_control, .int v_modem_changes, .int v_modem_given])), (a_log, .inr (4, [.ref a_log_latest, .int v_log_size])), (a_log_latest, .inl (cA, 32, .inl v_log_latest))] _ := hP
    have hD : va_D A [(a0, .inr (2, [.ref a_in, .ref a_out, .ref a_modem, .ref a_log, .int v_queued, .int v_level, .int v_enabled, .int v_format, .int v_spare, .int v_low, .int v_high, .int v_overrun, .int v_vacated, .int v_quiet, .int v_shifting, .int v_ticksToGo])), (a_in, .inr (3, [.ref a_in_places, .int v_in_limit, .int v_in_first, .int v_in_size])), (a_in_places, .inl (cA, 32, .inl v_in_places)), (a_out, .inr (3, [.ref a_out_places, .int v_out_limit, .int v_out_first, .int v_out_size])), (a_out_places, .inl (cA, 32, .inl v_out_places)), (a_modem, .inr (1, [.int v_modem_control, .int v_modem_changes, .int v_modem_given])), (a_log, .inr (4, [.ref a_log_latest, .int v_log_size])), (a_log_latest, .inl (cA, 32, .inl v_log_latest))] := hD
    refine wi _ _ _ ?_
    refine lv_iconst (v := 1) hx hb d_P_findCause_150 (by decide) ?_
    exact W.iret hx hb hr (fun t9 ht9 _ => rr_ (Option.some.inj hf) hP hD hS ht9) hS.2.2 d_P_findCause_151
  have k_29 : f_P_findCause_29 (v_queued, v_level, v_enabled, v_format, v_spare, v_low, v_high, v_overrun, v_vacated, v_quiet, v_shifting, v_ticksToGo, (v_in_limit, v_in_first, v_in_size, v_in_places), (v_out_limit, v_out_first, v_out_size, v_out_places), (v_modem_control, v_modem_changes, v_modem_given), (v_log_size, v_log_latest)) = some q → ∀ (H : Heap) (locs : List Loc) (ls : Array Slot), va_P (dC, dI) cls [(a0, .inr (2, [.ref a_in, .ref a_out, .ref a_modem, .ref a_log, .int v_queued, .int v_level, .int v_enabled, .int v_format, .int v_spare, .int v_low, .int v_high, .int v_overrun, .int v_vacated, .int v_quiet, .int v_shifting, .int v_ticksToGo])), (a_in, .inr (3, [.ref a_in_places, .int v_in_limit, .int v_in_first, .int v_in_size])), (a_in_places, .inl (cA, 32, .inl v_in_places)), (a_out, .inr (3, [.ref a_out_places, .int v_out_limit, .int v_out_first, .int v_out_size])), (a_out_places, .inl (cA, 32, .inl v_out_places)), (a_modem, .inr (1, [.int v_modem_control, .int v_modem_changes, .int v_modem_given])), (a_log, .inr (4, [.ref a_log_latest, .int v_log_size])), (a_log_latest, .inl (cA, 32, .inl v_log_latest))] H → va_D A [(a0, .inr (2, [.ref a_in, .ref a_out, .ref a_modem, .ref a_log, .int v_queued, .int v_level, .int v_enabled, .int v_format, .int v_spare, .int v_low, .int v_high, .int v_overrun, .int v_vacated, .int v_quiet, .int v_shifting, .int v_ticksToGo])), (a_in, .inr (3, [.ref a_in_places, .int v_in_limit, .int v_in_first, .int v_in_size])), (a_in_places, .inl (cA, 32, .inl v_in_places)), (a_out, .inr (3, [.ref a_out_places, .int v_out_limit, .int v_out_first, .int v_out_size])), (a_out_places, .inl (cA, 32, .inl v_out_places)), (a_modem, .inr (1, [.int v_modem_control, .int v_modem_changes, .int v_modem_given])), (a_log, .inr (4, [.ref a_log_latest, .int v_log_size])), (a_log_latest, .inl (cA, 32, .inl v_log_latest))] → va_S A s.heap H locs → lv_has ls 1 [] → WW H locs (F0 m 29 ls []) := by
    intro hf H locs ls hP hD hS hl
    unfold f_P_findCause_29 at hf
    try dsimp only at hf
    have hP : va_P (dC, dI) cls [(a0, .inr (2, [.ref a_in, .ref a_out, .ref a_modem, .ref a_log, .int v_queued, .int v_level, .int v_enabled, .int v_format, .int v_spare, .int v_low, .int v_high, .int v_overrun, .int v_vacated, .int v_quiet, .int v_shifting, .int v_ticksToGo])), (a_in, .inr (3, [.ref a_in_places, .int v_in_limit, .int v_in_first, .int v_in_size])), (a_in_places, .inl (cA, 32, .inl v_in_places)), (a_out, .inr (3, [.ref a_out_places, .int v_out_limit, .int v_out_first, .int v_out_size])), (a_out_places, .inl (cA, 32, .inl v_out_places)), (a_modem, .inr (1, [.int v_modem_control, .int v_modem_changes, .int v_modem_given])), (a_log, .inr (4, [.ref a_log_latest, .int v_log_size])), (a_log_latest, .inl (cA, 32, .inl v_log_latest))] _ := hP
    have hD : va_D A [(a0, .inr (2, [.ref a_in, .ref a_out, .ref a_modem, .ref a_log, .int v_queued, .int v_level, .int v_enabled, .int v_format, .int v_spare, .int v_low, .int v_high, .int v_overrun, .int v_vacated, .int v_quiet, .int v_shifting, .int v_ticksToGo])), (a_in, .inr (3, [.ref a_in_places, .int v_in_limit, .int v_in_first, .int v_in_size])), (a_in_places, .inl (cA, 32, .inl v_in_places)), (a_out, .inr (3, [.ref a_out_places, .int v_out_limit, .int v_out_first, .int v_out_size])), (a_out_places, .inl (cA, 32, .inl v_out_places)), (a_modem, .inr (1, [.int v_modem_control, .int v_modem_changes, .int v_modem_given])), (a_log, .inr (4, [.ref a_log_latest, .int v_log_size])), (a_log_latest, .inl (cA, 32, .inl v_log_latest))] := hD
    refine wi _ _ _ ?_
    refine lv_bipush (v := 6) hx hb d_P_findCause_29 (by decide) ?_
    exact W.iret hx hb hr (fun t9 ht9 _ => rr_ (Option.some.inj hf) hP hD hS ht9) hS.2.2 d_P_findCause_31
  have k_128 : f_P_findCause_128 (v_queued, v_level, v_enabled, v_format, v_spare, v_low, v_high, v_overrun, v_vacated, v_quiet, v_shifting, v_ticksToGo, (v_in_limit, v_in_first, v_in_size, v_in_places), (v_out_limit, v_out_first, v_out_size, v_out_places), (v_modem_control, v_modem_changes, v_modem_given), (v_log_size, v_log_latest)) = some q → ∀ (H : Heap) (locs : List Loc) (ls : Array Slot), va_P (dC, dI) cls [(a0, .inr (2, [.ref a_in, .ref a_out, .ref a_modem, .ref a_log, .int v_queued, .int v_level, .int v_enabled, .int v_format, .int v_spare, .int v_low, .int v_high, .int v_overrun, .int v_vacated, .int v_quiet, .int v_shifting, .int v_ticksToGo])), (a_in, .inr (3, [.ref a_in_places, .int v_in_limit, .int v_in_first, .int v_in_size])), (a_in_places, .inl (cA, 32, .inl v_in_places)), (a_out, .inr (3, [.ref a_out_places, .int v_out_limit, .int v_out_first, .int v_out_size])), (a_out_places, .inl (cA, 32, .inl v_out_places)), (a_modem, .inr (1, [.int v_modem_control, .int v_modem_changes, .int v_modem_given])), (a_log, .inr (4, [.ref a_log_latest, .int v_log_size])), (a_log_latest, .inl (cA, 32, .inl v_log_latest))] H → va_D A [(a0, .inr (2, [.ref a_in, .ref a_out, .ref a_modem, .ref a_log, .int v_queued, .int v_level, .int v_enabled, .int v_format, .int v_spare, .int v_low, .int v_high, .int v_overrun, .int v_vacated, .int v_quiet, .int v_shifting, .int v_ticksToGo])), (a_in, .inr (3, [.ref a_in_places, .int v_in_limit, .int v_in_first, .int v_in_size])), (a_in_places, .inl (cA, 32, .inl v_in_places)), (a_out, .inr (3, [.ref a_out_places, .int v_out_limit, .int v_out_first, .int v_out_size])), (a_out_places, .inl (cA, 32, .inl v_out_places)), (a_modem, .inr (1, [.int v_modem_control, .int v_modem_changes, .int v_modem_given])), (a_log, .inr (4, [.ref a_log_latest, .int v_log_size])), (a_log_latest, .inl (cA, 32, .inl v_log_latest))] → va_S A s.heap H locs → lv_has ls 1 [(0, .ref a0)] → WW H locs (F0 m 128 ls []) := by
    intro hf H locs ls hP hD hS hl
    unfold f_P_findCause_128 at hf
    try dsimp only at hf
    have hP : va_P (dC, dI) cls [(a0, .inr (2, [.ref a_in, .ref a_out, .ref a_modem, .ref a_log, .int v_queued, .int v_level, .int v_enabled, .int v_format, .int v_spare, .int v_low, .int v_high, .int v_overrun, .int v_vacated, .int v_quiet, .int v_shifting, .int v_ticksToGo])), (a_in, .inr (3, [.ref a_in_places, .int v_in_limit, .int v_in_first, .int v_in_size])), (a_in_places, .inl (cA, 32, .inl v_in_places)), (a_out, .inr (3, [.ref a_out_places, .int v_out_limit, .int v_out_first, .int v_out_size])), (a_out_places, .inl (cA, 32, .inl v_out_places)), (a_modem, .inr (1, [.int v_modem_control, .int v_modem_changes, .int v_modem_given])), (a_log, .inr (4, [.ref a_log_latest, .int v_log_size])), (a_log_latest, .inl (cA, 32, .inl v_log_latest))] _ := hP
    have hD : va_D A [(a0, .inr (2, [.ref a_in, .ref a_out, .ref a_modem, .ref a_log, .int v_queued, .int v_level, .int v_enabled, .int v_format, .int v_spare, .int v_low, .int v_high, .int v_overrun, .int v_vacated, .int v_quiet, .int v_shifting, .int v_ticksToGo])), (a_in, .inr (3, [.ref a_in_places, .int v_in_limit, .int v_in_first, .int v_in_size])), (a_in_places, .inl (cA, 32, .inl v_in_places)), (a_out, .inr (3, [.ref a_out_places, .int v_out_limit, .int v_out_first, .int v_out_size])), (a_out_places, .inl (cA, 32, .inl v_out_places)), (a_modem, .inr (1, [.int v_modem_control, .int v_modem_changes, .int v_modem_given])), (a_log, .inr (4, [.ref a_log_latest, .int v_log_size])), (a_log_latest, .inl (cA, 32, .inl v_log_latest))] := hD
    refine wi _ _ _ ?_
    refine lv_aload_n hx hb d_P_findCause_128 rfl (lv_at hl 0 rfl) ?_
    refine va_get (D := (dC, dI)) (ci := 2) (v := .int v_enabled) (C := cls_P) (T := fld_P) (N := 16) hx hb ht iin_P hown hK hP 0 rfl rfl 6 (by decide) (ht _ k_P_53) (fun _ h9 => h9) rfl d_P_findCause_129 ?_
    refine lv_bipush (v := 8) hx hb d_P_findCause_132 (by decide) ?_
    refine lv_iand hx hb d_P_findCause_134 ?_
    refine lv_if_eq (tgt := 150) hx hb d_P_findCause_135 (by decide) (fun c_135 => ?_) (fun c_135 => ?_)
    · have hf := ite_t hf c_135
      exact wo _ _ _ (k_150  hf _ _ _ hP hD hS (lv_sub hl [] rfl))
    · have hf := ite_f hf c_135
      refine lv_aload_n hx hb d_P_findCause_138 rfl (lv_at hl 0 rfl) ?_
      refine va_get (D := (dC, dI)) (ci := 2) (v := .ref a_modem) (C := cls_P) (T := fld_P) (N := 16) hx hb ht iin_P hown hK hP 0 rfl rfl 2 (by decide) (ht _ k_P_24) (fun _ h9 => h9) rfl d_P_findCause_139 ?_
      refine va_get (D := (dC, dI)) (ci := 1) (v := .int v_modem_changes) (C := cls_M) (T := fld_M) (N := 3) hx hb ht iin_M hown hK hP 5 rfl rfl 1 (by decide) (ht _ k_P_108) (fun _ h9 => h9) rfl d_P_findCause_142 ?_
      refine lv_if_eq (tgt := 150) hx hb d_P_findCause_145 (by decide) (fun c_145 => ?_) (fun c_145 => ?_)
      · have hf := ite_t hf c_145
        exact wo _ _ _ (k_150  hf _ _ _ hP hD hS (lv_sub hl [] rfl))
      · have hf := ite_f hf c_145
        refine lv_iconst (v := 0) hx hb d_P_findCause_148 (by decide) ?_
        exact W.iret hx hb hr (fun t9 ht9 _ => rr_ (Option.some.inj hf) hP hD hS ht9) hS.2.2 d_P_findCause_149
  have k_110 : f_P_findCause_110 (v_queued, v_level, v_enabled, v_format, v_spare, v_low, v_high, v_overrun, v_vacated, v_quiet, v_shifting, v_ticksToGo, (v_in_limit, v_in_first, v_in_size, v_in_places), (v_out_limit, v_out_first, v_out_size, v_out_places), (v_modem_control, v_modem_changes, v_modem_given), (v_log_size, v_log_latest)) = some q → ∀ (H : Heap) (locs : List Loc) (ls : Array Slot), va_P (dC, dI) cls [(a0, .inr (2, [.ref a_in, .ref a_out, .ref a_modem, .ref a_log, .int v_queued, .int v_level, .int v_enabled, .int v_format, .int v_spare, .int v_low, .int v_high, .int v_overrun, .int v_vacated, .int v_quiet, .int v_shifting, .int v_ticksToGo])), (a_in, .inr (3, [.ref a_in_places, .int v_in_limit, .int v_in_first, .int v_in_size])), (a_in_places, .inl (cA, 32, .inl v_in_places)), (a_out, .inr (3, [.ref a_out_places, .int v_out_limit, .int v_out_first, .int v_out_size])), (a_out_places, .inl (cA, 32, .inl v_out_places)), (a_modem, .inr (1, [.int v_modem_control, .int v_modem_changes, .int v_modem_given])), (a_log, .inr (4, [.ref a_log_latest, .int v_log_size])), (a_log_latest, .inl (cA, 32, .inl v_log_latest))] H → va_D A [(a0, .inr (2, [.ref a_in, .ref a_out, .ref a_modem, .ref a_log, .int v_queued, .int v_level, .int v_enabled, .int v_format, .int v_spare, .int v_low, .int v_high, .int v_overrun, .int v_vacated, .int v_quiet, .int v_shifting, .int v_ticksToGo])), (a_in, .inr (3, [.ref a_in_places, .int v_in_limit, .int v_in_first, .int v_in_size])), (a_in_places, .inl (cA, 32, .inl v_in_places)), (a_out, .inr (3, [.ref a_out_places, .int v_out_limit, .int v_out_first, .int v_out_size])), (a_out_places, .inl (cA, 32, .inl v_out_places)), (a_modem, .inr (1, [.int v_modem_control, .int v_modem_changes, .int v_modem_given])), (a_log, .inr (4, [.ref a_log_latest, .int v_log_size])), (a_log_latest, .inl (cA, 32, .inl v_log_latest))] → va_S A s.heap H locs → lv_has ls 1 [(0, .ref a0)] → WW H locs (F0 m 110 ls []) := by
    intro hf H locs ls hP hD hS hl
    unfold f_P_findCause_110 at hf
    try dsimp only at hf
    have hP : va_P (dC, dI) cls [(a0, .inr (2, [.ref a_in, .ref a_out, .ref a_modem, .ref a_log, .int v_queued, .int v_level, .int v_enabled, .int v_format, .int v_spare, .int v_low, .int v_high, .int v_overrun, .int v_vacated, .int v_quiet, .int v_shifting, .int v_ticksToGo])), (a_in, .inr (3, [.ref a_in_places, .int v_in_limit, .int v_in_first, .int v_in_size])), (a_in_places, .inl (cA, 32, .inl v_in_places)), (a_out, .inr (3, [.ref a_out_places, .int v_out_limit, .int v_out_first, .int v_out_size])), (a_out_places, .inl (cA, 32, .inl v_out_places)), (a_modem, .inr (1, [.int v_modem_control, .int v_modem_changes, .int v_modem_given])), (a_log, .inr (4, [.ref a_log_latest, .int v_log_size])), (a_log_latest, .inl (cA, 32, .inl v_log_latest))] _ := hP
    have hD : va_D A [(a0, .inr (2, [.ref a_in, .ref a_out, .ref a_modem, .ref a_log, .int v_queued, .int v_level, .int v_enabled, .int v_format, .int v_spare, .int v_low, .int v_high, .int v_overrun, .int v_vacated, .int v_quiet, .int v_shifting, .int v_ticksToGo])), (a_in, .inr (3, [.ref a_in_places, .int v_in_limit, .int v_in_first, .int v_in_size])), (a_in_places, .inl (cA, 32, .inl v_in_places)), (a_out, .inr (3, [.ref a_out_places, .int v_out_limit, .int v_out_first, .int v_out_size])), (a_out_places, .inl (cA, 32, .inl v_out_places)), (a_modem, .inr (1, [.int v_modem_control, .int v_modem_changes, .int v_modem_given])), (a_log, .inr (4, [.ref a_log_latest, .int v_log_size])), (a_log_latest, .inl (cA, 32, .inl v_log_latest))] := hD
    refine wi _ _ _ ?_
    refine lv_aload_n hx hb d_P_findCause_110 rfl (lv_at hl 0 rfl) ?_
    refine va_get (D := (dC, dI)) (ci := 2) (v := .int v_enabled) (C := cls_P) (T := fld_P) (N := 16) hx hb ht iin_P hown hK hP 0 rfl rfl 6 (by decide) (ht _ k_P_53) (fun _ h9 => h9) rfl d_P_findCause_111 ?_
    refine lv_iconst (v := 2) hx hb d_P_findCause_114 (by decide) ?_
    refine lv_iand hx hb d_P_findCause_115 ?_
    refine lv_if_eq (tgt := 128) hx hb d_P_findCause_116 (by decide) (fun c_116 => ?_) (fun c_116 => ?_)
    · have hf := ite_t hf c_116
      exact wo _ _ _ (k_128  hf _ _ _ hP hD hS (lv_sub hl [0] rfl))
    · have hf := ite_f hf c_116
      refine lv_aload_n hx hb d_P_findCause_119 rfl (lv_at hl 0 rfl) ?_
      refine va_get (D := (dC, dI)) (ci := 2) (v := .int v_vacated) (C := cls_P) (T := fld_P) (N := 16) hx hb ht iin_P hown hK hP 0 rfl rfl 12 (by decide) (ht _ k_P_105) (fun _ h9 => h9) rfl d_P_findCause_120 ?_
      refine lv_if_eq (tgt := 128) hx hb d_P_findCause_123 (by decide) (fun c_123 => ?_) (fun c_123 => ?_)
      · have hf := ite_t hf c_123
        exact wo _ _ _ (k_128  hf _ _ _ hP hD hS (lv_sub hl [0] rfl))
      · have hf := ite_f hf c_123
        refine lv_iconst (v := 2) hx hb d_P_findCause_126 (by decide) ?_
        exact W.iret hx hb hr (fun t9 ht9 _ => rr_ (Option.some.inj hf) hP hD hS ht9) hS.2.2 d_P_findCause_127
  have k_68 : f_P_findCause_68 (v_queued, v_level, v_enabled, v_format, v_spare, v_low, v_high, v_overrun, v_vacated, v_quiet, v_shifting, v_ticksToGo, (v_in_limit, v_in_first, v_in_size, v_in_places), (v_out_limit, v_out_first, v_out_size, v_out_places), (v_modem_control, v_modem_changes, v_modem_given), (v_log_size, v_log_latest)) = some q → ∀ (H : Heap) (locs : List Loc) (ls : Array Slot), va_P (dC, dI) cls [(a0, .inr (2, [.ref a_in, .ref a_out, .ref a_modem, .ref a_log, .int v_queued, .int v_level, .int v_enabled, .int v_format, .int v_spare, .int v_low, .int v_high, .int v_overrun, .int v_vacated, .int v_quiet, .int v_shifting, .int v_ticksToGo])), (a_in, .inr (3, [.ref a_in_places, .int v_in_limit, .int v_in_first, .int v_in_size])), (a_in_places, .inl (cA, 32, .inl v_in_places)), (a_out, .inr (3, [.ref a_out_places, .int v_out_limit, .int v_out_first, .int v_out_size])), (a_out_places, .inl (cA, 32, .inl v_out_places)), (a_modem, .inr (1, [.int v_modem_control, .int v_modem_changes, .int v_modem_given])), (a_log, .inr (4, [.ref a_log_latest, .int v_log_size])), (a_log_latest, .inl (cA, 32, .inl v_log_latest))] H → va_D A [(a0, .inr (2, [.ref a_in, .ref a_out, .ref a_modem, .ref a_log, .int v_queued, .int v_level, .int v_enabled, .int v_format, .int v_spare, .int v_low, .int v_high, .int v_overrun, .int v_vacated, .int v_quiet, .int v_shifting, .int v_ticksToGo])), (a_in, .inr (3, [.ref a_in_places, .int v_in_limit, .int v_in_first, .int v_in_size])), (a_in_places, .inl (cA, 32, .inl v_in_places)), (a_out, .inr (3, [.ref a_out_places, .int v_out_limit, .int v_out_first, .int v_out_size])), (a_out_places, .inl (cA, 32, .inl v_out_places)), (a_modem, .inr (1, [.int v_modem_control, .int v_modem_changes, .int v_modem_given])), (a_log, .inr (4, [.ref a_log_latest, .int v_log_size])), (a_log_latest, .inl (cA, 32, .inl v_log_latest))] → va_S A s.heap H locs → lv_has ls 1 [(0, .ref a0)] → WW H locs (F0 m 68 ls []) := by
    intro hf H locs ls hP hD hS hl
    unfold f_P_findCause_68 at hf
    try dsimp only at hf
    have hP : va_P (dC, dI) cls [(a0, .inr (2, [.ref a_in, .ref a_out, .ref a_modem, .ref a_log, .int v_queued, .int v_level, .int v_enabled, .int v_format, .int v_spare, .int v_low, .int v_high, .int v_overrun, .int v_vacated, .int v_quiet, .int v_shifting, .int v_ticksToGo])), (a_in, .inr (3, [.ref a_in_places, .int v_in_limit, .int v_in_first, .int v_in_size])), (a_in_places, .inl (cA, 32, .inl v_in_places)), (a_out, .inr (3, [.ref a_out_places, .int v_out_limit, .int v_out_first, .int v_out_size])), (a_out_places, .inl (cA, 32, .inl v_out_places)), (a_modem, .inr (1, [.int v_modem_control, .int v_modem_changes, .int v_modem_given])), (a_log, .inr (4, [.ref a_log_latest, .int v_log_size])), (a_log_latest, .inl (cA, 32, .inl v_log_latest))] _ := hP
    have hD : va_D A [(a0, .inr (2, [.ref a_in, .ref a_out, .ref a_modem, .ref a_log, .int v_queued, .int v_level, .int v_enabled, .int v_format, .int v_spare, .int v_low, .int v_high, .int v_overrun, .int v_vacated, .int v_quiet, .int v_shifting, .int v_ticksToGo])), (a_in, .inr (3, [.ref a_in_places, .int v_in_limit, .int v_in_first, .int v_in_size])), (a_in_places, .inl (cA, 32, .inl v_in_places)), (a_out, .inr (3, [.ref a_out_places, .int v_out_limit, .int v_out_first, .int v_out_size])), (a_out_places, .inl (cA, 32, .inl v_out_places)), (a_modem, .inr (1, [.int v_modem_control, .int v_modem_changes, .int v_modem_given])), (a_log, .inr (4, [.ref a_log_latest, .int v_log_size])), (a_log_latest, .inl (cA, 32, .inl v_log_latest))] := hD
    refine wi _ _ _ ?_
    refine lv_aload_n hx hb d_P_findCause_68 rfl (lv_at hl 0 rfl) ?_
    refine va_get (D := (dC, dI)) (ci := 2) (v := .int v_enabled) (C := cls_P) (T := fld_P) (N := 16) hx hb ht iin_P hown hK hP 0 rfl rfl 6 (by decide) (ht _ k_P_53) (fun _ h9 => h9) rfl d_P_findCause_69 ?_
    refine lv_iconst (v := 1) hx hb d_P_findCause_72 (by decide) ?_
    refine lv_iand hx hb d_P_findCause_73 ?_
    refine lv_if_eq (tgt := 110) hx hb d_P_findCause_74 (by decide) (fun c_74 => ?_) (fun c_74 => ?_)
    · have hf := ite_t hf c_74
      exact wo _ _ _ (k_110  hf _ _ _ hP hD hS (lv_sub hl [0] rfl))
    · have hf := ite_f hf c_74
      refine lv_aload_n hx hb d_P_findCause_77 rfl (lv_at hl 0 rfl) ?_
      refine va_get (D := (dC, dI)) (ci := 2) (v := .int v_queued) (C := cls_P) (T := fld_P) (N := 16) hx hb ht iin_P hown hK hP 0 rfl rfl 4 (by decide) (ht _ k_P_96) (fun _ h9 => h9) rfl d_P_findCause_78 ?_
      refine lv_if_eq (tgt := 110) hx hb d_P_findCause_81 (by decide) (fun c_81 => ?_) (fun c_81 => ?_)
      · have hf := ite_t hf c_81
        exact wo _ _ _ (k_110  hf _ _ _ hP hD hS (lv_sub hl [0] rfl))
      · have hf := ite_f hf c_81
        refine lv_aload_n hx hb d_P_findCause_84 rfl (lv_at hl 0 rfl) ?_
        refine va_get (D := (dC, dI)) (ci := 2) (v := .ref a_in) (C := cls_P) (T := fld_P) (N := 16) hx hb ht iin_P hown hK hP 0 rfl rfl 0 (by decide) (ht _ k_P_12) (fun _ h9 => h9) rfl d_P_findCause_85 ?_
        refine va_get (D := (dC, dI)) (ci := 3) (v := .int v_in_size) (C := cls_R) (T := fld_R) (N := 4) hx hb ht iin_R hown hK hP 1 rfl rfl 3 (by decide) (ht _ k_P_93) (fun _ h9 => h9) rfl d_P_findCause_88 ?_
        refine lv_if_le (tgt := 110) hx hb d_P_findCause_91 (by decide) (fun c_91 => ?_) (fun c_91 => ?_)
        · have hf := ite_t hf c_91
          exact wo _ _ _ (k_110  hf _ _ _ hP hD hS (lv_sub hl [0] rfl))
        · have hf := ite_f hf c_91
          refine lv_aload_n hx hb d_P_findCause_94 rfl (lv_at hl 0 rfl) ?_
          refine va_get (D := (dC, dI)) (ci := 2) (v := .int v_quiet) (C := cls_P) (T := fld_P) (N := 16) hx hb ht iin_P hown hK hP 0 rfl rfl 13 (by decide) (ht _ k_P_99) (fun _ h9 => h9) rfl d_P_findCause_95 ?_
          refine lv_iconst (v := 4) hx hb d_P_findCause_98 (by decide) ?_
          refine lv_aload_n hx hb d_P_findCause_99 rfl (lv_at hl 0 rfl) ?_
          obtain ⟨q_100, hc_100, hf⟩ := bind_e hf
          refine cVr_ (wc := cw_P cA a0 a_in a_in_places a_out a_out_places a_modem a_log a_log_latest (v_queued, v_level, v_enabled, v_format, v_spare, v_low, v_high, v_overrun, v_vacated, v_quiet, v_shifting, v_ticksToGo, (v_in_limit, v_in_first, v_in_size, v_in_places), (v_out_limit, v_out_first, v_out_size, v_out_places), (v_modem_control, v_modem_changes, v_modem_given), (v_log_size, v_log_latest))) (wr := []) (As := []) (rest := [.int 4, .int v_quiet]) ⟨hx, hb, hml, hown, ht⟩ (c_P_span l dC dI cA t a0 a_in a_in_places a_out a_out_places a_modem a_log a_log_latest _ (v_queued, v_level, v_enabled, v_format, v_spare, v_low, v_high, v_overrun, v_vacated, v_quiet, v_shifting, v_ticksToGo, (v_in_limit, v_in_first, v_in_size, v_in_places), (v_out_limit, v_out_first, v_out_size, v_out_places), (v_modem_control, v_modem_changes, v_modem_given), (v_log_size, v_log_latest))  q_100 hc_100) (cwV 0 ht (gV_ k_P_102 ki_P_span ks_P_span kn_P kc_P_span) rfl rfl rfl ⟨rfl, hd_P_span⟩ ⟨Nat.le_of_ble_eq_true rfl, Nat.le_of_ble_eq_true rfl⟩) hK hZ hA hP hD hS [0, 1, 2, 3, 4, 5, 6, 7] [] rfl rfl (by decide) (by decide) (by decide) rfl rfl rfl rfl hl.1 (Nat.le_of_ble_eq_true rfl) d_P_findCause_100 ⟨Nat.le_of_ble_eq_true rfl, Nat.le_of_ble_eq_true rfl⟩ (fun r_100 H locs hw hP hD hS => ?_)
          subst hw
          have hP : va_P (dC, dI) cls [(a0, .inr (2, [.ref a_in, .ref a_out, .ref a_modem, .ref a_log, .int v_queued, .int v_level, .int v_enabled, .int v_format, .int v_spare, .int v_low, .int v_high, .int v_overrun, .int v_vacated, .int v_quiet, .int v_shifting, .int v_ticksToGo])), (a_in, .inr (3, [.ref a_in_places, .int v_in_limit, .int v_in_first, .int v_in_size])), (a_in_places, .inl (cA, 32, .inl v_in_places)), (a_out, .inr (3, [.ref a_out_places, .int v_out_limit, .int v_out_first, .int v_out_size])), (a_out_places, .inl (cA, 32, .inl v_out_places)), (a_modem, .inr (1, [.int v_modem_control, .int v_modem_changes, .int v_modem_given])), (a_log, .inr (4, [.ref a_log_latest, .int v_log_size])), (a_log_latest, .inl (cA, 32, .inl v_log_latest))] _ := hP.sub [0, 1, 2, 3, 4, 5, 6, 7] rfl
          have hD : va_D A [(a0, .inr (2, [.ref a_in, .ref a_out, .ref a_modem, .ref a_log, .int v_queued, .int v_level, .int v_enabled, .int v_format, .int v_spare, .int v_low, .int v_high, .int v_overrun, .int v_vacated, .int v_quiet, .int v_shifting, .int v_ticksToGo])), (a_in, .inr (3, [.ref a_in_places, .int v_in_limit, .int v_in_first, .int v_in_size])), (a_in_places, .inl (cA, 32, .inl v_in_places)), (a_out, .inr (3, [.ref a_out_places, .int v_out_limit, .int v_out_first, .int v_out_size])), (a_out_places, .inl (cA, 32, .inl v_out_places)), (a_modem, .inr (1, [.int v_modem_control, .int v_modem_changes, .int v_modem_given])), (a_log, .inr (4, [.ref a_log_latest, .int v_log_size])), (a_log_latest, .inl (cA, 32, .inl v_log_latest))] := hD.sub [0, 1, 2, 3, 4, 5, 6, 7] (by decide) rfl
          refine lv_imul hx hb d_P_findCause_103 ?_
          refine lv_icmp_lt (tgt := 110) hx hb d_P_findCause_104 (by decide) (fun c_104 => ?_) (fun c_104 => ?_)
          · have hf := ite_t hf c_104
            exact wo _ _ _ (k_110  hf _ _ _ hP hD hS (lv_sub hl [0] rfl))
          · have hf := ite_f hf c_104
            refine lv_bipush (v := 12) hx hb d_P_findCause_107 (by decide) ?_
            exact W.iret hx hb hr (fun t9 ht9 _ => rr_ (Option.some.inj hf) hP hD hS ht9) hS.2.2 d_P_findCause_109
  have k_63 : ∀ (s_2 s_1 : Int32), f_P_findCause_63 (v_queued, v_level, v_enabled, v_format, v_spare, v_low, v_high, v_overrun, v_vacated, v_quiet, v_shifting, v_ticksToGo, (v_in_limit, v_in_first, v_in_size, v_in_places), (v_out_limit, v_out_first, v_out_size, v_out_places), (v_modem_control, v_modem_changes, v_modem_given), (v_log_size, v_log_latest)) s_2 s_1 = some q → ∀ (H : Heap) (locs : List Loc) (ls : Array Slot), va_P (dC, dI) cls [(a0, .inr (2, [.ref a_in, .ref a_out, .ref a_modem, .ref a_log, .int v_queued, .int v_level, .int v_enabled, .int v_format, .int v_spare, .int v_low, .int v_high, .int v_overrun, .int v_vacated, .int v_quiet, .int v_shifting, .int v_ticksToGo])), (a_in, .inr (3, [.ref a_in_places, .int v_in_limit, .int v_in_first, .int v_in_size])), (a_in_places, .inl (cA, 32, .inl v_in_places)), (a_out, .inr (3, [.ref a_out_places, .int v_out_limit, .int v_out_first, .int v_out_size])), (a_out_places, .inl (cA, 32, .inl v_out_places)), (a_modem, .inr (1, [.int v_modem_control, .int v_modem_changes, .int v_modem_given])), (a_log, .inr (4, [.ref a_log_latest, .int v_log_size])), (a_log_latest, .inl (cA, 32, .inl v_log_latest))] H → va_D A [(a0, .inr (2, [.ref a_in, .ref a_out, .ref a_modem, .ref a_log, .int v_queued, .int v_level, .int v_enabled, .int v_format, .int v_spare, .int v_low, .int v_high, .int v_overrun, .int v_vacated, .int v_quiet, .int v_shifting, .int v_ticksToGo])), (a_in, .inr (3, [.ref a_in_places, .int v_in_limit, .int v_in_first, .int v_in_size])), (a_in_places, .inl (cA, 32, .inl v_in_places)), (a_out, .inr (3, [.ref a_out_places, .int v_out_limit, .int v_out_first, .int v_out_size])), (a_out_places, .inl (cA, 32, .inl v_out_places)), (a_modem, .inr (1, [.int v_modem_control, .int v_modem_changes, .int v_modem_given])), (a_log, .inr (4, [.ref a_log_latest, .int v_log_size])), (a_log_latest, .inl (cA, 32, .inl v_log_latest))] → va_S A s.heap H locs → lv_has ls 1 [(0, .ref a0)] → WW H locs (F0 m 63 ls [.int s_2, .int s_1]) := by
    intro s_2 s_1 hf H locs ls hP hD hS hl
    unfold f_P_findCause_63 at hf
    try dsimp only at hf
    have hP : va_P (dC, dI) cls [(a0, .inr (2, [.ref a_in, .ref a_out, .ref a_modem, .ref a_log, .int v_queued, .int v_level, .int v_enabled, .int v_format, .int v_spare, .int v_low, .int v_high, .int v_overrun, .int v_vacated, .int v_quiet, .int v_shifting, .int v_ticksToGo])), (a_in, .inr (3, [.ref a_in_places, .int v_in_limit, .int v_in_first, .int v_in_size])), (a_in_places, .inl (cA, 32, .inl v_in_places)), (a_out, .inr (3, [.ref a_out_places, .int v_out_limit, .int v_out_first, .int v_out_size])), (a_out_places, .inl (cA, 32, .inl v_out_places)), (a_modem, .inr (1, [.int v_modem_control, .int v_modem_changes, .int v_modem_given])), (a_log, .inr (4, [.ref a_log_latest, .int v_log_size])), (a_log_latest, .inl (cA, 32, .inl v_log_latest))] _ := hP
    have hD : va_D A [(a0, .inr (2, [.ref a_in, .ref a_out, .ref a_modem, .ref a_log, .int v_queued, .int v_level, .int v_enabled, .int v_format, .int v_spare, .int v_low, .int v_high, .int v_overrun, .int v_vacated, .int v_quiet, .int v_shifting, .int v_ticksToGo])), (a_in, .inr (3, [.ref a_in_places, .int v_in_limit, .int v_in_first, .int v_in_size])), (a_in_places, .inl (cA, 32, .inl v_in_places)), (a_out, .inr (3, [.ref a_out_places, .int v_out_limit, .int v_out_first, .int v_out_size])), (a_out_places, .inl (cA, 32, .inl v_out_places)), (a_modem, .inr (1, [.int v_modem_control, .int v_modem_changes, .int v_modem_given])), (a_log, .inr (4, [.ref a_log_latest, .int v_log_size])), (a_log_latest, .inl (cA, 32, .inl v_log_latest))] := hD
    refine wi _ _ _ ?_
    refine lv_icmp_lt (tgt := 68) hx hb d_P_findCause_63 (by decide) (fun c_63 => ?_) (fun c_63 => ?_)
    · have hf := ite_t hf c_63
      exact wo _ _ _ (k_68  hf _ _ _ hP hD hS (lv_sub hl [0] rfl))
    · have hf := ite_f hf c_63
      refine lv_iconst (v := 4) hx hb d_P_findCause_66 (by decide) ?_
      exact W.iret hx hb hr (fun t9 ht9 _ => rr_ (Option.some.inj hf) hP hD hS ht9) hS.2.2 d_P_findCause_67
  have k_32 : f_P_findCause_32 (v_queued, v_level, v_enabled, v_format, v_spare, v_low, v_high, v_overrun, v_vacated, v_quiet, v_shifting, v_ticksToGo, (v_in_limit, v_in_first, v_in_size, v_in_places), (v_out_limit, v_out_first, v_out_size, v_out_places), (v_modem_control, v_modem_changes, v_modem_given), (v_log_size, v_log_latest)) = some q → ∀ (H : Heap) (locs : List Loc) (ls : Array Slot), va_P (dC, dI) cls [(a0, .inr (2, [.ref a_in, .ref a_out, .ref a_modem, .ref a_log, .int v_queued, .int v_level, .int v_enabled, .int v_format, .int v_spare, .int v_low, .int v_high, .int v_overrun, .int v_vacated, .int v_quiet, .int v_shifting, .int v_ticksToGo])), (a_in, .inr (3, [.ref a_in_places, .int v_in_limit, .int v_in_first, .int v_in_size])), (a_in_places, .inl (cA, 32, .inl v_in_places)), (a_out, .inr (3, [.ref a_out_places, .int v_out_limit, .int v_out_first, .int v_out_size])), (a_out_places, .inl (cA, 32, .inl v_out_places)), (a_modem, .inr (1, [.int v_modem_control, .int v_modem_changes, .int v_modem_given])), (a_log, .inr (4, [.ref a_log_latest, .int v_log_size])), (a_log_latest, .inl (cA, 32, .inl v_log_latest))] H → va_D A [(a0, .inr (2, [.ref a_in, .ref a_out, .ref a_modem, .ref a_log, .int v_queued, .int v_level, .int v_enabled, .int v_format, .int v_spare, .int v_low, .int v_high, .int v_overrun, .int v_vacated, .int v_quiet, .int v_shifting, .int v_ticksToGo])), (a_in, .inr (3, [.ref a_in_places, .int v_in_limit, .int v_in_first, .int v_in_size])), (a_in_places, .inl (cA, 32, .inl v_in_places)), (a_out, .inr (3, [.ref a_out_places, .int v_out_limit, .int v_out_first, .int v_out_size])), (a_out_places, .inl (cA, 32, .inl v_out_places)), (a_modem, .inr (1, [.int v_modem_control, .int v_modem_changes, .int v_modem_given])), (a_log, .inr (4, [.ref a_log_latest, .int v_log_size])), (a_log_latest, .inl (cA, 32, .inl v_log_latest))] → va_S A s.heap H locs → lv_has ls 1 [(0, .ref a0)] → WW H locs (F0 m 32 ls []) := by
    intro hf H locs ls hP hD hS hl
    unfold f_P_findCause_32 at hf
    try dsimp only at hf
    have hP : va_P (dC, dI) cls [(a0, .inr (2, [.ref a_in, .ref a_out, .ref a_modem, .ref a_log, .int v_queued, .int v_level, .int v_enabled, .int v_format, .int v_spare, .int v_low, .int v_high, .int v_overrun, .int v_vacated, .int v_quiet, .int v_shifting, .int v_ticksToGo])), (a_in, .inr (3, [.ref a_in_places, .int v_in_limit, .int v_in_first, .int v_in_size])), (a_in_places, .inl (cA, 32, .inl v_in_places)), (a_out, .inr (3, [.ref a_out_places, .int v_out_limit, .int v_out_first, .int v_out_size])), (a_out_places, .inl (cA, 32, .inl v_out_places)), (a_modem, .inr (1, [.int v_modem_control, .int v_modem_changes, .int v_modem_given])), (a_log, .inr (4, [.ref a_log_latest, .int v_log_size])), (a_log_latest, .inl (cA, 32, .inl v_log_latest))] _ := hP
    have hD : va_D A [(a0, .inr (2, [.ref a_in, .ref a_out, .ref a_modem, .ref a_log, .int v_queued, .int v_level, .int v_enabled, .int v_format, .int v_spare, .int v_low, .int v_high, .int v_overrun, .int v_vacated, .int v_quiet, .int v_shifting, .int v_ticksToGo])), (a_in, .inr (3, [.ref a_in_places, .int v_in_limit, .int v_in_first, .int v_in_size])), (a_in_places, .inl (cA, 32, .inl v_in_places)), (a_out, .inr (3, [.ref a_out_places, .int v_out_limit, .int v_out_first, .int v_out_size])), (a_out_places, .inl (cA, 32, .inl v_out_places)), (a_modem, .inr (1, [.int v_modem_control, .int v_modem_changes, .int v_modem_given])), (a_log, .inr (4, [.ref a_log_latest, .int v_log_size])), (a_log_latest, .inl (cA, 32, .inl v_log_latest))] := hD
    refine wi _ _ _ ?_
    refine lv_aload_n hx hb d_P_findCause_32 rfl (lv_at hl 0 rfl) ?_
    refine va_get (D := (dC, dI)) (ci := 2) (v := .int v_enabled) (C := cls_P) (T := fld_P) (N := 16) hx hb ht iin_P hown hK hP 0 rfl rfl 6 (by decide) (ht _ k_P_53) (fun _ h9 => h9) rfl d_P_findCause_33 ?_
    refine lv_iconst (v := 1) hx hb d_P_findCause_36 (by decide) ?_
    refine lv_iand hx hb d_P_findCause_37 ?_
    refine lv_if_eq (tgt := 68) hx hb d_P_findCause_38 (by decide) (fun c_38 => ?_) (fun c_38 => ?_)
    · have hf := ite_t hf c_38
      exact wo _ _ _ (k_68  hf _ _ _ hP hD hS (lv_sub hl [0] rfl))
    · have hf := ite_f hf c_38
      refine lv_aload_n hx hb d_P_findCause_41 rfl (lv_at hl 0 rfl) ?_
      refine va_get (D := (dC, dI)) (ci := 2) (v := .ref a_in) (C := cls_P) (T := fld_P) (N := 16) hx hb ht iin_P hown hK hP 0 rfl rfl 0 (by decide) (ht _ k_P_12) (fun _ h9 => h9) rfl d_P_findCause_42 ?_
      refine va_get (D := (dC, dI)) (ci := 3) (v := .int v_in_size) (C := cls_R) (T := fld_R) (N := 4) hx hb ht iin_R hown hK hP 1 rfl rfl 3 (by decide) (ht _ k_P_93) (fun _ h9 => h9) rfl d_P_findCause_45 ?_
      refine lv_aload_n hx hb d_P_findCause_48 rfl (lv_at hl 0 rfl) ?_
      refine va_get (D := (dC, dI)) (ci := 2) (v := .int v_queued) (C := cls_P) (T := fld_P) (N := 16) hx hb ht iin_P hown hK hP 0 rfl rfl 4 (by decide) (ht _ k_P_96) (fun _ h9 => h9) rfl d_P_findCause_49 ?_
      refine lv_if_eq (tgt := 62) hx hb d_P_findCause_52 (by decide) (fun c_52 => ?_) (fun c_52 => ?_)
      · have hf := ite_t hf c_52
        refine lv_iconst (v := 1) hx hb d_P_findCause_62 (by decide) ?_
        exact wo _ _ _ (k_63 1 v_in_size hf _ _ _ hP hD hS (lv_sub hl [0] rfl))
      · have hf := ite_f hf c_52
        refine lv_aload_n hx hb d_P_findCause_55 rfl (lv_at hl 0 rfl) ?_
        refine va_get (D := (dC, dI)) (ci := 2) (v := .int v_level) (C := cls_P) (T := fld_P) (N := 16) hx hb ht iin_P hown hK hP 0 rfl rfl 5 (by decide) (ht _ k_P_35) (fun _ h9 => h9) rfl d_P_findCause_56 ?_
        refine lv_goto (tgt := 63) hx hb d_P_findCause_59 (by decide) ?_
        exact wo _ _ _ (k_63 v_level v_in_size hf _ _ _ hP hD hS (lv_sub hl [0] rfl))
  unfold f_P_findCause at hf
  try dsimp only at hf
  have hP : va_P (dC, dI) cls [(a0, .inr (2, [.ref a_in, .ref a_out, .ref a_modem, .ref a_log, .int v_queued, .int v_level, .int v_enabled, .int v_format, .int v_spare, .int v_low, .int v_high, .int v_overrun, .int v_vacated, .int v_quiet, .int v_shifting, .int v_ticksToGo])), (a_in, .inr (3, [.ref a_in_places, .int v_in_limit, .int v_in_first, .int v_in_size])), (a_in_places, .inl (cA, 32, .inl v_in_places)), (a_out, .inr (3, [.ref a_out_places, .int v_out_limit, .int v_out_first, .int v_out_size])), (a_out_places, .inl (cA, 32, .inl v_out_places)), (a_modem, .inr (1, [.int v_modem_control, .int v_modem_changes, .int v_modem_given])), (a_log, .inr (4, [.ref a_log_latest, .int v_log_size])), (a_log_latest, .inl (cA, 32, .inl v_log_latest))] _ := hP
  have hD : va_D A [(a0, .inr (2, [.ref a_in, .ref a_out, .ref a_modem, .ref a_log, .int v_queued, .int v_level, .int v_enabled, .int v_format, .int v_spare, .int v_low, .int v_high, .int v_overrun, .int v_vacated, .int v_quiet, .int v_shifting, .int v_ticksToGo])), (a_in, .inr (3, [.ref a_in_places, .int v_in_limit, .int v_in_first, .int v_in_size])), (a_in_places, .inl (cA, 32, .inl v_in_places)), (a_out, .inr (3, [.ref a_out_places, .int v_out_limit, .int v_out_first, .int v_out_size])), (a_out_places, .inl (cA, 32, .inl v_out_places)), (a_modem, .inr (1, [.int v_modem_control, .int v_modem_changes, .int v_modem_given])), (a_log, .inr (4, [.ref a_log_latest, .int v_log_size])), (a_log_latest, .inl (cA, 32, .inl v_log_latest))] := hD
  refine wi _ _ _ ?_
  have hl : lv_has ls 1 [(0, .ref a0)] := hl
  refine lv_aload_n hx hb d_P_findCause_0 rfl (lv_at hl 0 rfl) ?_
  refine va_get (D := (dC, dI)) (ci := 2) (v := .int v_enabled) (C := cls_P) (T := fld_P) (N := 16) hx hb ht iin_P hown hK hP 0 rfl rfl 6 (by decide) (ht _ k_P_53) (fun _ h9 => h9) rfl d_P_findCause_1 ?_
  refine lv_iconst (v := 4) hx hb d_P_findCause_4 (by decide) ?_
  refine lv_iand hx hb d_P_findCause_5 ?_
  refine lv_if_eq (tgt := 32) hx hb d_P_findCause_6 (by decide) (fun c_6 => ?_) (fun c_6 => ?_)
  · have hf := ite_t hf c_6
    exact wo _ _ _ (k_32  hf _ _ _ hP hD hS (lv_sub hl [0] rfl))
  · have hf := ite_f hf c_6
    refine lv_aload_n hx hb d_P_findCause_9 rfl (lv_at hl 0 rfl) ?_
    refine va_get (D := (dC, dI)) (ci := 2) (v := .int v_overrun) (C := cls_P) (T := fld_P) (N := 16) hx hb ht iin_P hown hK hP 0 rfl rfl 11 (by decide) (ht _ k_P_86) (fun _ h9 => h9) rfl d_P_findCause_10 ?_
    refine lv_if_ne (tgt := 29) hx hb d_P_findCause_13 (by decide) (fun c_13 => ?_) (fun c_13 => ?_)
    · have hf := ite_f hf c_13
      exact wo _ _ _ (k_29  hf _ _ _ hP hD hS (lv_sub hl [] rfl))
    · have hf := ite_t hf c_13
      refine lv_aload_n hx hb d_P_findCause_16 rfl (lv_at hl 0 rfl) ?_
      refine va_get (D := (dC, dI)) (ci := 2) (v := .ref a_in) (C := cls_P) (T := fld_P) (N := 16) hx hb ht iin_P hown hK hP 0 rfl rfl 0 (by decide) (ht _ k_P_12) (fun _ h9 => h9) rfl d_P_findCause_17 ?_
      obtain ⟨q_20, hc_20, hf⟩ := bind_e hf
      refine cVr_ (wc := cw_R cA a_in a_in_places (v_in_limit, v_in_first, v_in_size, v_in_places)) (wr := [(a0, .inr (2, [.ref a_in, .ref a_out, .ref a_modem, .ref a_log, .int v_queued, .int v_level, .int v_enabled, .int v_format, .int v_spare, .int v_low, .int v_high, .int v_overrun, .int v_vacated, .int v_quiet, .int v_shifting, .int v_ticksToGo])), (a_out, .inr (3, [.ref a_out_places, .int v_out_limit, .int v_out_first, .int v_out_size])), (a_out_places, .inl (cA, 32, .inl v_out_places)), (a_modem, .inr (1, [.int v_modem_control, .int v_modem_changes, .int v_modem_given])), (a_log, .inr (4, [.ref a_log_latest, .int v_log_size])), (a_log_latest, .inl (cA, 32, .inl v_log_latest))]) (As := []) (rest := []) ⟨hx, hb, hml, hown, ht⟩ (c_R_oldest l dC dI cA t a_in a_in_places _ (v_in_limit, v_in_first, v_in_size, v_in_places)  q_20 hc_20) (cwV 0 ht (gV_ k_P_90 ki_R_oldest ks_R_oldest kn_R kc_R_oldest) rfl rfl rfl ⟨rfl, hd_R_oldest⟩ ⟨Nat.le_of_ble_eq_true rfl, Nat.le_of_ble_eq_true rfl⟩) hK hZ hA hP hD hS [1, 2] [0, 3, 4, 5, 6, 7] rfl rfl (by decide) (by decide) (by decide) rfl rfl rfl rfl hl.1 (Nat.le_of_ble_eq_true rfl) d_P_findCause_20 ⟨Nat.le_of_ble_eq_true rfl, Nat.le_of_ble_eq_true rfl⟩ (fun r_20 H locs hw hP hD hS => ?_)
      subst hw
      have hP : va_P (dC, dI) cls [(a0, .inr (2, [.ref a_in, .ref a_out, .ref a_modem, .ref a_log, .int v_queued, .int v_level, .int v_enabled, .int v_format, .int v_spare, .int v_low, .int v_high, .int v_overrun, .int v_vacated, .int v_quiet, .int v_shifting, .int v_ticksToGo])), (a_in, .inr (3, [.ref a_in_places, .int v_in_limit, .int v_in_first, .int v_in_size])), (a_in_places, .inl (cA, 32, .inl v_in_places)), (a_out, .inr (3, [.ref a_out_places, .int v_out_limit, .int v_out_first, .int v_out_size])), (a_out_places, .inl (cA, 32, .inl v_out_places)), (a_modem, .inr (1, [.int v_modem_control, .int v_modem_changes, .int v_modem_given])), (a_log, .inr (4, [.ref a_log_latest, .int v_log_size])), (a_log_latest, .inl (cA, 32, .inl v_log_latest))] _ := hP.sub [0, 6, 7, 1, 2, 3, 4, 5] rfl
      have hD : va_D A [(a0, .inr (2, [.ref a_in, .ref a_out, .ref a_modem, .ref a_log, .int v_queued, .int v_level, .int v_enabled, .int v_format, .int v_spare, .int v_low, .int v_high, .int v_overrun, .int v_vacated, .int v_quiet, .int v_shifting, .int v_ticksToGo])), (a_in, .inr (3, [.ref a_in_places, .int v_in_limit, .int v_in_first, .int v_in_size])), (a_in_places, .inl (cA, 32, .inl v_in_places)), (a_out, .inr (3, [.ref a_out_places, .int v_out_limit, .int v_out_first, .int v_out_size])), (a_out_places, .inl (cA, 32, .inl v_out_places)), (a_modem, .inr (1, [.int v_modem_control, .int v_modem_changes, .int v_modem_given])), (a_log, .inr (4, [.ref a_log_latest, .int v_log_size])), (a_log_latest, .inl (cA, 32, .inl v_log_latest))] := hD.sub [0, 6, 7, 1, 2, 3, 4, 5] (by decide) rfl
      refine lv_sipush (v := 255) hx hb d_P_findCause_23 (by decide) ?_
      refine lv_icmp_le (tgt := 32) hx hb d_P_findCause_26 (by decide) (fun c_26 => ?_) (fun c_26 => ?_)
      · have hf := ite_t hf c_26
        exact wo _ _ _ (k_32  hf _ _ _ hP hD hS (lv_sub hl [0] rfl))
      · have hf := ite_f hf c_26
        exact wo _ _ _ (k_29  hf _ _ _ hP hD hS (lv_sub hl [] rfl))
def f_P_identify_31 : PtT → Int32 → Option (Int32 × PtT)
  | (v_queued, v_level, v_enabled, v_format, v_spare, v_low, v_high, v_overrun, v_vacated, v_quiet, v_shifting, v_ticksToGo, (v_in_limit, v_in_first, v_in_size, v_in_places), (v_out_limit, v_out_first, v_out_size, v_out_places), (v_modem_control, v_modem_changes, v_modem_given), (v_log_size, v_log_latest)), s_1 => some (s_1, (v_queued, v_level, v_enabled, v_format, v_spare, v_low, v_high, v_overrun, v_vacated, v_quiet, v_shifting, v_ticksToGo, (v_in_limit, v_in_first, v_in_size, v_in_places), (v_out_limit, v_out_first, v_out_size, v_out_places), (v_modem_control, v_modem_changes, v_modem_given), (v_log_size, v_log_latest)))
def f_P_identify_15 : PtT → Int32 → Option (Int32 × PtT)
  | (v_queued, v_level, v_enabled, v_format, v_spare, v_low, v_high, v_overrun, v_vacated, v_quiet, v_shifting, v_ticksToGo, (v_in_limit, v_in_first, v_in_size, v_in_places), (v_out_limit, v_out_first, v_out_size, v_out_places), (v_modem_control, v_modem_changes, v_modem_given), (v_log_size, v_log_latest)), x_1 => if v_queued = 0 then (f_P_identify_31 (v_queued, v_level, v_enabled, v_format, v_spare, v_low, v_high, v_overrun, v_vacated, v_quiet, v_shifting, v_ticksToGo, (v_in_limit, v_in_first, v_in_size, v_in_places), (v_out_limit, v_out_first, v_out_size, v_out_places), (v_modem_control, v_modem_changes, v_modem_given), (v_log_size, v_log_latest)) x_1) else (f_P_identify_31 (v_queued, v_level, v_enabled, v_format, v_spare, v_low, v_high, v_overrun, v_vacated, v_quiet, v_shifting, v_ticksToGo, (v_in_limit, v_in_first, v_in_size, v_in_places), (v_out_limit, v_out_first, v_out_size, v_out_places), (v_modem_control, v_modem_changes, v_modem_given), (v_log_size, v_log_latest)) (x_1 + 192))
def f_P_identify : PtT → Option (Int32 × PtT)
  | (v_queued, v_level, v_enabled, v_format, v_spare, v_low, v_high, v_overrun, v_vacated, v_quiet, v_shifting, v_ticksToGo, (v_in_limit, v_in_first, v_in_size, v_in_places), (v_out_limit, v_out_first, v_out_size, v_out_places), (v_modem_control, v_modem_changes, v_modem_given), (v_log_size, v_log_latest)) => Option.bind (f_P_findCause (v_queued, v_level, v_enabled, v_format, v_spare, v_low, v_high, v_overrun, v_vacated, v_quiet, v_shifting, v_ticksToGo, (v_in_limit, v_in_first, v_in_size, v_in_places), (v_out_limit, v_out_first, v_out_size, v_out_places), (v_modem_control, v_modem_changes, v_modem_given), (v_log_size, v_log_latest))) (fun r_1 => if r_1 = 2 then (f_P_identify_15 (v_queued, v_level, v_enabled, v_format, v_spare, v_low, v_high, v_overrun, 0, v_quiet, v_shifting, v_ticksToGo, (v_in_limit, v_in_first, v_in_size, v_in_places), (v_out_limit, v_out_first, v_out_size, v_out_places), (v_modem_control, v_modem_changes, v_modem_given), (v_log_size, v_log_latest)) r_1) else (f_P_identify_15 (v_queued, v_level, v_enabled, v_format, v_spare, v_low, v_high, v_overrun, v_vacated, v_quiet, v_shifting, v_ticksToGo, (v_in_limit, v_in_first, v_in_size, v_in_places), (v_out_limit, v_out_first, v_out_size, v_out_places), (v_modem_control, v_modem_changes, v_modem_given), (v_log_size, v_log_latest)) r_1))
set_option maxHeartbeats 8000000 in
set_option maxRecDepth 100000 in
theorem c_P_identify (l : Launch) (dC : Nat → ClassId) (dI : Nat → Nat → Nat) (cA : ClassId) (t : Nat) (a0 a_in a_in_places a_out a_out_places a_modem a_log a_log_latest : Nat) (sz : Nat) (u : PtT) (q : Int32 × PtT) (hf : f_P_identify u = some q) : Met l y_P_identify (Cond.code y_P_identify b_P_identify 2 (some .int) :: W0) ({ frames := 2, cells := 0, slots := 0, locals := 41 }) (va_Pc [.ref a0] (pc_ (dC, dI) [(cA, .int)] t sz (cw_P cA a0 a_in a_in_places a_out a_out_places a_modem a_log a_log_latest u))) (qi_ (dC, dI) (cw_P cA a0 a_in a_in_places a_out a_out_places a_modem a_log a_log_latest) q (va_A (cw_P cA a0 a_in a_in_places a_out a_out_places a_modem a_log a_log_latest u) sz)) 0 0 (va_A (cw_P cA a0 a_in a_in_places a_out a_out_places a_modem a_log a_log_latest u) sz) := by
  refine start_ l (qi_ (dC, dI) (cw_P cA a0 a_in a_in_places a_out a_out_places a_modem a_log a_log_latest) q) (by decide) (Nat.le_of_ble_eq_true rfl) ?_
  intro p e s m below meth c hx hb hml hr hown ht hlocks hnm A hA hS hP hK hD hZ ls hl
  have hown : s.vm.findClass cls_P = some m.cls := hown
  refine wabs_ (fun WW wi wo => ?_)
  have k_31 : ∀ (u : PtT) (s_1 : Int32), f_P_identify_31 u s_1 = some q → ∀ (H : Heap) (locs : List Loc) (ls : Array Slot), va_P (dC, dI) cls (cw_P cA a0 a_in a_in_places a_out a_out_places a_modem a_log a_log_latest u) H → va_D A (cw_P cA a0 a_in a_in_places a_out a_out_places a_modem a_log a_log_latest u) → va_S A s.heap H locs → lv_has ls 2 [] → WW H locs (F0 m 31 ls [.int s_1]) := by
    intro u s_1 hf H locs ls hP hD hS hl
    obtain ⟨v_queued, v_level, v_enabled, v_format, v_spare, v_low, v_high, v_overrun, v_vacated, v_quiet, v_shifting, v_ticksToGo, ⟨v_in_limit, v_in_first, v_in_size, v_in_places⟩, ⟨v_out_limit, v_out_first, v_out_size, v_out_places⟩, ⟨v_modem_control, v_modem_changes, v_modem_given⟩, ⟨v_log_size, v_log_latest⟩⟩ := u
    unfold f_P_identify_31 at hf
    try dsimp only at hf
    have hP : va_P (dC, dI) cls [(a0, .inr (2, [.ref a_in, .ref a_out, .ref a_modem, .ref a_log, .int v_queued, .int v_level, .int v_enabled, .int v_format, .int v_spare, .int v_low, .int v_high, .int v_overrun, .int v_vacated, .int v_quiet, .int v_shifting, .int v_ticksToGo])), (a_in, .inr (3, [.ref a_in_places, .int v_in_limit, .int v_in_first, .int v_in_size])), (a_in_places, .inl (cA, 32, .inl v_in_places)), (a_out, .inr (3, [.ref a_out_places, .int v_out_limit, .int v_out_first, .int v_out_size])), (a_out_places, .inl (cA, 32, .inl v_out_places)), (a_modem, .inr (1, [.int v_modem_control, .int v_modem_changes, .int v_modem_given])), (a_log, .inr (4, [.ref a_log_latest, .int v_log_size])), (a_log_latest, .inl (cA, 32, .inl v_log_latest))] _ := hP
    have hD : va_D A [(a0, .inr (2, [.ref a_in, .ref a_out, .ref a_modem, .ref a_log, .int v_queued, .int v_level, .int v_enabled, .int v_format, .int v_spare, .int v_low, .int v_high, .int v_overrun, .int v_vacated, .int v_quiet, .int v_shifting, .int v_ticksToGo])), (a_in, .inr (3, [.ref a_in_places, .int v_in_limit, .int v_in_first, .int v_in_size])), (a_in_places, .inl (cA, 32, .inl v_in_places)), (a_out, .inr (3, [.ref a_out_places, .int v_out_limit, .int v_out_first, .int v_out_size])), (a_out_places, .inl (cA, 32, .inl v_out_places)), (a_modem, .inr (1, [.int v_modem_control, .int v_modem_changes, .int v_modem_given])), (a_log, .inr (4, [.ref a_log_latest, .int v_log_size])), (a_log_latest, .inl (cA, 32, .inl v_log_latest))] := hD
    refine wi _ _ _ ?_
    exact W.iret hx hb hr (fun t9 ht9 _ => ri_ (Option.some.inj hf) hP hD hS ht9) hS.2.2 d_P_identify_31
  have k_15 : ∀ (u : PtT) (x_1 : Int32), f_P_identify_15 u x_1 = some q → ∀ (H : Heap) (locs : List Loc) (ls : Array Slot), va_P (dC, dI) cls (cw_P cA a0 a_in a_in_places a_out a_out_places a_modem a_log a_log_latest u) H → va_D A (cw_P cA a0 a_in a_in_places a_out a_out_places a_modem a_log a_log_latest u) → va_S A s.heap H locs → lv_has ls 2 [(0, .ref a0), (1, .int x_1)] → WW H locs (F0 m 15 ls []) := by
    intro u x_1 hf H locs ls hP hD hS hl
    obtain ⟨v_queued, v_level, v_enabled, v_format, v_spare, v_low, v_high, v_overrun, v_vacated, v_quiet, v_shifting, v_ticksToGo, ⟨v_in_limit, v_in_first, v_in_size, v_in_places⟩, ⟨v_out_limit, v_out_first, v_out_size, v_out_places⟩, ⟨v_modem_control, v_modem_changes, v_modem_given⟩, ⟨v_log_size, v_log_latest⟩⟩ := u
    unfold f_P_identify_15 at hf
    try dsimp only at hf
    have hP : va_P (dC, dI) cls [(a0, .inr (2, [.ref a_in, .ref a_out, .ref a_modem, .ref a_log, .int v_queued, .int v_level, .int v_enabled, .int v_format, .int v_spare, .int v_low, .int v_high, .int v_overrun, .int v_vacated, .int v_quiet, .int v_shifting, .int v_ticksToGo])), (a_in, .inr (3, [.ref a_in_places, .int v_in_limit, .int v_in_first, .int v_in_size])), (a_in_places, .inl (cA, 32, .inl v_in_places)), (a_out, .inr (3, [.ref a_out_places, .int v_out_limit, .int v_out_first, .int v_out_size])), (a_out_places, .inl (cA, 32, .inl v_out_places)), (a_modem, .inr (1, [.int v_modem_control, .int v_modem_changes, .int v_modem_given])), (a_log, .inr (4, [.ref a_log_latest, .int v_log_size])), (a_log_latest, .inl (cA, 32, .inl v_log_latest))] _ := hP
    have hD : va_D A [(a0, .inr (2, [.ref a_in, .ref a_out, .ref a_modem, .ref a_log, .int v_queued, .int v_level, .int v_enabled, .int v_format, .int v_spare, .int v_low, .int v_high, .int v_overrun, .int v_vacated, .int v_quiet, .int v_shifting, .int v_ticksToGo])), (a_in, .inr (3, [.ref a_in_places, .int v_in_limit, .int v_in_first, .int v_in_size])), (a_in_places, .inl (cA, 32, .inl v_in_places)), (a_out, .inr (3, [.ref a_out_places, .int v_out_limit, .int v_out_first, .int v_out_size])), (a_out_places, .inl (cA, 32, .inl v_out_places)), (a_modem, .inr (1, [.int v_modem_control, .int v_modem_changes, .int v_modem_given])), (a_log, .inr (4, [.ref a_log_latest, .int v_log_size])), (a_log_latest, .inl (cA, 32, .inl v_log_latest))] := hD
    refine wi _ _ _ ?_
    refine lv_aload_n hx hb d_P_identify_15 rfl (lv_at hl 0 rfl) ?_
    refine va_get (D := (dC, dI)) (ci := 2) (v := .int v_queued) (C := cls_P) (T := fld_P) (N := 16) hx hb ht iin_P hown hK hP 0 rfl rfl 4 (by decide) (ht _ k_P_96) (fun _ h9 => h9) rfl d_P_identify_16 ?_
    refine lv_if_eq (tgt := 30) hx hb d_P_identify_19 (by decide) (fun c_19 => ?_) (fun c_19 => ?_)
    · have hf := ite_t hf c_19
      refine lv_iload_n hx hb d_P_identify_30 rfl (lv_at hl 1 rfl) ?_
      exact wo _ _ _ (k_31 (v_queued, v_level, v_enabled, v_format, v_spare, v_low, v_high, v_overrun, v_vacated, v_quiet, v_shifting, v_ticksToGo, (v_in_limit, v_in_first, v_in_size, v_in_places), (v_out_limit, v_out_first, v_out_size, v_out_places), (v_modem_control, v_modem_changes, v_modem_given), (v_log_size, v_log_latest)) x_1 hf _ _ _ hP hD hS (lv_sub hl [] rfl))
    · have hf := ite_f hf c_19
      refine lv_iload_n hx hb d_P_identify_22 rfl (lv_at hl 1 rfl) ?_
      refine lv_sipush (v := 192) hx hb d_P_identify_23 (by decide) ?_
      refine lv_iadd hx hb d_P_identify_26 ?_
      refine lv_goto (tgt := 31) hx hb d_P_identify_27 (by decide) ?_
      exact wo _ _ _ (k_31 (v_queued, v_level, v_enabled, v_format, v_spare, v_low, v_high, v_overrun, v_vacated, v_quiet, v_shifting, v_ticksToGo, (v_in_limit, v_in_first, v_in_size, v_in_places), (v_out_limit, v_out_first, v_out_size, v_out_places), (v_modem_control, v_modem_changes, v_modem_given), (v_log_size, v_log_latest)) (x_1 + 192) hf _ _ _ hP hD hS (lv_sub hl [] rfl))
  obtain ⟨v_queued, v_level, v_enabled, v_format, v_spare, v_low, v_high, v_overrun, v_vacated, v_quiet, v_shifting, v_ticksToGo, ⟨v_in_limit, v_in_first, v_in_size, v_in_places⟩, ⟨v_out_limit, v_out_first, v_out_size, v_out_places⟩, ⟨v_modem_control, v_modem_changes, v_modem_given⟩, ⟨v_log_size, v_log_latest⟩⟩ := u
  unfold f_P_identify at hf
  try dsimp only at hf
  have hP : va_P (dC, dI) cls [(a0, .inr (2, [.ref a_in, .ref a_out, .ref a_modem, .ref a_log, .int v_queued, .int v_level, .int v_enabled, .int v_format, .int v_spare, .int v_low, .int v_high, .int v_overrun, .int v_vacated, .int v_quiet, .int v_shifting, .int v_ticksToGo])), (a_in, .inr (3, [.ref a_in_places, .int v_in_limit, .int v_in_first, .int v_in_size])), (a_in_places, .inl (cA, 32, .inl v_in_places)), (a_out, .inr (3, [.ref a_out_places, .int v_out_limit, .int v_out_first, .int v_out_size])), (a_out_places, .inl (cA, 32, .inl v_out_places)), (a_modem, .inr (1, [.int v_modem_control, .int v_modem_changes, .int v_modem_given])), (a_log, .inr (4, [.ref a_log_latest, .int v_log_size])), (a_log_latest, .inl (cA, 32, .inl v_log_latest))] _ := hP
  have hD : va_D A [(a0, .inr (2, [.ref a_in, .ref a_out, .ref a_modem, .ref a_log, .int v_queued, .int v_level, .int v_enabled, .int v_format, .int v_spare, .int v_low, .int v_high, .int v_overrun, .int v_vacated, .int v_quiet, .int v_shifting, .int v_ticksToGo])), (a_in, .inr (3, [.ref a_in_places, .int v_in_limit, .int v_in_first, .int v_in_size])), (a_in_places, .inl (cA, 32, .inl v_in_places)), (a_out, .inr (3, [.ref a_out_places, .int v_out_limit, .int v_out_first, .int v_out_size])), (a_out_places, .inl (cA, 32, .inl v_out_places)), (a_modem, .inr (1, [.int v_modem_control, .int v_modem_changes, .int v_modem_given])), (a_log, .inr (4, [.ref a_log_latest, .int v_log_size])), (a_log_latest, .inl (cA, 32, .inl v_log_latest))] := hD
  refine wi _ _ _ ?_
  have hl : lv_has ls 2 [(0, .ref a0)] := hl
  refine lv_aload_n hx hb d_P_identify_0 rfl (lv_at hl 0 rfl) ?_
  obtain ⟨q_1, hc_1, hf⟩ := bind_e hf
  refine cVr_ (wc := cw_P cA a0 a_in a_in_places a_out a_out_places a_modem a_log a_log_latest (v_queued, v_level, v_enabled, v_format, v_spare, v_low, v_high, v_overrun, v_vacated, v_quiet, v_shifting, v_ticksToGo, (v_in_limit, v_in_first, v_in_size, v_in_places), (v_out_limit, v_out_first, v_out_size, v_out_places), (v_modem_control, v_modem_changes, v_modem_given), (v_log_size, v_log_latest))) (wr := []) (As := []) (rest := []) ⟨hx, hb, hml, hown, ht⟩ (c_P_findCause l dC dI cA t a0 a_in a_in_places a_out a_out_places a_modem a_log a_log_latest _ (v_queued, v_level, v_enabled, v_format, v_spare, v_low, v_high, v_overrun, v_vacated, v_quiet, v_shifting, v_ticksToGo, (v_in_limit, v_in_first, v_in_size, v_in_places), (v_out_limit, v_out_first, v_out_size, v_out_places), (v_modem_control, v_modem_changes, v_modem_given), (v_log_size, v_log_latest))  q_1 hc_1) (cwV 0 ht (gV_ k_P_111 ki_P_findCause ks_P_findCause kn_P kc_P_findCause) rfl rfl rfl ⟨rfl, hd_P_findCause⟩ ⟨Nat.le_of_ble_eq_true rfl, Nat.le_of_ble_eq_true rfl⟩) hK hZ hA hP hD hS [0, 1, 2, 3, 4, 5, 6, 7] [] rfl rfl (by decide) (by decide) (by decide) rfl rfl rfl rfl hl.1 (Nat.le_of_ble_eq_true rfl) d_P_identify_1 ⟨Nat.le_of_ble_eq_true rfl, Nat.le_of_ble_eq_true rfl⟩ (fun r_1 H locs hw hP hD hS => ?_)
  subst hw
  have hP : va_P (dC, dI) cls [(a0, .inr (2, [.ref a_in, .ref a_out, .ref a_modem, .ref a_log, .int v_queued, .int v_level, .int v_enabled, .int v_format, .int v_spare, .int v_low, .int v_high, .int v_overrun, .int v_vacated, .int v_quiet, .int v_shifting, .int v_ticksToGo])), (a_in, .inr (3, [.ref a_in_places, .int v_in_limit, .int v_in_first, .int v_in_size])), (a_in_places, .inl (cA, 32, .inl v_in_places)), (a_out, .inr (3, [.ref a_out_places, .int v_out_limit, .int v_out_first, .int v_out_size])), (a_out_places, .inl (cA, 32, .inl v_out_places)), (a_modem, .inr (1, [.int v_modem_control, .int v_modem_changes, .int v_modem_given])), (a_log, .inr (4, [.ref a_log_latest, .int v_log_size])), (a_log_latest, .inl (cA, 32, .inl v_log_latest))] _ := hP.sub [0, 1, 2, 3, 4, 5, 6, 7] rfl
  have hD : va_D A [(a0, .inr (2, [.ref a_in, .ref a_out, .ref a_modem, .ref a_log, .int v_queued, .int v_level, .int v_enabled, .int v_format, .int v_spare, .int v_low, .int v_high, .int v_overrun, .int v_vacated, .int v_quiet, .int v_shifting, .int v_ticksToGo])), (a_in, .inr (3, [.ref a_in_places, .int v_in_limit, .int v_in_first, .int v_in_size])), (a_in_places, .inl (cA, 32, .inl v_in_places)), (a_out, .inr (3, [.ref a_out_places, .int v_out_limit, .int v_out_first, .int v_out_size])), (a_out_places, .inl (cA, 32, .inl v_out_places)), (a_modem, .inr (1, [.int v_modem_control, .int v_modem_changes, .int v_modem_given])), (a_log, .inr (4, [.ref a_log_latest, .int v_log_size])), (a_log_latest, .inl (cA, 32, .inl v_log_latest))] := hD.sub [0, 1, 2, 3, 4, 5, 6, 7] (by decide) rfl
  refine lv_istore_n (lv' := [(1, .int r_1), (0, .ref a0)]) hx hb d_P_identify_4 rfl hl (by decide) rfl (fun ls hl => ?_)
  refine lv_iload_n hx hb d_P_identify_5 rfl (lv_at hl 0 rfl) ?_
  refine lv_iconst (v := 2) hx hb d_P_identify_6 (by decide) ?_
  refine lv_icmp_ne (tgt := 15) hx hb d_P_identify_7 (by decide) (fun c_7 => ?_) (fun c_7 => ?_)
  · have hf := ite_f hf c_7
    exact wo _ _ _ (k_15 (v_queued, v_level, v_enabled, v_format, v_spare, v_low, v_high, v_overrun, v_vacated, v_quiet, v_shifting, v_ticksToGo, (v_in_limit, v_in_first, v_in_size, v_in_places), (v_out_limit, v_out_first, v_out_size, v_out_places), (v_modem_control, v_modem_changes, v_modem_given), (v_log_size, v_log_latest)) r_1 hf _ _ _ hP hD hS (lv_sub hl [1, 0] rfl))
  · have hf := ite_t hf c_7
    refine lv_aload_n hx hb d_P_identify_10 rfl (lv_at hl 1 rfl) ?_
    refine lv_iconst (v := 0) hx hb d_P_identify_11 (by decide) ?_
    refine va_put (D := (dC, dI)) (ci := 2) (v := .int 0) (ty := .boolean) (C := cls_P) (T := fld_P) (N := 16) hx hb ht iin_P typ_P tok_P nam_P hown hK hP hD hS 0 rfl rfl 12 (by decide) (ht _ k_P_105) (fun _ h9 => h9) rfl (tok_P 12 (by decide)) rfl rfl (Nat.le_of_ble_eq_true rfl) d_P_identify_12 (fun H locs hP hD hS => ?_)
    have hP : va_P (dC, dI) cls [(a0, .inr (2, [.ref a_in, .ref a_out, .ref a_modem, .ref a_log, .int v_queued, .int v_level, .int v_enabled, .int v_format, .int v_spare, .int v_low, .int v_high, .int v_overrun, .int 0, .int v_quiet, .int v_shifting, .int v_ticksToGo])), (a_in, .inr (3, [.ref a_in_places, .int v_in_limit, .int v_in_first, .int v_in_size])), (a_in_places, .inl (cA, 32, .inl v_in_places)), (a_out, .inr (3, [.ref a_out_places, .int v_out_limit, .int v_out_first, .int v_out_size])), (a_out_places, .inl (cA, 32, .inl v_out_places)), (a_modem, .inr (1, [.int v_modem_control, .int v_modem_changes, .int v_modem_given])), (a_log, .inr (4, [.ref a_log_latest, .int v_log_size])), (a_log_latest, .inl (cA, 32, .inl v_log_latest))] _ := hP
    have hD : va_D A [(a0, .inr (2, [.ref a_in, .ref a_out, .ref a_modem, .ref a_log, .int v_queued, .int v_level, .int v_enabled, .int v_format, .int v_spare, .int v_low, .int v_high, .int v_overrun, .int 0, .int v_quiet, .int v_shifting, .int v_ticksToGo])), (a_in, .inr (3, [.ref a_in_places, .int v_in_limit, .int v_in_first, .int v_in_size])), (a_in_places, .inl (cA, 32, .inl v_in_places)), (a_out, .inr (3, [.ref a_out_places, .int v_out_limit, .int v_out_first, .int v_out_size])), (a_out_places, .inl (cA, 32, .inl v_out_places)), (a_modem, .inr (1, [.int v_modem_control, .int v_modem_changes, .int v_modem_given])), (a_log, .inr (4, [.ref a_log_latest, .int v_log_size])), (a_log_latest, .inl (cA, 32, .inl v_log_latest))] := hD
    exact wo _ _ _ (k_15 (v_queued, v_level, v_enabled, v_format, v_spare, v_low, v_high, v_overrun, 0, v_quiet, v_shifting, v_ticksToGo, (v_in_limit, v_in_first, v_in_size, v_in_places), (v_out_limit, v_out_first, v_out_size, v_out_places), (v_modem_control, v_modem_changes, v_modem_given), (v_log_size, v_log_latest)) r_1 hf _ _ _ hP hD hS (lv_sub hl [1, 0] rfl))
def f_P_takeIn_15 : PtT → Option (Int32 × PtT)
  | (v_queued, v_level, v_enabled, v_format, v_spare, v_low, v_high, v_overrun, v_vacated, v_quiet, v_shifting, v_ticksToGo, (v_in_limit, v_in_first, v_in_size, v_in_places), (v_out_limit, v_out_first, v_out_size, v_out_places), (v_modem_control, v_modem_changes, v_modem_given), (v_log_size, v_log_latest)) => Option.bind (f_R_removeOldest (v_in_limit, v_in_first, v_in_size, v_in_places)) (fun q_19 => match q_19 with | (r_19, (v_in_limit_19, v_in_first_19, v_in_size_19, v_in_places_19)) => some ((r_19 &&& 255), (v_queued, v_level, v_enabled, v_format, v_spare, v_low, v_high, v_overrun, v_vacated, v_quiet, v_shifting, v_ticksToGo, (v_in_limit_19, v_in_first_19, v_in_size_19, v_in_places_19), (v_out_limit, v_out_first, v_out_size, v_out_places), (v_modem_control, v_modem_changes, v_modem_given), (v_log_size, v_log_latest))))
def f_P_takeIn : PtT → Option (Int32 × PtT)
  | (v_queued, v_level, v_enabled, v_format, v_spare, v_low, v_high, v_overrun, v_vacated, v_quiet, v_shifting, v_ticksToGo, (v_in_limit, v_in_first, v_in_size, v_in_places), (v_out_limit, v_out_first, v_out_size, v_out_places), (v_modem_control, v_modem_changes, v_modem_given), (v_log_size, v_log_latest)) => if v_in_size ≤ 0 then (f_P_takeIn_15 (v_queued, v_level, v_enabled, v_format, v_spare, v_low, v_high, v_overrun, v_vacated, v_quiet, v_shifting, v_ticksToGo, (v_in_limit, v_in_first, v_in_size, v_in_places), (v_out_limit, v_out_first, v_out_size, v_out_places), (v_modem_control, v_modem_changes, v_modem_given), (v_log_size, v_log_latest))) else (f_P_takeIn_15 (v_queued, v_level, v_enabled, v_format, v_spare, v_low, v_high, v_overrun, v_vacated, 0, v_shifting, v_ticksToGo, (v_in_limit, v_in_first, v_in_size, v_in_places), (v_out_limit, v_out_first, v_out_size, v_out_places), (v_modem_control, v_modem_changes, v_modem_given), (v_log_size, v_log_latest)))
set_option maxHeartbeats 8000000 in
set_option maxRecDepth 100000 in
theorem c_P_takeIn (l : Launch) (dC : Nat → ClassId) (dI : Nat → Nat → Nat) (cA : ClassId) (t : Nat) (a0 a_in a_in_places a_out a_out_places a_modem a_log a_log_latest : Nat) (sz : Nat) (u : PtT) (q : Int32 × PtT) (hf : f_P_takeIn u = some q) : Met l y_P_takeIn (Cond.code y_P_takeIn b_P_takeIn 1 (some .int) :: W0) ({ frames := 1, cells := 0, slots := 0, locals := 21 }) (va_Pc [.ref a0] (pc_ (dC, dI) [(cA, .int)] t sz (cw_P cA a0 a_in a_in_places a_out a_out_places a_modem a_log a_log_latest u))) (qi_ (dC, dI) (cw_P cA a0 a_in a_in_places a_out a_out_places a_modem a_log a_log_latest) q (va_A (cw_P cA a0 a_in a_in_places a_out a_out_places a_modem a_log a_log_latest u) sz)) 0 0 (va_A (cw_P cA a0 a_in a_in_places a_out a_out_places a_modem a_log a_log_latest u) sz) := by
  refine start_ l (qi_ (dC, dI) (cw_P cA a0 a_in a_in_places a_out a_out_places a_modem a_log a_log_latest) q) (by decide) (Nat.le_of_ble_eq_true rfl) ?_
  intro p e s m below meth c hx hb hml hr hown ht hlocks hnm A hA hS hP hK hD hZ ls hl
  have hown : s.vm.findClass cls_P = some m.cls := hown
  refine wabs_ (fun WW wi wo => ?_)
  have k_15 : ∀ (u : PtT), f_P_takeIn_15 u = some q → ∀ (H : Heap) (locs : List Loc) (ls : Array Slot), va_P (dC, dI) cls (cw_P cA a0 a_in a_in_places a_out a_out_places a_modem a_log a_log_latest u) H → va_D A (cw_P cA a0 a_in a_in_places a_out a_out_places a_modem a_log a_log_latest u) → va_S A s.heap H locs → lv_has ls 1 [(0, .ref a0)] → WW H locs (F0 m 15 ls []) := by
    intro u hf H locs ls hP hD hS hl
    obtain ⟨v_queued, v_level, v_enabled, v_format, v_spare, v_low, v_high, v_overrun, v_vacated, v_quiet, v_shifting, v_ticksToGo, ⟨v_in_limit, v_in_first, v_in_size, v_in_places⟩, ⟨v_out_limit, v_out_first, v_out_size, v_out_places⟩, ⟨v_modem_control, v_modem_changes, v_modem_given⟩, ⟨v_log_size, v_log_latest⟩⟩ := u
    unfold f_P_takeIn_15 at hf
    try dsimp only at hf
    have hP : va_P (dC, dI) cls [(a0, .inr (2, [.ref a_in, .ref a_out, .ref a_modem, .ref a_log, .int v_queued, .int v_level, .int v_enabled, .int v_format, .int v_spare, .int v_low, .int v_high, .int v_overrun, .int v_vacated, .int v_quiet, .int v_shifting, .int v_ticksToGo])), (a_in, .inr (3, [.ref a_in_places, .int v_in_limit, .int v_in_first, .int v_in_size])), (a_in_places, .inl (cA, 32, .inl v_in_places)), (a_out, .inr (3, [.ref a_out_places, .int v_out_limit, .int v_out_first, .int v_out_size])), (a_out_places, .inl (cA, 32, .inl v_out_places)), (a_modem, .inr (1, [.int v_modem_control, .int v_modem_changes, .int v_modem_given])), (a_log, .inr (4, [.ref a_log_latest, .int v_log_size])), (a_log_latest, .inl (cA, 32, .inl v_log_latest))] _ := hP
    have hD : va_D A [(a0, .inr (2, [.ref a_in, .ref a_out, .ref a_modem, .ref a_log, .int v_queued, .int v_level, .int v_enabled, .int v_format, .int v_spare, .int v_low, .int v_high, .int v_overrun, .int v_vacated, .int v_quiet, .int v_shifting, .int v_ticksToGo])), (a_in, .inr (3, [.ref a_in_places, .int v_in_limit, .int v_in_first, .int v_in_size])), (a_in_places, .inl (cA, 32, .inl v_in_places)), (a_out, .inr (3, [.ref a_out_places, .int v_out_limit, .int v_out_first, .int v_out_size])), (a_out_places, .inl (cA, 32, .inl v_out_places)), (a_modem, .inr (1, [.int v_modem_control, .int v_modem_changes, .int v_modem_given])), (a_log, .inr (4, [.ref a_log_latest, .int v_log_size])), (a_log_latest, .inl (cA, 32, .inl v_log_latest))] := hD
    refine wi _ _ _ ?_
    refine lv_aload_n hx hb d_P_takeIn_15 rfl (lv_at hl 0 rfl) ?_
    refine va_get (D := (dC, dI)) (ci := 2) (v := .ref a_in) (C := cls_P) (T := fld_P) (N := 16) hx hb ht iin_P hown hK hP 0 rfl rfl 0 (by decide) (ht _ k_P_12) (fun _ h9 => h9) rfl d_P_takeIn_16 ?_
    obtain ⟨q_19, hc_19, hf⟩ := bind_e hf
    refine cVi_ (wc := cw_R cA a_in a_in_places (v_in_limit, v_in_first, v_in_size, v_in_places)) (wr := [(a0, .inr (2, [.ref a_in, .ref a_out, .ref a_modem, .ref a_log, .int v_queued, .int v_level, .int v_enabled, .int v_format, .int v_spare, .int v_low, .int v_high, .int v_overrun, .int v_vacated, .int v_quiet, .int v_shifting, .int v_ticksToGo])), (a_out, .inr (3, [.ref a_out_places, .int v_out_limit, .int v_out_first, .int v_out_size])), (a_out_places, .inl (cA, 32, .inl v_out_places)), (a_modem, .inr (1, [.int v_modem_control, .int v_modem_changes, .int v_modem_given])), (a_log, .inr (4, [.ref a_log_latest, .int v_log_size])), (a_log_latest, .inl (cA, 32, .inl v_log_latest))]) (As := []) (rest := []) ⟨hx, hb, hml, hown, ht⟩ (c_R_removeOldest l dC dI cA t a_in a_in_places _ (v_in_limit, v_in_first, v_in_size, v_in_places)  q_19 hc_19) (cwV 0 ht (gV_ k_P_114 ki_R_removeOldest ks_R_removeOldest kn_R kc_R_removeOldest) rfl rfl rfl ⟨rfl, hd_R_removeOldest⟩ ⟨Nat.le_of_ble_eq_true rfl, Nat.le_of_ble_eq_true rfl⟩) hK hZ hA hP hD hS [1, 2] [0, 3, 4, 5, 6, 7] rfl rfl (by decide) (by decide) (by decide) rfl rfl rfl rfl hl.1 (Nat.le_of_ble_eq_true rfl) d_P_takeIn_19 ⟨Nat.le_of_ble_eq_true rfl, Nat.le_of_ble_eq_true rfl⟩ (fun r_19 u H locs hw hP hD hS => ?_)
    obtain ⟨v_in_limit_19, v_in_first_19, v_in_size_19, v_in_places_19⟩ := u
    subst hw
    have hP : va_P (dC, dI) cls [(a0, .inr (2, [.ref a_in, .ref a_out, .ref a_modem, .ref a_log, .int v_queued, .int v_level, .int v_enabled, .int v_format, .int v_spare, .int v_low, .int v_high, .int v_overrun, .int v_vacated, .int v_quiet, .int v_shifting, .int v_ticksToGo])), (a_in, .inr (3, [.ref a_in_places, .int v_in_limit_19, .int v_in_first_19, .int v_in_size_19])), (a_in_places, .inl (cA, 32, .inl v_in_places_19)), (a_out, .inr (3, [.ref a_out_places, .int v_out_limit, .int v_out_first, .int v_out_size])), (a_out_places, .inl (cA, 32, .inl v_out_places)), (a_modem, .inr (1, [.int v_modem_control, .int v_modem_changes, .int v_modem_given])), (a_log, .inr (4, [.ref a_log_latest, .int v_log_size])), (a_log_latest, .inl (cA, 32, .inl v_log_latest))] _ := hP.sub [0, 6, 7, 1, 2, 3, 4, 5] rfl
    have hD : va_D A [(a0, .inr (2, [.ref a_in, .ref a_out, .ref a_modem, .ref a_log, .int v_queued, .int v_level, .int v_enabled, .int v_format, .int v_spare, .int v_low, .int v_high, .int v_overrun, .int v_vacated, .int v_quiet, .int v_shifting, .int v_ticksToGo])), (a_in, .inr (3, [.ref a_in_places, .int v_in_limit_19, .int v_in_first_19, .int v_in_size_19])), (a_in_places, .inl (cA, 32, .inl v_in_places_19)), (a_out, .inr (3, [.ref a_out_places, .int v_out_limit, .int v_out_first, .int v_out_size])), (a_out_places, .inl (cA, 32, .inl v_out_places)), (a_modem, .inr (1, [.int v_modem_control, .int v_modem_changes, .int v_modem_given])), (a_log, .inr (4, [.ref a_log_latest, .int v_log_size])), (a_log_latest, .inl (cA, 32, .inl v_log_latest))] := hD.sub [0, 6, 7, 1, 2, 3, 4, 5] (by decide) rfl
    try dsimp only at hf
    refine lv_sipush (v := 255) hx hb d_P_takeIn_22 (by decide) ?_
    refine lv_iand hx hb d_P_takeIn_25 ?_
    exact W.iret hx hb hr (fun t9 ht9 _ => ri_ (Option.some.inj hf) hP hD hS ht9) hS.2.2 d_P_takeIn_26
  obtain ⟨v_queued, v_level, v_enabled, v_format, v_spare, v_low, v_high, v_overrun, v_vacated, v_quiet, v_shifting, v_ticksToGo, ⟨v_in_limit, v_in_first, v_in_size, v_in_places⟩, ⟨v_out_limit, v_out_first, v_out_size, v_out_places⟩, ⟨v_modem_control, v_modem_changes, v_modem_given⟩, ⟨v_log_size, v_log_latest⟩⟩ := u
  unfold f_P_takeIn at hf
  try dsimp only at hf
  have hP : va_P (dC, dI) cls [(a0, .inr (2, [.ref a_in, .ref a_out, .ref a_modem, .ref a_log, .int v_queued, .int v_level, .int v_enabled, .int v_format, .int v_spare, .int v_low, .int v_high, .int v_overrun, .int v_vacated, .int v_quiet, .int v_shifting, .int v_ticksToGo])), (a_in, .inr (3, [.ref a_in_places, .int v_in_limit, .int v_in_first, .int v_in_size])), (a_in_places, .inl (cA, 32, .inl v_in_places)), (a_out, .inr (3, [.ref a_out_places, .int v_out_limit, .int v_out_first, .int v_out_size])), (a_out_places, .inl (cA, 32, .inl v_out_places)), (a_modem, .inr (1, [.int v_modem_control, .int v_modem_changes, .int v_modem_given])), (a_log, .inr (4, [.ref a_log_latest, .int v_log_size])), (a_log_latest, .inl (cA, 32, .inl v_log_latest))] _ := hP
  have hD : va_D A [(a0, .inr (2, [.ref a_in, .ref a_out, .ref a_modem, .ref a_log, .int v_queued, .int v_level, .int v_enabled, .int v_format, .int v_spare, .int v_low, .int v_high, .int v_overrun, .int v_vacated, .int v_quiet, .int v_shifting, .int v_ticksToGo])), (a_in, .inr (3, [.ref a_in_places, .int v_in_limit, .int v_in_first, .int v_in_size])), (a_in_places, .inl (cA, 32, .inl v_in_places)), (a_out, .inr (3, [.ref a_out_places, .int v_out_limit, .int v_out_first, .int v_out_size])), (a_out_places, .inl (cA, 32, .inl v_out_places)), (a_modem, .inr (1, [.int v_modem_control, .int v_modem_changes, .int v_modem_given])), (a_log, .inr (4, [.ref a_log_latest, .int v_log_size])), (a_log_latest, .inl (cA, 32, .inl v_log_latest))] := hD
  refine wi _ _ _ ?_
  have hl : lv_has ls 1 [(0, .ref a0)] := hl
  refine lv_aload_n hx hb d_P_takeIn_0 rfl (lv_at hl 0 rfl) ?_
  refine va_get (D := (dC, dI)) (ci := 2) (v := .ref a_in) (C := cls_P) (T := fld_P) (N := 16) hx hb ht iin_P hown hK hP 0 rfl rfl 0 (by decide) (ht _ k_P_12) (fun _ h9 => h9) rfl d_P_takeIn_1 ?_
  refine va_get (D := (dC, dI)) (ci := 3) (v := .int v_in_size) (C := cls_R) (T := fld_R) (N := 4) hx hb ht iin_R hown hK hP 1 rfl rfl 3 (by decide) (ht _ k_P_93) (fun _ h9 => h9) rfl d_P_takeIn_4 ?_
  refine lv_if_le (tgt := 15) hx hb d_P_takeIn_7 (by decide) (fun c_7 => ?_) (fun c_7 => ?_)
  · have hf := ite_t hf c_7
    exact wo _ _ _ (k_15 (v_queued, v_level, v_enabled, v_format, v_spare, v_low, v_high, v_overrun, v_vacated, v_quiet, v_shifting, v_ticksToGo, (v_in_limit, v_in_first, v_in_size, v_in_places), (v_out_limit, v_out_first, v_out_size, v_out_places), (v_modem_control, v_modem_changes, v_modem_given), (v_log_size, v_log_latest)) hf _ _ _ hP hD hS (lv_sub hl [0] rfl))
  · have hf := ite_f hf c_7
    refine lv_aload_n hx hb d_P_takeIn_10 rfl (lv_at hl 0 rfl) ?_
    refine lv_iconst (v := 0) hx hb d_P_takeIn_11 (by decide) ?_
    refine va_put (D := (dC, dI)) (ci := 2) (v := .int 0) (ty := .int) (C := cls_P) (T := fld_P) (N := 16) hx hb ht iin_P typ_P tok_P nam_P hown hK hP hD hS 0 rfl rfl 13 (by decide) (ht _ k_P_99) (fun _ h9 => h9) rfl (tok_P 13 (by decide)) rfl rfl (Nat.le_of_ble_eq_true rfl) d_P_takeIn_12 (fun H locs hP hD hS => ?_)
    have hP : va_P (dC, dI) cls [(a0, .inr (2, [.ref a_in, .ref a_out, .ref a_modem, .ref a_log, .int v_queued, .int v_level, .int v_enabled, .int v_format, .int v_spare, .int v_low, .int v_high, .int v_overrun, .int v_vacated, .int 0, .int v_shifting, .int v_ticksToGo])), (a_in, .inr (3, [.ref a_in_places, .int v_in_limit, .int v_in_first, .int v_in_size])), (a_in_places, .inl (cA, 32, .inl v_in_places)), (a_out, .inr (3, [.ref a_out_places, .int v_out_limit, .int v_out_first, .int v_out_size])), (a_out_places, .inl (cA, 32, .inl v_out_places)), (a_modem, .inr (1, [.int v_modem_control, .int v_modem_changes, .int v_modem_given])), (a_log, .inr (4, [.ref a_log_latest, .int v_log_size])), (a_log_latest, .inl (cA, 32, .inl v_log_latest))] _ := hP
    have hD : va_D A [(a0, .inr (2, [.ref a_in, .ref a_out, .ref a_modem, .ref a_log, .int v_queued, .int v_level, .int v_enabled, .int v_format, .int v_spare, .int v_low, .int v_high, .int v_overrun, .int v_vacated, .int 0, .int v_shifting, .int v_ticksToGo])), (a_in, .inr (3, [.ref a_in_places, .int v_in_limit, .int v_in_first, .int v_in_size])), (a_in_places, .inl (cA, 32, .inl v_in_places)), (a_out, .inr (3, [.ref a_out_places, .int v_out_limit, .int v_out_first, .int v_out_size])), (a_out_places, .inl (cA, 32, .inl v_out_places)), (a_modem, .inr (1, [.int v_modem_control, .int v_modem_changes, .int v_modem_given])), (a_log, .inr (4, [.ref a_log_latest, .int v_log_size])), (a_log_latest, .inl (cA, 32, .inl v_log_latest))] := hD
    exact wo _ _ _ (k_15 (v_queued, v_level, v_enabled, v_format, v_spare, v_low, v_high, v_overrun, v_vacated, 0, v_shifting, v_ticksToGo, (v_in_limit, v_in_first, v_in_size, v_in_places), (v_out_limit, v_out_first, v_out_size, v_out_places), (v_modem_control, v_modem_changes, v_modem_given), (v_log_size, v_log_latest)) hf _ _ _ hP hD hS (lv_sub hl [0] rfl))
def f_P_readStatus_119 : PtT → Int32 → Int32 → Option (Int32 × PtT)
  | (v_queued, v_level, v_enabled, v_format, v_spare, v_low, v_high, v_overrun, v_vacated, v_quiet, v_shifting, v_ticksToGo, (v_in_limit, v_in_first, v_in_size, v_in_places), (v_out_limit, v_out_first, v_out_size, v_out_places), (v_modem_control, v_modem_changes, v_modem_given), (v_log_size, v_log_latest)), s_2, s_1 => Option.bind (f_R_oldest (v_in_limit, v_in_first, v_in_size, v_in_places)) (fun r_134 => Option.bind (f_R_replaceOldest (v_in_limit, v_in_first, v_in_size, v_in_places) (r_134 &&& 255)) (fun q_141 => match q_141 with | (v_in_limit_141, v_in_first_141, v_in_size_141, v_in_places_141) => some ((s_1 + s_2), (v_queued, v_level, v_enabled, v_format, v_spare, v_low, v_high, 0, v_vacated, v_quiet, v_shifting, v_ticksToGo, (v_in_limit_141, v_in_first_141, v_in_size_141, v_in_places_141), (v_out_limit, v_out_first, v_out_size, v_out_places), (v_modem_control, v_modem_changes, v_modem_given), (v_log_size, v_log_latest)))))
def f_P_readStatus_118 : PtT → Int32 → Option (Int32 × PtT)
  | (v_queued, v_level, v_enabled, v_format, v_spare, v_low, v_high, v_overrun, v_vacated, v_quiet, v_shifting, v_ticksToGo, (v_in_limit, v_in_first, v_in_size, v_in_places), (v_out_limit, v_out_first, v_out_size, v_out_places), (v_modem_control, v_modem_changes, v_modem_given), (v_log_size, v_log_latest)), s_1 => f_P_readStatus_119 (v_queued, v_level, v_enabled, v_format, v_spare, v_low, v_high, v_overrun, v_vacated, v_quiet, v_shifting, v_ticksToGo, (v_in_limit, v_in_first, v_in_size, v_in_places), (v_out_limit, v_out_first, v_out_size, v_out_places), (v_modem_control, v_modem_changes, v_modem_given), (v_log_size, v_log_latest)) 0 s_1
def f_P_readStatus_89 : PtT → Int32 → Int32 → Option (Int32 × PtT)
  | (v_queued, v_level, v_enabled, v_format, v_spare, v_low, v_high, v_overrun, v_vacated, v_quiet, v_shifting, v_ticksToGo, (v_in_limit, v_in_first, v_in_size, v_in_places), (v_out_limit, v_out_first, v_out_size, v_out_places), (v_modem_control, v_modem_changes, v_modem_given), (v_log_size, v_log_latest)), s_2, s_1 => if v_queued = 0 then (f_P_readStatus_118 (v_queued, v_level, v_enabled, v_format, v_spare, v_low, v_high, v_overrun, v_vacated, v_quiet, v_shifting, v_ticksToGo, (v_in_limit, v_in_first, v_in_size, v_in_places), (v_out_limit, v_out_first, v_out_size, v_out_places), (v_modem_control, v_modem_changes, v_modem_given), (v_log_size, v_log_latest)) (s_1 + s_2)) else (Option.bind (f_R_hasItemAbove (v_in_limit, v_in_first, v_in_size, v_in_places) 255) (fun r_106 => if r_106 = 0 then (f_P_readStatus_118 (v_queued, v_level, v_enabled, v_format, v_spare, v_low, v_high, v_overrun, v_vacated, v_quiet, v_shifting, v_ticksToGo, (v_in_limit, v_in_first, v_in_size, v_in_places), (v_out_limit, v_out_first, v_out_size, v_out_places), (v_modem_control, v_modem_changes, v_modem_given), (v_log_size, v_log_latest)) (s_1 + s_2)) else (f_P_readStatus_119 (v_queued, v_level, v_enabled, v_format, v_spare, v_low, v_high, v_overrun, v_vacated, v_quiet, v_shifting, v_ticksToGo, (v_in_limit, v_in_first, v_in_size, v_in_places), (v_out_limit, v_out_first, v_out_size, v_out_places), (v_modem_control, v_modem_changes, v_modem_given), (v_log_size, v_log_latest)) 128 (s_1 + s_2))))
def f_P_readStatus_88 : PtT → Int32 → Option (Int32 × PtT)
  | (v_queued, v_level, v_enabled, v_format, v_spare, v_low, v_high, v_overrun, v_vacated, v_quiet, v_shifting, v_ticksToGo, (v_in_limit, v_in_first, v_in_size, v_in_places), (v_out_limit, v_out_first, v_out_size, v_out_places), (v_modem_control, v_modem_changes, v_modem_given), (v_log_size, v_log_latest)), s_1 => f_P_readStatus_89 (v_queued, v_level, v_enabled, v_format, v_spare, v_low, v_high, v_overrun, v_vacated, v_quiet, v_shifting, v_ticksToGo, (v_in_limit, v_in_first, v_in_size, v_in_places), (v_out_limit, v_out_first, v_out_size, v_out_places), (v_modem_control, v_modem_changes, v_modem_given), (v_log_size, v_log_latest)) 0 s_1
def f_P_readStatus_63 : PtT → Int32 → Int32 → Option (Int32 × PtT)
  | (v_queued, v_level, v_enabled, v_format, v_spare, v_low, v_high, v_overrun, v_vacated, v_quiet, v_shifting, v_ticksToGo, (v_in_limit, v_in_first, v_in_size, v_in_places), (v_out_limit, v_out_first, v_out_size, v_out_places), (v_modem_control, v_modem_changes, v_modem_given), (v_log_size, v_log_latest)), s_2, s_1 => if v_out_size = 0 then (if v_ticksToGo = 0 then (f_P_readStatus_89 (v_queued, v_level, v_enabled, v_format, v_spare, v_low, v_high, v_overrun, v_vacated, v_quiet, v_shifting, v_ticksToGo, (v_in_limit, v_in_first, v_in_size, v_in_places), (v_out_limit, v_out_first, v_out_size, v_out_places), (v_modem_control, v_modem_changes, v_modem_given), (v_log_size, v_log_latest)) 64 (s_1 + s_2)) else (f_P_readStatus_88 (v_queued, v_level, v_enabled, v_format, v_spare, v_low, v_high, v_overrun, v_vacated, v_quiet, v_shifting, v_ticksToGo, (v_in_limit, v_in_first, v_in_size, v_in_places), (v_out_limit, v_out_first, v_out_size, v_out_places), (v_modem_control, v_modem_changes, v_modem_given), (v_log_size, v_log_latest)) (s_1 + s_2))) else (f_P_readStatus_88 (v_queued, v_level, v_enabled, v_format, v_spare, v_low, v_high, v_overrun, v_vacated, v_quiet, v_shifting, v_ticksToGo, (v_in_limit, v_in_first, v_in_size, v_in_places), (v_out_limit, v_out_first, v_out_size, v_out_places), (v_modem_control, v_modem_changes, v_modem_given), (v_log_size, v_log_latest)) (s_1 + s_2))
def f_P_readStatus_29 : PtT → Int32 → Int32 → Option (Int32 × PtT)
  | (v_queued, v_level, v_enabled, v_format, v_spare, v_low, v_high, v_overrun, v_vacated, v_quiet, v_shifting, v_ticksToGo, (v_in_limit, v_in_first, v_in_size, v_in_places), (v_out_limit, v_out_first, v_out_size, v_out_places), (v_modem_control, v_modem_changes, v_modem_given), (v_log_size, v_log_latest)), s_2, s_1 => Option.bind (f_R_oldest (v_in_limit, v_in_first, v_in_size, v_in_places)) (fun r_37 => if v_out_size = 0 then (f_P_readStatus_63 (v_queued, v_level, v_enabled, v_format, v_spare, v_low, v_high, v_overrun, v_vacated, v_quiet, v_shifting, v_ticksToGo, (v_in_limit, v_in_first, v_in_size, v_in_places), (v_out_limit, v_out_first, v_out_size, v_out_places), (v_modem_control, v_modem_changes, v_modem_given), (v_log_size, v_log_latest)) 32 ((s_1 + s_2) + (4 * (r_37 >>> ((8 : Int32) &&& 31))))) else (f_P_readStatus_63 (v_queued, v_level, v_enabled, v_format, v_spare, v_low, v_high, v_overrun, v_vacated, v_quiet, v_shifting, v_ticksToGo, (v_in_limit, v_in_first, v_in_size, v_in_places), (v_out_limit, v_out_first, v_out_size, v_out_places), (v_modem_control, v_modem_changes, v_modem_given), (v_log_size, v_log_latest)) 0 ((s_1 + s_2) + (4 * (r_37 >>> ((8 : Int32) &&& 31))))))
def f_P_readStatus_15 : PtT → Int32 → Option (Int32 × PtT)
  | (v_queued, v_level, v_enabled, v_format, v_spare, v_low, v_high, v_overrun, v_vacated, v_quiet, v_shifting, v_ticksToGo, (v_in_limit, v_in_first, v_in_size, v_in_places), (v_out_limit, v_out_first, v_out_size, v_out_places), (v_modem_control, v_modem_changes, v_modem_given), (v_log_size, v_log_latest)), s_1 => if v_overrun = 0 then (f_P_readStatus_29 (v_queued, v_level, v_enabled, v_format, v_spare, v_low, v_high, v_overrun, v_vacated, v_quiet, v_shifting, v_ticksToGo, (v_in_limit, v_in_first, v_in_size, v_in_places), (v_out_limit, v_out_first, v_out_size, v_out_places), (v_modem_control, v_modem_changes, v_modem_given), (v_log_size, v_log_latest)) 0 s_1) else (f_P_readStatus_29 (v_queued, v_level, v_enabled, v_format, v_spare, v_low, v_high, v_overrun, v_vacated, v_quiet, v_shifting, v_ticksToGo, (v_in_limit, v_in_first, v_in_size, v_in_places), (v_out_limit, v_out_first, v_out_size, v_out_places), (v_modem_control, v_modem_changes, v_modem_given), (v_log_size, v_log_latest)) 2 s_1)
def f_P_readStatus : PtT → Option (Int32 × PtT)
  | (v_queued, v_level, v_enabled, v_format, v_spare, v_low, v_high, v_overrun, v_vacated, v_quiet, v_shifting, v_ticksToGo, (v_in_limit, v_in_first, v_in_size, v_in_places), (v_out_limit, v_out_first, v_out_size, v_out_places), (v_modem_control, v_modem_changes, v_modem_given), (v_log_size, v_log_latest)) => if v_in_size ≤ 0 then (f_P_readStatus_15 (v_queued, v_level, v_enabled, v_format, v_spare, v_low, v_high, v_overrun, v_vacated, v_quiet, v_shifting, v_ticksToGo, (v_in_limit, v_in_first, v_in_size, v_in_places), (v_out_limit, v_out_first, v_out_size, v_out_places), (v_modem_control, v_modem_changes, v_modem_given), (v_log_size, v_log_latest)) 0) else (f_P_readStatus_15 (v_queued, v_level, v_enabled, v_format, v_spare, v_low, v_high, v_overrun, v_vacated, v_quiet, v_shifting, v_ticksToGo, (v_in_limit, v_in_first, v_in_size, v_in_places), (v_out_limit, v_out_first, v_out_size, v_out_places), (v_modem_control, v_modem_changes, v_modem_given), (v_log_size, v_log_latest)) 1)
set_option maxHeartbeats 8000000 in
set_option maxRecDepth 100000 in
theorem c_P_readStatus (l : Launch) (dC : Nat → ClassId) (dI : Nat → Nat → Nat) (cA : ClassId) (t : Nat) (a0 a_in a_in_places a_out a_out_places a_modem a_log a_log_latest : Nat) (sz : Nat) (u : PtT) (q : Int32 × PtT) (hf : f_P_readStatus u = some q) : Met l y_P_readStatus (Cond.code y_P_readStatus b_P_readStatus 2 (some .int) :: W0) ({ frames := 1, cells := 0, slots := 0, locals := 22 }) (va_Pc [.ref a0] (pc_ (dC, dI) [(cA, .int)] t sz (cw_P cA a0 a_in a_in_places a_out a_out_places a_modem a_log a_log_latest u))) (qi_ (dC, dI) (cw_P cA a0 a_in a_in_places a_out a_out_places a_modem a_log a_log_latest) q (va_A (cw_P cA a0 a_in a_in_places a_out a_out_places a_modem a_log a_log_latest u) sz)) 0 0 (va_A (cw_P cA a0 a_in a_in_places a_out a_out_places a_modem a_log a_log_latest u) sz) := by
  refine start_ l (qi_ (dC, dI) (cw_P cA a0 a_in a_in_places a_out a_out_places a_modem a_log a_log_latest) q) (by decide) (Nat.le_of_ble_eq_true rfl) ?_
  intro p e s m below meth c hx hb hml hr hown ht hlocks hnm A hA hS hP hK hD hZ ls hl
  have hown : s.vm.findClass cls_P = some m.cls := hown
  refine wabs_ (fun WW wi wo => ?_)
  have k_119 : ∀ (u : PtT) (s_2 s_1 : Int32), f_P_readStatus_119 u s_2 s_1 = some q → ∀ (H : Heap) (locs : List Loc) (ls : Array Slot), va_P (dC, dI) cls (cw_P cA a0 a_in a_in_places a_out a_out_places a_modem a_log a_log_latest u) H → va_D A (cw_P cA a0 a_in a_in_places a_out a_out_places a_modem a_log a_log_latest u) → va_S A s.heap H locs → lv_has ls 2 [(0, .ref a0)] → WW H locs (F0 m 119 ls [.int s_2, .int s_1]) := by
    intro u s_2 s_1 hf H locs ls hP hD hS hl
    obtain ⟨v_queued, v_level, v_enabled, v_format, v_spare, v_low, v_high, v_overrun, v_vacated, v_quiet, v_shifting, v_ticksToGo, ⟨v_in_limit, v_in_first, v_in_size, v_in_places⟩, ⟨v_out_limit, v_out_first, v_out_size, v_out_places⟩, ⟨v_modem_control, v_modem_changes, v_modem_given⟩, ⟨v_log_size, v_log_latest⟩⟩ := u
    unfold f_P_readStatus_119 at hf
    try dsimp only at hf
    have hP : va_P (dC, dI) cls [(a0, .inr (2, [.ref a_in, .ref a_out, .ref a_modem, .ref a_log, .int v_queued, .int v_level, .int v_enabled, .int v_format, .int v_spare, .int v_low, .int v_high, .int v_overrun, .int v_vacated, .int v_quiet, .int v_shifting, .int v_ticksToGo])), (a_in, .inr (3, [.ref a_in_places, .int v_in_limit, .int v_in_first, .int v_in_size])), (a_in_places, .inl (cA, 32, .inl v_in_places)), (a_out, .inr (3, [.ref a_out_places, .int v_out_limit, .int v_out_first, .int v_out_size])), (a_out_places, .inl (cA, 32, .inl v_out_places)), (a_modem, .inr (1, [.int v_modem_control, .int v_modem_changes, .int v_modem_given])), (a_log, .inr (4, [.ref a_log_latest, .int v_log_size])), (a_log_latest, .inl (cA, 32, .inl v_log_latest))] _ := hP
    have hD : va_D A [(a0, .inr (2, [.ref a_in, .ref a_out, .ref a_modem, .ref a_log, .int v_queued, .int v_level, .int v_enabled, .int v_format, .int v_spare, .int v_low, .int v_high, .int v_overrun, .int v_vacated, .int v_quiet, .int v_shifting, .int v_ticksToGo])), (a_in, .inr (3, [.ref a_in_places, .int v_in_limit, .int v_in_first, .int v_in_size])), (a_in_places, .inl (cA, 32, .inl v_in_places)), (a_out, .inr (3, [.ref a_out_places, .int v_out_limit, .int v_out_first, .int v_out_size])), (a_out_places, .inl (cA, 32, .inl v_out_places)), (a_modem, .inr (1, [.int v_modem_control, .int v_modem_changes, .int v_modem_given])), (a_log, .inr (4, [.ref a_log_latest, .int v_log_size])), (a_log_latest, .inl (cA, 32, .inl v_log_latest))] := hD
    refine wi _ _ _ ?_
    refine lv_iadd hx hb d_P_readStatus_119 ?_
    refine lv_istore_n (lv' := [(1, .int (s_1 + s_2)), (0, .ref a0)]) hx hb d_P_readStatus_120 rfl hl (by decide) rfl (fun ls hl => ?_)
    refine lv_aload_n hx hb d_P_readStatus_121 rfl (lv_at hl 1 rfl) ?_
    refine lv_iconst (v := 0) hx hb d_P_readStatus_122 (by decide) ?_
    refine va_put (D := (dC, dI)) (ci := 2) (v := .int 0) (ty := .boolean) (C := cls_P) (T := fld_P) (N := 16) hx hb ht iin_P typ_P tok_P nam_P hown hK hP hD hS 0 rfl rfl 11 (by decide) (ht _ k_P_86) (fun _ h9 => h9) rfl (tok_P 11 (by decide)) rfl rfl (Nat.le_of_ble_eq_true rfl) d_P_readStatus_123 (fun H locs hP hD hS => ?_)
    have hP : va_P (dC, dI) cls [(a0, .inr (2, [.ref a_in, .ref a_out, .ref a_modem, .ref a_log, .int v_queued, .int v_level, .int v_enabled, .int v_format, .int v_spare, .int v_low, .int v_high, .int 0, .int v_vacated, .int v_quiet, .int v_shifting, .int v_ticksToGo])), (a_in, .inr (3, [.ref a_in_places, .int v_in_limit, .int v_in_first, .int v_in_size])), (a_in_places, .inl (cA, 32, .inl v_in_places)), (a_out, .inr (3, [.ref a_out_places, .int v_out_limit, .int v_out_first, .int v_out_size])), (a_out_places, .inl (cA, 32, .inl v_out_places)), (a_modem, .inr (1, [.int v_modem_control, .int v_modem_changes, .int v_modem_given])), (a_log, .inr (4, [.ref a_log_latest, .int v_log_size])), (a_log_latest, .inl (cA, 32, .inl v_log_latest))] _ := hP
    have hD : va_D A [(a0, .inr (2, [.ref a_in, .ref a_out, .ref a_modem, .ref a_log, .int v_queued, .int v_level, .int v_enabled, .int v_format, .int v_spare, .int v_low, .int v_high, .int 0, .int v_vacated, .int v_quiet, .int v_shifting, .int v_ticksToGo])), (a_in, .inr (3, [.ref a_in_places, .int v_in_limit, .int v_in_first, .int v_in_size])), (a_in_places, .inl (cA, 32, .inl v_in_places)), (a_out, .inr (3, [.ref a_out_places, .int v_out_limit, .int v_out_first, .int v_out_size])), (a_out_places, .inl (cA, 32, .inl v_out_places)), (a_modem, .inr (1, [.int v_modem_control, .int v_modem_changes, .int v_modem_given])), (a_log, .inr (4, [.ref a_log_latest, .int v_log_size])), (a_log_latest, .inl (cA, 32, .inl v_log_latest))] := hD
    refine lv_aload_n hx hb d_P_readStatus_126 rfl (lv_at hl 1 rfl) ?_
    refine va_get (D := (dC, dI)) (ci := 2) (v := .ref a_in) (C := cls_P) (T := fld_P) (N := 16) hx hb ht iin_P hown hK hP 0 rfl rfl 0 (by decide) (ht _ k_P_12) (fun _ h9 => h9) rfl d_P_readStatus_127 ?_
    refine lv_aload_n hx hb d_P_readStatus_130 rfl (lv_at hl 1 rfl) ?_
    refine va_get (D := (dC, dI)) (ci := 2) (v := .ref a_in) (C := cls_P) (T := fld_P) (N := 16) hx hb ht iin_P hown hK hP 0 rfl rfl 0 (by decide) (ht _ k_P_12) (fun _ h9 => h9) rfl d_P_readStatus_131 ?_
    obtain ⟨q_134, hc_134, hf⟩ := bind_e hf
    refine cVr_ (wc := cw_R cA a_in a_in_places (v_in_limit, v_in_first, v_in_size, v_in_places)) (wr := [(a0, .inr (2, [.ref a_in, .ref a_out, .ref a_modem, .ref a_log, .int v_queued, .int v_level, .int v_enabled, .int v_format, .int v_spare, .int v_low, .int v_high, .int 0, .int v_vacated, .int v_quiet, .int v_shifting, .int v_ticksToGo])), (a_out, .inr (3, [.ref a_out_places, .int v_out_limit, .int v_out_first, .int v_out_size])), (a_out_places, .inl (cA, 32, .inl v_out_places)), (a_modem, .inr (1, [.int v_modem_control, .int v_modem_changes, .int v_modem_given])), (a_log, .inr (4, [.ref a_log_latest, .int v_log_size])), (a_log_latest, .inl (cA, 32, .inl v_log_latest))]) (As := []) (rest := [.ref a_in]) ⟨hx, hb, hml, hown, ht⟩ (c_R_oldest l dC dI cA t a_in a_in_places _ (v_in_limit, v_in_first, v_in_size, v_in_places)  q_134 hc_134) (cwV 0 ht (gV_ k_P_90 ki_R_oldest ks_R_oldest kn_R kc_R_oldest) rfl rfl rfl ⟨rfl, hd_R_oldest⟩ ⟨Nat.le_of_ble_eq_true rfl, Nat.le_of_ble_eq_true rfl⟩) hK hZ hA hP hD hS [1, 2] [0, 3, 4, 5, 6, 7] rfl rfl (by decide) (by decide) (by decide) rfl rfl rfl rfl hl.1 (Nat.le_of_ble_eq_true rfl) d_P_readStatus_134 ⟨Nat.le_of_ble_eq_true rfl, Nat.le_of_ble_eq_true rfl⟩ (fun r_134 H locs hw hP hD hS => ?_)
    subst hw
    have hP : va_P (dC, dI) cls [(a0, .inr (2, [.ref a_in, .ref a_out, .ref a_modem, .ref a_log, .int v_queued, .int v_level, .int v_enabled, .int v_format, .int v_spare, .int v_low, .int v_high, .int 0, .int v_vacated, .int v_quiet, .int v_shifting, .int v_ticksToGo])), (a_in, .inr (3, [.ref a_in_places, .int v_in_limit, .int v_in_first, .int v_in_size])), (a_in_places, .inl (cA, 32, .inl v_in_places)), (a_out, .inr (3, [.ref a_out_places, .int v_out_limit, .int v_out_first, .int v_out_size])), (a_out_places, .inl (cA, 32, .inl v_out_places)), (a_modem, .inr (1, [.int v_modem_control, .int v_modem_changes, .int v_modem_given])), (a_log, .inr (4, [.ref a_log_latest, .int v_log_size])), (a_log_latest, .inl (cA, 32, .inl v_log_latest))] _ := hP.sub [0, 6, 7, 1, 2, 3, 4, 5] rfl
    have hD : va_D A [(a0, .inr (2, [.ref a_in, .ref a_out, .ref a_modem, .ref a_log, .int v_queued, .int v_level, .int v_enabled, .int v_format, .int v_spare, .int v_low, .int v_high, .int 0, .int v_vacated, .int v_quiet, .int v_shifting, .int v_ticksToGo])), (a_in, .inr (3, [.ref a_in_places, .int v_in_limit, .int v_in_first, .int v_in_size])), (a_in_places, .inl (cA, 32, .inl v_in_places)), (a_out, .inr (3, [.ref a_out_places, .int v_out_limit, .int v_out_first, .int v_out_size])), (a_out_places, .inl (cA, 32, .inl v_out_places)), (a_modem, .inr (1, [.int v_modem_control, .int v_modem_changes, .int v_modem_given])), (a_log, .inr (4, [.ref a_log_latest, .int v_log_size])), (a_log_latest, .inl (cA, 32, .inl v_log_latest))] := hD.sub [0, 6, 7, 1, 2, 3, 4, 5] (by decide) rfl
    refine lv_sipush (v := 255) hx hb d_P_readStatus_137 (by decide) ?_
    refine lv_iand hx hb d_P_readStatus_140 ?_
    obtain ⟨q_141, hc_141, hf⟩ := bind_e hf
    refine cVv_ (wc := cw_R cA a_in a_in_places (v_in_limit, v_in_first, v_in_size, v_in_places)) (wr := [(a0, .inr (2, [.ref a_in, .ref a_out, .ref a_modem, .ref a_log, .int v_queued, .int v_level, .int v_enabled, .int v_format, .int v_spare, .int v_low, .int v_high, .int 0, .int v_vacated, .int v_quiet, .int v_shifting, .int v_ticksToGo])), (a_out, .inr (3, [.ref a_out_places, .int v_out_limit, .int v_out_first, .int v_out_size])), (a_out_places, .inl (cA, 32, .inl v_out_places)), (a_modem, .inr (1, [.int v_modem_control, .int v_modem_changes, .int v_modem_given])), (a_log, .inr (4, [.ref a_log_latest, .int v_log_size])), (a_log_latest, .inl (cA, 32, .inl v_log_latest))]) (As := [.int (r_134 &&& 255)]) (rest := []) ⟨hx, hb, hml, hown, ht⟩ (c_R_replaceOldest l dC dI cA t a_in a_in_places _ (v_in_limit, v_in_first, v_in_size, v_in_places) (r_134 &&& 255) q_141 hc_141) (cwV 1 ht (gV_ k_P_124 ki_R_replaceOldest ks_R_replaceOldest kn_R kc_R_replaceOldest) rfl rfl rfl ⟨rfl, hd_R_replaceOldest⟩ ⟨Nat.le_of_ble_eq_true rfl, Nat.le_of_ble_eq_true rfl⟩) hK hZ hA hP hD hS [1, 2] [0, 3, 4, 5, 6, 7] rfl rfl (by decide) (by decide) (by decide) rfl rfl rfl rfl hl.1 (Nat.le_of_ble_eq_true rfl) d_P_readStatus_141 ⟨Nat.le_of_ble_eq_true rfl, Nat.le_of_ble_eq_true rfl⟩ (fun u H locs hw hP hD hS => ?_)
    obtain ⟨v_in_limit_141, v_in_first_141, v_in_size_141, v_in_places_141⟩ := u
    subst hw
    have hP : va_P (dC, dI) cls [(a0, .inr (2, [.ref a_in, .ref a_out, .ref a_modem, .ref a_log, .int v_queued, .int v_level, .int v_enabled, .int v_format, .int v_spare, .int v_low, .int v_high, .int 0, .int v_vacated, .int v_quiet, .int v_shifting, .int v_ticksToGo])), (a_in, .inr (3, [.ref a_in_places, .int v_in_limit_141, .int v_in_first_141, .int v_in_size_141])), (a_in_places, .inl (cA, 32, .inl v_in_places_141)), (a_out, .inr (3, [.ref a_out_places, .int v_out_limit, .int v_out_first, .int v_out_size])), (a_out_places, .inl (cA, 32, .inl v_out_places)), (a_modem, .inr (1, [.int v_modem_control, .int v_modem_changes, .int v_modem_given])), (a_log, .inr (4, [.ref a_log_latest, .int v_log_size])), (a_log_latest, .inl (cA, 32, .inl v_log_latest))] _ := hP.sub [0, 6, 7, 1, 2, 3, 4, 5] rfl
    have hD : va_D A [(a0, .inr (2, [.ref a_in, .ref a_out, .ref a_modem, .ref a_log, .int v_queued, .int v_level, .int v_enabled, .int v_format, .int v_spare, .int v_low, .int v_high, .int 0, .int v_vacated, .int v_quiet, .int v_shifting, .int v_ticksToGo])), (a_in, .inr (3, [.ref a_in_places, .int v_in_limit_141, .int v_in_first_141, .int v_in_size_141])), (a_in_places, .inl (cA, 32, .inl v_in_places_141)), (a_out, .inr (3, [.ref a_out_places, .int v_out_limit, .int v_out_first, .int v_out_size])), (a_out_places, .inl (cA, 32, .inl v_out_places)), (a_modem, .inr (1, [.int v_modem_control, .int v_modem_changes, .int v_modem_given])), (a_log, .inr (4, [.ref a_log_latest, .int v_log_size])), (a_log_latest, .inl (cA, 32, .inl v_log_latest))] := hD.sub [0, 6, 7, 1, 2, 3, 4, 5] (by decide) rfl
    try dsimp only at hf
    refine lv_iload_n hx hb d_P_readStatus_144 rfl (lv_at hl 0 rfl) ?_
    exact W.iret hx hb hr (fun t9 ht9 _ => ri_ (Option.some.inj hf) hP hD hS ht9) hS.2.2 d_P_readStatus_145
  have k_118 : ∀ (u : PtT) (s_1 : Int32), f_P_readStatus_118 u s_1 = some q → ∀ (H : Heap) (locs : List Loc) (ls : Array Slot), va_P (dC, dI) cls (cw_P cA a0 a_in a_in_places a_out a_out_places a_modem a_log a_log_latest u) H → va_D A (cw_P cA a0 a_in a_in_places a_out a_out_places a_modem a_log a_log_latest u) → va_S A s.heap H locs → lv_has ls 2 [(0, .ref a0)] → WW H locs (F0 m 118 ls [.int s_1]) := by
    intro u s_1 hf H locs ls hP hD hS hl
    obtain ⟨v_queued, v_level, v_enabled, v_format, v_spare, v_low, v_high, v_overrun, v_vacated, v_quiet, v_shifting, v_ticksToGo, ⟨v_in_limit, v_in_first, v_in_size, v_in_places⟩, ⟨v_out_limit, v_out_first, v_out_size, v_out_places⟩, ⟨v_modem_control, v_modem_changes, v_modem_given⟩, ⟨v_log_size, v_log_latest⟩⟩ := u
    unfold f_P_readStatus_118 at hf
    try dsimp only at hf
    have hP : va_P (dC, dI) cls [(a0, .inr (2, [.ref a_in, .ref a_out, .ref a_modem, .ref a_log, .int v_queued, .int v_level, .int v_enabled, .int v_format, .int v_spare, .int v_low, .int v_high, .int v_overrun, .int v_vacated, .int v_quiet, .int v_shifting, .int v_ticksToGo])), (a_in, .inr (3, [.ref a_in_places, .int v_in_limit, .int v_in_first, .int v_in_size])), (a_in_places, .inl (cA, 32, .inl v_in_places)), (a_out, .inr (3, [.ref a_out_places, .int v_out_limit, .int v_out_first, .int v_out_size])), (a_out_places, .inl (cA, 32, .inl v_out_places)), (a_modem, .inr (1, [.int v_modem_control, .int v_modem_changes, .int v_modem_given])), (a_log, .inr (4, [.ref a_log_latest, .int v_log_size])), (a_log_latest, .inl (cA, 32, .inl v_log_latest))] _ := hP
    have hD : va_D A [(a0, .inr (2, [.ref a_in, .ref a_out, .ref a_modem, .ref a_log, .int v_queued, .int v_level, .int v_enabled, .int v_format, .int v_spare, .int v_low, .int v_high, .int v_overrun, .int v_vacated, .int v_quiet, .int v_shifting, .int v_ticksToGo])), (a_in, .inr (3, [.ref a_in_places, .int v_in_limit, .int v_in_first, .int v_in_size])), (a_in_places, .inl (cA, 32, .inl v_in_places)), (a_out, .inr (3, [.ref a_out_places, .int v_out_limit, .int v_out_first, .int v_out_size])), (a_out_places, .inl (cA, 32, .inl v_out_places)), (a_modem, .inr (1, [.int v_modem_control, .int v_modem_changes, .int v_modem_given])), (a_log, .inr (4, [.ref a_log_latest, .int v_log_size])), (a_log_latest, .inl (cA, 32, .inl v_log_latest))] := hD
    refine wi _ _ _ ?_
    refine lv_iconst (v := 0) hx hb d_P_readStatus_118 (by decide) ?_
    exact wo _ _ _ (k_119 (v_queued, v_level, v_enabled, v_format, v_spare, v_low, v_high, v_overrun, v_vacated, v_quiet, v_shifting, v_ticksToGo, (v_in_limit, v_in_first, v_in_size, v_in_places), (v_out_limit, v_out_first, v_out_size, v_out_places), (v_modem_control, v_modem_changes, v_modem_given), (v_log_size, v_log_latest)) 0 s_1 hf _ _ _ hP hD hS (lv_sub hl [0] rfl))
  have k_89 : ∀ (u : PtT) (s_2 s_1 : Int32), f_P_readStatus_89 u s_2 s_1 = some q → ∀ (H : Heap) (locs : List Loc) (ls : Array Slot), va_P (dC, dI) cls (cw_P cA a0 a_in a_in_places a_out a_out_places a_modem a_log a_log_latest u) H → va_D A (cw_P cA a0 a_in a_in_places a_out a_out_places a_modem a_log a_log_latest u) → va_S A s.heap H locs → lv_has ls 2 [(0, .ref a0)] → WW H locs (F0 m 89 ls [.int s_2, .int s_1]) := by
    intro u s_2 s_1 hf H locs ls hP hD hS hl
    obtain ⟨v_queued, v_level, v_enabled, v_format, v_spare, v_low, v_high, v_overrun, v_vacated, v_quiet, v_shifting, v_ticksToGo, ⟨v_in_limit, v_in_first, v_in_size, v_in_places⟩, ⟨v_out_limit, v_out_first, v_out_size, v_out_places⟩, ⟨v_modem_control, v_modem_changes, v_modem_given⟩, ⟨v_log_size, v_log_latest⟩⟩ := u
    unfold f_P_readStatus_89 at hf
    try dsimp only at hf
    have hP : va_P (dC, dI) cls [(a0, .inr (2, [.ref a_in, .ref a_out, .ref a_modem, .ref a_log, .int v_queued, .int v_level, .int v_enabled, .int v_format, .int v_spare, .int v_low, .int v_high, .int v_overrun, .int v_vacated, .int v_quiet, .int v_shifting, .int v_ticksToGo])), (a_in, .inr (3, [.ref a_in_places, .int v_in_limit, .int v_in_first, .int v_in_size])), (a_in_places, .inl (cA, 32, .inl v_in_places)), (a_out, .inr (3, [.ref a_out_places, .int v_out_limit, .int v_out_first, .int v_out_size])), (a_out_places, .inl (cA, 32, .inl v_out_places)), (a_modem, .inr (1, [.int v_modem_control, .int v_modem_changes, .int v_modem_given])), (a_log, .inr (4, [.ref a_log_latest, .int v_log_size])), (a_log_latest, .inl (cA, 32, .inl v_log_latest))] _ := hP
    have hD : va_D A [(a0, .inr (2, [.ref a_in, .ref a_out, .ref a_modem, .ref a_log, .int v_queued, .int v_level, .int v_enabled, .int v_format, .int v_spare, .int v_low, .int v_high, .int v_overrun, .int v_vacated, .int v_quiet, .int v_shifting, .int v_ticksToGo])), (a_in, .inr (3, [.ref a_in_places, .int v_in_limit, .int v_in_first, .int v_in_size])), (a_in_places, .inl (cA, 32, .inl v_in_places)), (a_out, .inr (3, [.ref a_out_places, .int v_out_limit, .int v_out_first, .int v_out_size])), (a_out_places, .inl (cA, 32, .inl v_out_places)), (a_modem, .inr (1, [.int v_modem_control, .int v_modem_changes, .int v_modem_given])), (a_log, .inr (4, [.ref a_log_latest, .int v_log_size])), (a_log_latest, .inl (cA, 32, .inl v_log_latest))] := hD
    refine wi _ _ _ ?_
    refine lv_iadd hx hb d_P_readStatus_89 ?_
    refine lv_istore_n (lv' := [(1, .int (s_1 + s_2)), (0, .ref a0)]) hx hb d_P_readStatus_90 rfl hl (by decide) rfl (fun ls hl => ?_)
    refine lv_iload_n hx hb d_P_readStatus_91 rfl (lv_at hl 0 rfl) ?_
    refine lv_aload_n hx hb d_P_readStatus_92 rfl (lv_at hl 1 rfl) ?_
    refine va_get (D := (dC, dI)) (ci := 2) (v := .int v_queued) (C := cls_P) (T := fld_P) (N := 16) hx hb ht iin_P hown hK hP 0 rfl rfl 4 (by decide) (ht _ k_P_96) (fun _ h9 => h9) rfl d_P_readStatus_93 ?_
    refine lv_if_eq (tgt := 118) hx hb d_P_readStatus_96 (by decide) (fun c_96 => ?_) (fun c_96 => ?_)
    · have hf := ite_t hf c_96
      exact wo _ _ _ (k_118 (v_queued, v_level, v_enabled, v_format, v_spare, v_low, v_high, v_overrun, v_vacated, v_quiet, v_shifting, v_ticksToGo, (v_in_limit, v_in_first, v_in_size, v_in_places), (v_out_limit, v_out_first, v_out_size, v_out_places), (v_modem_control, v_modem_changes, v_modem_given), (v_log_size, v_log_latest)) (s_1 + s_2) hf _ _ _ hP hD hS (lv_sub hl [1] rfl))
    · have hf := ite_f hf c_96
      refine lv_aload_n hx hb d_P_readStatus_99 rfl (lv_at hl 1 rfl) ?_
      refine va_get (D := (dC, dI)) (ci := 2) (v := .ref a_in) (C := cls_P) (T := fld_P) (N := 16) hx hb ht iin_P hown hK hP 0 rfl rfl 0 (by decide) (ht _ k_P_12) (fun _ h9 => h9) rfl d_P_readStatus_100 ?_
      refine lv_sipush (v := 255) hx hb d_P_readStatus_103 (by decide) ?_
      obtain ⟨q_106, hc_106, hf⟩ := bind_e hf
      refine cVr_ (wc := cw_R cA a_in a_in_places (v_in_limit, v_in_first, v_in_size, v_in_places)) (wr := [(a0, .inr (2, [.ref a_in, .ref a_out, .ref a_modem, .ref a_log, .int v_queued, .int v_level, .int v_enabled, .int v_format, .int v_spare, .int v_low, .int v_high, .int v_overrun, .int v_vacated, .int v_quiet, .int v_shifting, .int v_ticksToGo])), (a_out, .inr (3, [.ref a_out_places, .int v_out_limit, .int v_out_first, .int v_out_size])), (a_out_places, .inl (cA, 32, .inl v_out_places)), (a_modem, .inr (1, [.int v_modem_control, .int v_modem_changes, .int v_modem_given])), (a_log, .inr (4, [.ref a_log_latest, .int v_log_size])), (a_log_latest, .inl (cA, 32, .inl v_log_latest))]) (As := [.int 255]) (rest := [.int (s_1 + s_2)]) ⟨hx, hb, hml, hown, ht⟩ (c_R_hasItemAbove l dC dI cA t a_in a_in_places _ (v_in_limit, v_in_first, v_in_size, v_in_places) 255 q_106 hc_106) (cwV 1 ht (gV_ k_P_120 ki_R_hasItemAbove ks_R_hasItemAbove kn_R kc_R_hasItemAbove) rfl rfl rfl ⟨rfl, hd_R_hasItemAbove⟩ ⟨Nat.le_of_ble_eq_true rfl, Nat.le_of_ble_eq_true rfl⟩) hK hZ hA hP hD hS [1, 2] [0, 3, 4, 5, 6, 7] rfl rfl (by decide) (by decide) (by decide) rfl rfl rfl rfl hl.1 (Nat.le_of_ble_eq_true rfl) d_P_readStatus_106 ⟨Nat.le_of_ble_eq_true rfl, Nat.le_of_ble_eq_true rfl⟩ (fun r_106 H locs hw hP hD hS => ?_)
      subst hw
      have hP : va_P (dC, dI) cls [(a0, .inr (2, [.ref a_in, .ref a_out, .ref a_modem, .ref a_log, .int v_queued, .int v_level, .int v_enabled, .int v_format, .int v_spare, .int v_low, .int v_high, .int v_overrun, .int v_vacated, .int v_quiet, .int v_shifting, .int v_ticksToGo])), (a_in, .inr (3, [.ref a_in_places, .int v_in_limit, .int v_in_first, .int v_in_size])), (a_in_places, .inl (cA, 32, .inl v_in_places)), (a_out, .inr (3, [.ref a_out_places, .int v_out_limit, .int v_out_first, .int v_out_size])), (a_out_places, .inl (cA, 32, .inl v_out_places)), (a_modem, .inr (1, [.int v_modem_control, .int v_modem_changes, .int v_modem_given])), (a_log, .inr (4, [.ref a_log_latest, .int v_log_size])), (a_log_latest, .inl (cA, 32, .inl v_log_latest))] _ := hP.sub [0, 6, 7, 1, 2, 3, 4, 5] rfl
      have hD : va_D A [(a0, .inr (2, [.ref a_in, .ref a_out, .ref a_modem, .ref a_log, .int v_queued, .int v_level, .int v_enabled, .int v_format, .int v_spare, .int v_low, .int v_high, .int v_overrun, .int v_vacated, .int v_quiet, .int v_shifting, .int v_ticksToGo])), (a_in, .inr (3, [.ref a_in_places, .int v_in_limit, .int v_in_first, .int v_in_size])), (a_in_places, .inl (cA, 32, .inl v_in_places)), (a_out, .inr (3, [.ref a_out_places, .int v_out_limit, .int v_out_first, .int v_out_size])), (a_out_places, .inl (cA, 32, .inl v_out_places)), (a_modem, .inr (1, [.int v_modem_control, .int v_modem_changes, .int v_modem_given])), (a_log, .inr (4, [.ref a_log_latest, .int v_log_size])), (a_log_latest, .inl (cA, 32, .inl v_log_latest))] := hD.sub [0, 6, 7, 1, 2, 3, 4, 5] (by decide) rfl
      refine lv_if_eq (tgt := 118) hx hb d_P_readStatus_109 (by decide) (fun c_109 => ?_) (fun c_109 => ?_)
      · have hf := ite_t hf c_109
        exact wo _ _ _ (k_118 (v_queued, v_level, v_enabled, v_format, v_spare, v_low, v_high, v_overrun, v_vacated, v_quiet, v_shifting, v_ticksToGo, (v_in_limit, v_in_first, v_in_size, v_in_places), (v_out_limit, v_out_first, v_out_size, v_out_places), (v_modem_control, v_modem_changes, v_modem_given), (v_log_size, v_log_latest)) (s_1 + s_2) hf _ _ _ hP hD hS (lv_sub hl [1] rfl))
      · have hf := ite_f hf c_109
        refine lv_sipush (v := 128) hx hb d_P_readStatus_112 (by decide) ?_
        refine lv_goto (tgt := 119) hx hb d_P_readStatus_115 (by decide) ?_
        exact wo _ _ _ (k_119 (v_queued, v_level, v_enabled, v_format, v_spare, v_low, v_high, v_overrun, v_vacated, v_quiet, v_shifting, v_ticksToGo, (v_in_limit, v_in_first, v_in_size, v_in_places), (v_out_limit, v_out_first, v_out_size, v_out_places), (v_modem_control, v_modem_changes, v_modem_given), (v_log_size, v_log_latest)) 128 (s_1 + s_2) hf _ _ _ hP hD hS (lv_sub hl [1] rfl))
  have k_88 : ∀ (u : PtT) (s_1 : Int32), f_P_readStatus_88 u s_1 = some q → ∀ (H : Heap) (locs : List Loc) (ls : Array Slot), va_P (dC, dI) cls (cw_P cA a0 a_in a_in_places a_out a_out_places a_modem a_log a_log_latest u) H → va_D A (cw_P cA a0 a_in a_in_places a_out a_out_places a_modem a_log a_log_latest u) → va_S A s.heap H locs → lv_has ls 2 [(0, .ref a0)] → WW H locs (F0 m 88 ls [.int s_1]) := by
    intro u s_1 hf H locs ls hP hD hS hl
    obtain ⟨v_queued, v_level, v_enabled, v_format, v_spare, v_low, v_high, v_overrun, v_vacated, v_quiet, v_shifting, v_ticksToGo, ⟨v_in_limit, v_in_first, v_in_size, v_in_places⟩, ⟨v_out_limit, v_out_first, v_out_size, v_out_places⟩, ⟨v_modem_control, v_modem_changes, v_modem_given⟩, ⟨v_log_size, v_log_latest⟩⟩ := u
    unfold f_P_readStatus_88 at hf
    try dsimp only at hf
    have hP : va_P (dC, dI) cls [(a0, .inr (2, [.ref a_in, .ref a_out, .ref a_modem, .ref a_log, .int v_queued, .int v_level, .int v_enabled, .int v_format, .int v_spare, .int v_low, .int v_high, .int v_overrun, .int v_vacated, .int v_quiet, .int v_shifting, .int v_ticksToGo])), (a_in, .inr (3, [.ref a_in_places, .int v_in_limit, .int v_in_first, .int v_in_size])), (a_in_places, .inl (cA, 32, .inl v_in_places)), (a_out, .inr (3, [.ref a_out_places, .int v_out_limit, .int v_out_first, .int v_out_size])), (a_out_places, .inl (cA, 32, .inl v_out_places)), (a_modem, .inr (1, [.int v_modem_control, .int v_modem_changes, .int v_modem_given])), (a_log, .inr (4, [.ref a_log_latest, .int v_log_size])), (a_log_latest, .inl (cA, 32, .inl v_log_latest))] _ := hP
    have hD : va_D A [(a0, .inr (2, [.ref a_in, .ref a_out, .ref a_modem, .ref a_log, .int v_queued, .int v_level, .int v_enabled, .int v_format, .int v_spare, .int v_low, .int v_high, .int v_overrun, .int v_vacated, .int v_quiet, .int v_shifting, .int v_ticksToGo])), (a_in, .inr (3, [.ref a_in_places, .int v_in_limit, .int v_in_first, .int v_in_size])), (a_in_places, .inl (cA, 32, .inl v_in_places)), (a_out, .inr (3, [.ref a_out_places, .int v_out_limit, .int v_out_first, .int v_out_size])), (a_out_places, .inl (cA, 32, .inl v_out_places)), (a_modem, .inr (1, [.int v_modem_control, .int v_modem_changes, .int v_modem_given])), (a_log, .inr (4, [.ref a_log_latest, .int v_log_size])), (a_log_latest, .inl (cA, 32, .inl v_log_latest))] := hD
    refine wi _ _ _ ?_
    refine lv_iconst (v := 0) hx hb d_P_readStatus_88 (by decide) ?_
    exact wo _ _ _ (k_89 (v_queued, v_level, v_enabled, v_format, v_spare, v_low, v_high, v_overrun, v_vacated, v_quiet, v_shifting, v_ticksToGo, (v_in_limit, v_in_first, v_in_size, v_in_places), (v_out_limit, v_out_first, v_out_size, v_out_places), (v_modem_control, v_modem_changes, v_modem_given), (v_log_size, v_log_latest)) 0 s_1 hf _ _ _ hP hD hS (lv_sub hl [0] rfl))
  have k_63 : ∀ (u : PtT) (s_2 s_1 : Int32), f_P_readStatus_63 u s_2 s_1 = some q → ∀ (H : Heap) (locs : List Loc) (ls : Array Slot), va_P (dC, dI) cls (cw_P cA a0 a_in a_in_places a_out a_out_places a_modem a_log a_log_latest u) H → va_D A (cw_P cA a0 a_in a_in_places a_out a_out_places a_modem a_log a_log_latest u) → va_S A s.heap H locs → lv_has ls 2 [(0, .ref a0)] → WW H locs (F0 m 63 ls [.int s_2, .int s_1]) := by
    intro u s_2 s_1 hf H locs ls hP hD hS hl
    obtain ⟨v_queued, v_level, v_enabled, v_format, v_spare, v_low, v_high, v_overrun, v_vacated, v_quiet, v_shifting, v_ticksToGo, ⟨v_in_limit, v_in_first, v_in_size, v_in_places⟩, ⟨v_out_limit, v_out_first, v_out_size, v_out_places⟩, ⟨v_modem_control, v_modem_changes, v_modem_given⟩, ⟨v_log_size, v_log_latest⟩⟩ := u
    unfold f_P_readStatus_63 at hf
    try dsimp only at hf
    have hP : va_P (dC, dI) cls [(a0, .inr (2, [.ref a_in, .ref a_out, .ref a_modem, .ref a_log, .int v_queued, .int v_level, .int v_enabled, .int v_format, .int v_spare, .int v_low, .int v_high, .int v_overrun, .int v_vacated, .int v_quiet, .int v_shifting, .int v_ticksToGo])), (a_in, .inr (3, [.ref a_in_places, .int v_in_limit, .int v_in_first, .int v_in_size])), (a_in_places, .inl (cA, 32, .inl v_in_places)), (a_out, .inr (3, [.ref a_out_places, .int v_out_limit, .int v_out_first, .int v_out_size])), (a_out_places, .inl (cA, 32, .inl v_out_places)), (a_modem, .inr (1, [.int v_modem_control, .int v_modem_changes, .int v_modem_given])), (a_log, .inr (4, [.ref a_log_latest, .int v_log_size])), (a_log_latest, .inl (cA, 32, .inl v_log_latest))] _ := hP
    have hD : va_D A [(a0, .inr (2, [.ref a_in, .ref a_out, .ref a_modem, .ref a_log, .int v_queued, .int v_level, .int v_enabled, .int v_format, .int v_spare, .int v_low, .int v_high, .int v_overrun, .int v_vacated, .int v_quiet, .int v_shifting, .int v_ticksToGo])), (a_in, .inr (3, [.ref a_in_places, .int v_in_limit, .int v_in_first, .int v_in_size])), (a_in_places, .inl (cA, 32, .inl v_in_places)), (a_out, .inr (3, [.ref a_out_places, .int v_out_limit, .int v_out_first, .int v_out_size])), (a_out_places, .inl (cA, 32, .inl v_out_places)), (a_modem, .inr (1, [.int v_modem_control, .int v_modem_changes, .int v_modem_given])), (a_log, .inr (4, [.ref a_log_latest, .int v_log_size])), (a_log_latest, .inl (cA, 32, .inl v_log_latest))] := hD
    refine wi _ _ _ ?_
    refine lv_iadd hx hb d_P_readStatus_63 ?_
    refine lv_istore_n (lv' := [(1, .int (s_1 + s_2)), (0, .ref a0)]) hx hb d_P_readStatus_64 rfl hl (by decide) rfl (fun ls hl => ?_)
    refine lv_iload_n hx hb d_P_readStatus_65 rfl (lv_at hl 0 rfl) ?_
    refine lv_aload_n hx hb d_P_readStatus_66 rfl (lv_at hl 1 rfl) ?_
    refine va_get (D := (dC, dI)) (ci := 2) (v := .ref a_out) (C := cls_P) (T := fld_P) (N := 16) hx hb ht iin_P hown hK hP 0 rfl rfl 1 (by decide) (ht _ k_P_18) (fun _ h9 => h9) rfl d_P_readStatus_67 ?_
    refine va_get (D := (dC, dI)) (ci := 3) (v := .int v_out_size) (C := cls_R) (T := fld_R) (N := 4) hx hb ht iin_R hown hK hP 3 rfl rfl 3 (by decide) (ht _ k_P_93) (fun _ h9 => h9) rfl d_P_readStatus_70 ?_
    refine lv_if_ne (tgt := 88) hx hb d_P_readStatus_73 (by decide) (fun c_73 => ?_) (fun c_73 => ?_)
    · have hf := ite_f hf c_73
      exact wo _ _ _ (k_88 (v_queued, v_level, v_enabled, v_format, v_spare, v_low, v_high, v_overrun, v_vacated, v_quiet, v_shifting, v_ticksToGo, (v_in_limit, v_in_first, v_in_size, v_in_places), (v_out_limit, v_out_first, v_out_size, v_out_places), (v_modem_control, v_modem_changes, v_modem_given), (v_log_size, v_log_latest)) (s_1 + s_2) hf _ _ _ hP hD hS (lv_sub hl [1] rfl))
    · have hf := ite_t hf c_73
      refine lv_aload_n hx hb d_P_readStatus_76 rfl (lv_at hl 1 rfl) ?_
      refine va_get (D := (dC, dI)) (ci := 2) (v := .int v_ticksToGo) (C := cls_P) (T := fld_P) (N := 16) hx hb ht iin_P hown hK hP 0 rfl rfl 15 (by decide) (ht _ k_P_117) (fun _ h9 => h9) rfl d_P_readStatus_77 ?_
      refine lv_if_ne (tgt := 88) hx hb d_P_readStatus_80 (by decide) (fun c_80 => ?_) (fun c_80 => ?_)
      · have hf := ite_f hf c_80
        exact wo _ _ _ (k_88 (v_queued, v_level, v_enabled, v_format, v_spare, v_low, v_high, v_overrun, v_vacated, v_quiet, v_shifting, v_ticksToGo, (v_in_limit, v_in_first, v_in_size, v_in_places), (v_out_limit, v_out_first, v_out_size, v_out_places), (v_modem_control, v_modem_changes, v_modem_given), (v_log_size, v_log_latest)) (s_1 + s_2) hf _ _ _ hP hD hS (lv_sub hl [1] rfl))
      · have hf := ite_t hf c_80
        refine lv_bipush (v := 64) hx hb d_P_readStatus_83 (by decide) ?_
        refine lv_goto (tgt := 89) hx hb d_P_readStatus_85 (by decide) ?_
        exact wo _ _ _ (k_89 (v_queued, v_level, v_enabled, v_format, v_spare, v_low, v_high, v_overrun, v_vacated, v_quiet, v_shifting, v_ticksToGo, (v_in_limit, v_in_first, v_in_size, v_in_places), (v_out_limit, v_out_first, v_out_size, v_out_places), (v_modem_control, v_modem_changes, v_modem_given), (v_log_size, v_log_latest)) 64 (s_1 + s_2) hf _ _ _ hP hD hS (lv_sub hl [1] rfl))
  have k_29 : ∀ (u : PtT) (s_2 s_1 : Int32), f_P_readStatus_29 u s_2 s_1 = some q → ∀ (H : Heap) (locs : List Loc) (ls : Array Slot), va_P (dC, dI) cls (cw_P cA a0 a_in a_in_places a_out a_out_places a_modem a_log a_log_latest u) H → va_D A (cw_P cA a0 a_in a_in_places a_out a_out_places a_modem a_log a_log_latest u) → va_S A s.heap H locs → lv_has ls 2 [(0, .ref a0)] → WW H locs (F0 m 29 ls [.int s_2, .int s_1]) := by
    intro u s_2 s_1 hf H locs ls hP hD hS hl
    obtain ⟨v_queued, v_level, v_enabled, v_format, v_spare, v_low, v_high, v_overrun, v_vacated, v_quiet, v_shifting, v_ticksToGo, ⟨v_in_limit, v_in_first, v_in_size, v_in_places⟩, ⟨v_out_limit, v_out_first, v_out_size, v_out_places⟩, ⟨v_modem_control, v_modem_changes, v_modem_given⟩, ⟨v_log_size, v_log_latest⟩⟩ := u
    unfold f_P_readStatus_29 at hf
    try dsimp only at hf
    have hP : va_P (dC, dI) cls [(a0, .inr (2, [.ref a_in, .ref a_out, .ref a_modem, .ref a_log, .int v_queued, .int v_level, .int v_enabled, .int v_format, .int v_spare, .int v_low, .int v_high, .int v_overrun, .int v_vacated, .int v_quiet, .int v_shifting, .int v_ticksToGo])), (a_in, .inr (3, [.ref a_in_places, .int v_in_limit, .int v_in_first, .int v_in_size])), (a_in_places, .inl (cA, 32, .inl v_in_places)), (a_out, .inr (3, [.ref a_out_places, .int v_out_limit, .int v_out_first, .int v_out_size])), (a_out_places, .inl (cA, 32, .inl v_out_places)), (a_modem, .inr (1, [.int v_modem_control, .int v_modem_changes, .int v_modem_given])), (a_log, .inr (4, [.ref a_log_latest, .int v_log_size])), (a_log_latest, .inl (cA, 32, .inl v_log_latest))] _ := hP
    have hD : va_D A [(a0, .inr (2, [.ref a_in, .ref a_out, .ref a_modem, .ref a_log, .int v_queued, .int v_level, .int v_enabled, .int v_format, .int v_spare, .int v_low, .int v_high, .int v_overrun, .int v_vacated, .int v_quiet, .int v_shifting, .int v_ticksToGo])), (a_in, .inr (3, [.ref a_in_places, .int v_in_limit, .int v_in_first, .int v_in_size])), (a_in_places, .inl (cA, 32, .inl v_in_places)), (a_out, .inr (3, [.ref a_out_places, .int v_out_limit, .int v_out_first, .int v_out_size])), (a_out_places, .inl (cA, 32, .inl v_out_places)), (a_modem, .inr (1, [.int v_modem_control, .int v_modem_changes, .int v_modem_given])), (a_log, .inr (4, [.ref a_log_latest, .int v_log_size])), (a_log_latest, .inl (cA, 32, .inl v_log_latest))] := hD
    refine wi _ _ _ ?_
    refine lv_iadd hx hb d_P_readStatus_29 ?_
    refine lv_istore_n (lv' := [(1, .int (s_1 + s_2)), (0, .ref a0)]) hx hb d_P_readStatus_30 rfl hl (by decide) rfl (fun ls hl => ?_)
    refine lv_iload_n hx hb d_P_readStatus_31 rfl (lv_at hl 0 rfl) ?_
    refine lv_iconst (v := 4) hx hb d_P_readStatus_32 (by decide) ?_
    refine lv_aload_n hx hb d_P_readStatus_33 rfl (lv_at hl 1 rfl) ?_
    refine va_get (D := (dC, dI)) (ci := 2) (v := .ref a_in) (C := cls_P) (T := fld_P) (N := 16) hx hb ht iin_P hown hK hP 0 rfl rfl 0 (by decide) (ht _ k_P_12) (fun _ h9 => h9) rfl d_P_readStatus_34 ?_
    obtain ⟨q_37, hc_37, hf⟩ := bind_e hf
    refine cVr_ (wc := cw_R cA a_in a_in_places (v_in_limit, v_in_first, v_in_size, v_in_places)) (wr := [(a0, .inr (2, [.ref a_in, .ref a_out, .ref a_modem, .ref a_log, .int v_queued, .int v_level, .int v_enabled, .int v_format, .int v_spare, .int v_low, .int v_high, .int v_overrun, .int v_vacated, .int v_quiet, .int v_shifting, .int v_ticksToGo])), (a_out, .inr (3, [.ref a_out_places, .int v_out_limit, .int v_out_first, .int v_out_size])), (a_out_places, .inl (cA, 32, .inl v_out_places)), (a_modem, .inr (1, [.int v_modem_control, .int v_modem_changes, .int v_modem_given])), (a_log, .inr (4, [.ref a_log_latest, .int v_log_size])), (a_log_latest, .inl (cA, 32, .inl v_log_latest))]) (As := []) (rest := [.int 4, .int (s_1 + s_2)]) ⟨hx, hb, hml, hown, ht⟩ (c_R_oldest l dC dI cA t a_in a_in_places _ (v_in_limit, v_in_first, v_in_size, v_in_places)  q_37 hc_37) (cwV 0 ht (gV_ k_P_90 ki_R_oldest ks_R_oldest kn_R kc_R_oldest) rfl rfl rfl ⟨rfl, hd_R_oldest⟩ ⟨Nat.le_of_ble_eq_true rfl, Nat.le_of_ble_eq_true rfl⟩) hK hZ hA hP hD hS [1, 2] [0, 3, 4, 5, 6, 7] rfl rfl (by decide) (by decide) (by decide) rfl rfl rfl rfl hl.1 (Nat.le_of_ble_eq_true rfl) d_P_readStatus_37 ⟨Nat.le_of_ble_eq_true rfl, Nat.le_of_ble_eq_true rfl⟩ (fun r_37 H locs hw hP hD hS => ?_)
    subst hw
    have hP : va_P (dC, dI) cls [(a0, .inr (2, [.ref a_in, .ref a_out, .ref a_modem, .ref a_log, .int v_queued, .int v_level, .int v_enabled, .int v_format, .int v_spare, .int v_low, .int v_high, .int v_overrun, .int v_vacated, .int v_quiet, .int v_shifting, .int v_ticksToGo])), (a_in, .inr (3, [.ref a_in_places, .int v_in_limit, .int v_in_first, .int v_in_size])), (a_in_places, .inl (cA, 32, .inl v_in_places)), (a_out, .inr (3, [.ref a_out_places, .int v_out_limit, .int v_out_first, .int v_out_size])), (a_out_places, .inl (cA, 32, .inl v_out_places)), (a_modem, .inr (1, [.int v_modem_control, .int v_modem_changes, .int v_modem_given])), (a_log, .inr (4, [.ref a_log_latest, .int v_log_size])), (a_log_latest, .inl (cA, 32, .inl v_log_latest))] _ := hP.sub [0, 6, 7, 1, 2, 3, 4, 5] rfl
    have hD : va_D A [(a0, .inr (2, [.ref a_in, .ref a_out, .ref a_modem, .ref a_log, .int v_queued, .int v_level, .int v_enabled, .int v_format, .int v_spare, .int v_low, .int v_high, .int v_overrun, .int v_vacated, .int v_quiet, .int v_shifting, .int v_ticksToGo])), (a_in, .inr (3, [.ref a_in_places, .int v_in_limit, .int v_in_first, .int v_in_size])), (a_in_places, .inl (cA, 32, .inl v_in_places)), (a_out, .inr (3, [.ref a_out_places, .int v_out_limit, .int v_out_first, .int v_out_size])), (a_out_places, .inl (cA, 32, .inl v_out_places)), (a_modem, .inr (1, [.int v_modem_control, .int v_modem_changes, .int v_modem_given])), (a_log, .inr (4, [.ref a_log_latest, .int v_log_size])), (a_log_latest, .inl (cA, 32, .inl v_log_latest))] := hD.sub [0, 6, 7, 1, 2, 3, 4, 5] (by decide) rfl
    refine lv_bipush (v := 8) hx hb d_P_readStatus_40 (by decide) ?_
    refine lv_ishr hx hb d_P_readStatus_42 ?_
    refine lv_imul hx hb d_P_readStatus_43 ?_
    refine lv_iadd hx hb d_P_readStatus_44 ?_
    refine lv_istore_n (lv' := [(1, .int ((s_1 + s_2) + (4 * (r_37 >>> ((8 : Int32) &&& 31))))), (0, .ref a0)]) hx hb d_P_readStatus_45 rfl hl (by decide) rfl (fun ls hl => ?_)
    refine lv_iload_n hx hb d_P_readStatus_46 rfl (lv_at hl 0 rfl) ?_
    refine lv_aload_n hx hb d_P_readStatus_47 rfl (lv_at hl 1 rfl) ?_
    refine va_get (D := (dC, dI)) (ci := 2) (v := .ref a_out) (C := cls_P) (T := fld_P) (N := 16) hx hb ht iin_P hown hK hP 0 rfl rfl 1 (by decide) (ht _ k_P_18) (fun _ h9 => h9) rfl d_P_readStatus_48 ?_
    refine va_get (D := (dC, dI)) (ci := 3) (v := .int v_out_size) (C := cls_R) (T := fld_R) (N := 4) hx hb ht iin_R hown hK hP 3 rfl rfl 3 (by decide) (ht _ k_P_93) (fun _ h9 => h9) rfl d_P_readStatus_51 ?_
    refine lv_if_ne (tgt := 62) hx hb d_P_readStatus_54 (by decide) (fun c_54 => ?_) (fun c_54 => ?_)
    · have hf := ite_f hf c_54
      refine lv_iconst (v := 0) hx hb d_P_readStatus_62 (by decide) ?_
      exact wo _ _ _ (k_63 (v_queued, v_level, v_enabled, v_format, v_spare, v_low, v_high, v_overrun, v_vacated, v_quiet, v_shifting, v_ticksToGo, (v_in_limit, v_in_first, v_in_size, v_in_places), (v_out_limit, v_out_first, v_out_size, v_out_places), (v_modem_control, v_modem_changes, v_modem_given), (v_log_size, v_log_latest)) 0 ((s_1 + s_2) + (4 * (r_37 >>> ((8 : Int32) &&& 31)))) hf _ _ _ hP hD hS (lv_sub hl [1] rfl))
    · have hf := ite_t hf c_54
      refine lv_bipush (v := 32) hx hb d_P_readStatus_57 (by decide) ?_
      refine lv_goto (tgt := 63) hx hb d_P_readStatus_59 (by decide) ?_
      exact wo _ _ _ (k_63 (v_queued, v_level, v_enabled, v_format, v_spare, v_low, v_high, v_overrun, v_vacated, v_quiet, v_shifting, v_ticksToGo, (v_in_limit, v_in_first, v_in_size, v_in_places), (v_out_limit, v_out_first, v_out_size, v_out_places), (v_modem_control, v_modem_changes, v_modem_given), (v_log_size, v_log_latest)) 32 ((s_1 + s_2) + (4 * (r_37 >>> ((8 : Int32) &&& 31)))) hf _ _ _ hP hD hS (lv_sub hl [1] rfl))
  have k_15 : ∀ (u : PtT) (s_1 : Int32), f_P_readStatus_15 u s_1 = some q → ∀ (H : Heap) (locs : List Loc) (ls : Array Slot), va_P (dC, dI) cls (cw_P cA a0 a_in a_in_places a_out a_out_places a_modem a_log a_log_latest u) H → va_D A (cw_P cA a0 a_in a_in_places a_out a_out_places a_modem a_log a_log_latest u) → va_S A s.heap H locs → lv_has ls 2 [(0, .ref a0)] → WW H locs (F0 m 15 ls [.int s_1]) := by
    intro u s_1 hf H locs ls hP hD hS hl
    obtain ⟨v_queued, v_level, v_enabled, v_format, v_spare, v_low, v_high, v_overrun, v_vacated, v_quiet, v_shifting, v_ticksToGo, ⟨v_in_limit, v_in_first, v_in_size, v_in_places⟩, ⟨v_out_limit, v_out_first, v_out_size, v_out_places⟩, ⟨v_modem_control, v_modem_changes, v_modem_given⟩, ⟨v_log_size, v_log_latest⟩⟩ := u
    unfold f_P_readStatus_15 at hf
    try dsimp only at hf
    have hP : va_P (dC, dI) cls [(a0, .inr (2, [.ref a_in, .ref a_out, .ref a_modem, .ref a_log, .int v_queued, .int v_level, .int v_enabled, .int v_format, .int v_spare, .int v_low, .int v_high, .int v_overrun, .int v_vacated, .int v_quiet, .int v_shifting, .int v_ticksToGo])), (a_in, .inr (3, [.ref a_in_places, .int v_in_limit, .int v_in_first, .int v_in_size])), (a_in_places, .inl (cA, 32, .inl v_in_places)), (a_out, .inr (3, [.ref a_out_places, .int v_out_limit, .int v_out_first, .int v_out_size])), (a_out_places, .inl (cA, 32, .inl v_out_places)), (a_modem, .inr (1, [.int v_modem_control, .int v_modem_changes, .int v_modem_given])), (a_log, .inr (4, [.ref a_log_latest, .int v_log_size])), (a_log_latest, .inl (cA, 32, .inl v_log_latest))] _ := hP
    have hD : va_D A [(a0, .inr (2, [.ref a_in, .ref a_out, .ref a_modem, .ref a_log, .int v_queued, .int v_level, .int v_enabled, .int v_format, .int v_spare, .int v_low, .int v_high, .int v_overrun, .int v_vacated, .int v_quiet, .int v_shifting, .int v_ticksToGo])), (a_in, .inr (3, [.ref a_in_places, .int v_in_limit, .int v_in_first, .int v_in_size])), (a_in_places, .inl (cA, 32, .inl v_in_places)), (a_out, .inr (3, [.ref a_out_places, .int v_out_limit, .int v_out_first, .int v_out_size])), (a_out_places, .inl (cA, 32, .inl v_out_places)), (a_modem, .inr (1, [.int v_modem_control, .int v_modem_changes, .int v_modem_given])), (a_log, .inr (4, [.ref a_log_latest, .int v_log_size])), (a_log_latest, .inl (cA, 32, .inl v_log_latest))] := hD
    refine wi _ _ _ ?_
    refine lv_istore_n (lv' := [(1, .int s_1), (0, .ref a0)]) hx hb d_P_readStatus_15 rfl hl (by decide) rfl (fun ls hl => ?_)
    refine lv_iload_n hx hb d_P_readStatus_16 rfl (lv_at hl 0 rfl) ?_
    refine lv_aload_n hx hb d_P_readStatus_17 rfl (lv_at hl 1 rfl) ?_
    refine va_get (D := (dC, dI)) (ci := 2) (v := .int v_overrun) (C := cls_P) (T := fld_P) (N := 16) hx hb ht iin_P hown hK hP 0 rfl rfl 11 (by decide) (ht _ k_P_86) (fun _ h9 => h9) rfl d_P_readStatus_18 ?_
    refine lv_if_eq (tgt := 28) hx hb d_P_readStatus_21 (by decide) (fun c_21 => ?_) (fun c_21 => ?_)
    · have hf := ite_t hf c_21
      refine lv_iconst (v := 0) hx hb d_P_readStatus_28 (by decide) ?_
      exact wo _ _ _ (k_29 (v_queued, v_level, v_enabled, v_format, v_spare, v_low, v_high, v_overrun, v_vacated, v_quiet, v_shifting, v_ticksToGo, (v_in_limit, v_in_first, v_in_size, v_in_places), (v_out_limit, v_out_first, v_out_size, v_out_places), (v_modem_control, v_modem_changes, v_modem_given), (v_log_size, v_log_latest)) 0 s_1 hf _ _ _ hP hD hS (lv_sub hl [1] rfl))
    · have hf := ite_f hf c_21
      refine lv_iconst (v := 2) hx hb d_P_readStatus_24 (by decide) ?_
      refine lv_goto (tgt := 29) hx hb d_P_readStatus_25 (by decide) ?_
      exact wo _ _ _ (k_29 (v_queued, v_level, v_enabled, v_format, v_spare, v_low, v_high, v_overrun, v_vacated, v_quiet, v_shifting, v_ticksToGo, (v_in_limit, v_in_first, v_in_size, v_in_places), (v_out_limit, v_out_first, v_out_size, v_out_places), (v_modem_control, v_modem_changes, v_modem_given), (v_log_size, v_log_latest)) 2 s_1 hf _ _ _ hP hD hS (lv_sub hl [1] rfl))
  obtain ⟨v_queued, v_level, v_enabled, v_format, v_spare, v_low, v_high, v_overrun, v_vacated, v_quiet, v_shifting, v_ticksToGo, ⟨v_in_limit, v_in_first, v_in_size, v_in_places⟩, ⟨v_out_limit, v_out_first, v_out_size, v_out_places⟩, ⟨v_modem_control, v_modem_changes, v_modem_given⟩, ⟨v_log_size, v_log_latest⟩⟩ := u
  unfold f_P_readStatus at hf
  try dsimp only at hf
  have hP : va_P (dC, dI) cls [(a0, .inr (2, [.ref a_in, .ref a_out, .ref a_modem, .ref a_log, .int v_queued, .int v_level, .int v_enabled, .int v_format, .int v_spare, .int v_low, .int v_high, .int v_overrun, .int v_vacated, .int v_quiet, .int v_shifting, .int v_ticksToGo])), (a_in, .inr (3, [.ref a_in_places, .int v_in_limit, .int v_in_first, .int v_in_size])), (a_in_places, .inl (cA, 32, .inl v_in_places)), (a_out, .inr (3, [.ref a_out_places, .int v_out_limit, .int v_out_first, .int v_out_size])), (a_out_places, .inl (cA, 32, .inl v_out_places)), (a_modem, .inr (1, [.int v_modem_control, .int v_modem_changes, .int v_modem_given])), (a_log, .inr (4, [.ref a_log_latest, .int v_log_size])), (a_log_latest, .inl (cA, 32, .inl v_log_latest))] _ := hP
  have hD : va_D A [(a0, .inr (2, [.ref a_in, .ref a_out, .ref a_modem, .ref a_log, .int v_queued, .int v_level, .int v_enabled, .int v_format, .int v_spare, .int v_low, .int v_high, .int v_overrun, .int v_vacated, .int v_quiet, .int v_shifting, .int v_ticksToGo])), (a_in, .inr (3, [.ref a_in_places, .int v_in_limit, .int v_in_first, .int v_in_size])), (a_in_places, .inl (cA, 32, .inl v_in_places)), (a_out, .inr (3, [.ref a_out_places, .int v_out_limit, .int v_out_first, .int v_out_size])), (a_out_places, .inl (cA, 32, .inl v_out_places)), (a_modem, .inr (1, [.int v_modem_control, .int v_modem_changes, .int v_modem_given])), (a_log, .inr (4, [.ref a_log_latest, .int v_log_size])), (a_log_latest, .inl (cA, 32, .inl v_log_latest))] := hD
  refine wi _ _ _ ?_
  have hl : lv_has ls 2 [(0, .ref a0)] := hl
  refine lv_aload_n hx hb d_P_readStatus_0 rfl (lv_at hl 0 rfl) ?_
  refine va_get (D := (dC, dI)) (ci := 2) (v := .ref a_in) (C := cls_P) (T := fld_P) (N := 16) hx hb ht iin_P hown hK hP 0 rfl rfl 0 (by decide) (ht _ k_P_12) (fun _ h9 => h9) rfl d_P_readStatus_1 ?_
  refine va_get (D := (dC, dI)) (ci := 3) (v := .int v_in_size) (C := cls_R) (T := fld_R) (N := 4) hx hb ht iin_R hown hK hP 1 rfl rfl 3 (by decide) (ht _ k_P_93) (fun _ h9 => h9) rfl d_P_readStatus_4 ?_
  refine lv_if_le (tgt := 14) hx hb d_P_readStatus_7 (by decide) (fun c_7 => ?_) (fun c_7 => ?_)
  · have hf := ite_t hf c_7
    refine lv_iconst (v := 0) hx hb d_P_readStatus_14 (by decide) ?_
    exact wo _ _ _ (k_15 (v_queued, v_level, v_enabled, v_format, v_spare, v_low, v_high, v_overrun, v_vacated, v_quiet, v_shifting, v_ticksToGo, (v_in_limit, v_in_first, v_in_size, v_in_places), (v_out_limit, v_out_first, v_out_size, v_out_places), (v_modem_control, v_modem_changes, v_modem_given), (v_log_size, v_log_latest)) 0 hf _ _ _ hP hD hS (lv_sub hl [0] rfl))
  · have hf := ite_f hf c_7
    refine lv_iconst (v := 1) hx hb d_P_readStatus_10 (by decide) ?_
    refine lv_goto (tgt := 15) hx hb d_P_readStatus_11 (by decide) ?_
    exact wo _ _ _ (k_15 (v_queued, v_level, v_enabled, v_format, v_spare, v_low, v_high, v_overrun, v_vacated, v_quiet, v_shifting, v_ticksToGo, (v_in_limit, v_in_first, v_in_size, v_in_places), (v_out_limit, v_out_first, v_out_size, v_out_places), (v_modem_control, v_modem_changes, v_modem_given), (v_log_size, v_log_latest)) 1 hf _ _ _ hP hD hS (lv_sub hl [0] rfl))
end
section
def f_P_moveIfPossible_52 : PtT → Option (PtT)
  | (v_queued, v_level, v_enabled, v_format, v_spare, v_low, v_high, v_overrun, v_vacated, v_quiet, v_shifting, v_ticksToGo, (v_in_limit, v_in_first, v_in_size, v_in_places), (v_out_limit, v_out_first, v_out_size, v_out_places), (v_modem_control, v_modem_changes, v_modem_given), (v_log_size, v_log_latest)) => some (v_queued, v_level, v_enabled, v_format, v_spare, v_low, v_high, v_overrun, v_vacated, v_quiet, v_shifting, v_ticksToGo, (v_in_limit, v_in_first, v_in_size, v_in_places), (v_out_limit, v_out_first, v_out_size, v_out_places), (v_modem_control, v_modem_changes, v_modem_given), (v_log_size, v_log_latest))
def f_P_moveIfPossible_17 : PtT → Option (PtT)
  | (v_queued, v_level, v_enabled, v_format, v_spare, v_low, v_high, v_overrun, v_vacated, v_quiet, v_shifting, v_ticksToGo, (v_in_limit, v_in_first, v_in_size, v_in_places), (v_out_limit, v_out_first, v_out_size, v_out_places), (v_modem_control, v_modem_changes, v_modem_given), (v_log_size, v_log_latest)) => some (v_queued, v_level, v_enabled, v_format, v_spare, v_low, v_high, v_overrun, v_vacated, v_quiet, v_shifting, v_ticksToGo, (v_in_limit, v_in_first, v_in_size, v_in_places), (v_out_limit, v_out_first, v_out_size, v_out_places), (v_modem_control, v_modem_changes, v_modem_given), (v_log_size, v_log_latest))
def f_P_moveIfPossible : PtT → Option (PtT)
  | (v_queued, v_level, v_enabled, v_format, v_spare, v_low, v_high, v_overrun, v_vacated, v_quiet, v_shifting, v_ticksToGo, (v_in_limit, v_in_first, v_in_size, v_in_places), (v_out_limit, v_out_first, v_out_size, v_out_places), (v_modem_control, v_modem_changes, v_modem_given), (v_log_size, v_log_latest)) => if 0 < v_ticksToGo then (f_P_moveIfPossible_17 (v_queued, v_level, v_enabled, v_format, v_spare, v_low, v_high, v_overrun, v_vacated, v_quiet, v_shifting, v_ticksToGo, (v_in_limit, v_in_first, v_in_size, v_in_places), (v_out_limit, v_out_first, v_out_size, v_out_places), (v_modem_control, v_modem_changes, v_modem_given), (v_log_size, v_log_latest))) else (if v_out_size = 0 then (f_P_moveIfPossible_17 (v_queued, v_level, v_enabled, v_format, v_spare, v_low, v_high, v_overrun, v_vacated, v_quiet, v_shifting, v_ticksToGo, (v_in_limit, v_in_first, v_in_size, v_in_places), (v_out_limit, v_out_first, v_out_size, v_out_places), (v_modem_control, v_modem_changes, v_modem_given), (v_log_size, v_log_latest))) else (Option.bind (f_R_removeOldest (v_out_limit, v_out_first, v_out_size, v_out_places)) (fun q_23 => match q_23 with | (r_23, (v_out_limit_23, v_out_first_23, v_out_size_23, v_out_places_23)) => Option.bind (f_P_span (v_queued, v_level, v_enabled, v_format, v_spare, v_low, v_high, v_overrun, v_vacated, v_quiet, r_23, v_ticksToGo, (v_in_limit, v_in_first, v_in_size, v_in_places), (v_out_limit_23, v_out_first_23, v_out_size_23, v_out_places_23), (v_modem_control, v_modem_changes, v_modem_given), (v_log_size, v_log_latest))) (fun r_31 => if v_out_size_23 = 0 then (f_P_moveIfPossible_52 (v_queued, v_level, v_enabled, v_format, v_spare, v_low, v_high, v_overrun, 1, v_quiet, r_23, r_31, (v_in_limit, v_in_first, v_in_size, v_in_places), (v_out_limit_23, v_out_first_23, v_out_size_23, v_out_places_23), (v_modem_control, v_modem_changes, v_modem_given), (v_log_size, v_log_latest))) else (f_P_moveIfPossible_52 (v_queued, v_level, v_enabled, v_format, v_spare, v_low, v_high, v_overrun, v_vacated, v_quiet, r_23, r_31, (v_in_limit, v_in_first, v_in_size, v_in_places), (v_out_limit_23, v_out_first_23, v_out_size_23, v_out_places_23), (v_modem_control, v_modem_changes, v_modem_given), (v_log_size, v_log_latest)))))))
set_option maxHeartbeats 8000000 in
set_option maxRecDepth 100000 in
theorem c_P_moveIfPossible (l : Launch) (dC : Nat → ClassId) (dI : Nat → Nat → Nat) (cA : ClassId) (t : Nat) (a0 a_in a_in_places a_out a_out_places a_modem a_log a_log_latest : Nat) (sz : Nat) (u : PtT) (q : PtT) (hf : f_P_moveIfPossible u = some q) : Met l y_P_moveIfPossible (Cond.code y_P_moveIfPossible b_P_moveIfPossible 1 none :: W0) ({ frames := 1, cells := 0, slots := 0, locals := 21 }) (va_Pc [.ref a0] (pc_ (dC, dI) [(cA, .int)] t sz (cw_P cA a0 a_in a_in_places a_out a_out_places a_modem a_log a_log_latest u))) (qv_ (dC, dI) (cw_P cA a0 a_in a_in_places a_out a_out_places a_modem a_log a_log_latest) q (va_A (cw_P cA a0 a_in a_in_places a_out a_out_places a_modem a_log a_log_latest u) sz)) 0 0 (va_A (cw_P cA a0 a_in a_in_places a_out a_out_places a_modem a_log a_log_latest u) sz) := by
  refine start_ l (qv_ (dC, dI) (cw_P cA a0 a_in a_in_places a_out a_out_places a_modem a_log a_log_latest) q) (by decide) (Nat.le_of_ble_eq_true rfl) ?_
  intro p e s m below meth c hx hb hml hr hown ht hlocks hnm A hA hS hP hK hD hZ ls hl
  have hown : s.vm.findClass cls_P = some m.cls := hown
  refine wabs_ (fun WW wi wo => ?_)
  have k_52 : ∀ (u : PtT), f_P_moveIfPossible_52 u = some q → ∀ (H : Heap) (locs : List Loc) (ls : Array Slot), va_P (dC, dI) cls (cw_P cA a0 a_in a_in_places a_out a_out_places a_modem a_log a_log_latest u) H → va_D A (cw_P cA a0 a_in a_in_places a_out a_out_places a_modem a_log a_log_latest u) → va_S A s.heap H locs → lv_has ls 1 [] → WW H locs (F0 m 52 ls []) := by
    intro u hf H locs ls hP hD hS hl
    obtain ⟨v_queued, v_level, v_enabled, v_format, v_spare, v_low, v_high, v_overrun, v_vacated, v_quiet, v_shifting, v_ticksToGo, ⟨v_in_limit, v_in_first, v_in_size, v_in_places⟩, ⟨v_out_limit, v_out_first, v_out_size, v_out_places⟩, ⟨v_modem_control, v_modem_changes, v_modem_given⟩, ⟨v_log_size, v_log_latest⟩⟩ := u
    unfold f_P_moveIfPossible_52 at hf
    try dsimp only at hf
    have hP : va_P (dC, dI) cls [(a0, .inr (2, [.ref a_in, .ref a_out, .ref a_modem, .ref a_log, .int v_queued, .int v_level, .int v_enabled, .int v_format, .int v_spare, .int v_low, .int v_high, .int v_overrun, .int v_vacated, .int v_quiet, .int v_shifting, .int v_ticksToGo])), (a_in, .inr (3, [.ref a_in_places, .int v_in_limit, .int v_in_first, .int v_in_size])), (a_in_places, .inl (cA, 32, .inl v_in_places)), (a_out, .inr (3, [.ref a_out_places, .int v_out_limit, .int v_out_first, .int v_out_size])), (a_out_places, .inl (cA, 32, .inl v_out_places)), (a_modem, .inr (1, [.int v_modem_control, .int v_modem_changes, .int v_modem_given])), (a_log, .inr (4, [.ref a_log_latest, .int v_log_size])), (a_log_latest, .inl (cA, 32, .inl v_log_latest))] _ := hP
    have hD : va_D A [(a0, .inr (2, [.ref a_in, .ref a_out, .ref a_modem, .ref a_log, .int v_queued, .int v_level, .int v_enabled, .int v_format, .int v_spare, .int v_low, .int v_high, .int v_overrun, .int v_vacated, .int v_quiet, .int v_shifting, .int v_ticksToGo])), (a_in, .inr (3, [.ref a_in_places, .int v_in_limit, .int v_in_first, .int v_in_size])), (a_in_places, .inl (cA, 32, .inl v_in_places)), (a_out, .inr (3, [.ref a_out_places, .int v_out_limit, .int v_out_first, .int v_out_size])), (a_out_places, .inl (cA, 32, .inl v_out_places)), (a_modem, .inr (1, [.int v_modem_control, .int v_modem_changes, .int v_modem_given])), (a_log, .inr (4, [.ref a_log_latest, .int v_log_size])), (a_log_latest, .inl (cA, 32, .inl v_log_latest))] := hD
    refine wi _ _ _ ?_
    exact W.vret hx hb hr (fun t9 ht9 _ => rv_ (Option.some.inj hf) hP hD hS ht9) hS.2.2 d_P_moveIfPossible_52
  have k_17 : ∀ (u : PtT), f_P_moveIfPossible_17 u = some q → ∀ (H : Heap) (locs : List Loc) (ls : Array Slot), va_P (dC, dI) cls (cw_P cA a0 a_in a_in_places a_out a_out_places a_modem a_log a_log_latest u) H → va_D A (cw_P cA a0 a_in a_in_places a_out a_out_places a_modem a_log a_log_latest u) → va_S A s.heap H locs → lv_has ls 1 [] → WW H locs (F0 m 17 ls []) := by
    intro u hf H locs ls hP hD hS hl
    obtain ⟨v_queued, v_level, v_enabled, v_format, v_spare, v_low, v_high, v_overrun, v_vacated, v_quiet, v_shifting, v_ticksToGo, ⟨v_in_limit, v_in_first, v_in_size, v_in_places⟩, ⟨v_out_limit, v_out_first, v_out_size, v_out_places⟩, ⟨v_modem_control, v_modem_changes, v_modem_given⟩, ⟨v_log_size, v_log_latest⟩⟩ := u
    unfold f_P_moveIfPossible_17 at hf
    try dsimp only at hf
    have hP : va_P (dC, dI) cls [(a0, .inr (2, [.ref a_in, .ref a_out, .ref a_modem, .ref a_log, .int v_queued, .int v_level, .int v_enabled, .int v_format, .int v_spare, .int v_low, .int v_high, .int v_overrun, .int v_vacated, .int v_quiet, .int v_shifting, .int v_ticksToGo])), (a_in, .inr (3, [.ref a_in_places, .int v_in_limit, .int v_in_first, .int v_in_size])), (a_in_places, .inl (cA, 32, .inl v_in_places)), (a_out, .inr (3, [.ref a_out_places, .int v_out_limit, .int v_out_first, .int v_out_size])), (a_out_places, .inl (cA, 32, .inl v_out_places)), (a_modem, .inr (1, [.int v_modem_control, .int v_modem_changes, .int v_modem_given])), (a_log, .inr (4, [.ref a_log_latest, .int v_log_size])), (a_log_latest, .inl (cA, 32, .inl v_log_latest))] _ := hP
    have hD : va_D A [(a0, .inr (2, [.ref a_in, .ref a_out, .ref a_modem, .ref a_log, .int v_queued, .int v_level, .int v_enabled, .int v_format, .int v_spare, .int v_low, .int v_high, .int v_overrun, .int v_vacated, .int v_quiet, .int v_shifting, .int v_ticksToGo])), (a_in, .inr (3, [.ref a_in_places, .int v_in_limit, .int v_in_first, .int v_in_size])), (a_in_places, .inl (cA, 32, .inl v_in_places)), (a_out, .inr (3, [.ref a_out_places, .int v_out_limit, .int v_out_first, .int v_out_size])), (a_out_places, .inl (cA, 32, .inl v_out_places)), (a_modem, .inr (1, [.int v_modem_control, .int v_modem_changes, .int v_modem_given])), (a_log, .inr (4, [.ref a_log_latest, .int v_log_size])), (a_log_latest, .inl (cA, 32, .inl v_log_latest))] := hD
    refine wi _ _ _ ?_
    exact W.vret hx hb hr (fun t9 ht9 _ => rv_ (Option.some.inj hf) hP hD hS ht9) hS.2.2 d_P_moveIfPossible_17
  obtain ⟨v_queued, v_level, v_enabled, v_format, v_spare, v_low, v_high, v_overrun, v_vacated, v_quiet, v_shifting, v_ticksToGo, ⟨v_in_limit, v_in_first, v_in_size, v_in_places⟩, ⟨v_out_limit, v_out_first, v_out_size, v_out_places⟩, ⟨v_modem_control, v_modem_changes, v_modem_given⟩, ⟨v_log_size, v_log_latest⟩⟩ := u
  unfold f_P_moveIfPossible at hf
  try dsimp only at hf
  have hP : va_P (dC, dI) cls [(a0, .inr (2, [.ref a_in, .ref a_out, .ref a_modem, .ref a_log, .int v_queued, .int v_level, .int v_enabled, .int v_format, .int v_spare, .int v_low, .int v_high, .int v_overrun, .int v_vacated, .int v_quiet, .int v_shifting, .int v_ticksToGo])), (a_in, .inr (3, [.ref a_in_places, .int v_in_limit, .int v_in_first, .int v_in_size])), (a_in_places, .inl (cA, 32, .inl v_in_places)), (a_out, .inr (3, [.ref a_out_places, .int v_out_limit, .int v_out_first, .int v_out_size])), (a_out_places, .inl (cA, 32, .inl v_out_places)), (a_modem, .inr (1, [.int v_modem_control, .int v_modem_changes, .int v_modem_given])), (a_log, .inr (4, [.ref a_log_latest, .int v_log_size])), (a_log_latest, .inl (cA, 32, .inl v_log_latest))] _ := hP
  have hD : va_D A [(a0, .inr (2, [.ref a_in, .ref a_out, .ref a_modem, .ref a_log, .int v_queued, .int v_level, .int v_enabled, .int v_format, .int v_spare, .int v_low, .int v_high, .int v_overrun, .int v_vacated, .int v_quiet, .int v_shifting, .int v_ticksToGo])), (a_in, .inr (3, [.ref a_in_places, .int v_in_limit, .int v_in_first, .int v_in_size])), (a_in_places, .inl (cA, 32, .inl v_in_places)), (a_out, .inr (3, [.ref a_out_places, .int v_out_limit, .int v_out_first, .int v_out_size])), (a_out_places, .inl (cA, 32, .inl v_out_places)), (a_modem, .inr (1, [.int v_modem_control, .int v_modem_changes, .int v_modem_given])), (a_log, .inr (4, [.ref a_log_latest, .int v_log_size])), (a_log_latest, .inl (cA, 32, .inl v_log_latest))] := hD
  refine wi _ _ _ ?_
  have hl : lv_has ls 1 [(0, .ref a0)] := hl
  refine lv_aload_n hx hb d_P_moveIfPossible_0 rfl (lv_at hl 0 rfl) ?_
  refine va_get (D := (dC, dI)) (ci := 2) (v := .int v_ticksToGo) (C := cls_P) (T := fld_P) (N := 16) hx hb ht iin_P hown hK hP 0 rfl rfl 15 (by decide) (ht _ k_P_117) (fun _ h9 => h9) rfl d_P_moveIfPossible_1 ?_
  refine lv_if_gt (tgt := 17) hx hb d_P_moveIfPossible_4 (by decide) (fun c_4 => ?_) (fun c_4 => ?_)
  · have hf := ite_t hf c_4
    exact wo _ _ _ (k_17 (v_queued, v_level, v_enabled, v_format, v_spare, v_low, v_high, v_overrun, v_vacated, v_quiet, v_shifting, v_ticksToGo, (v_in_limit, v_in_first, v_in_size, v_in_places), (v_out_limit, v_out_first, v_out_size, v_out_places), (v_modem_control, v_modem_changes, v_modem_given), (v_log_size, v_log_latest)) hf _ _ _ hP hD hS (lv_sub hl [] rfl))
  · have hf := ite_f hf c_4
    refine lv_aload_n hx hb d_P_moveIfPossible_7 rfl (lv_at hl 0 rfl) ?_
    refine va_get (D := (dC, dI)) (ci := 2) (v := .ref a_out) (C := cls_P) (T := fld_P) (N := 16) hx hb ht iin_P hown hK hP 0 rfl rfl 1 (by decide) (ht _ k_P_18) (fun _ h9 => h9) rfl d_P_moveIfPossible_8 ?_
    refine va_get (D := (dC, dI)) (ci := 3) (v := .int v_out_size) (C := cls_R) (T := fld_R) (N := 4) hx hb ht iin_R hown hK hP 3 rfl rfl 3 (by decide) (ht _ k_P_93) (fun _ h9 => h9) rfl d_P_moveIfPossible_11 ?_
    refine lv_if_ne (tgt := 18) hx hb d_P_moveIfPossible_14 (by decide) (fun c_14 => ?_) (fun c_14 => ?_)
    · have hf := ite_f hf c_14
      refine lv_aload_n hx hb d_P_moveIfPossible_18 rfl (lv_at hl 0 rfl) ?_
      refine lv_aload_n hx hb d_P_moveIfPossible_19 rfl (lv_at hl 0 rfl) ?_
      refine va_get (D := (dC, dI)) (ci := 2) (v := .ref a_out) (C := cls_P) (T := fld_P) (N := 16) hx hb ht iin_P hown hK hP 0 rfl rfl 1 (by decide) (ht _ k_P_18) (fun _ h9 => h9) rfl d_P_moveIfPossible_20 ?_
      obtain ⟨q_23, hc_23, hf⟩ := bind_e hf
      refine cVi_ (wc := cw_R cA a_out a_out_places (v_out_limit, v_out_first, v_out_size, v_out_places)) (wr := [(a0, .inr (2, [.ref a_in, .ref a_out, .ref a_modem, .ref a_log, .int v_queued, .int v_level, .int v_enabled, .int v_format, .int v_spare, .int v_low, .int v_high, .int v_overrun, .int v_vacated, .int v_quiet, .int v_shifting, .int v_ticksToGo])), (a_in, .inr (3, [.ref a_in_places, .int v_in_limit, .int v_in_first, .int v_in_size])), (a_in_places, .inl (cA, 32, .inl v_in_places)), (a_modem, .inr (1, [.int v_modem_control, .int v_modem_changes, .int v_modem_given])), (a_log, .inr (4, [.ref a_log_latest, .int v_log_size])), (a_log_latest, .inl (cA, 32, .inl v_log_latest))]) (As := []) (rest := [.ref a0]) ⟨hx, hb, hml, hown, ht⟩ (c_R_removeOldest l dC dI cA t a_out a_out_places _ (v_out_limit, v_out_first, v_out_size, v_out_places)  q_23 hc_23) (cwV 0 ht (gV_ k_P_114 ki_R_removeOldest ks_R_removeOldest kn_R kc_R_removeOldest) rfl rfl rfl ⟨rfl, hd_R_removeOldest⟩ ⟨Nat.le_of_ble_eq_true rfl, Nat.le_of_ble_eq_true rfl⟩) hK hZ hA hP hD hS [3, 4] [0, 1, 2, 5, 6, 7] rfl rfl (by decide) (by decide) (by decide) rfl rfl rfl rfl hl.1 (Nat.le_of_ble_eq_true rfl) d_P_moveIfPossible_23 ⟨Nat.le_of_ble_eq_true rfl, Nat.le_of_ble_eq_true rfl⟩ (fun r_23 u H locs hw hP hD hS => ?_)
      obtain ⟨v_out_limit_23, v_out_first_23, v_out_size_23, v_out_places_23⟩ := u
      subst hw
      have hP : va_P (dC, dI) cls [(a0, .inr (2, [.ref a_in, .ref a_out, .ref a_modem, .ref a_log, .int v_queued, .int v_level, .int v_enabled, .int v_format, .int v_spare, .int v_low, .int v_high, .int v_overrun, .int v_vacated, .int v_quiet, .int v_shifting, .int v_ticksToGo])), (a_in, .inr (3, [.ref a_in_places, .int v_in_limit, .int v_in_first, .int v_in_size])), (a_in_places, .inl (cA, 32, .inl v_in_places)), (a_out, .inr (3, [.ref a_out_places, .int v_out_limit_23, .int v_out_first_23, .int v_out_size_23])), (a_out_places, .inl (cA, 32, .inl v_out_places_23)), (a_modem, .inr (1, [.int v_modem_control, .int v_modem_changes, .int v_modem_given])), (a_log, .inr (4, [.ref a_log_latest, .int v_log_size])), (a_log_latest, .inl (cA, 32, .inl v_log_latest))] _ := hP.sub [0, 1, 2, 6, 7, 3, 4, 5] rfl
      have hD : va_D A [(a0, .inr (2, [.ref a_in, .ref a_out, .ref a_modem, .ref a_log, .int v_queued, .int v_level, .int v_enabled, .int v_format, .int v_spare, .int v_low, .int v_high, .int v_overrun, .int v_vacated, .int v_quiet, .int v_shifting, .int v_ticksToGo])), (a_in, .inr (3, [.ref a_in_places, .int v_in_limit, .int v_in_first, .int v_in_size])), (a_in_places, .inl (cA, 32, .inl v_in_places)), (a_out, .inr (3, [.ref a_out_places, .int v_out_limit_23, .int v_out_first_23, .int v_out_size_23])), (a_out_places, .inl (cA, 32, .inl v_out_places_23)), (a_modem, .inr (1, [.int v_modem_control, .int v_modem_changes, .int v_modem_given])), (a_log, .inr (4, [.ref a_log_latest, .int v_log_size])), (a_log_latest, .inl (cA, 32, .inl v_log_latest))] := hD.sub [0, 1, 2, 6, 7, 3, 4, 5] (by decide) rfl
      try dsimp only at hf
      refine va_put (D := (dC, dI)) (ci := 2) (v := .int r_23) (ty := .int) (C := cls_P) (T := fld_P) (N := 16) hx hb ht iin_P typ_P tok_P nam_P hown hK hP hD hS 0 rfl rfl 14 (by decide) (ht _ k_P_143) (fun _ h9 => h9) rfl (tok_P 14 (by decide)) rfl rfl (Nat.le_of_ble_eq_true rfl) d_P_moveIfPossible_26 (fun H locs hP hD hS => ?_)
      have hP : va_P (dC, dI) cls [(a0, .inr (2, [.ref a_in, .ref a_out, .ref a_modem, .ref a_log, .int v_queued, .int v_level, .int v_enabled, .int v_format, .int v_spare, .int v_low, .int v_high, .int v_overrun, .int v_vacated, .int v_quiet, .int r_23, .int v_ticksToGo])), (a_in, .inr (3, [.ref a_in_places, .int v_in_limit, .int v_in_first, .int v_in_size])), (a_in_places, .inl (cA, 32, .inl v_in_places)), (a_out, .inr (3, [.ref a_out_places, .int v_out_limit_23, .int v_out_first_23, .int v_out_size_23])), (a_out_places, .inl (cA, 32, .inl v_out_places_23)), (a_modem, .inr (1, [.int v_modem_control, .int v_modem_changes, .int v_modem_given])), (a_log, .inr (4, [.ref a_log_latest, .int v_log_size])), (a_log_latest, .inl (cA, 32, .inl v_log_latest))] _ := hP
      have hD : va_D A [(a0, .inr (2, [.ref a_in, .ref a_out, .ref a_modem, .ref a_log, .int v_queued, .int v_level, .int v_enabled, .int v_format, .int v_spare, .int v_low, .int v_high, .int v_overrun, .int v_vacated, .int v_quiet, .int r_23, .int v_ticksToGo])), (a_in, .inr (3, [.ref a_in_places, .int v_in_limit, .int v_in_first, .int v_in_size])), (a_in_places, .inl (cA, 32, .inl v_in_places)), (a_out, .inr (3, [.ref a_out_places, .int v_out_limit_23, .int v_out_first_23, .int v_out_size_23])), (a_out_places, .inl (cA, 32, .inl v_out_places_23)), (a_modem, .inr (1, [.int v_modem_control, .int v_modem_changes, .int v_modem_given])), (a_log, .inr (4, [.ref a_log_latest, .int v_log_size])), (a_log_latest, .inl (cA, 32, .inl v_log_latest))] := hD
      refine lv_aload_n hx hb d_P_moveIfPossible_29 rfl (lv_at hl 0 rfl) ?_
      refine lv_aload_n hx hb d_P_moveIfPossible_30 rfl (lv_at hl 0 rfl) ?_
      obtain ⟨q_31, hc_31, hf⟩ := bind_e hf
      refine cVr_ (wc := cw_P cA a0 a_in a_in_places a_out a_out_places a_modem a_log a_log_latest (v_queued, v_level, v_enabled, v_format, v_spare, v_low, v_high, v_overrun, v_vacated, v_quiet, r_23, v_ticksToGo, (v_in_limit, v_in_first, v_in_size, v_in_places), (v_out_limit_23, v_out_first_23, v_out_size_23, v_out_places_23), (v_modem_control, v_modem_changes, v_modem_given), (v_log_size, v_log_latest))) (wr := []) (As := []) (rest := [.ref a0]) ⟨hx, hb, hml, hown, ht⟩ (c_P_span l dC dI cA t a0 a_in a_in_places a_out a_out_places a_modem a_log a_log_latest _ (v_queued, v_level, v_enabled, v_format, v_spare, v_low, v_high, v_overrun, v_vacated, v_quiet, r_23, v_ticksToGo, (v_in_limit, v_in_first, v_in_size, v_in_places), (v_out_limit_23, v_out_first_23, v_out_size_23, v_out_places_23), (v_modem_control, v_modem_changes, v_modem_given), (v_log_size, v_log_latest))  q_31 hc_31) (cwV 0 ht (gV_ k_P_102 ki_P_span ks_P_span kn_P kc_P_span) rfl rfl rfl ⟨rfl, hd_P_span⟩ ⟨Nat.le_of_ble_eq_true rfl, Nat.le_of_ble_eq_true rfl⟩) hK hZ hA hP hD hS [0, 1, 2, 3, 4, 5, 6, 7] [] rfl rfl (by decide) (by decide) (by decide) rfl rfl rfl rfl hl.1 (Nat.le_of_ble_eq_true rfl) d_P_moveIfPossible_31 ⟨Nat.le_of_ble_eq_true rfl, Nat.le_of_ble_eq_true rfl⟩ (fun r_31 H locs hw hP hD hS => ?_)
      subst hw
      have hP : va_P (dC, dI) cls [(a0, .inr (2, [.ref a_in, .ref a_out, .ref a_modem, .ref a_log, .int v_queued, .int v_level, .int v_enabled, .int v_format, .int v_spare, .int v_low, .int v_high, .int v_overrun, .int v_vacated, .int v_quiet, .int r_23, .int v_ticksToGo])), (a_in, .inr (3, [.ref a_in_places, .int v_in_limit, .int v_in_first, .int v_in_size])), (a_in_places, .inl (cA, 32, .inl v_in_places)), (a_out, .inr (3, [.ref a_out_places, .int v_out_limit_23, .int v_out_first_23, .int v_out_size_23])), (a_out_places, .inl (cA, 32, .inl v_out_places_23)), (a_modem, .inr (1, [.int v_modem_control, .int v_modem_changes, .int v_modem_given])), (a_log, .inr (4, [.ref a_log_latest, .int v_log_size])), (a_log_latest, .inl (cA, 32, .inl v_log_latest))] _ := hP.sub [0, 1, 2, 3, 4, 5, 6, 7] rfl
      have hD : va_D A [(a0, .inr (2, [.ref a_in, .ref a_out, .ref a_modem, .ref a_log, .int v_queued, .int v_level, .int v_enabled, .int v_format, .int v_spare, .int v_low, .int v_high, .int v_overrun, .int v_vacated, .int v_quiet, .int r_23, .int v_ticksToGo])), (a_in, .inr (3, [.ref a_in_places, .int v_in_limit, .int v_in_first, .int v_in_size])), (a_in_places, .inl (cA, 32, .inl v_in_places)), (a_out, .inr (3, [.ref a_out_places, .int v_out_limit_23, .int v_out_first_23, .int v_out_size_23])), (a_out_places, .inl (cA, 32, .inl v_out_places_23)), (a_modem, .inr (1, [.int v_modem_control, .int v_modem_changes, .int v_modem_given])), (a_log, .inr (4, [.ref a_log_latest, .int v_log_size])), (a_log_latest, .inl (cA, 32, .inl v_log_latest))] := hD.sub [0, 1, 2, 3, 4, 5, 6, 7] (by decide) rfl
      refine va_put (D := (dC, dI)) (ci := 2) (v := .int r_31) (ty := .int) (C := cls_P) (T := fld_P) (N := 16) hx hb ht iin_P typ_P tok_P nam_P hown hK hP hD hS 0 rfl rfl 15 (by decide) (ht _ k_P_117) (fun _ h9 => h9) rfl (tok_P 15 (by decide)) rfl rfl (Nat.le_of_ble_eq_true rfl) d_P_moveIfPossible_34 (fun H locs hP hD hS => ?_)
      have hP : va_P (dC, dI) cls [(a0, .inr (2, [.ref a_in, .ref a_out, .ref a_modem, .ref a_log, .int v_queued, .int v_level, .int v_enabled, .int v_format, .int v_spare, .int v_low, .int v_high, .int v_overrun, .int v_vacated, .int v_quiet, .int r_23, .int r_31])), (a_in, .inr (3, [.ref a_in_places, .int v_in_limit, .int v_in_first, .int v_in_size])), (a_in_places, .inl (cA, 32, .inl v_in_places)), (a_out, .inr (3, [.ref a_out_places, .int v_out_limit_23, .int v_out_first_23, .int v_out_size_23])), (a_out_places, .inl (cA, 32, .inl v_out_places_23)), (a_modem, .inr (1, [.int v_modem_control, .int v_modem_changes, .int v_modem_given])), (a_log, .inr (4, [.ref a_log_latest, .int v_log_size])), (a_log_latest, .inl (cA, 32, .inl v_log_latest))] _ := hP
      have hD : va_D A [(a0, .inr (2, [.ref a_in, .ref a_out, .ref a_modem, .ref a_log, .int v_queued, .int v_level, .int v_enabled, .int v_format, .int v_spare, .int v_low, .int v_high, .int v_overrun, .int v_vacated, .int v_quiet, .int r_23, .int r_31])), (a_in, .inr (3, [.ref a_in_places, .int v_in_limit, .int v_in_first, .int v_in_size])), (a_in_places, .inl (cA, 32, .inl v_in_places)), (a_out, .inr (3, [.ref a_out_places, .int v_out_limit_23, .int v_out_first_23, .int v_out_size_23])), (a_out_places, .inl (cA, 32, .inl v_out_places_23)), (a_modem, .inr (1, [.int v_modem_control, .int v_modem_changes, .int v_modem_given])), (a_log, .inr (4, [.ref a_log_latest, .int v_log_size])), (a_log_latest, .inl (cA, 32, .inl v_log_latest))] := hD
      refine lv_aload_n hx hb d_P_moveIfPossible_37 rfl (lv_at hl 0 rfl) ?_
      refine va_get (D := (dC, dI)) (ci := 2) (v := .ref a_out) (C := cls_P) (T := fld_P) (N := 16) hx hb ht iin_P hown hK hP 0 rfl rfl 1 (by decide) (ht _ k_P_18) (fun _ h9 => h9) rfl d_P_moveIfPossible_38 ?_
      refine va_get (D := (dC, dI)) (ci := 3) (v := .int v_out_size_23) (C := cls_R) (T := fld_R) (N := 4) hx hb ht iin_R hown hK hP 3 rfl rfl 3 (by decide) (ht _ k_P_93) (fun _ h9 => h9) rfl d_P_moveIfPossible_41 ?_
      refine lv_if_ne (tgt := 52) hx hb d_P_moveIfPossible_44 (by decide) (fun c_44 => ?_) (fun c_44 => ?_)
      · have hf := ite_f hf c_44
        exact wo _ _ _ (k_52 (v_queued, v_level, v_enabled, v_format, v_spare, v_low, v_high, v_overrun, v_vacated, v_quiet, r_23, r_31, (v_in_limit, v_in_first, v_in_size, v_in_places), (v_out_limit_23, v_out_first_23, v_out_size_23, v_out_places_23), (v_modem_control, v_modem_changes, v_modem_given), (v_log_size, v_log_latest)) hf _ _ _ hP hD hS (lv_sub hl [] rfl))
      · have hf := ite_t hf c_44
        refine lv_aload_n hx hb d_P_moveIfPossible_47 rfl (lv_at hl 0 rfl) ?_
        refine lv_iconst (v := 1) hx hb d_P_moveIfPossible_48 (by decide) ?_
        refine va_put (D := (dC, dI)) (ci := 2) (v := .int 1) (ty := .boolean) (C := cls_P) (T := fld_P) (N := 16) hx hb ht iin_P typ_P tok_P nam_P hown hK hP hD hS 0 rfl rfl 12 (by decide) (ht _ k_P_105) (fun _ h9 => h9) rfl (tok_P 12 (by decide)) rfl rfl (Nat.le_of_ble_eq_true rfl) d_P_moveIfPossible_49 (fun H locs hP hD hS => ?_)
        have hP : va_P (dC, dI) cls [(a0, .inr (2, [.ref a_in, .ref a_out, .ref a_modem, .ref a_log, .int v_queued, .int v_level, .int v_enabled, .int v_format, .int v_spare, .int v_low, .int v_high, .int v_overrun, .int 1, .int v_quiet, .int r_23, .int r_31])), (a_in, .inr (3, [.ref a_in_places, .int v_in_limit, .int v_in_first, .int v_in_size])), (a_in_places, .inl (cA, 32, .inl v_in_places)), (a_out, .inr (3, [.ref a_out_places, .int v_out_limit_23, .int v_out_first_23, .int v_out_size_23])), (a_out_places, .inl (cA, 32, .inl v_out_places_23)), (a_modem, .inr (1, [.int v_modem_control, .int v_modem_changes, .int v_modem_given])), (a_log, .inr (4, [.ref a_log_latest, .int v_log_size])), (a_log_latest, .inl (cA, 32, .inl v_log_latest))] _ := hP
        have hD : va_D A [(a0, .inr (2, [.ref a_in, .ref a_out, .ref a_modem, .ref a_log, .int v_queued, .int v_level, .int v_enabled, .int v_format, .int v_spare, .int v_low, .int v_high, .int v_overrun, .int 1, .int v_quiet, .int r_23, .int r_31])), (a_in, .inr (3, [.ref a_in_places, .int v_in_limit, .int v_in_first, .int v_in_size])), (a_in_places, .inl (cA, 32, .inl v_in_places)), (a_out, .inr (3, [.ref a_out_places, .int v_out_limit_23, .int v_out_first_23, .int v_out_size_23])), (a_out_places, .inl (cA, 32, .inl v_out_places_23)), (a_modem, .inr (1, [.int v_modem_control, .int v_modem_changes, .int v_modem_given])), (a_log, .inr (4, [.ref a_log_latest, .int v_log_size])), (a_log_latest, .inl (cA, 32, .inl v_log_latest))] := hD
        exact wo _ _ _ (k_52 (v_queued, v_level, v_enabled, v_format, v_spare, v_low, v_high, v_overrun, 1, v_quiet, r_23, r_31, (v_in_limit, v_in_first, v_in_size, v_in_places), (v_out_limit_23, v_out_first_23, v_out_size_23, v_out_places_23), (v_modem_control, v_modem_changes, v_modem_given), (v_log_size, v_log_latest)) hf _ _ _ hP hD hS (lv_sub hl [] rfl))
    · have hf := ite_t hf c_14
      exact wo _ _ _ (k_17 (v_queued, v_level, v_enabled, v_format, v_spare, v_low, v_high, v_overrun, v_vacated, v_quiet, v_shifting, v_ticksToGo, (v_in_limit, v_in_first, v_in_size, v_in_places), (v_out_limit, v_out_first, v_out_size, v_out_places), (v_modem_control, v_modem_changes, v_modem_given), (v_log_size, v_log_latest)) hf _ _ _ hP hD hS (lv_sub hl [] rfl))
def f_P_storeData : PtT → Int32 → Option (PtT)
  | (v_queued, v_level, v_enabled, v_format, v_spare, v_low, v_high, v_overrun, v_vacated, v_quiet, v_shifting, v_ticksToGo, (v_in_limit, v_in_first, v_in_size, v_in_places), (v_out_limit, v_out_first, v_out_size, v_out_places), (v_modem_control, v_modem_changes, v_modem_given), (v_log_size, v_log_latest)), p_1 => Option.bind (f_R_append (v_out_limit, v_out_first, v_out_size, v_out_places) p_1) (fun q_10 => match q_10 with | (v_out_limit_10, v_out_first_10, v_out_size_10, v_out_places_10) => Option.bind (f_P_moveIfPossible (v_queued, v_level, v_enabled, v_format, v_spare, v_low, v_high, v_overrun, 0, v_quiet, v_shifting, v_ticksToGo, (v_in_limit, v_in_first, v_in_size, v_in_places), (v_out_limit_10, v_out_first_10, v_out_size_10, v_out_places_10), (v_modem_control, v_modem_changes, v_modem_given), (v_log_size, v_log_latest))) (fun q_14 => match q_14 with | (v_queued_14, v_level_14, v_enabled_14, v_format_14, v_spare_14, v_low_14, v_high_14, v_overrun_14, v_vacated_14, v_quiet_14, v_shifting_14, v_ticksToGo_14, (v_in_limit_14, v_in_first_14, v_in_size_14, v_in_places_14), (v_out_limit_14, v_out_first_14, v_out_size_14, v_out_places_14), (v_modem_control_14, v_modem_changes_14, v_modem_given_14), (v_log_size_14, v_log_latest_14)) => some (v_queued_14, v_level_14, v_enabled_14, v_format_14, v_spare_14, v_low_14, v_high_14, v_overrun_14, v_vacated_14, v_quiet_14, v_shifting_14, v_ticksToGo_14, (v_in_limit_14, v_in_first_14, v_in_size_14, v_in_places_14), (v_out_limit_14, v_out_first_14, v_out_size_14, v_out_places_14), (v_modem_control_14, v_modem_changes_14, v_modem_given_14), (v_log_size_14, v_log_latest_14))))
set_option maxHeartbeats 8000000 in
set_option maxRecDepth 100000 in
theorem c_P_storeData (l : Launch) (dC : Nat → ClassId) (dI : Nat → Nat → Nat) (cA : ClassId) (t : Nat) (a0 a_in a_in_places a_out a_out_places a_modem a_log a_log_latest : Nat) (sz : Nat) (u : PtT) (p_1 : Int32) (q : PtT) (hf : f_P_storeData u p_1 = some q) : Met l y_P_storeData (Cond.code y_P_storeData b_P_storeData 2 none :: W0) ({ frames := 2, cells := 0, slots := 0, locals := 41 }) (va_Pc [.ref a0, .int p_1] (pc_ (dC, dI) [(cA, .int)] t sz (cw_P cA a0 a_in a_in_places a_out a_out_places a_modem a_log a_log_latest u))) (qv_ (dC, dI) (cw_P cA a0 a_in a_in_places a_out a_out_places a_modem a_log a_log_latest) q (va_A (cw_P cA a0 a_in a_in_places a_out a_out_places a_modem a_log a_log_latest u) sz)) 0 0 (va_A (cw_P cA a0 a_in a_in_places a_out a_out_places a_modem a_log a_log_latest u) sz) := by
  refine start_ l (qv_ (dC, dI) (cw_P cA a0 a_in a_in_places a_out a_out_places a_modem a_log a_log_latest) q) (by decide) (Nat.le_of_ble_eq_true rfl) ?_
  intro p e s m below meth c hx hb hml hr hown ht hlocks hnm A hA hS hP hK hD hZ ls hl
  have hown : s.vm.findClass cls_P = some m.cls := hown
  refine wabs_ (fun WW wi wo => ?_)
  obtain ⟨v_queued, v_level, v_enabled, v_format, v_spare, v_low, v_high, v_overrun, v_vacated, v_quiet, v_shifting, v_ticksToGo, ⟨v_in_limit, v_in_first, v_in_size, v_in_places⟩, ⟨v_out_limit, v_out_first, v_out_size, v_out_places⟩, ⟨v_modem_control, v_modem_changes, v_modem_given⟩, ⟨v_log_size, v_log_latest⟩⟩ := u
  unfold f_P_storeData at hf
  try dsimp only at hf
  have hP : va_P (dC, dI) cls [(a0, .inr (2, [.ref a_in, .ref a_out, .ref a_modem, .ref a_log, .int v_queued, .int v_level, .int v_enabled, .int v_format, .int v_spare, .int v_low, .int v_high, .int v_overrun, .int v_vacated, .int v_quiet, .int v_shifting, .int v_ticksToGo])), (a_in, .inr (3, [.ref a_in_places, .int v_in_limit, .int v_in_first, .int v_in_size])), (a_in_places, .inl (cA, 32, .inl v_in_places)), (a_out, .inr (3, [.ref a_out_places, .int v_out_limit, .int v_out_first, .int v_out_size])), (a_out_places, .inl (cA, 32, .inl v_out_places)), (a_modem, .inr (1, [.int v_modem_control, .int v_modem_changes, .int v_modem_given])), (a_log, .inr (4, [.ref a_log_latest, .int v_log_size])), (a_log_latest, .inl (cA, 32, .inl v_log_latest))] _ := hP
  have hD : va_D A [(a0, .inr (2, [.ref a_in, .ref a_out, .ref a_modem, .ref a_log, .int v_queued, .int v_level, .int v_enabled, .int v_format, .int v_spare, .int v_low, .int v_high, .int v_overrun, .int v_vacated, .int v_quiet, .int v_shifting, .int v_ticksToGo])), (a_in, .inr (3, [.ref a_in_places, .int v_in_limit, .int v_in_first, .int v_in_size])), (a_in_places, .inl (cA, 32, .inl v_in_places)), (a_out, .inr (3, [.ref a_out_places, .int v_out_limit, .int v_out_first, .int v_out_size])), (a_out_places, .inl (cA, 32, .inl v_out_places)), (a_modem, .inr (1, [.int v_modem_control, .int v_modem_changes, .int v_modem_given])), (a_log, .inr (4, [.ref a_log_latest, .int v_log_size])), (a_log_latest, .inl (cA, 32, .inl v_log_latest))] := hD
  refine wi _ _ _ ?_
  have hl : lv_has ls 2 [(0, .ref a0), (1, .int p_1)] := hl
  refine lv_aload_n hx hb d_P_storeData_0 rfl (lv_at hl 0 rfl) ?_
  refine lv_iconst (v := 0) hx hb d_P_storeData_1 (by decide) ?_
  refine va_put (D := (dC, dI)) (ci := 2) (v := .int 0) (ty := .boolean) (C := cls_P) (T := fld_P) (N := 16) hx hb ht iin_P typ_P tok_P nam_P hown hK hP hD hS 0 rfl rfl 12 (by decide) (ht _ k_P_105) (fun _ h9 => h9) rfl (tok_P 12 (by decide)) rfl rfl (Nat.le_of_ble_eq_true rfl) d_P_storeData_2 (fun H locs hP hD hS => ?_)
  have hP : va_P (dC, dI) cls [(a0, .inr (2, [.ref a_in, .ref a_out, .ref a_modem, .ref a_log, .int v_queued, .int v_level, .int v_enabled, .int v_format, .int v_spare, .int v_low, .int v_high, .int v_overrun, .int 0, .int v_quiet, .int v_shifting, .int v_ticksToGo])), (a_in, .inr (3, [.ref a_in_places, .int v_in_limit, .int v_in_first, .int v_in_size])), (a_in_places, .inl (cA, 32, .inl v_in_places)), (a_out, .inr (3, [.ref a_out_places, .int v_out_limit, .int v_out_first, .int v_out_size])), (a_out_places, .inl (cA, 32, .inl v_out_places)), (a_modem, .inr (1, [.int v_modem_control, .int v_modem_changes, .int v_modem_given])), (a_log, .inr (4, [.ref a_log_latest, .int v_log_size])), (a_log_latest, .inl (cA, 32, .inl v_log_latest))] _ := hP
  have hD : va_D A [(a0, .inr (2, [.ref a_in, .ref a_out, .ref a_modem, .ref a_log, .int v_queued, .int v_level, .int v_enabled, .int v_format, .int v_spare, .int v_low, .int v_high, .int v_overrun, .int 0, .int v_quiet, .int v_shifting, .int v_ticksToGo])), (a_in, .inr (3, [.ref a_in_places, .int v_in_limit, .int v_in_first, .int v_in_size])), (a_in_places, .inl (cA, 32, .inl v_in_places)), (a_out, .inr (3, [.ref a_out_places, .int v_out_limit, .int v_out_first, .int v_out_size])), (a_out_places, .inl (cA, 32, .inl v_out_places)), (a_modem, .inr (1, [.int v_modem_control, .int v_modem_changes, .int v_modem_given])), (a_log, .inr (4, [.ref a_log_latest, .int v_log_size])), (a_log_latest, .inl (cA, 32, .inl v_log_latest))] := hD
  refine lv_aload_n hx hb d_P_storeData_5 rfl (lv_at hl 0 rfl) ?_
  refine va_get (D := (dC, dI)) (ci := 2) (v := .ref a_out) (C := cls_P) (T := fld_P) (N := 16) hx hb ht iin_P hown hK hP 0 rfl rfl 1 (by decide) (ht _ k_P_18) (fun _ h9 => h9) rfl d_P_storeData_6 ?_
  refine lv_iload_n hx hb d_P_storeData_9 rfl (lv_at hl 1 rfl) ?_
  obtain ⟨q_10, hc_10, hf⟩ := bind_e hf
  refine cVv_ (wc := cw_R cA a_out a_out_places (v_out_limit, v_out_first, v_out_size, v_out_places)) (wr := [(a0, .inr (2, [.ref a_in, .ref a_out, .ref a_modem, .ref a_log, .int v_queued, .int v_level, .int v_enabled, .int v_format, .int v_spare, .int v_low, .int v_high, .int v_overrun, .int 0, .int v_quiet, .int v_shifting, .int v_ticksToGo])), (a_in, .inr (3, [.ref a_in_places, .int v_in_limit, .int v_in_first, .int v_in_size])), (a_in_places, .inl (cA, 32, .inl v_in_places)), (a_modem, .inr (1, [.int v_modem_control, .int v_modem_changes, .int v_modem_given])), (a_log, .inr (4, [.ref a_log_latest, .int v_log_size])), (a_log_latest, .inl (cA, 32, .inl v_log_latest))]) (As := [.int p_1]) (rest := []) ⟨hx, hb, hml, hown, ht⟩ (c_R_append l dC dI cA t a_out a_out_places _ (v_out_limit, v_out_first, v_out_size, v_out_places) p_1 q_10 hc_10) (cwV 1 ht (gV_ k_P_127 ki_R_append ks_R_append kn_R kc_R_append) rfl rfl rfl ⟨rfl, hd_R_append⟩ ⟨Nat.le_of_ble_eq_true rfl, Nat.le_of_ble_eq_true rfl⟩) hK hZ hA hP hD hS [3, 4] [0, 1, 2, 5, 6, 7] rfl rfl (by decide) (by decide) (by decide) rfl rfl rfl rfl hl.1 (Nat.le_of_ble_eq_true rfl) d_P_storeData_10 ⟨Nat.le_of_ble_eq_true rfl, Nat.le_of_ble_eq_true rfl⟩ (fun u H locs hw hP hD hS => ?_)
  obtain ⟨v_out_limit_10, v_out_first_10, v_out_size_10, v_out_places_10⟩ := u
  subst hw
  have hP : va_P (dC, dI) cls [(a0, .inr (2, [.ref a_in, .ref a_out, .ref a_modem, .ref a_log, .int v_queued, .int v_level, .int v_enabled, .int v_format, .int v_spare, .int v_low, .int v_high, .int v_overrun, .int 0, .int v_quiet, .int v_shifting, .int v_ticksToGo])), (a_in, .inr (3, [.ref a_in_places, .int v_in_limit, .int v_in_first, .int v_in_size])), (a_in_places, .inl (cA, 32, .inl v_in_places)), (a_out, .inr (3, [.ref a_out_places, .int v_out_limit_10, .int v_out_first_10, .int v_out_size_10])), (a_out_places, .inl (cA, 32, .inl v_out_places_10)), (a_modem, .inr (1, [.int v_modem_control, .int v_modem_changes, .int v_modem_given])), (a_log, .inr (4, [.ref a_log_latest, .int v_log_size])), (a_log_latest, .inl (cA, 32, .inl v_log_latest))] _ := hP.sub [0, 1, 2, 6, 7, 3, 4, 5] rfl
  have hD : va_D A [(a0, .inr (2, [.ref a_in, .ref a_out, .ref a_modem, .ref a_log, .int v_queued, .int v_level, .int v_enabled, .int v_format, .int v_spare, .int v_low, .int v_high, .int v_overrun, .int 0, .int v_quiet, .int v_shifting, .int v_ticksToGo])), (a_in, .inr (3, [.ref a_in_places, .int v_in_limit, .int v_in_first, .int v_in_size])), (a_in_places, .inl (cA, 32, .inl v_in_places)), (a_out, .inr (3, [.ref a_out_places, .int v_out_limit_10, .int v_out_first_10, .int v_out_size_10])), (a_out_places, .inl (cA, 32, .inl v_out_places_10)), (a_modem, .inr (1, [.int v_modem_control, .int v_modem_changes, .int v_modem_given])), (a_log, .inr (4, [.ref a_log_latest, .int v_log_size])), (a_log_latest, .inl (cA, 32, .inl v_log_latest))] := hD.sub [0, 1, 2, 6, 7, 3, 4, 5] (by decide) rfl
  try dsimp only at hf
  refine lv_aload_n hx hb d_P_storeData_13 rfl (lv_at hl 0 rfl) ?_
  obtain ⟨q_14, hc_14, hf⟩ := bind_e hf
  refine cVv_ (wc := cw_P cA a0 a_in a_in_places a_out a_out_places a_modem a_log a_log_latest (v_queued, v_level, v_enabled, v_format, v_spare, v_low, v_high, v_overrun, 0, v_quiet, v_shifting, v_ticksToGo, (v_in_limit, v_in_first, v_in_size, v_in_places), (v_out_limit_10, v_out_first_10, v_out_size_10, v_out_places_10), (v_modem_control, v_modem_changes, v_modem_given), (v_log_size, v_log_latest))) (wr := []) (As := []) (rest := []) ⟨hx, hb, hml, hown, ht⟩ (c_P_moveIfPossible l dC dI cA t a0 a_in a_in_places a_out a_out_places a_modem a_log a_log_latest _ (v_queued, v_level, v_enabled, v_format, v_spare, v_low, v_high, v_overrun, 0, v_quiet, v_shifting, v_ticksToGo, (v_in_limit, v_in_first, v_in_size, v_in_places), (v_out_limit_10, v_out_first_10, v_out_size_10, v_out_places_10), (v_modem_control, v_modem_changes, v_modem_given), (v_log_size, v_log_latest))  q_14 hc_14) (cwV 0 ht (gV_ k_P_130 ki_P_moveIfPossible ks_P_moveIfPossible kn_P kc_P_moveIfPossible) rfl rfl rfl ⟨rfl, hd_P_moveIfPossible⟩ ⟨Nat.le_of_ble_eq_true rfl, Nat.le_of_ble_eq_true rfl⟩) hK hZ hA hP hD hS [0, 1, 2, 3, 4, 5, 6, 7] [] rfl rfl (by decide) (by decide) (by decide) rfl rfl rfl rfl hl.1 (Nat.le_of_ble_eq_true rfl) d_P_storeData_14 ⟨Nat.le_of_ble_eq_true rfl, Nat.le_of_ble_eq_true rfl⟩ (fun u H locs hw hP hD hS => ?_)
  obtain ⟨v_queued_14, v_level_14, v_enabled_14, v_format_14, v_spare_14, v_low_14, v_high_14, v_overrun_14, v_vacated_14, v_quiet_14, v_shifting_14, v_ticksToGo_14, ⟨v_in_limit_14, v_in_first_14, v_in_size_14, v_in_places_14⟩, ⟨v_out_limit_14, v_out_first_14, v_out_size_14, v_out_places_14⟩, ⟨v_modem_control_14, v_modem_changes_14, v_modem_given_14⟩, ⟨v_log_size_14, v_log_latest_14⟩⟩ := u
  subst hw
  have hP : va_P (dC, dI) cls [(a0, .inr (2, [.ref a_in, .ref a_out, .ref a_modem, .ref a_log, .int v_queued_14, .int v_level_14, .int v_enabled_14, .int v_format_14, .int v_spare_14, .int v_low_14, .int v_high_14, .int v_overrun_14, .int v_vacated_14, .int v_quiet_14, .int v_shifting_14, .int v_ticksToGo_14])), (a_in, .inr (3, [.ref a_in_places, .int v_in_limit_14, .int v_in_first_14, .int v_in_size_14])), (a_in_places, .inl (cA, 32, .inl v_in_places_14)), (a_out, .inr (3, [.ref a_out_places, .int v_out_limit_14, .int v_out_first_14, .int v_out_size_14])), (a_out_places, .inl (cA, 32, .inl v_out_places_14)), (a_modem, .inr (1, [.int v_modem_control_14, .int v_modem_changes_14, .int v_modem_given_14])), (a_log, .inr (4, [.ref a_log_latest, .int v_log_size_14])), (a_log_latest, .inl (cA, 32, .inl v_log_latest_14))] _ := hP.sub [0, 1, 2, 3, 4, 5, 6, 7] rfl
  have hD : va_D A [(a0, .inr (2, [.ref a_in, .ref a_out, .ref a_modem, .ref a_log, .int v_queued_14, .int v_level_14, .int v_enabled_14, .int v_format_14, .int v_spare_14, .int v_low_14, .int v_high_14, .int v_overrun_14, .int v_vacated_14, .int v_quiet_14, .int v_shifting_14, .int v_ticksToGo_14])), (a_in, .inr (3, [.ref a_in_places, .int v_in_limit_14, .int v_in_first_14, .int v_in_size_14])), (a_in_places, .inl (cA, 32, .inl v_in_places_14)), (a_out, .inr (3, [.ref a_out_places, .int v_out_limit_14, .int v_out_first_14, .int v_out_size_14])), (a_out_places, .inl (cA, 32, .inl v_out_places_14)), (a_modem, .inr (1, [.int v_modem_control_14, .int v_modem_changes_14, .int v_modem_given_14])), (a_log, .inr (4, [.ref a_log_latest, .int v_log_size_14])), (a_log_latest, .inl (cA, 32, .inl v_log_latest_14))] := hD.sub [0, 1, 2, 3, 4, 5, 6, 7] (by decide) rfl
  try dsimp only at hf
  exact W.vret hx hb hr (fun t9 ht9 _ => rv_ (Option.some.inj hf) hP hD hS ht9) hS.2.2 d_P_storeData_17
def f_P_storeEnabled_48 : PtT → Option (PtT)
  | (v_queued, v_level, v_enabled, v_format, v_spare, v_low, v_high, v_overrun, v_vacated, v_quiet, v_shifting, v_ticksToGo, (v_in_limit, v_in_first, v_in_size, v_in_places), (v_out_limit, v_out_first, v_out_size, v_out_places), (v_modem_control, v_modem_changes, v_modem_given), (v_log_size, v_log_latest)) => some (v_queued, v_level, v_enabled, v_format, v_spare, v_low, v_high, v_overrun, v_vacated, v_quiet, v_shifting, v_ticksToGo, (v_in_limit, v_in_first, v_in_size, v_in_places), (v_out_limit, v_out_first, v_out_size, v_out_places), (v_modem_control, v_modem_changes, v_modem_given), (v_log_size, v_log_latest))
def f_P_storeEnabled_20 : PtT → Int32 → Int32 → Option (PtT)
  | (v_queued, v_level, v_enabled, v_format, v_spare, v_low, v_high, v_overrun, v_vacated, v_quiet, v_shifting, v_ticksToGo, (v_in_limit, v_in_first, v_in_size, v_in_places), (v_out_limit, v_out_first, v_out_size, v_out_places), (v_modem_control, v_modem_changes, v_modem_given), (v_log_size, v_log_latest)), x_1, s_1 => if s_1 = 0 then (f_P_storeEnabled_48 (v_queued, v_level, (x_1 &&& 15), v_format, v_spare, v_low, v_high, v_overrun, v_vacated, v_quiet, v_shifting, v_ticksToGo, (v_in_limit, v_in_first, v_in_size, v_in_places), (v_out_limit, v_out_first, v_out_size, v_out_places), (v_modem_control, v_modem_changes, v_modem_given), (v_log_size, v_log_latest))) else (if v_out_size = 0 then (f_P_storeEnabled_48 (v_queued, v_level, (x_1 &&& 15), v_format, v_spare, v_low, v_high, v_overrun, 1, v_quiet, v_shifting, v_ticksToGo, (v_in_limit, v_in_first, v_in_size, v_in_places), (v_out_limit, v_out_first, v_out_size, v_out_places), (v_modem_control, v_modem_changes, v_modem_given), (v_log_size, v_log_latest))) else (f_P_storeEnabled_48 (v_queued, v_level, (x_1 &&& 15), v_format, v_spare, v_low, v_high, v_overrun, v_vacated, v_quiet, v_shifting, v_ticksToGo, (v_in_limit, v_in_first, v_in_size, v_in_places), (v_out_limit, v_out_first, v_out_size, v_out_places), (v_modem_control, v_modem_changes, v_modem_given), (v_log_size, v_log_latest))))
def f_P_storeEnabled_19 : PtT → Int32 → Option (PtT)
  | (v_queued, v_level, v_enabled, v_format, v_spare, v_low, v_high, v_overrun, v_vacated, v_quiet, v_shifting, v_ticksToGo, (v_in_limit, v_in_first, v_in_size, v_in_places), (v_out_limit, v_out_first, v_out_size, v_out_places), (v_modem_control, v_modem_changes, v_modem_given), (v_log_size, v_log_latest)), x_1 => f_P_storeEnabled_20 (v_queued, v_level, v_enabled, v_format, v_spare, v_low, v_high, v_overrun, v_vacated, v_quiet, v_shifting, v_ticksToGo, (v_in_limit, v_in_first, v_in_size, v_in_places), (v_out_limit, v_out_first, v_out_size, v_out_places), (v_modem_control, v_modem_changes, v_modem_given), (v_log_size, v_log_latest)) x_1 0
def f_P_storeEnabled : PtT → Int32 → Option (PtT)
  | (v_queued, v_level, v_enabled, v_format, v_spare, v_low, v_high, v_overrun, v_vacated, v_quiet, v_shifting, v_ticksToGo, (v_in_limit, v_in_first, v_in_size, v_in_places), (v_out_limit, v_out_first, v_out_size, v_out_places), (v_modem_control, v_modem_changes, v_modem_given), (v_log_size, v_log_latest)), p_1 => if (v_enabled &&& 2) = 0 then (if (p_1 &&& 2) = 0 then (f_P_storeEnabled_19 (v_queued, v_level, v_enabled, v_format, v_spare, v_low, v_high, v_overrun, v_vacated, v_quiet, v_shifting, v_ticksToGo, (v_in_limit, v_in_first, v_in_size, v_in_places), (v_out_limit, v_out_first, v_out_size, v_out_places), (v_modem_control, v_modem_changes, v_modem_given), (v_log_size, v_log_latest)) p_1) else (f_P_storeEnabled_20 (v_queued, v_level, v_enabled, v_format, v_spare, v_low, v_high, v_overrun, v_vacated, v_quiet, v_shifting, v_ticksToGo, (v_in_limit, v_in_first, v_in_size, v_in_places), (v_out_limit, v_out_first, v_out_size, v_out_places), (v_modem_control, v_modem_changes, v_modem_given), (v_log_size, v_log_latest)) p_1 1)) else (f_P_storeEnabled_19 (v_queued, v_level, v_enabled, v_format, v_spare, v_low, v_high, v_overrun, v_vacated, v_quiet, v_shifting, v_ticksToGo, (v_in_limit, v_in_first, v_in_size, v_in_places), (v_out_limit, v_out_first, v_out_size, v_out_places), (v_modem_control, v_modem_changes, v_modem_given), (v_log_size, v_log_latest)) p_1)
set_option maxHeartbeats 8000000 in
set_option maxRecDepth 100000 in
theorem c_P_storeEnabled (l : Launch) (dC : Nat → ClassId) (dI : Nat → Nat → Nat) (cA : ClassId) (t : Nat) (a0 a_in a_in_places a_out a_out_places a_modem a_log a_log_latest : Nat) (sz : Nat) (u : PtT) (p_1 : Int32) (q : PtT) (hf : f_P_storeEnabled u p_1 = some q) : Met l y_P_storeEnabled (Cond.code y_P_storeEnabled b_P_storeEnabled 3 none :: W0) ({ frames := 0, cells := 0, slots := 0, locals := 0 }) (va_Pc [.ref a0, .int p_1] (pc_ (dC, dI) [(cA, .int)] t sz (cw_P cA a0 a_in a_in_places a_out a_out_places a_modem a_log a_log_latest u))) (qv_ (dC, dI) (cw_P cA a0 a_in a_in_places a_out a_out_places a_modem a_log a_log_latest) q (va_A (cw_P cA a0 a_in a_in_places a_out a_out_places a_modem a_log a_log_latest u) sz)) 0 0 (va_A (cw_P cA a0 a_in a_in_places a_out a_out_places a_modem a_log a_log_latest u) sz) := by
  refine start_ l (qv_ (dC, dI) (cw_P cA a0 a_in a_in_places a_out a_out_places a_modem a_log a_log_latest) q) (by decide) (Nat.le_of_ble_eq_true rfl) ?_
  intro p e s m below meth c hx hb hml hr hown ht hlocks hnm A hA hS hP hK hD hZ ls hl
  have hown : s.vm.findClass cls_P = some m.cls := hown
  refine wabs_ (fun WW wi wo => ?_)
  have k_48 : ∀ (u : PtT), f_P_storeEnabled_48 u = some q → ∀ (H : Heap) (locs : List Loc) (ls : Array Slot), va_P (dC, dI) cls (cw_P cA a0 a_in a_in_places a_out a_out_places a_modem a_log a_log_latest u) H → va_D A (cw_P cA a0 a_in a_in_places a_out a_out_places a_modem a_log a_log_latest u) → va_S A s.heap H locs → lv_has ls 3 [] → WW H locs (F0 m 48 ls []) := by
    intro u hf H locs ls hP hD hS hl
    obtain ⟨v_queued, v_level, v_enabled, v_format, v_spare, v_low, v_high, v_overrun, v_vacated, v_quiet, v_shifting, v_ticksToGo, ⟨v_in_limit, v_in_first, v_in_size, v_in_places⟩, ⟨v_out_limit, v_out_first, v_out_size, v_out_places⟩, ⟨v_modem_control, v_modem_changes, v_modem_given⟩, ⟨v_log_size, v_log_latest⟩⟩ := u
    unfold f_P_storeEnabled_48 at hf
    try dsimp only at hf
    have hP : va_P (dC, dI) cls [(a0, .inr (2, [.ref a_in, .ref a_out, .ref a_modem, .ref a_log, .int v_queued, .int v_level, .int v_enabled, .int v_format, .int v_spare, .int v_low, .int v_high, .int v_overrun, .int v_vacated, .int v_quiet, .int v_shifting, .int v_ticksToGo])), (a_in, .inr (3, [.ref a_in_places, .int v_in_limit, .int v_in_first, .int v_in_size])), (a_in_places, .inl (cA, 32, .inl v_in_places)), (a_out, .inr (3, [.ref a_out_places, .int v_out_limit, .int v_out_first, .int v_out_size])), (a_out_places, .inl (cA, 32, .inl v_out_places)), (a_modem, .inr (1, [.int v_modem_control, .int v_modem_changes, .int v_modem_given])), (a_log, .inr (4, [.ref a_log_latest, .int v_log_size])), (a_log_latest, .inl (cA, 32, .inl v_log_latest))] _ := hP
    have hD : va_D A [(a0, .inr (2, [.ref a_in, .ref a_out, .ref a_modem, .ref a_log, .int v_queued, .int v_level, .int v_enabled, .int v_format, .int v_spare, .int v_low, .int v_high, .int v_overrun, .int v_vacated, .int v_quiet, .int v_shifting, .int v_ticksToGo])), (a_in, .inr (3, [.ref a_in_places, .int v_in_limit, .int v_in_first, .int v_in_size])), (a_in_places, .inl (cA, 32, .inl v_in_places)), (a_out, .inr (3, [.ref a_out_places, .int v_out_limit, .int v_out_first, .int v_out_size])), (a_out_places, .inl (cA, 32, .inl v_out_places)), (a_modem, .inr (1, [.int v_modem_control, .int v_modem_changes, .int v_modem_given])), (a_log, .inr (4, [.ref a_log_latest, .int v_log_size])), (a_log_latest, .inl (cA, 32, .inl v_log_latest))] := hD
    refine wi _ _ _ ?_
    exact W.vret hx hb hr (fun t9 ht9 _ => rv_ (Option.some.inj hf) hP hD hS ht9) hS.2.2 d_P_storeEnabled_48
  have k_20 : ∀ (u : PtT) (x_1 s_1 : Int32), f_P_storeEnabled_20 u x_1 s_1 = some q → ∀ (H : Heap) (locs : List Loc) (ls : Array Slot), va_P (dC, dI) cls (cw_P cA a0 a_in a_in_places a_out a_out_places a_modem a_log a_log_latest u) H → va_D A (cw_P cA a0 a_in a_in_places a_out a_out_places a_modem a_log a_log_latest u) → va_S A s.heap H locs → lv_has ls 3 [(0, .ref a0), (1, .int x_1)] → WW H locs (F0 m 20 ls [.int s_1]) := by
    intro u x_1 s_1 hf H locs ls hP hD hS hl
    obtain ⟨v_queued, v_level, v_enabled, v_format, v_spare, v_low, v_high, v_overrun, v_vacated, v_quiet, v_shifting, v_ticksToGo, ⟨v_in_limit, v_in_first, v_in_size, v_in_places⟩, ⟨v_out_limit, v_out_first, v_out_size, v_out_places⟩, ⟨v_modem_control, v_modem_changes, v_modem_given⟩, ⟨v_log_size, v_log_latest⟩⟩ := u
    unfold f_P_storeEnabled_20 at hf
    try dsimp only at hf
    have hP : va_P (dC, dI) cls [(a0, .inr (2, [.ref a_in, .ref a_out, .ref a_modem, .ref a_log, .int v_queued, .int v_level, .int v_enabled, .int v_format, .int v_spare, .int v_low, .int v_high, .int v_overrun, .int v_vacated, .int v_quiet, .int v_shifting, .int v_ticksToGo])), (a_in, .inr (3, [.ref a_in_places, .int v_in_limit, .int v_in_first, .int v_in_size])), (a_in_places, .inl (cA, 32, .inl v_in_places)), (a_out, .inr (3, [.ref a_out_places, .int v_out_limit, .int v_out_first, .int v_out_size])), (a_out_places, .inl (cA, 32, .inl v_out_places)), (a_modem, .inr (1, [.int v_modem_control, .int v_modem_changes, .int v_modem_given])), (a_log, .inr (4, [.ref a_log_latest, .int v_log_size])), (a_log_latest, .inl (cA, 32, .inl v_log_latest))] _ := hP
    have hD : va_D A [(a0, .inr (2, [.ref a_in, .ref a_out, .ref a_modem, .ref a_log, .int v_queued, .int v_level, .int v_enabled, .int v_format, .int v_spare, .int v_low, .int v_high, .int v_overrun, .int v_vacated, .int v_quiet, .int v_shifting, .int v_ticksToGo])), (a_in, .inr (3, [.ref a_in_places, .int v_in_limit, .int v_in_first, .int v_in_size])), (a_in_places, .inl (cA, 32, .inl v_in_places)), (a_out, .inr (3, [.ref a_out_places, .int v_out_limit, .int v_out_first, .int v_out_size])), (a_out_places, .inl (cA, 32, .inl v_out_places)), (a_modem, .inr (1, [.int v_modem_control, .int v_modem_changes, .int v_modem_given])), (a_log, .inr (4, [.ref a_log_latest, .int v_log_size])), (a_log_latest, .inl (cA, 32, .inl v_log_latest))] := hD
    refine wi _ _ _ ?_
    refine lv_istore_n (lv' := [(2, .int s_1), (0, .ref a0), (1, .int x_1)]) hx hb d_P_storeEnabled_20 rfl hl (by decide) rfl (fun ls hl => ?_)
    refine lv_aload_n hx hb d_P_storeEnabled_21 rfl (lv_at hl 1 rfl) ?_
    refine lv_iload_n hx hb d_P_storeEnabled_22 rfl (lv_at hl 2 rfl) ?_
    refine lv_bipush (v := 15) hx hb d_P_storeEnabled_23 (by decide) ?_
    refine lv_iand hx hb d_P_storeEnabled_25 ?_
    refine va_put (D := (dC, dI)) (ci := 2) (v := .int (x_1 &&& 15)) (ty := .int) (C := cls_P) (T := fld_P) (N := 16) hx hb ht iin_P typ_P tok_P nam_P hown hK hP hD hS 0 rfl rfl 6 (by decide) (ht _ k_P_53) (fun _ h9 => h9) rfl (tok_P 6 (by decide)) rfl rfl (Nat.le_of_ble_eq_true rfl) d_P_storeEnabled_26 (fun H locs hP hD hS => ?_)
    have hP : va_P (dC, dI) cls [(a0, .inr (2, [.ref a_in, .ref a_out, .ref a_modem, .ref a_log, .int v_queued, .int v_level, .int (x_1 &&& 15), .int v_format, .int v_spare, .int v_low, .int v_high, .int v_overrun, .int v_vacated, .int v_quiet, .int v_shifting, .int v_ticksToGo])), (a_in, .inr (3, [.ref a_in_places, .int v_in_limit, .int v_in_first, .int v_in_size])), (a_in_places, .inl (cA, 32, .inl v_in_places)), (a_out, .inr (3, [.ref a_out_places, .int v_out_limit, .int v_out_first, .int v_out_size])), (a_out_places, .inl (cA, 32, .inl v_out_places)), (a_modem, .inr (1, [.int v_modem_control, .int v_modem_changes, .int v_modem_given])), (a_log, .inr (4, [.ref a_log_latest, .int v_log_size])), (a_log_latest, .inl (cA, 32, .inl v_log_latest))] _ := hP
    have hD : va_D A [(a0, .inr (2, [.ref a_in, .ref a_out, .ref a_modem, .ref a_log, .int v_queued, .int v_level, .int (x_1 &&& 15), .int v_format, .int v_spare, .int v_low, .int v_high, .int v_overrun, .int v_vacated, .int v_quiet, .int v_shifting, .int v_ticksToGo])), (a_in, .inr (3, [.ref a_in_places, .int v_in_limit, .int v_in_first, .int v_in_size])), (a_in_places, .inl (cA, 32, .inl v_in_places)), (a_out, .inr (3, [.ref a_out_places, .int v_out_limit, .int v_out_first, .int v_out_size])), (a_out_places, .inl (cA, 32, .inl v_out_places)), (a_modem, .inr (1, [.int v_modem_control, .int v_modem_changes, .int v_modem_given])), (a_log, .inr (4, [.ref a_log_latest, .int v_log_size])), (a_log_latest, .inl (cA, 32, .inl v_log_latest))] := hD
    refine lv_iload_n hx hb d_P_storeEnabled_29 rfl (lv_at hl 0 rfl) ?_
    refine lv_if_eq (tgt := 48) hx hb d_P_storeEnabled_30 (by decide) (fun c_30 => ?_) (fun c_30 => ?_)
    · have hf := ite_t hf c_30
      exact wo _ _ _ (k_48 (v_queued, v_level, (x_1 &&& 15), v_format, v_spare, v_low, v_high, v_overrun, v_vacated, v_quiet, v_shifting, v_ticksToGo, (v_in_limit, v_in_first, v_in_size, v_in_places), (v_out_limit, v_out_first, v_out_size, v_out_places), (v_modem_control, v_modem_changes, v_modem_given), (v_log_size, v_log_latest)) hf _ _ _ hP hD hS (lv_sub hl [] rfl))
    · have hf := ite_f hf c_30
      refine lv_aload_n hx hb d_P_storeEnabled_33 rfl (lv_at hl 1 rfl) ?_
      refine va_get (D := (dC, dI)) (ci := 2) (v := .ref a_out) (C := cls_P) (T := fld_P) (N := 16) hx hb ht iin_P hown hK hP 0 rfl rfl 1 (by decide) (ht _ k_P_18) (fun _ h9 => h9) rfl d_P_storeEnabled_34 ?_
      refine va_get (D := (dC, dI)) (ci := 3) (v := .int v_out_size) (C := cls_R) (T := fld_R) (N := 4) hx hb ht iin_R hown hK hP 3 rfl rfl 3 (by decide) (ht _ k_P_93) (fun _ h9 => h9) rfl d_P_storeEnabled_37 ?_
      refine lv_if_ne (tgt := 48) hx hb d_P_storeEnabled_40 (by decide) (fun c_40 => ?_) (fun c_40 => ?_)
      · have hf := ite_f hf c_40
        exact wo _ _ _ (k_48 (v_queued, v_level, (x_1 &&& 15), v_format, v_spare, v_low, v_high, v_overrun, v_vacated, v_quiet, v_shifting, v_ticksToGo, (v_in_limit, v_in_first, v_in_size, v_in_places), (v_out_limit, v_out_first, v_out_size, v_out_places), (v_modem_control, v_modem_changes, v_modem_given), (v_log_size, v_log_latest)) hf _ _ _ hP hD hS (lv_sub hl [] rfl))
      · have hf := ite_t hf c_40
        refine lv_aload_n hx hb d_P_storeEnabled_43 rfl (lv_at hl 1 rfl) ?_
        refine lv_iconst (v := 1) hx hb d_P_storeEnabled_44 (by decide) ?_
        refine va_put (D := (dC, dI)) (ci := 2) (v := .int 1) (ty := .boolean) (C := cls_P) (T := fld_P) (N := 16) hx hb ht iin_P typ_P tok_P nam_P hown hK hP hD hS 0 rfl rfl 12 (by decide) (ht _ k_P_105) (fun _ h9 => h9) rfl (tok_P 12 (by decide)) rfl rfl (Nat.le_of_ble_eq_true rfl) d_P_storeEnabled_45 (fun H locs hP hD hS => ?_)
        have hP : va_P (dC, dI) cls [(a0, .inr (2, [.ref a_in, .ref a_out, .ref a_modem, .ref a_log, .int v_queued, .int v_level, .int (x_1 &&& 15), .int v_format, .int v_spare, .int v_low, .int v_high, .int v_overrun, .int 1, .int v_quiet, .int v_shifting, .int v_ticksToGo])), (a_in, .inr (3, [.ref a_in_places, .int v_in_limit, .int v_in_first, .int v_in_size])), (a_in_places, .inl (cA, 32, .inl v_in_places)), (a_out, .inr (3, [.ref a_out_places, .int v_out_limit, .int v_out_first, .int v_out_size])), (a_out_places, .inl (cA, 32, .inl v_out_places)), (a_modem, .inr (1, [.int v_modem_control, .int v_modem_changes, .int v_modem_given])), (a_log, .inr (4, [.ref a_log_latest, .int v_log_size])), (a_log_latest, .inl (cA, 32, .inl v_log_latest))] _ := hP
        have hD : va_D A [(a0, .inr (2, [.ref a_in, .ref a_out, .ref a_modem, .ref a_log, .int v_queued, .int v_level, .int (x_1 &&& 15), .int v_format, .int v_spare, .int v_low, .int v_high, .int v_overrun, .int 1, .int v_quiet, .int v_shifting, .int v_ticksToGo])), (a_in, .inr (3, [.ref a_in_places, .int v_in_limit, .int v_in_first, .int v_in_size])), (a_in_places, .inl (cA, 32, .inl v_in_places)), (a_out, .inr (3, [.ref a_out_places, .int v_out_limit, .int v_out_first, .int v_out_size])), (a_out_places, .inl (cA, 32, .inl v_out_places)), (a_modem, .inr (1, [.int v_modem_control, .int v_modem_changes, .int v_modem_given])), (a_log, .inr (4, [.ref a_log_latest, .int v_log_size])), (a_log_latest, .inl (cA, 32, .inl v_log_latest))] := hD
        exact wo _ _ _ (k_48 (v_queued, v_level, (x_1 &&& 15), v_format, v_spare, v_low, v_high, v_overrun, 1, v_quiet, v_shifting, v_ticksToGo, (v_in_limit, v_in_first, v_in_size, v_in_places), (v_out_limit, v_out_first, v_out_size, v_out_places), (v_modem_control, v_modem_changes, v_modem_given), (v_log_size, v_log_latest)) hf _ _ _ hP hD hS (lv_sub hl [] rfl))
  have k_19 : ∀ (u : PtT) (x_1 : Int32), f_P_storeEnabled_19 u x_1 = some q → ∀ (H : Heap) (locs : List Loc) (ls : Array Slot), va_P (dC, dI) cls (cw_P cA a0 a_in a_in_places a_out a_out_places a_modem a_log a_log_latest u) H → va_D A (cw_P cA a0 a_in a_in_places a_out a_out_places a_modem a_log a_log_latest u) → va_S A s.heap H locs → lv_has ls 3 [(0, .ref a0), (1, .int x_1)] → WW H locs (F0 m 19 ls []) := by
    intro u x_1 hf H locs ls hP hD hS hl
    obtain ⟨v_queued, v_level, v_enabled, v_format, v_spare, v_low, v_high, v_overrun, v_vacated, v_quiet, v_shifting, v_ticksToGo, ⟨v_in_limit, v_in_first, v_in_size, v_in_places⟩, ⟨v_out_limit, v_out_first, v_out_size, v_out_places⟩, ⟨v_modem_control, v_modem_changes, v_modem_given⟩, ⟨v_log_size, v_log_latest⟩⟩ := u
    unfold f_P_storeEnabled_19 at hf
    try dsimp only at hf
    have hP : va_P (dC, dI) cls [(a0, .inr (2, [.ref a_in, .ref a_out, .ref a_modem, .ref a_log, .int v_queued, .int v_level, .int v_enabled, .int v_format, .int v_spare, .int v_low, .int v_high, .int v_overrun, .int v_vacated, .int v_quiet, .int v_shifting, .int v_ticksToGo])), (a_in, .inr (3, [.ref a_in_places, .int v_in_limit, .int v_in_first, .int v_in_size])), (a_in_places, .inl (cA, 32, .inl v_in_places)), (a_out, .inr (3, [.ref a_out_places, .int v_out_limit, .int v_out_first, .int v_out_size])), (a_out_places, .inl (cA, 32, .inl v_out_places)), (a_modem, .inr (1, [.int v_modem_control, .int v_modem_changes, .int v_modem_given])), (a_log, .inr (4, [.ref a_log_latest, .int v_log_size])), (a_log_latest, .inl (cA, 32, .inl v_log_latest))] _ := hP
    have hD : va_D A [(a0, .inr (2, [.ref a_in, .ref a_out, .ref a_modem, .ref a_log, .int v_queued, .int v_level, .int v_enabled, .int v_format, .int v_spare, .int v_low, .int v_high, .int v_overrun, .int v_vacated, .int v_quiet, .int v_shifting, .int v_ticksToGo])), (a_in, .inr (3, [.ref a_in_places, .int v_in_limit, .int v_in_first, .int v_in_size])), (a_in_places, .inl (cA, 32, .inl v_in_places)), (a_out, .inr (3, [.ref a_out_places, .int v_out_limit, .int v_out_first, .int v_out_size])), (a_out_places, .inl (cA, 32, .inl v_out_places)), (a_modem, .inr (1, [.int v_modem_control, .int v_modem_changes, .int v_modem_given])), (a_log, .inr (4, [.ref a_log_latest, .int v_log_size])), (a_log_latest, .inl (cA, 32, .inl v_log_latest))] := hD
    refine wi _ _ _ ?_
    refine lv_iconst (v := 0) hx hb d_P_storeEnabled_19 (by decide) ?_
    exact wo _ _ _ (k_20 (v_queued, v_level, v_enabled, v_format, v_spare, v_low, v_high, v_overrun, v_vacated, v_quiet, v_shifting, v_ticksToGo, (v_in_limit, v_in_first, v_in_size, v_in_places), (v_out_limit, v_out_first, v_out_size, v_out_places), (v_modem_control, v_modem_changes, v_modem_given), (v_log_size, v_log_latest)) x_1 0 hf _ _ _ hP hD hS (lv_sub hl [0, 1] rfl))
  obtain ⟨v_queued, v_level, v_enabled, v_format, v_spare, v_low, v_high, v_overrun, v_vacated, v_quiet, v_shifting, v_ticksToGo, ⟨v_in_limit, v_in_first, v_in_size, v_in_places⟩, ⟨v_out_limit, v_out_first, v_out_size, v_out_places⟩, ⟨v_modem_control, v_modem_changes, v_modem_given⟩, ⟨v_log_size, v_log_latest⟩⟩ := u
  unfold f_P_storeEnabled at hf
  try dsimp only at hf
  have hP : va_P (dC, dI) cls [(a0, .inr (2, [.ref a_in, .ref a_out, .ref a_modem, .ref a_log, .int v_queued, .int v_level, .int v_enabled, .int v_format, .int v_spare, .int v_low, .int v_high, .int v_overrun, .int v_vacated, .int v_quiet, .int v_shifting, .int v_ticksToGo])), (a_in, .inr (3, [.ref a_in_places, .int v_in_limit, .int v_in_first, .int v_in_size])), (a_in_places, .inl (cA, 32, .inl v_in_places)), (a_out, .inr (3, [.ref a_out_places, .int v_out_limit, .int v_out_first, .int v_out_size])), (a_out_places, .inl (cA, 32, .inl v_out_places)), (a_modem, .inr (1, [.int v_modem_control, .int v_modem_changes, .int v_modem_given])), (a_log, .inr (4, [.ref a_log_latest, .int v_log_size])), (a_log_latest, .inl (cA, 32, .inl v_log_latest))] _ := hP
  have hD : va_D A [(a0, .inr (2, [.ref a_in, .ref a_out, .ref a_modem, .ref a_log, .int v_queued, .int v_level, .int v_enabled, .int v_format, .int v_spare, .int v_low, .int v_high, .int v_overrun, .int v_vacated, .int v_quiet, .int v_shifting, .int v_ticksToGo])), (a_in, .inr (3, [.ref a_in_places, .int v_in_limit, .int v_in_first, .int v_in_size])), (a_in_places, .inl (cA, 32, .inl v_in_places)), (a_out, .inr (3, [.ref a_out_places, .int v_out_limit, .int v_out_first, .int v_out_size])), (a_out_places, .inl (cA, 32, .inl v_out_places)), (a_modem, .inr (1, [.int v_modem_control, .int v_modem_changes, .int v_modem_given])), (a_log, .inr (4, [.ref a_log_latest, .int v_log_size])), (a_log_latest, .inl (cA, 32, .inl v_log_latest))] := hD
  refine wi _ _ _ ?_
  have hl : lv_has ls 3 [(0, .ref a0), (1, .int p_1)] := hl
  refine lv_aload_n hx hb d_P_storeEnabled_0 rfl (lv_at hl 0 rfl) ?_
  refine va_get (D := (dC, dI)) (ci := 2) (v := .int v_enabled) (C := cls_P) (T := fld_P) (N := 16) hx hb ht iin_P hown hK hP 0 rfl rfl 6 (by decide) (ht _ k_P_53) (fun _ h9 => h9) rfl d_P_storeEnabled_1 ?_
  refine lv_iconst (v := 2) hx hb d_P_storeEnabled_4 (by decide) ?_
  refine lv_iand hx hb d_P_storeEnabled_5 ?_
  refine lv_if_ne (tgt := 19) hx hb d_P_storeEnabled_6 (by decide) (fun c_6 => ?_) (fun c_6 => ?_)
  · have hf := ite_f hf c_6
    exact wo _ _ _ (k_19 (v_queued, v_level, v_enabled, v_format, v_spare, v_low, v_high, v_overrun, v_vacated, v_quiet, v_shifting, v_ticksToGo, (v_in_limit, v_in_first, v_in_size, v_in_places), (v_out_limit, v_out_first, v_out_size, v_out_places), (v_modem_control, v_modem_changes, v_modem_given), (v_log_size, v_log_latest)) p_1 hf _ _ _ hP hD hS (lv_sub hl [0, 1] rfl))
  · have hf := ite_t hf c_6
    refine lv_iload_n hx hb d_P_storeEnabled_9 rfl (lv_at hl 1 rfl) ?_
    refine lv_iconst (v := 2) hx hb d_P_storeEnabled_10 (by decide) ?_
    refine lv_iand hx hb d_P_storeEnabled_11 ?_
    refine lv_if_eq (tgt := 19) hx hb d_P_storeEnabled_12 (by decide) (fun c_12 => ?_) (fun c_12 => ?_)
    · have hf := ite_t hf c_12
      exact wo _ _ _ (k_19 (v_queued, v_level, v_enabled, v_format, v_spare, v_low, v_high, v_overrun, v_vacated, v_quiet, v_shifting, v_ticksToGo, (v_in_limit, v_in_first, v_in_size, v_in_places), (v_out_limit, v_out_first, v_out_size, v_out_places), (v_modem_control, v_modem_changes, v_modem_given), (v_log_size, v_log_latest)) p_1 hf _ _ _ hP hD hS (lv_sub hl [0, 1] rfl))
    · have hf := ite_f hf c_12
      refine lv_iconst (v := 1) hx hb d_P_storeEnabled_15 (by decide) ?_
      refine lv_goto (tgt := 20) hx hb d_P_storeEnabled_16 (by decide) ?_
      exact wo _ _ _ (k_20 (v_queued, v_level, v_enabled, v_format, v_spare, v_low, v_high, v_overrun, v_vacated, v_quiet, v_shifting, v_ticksToGo, (v_in_limit, v_in_first, v_in_size, v_in_places), (v_out_limit, v_out_first, v_out_size, v_out_places), (v_modem_control, v_modem_changes, v_modem_given), (v_log_size, v_log_latest)) p_1 1 hf _ _ _ hP hD hS (lv_sub hl [0, 1] rfl))
def f_P_storeQueueing_172 : PtT → Option (PtT)
  | (v_queued, v_level, v_enabled, v_format, v_spare, v_low, v_high, v_overrun, v_vacated, v_quiet, v_shifting, v_ticksToGo, (v_in_limit, v_in_first, v_in_size, v_in_places), (v_out_limit, v_out_first, v_out_size, v_out_places), (v_modem_control, v_modem_changes, v_modem_given), (v_log_size, v_log_latest)) => some (v_queued, v_level, v_enabled, v_format, v_spare, v_low, v_high, v_overrun, v_vacated, v_quiet, v_shifting, v_ticksToGo, (v_in_limit, v_in_first, v_in_size, v_in_places), (v_out_limit, v_out_first, v_out_size, v_out_places), (v_modem_control, v_modem_changes, v_modem_given), (v_log_size, v_log_latest))
def f_P_storeQueueing_153 : PtT → Int32 → Option (PtT)
  | (v_queued, v_level, v_enabled, v_format, v_spare, v_low, v_high, v_overrun, v_vacated, v_quiet, v_shifting, v_ticksToGo, (v_in_limit, v_in_first, v_in_size, v_in_places), (v_out_limit, v_out_first, v_out_size, v_out_places), (v_modem_control, v_modem_changes, v_modem_given), (v_log_size, v_log_latest)), x_2 => if x_2 = 0 then (f_P_storeQueueing_172 (v_queued, v_level, v_enabled, v_format, v_spare, v_low, v_high, v_overrun, v_vacated, v_quiet, v_shifting, v_ticksToGo, (v_in_limit, v_in_first, v_in_size, v_in_places), (v_out_limit, v_out_first, v_out_size, v_out_places), (v_modem_control, v_modem_changes, v_modem_given), (v_log_size, v_log_latest))) else (if v_out_size = 0 then (f_P_storeQueueing_172 (v_queued, v_level, v_enabled, v_format, v_spare, v_low, v_high, v_overrun, 1, v_quiet, v_shifting, v_ticksToGo, (v_in_limit, v_in_first, v_in_size, v_in_places), (v_out_limit, v_out_first, v_out_size, v_out_places), (v_modem_control, v_modem_changes, v_modem_given), (v_log_size, v_log_latest))) else (f_P_storeQueueing_172 (v_queued, v_level, v_enabled, v_format, v_spare, v_low, v_high, v_overrun, v_vacated, v_quiet, v_shifting, v_ticksToGo, (v_in_limit, v_in_first, v_in_size, v_in_places), (v_out_limit, v_out_first, v_out_size, v_out_places), (v_modem_control, v_modem_changes, v_modem_given), (v_log_size, v_log_latest))))
def f_P_storeQueueing_115 : PtT → Int32 → Int32 → Int32 → Option (PtT)
  | (v_queued, v_level, v_enabled, v_format, v_spare, v_low, v_high, v_overrun, v_vacated, v_quiet, v_shifting, v_ticksToGo, (v_in_limit, v_in_first, v_in_size, v_in_places), (v_out_limit, v_out_first, v_out_size, v_out_places), (v_modem_control, v_modem_changes, v_modem_given), (v_log_size, v_log_latest)), x_1, x_2, s_2 => if v_queued = 0 then (f_P_storeQueueing_153 (v_queued, v_level, v_enabled, v_format, v_spare, v_low, v_high, v_overrun, v_vacated, v_quiet, v_shifting, v_ticksToGo, (s_2, v_in_first, v_in_size, v_in_places), (s_2, v_out_first, v_out_size, v_out_places), (v_modem_control, v_modem_changes, v_modem_given), (v_log_size, v_log_latest)) x_2) else (gi_ ((x_1 >>> ((6 : Int32) &&& 31)) &&& 3) 4 (f_P_storeQueueing_153 (v_queued, (lvI ((x_1 >>> ((6 : Int32) &&& 31)) &&& 3).toNatClampNeg), v_enabled, v_format, v_spare, v_low, v_high, v_overrun, v_vacated, v_quiet, v_shifting, v_ticksToGo, (s_2, v_in_first, v_in_size, v_in_places), (s_2, v_out_first, v_out_size, v_out_places), (v_modem_control, v_modem_changes, v_modem_given), (v_log_size, v_log_latest)) x_2))
def f_P_storeQueueing_98 : PtT → Int32 → Int32 → Option (PtT)
  | (v_queued, v_level, v_enabled, v_format, v_spare, v_low, v_high, v_overrun, v_vacated, v_quiet, v_shifting, v_ticksToGo, (v_in_limit, v_in_first, v_in_size, v_in_places), (v_out_limit, v_out_first, v_out_size, v_out_places), (v_modem_control, v_modem_changes, v_modem_given), (v_log_size, v_log_latest)), x_1, x_2 => if v_queued = 0 then (f_P_storeQueueing_115 (v_queued, v_level, v_enabled, v_format, v_spare, v_low, v_high, v_overrun, v_vacated, v_quiet, v_shifting, v_ticksToGo, (v_in_limit, v_in_first, v_in_size, v_in_places), (v_out_limit, v_out_first, v_out_size, v_out_places), (v_modem_control, v_modem_changes, v_modem_given), (v_log_size, v_log_latest)) x_1 x_2 1) else (f_P_storeQueueing_115 (v_queued, v_level, v_enabled, v_format, v_spare, v_low, v_high, v_overrun, v_vacated, v_quiet, v_shifting, v_ticksToGo, (v_in_limit, v_in_first, v_in_size, v_in_places), (v_out_limit, v_out_first, v_out_size, v_out_places), (v_modem_control, v_modem_changes, v_modem_given), (v_log_size, v_log_latest)) x_1 x_2 16)
def f_P_storeQueueing_91 : PtT → Int32 → Int32 → Option (PtT)
  | (v_queued, v_level, v_enabled, v_format, v_spare, v_low, v_high, v_overrun, v_vacated, v_quiet, v_shifting, v_ticksToGo, (v_in_limit, v_in_first, v_in_size, v_in_places), (v_out_limit, v_out_first, v_out_size, v_out_places), (v_modem_control, v_modem_changes, v_modem_given), (v_log_size, v_log_latest)), x_1, x_2 => Option.bind (f_R_clear (v_out_limit, v_out_first, v_out_size, v_out_places)) (fun q_95 => match q_95 with | (v_out_limit_95, v_out_first_95, v_out_size_95, v_out_places_95) => f_P_storeQueueing_98 (v_queued, v_level, v_enabled, v_format, v_spare, v_low, v_high, v_overrun, v_vacated, v_quiet, v_shifting, v_ticksToGo, (v_in_limit, v_in_first, v_in_size, v_in_places), (v_out_limit_95, v_out_first_95, v_out_size_95, v_out_places_95), (v_modem_control, v_modem_changes, v_modem_given), (v_log_size, v_log_latest)) x_1 x_2)
def f_P_storeQueueing_73 : PtT → Int32 → Int32 → Int32 → Option (PtT)
  | (v_queued, v_level, v_enabled, v_format, v_spare, v_low, v_high, v_overrun, v_vacated, v_quiet, v_shifting, v_ticksToGo, (v_in_limit, v_in_first, v_in_size, v_in_places), (v_out_limit, v_out_first, v_out_size, v_out_places), (v_modem_control, v_modem_changes, v_modem_given), (v_log_size, v_log_latest)), x_1, x_2, x_4 => if x_4 = 0 then (if v_queued = 0 then (f_P_storeQueueing_98 (v_queued, v_level, v_enabled, v_format, v_spare, v_low, v_high, v_overrun, v_vacated, v_quiet, v_shifting, v_ticksToGo, (v_in_limit, v_in_first, v_in_size, v_in_places), (v_out_limit, v_out_first, v_out_size, v_out_places), (v_modem_control, v_modem_changes, v_modem_given), (v_log_size, v_log_latest)) x_1 x_2) else (if (x_1 &&& 4) = 0 then (f_P_storeQueueing_98 (v_queued, v_level, v_enabled, v_format, v_spare, v_low, v_high, v_overrun, v_vacated, v_quiet, v_shifting, v_ticksToGo, (v_in_limit, v_in_first, v_in_size, v_in_places), (v_out_limit, v_out_first, v_out_size, v_out_places), (v_modem_control, v_modem_changes, v_modem_given), (v_log_size, v_log_latest)) x_1 x_2) else (f_P_storeQueueing_91 (v_queued, v_level, v_enabled, v_format, v_spare, v_low, v_high, v_overrun, v_vacated, v_quiet, v_shifting, v_ticksToGo, (v_in_limit, v_in_first, v_in_size, v_in_places), (v_out_limit, v_out_first, v_out_size, v_out_places), (v_modem_control, v_modem_changes, v_modem_given), (v_log_size, v_log_latest)) x_1 x_2))) else (f_P_storeQueueing_91 (v_queued, v_level, v_enabled, v_format, v_spare, v_low, v_high, v_overrun, v_vacated, v_quiet, v_shifting, v_ticksToGo, (v_in_limit, v_in_first, v_in_size, v_in_places), (v_out_limit, v_out_first, v_out_size, v_out_places), (v_modem_control, v_modem_changes, v_modem_given), (v_log_size, v_log_latest)) x_1 x_2)
def f_P_storeQueueing_66 : PtT → Int32 → Int32 → Int32 → Option (PtT)
  | (v_queued, v_level, v_enabled, v_format, v_spare, v_low, v_high, v_overrun, v_vacated, v_quiet, v_shifting, v_ticksToGo, (v_in_limit, v_in_first, v_in_size, v_in_places), (v_out_limit, v_out_first, v_out_size, v_out_places), (v_modem_control, v_modem_changes, v_modem_given), (v_log_size, v_log_latest)), x_1, x_2, x_4 => Option.bind (f_R_clear (v_in_limit, v_in_first, v_in_size, v_in_places)) (fun q_70 => match q_70 with | (v_in_limit_70, v_in_first_70, v_in_size_70, v_in_places_70) => f_P_storeQueueing_73 (v_queued, v_level, v_enabled, v_format, v_spare, v_low, v_high, v_overrun, v_vacated, v_quiet, v_shifting, v_ticksToGo, (v_in_limit_70, v_in_first_70, v_in_size_70, v_in_places_70), (v_out_limit, v_out_first, v_out_size, v_out_places), (v_modem_control, v_modem_changes, v_modem_given), (v_log_size, v_log_latest)) x_1 x_2 x_4)
def f_P_storeQueueing_41 : PtT → Int32 → Int32 → Int32 → Int32 → Option (PtT)
  | (v_queued, v_level, v_enabled, v_format, v_spare, v_low, v_high, v_overrun, v_vacated, v_quiet, v_shifting, v_ticksToGo, (v_in_limit, v_in_first, v_in_size, v_in_places), (v_out_limit, v_out_first, v_out_size, v_out_places), (v_modem_control, v_modem_changes, v_modem_given), (v_log_size, v_log_latest)), x_1, x_2, x_3, s_1 => gb_ x_3 (if s_1 = 0 then (if x_3 = 0 then (f_P_storeQueueing_73 (x_3, v_level, v_enabled, v_format, v_spare, v_low, v_high, v_overrun, v_vacated, v_quiet, v_shifting, v_ticksToGo, (v_in_limit, v_in_first, v_in_size, v_in_places), (v_out_limit, v_out_first, v_out_size, v_out_places), (v_modem_control, v_modem_changes, v_modem_given), (v_log_size, v_log_latest)) x_1 x_2 s_1) else (if (x_1 &&& 2) = 0 then (f_P_storeQueueing_73 (x_3, v_level, v_enabled, v_format, v_spare, v_low, v_high, v_overrun, v_vacated, v_quiet, v_shifting, v_ticksToGo, (v_in_limit, v_in_first, v_in_size, v_in_places), (v_out_limit, v_out_first, v_out_size, v_out_places), (v_modem_control, v_modem_changes, v_modem_given), (v_log_size, v_log_latest)) x_1 x_2 s_1) else (f_P_storeQueueing_66 (x_3, v_level, v_enabled, v_format, v_spare, v_low, v_high, v_overrun, v_vacated, v_quiet, v_shifting, v_ticksToGo, (v_in_limit, v_in_first, v_in_size, v_in_places), (v_out_limit, v_out_first, v_out_size, v_out_places), (v_modem_control, v_modem_changes, v_modem_given), (v_log_size, v_log_latest)) x_1 x_2 s_1))) else (f_P_storeQueueing_66 (x_3, v_level, v_enabled, v_format, v_spare, v_low, v_high, v_overrun, v_vacated, v_quiet, v_shifting, v_ticksToGo, (v_in_limit, v_in_first, v_in_size, v_in_places), (v_out_limit, v_out_first, v_out_size, v_out_places), (v_modem_control, v_modem_changes, v_modem_given), (v_log_size, v_log_latest)) x_1 x_2 s_1))
def f_P_storeQueueing_27 : PtT → Int32 → Int32 → Int32 → Option (PtT)
  | (v_queued, v_level, v_enabled, v_format, v_spare, v_low, v_high, v_overrun, v_vacated, v_quiet, v_shifting, v_ticksToGo, (v_in_limit, v_in_first, v_in_size, v_in_places), (v_out_limit, v_out_first, v_out_size, v_out_places), (v_modem_control, v_modem_changes, v_modem_given), (v_log_size, v_log_latest)), x_1, x_2, s_1 => if s_1 = v_queued then (f_P_storeQueueing_41 (v_queued, v_level, v_enabled, v_format, v_spare, v_low, v_high, v_overrun, v_vacated, v_quiet, v_shifting, v_ticksToGo, (v_in_limit, v_in_first, v_in_size, v_in_places), (v_out_limit, v_out_first, v_out_size, v_out_places), (v_modem_control, v_modem_changes, v_modem_given), (v_log_size, v_log_latest)) x_1 x_2 s_1 0) else (f_P_storeQueueing_41 (v_queued, v_level, v_enabled, v_format, v_spare, v_low, v_high, v_overrun, v_vacated, v_quiet, v_shifting, v_ticksToGo, (v_in_limit, v_in_first, v_in_size, v_in_places), (v_out_limit, v_out_first, v_out_size, v_out_places), (v_modem_control, v_modem_changes, v_modem_given), (v_log_size, v_log_latest)) x_1 x_2 s_1 1)
def f_P_storeQueueing_15 : PtT → Int32 → Int32 → Option (PtT)
  | (v_queued, v_level, v_enabled, v_format, v_spare, v_low, v_high, v_overrun, v_vacated, v_quiet, v_shifting, v_ticksToGo, (v_in_limit, v_in_first, v_in_size, v_in_places), (v_out_limit, v_out_first, v_out_size, v_out_places), (v_modem_control, v_modem_changes, v_modem_given), (v_log_size, v_log_latest)), x_1, s_1 => if (x_1 &&& 1) = 0 then (f_P_storeQueueing_27 (v_queued, v_level, v_enabled, v_format, v_spare, v_low, v_high, v_overrun, v_vacated, v_quiet, v_shifting, v_ticksToGo, (v_in_limit, v_in_first, v_in_size, v_in_places), (v_out_limit, v_out_first, v_out_size, v_out_places), (v_modem_control, v_modem_changes, v_modem_given), (v_log_size, v_log_latest)) x_1 s_1 0) else (f_P_storeQueueing_27 (v_queued, v_level, v_enabled, v_format, v_spare, v_low, v_high, v_overrun, v_vacated, v_quiet, v_shifting, v_ticksToGo, (v_in_limit, v_in_first, v_in_size, v_in_places), (v_out_limit, v_out_first, v_out_size, v_out_places), (v_modem_control, v_modem_changes, v_modem_given), (v_log_size, v_log_latest)) x_1 s_1 1)
def f_P_storeQueueing : PtT → Int32 → Option (PtT)
  | (v_queued, v_level, v_enabled, v_format, v_spare, v_low, v_high, v_overrun, v_vacated, v_quiet, v_shifting, v_ticksToGo, (v_in_limit, v_in_first, v_in_size, v_in_places), (v_out_limit, v_out_first, v_out_size, v_out_places), (v_modem_control, v_modem_changes, v_modem_given), (v_log_size, v_log_latest)), p_1 => if v_out_size ≤ 0 then (f_P_storeQueueing_15 (v_queued, v_level, v_enabled, v_format, v_spare, v_low, v_high, v_overrun, v_vacated, v_quiet, v_shifting, v_ticksToGo, (v_in_limit, v_in_first, v_in_size, v_in_places), (v_out_limit, v_out_first, v_out_size, v_out_places), (v_modem_control, v_modem_changes, v_modem_given), (v_log_size, v_log_latest)) p_1 0) else (f_P_storeQueueing_15 (v_queued, v_level, v_enabled, v_format, v_spare, v_low, v_high, v_overrun, v_vacated, v_quiet, v_shifting, v_ticksToGo, (v_in_limit, v_in_first, v_in_size, v_in_places), (v_out_limit, v_out_first, v_out_size, v_out_places), (v_modem_control, v_modem_changes, v_modem_given), (v_log_size, v_log_latest)) p_1 1)
set_option maxHeartbeats 8000000 in
set_option maxRecDepth 100000 in
theorem c_P_storeQueueing (l : Launch) (dC : Nat → ClassId) (dI : Nat → Nat → Nat) (cA : ClassId) (t : Nat) (a0 a_in a_in_places a_out a_out_places a_modem a_log a_log_latest : Nat) (sz : Nat) (u : PtT) (p_1 : Int32) (q : PtT) (hf : f_P_storeQueueing u p_1 = some q) : Met l y_P_storeQueueing (Cond.code y_P_storeQueueing b_P_storeQueueing 5 none :: W0) ({ frames := 1, cells := 0, slots := 0, locals := 20 }) (va_Pc [.ref a0, .int p_1] (pc_ (dC, dI) [(cA, .int)] t sz (cw_P cA a0 a_in a_in_places a_out a_out_places a_modem a_log a_log_latest u))) (qv_ (dC, dI) (cw_P cA a0 a_in a_in_places a_out a_out_places a_modem a_log a_log_latest) q (va_A (cw_P cA a0 a_in a_in_places a_out a_out_places a_modem a_log a_log_latest u) sz)) 0 0 (va_A (cw_P cA a0 a_in a_in_places a_out a_out_places a_modem a_log a_log_latest u) sz) := by
  refine start_ l (qv_ (dC, dI) (cw_P cA a0 a_in a_in_places a_out a_out_places a_modem a_log a_log_latest) q) (by decide) (Nat.le_of_ble_eq_true rfl) ?_
  intro p e s m below meth c hx hb hml hr hown ht hlocks hnm A hA hS hP hK hD hZ ls hl
  have hown : s.vm.findClass cls_P = some m.cls := hown
  refine wabs_ (fun WW wi wo => ?_)
  have k_172 : ∀ (u : PtT), f_P_storeQueueing_172 u = some q → ∀ (H : Heap) (locs : List Loc) (ls : Array Slot), va_P (dC, dI) cls (cw_P cA a0 a_in a_in_places a_out a_out_places a_modem a_log a_log_latest u) H → va_D A (cw_P cA a0 a_in a_in_places a_out a_out_places a_modem a_log a_log_latest u) → va_S A s.heap H locs → lv_has ls 5 [] → WW H locs (F0 m 172 ls []) := by
    intro u hf H locs ls hP hD hS hl
    obtain ⟨v_queued, v_level, v_enabled, v_format, v_spare, v_low, v_high, v_overrun, v_vacated, v_quiet, v_shifting, v_ticksToGo, ⟨v_in_limit, v_in_first, v_in_size, v_in_places⟩, ⟨v_out_limit, v_out_first, v_out_size, v_out_places⟩, ⟨v_modem_control, v_modem_changes, v_modem_given⟩, ⟨v_log_size, v_log_latest⟩⟩ := u
    unfold f_P_storeQueueing_172 at hf
    try dsimp only at hf
    have hP : va_P (dC, dI) cls [(a0, .inr (2, [.ref a_in, .ref a_out, .ref a_modem, .ref a_log, .int v_queued, .int v_level, .int v_enabled, .int v_format, .int v_spare, .int v_low, .int v_high, .int v_overrun, .int v_vacated, .int v_quiet, .int v_shifting, .int v_ticksToGo])), (a_in, .inr (3, [.ref a_in_places, .int v_in_limit, .int v_in_first, .int v_in_size])), (a_in_places, .inl (cA, 32, .inl v_in_places)), (a_out, .inr (3, [.ref a_out_places, .int v_out_limit, .int v_out_first, .int v_out_size])), (a_out_places, .inl (cA, 32, .inl v_out_places)), (a_modem, .inr (1, [.int v_modem_control, .int v_modem_changes, .int v_modem_given])), (a_log, .inr (4, [.ref a_log_latest, .int v_log_size])), (a_log_latest, .inl (cA, 32, .inl v_log_latest))] _ := hP
    have hD : va_D A [(a0, .inr (2, [.ref a_in, .ref a_out, .ref a_modem, .ref a_log, .int v_queued, .int v_level, .int v_enabled, .int v_format, .int v_spare, .int v_low, .int v_high, .int v_overrun, .int v_vacated, .int v_quiet, .int v_shifting, .int v_ticksToGo])), (a_in, .inr (3, [.ref a_in_places, .int v_in_limit, .int v_in_first, .int v_in_size])), (a_in_places, .inl (cA, 32, .inl v_in_places)), (a_out, .inr (3, [.ref a_out_places, .int v_out_limit, .int v_out_first, .int v_out_size])), (a_out_places, .inl (cA, 32, .inl v_out_places)), (a_modem, .inr (1, [.int v_modem_control, .int v_modem_changes, .int v_modem_given])), (a_log, .inr (4, [.ref a_log_latest, .int v_log_size])), (a_log_latest, .inl (cA, 32, .inl v_log_latest))] := hD
    refine wi _ _ _ ?_
    exact W.vret hx hb hr (fun t9 ht9 _ => rv_ (Option.some.inj hf) hP hD hS ht9) hS.2.2 d_P_storeQueueing_172
  have k_153 : ∀ (u : PtT) (x_2 : Int32), f_P_storeQueueing_153 u x_2 = some q → ∀ (H : Heap) (locs : List Loc) (ls : Array Slot), va_P (dC, dI) cls (cw_P cA a0 a_in a_in_places a_out a_out_places a_modem a_log a_log_latest u) H → va_D A (cw_P cA a0 a_in a_in_places a_out a_out_places a_modem a_log a_log_latest u) → va_S A s.heap H locs → lv_has ls 5 [(0, .ref a0), (2, .int x_2)] → WW H locs (F0 m 153 ls []) := by
    intro u x_2 hf H locs ls hP hD hS hl
    obtain ⟨v_queued, v_level, v_enabled, v_format, v_spare, v_low, v_high, v_overrun, v_vacated, v_quiet, v_shifting, v_ticksToGo, ⟨v_in_limit, v_in_first, v_in_size, v_in_places⟩, ⟨v_out_limit, v_out_first, v_out_size, v_out_places⟩, ⟨v_modem_control, v_modem_changes, v_modem_given⟩, ⟨v_log_size, v_log_latest⟩⟩ := u
    unfold f_P_storeQueueing_153 at hf
    try dsimp only at hf
    have hP : va_P (dC, dI) cls [(a0, .inr (2, [.ref a_in, .ref a_out, .ref a_modem, .ref a_log, .int v_queued, .int v_level, .int v_enabled, .int v_format, .int v_spare, .int v_low, .int v_high, .int v_overrun, .int v_vacated, .int v_quiet, .int v_shifting, .int v_ticksToGo])), (a_in, .inr (3, [.ref a_in_places, .int v_in_limit, .int v_in_first, .int v_in_size])), (a_in_places, .inl (cA, 32, .inl v_in_places)), (a_out, .inr (3, [.ref a_out_places, .int v_out_limit, .int v_out_first, .int v_out_size])), (a_out_places, .inl (cA, 32, .inl v_out_places)), (a_modem, .inr (1, [.int v_modem_control, .int v_modem_changes, .int v_modem_given])), (a_log, .inr (4, [.ref a_log_latest, .int v_log_size])), (a_log_latest, .inl (cA, 32, .inl v_log_latest))] _ := hP
    have hD : va_D A [(a0, .inr (2, [.ref a_in, .ref a_out, .ref a_modem, .ref a_log, .int v_queued, .int v_level, .int v_enabled, .int v_format, .int v_spare, .int v_low, .int v_high, .int v_overrun, .int v_vacated, .int v_quiet, .int v_shifting, .int v_ticksToGo])), (a_in, .inr (3, [.ref a_in_places, .int v_in_limit, .int v_in_first, .int v_in_size])), (a_in_places, .inl (cA, 32, .inl v_in_places)), (a_out, .inr (3, [.ref a_out_places, .int v_out_limit, .int v_out_first, .int v_out_size])), (a_out_places, .inl (cA, 32, .inl v_out_places)), (a_modem, .inr (1, [.int v_modem_control, .int v_modem_changes, .int v_modem_given])), (a_log, .inr (4, [.ref a_log_latest, .int v_log_size])), (a_log_latest, .inl (cA, 32, .inl v_log_latest))] := hD
    refine wi _ _ _ ?_
    refine lv_iload_n hx hb d_P_storeQueueing_153 rfl (lv_at hl 1 rfl) ?_
    refine lv_if_eq (tgt := 172) hx hb d_P_storeQueueing_154 (by decide) (fun c_154 => ?_) (fun c_154 => ?_)
    · have hf := ite_t hf c_154
      exact wo _ _ _ (k_172 (v_queued, v_level, v_enabled, v_format, v_spare, v_low, v_high, v_overrun, v_vacated, v_quiet, v_shifting, v_ticksToGo, (v_in_limit, v_in_first, v_in_size, v_in_places), (v_out_limit, v_out_first, v_out_size, v_out_places), (v_modem_control, v_modem_changes, v_modem_given), (v_log_size, v_log_latest)) hf _ _ _ hP hD hS (lv_sub hl [] rfl))
    · have hf := ite_f hf c_154
      refine lv_aload_n hx hb d_P_storeQueueing_157 rfl (lv_at hl 0 rfl) ?_
      refine va_get (D := (dC, dI)) (ci := 2) (v := .ref a_out) (C := cls_P) (T := fld_P) (N := 16) hx hb ht iin_P hown hK hP 0 rfl rfl 1 (by decide) (ht _ k_P_18) (fun _ h9 => h9) rfl d_P_storeQueueing_158 ?_
      refine va_get (D := (dC, dI)) (ci := 3) (v := .int v_out_size) (C := cls_R) (T := fld_R) (N := 4) hx hb ht iin_R hown hK hP 3 rfl rfl 3 (by decide) (ht _ k_P_93) (fun _ h9 => h9) rfl d_P_storeQueueing_161 ?_
      refine lv_if_ne (tgt := 172) hx hb d_P_storeQueueing_164 (by decide) (fun c_164 => ?_) (fun c_164 => ?_)
      · have hf := ite_f hf c_164
        exact wo _ _ _ (k_172 (v_queued, v_level, v_enabled, v_format, v_spare, v_low, v_high, v_overrun, v_vacated, v_quiet, v_shifting, v_ticksToGo, (v_in_limit, v_in_first, v_in_size, v_in_places), (v_out_limit, v_out_first, v_out_size, v_out_places), (v_modem_control, v_modem_changes, v_modem_given), (v_log_size, v_log_latest)) hf _ _ _ hP hD hS (lv_sub hl [] rfl))
      · have hf := ite_t hf c_164
        refine lv_aload_n hx hb d_P_storeQueueing_167 rfl (lv_at hl 0 rfl) ?_
        refine lv_iconst (v := 1) hx hb d_P_storeQueueing_168 (by decide) ?_
        refine va_put (D := (dC, dI)) (ci := 2) (v := .int 1) (ty := .boolean) (C := cls_P) (T := fld_P) (N := 16) hx hb ht iin_P typ_P tok_P nam_P hown hK hP hD hS 0 rfl rfl 12 (by decide) (ht _ k_P_105) (fun _ h9 => h9) rfl (tok_P 12 (by decide)) rfl rfl (Nat.le_of_ble_eq_true rfl) d_P_storeQueueing_169 (fun H locs hP hD hS => ?_)
        have hP : va_P (dC, dI) cls [(a0, .inr (2, [.ref a_in, .ref a_out, .ref a_modem, .ref a_log, .int v_queued, .int v_level, .int v_enabled, .int v_format, .int v_spare, .int v_low, .int v_high, .int v_overrun, .int 1, .int v_quiet, .int v_shifting, .int v_ticksToGo])), (a_in, .inr (3, [.ref a_in_places, .int v_in_limit, .int v_in_first, .int v_in_size])), (a_in_places, .inl (cA, 32, .inl v_in_places)), (a_out, .inr (3, [.ref a_out_places, .int v_out_limit, .int v_out_first, .int v_out_size])), (a_out_places, .inl (cA, 32, .inl v_out_places)), (a_modem, .inr (1, [.int v_modem_control, .int v_modem_changes, .int v_modem_given])), (a_log, .inr (4, [.ref a_log_latest, .int v_log_size])), (a_log_latest, .inl (cA, 32, .inl v_log_latest))] _ := hP
        have hD : va_D A [(a0, .inr (2, [.ref a_in, .ref a_out, .ref a_modem, .ref a_log, .int v_queued, .int v_level, .int v_enabled, .int v_format, .int v_spare, .int v_low, .int v_high, .int v_overrun, .int 1, .int v_quiet, .int v_shifting, .int v_ticksToGo])), (a_in, .inr (3, [.ref a_in_places, .int v_in_limit, .int v_in_first, .int v_in_size])), (a_in_places, .inl (cA, 32, .inl v_in_places)), (a_out, .inr (3, [.ref a_out_places, .int v_out_limit, .int v_out_first, .int v_out_size])), (a_out_places, .inl (cA, 32, .inl v_out_places)), (a_modem, .inr (1, [.int v_modem_control, .int v_modem_changes, .int v_modem_given])), (a_log, .inr (4, [.ref a_log_latest, .int v_log_size])), (a_log_latest, .inl (cA, 32, .inl v_log_latest))] := hD
        exact wo _ _ _ (k_172 (v_queued, v_level, v_enabled, v_format, v_spare, v_low, v_high, v_overrun, 1, v_quiet, v_shifting, v_ticksToGo, (v_in_limit, v_in_first, v_in_size, v_in_places), (v_out_limit, v_out_first, v_out_size, v_out_places), (v_modem_control, v_modem_changes, v_modem_given), (v_log_size, v_log_latest)) hf _ _ _ hP hD hS (lv_sub hl [] rfl))
  have k_115 : ∀ (u : PtT) (x_1 x_2 s_2 : Int32), f_P_storeQueueing_115 u x_1 x_2 s_2 = some q → ∀ (H : Heap) (locs : List Loc) (ls : Array Slot), va_P (dC, dI) cls (cw_P cA a0 a_in a_in_places a_out a_out_places a_modem a_log a_log_latest u) H → va_D A (cw_P cA a0 a_in a_in_places a_out a_out_places a_modem a_log a_log_latest u) → va_S A s.heap H locs → lv_has ls 5 [(0, .ref a0), (1, .int x_1), (2, .int x_2)] → WW H locs (F0 m 115 ls [.int s_2, .ref a_in]) := by
    intro u x_1 x_2 s_2 hf H locs ls hP hD hS hl
    obtain ⟨v_queued, v_level, v_enabled, v_format, v_spare, v_low, v_high, v_overrun, v_vacated, v_quiet, v_shifting, v_ticksToGo, ⟨v_in_limit, v_in_first, v_in_size, v_in_places⟩, ⟨v_out_limit, v_out_first, v_out_size, v_out_places⟩, ⟨v_modem_control, v_modem_changes, v_modem_given⟩, ⟨v_log_size, v_log_latest⟩⟩ := u
    unfold f_P_storeQueueing_115 at hf
    try dsimp only at hf
    have hP : va_P (dC, dI) cls [(a0, .inr (2, [.ref a_in, .ref a_out, .ref a_modem, .ref a_log, .int v_queued, .int v_level, .int v_enabled, .int v_format, .int v_spare, .int v_low, .int v_high, .int v_overrun, .int v_vacated, .int v_quiet, .int v_shifting, .int v_ticksToGo])), (a_in, .inr (3, [.ref a_in_places, .int v_in_limit, .int v_in_first, .int v_in_size])), (a_in_places, .inl (cA, 32, .inl v_in_places)), (a_out, .inr (3, [.ref a_out_places, .int v_out_limit, .int v_out_first, .int v_out_size])), (a_out_places, .inl (cA, 32, .inl v_out_places)), (a_modem, .inr (1, [.int v_modem_control, .int v_modem_changes, .int v_modem_given])), (a_log, .inr (4, [.ref a_log_latest, .int v_log_size])), (a_log_latest, .inl (cA, 32, .inl v_log_latest))] _ := hP
    have hD : va_D A [(a0, .inr (2, [.ref a_in, .ref a_out, .ref a_modem, .ref a_log, .int v_queued, .int v_level, .int v_enabled, .int v_format, .int v_spare, .int v_low, .int v_high, .int v_overrun, .int v_vacated, .int v_quiet, .int v_shifting, .int v_ticksToGo])), (a_in, .inr (3, [.ref a_in_places, .int v_in_limit, .int v_in_first, .int v_in_size])), (a_in_places, .inl (cA, 32, .inl v_in_places)), (a_out, .inr (3, [.ref a_out_places, .int v_out_limit, .int v_out_first, .int v_out_size])), (a_out_places, .inl (cA, 32, .inl v_out_places)), (a_modem, .inr (1, [.int v_modem_control, .int v_modem_changes, .int v_modem_given])), (a_log, .inr (4, [.ref a_log_latest, .int v_log_size])), (a_log_latest, .inl (cA, 32, .inl v_log_latest))] := hD
    refine wi _ _ _ ?_
    refine va_put (D := (dC, dI)) (ci := 3) (v := .int s_2) (ty := .int) (C := cls_R) (T := fld_R) (N := 4) hx hb ht iin_R typ_R tok_R nam_R hown hK hP hD hS 1 rfl rfl 1 (by decide) (ht _ k_P_136) (fun _ h9 => h9) rfl (tok_R 1 (by decide)) rfl rfl (Nat.le_of_ble_eq_true rfl) d_P_storeQueueing_115 (fun H locs hP hD hS => ?_)
    have hP : va_P (dC, dI) cls [(a0, .inr (2, [.ref a_in, .ref a_out, .ref a_modem, .ref a_log, .int v_queued, .int v_level, .int v_enabled, .int v_format, .int v_spare, .int v_low, .int v_high, .int v_overrun, .int v_vacated, .int v_quiet, .int v_shifting, .int v_ticksToGo])), (a_in, .inr (3, [.ref a_in_places, .int s_2, .int v_in_first, .int v_in_size])), (a_in_places, .inl (cA, 32, .inl v_in_places)), (a_out, .inr (3, [.ref a_out_places, .int v_out_limit, .int v_out_first, .int v_out_size])), (a_out_places, .inl (cA, 32, .inl v_out_places)), (a_modem, .inr (1, [.int v_modem_control, .int v_modem_changes, .int v_modem_given])), (a_log, .inr (4, [.ref a_log_latest, .int v_log_size])), (a_log_latest, .inl (cA, 32, .inl v_log_latest))] _ := hP
    have hD : va_D A [(a0, .inr (2, [.ref a_in, .ref a_out, .ref a_modem, .ref a_log, .int v_queued, .int v_level, .int v_enabled, .int v_format, .int v_spare, .int v_low, .int v_high, .int v_overrun, .int v_vacated, .int v_quiet, .int v_shifting, .int v_ticksToGo])), (a_in, .inr (3, [.ref a_in_places, .int s_2, .int v_in_first, .int v_in_size])), (a_in_places, .inl (cA, 32, .inl v_in_places)), (a_out, .inr (3, [.ref a_out_places, .int v_out_limit, .int v_out_first, .int v_out_size])), (a_out_places, .inl (cA, 32, .inl v_out_places)), (a_modem, .inr (1, [.int v_modem_control, .int v_modem_changes, .int v_modem_given])), (a_log, .inr (4, [.ref a_log_latest, .int v_log_size])), (a_log_latest, .inl (cA, 32, .inl v_log_latest))] := hD
    refine lv_aload_n hx hb d_P_storeQueueing_118 rfl (lv_at hl 0 rfl) ?_
    refine va_get (D := (dC, dI)) (ci := 2) (v := .ref a_out) (C := cls_P) (T := fld_P) (N := 16) hx hb ht iin_P hown hK hP 0 rfl rfl 1 (by decide) (ht _ k_P_18) (fun _ h9 => h9) rfl d_P_storeQueueing_119 ?_
    refine lv_aload_n hx hb d_P_storeQueueing_122 rfl (lv_at hl 0 rfl) ?_
    refine va_get (D := (dC, dI)) (ci := 2) (v := .ref a_in) (C := cls_P) (T := fld_P) (N := 16) hx hb ht iin_P hown hK hP 0 rfl rfl 0 (by decide) (ht _ k_P_12) (fun _ h9 => h9) rfl d_P_storeQueueing_123 ?_
    refine va_get (D := (dC, dI)) (ci := 3) (v := .int s_2) (C := cls_R) (T := fld_R) (N := 4) hx hb ht iin_R hown hK hP 1 rfl rfl 1 (by decide) (ht _ k_P_136) (fun _ h9 => h9) rfl d_P_storeQueueing_126 ?_
    refine va_put (D := (dC, dI)) (ci := 3) (v := .int s_2) (ty := .int) (C := cls_R) (T := fld_R) (N := 4) hx hb ht iin_R typ_R tok_R nam_R hown hK hP hD hS 3 rfl rfl 1 (by decide) (ht _ k_P_136) (fun _ h9 => h9) rfl (tok_R 1 (by decide)) rfl rfl (Nat.le_of_ble_eq_true rfl) d_P_storeQueueing_129 (fun H locs hP hD hS => ?_)
    have hP : va_P (dC, dI) cls [(a0, .inr (2, [.ref a_in, .ref a_out, .ref a_modem, .ref a_log, .int v_queued, .int v_level, .int v_enabled, .int v_format, .int v_spare, .int v_low, .int v_high, .int v_overrun, .int v_vacated, .int v_quiet, .int v_shifting, .int v_ticksToGo])), (a_in, .inr (3, [.ref a_in_places, .int s_2, .int v_in_first, .int v_in_size])), (a_in_places, .inl (cA, 32, .inl v_in_places)), (a_out, .inr (3, [.ref a_out_places, .int s_2, .int v_out_first, .int v_out_size])), (a_out_places, .inl (cA, 32, .inl v_out_places)), (a_modem, .inr (1, [.int v_modem_control, .int v_modem_changes, .int v_modem_given])), (a_log, .inr (4, [.ref a_log_latest, .int v_log_size])), (a_log_latest, .inl (cA, 32, .inl v_log_latest))] _ := hP
    have hD : va_D A [(a0, .inr (2, [.ref a_in, .ref a_out, .ref a_modem, .ref a_log, .int v_queued, .int v_level, .int v_enabled, .int v_format, .int v_spare, .int v_low, .int v_high, .int v_overrun, .int v_vacated, .int v_quiet, .int v_shifting, .int v_ticksToGo])), (a_in, .inr (3, [.ref a_in_places, .int s_2, .int v_in_first, .int v_in_size])), (a_in_places, .inl (cA, 32, .inl v_in_places)), (a_out, .inr (3, [.ref a_out_places, .int s_2, .int v_out_first, .int v_out_size])), (a_out_places, .inl (cA, 32, .inl v_out_places)), (a_modem, .inr (1, [.int v_modem_control, .int v_modem_changes, .int v_modem_given])), (a_log, .inr (4, [.ref a_log_latest, .int v_log_size])), (a_log_latest, .inl (cA, 32, .inl v_log_latest))] := hD
    refine lv_aload_n hx hb d_P_storeQueueing_132 rfl (lv_at hl 0 rfl) ?_
    refine va_get (D := (dC, dI)) (ci := 2) (v := .int v_queued) (C := cls_P) (T := fld_P) (N := 16) hx hb ht iin_P hown hK hP 0 rfl rfl 4 (by decide) (ht _ k_P_96) (fun _ h9 => h9) rfl d_P_storeQueueing_133 ?_
    refine lv_if_eq (tgt := 153) hx hb d_P_storeQueueing_136 (by decide) (fun c_136 => ?_) (fun c_136 => ?_)
    · have hf := ite_t hf c_136
      exact wo _ _ _ (k_153 (v_queued, v_level, v_enabled, v_format, v_spare, v_low, v_high, v_overrun, v_vacated, v_quiet, v_shifting, v_ticksToGo, (s_2, v_in_first, v_in_size, v_in_places), (s_2, v_out_first, v_out_size, v_out_places), (v_modem_control, v_modem_changes, v_modem_given), (v_log_size, v_log_latest)) x_2 hf _ _ _ hP hD hS (lv_sub hl [0, 2] rfl))
    · have hf := ite_f hf c_136
      refine lv_aload_n hx hb d_P_storeQueueing_139 rfl (lv_at hl 0 rfl) ?_
      refine va_gets (C := "FlowedLine$Port") (n := "LEVELS") (d := "[I") hx hb hZ.1 hS hown (ht _ k_P_139) (fun _ h9 => h9) d_P_storeQueueing_140 ?_
      refine lv_iload_n hx hb d_P_storeQueueing_143 rfl (lv_at hl 1 rfl) ?_
      refine lv_bipush (v := 6) hx hb d_P_storeQueueing_144 (by decide) ?_
      refine lv_ishr hx hb d_P_storeQueueing_146 ?_
      refine lv_iconst (v := 3) hx hb d_P_storeQueueing_147 (by decide) ?_
      refine lv_iand hx hb d_P_storeQueueing_148 ?_
      obtain ⟨hi_149, hf⟩ := gi_e hf
      refine va_ti (v := .int (lvI ((x_1 >>> ((6 : Int32) &&& 31)) &&& 3).toNatClampNeg)) hx hb hZ.2 hS hi_149 rfl d_P_storeQueueing_149 ?_
      refine va_put (D := (dC, dI)) (ci := 2) (v := .int (lvI ((x_1 >>> ((6 : Int32) &&& 31)) &&& 3).toNatClampNeg)) (ty := .int) (C := cls_P) (T := fld_P) (N := 16) hx hb ht iin_P typ_P tok_P nam_P hown hK hP hD hS 0 rfl rfl 5 (by decide) (ht _ k_P_35) (fun _ h9 => h9) rfl (tok_P 5 (by decide)) rfl rfl (Nat.le_of_ble_eq_true rfl) d_P_storeQueueing_150 (fun H locs hP hD hS => ?_)
      have hP : va_P (dC, dI) cls [(a0, .inr (2, [.ref a_in, .ref a_out, .ref a_modem, .ref a_log, .int v_queued, .int (lvI ((x_1 >>> ((6 : Int32) &&& 31)) &&& 3).toNatClampNeg), .int v_enabled, .int v_format, .int v_spare, .int v_low, .int v_high, .int v_overrun, .int v_vacated, .int v_quiet, .int v_shifting, .int v_ticksToGo])), (a_in, .inr (3, [.ref a_in_places, .int s_2, .int v_in_first, .int v_in_size])), (a_in_places, .inl (cA, 32, .inl v_in_places)), (a_out, .inr (3, [.ref a_out_places, .int s_2, .int v_out_first, .int v_out_size])), (a_out_places, .inl (cA, 32, .inl v_out_places)), (a_modem, .inr (1, [.int v_modem_control, .int v_modem_changes, .int v_modem_given])), (a_log, .inr (4, [.ref a_log_latest, .int v_log_size])), (a_log_latest, .inl (cA, 32, .inl v_log_latest))] _ := hP
      have hD : va_D A [(a0, .inr (2, [.ref a_in, .ref a_out, .ref a_modem, .ref a_log, .int v_queued, .int (lvI ((x_1 >>> ((6 : Int32) &&& 31)) &&& 3).toNatClampNeg), .int v_enabled, .int v_format, .int v_spare, .int v_low, .int v_high, .int v_overrun, .int v_vacated, .int v_quiet, .int v_shifting, .int v_ticksToGo])), (a_in, .inr (3, [.ref a_in_places, .int s_2, .int v_in_first, .int v_in_size])), (a_in_places, .inl (cA, 32, .inl v_in_places)), (a_out, .inr (3, [.ref a_out_places, .int s_2, .int v_out_first, .int v_out_size])), (a_out_places, .inl (cA, 32, .inl v_out_places)), (a_modem, .inr (1, [.int v_modem_control, .int v_modem_changes, .int v_modem_given])), (a_log, .inr (4, [.ref a_log_latest, .int v_log_size])), (a_log_latest, .inl (cA, 32, .inl v_log_latest))] := hD
      exact wo _ _ _ (k_153 (v_queued, (lvI ((x_1 >>> ((6 : Int32) &&& 31)) &&& 3).toNatClampNeg), v_enabled, v_format, v_spare, v_low, v_high, v_overrun, v_vacated, v_quiet, v_shifting, v_ticksToGo, (s_2, v_in_first, v_in_size, v_in_places), (s_2, v_out_first, v_out_size, v_out_places), (v_modem_control, v_modem_changes, v_modem_given), (v_log_size, v_log_latest)) x_2 hf _ _ _ hP hD hS (lv_sub hl [0, 2] rfl))
  have k_98 : ∀ (u : PtT) (x_1 x_2 : Int32), f_P_storeQueueing_98 u x_1 x_2 = some q → ∀ (H : Heap) (locs : List Loc) (ls : Array Slot), va_P (dC, dI) cls (cw_P cA a0 a_in a_in_places a_out a_out_places a_modem a_log a_log_latest u) H → va_D A (cw_P cA a0 a_in a_in_places a_out a_out_places a_modem a_log a_log_latest u) → va_S A s.heap H locs → lv_has ls 5 [(0, .ref a0), (1, .int x_1), (2, .int x_2)] → WW H locs (F0 m 98 ls []) := by
    intro u x_1 x_2 hf H locs ls hP hD hS hl
    obtain ⟨v_queued, v_level, v_enabled, v_format, v_spare, v_low, v_high, v_overrun, v_vacated, v_quiet, v_shifting, v_ticksToGo, ⟨v_in_limit, v_in_first, v_in_size, v_in_places⟩, ⟨v_out_limit, v_out_first, v_out_size, v_out_places⟩, ⟨v_modem_control, v_modem_changes, v_modem_given⟩, ⟨v_log_size, v_log_latest⟩⟩ := u
    unfold f_P_storeQueueing_98 at hf
    try dsimp only at hf
    have hP : va_P (dC, dI) cls [(a0, .inr (2, [.ref a_in, .ref a_out, .ref a_modem, .ref a_log, .int v_queued, .int v_level, .int v_enabled, .int v_format, .int v_spare, .int v_low, .int v_high, .int v_overrun, .int v_vacated, .int v_quiet, .int v_shifting, .int v_ticksToGo])), (a_in, .inr (3, [.ref a_in_places, .int v_in_limit, .int v_in_first, .int v_in_size])), (a_in_places, .inl (cA, 32, .inl v_in_places)), (a_out, .inr (3, [.ref a_out_places, .int v_out_limit, .int v_out_first, .int v_out_size])), (a_out_places, .inl (cA, 32, .inl v_out_places)), (a_modem, .inr (1, [.int v_modem_control, .int v_modem_changes, .int v_modem_given])), (a_log, .inr (4, [.ref a_log_latest, .int v_log_size])), (a_log_latest, .inl (cA, 32, .inl v_log_latest))] _ := hP
    have hD : va_D A [(a0, .inr (2, [.ref a_in, .ref a_out, .ref a_modem, .ref a_log, .int v_queued, .int v_level, .int v_enabled, .int v_format, .int v_spare, .int v_low, .int v_high, .int v_overrun, .int v_vacated, .int v_quiet, .int v_shifting, .int v_ticksToGo])), (a_in, .inr (3, [.ref a_in_places, .int v_in_limit, .int v_in_first, .int v_in_size])), (a_in_places, .inl (cA, 32, .inl v_in_places)), (a_out, .inr (3, [.ref a_out_places, .int v_out_limit, .int v_out_first, .int v_out_size])), (a_out_places, .inl (cA, 32, .inl v_out_places)), (a_modem, .inr (1, [.int v_modem_control, .int v_modem_changes, .int v_modem_given])), (a_log, .inr (4, [.ref a_log_latest, .int v_log_size])), (a_log_latest, .inl (cA, 32, .inl v_log_latest))] := hD
    refine wi _ _ _ ?_
    refine lv_aload_n hx hb d_P_storeQueueing_98 rfl (lv_at hl 0 rfl) ?_
    refine va_get (D := (dC, dI)) (ci := 2) (v := .ref a_in) (C := cls_P) (T := fld_P) (N := 16) hx hb ht iin_P hown hK hP 0 rfl rfl 0 (by decide) (ht _ k_P_12) (fun _ h9 => h9) rfl d_P_storeQueueing_99 ?_
    refine lv_aload_n hx hb d_P_storeQueueing_102 rfl (lv_at hl 0 rfl) ?_
    refine va_get (D := (dC, dI)) (ci := 2) (v := .int v_queued) (C := cls_P) (T := fld_P) (N := 16) hx hb ht iin_P hown hK hP 0 rfl rfl 4 (by decide) (ht _ k_P_96) (fun _ h9 => h9) rfl d_P_storeQueueing_103 ?_
    refine lv_if_eq (tgt := 114) hx hb d_P_storeQueueing_106 (by decide) (fun c_106 => ?_) (fun c_106 => ?_)
    · have hf := ite_t hf c_106
      refine lv_iconst (v := 1) hx hb d_P_storeQueueing_114 (by decide) ?_
      exact wo _ _ _ (k_115 (v_queued, v_level, v_enabled, v_format, v_spare, v_low, v_high, v_overrun, v_vacated, v_quiet, v_shifting, v_ticksToGo, (v_in_limit, v_in_first, v_in_size, v_in_places), (v_out_limit, v_out_first, v_out_size, v_out_places), (v_modem_control, v_modem_changes, v_modem_given), (v_log_size, v_log_latest)) x_1 x_2 1 hf _ _ _ hP hD hS (lv_sub hl [0, 1, 2] rfl))
    · have hf := ite_f hf c_106
      refine lv_bipush (v := 16) hx hb d_P_storeQueueing_109 (by decide) ?_
      refine lv_goto (tgt := 115) hx hb d_P_storeQueueing_111 (by decide) ?_
      exact wo _ _ _ (k_115 (v_queued, v_level, v_enabled, v_format, v_spare, v_low, v_high, v_overrun, v_vacated, v_quiet, v_shifting, v_ticksToGo, (v_in_limit, v_in_first, v_in_size, v_in_places), (v_out_limit, v_out_first, v_out_size, v_out_places), (v_modem_control, v_modem_changes, v_modem_given), (v_log_size, v_log_latest)) x_1 x_2 16 hf _ _ _ hP hD hS (lv_sub hl [0, 1, 2] rfl))
  have k_91 : ∀ (u : PtT) (x_1 x_2 : Int32), f_P_storeQueueing_91 u x_1 x_2 = some q → ∀ (H : Heap) (locs : List Loc) (ls : Array Slot), va_P (dC, dI) cls (cw_P cA a0 a_in a_in_places a_out a_out_places a_modem a_log a_log_latest u) H → va_D A (cw_P cA a0 a_in a_in_places a_out a_out_places a_modem a_log a_log_latest u) → va_S A s.heap H locs → lv_has ls 5 [(0, .ref a0), (1, .int x_1), (2, .int x_2)] → WW H locs (F0 m 91 ls []) := by
    intro u x_1 x_2 hf H locs ls hP hD hS hl
    obtain ⟨v_queued, v_level, v_enabled, v_format, v_spare, v_low, v_high, v_overrun, v_vacated, v_quiet, v_shifting, v_ticksToGo, ⟨v_in_limit, v_in_first, v_in_size, v_in_places⟩, ⟨v_out_limit, v_out_first, v_out_size, v_out_places⟩, ⟨v_modem_control, v_modem_changes, v_modem_given⟩, ⟨v_log_size, v_log_latest⟩⟩ := u
    unfold f_P_storeQueueing_91 at hf
    try dsimp only at hf
    have hP : va_P (dC, dI) cls [(a0, .inr (2, [.ref a_in, .ref a_out, .ref a_modem, .ref a_log, .int v_queued, .int v_level, .int v_enabled, .int v_format, .int v_spare, .int v_low, .int v_high, .int v_overrun, .int v_vacated, .int v_quiet, .int v_shifting, .int v_ticksToGo])), (a_in, .inr (3, [.ref a_in_places, .int v_in_limit, .int v_in_first, .int v_in_size])), (a_in_places, .inl (cA, 32, .inl v_in_places)), (a_out, .inr (3, [.ref a_out_places, .int v_out_limit, .int v_out_first, .int v_out_size])), (a_out_places, .inl (cA, 32, .inl v_out_places)), (a_modem, .inr (1, [.int v_modem_control, .int v_modem_changes, .int v_modem_given])), (a_log, .inr (4, [.ref a_log_latest, .int v_log_size])), (a_log_latest, .inl (cA, 32, .inl v_log_latest))] _ := hP
    have hD : va_D A [(a0, .inr (2, [.ref a_in, .ref a_out, .ref a_modem, .ref a_log, .int v_queued, .int v_level, .int v_enabled, .int v_format, .int v_spare, .int v_low, .int v_high, .int v_overrun, .int v_vacated, .int v_quiet, .int v_shifting, .int v_ticksToGo])), (a_in, .inr (3, [.ref a_in_places, .int v_in_limit, .int v_in_first, .int v_in_size])), (a_in_places, .inl (cA, 32, .inl v_in_places)), (a_out, .inr (3, [.ref a_out_places, .int v_out_limit, .int v_out_first, .int v_out_size])), (a_out_places, .inl (cA, 32, .inl v_out_places)), (a_modem, .inr (1, [.int v_modem_control, .int v_modem_changes, .int v_modem_given])), (a_log, .inr (4, [.ref a_log_latest, .int v_log_size])), (a_log_latest, .inl (cA, 32, .inl v_log_latest))] := hD
    refine wi _ _ _ ?_
    refine lv_aload_n hx hb d_P_storeQueueing_91 rfl (lv_at hl 0 rfl) ?_
    refine va_get (D := (dC, dI)) (ci := 2) (v := .ref a_out) (C := cls_P) (T := fld_P) (N := 16) hx hb ht iin_P hown hK hP 0 rfl rfl 1 (by decide) (ht _ k_P_18) (fun _ h9 => h9) rfl d_P_storeQueueing_92 ?_
    obtain ⟨q_95, hc_95, hf⟩ := bind_e hf
    refine cVv_ (wc := cw_R cA a_out a_out_places (v_out_limit, v_out_first, v_out_size, v_out_places)) (wr := [(a0, .inr (2, [.ref a_in, .ref a_out, .ref a_modem, .ref a_log, .int v_queued, .int v_level, .int v_enabled, .int v_format, .int v_spare, .int v_low, .int v_high, .int v_overrun, .int v_vacated, .int v_quiet, .int v_shifting, .int v_ticksToGo])), (a_in, .inr (3, [.ref a_in_places, .int v_in_limit, .int v_in_first, .int v_in_size])), (a_in_places, .inl (cA, 32, .inl v_in_places)), (a_modem, .inr (1, [.int v_modem_control, .int v_modem_changes, .int v_modem_given])), (a_log, .inr (4, [.ref a_log_latest, .int v_log_size])), (a_log_latest, .inl (cA, 32, .inl v_log_latest))]) (As := []) (rest := []) ⟨hx, hb, hml, hown, ht⟩ (c_R_clear l dC dI cA t a_out a_out_places _ (v_out_limit, v_out_first, v_out_size, v_out_places)  q_95 hc_95) (cwV 0 ht (gV_ k_P_133 ki_R_clear ks_R_clear kn_R kc_R_clear) rfl rfl rfl ⟨rfl, hd_R_clear⟩ ⟨Nat.le_of_ble_eq_true rfl, Nat.le_of_ble_eq_true rfl⟩) hK hZ hA hP hD hS [3, 4] [0, 1, 2, 5, 6, 7] rfl rfl (by decide) (by decide) (by decide) rfl rfl rfl rfl hl.1 (Nat.le_of_ble_eq_true rfl) d_P_storeQueueing_95 ⟨Nat.le_of_ble_eq_true rfl, Nat.le_of_ble_eq_true rfl⟩ (fun u H locs hw hP hD hS => ?_)
    obtain ⟨v_out_limit_95, v_out_first_95, v_out_size_95, v_out_places_95⟩ := u
    subst hw
    have hP : va_P (dC, dI) cls [(a0, .inr (2, [.ref a_in, .ref a_out, .ref a_modem, .ref a_log, .int v_queued, .int v_level, .int v_enabled, .int v_format, .int v_spare, .int v_low, .int v_high, .int v_overrun, .int v_vacated, .int v_quiet, .int v_shifting, .int v_ticksToGo])), (a_in, .inr (3, [.ref a_in_places, .int v_in_limit, .int v_in_first, .int v_in_size])), (a_in_places, .inl (cA, 32, .inl v_in_places)), (a_out, .inr (3, [.ref a_out_places, .int v_out_limit_95, .int v_out_first_95, .int v_out_size_95])), (a_out_places, .inl (cA, 32, .inl v_out_places_95)), (a_modem, .inr (1, [.int v_modem_control, .int v_modem_changes, .int v_modem_given])), (a_log, .inr (4, [.ref a_log_latest, .int v_log_size])), (a_log_latest, .inl (cA, 32, .inl v_log_latest))] _ := hP.sub [0, 1, 2, 6, 7, 3, 4, 5] rfl
    have hD : va_D A [(a0, .inr (2, [.ref a_in, .ref a_out, .ref a_modem, .ref a_log, .int v_queued, .int v_level, .int v_enabled, .int v_format, .int v_spare, .int v_low, .int v_high, .int v_overrun, .int v_vacated, .int v_quiet, .int v_shifting, .int v_ticksToGo])), (a_in, .inr (3, [.ref a_in_places, .int v_in_limit, .int v_in_first, .int v_in_size])), (a_in_places, .inl (cA, 32, .inl v_in_places)), (a_out, .inr (3, [.ref a_out_places, .int v_out_limit_95, .int v_out_first_95, .int v_out_size_95])), (a_out_places, .inl (cA, 32, .inl v_out_places_95)), (a_modem, .inr (1, [.int v_modem_control, .int v_modem_changes, .int v_modem_given])), (a_log, .inr (4, [.ref a_log_latest, .int v_log_size])), (a_log_latest, .inl (cA, 32, .inl v_log_latest))] := hD.sub [0, 1, 2, 6, 7, 3, 4, 5] (by decide) rfl
    try dsimp only at hf
    exact wo _ _ _ (k_98 (v_queued, v_level, v_enabled, v_format, v_spare, v_low, v_high, v_overrun, v_vacated, v_quiet, v_shifting, v_ticksToGo, (v_in_limit, v_in_first, v_in_size, v_in_places), (v_out_limit_95, v_out_first_95, v_out_size_95, v_out_places_95), (v_modem_control, v_modem_changes, v_modem_given), (v_log_size, v_log_latest)) x_1 x_2 hf _ _ _ hP hD hS (lv_sub hl [0, 1, 2] rfl))
  have k_73 : ∀ (u : PtT) (x_1 x_2 x_4 : Int32), f_P_storeQueueing_73 u x_1 x_2 x_4 = some q → ∀ (H : Heap) (locs : List Loc) (ls : Array Slot), va_P (dC, dI) cls (cw_P cA a0 a_in a_in_places a_out a_out_places a_modem a_log a_log_latest u) H → va_D A (cw_P cA a0 a_in a_in_places a_out a_out_places a_modem a_log a_log_latest u) → va_S A s.heap H locs → lv_has ls 5 [(0, .ref a0), (1, .int x_1), (2, .int x_2), (4, .int x_4)] → WW H locs (F0 m 73 ls []) := by
    intro u x_1 x_2 x_4 hf H locs ls hP hD hS hl
    obtain ⟨v_queued, v_level, v_enabled, v_format, v_spare, v_low, v_high, v_overrun, v_vacated, v_quiet, v_shifting, v_ticksToGo, ⟨v_in_limit, v_in_first, v_in_size, v_in_places⟩, ⟨v_out_limit, v_out_first, v_out_size, v_out_places⟩, ⟨v_modem_control, v_modem_changes, v_modem_given⟩, ⟨v_log_size, v_log_latest⟩⟩ := u
    unfold f_P_storeQueueing_73 at hf
    try dsimp only at hf
    have hP : va_P (dC, dI) cls [(a0, .inr (2, [.ref a_in, .ref a_out, .ref a_modem, .ref a_log, .int v_queued, .int v_level, .int v_enabled, .int v_format, .int v_spare, .int v_low, .int v_high, .int v_overrun, .int v_vacated, .int v_quiet, .int v_shifting, .int v_ticksToGo])), (a_in, .inr (3, [.ref a_in_places, .int v_in_limit, .int v_in_first, .int v_in_size])), (a_in_places, .inl (cA, 32, .inl v_in_places)), (a_out, .inr (3, [.ref a_out_places, .int v_out_limit, .int v_out_first, .int v_out_size])), (a_out_places, .inl (cA, 32, .inl v_out_places)), (a_modem, .inr (1, [.int v_modem_control, .int v_modem_changes, .int v_modem_given])), (a_log, .inr (4, [.ref a_log_latest, .int v_log_size])), (a_log_latest, .inl (cA, 32, .inl v_log_latest))] _ := hP
    have hD : va_D A [(a0, .inr (2, [.ref a_in, .ref a_out, .ref a_modem, .ref a_log, .int v_queued, .int v_level, .int v_enabled, .int v_format, .int v_spare, .int v_low, .int v_high, .int v_overrun, .int v_vacated, .int v_quiet, .int v_shifting, .int v_ticksToGo])), (a_in, .inr (3, [.ref a_in_places, .int v_in_limit, .int v_in_first, .int v_in_size])), (a_in_places, .inl (cA, 32, .inl v_in_places)), (a_out, .inr (3, [.ref a_out_places, .int v_out_limit, .int v_out_first, .int v_out_size])), (a_out_places, .inl (cA, 32, .inl v_out_places)), (a_modem, .inr (1, [.int v_modem_control, .int v_modem_changes, .int v_modem_given])), (a_log, .inr (4, [.ref a_log_latest, .int v_log_size])), (a_log_latest, .inl (cA, 32, .inl v_log_latest))] := hD
    refine wi _ _ _ ?_
    refine lv_iload hx hb d_P_storeQueueing_73 (lv_at hl 3 rfl) ?_
    refine lv_if_ne (tgt := 91) hx hb d_P_storeQueueing_75 (by decide) (fun c_75 => ?_) (fun c_75 => ?_)
    · have hf := ite_f hf c_75
      exact wo _ _ _ (k_91 (v_queued, v_level, v_enabled, v_format, v_spare, v_low, v_high, v_overrun, v_vacated, v_quiet, v_shifting, v_ticksToGo, (v_in_limit, v_in_first, v_in_size, v_in_places), (v_out_limit, v_out_first, v_out_size, v_out_places), (v_modem_control, v_modem_changes, v_modem_given), (v_log_size, v_log_latest)) x_1 x_2 hf _ _ _ hP hD hS (lv_sub hl [0, 1, 2] rfl))
    · have hf := ite_t hf c_75
      refine lv_aload_n hx hb d_P_storeQueueing_78 rfl (lv_at hl 0 rfl) ?_
      refine va_get (D := (dC, dI)) (ci := 2) (v := .int v_queued) (C := cls_P) (T := fld_P) (N := 16) hx hb ht iin_P hown hK hP 0 rfl rfl 4 (by decide) (ht _ k_P_96) (fun _ h9 => h9) rfl d_P_storeQueueing_79 ?_
      refine lv_if_eq (tgt := 98) hx hb d_P_storeQueueing_82 (by decide) (fun c_82 => ?_) (fun c_82 => ?_)
      · have hf := ite_t hf c_82
        exact wo _ _ _ (k_98 (v_queued, v_level, v_enabled, v_format, v_spare, v_low, v_high, v_overrun, v_vacated, v_quiet, v_shifting, v_ticksToGo, (v_in_limit, v_in_first, v_in_size, v_in_places), (v_out_limit, v_out_first, v_out_size, v_out_places), (v_modem_control, v_modem_changes, v_modem_given), (v_log_size, v_log_latest)) x_1 x_2 hf _ _ _ hP hD hS (lv_sub hl [0, 1, 2] rfl))
      · have hf := ite_f hf c_82
        refine lv_iload_n hx hb d_P_storeQueueing_85 rfl (lv_at hl 1 rfl) ?_
        refine lv_iconst (v := 4) hx hb d_P_storeQueueing_86 (by decide) ?_
        refine lv_iand hx hb d_P_storeQueueing_87 ?_
        refine lv_if_eq (tgt := 98) hx hb d_P_storeQueueing_88 (by decide) (fun c_88 => ?_) (fun c_88 => ?_)
        · have hf := ite_t hf c_88
          exact wo _ _ _ (k_98 (v_queued, v_level, v_enabled, v_format, v_spare, v_low, v_high, v_overrun, v_vacated, v_quiet, v_shifting, v_ticksToGo, (v_in_limit, v_in_first, v_in_size, v_in_places), (v_out_limit, v_out_first, v_out_size, v_out_places), (v_modem_control, v_modem_changes, v_modem_given), (v_log_size, v_log_latest)) x_1 x_2 hf _ _ _ hP hD hS (lv_sub hl [0, 1, 2] rfl))
        · have hf := ite_f hf c_88
          exact wo _ _ _ (k_91 (v_queued, v_level, v_enabled, v_format, v_spare, v_low, v_high, v_overrun, v_vacated, v_quiet, v_shifting, v_ticksToGo, (v_in_limit, v_in_first, v_in_size, v_in_places), (v_out_limit, v_out_first, v_out_size, v_out_places), (v_modem_control, v_modem_changes, v_modem_given), (v_log_size, v_log_latest)) x_1 x_2 hf _ _ _ hP hD hS (lv_sub hl [0, 1, 2] rfl))
  have k_66 : ∀ (u : PtT) (x_1 x_2 x_4 : Int32), f_P_storeQueueing_66 u x_1 x_2 x_4 = some q → ∀ (H : Heap) (locs : List Loc) (ls : Array Slot), va_P (dC, dI) cls (cw_P cA a0 a_in a_in_places a_out a_out_places a_modem a_log a_log_latest u) H → va_D A (cw_P cA a0 a_in a_in_places a_out a_out_places a_modem a_log a_log_latest u) → va_S A s.heap H locs → lv_has ls 5 [(0, .ref a0), (1, .int x_1), (2, .int x_2), (4, .int x_4)] → WW H locs (F0 m 66 ls []) := by
    intro u x_1 x_2 x_4 hf H locs ls hP hD hS hl
    obtain ⟨v_queued, v_level, v_enabled, v_format, v_spare, v_low, v_high, v_overrun, v_vacated, v_quiet, v_shifting, v_ticksToGo, ⟨v_in_limit, v_in_first, v_in_size, v_in_places⟩, ⟨v_out_limit, v_out_first, v_out_size, v_out_places⟩, ⟨v_modem_control, v_modem_changes, v_modem_given⟩, ⟨v_log_size, v_log_latest⟩⟩ := u
    unfold f_P_storeQueueing_66 at hf
    try dsimp only at hf
    have hP : va_P (dC, dI) cls [(a0, .inr (2, [.ref a_in, .ref a_out, .ref a_modem, .ref a_log, .int v_queued, .int v_level, .int v_enabled, .int v_format, .int v_spare, .int v_low, .int v_high, .int v_overrun, .int v_vacated, .int v_quiet, .int v_shifting, .int v_ticksToGo])), (a_in, .inr (3, [.ref a_in_places, .int v_in_limit, .int v_in_first, .int v_in_size])), (a_in_places, .inl (cA, 32, .inl v_in_places)), (a_out, .inr (3, [.ref a_out_places, .int v_out_limit, .int v_out_first, .int v_out_size])), (a_out_places, .inl (cA, 32, .inl v_out_places)), (a_modem, .inr (1, [.int v_modem_control, .int v_modem_changes, .int v_modem_given])), (a_log, .inr (4, [.ref a_log_latest, .int v_log_size])), (a_log_latest, .inl (cA, 32, .inl v_log_latest))] _ := hP
    have hD : va_D A [(a0, .inr (2, [.ref a_in, .ref a_out, .ref a_modem, .ref a_log, .int v_queued, .int v_level, .int v_enabled, .int v_format, .int v_spare, .int v_low, .int v_high, .int v_overrun, .int v_vacated, .int v_quiet, .int v_shifting, .int v_ticksToGo])), (a_in, .inr (3, [.ref a_in_places, .int v_in_limit, .int v_in_first, .int v_in_size])), (a_in_places, .inl (cA, 32, .inl v_in_places)), (a_out, .inr (3, [.ref a_out_places, .int v_out_limit, .int v_out_first, .int v_out_size])), (a_out_places, .inl (cA, 32, .inl v_out_places)), (a_modem, .inr (1, [.int v_modem_control, .int v_modem_changes, .int v_modem_given])), (a_log, .inr (4, [.ref a_log_latest, .int v_log_size])), (a_log_latest, .inl (cA, 32, .inl v_log_latest))] := hD
    refine wi _ _ _ ?_
    refine lv_aload_n hx hb d_P_storeQueueing_66 rfl (lv_at hl 0 rfl) ?_
    refine va_get (D := (dC, dI)) (ci := 2) (v := .ref a_in) (C := cls_P) (T := fld_P) (N := 16) hx hb ht iin_P hown hK hP 0 rfl rfl 0 (by decide) (ht _ k_P_12) (fun _ h9 => h9) rfl d_P_storeQueueing_67 ?_
    obtain ⟨q_70, hc_70, hf⟩ := bind_e hf
    refine cVv_ (wc := cw_R cA a_in a_in_places (v_in_limit, v_in_first, v_in_size, v_in_places)) (wr := [(a0, .inr (2, [.ref a_in, .ref a_out, .ref a_modem, .ref a_log, .int v_queued, .int v_level, .int v_enabled, .int v_format, .int v_spare, .int v_low, .int v_high, .int v_overrun, .int v_vacated, .int v_quiet, .int v_shifting, .int v_ticksToGo])), (a_out, .inr (3, [.ref a_out_places, .int v_out_limit, .int v_out_first, .int v_out_size])), (a_out_places, .inl (cA, 32, .inl v_out_places)), (a_modem, .inr (1, [.int v_modem_control, .int v_modem_changes, .int v_modem_given])), (a_log, .inr (4, [.ref a_log_latest, .int v_log_size])), (a_log_latest, .inl (cA, 32, .inl v_log_latest))]) (As := []) (rest := []) ⟨hx, hb, hml, hown, ht⟩ (c_R_clear l dC dI cA t a_in a_in_places _ (v_in_limit, v_in_first, v_in_size, v_in_places)  q_70 hc_70) (cwV 0 ht (gV_ k_P_133 ki_R_clear ks_R_clear kn_R kc_R_clear) rfl rfl rfl ⟨rfl, hd_R_clear⟩ ⟨Nat.le_of_ble_eq_true rfl, Nat.le_of_ble_eq_true rfl⟩) hK hZ hA hP hD hS [1, 2] [0, 3, 4, 5, 6, 7] rfl rfl (by decide) (by decide) (by decide) rfl rfl rfl rfl hl.1 (Nat.le_of_ble_eq_true rfl) d_P_storeQueueing_70 ⟨Nat.le_of_ble_eq_true rfl, Nat.le_of_ble_eq_true rfl⟩ (fun u H locs hw hP hD hS => ?_)
    obtain ⟨v_in_limit_70, v_in_first_70, v_in_size_70, v_in_places_70⟩ := u
    subst hw
    have hP : va_P (dC, dI) cls [(a0, .inr (2, [.ref a_in, .ref a_out, .ref a_modem, .ref a_log, .int v_queued, .int v_level, .int v_enabled, .int v_format, .int v_spare, .int v_low, .int v_high, .int v_overrun, .int v_vacated, .int v_quiet, .int v_shifting, .int v_ticksToGo])), (a_in, .inr (3, [.ref a_in_places, .int v_in_limit_70, .int v_in_first_70, .int v_in_size_70])), (a_in_places, .inl (cA, 32, .inl v_in_places_70)), (a_out, .inr (3, [.ref a_out_places, .int v_out_limit, .int v_out_first, .int v_out_size])), (a_out_places, .inl (cA, 32, .inl v_out_places)), (a_modem, .inr (1, [.int v_modem_control, .int v_modem_changes, .int v_modem_given])), (a_log, .inr (4, [.ref a_log_latest, .int v_log_size])), (a_log_latest, .inl (cA, 32, .inl v_log_latest))] _ := hP.sub [0, 6, 7, 1, 2, 3, 4, 5] rfl
    have hD : va_D A [(a0, .inr (2, [.ref a_in, .ref a_out, .ref a_modem, .ref a_log, .int v_queued, .int v_level, .int v_enabled, .int v_format, .int v_spare, .int v_low, .int v_high, .int v_overrun, .int v_vacated, .int v_quiet, .int v_shifting, .int v_ticksToGo])), (a_in, .inr (3, [.ref a_in_places, .int v_in_limit_70, .int v_in_first_70, .int v_in_size_70])), (a_in_places, .inl (cA, 32, .inl v_in_places_70)), (a_out, .inr (3, [.ref a_out_places, .int v_out_limit, .int v_out_first, .int v_out_size])), (a_out_places, .inl (cA, 32, .inl v_out_places)), (a_modem, .inr (1, [.int v_modem_control, .int v_modem_changes, .int v_modem_given])), (a_log, .inr (4, [.ref a_log_latest, .int v_log_size])), (a_log_latest, .inl (cA, 32, .inl v_log_latest))] := hD.sub [0, 6, 7, 1, 2, 3, 4, 5] (by decide) rfl
    try dsimp only at hf
    exact wo _ _ _ (k_73 (v_queued, v_level, v_enabled, v_format, v_spare, v_low, v_high, v_overrun, v_vacated, v_quiet, v_shifting, v_ticksToGo, (v_in_limit_70, v_in_first_70, v_in_size_70, v_in_places_70), (v_out_limit, v_out_first, v_out_size, v_out_places), (v_modem_control, v_modem_changes, v_modem_given), (v_log_size, v_log_latest)) x_1 x_2 x_4 hf _ _ _ hP hD hS (lv_sub hl [0, 1, 2, 3] rfl))
  have k_41 : ∀ (u : PtT) (x_1 x_2 x_3 s_1 : Int32), f_P_storeQueueing_41 u x_1 x_2 x_3 s_1 = some q → ∀ (H : Heap) (locs : List Loc) (ls : Array Slot), va_P (dC, dI) cls (cw_P cA a0 a_in a_in_places a_out a_out_places a_modem a_log a_log_latest u) H → va_D A (cw_P cA a0 a_in a_in_places a_out a_out_places a_modem a_log a_log_latest u) → va_S A s.heap H locs → lv_has ls 5 [(0, .ref a0), (1, .int x_1), (2, .int x_2), (3, .int x_3)] → WW H locs (F0 m 41 ls [.int s_1]) := by
    intro u x_1 x_2 x_3 s_1 hf H locs ls hP hD hS hl
    obtain ⟨v_queued, v_level, v_enabled, v_format, v_spare, v_low, v_high, v_overrun, v_vacated, v_quiet, v_shifting, v_ticksToGo, ⟨v_in_limit, v_in_first, v_in_size, v_in_places⟩, ⟨v_out_limit, v_out_first, v_out_size, v_out_places⟩, ⟨v_modem_control, v_modem_changes, v_modem_given⟩, ⟨v_log_size, v_log_latest⟩⟩ := u
    unfold f_P_storeQueueing_41 at hf
    try dsimp only at hf
    have hP : va_P (dC, dI) cls [(a0, .inr (2, [.ref a_in, .ref a_out, .ref a_modem, .ref a_log, .int v_queued, .int v_level, .int v_enabled, .int v_format, .int v_spare, .int v_low, .int v_high, .int v_overrun, .int v_vacated, .int v_quiet, .int v_shifting, .int v_ticksToGo])), (a_in, .inr (3, [.ref a_in_places, .int v_in_limit, .int v_in_first, .int v_in_size])), (a_in_places, .inl (cA, 32, .inl v_in_places)), (a_out, .inr (3, [.ref a_out_places, .int v_out_limit, .int v_out_first, .int v_out_size])), (a_out_places, .inl (cA, 32, .inl v_out_places)), (a_modem, .inr (1, [.int v_modem_control, .int v_modem_changes, .int v_modem_given])), (a_log, .inr (4, [.ref a_log_latest, .int v_log_size])), (a_log_latest, .inl (cA, 32, .inl v_log_latest))] _ := hP
    have hD : va_D A [(a0, .inr (2, [.ref a_in, .ref a_out, .ref a_modem, .ref a_log, .int v_queued, .int v_level, .int v_enabled, .int v_format, .int v_spare, .int v_low, .int v_high, .int v_overrun, .int v_vacated, .int v_quiet, .int v_shifting, .int v_ticksToGo])), (a_in, .inr (3, [.ref a_in_places, .int v_in_limit, .int v_in_first, .int v_in_size])), (a_in_places, .inl (cA, 32, .inl v_in_places)), (a_out, .inr (3, [.ref a_out_places, .int v_out_limit, .int v_out_first, .int v_out_size])), (a_out_places, .inl (cA, 32, .inl v_out_places)), (a_modem, .inr (1, [.int v_modem_control, .int v_modem_changes, .int v_modem_given])), (a_log, .inr (4, [.ref a_log_latest, .int v_log_size])), (a_log_latest, .inl (cA, 32, .inl v_log_latest))] := hD
    refine wi _ _ _ ?_
    refine lv_istore (lv' := [(4, .int s_1), (0, .ref a0), (1, .int x_1), (2, .int x_2), (3, .int x_3)]) hx hb d_P_storeQueueing_41 hl (by decide) rfl (fun ls hl => ?_)
    refine lv_aload_n hx hb d_P_storeQueueing_43 rfl (lv_at hl 1 rfl) ?_
    refine lv_iload_n hx hb d_P_storeQueueing_44 rfl (lv_at hl 4 rfl) ?_
    obtain ⟨hb_45, hf⟩ := gb_e hf
    refine va_put (D := (dC, dI)) (ci := 2) (v := .int x_3) (ty := .boolean) (C := cls_P) (T := fld_P) (N := 16) hx hb ht iin_P typ_P tok_P nam_P hown hK hP hD hS 0 rfl rfl 4 (by decide) (ht _ k_P_96) (fun _ h9 => h9) rfl (tok_P 4 (by decide)) hb_45.1 hb_45.2 (Nat.le_of_ble_eq_true rfl) d_P_storeQueueing_45 (fun H locs hP hD hS => ?_)
    have hP : va_P (dC, dI) cls [(a0, .inr (2, [.ref a_in, .ref a_out, .ref a_modem, .ref a_log, .int x_3, .int v_level, .int v_enabled, .int v_format, .int v_spare, .int v_low, .int v_high, .int v_overrun, .int v_vacated, .int v_quiet, .int v_shifting, .int v_ticksToGo])), (a_in, .inr (3, [.ref a_in_places, .int v_in_limit, .int v_in_first, .int v_in_size])), (a_in_places, .inl (cA, 32, .inl v_in_places)), (a_out, .inr (3, [.ref a_out_places, .int v_out_limit, .int v_out_first, .int v_out_size])), (a_out_places, .inl (cA, 32, .inl v_out_places)), (a_modem, .inr (1, [.int v_modem_control, .int v_modem_changes, .int v_modem_given])), (a_log, .inr (4, [.ref a_log_latest, .int v_log_size])), (a_log_latest, .inl (cA, 32, .inl v_log_latest))] _ := hP
    have hD : va_D A [(a0, .inr (2, [.ref a_in, .ref a_out, .ref a_modem, .ref a_log, .int x_3, .int v_level, .int v_enabled, .int v_format, .int v_spare, .int v_low, .int v_high, .int v_overrun, .int v_vacated, .int v_quiet, .int v_shifting, .int v_ticksToGo])), (a_in, .inr (3, [.ref a_in_places, .int v_in_limit, .int v_in_first, .int v_in_size])), (a_in_places, .inl (cA, 32, .inl v_in_places)), (a_out, .inr (3, [.ref a_out_places, .int v_out_limit, .int v_out_first, .int v_out_size])), (a_out_places, .inl (cA, 32, .inl v_out_places)), (a_modem, .inr (1, [.int v_modem_control, .int v_modem_changes, .int v_modem_given])), (a_log, .inr (4, [.ref a_log_latest, .int v_log_size])), (a_log_latest, .inl (cA, 32, .inl v_log_latest))] := hD
    refine lv_iload hx hb d_P_storeQueueing_48 (lv_at hl 0 rfl) ?_
    refine lv_if_ne (tgt := 66) hx hb d_P_storeQueueing_50 (by decide) (fun c_50 => ?_) (fun c_50 => ?_)
    · have hf := ite_f hf c_50
      exact wo _ _ _ (k_66 (x_3, v_level, v_enabled, v_format, v_spare, v_low, v_high, v_overrun, v_vacated, v_quiet, v_shifting, v_ticksToGo, (v_in_limit, v_in_first, v_in_size, v_in_places), (v_out_limit, v_out_first, v_out_size, v_out_places), (v_modem_control, v_modem_changes, v_modem_given), (v_log_size, v_log_latest)) x_1 x_2 s_1 hf _ _ _ hP hD hS (lv_sub hl [1, 2, 3, 0] rfl))
    · have hf := ite_t hf c_50
      refine lv_aload_n hx hb d_P_storeQueueing_53 rfl (lv_at hl 1 rfl) ?_
      refine va_get (D := (dC, dI)) (ci := 2) (v := .int x_3) (C := cls_P) (T := fld_P) (N := 16) hx hb ht iin_P hown hK hP 0 rfl rfl 4 (by decide) (ht _ k_P_96) (fun _ h9 => h9) rfl d_P_storeQueueing_54 ?_
      refine lv_if_eq (tgt := 73) hx hb d_P_storeQueueing_57 (by decide) (fun c_57 => ?_) (fun c_57 => ?_)
      · have hf := ite_t hf c_57
        exact wo _ _ _ (k_73 (x_3, v_level, v_enabled, v_format, v_spare, v_low, v_high, v_overrun, v_vacated, v_quiet, v_shifting, v_ticksToGo, (v_in_limit, v_in_first, v_in_size, v_in_places), (v_out_limit, v_out_first, v_out_size, v_out_places), (v_modem_control, v_modem_changes, v_modem_given), (v_log_size, v_log_latest)) x_1 x_2 s_1 hf _ _ _ hP hD hS (lv_sub hl [1, 2, 3, 0] rfl))
      · have hf := ite_f hf c_57
        refine lv_iload_n hx hb d_P_storeQueueing_60 rfl (lv_at hl 2 rfl) ?_
        refine lv_iconst (v := 2) hx hb d_P_storeQueueing_61 (by decide) ?_
        refine lv_iand hx hb d_P_storeQueueing_62 ?_
        refine lv_if_eq (tgt := 73) hx hb d_P_storeQueueing_63 (by decide) (fun c_63 => ?_) (fun c_63 => ?_)
        · have hf := ite_t hf c_63
          exact wo _ _ _ (k_73 (x_3, v_level, v_enabled, v_format, v_spare, v_low, v_high, v_overrun, v_vacated, v_quiet, v_shifting, v_ticksToGo, (v_in_limit, v_in_first, v_in_size, v_in_places), (v_out_limit, v_out_first, v_out_size, v_out_places), (v_modem_control, v_modem_changes, v_modem_given), (v_log_size, v_log_latest)) x_1 x_2 s_1 hf _ _ _ hP hD hS (lv_sub hl [1, 2, 3, 0] rfl))
        · have hf := ite_f hf c_63
          exact wo _ _ _ (k_66 (x_3, v_level, v_enabled, v_format, v_spare, v_low, v_high, v_overrun, v_vacated, v_quiet, v_shifting, v_ticksToGo, (v_in_limit, v_in_first, v_in_size, v_in_places), (v_out_limit, v_out_first, v_out_size, v_out_places), (v_modem_control, v_modem_changes, v_modem_given), (v_log_size, v_log_latest)) x_1 x_2 s_1 hf _ _ _ hP hD hS (lv_sub hl [1, 2, 3, 0] rfl))
  have k_27 : ∀ (u : PtT) (x_1 x_2 s_1 : Int32), f_P_storeQueueing_27 u x_1 x_2 s_1 = some q → ∀ (H : Heap) (locs : List Loc) (ls : Array Slot), va_P (dC, dI) cls (cw_P cA a0 a_in a_in_places a_out a_out_places a_modem a_log a_log_latest u) H → va_D A (cw_P cA a0 a_in a_in_places a_out a_out_places a_modem a_log a_log_latest u) → va_S A s.heap H locs → lv_has ls 5 [(0, .ref a0), (1, .int x_1), (2, .int x_2)] → WW H locs (F0 m 27 ls [.int s_1]) := by
    intro u x_1 x_2 s_1 hf H locs ls hP hD hS hl
    obtain ⟨v_queued, v_level, v_enabled, v_format, v_spare, v_low, v_high, v_overrun, v_vacated, v_quiet, v_shifting, v_ticksToGo, ⟨v_in_limit, v_in_first, v_in_size, v_in_places⟩, ⟨v_out_limit, v_out_first, v_out_size, v_out_places⟩, ⟨v_modem_control, v_modem_changes, v_modem_given⟩, ⟨v_log_size, v_log_latest⟩⟩ := u
    unfold f_P_storeQueueing_27 at hf
    try dsimp only at hf
    have hP : va_P (dC, dI) cls [(a0, .inr (2, [.ref a_in, .ref a_out, .ref a_modem, .ref a_log, .int v_queued, .int v_level, .int v_enabled, .int v_format, .int v_spare, .int v_low, .int v_high, .int v_overrun, .int v_vacated, .int v_quiet, .int v_shifting, .int v_ticksToGo])), (a_in, .inr (3, [.ref a_in_places, .int v_in_limit, .int v_in_first, .int v_in_size])), (a_in_places, .inl (cA, 32, .inl v_in_places)), (a_out, .inr (3, [.ref a_out_places, .int v_out_limit, .int v_out_first, .int v_out_size])), (a_out_places, .inl (cA, 32, .inl v_out_places)), (a_modem, .inr (1, [.int v_modem_control, .int v_modem_changes, .int v_modem_given])), (a_log, .inr (4, [.ref a_log_latest, .int v_log_size])), (a_log_latest, .inl (cA, 32, .inl v_log_latest))] _ := hP
    have hD : va_D A [(a0, .inr (2, [.ref a_in, .ref a_out, .ref a_modem, .ref a_log, .int v_queued, .int v_level, .int v_enabled, .int v_format, .int v_spare, .int v_low, .int v_high, .int v_overrun, .int v_vacated, .int v_quiet, .int v_shifting, .int v_ticksToGo])), (a_in, .inr (3, [.ref a_in_places, .int v_in_limit, .int v_in_first, .int v_in_size])), (a_in_places, .inl (cA, 32, .inl v_in_places)), (a_out, .inr (3, [.ref a_out_places, .int v_out_limit, .int v_out_first, .int v_out_size])), (a_out_places, .inl (cA, 32, .inl v_out_places)), (a_modem, .inr (1, [.int v_modem_control, .int v_modem_changes, .int v_modem_given])), (a_log, .inr (4, [.ref a_log_latest, .int v_log_size])), (a_log_latest, .inl (cA, 32, .inl v_log_latest))] := hD
    refine wi _ _ _ ?_
    refine lv_istore_n (lv' := [(3, .int s_1), (0, .ref a0), (1, .int x_1), (2, .int x_2)]) hx hb d_P_storeQueueing_27 rfl hl (by decide) rfl (fun ls hl => ?_)
    refine lv_iload_n hx hb d_P_storeQueueing_28 rfl (lv_at hl 0 rfl) ?_
    refine lv_aload_n hx hb d_P_storeQueueing_29 rfl (lv_at hl 1 rfl) ?_
    refine va_get (D := (dC, dI)) (ci := 2) (v := .int v_queued) (C := cls_P) (T := fld_P) (N := 16) hx hb ht iin_P hown hK hP 0 rfl rfl 4 (by decide) (ht _ k_P_96) (fun _ h9 => h9) rfl d_P_storeQueueing_30 ?_
    refine lv_icmp_eq (tgt := 40) hx hb d_P_storeQueueing_33 (by decide) (fun c_33 => ?_) (fun c_33 => ?_)
    · have hf := ite_t hf c_33
      refine lv_iconst (v := 0) hx hb d_P_storeQueueing_40 (by decide) ?_
      exact wo _ _ _ (k_41 (v_queued, v_level, v_enabled, v_format, v_spare, v_low, v_high, v_overrun, v_vacated, v_quiet, v_shifting, v_ticksToGo, (v_in_limit, v_in_first, v_in_size, v_in_places), (v_out_limit, v_out_first, v_out_size, v_out_places), (v_modem_control, v_modem_changes, v_modem_given), (v_log_size, v_log_latest)) x_1 x_2 s_1 0 hf _ _ _ hP hD hS (lv_sub hl [1, 2, 3, 0] rfl))
    · have hf := ite_f hf c_33
      refine lv_iconst (v := 1) hx hb d_P_storeQueueing_36 (by decide) ?_
      refine lv_goto (tgt := 41) hx hb d_P_storeQueueing_37 (by decide) ?_
      exact wo _ _ _ (k_41 (v_queued, v_level, v_enabled, v_format, v_spare, v_low, v_high, v_overrun, v_vacated, v_quiet, v_shifting, v_ticksToGo, (v_in_limit, v_in_first, v_in_size, v_in_places), (v_out_limit, v_out_first, v_out_size, v_out_places), (v_modem_control, v_modem_changes, v_modem_given), (v_log_size, v_log_latest)) x_1 x_2 s_1 1 hf _ _ _ hP hD hS (lv_sub hl [1, 2, 3, 0] rfl))
  have k_15 : ∀ (u : PtT) (x_1 s_1 : Int32), f_P_storeQueueing_15 u x_1 s_1 = some q → ∀ (H : Heap) (locs : List Loc) (ls : Array Slot), va_P (dC, dI) cls (cw_P cA a0 a_in a_in_places a_out a_out_places a_modem a_log a_log_latest u) H → va_D A (cw_P cA a0 a_in a_in_places a_out a_out_places a_modem a_log a_log_latest u) → va_S A s.heap H locs → lv_has ls 5 [(0, .ref a0), (1, .int x_1)] → WW H locs (F0 m 15 ls [.int s_1]) := by
    intro u x_1 s_1 hf H locs ls hP hD hS hl
    obtain ⟨v_queued, v_level, v_enabled, v_format, v_spare, v_low, v_high, v_overrun, v_vacated, v_quiet, v_shifting, v_ticksToGo, ⟨v_in_limit, v_in_first, v_in_size, v_in_places⟩, ⟨v_out_limit, v_out_first, v_out_size, v_out_places⟩, ⟨v_modem_control, v_modem_changes, v_modem_given⟩, ⟨v_log_size, v_log_latest⟩⟩ := u
    unfold f_P_storeQueueing_15 at hf
    try dsimp only at hf
    have hP : va_P (dC, dI) cls [(a0, .inr (2, [.ref a_in, .ref a_out, .ref a_modem, .ref a_log, .int v_queued, .int v_level, .int v_enabled, .int v_format, .int v_spare, .int v_low, .int v_high, .int v_overrun, .int v_vacated, .int v_quiet, .int v_shifting, .int v_ticksToGo])), (a_in, .inr (3, [.ref a_in_places, .int v_in_limit, .int v_in_first, .int v_in_size])), (a_in_places, .inl (cA, 32, .inl v_in_places)), (a_out, .inr (3, [.ref a_out_places, .int v_out_limit, .int v_out_first, .int v_out_size])), (a_out_places, .inl (cA, 32, .inl v_out_places)), (a_modem, .inr (1, [.int v_modem_control, .int v_modem_changes, .int v_modem_given])), (a_log, .inr (4, [.ref a_log_latest, .int v_log_size])), (a_log_latest, .inl (cA, 32, .inl v_log_latest))] _ := hP
    have hD : va_D A [(a0, .inr (2, [.ref a_in, .ref a_out, .ref a_modem, .ref a_log, .int v_queued, .int v_level, .int v_enabled, .int v_format, .int v_spare, .int v_low, .int v_high, .int v_overrun, .int v_vacated, .int v_quiet, .int v_shifting, .int v_ticksToGo])), (a_in, .inr (3, [.ref a_in_places, .int v_in_limit, .int v_in_first, .int v_in_size])), (a_in_places, .inl (cA, 32, .inl v_in_places)), (a_out, .inr (3, [.ref a_out_places, .int v_out_limit, .int v_out_first, .int v_out_size])), (a_out_places, .inl (cA, 32, .inl v_out_places)), (a_modem, .inr (1, [.int v_modem_control, .int v_modem_changes, .int v_modem_given])), (a_log, .inr (4, [.ref a_log_latest, .int v_log_size])), (a_log_latest, .inl (cA, 32, .inl v_log_latest))] := hD
    refine wi _ _ _ ?_
    refine lv_istore_n (lv' := [(2, .int s_1), (0, .ref a0), (1, .int x_1)]) hx hb d_P_storeQueueing_15 rfl hl (by decide) rfl (fun ls hl => ?_)
    refine lv_iload_n hx hb d_P_storeQueueing_16 rfl (lv_at hl 2 rfl) ?_
    refine lv_iconst (v := 1) hx hb d_P_storeQueueing_17 (by decide) ?_
    refine lv_iand hx hb d_P_storeQueueing_18 ?_
    refine lv_if_eq (tgt := 26) hx hb d_P_storeQueueing_19 (by decide) (fun c_19 => ?_) (fun c_19 => ?_)
    · have hf := ite_t hf c_19
      refine lv_iconst (v := 0) hx hb d_P_storeQueueing_26 (by decide) ?_
      exact wo _ _ _ (k_27 (v_queued, v_level, v_enabled, v_format, v_spare, v_low, v_high, v_overrun, v_vacated, v_quiet, v_shifting, v_ticksToGo, (v_in_limit, v_in_first, v_in_size, v_in_places), (v_out_limit, v_out_first, v_out_size, v_out_places), (v_modem_control, v_modem_changes, v_modem_given), (v_log_size, v_log_latest)) x_1 s_1 0 hf _ _ _ hP hD hS (lv_sub hl [1, 2, 0] rfl))
    · have hf := ite_f hf c_19
      refine lv_iconst (v := 1) hx hb d_P_storeQueueing_22 (by decide) ?_
      refine lv_goto (tgt := 27) hx hb d_P_storeQueueing_23 (by decide) ?_
      exact wo _ _ _ (k_27 (v_queued, v_level, v_enabled, v_format, v_spare, v_low, v_high, v_overrun, v_vacated, v_quiet, v_shifting, v_ticksToGo, (v_in_limit, v_in_first, v_in_size, v_in_places), (v_out_limit, v_out_first, v_out_size, v_out_places), (v_modem_control, v_modem_changes, v_modem_given), (v_log_size, v_log_latest)) x_1 s_1 1 hf _ _ _ hP hD hS (lv_sub hl [1, 2, 0] rfl))
  obtain ⟨v_queued, v_level, v_enabled, v_format, v_spare, v_low, v_high, v_overrun, v_vacated, v_quiet, v_shifting, v_ticksToGo, ⟨v_in_limit, v_in_first, v_in_size, v_in_places⟩, ⟨v_out_limit, v_out_first, v_out_size, v_out_places⟩, ⟨v_modem_control, v_modem_changes, v_modem_given⟩, ⟨v_log_size, v_log_latest⟩⟩ := u
  unfold f_P_storeQueueing at hf
  try dsimp only at hf
  have hP : va_P (dC, dI) cls [(a0, .inr (2, [.ref a_in, .ref a_out, .ref a_modem, .ref a_log, .int v_queued, .int v_level, .int v_enabled, .int v_format, .int v_spare, .int v_low, .int v_high, .int v_overrun, .int v_vacated, .int v_quiet, .int v_shifting, .int v_ticksToGo])), (a_in, .inr (3, [.ref a_in_places, .int v_in_limit, .int v_in_first, .int v_in_size])), (a_in_places, .inl (cA, 32, .inl v_in_places)), (a_out, .inr (3, [.ref a_out_places, .int v_out_limit, .int v_out_first, .int v_out_size])), (a_out_places, .inl (cA, 32, .inl v_out_places)), (a_modem, .inr (1, [.int v_modem_control, .int v_modem_changes, .int v_modem_given])), (a_log, .inr (4, [.ref a_log_latest, .int v_log_size])), (a_log_latest, .inl (cA, 32, .inl v_log_latest))] _ := hP
  have hD : va_D A [(a0, .inr (2, [.ref a_in, .ref a_out, .ref a_modem, .ref a_log, .int v_queued, .int v_level, .int v_enabled, .int v_format, .int v_spare, .int v_low, .int v_high, .int v_overrun, .int v_vacated, .int v_quiet, .int v_shifting, .int v_ticksToGo])), (a_in, .inr (3, [.ref a_in_places, .int v_in_limit, .int v_in_first, .int v_in_size])), (a_in_places, .inl (cA, 32, .inl v_in_places)), (a_out, .inr (3, [.ref a_out_places, .int v_out_limit, .int v_out_first, .int v_out_size])), (a_out_places, .inl (cA, 32, .inl v_out_places)), (a_modem, .inr (1, [.int v_modem_control, .int v_modem_changes, .int v_modem_given])), (a_log, .inr (4, [.ref a_log_latest, .int v_log_size])), (a_log_latest, .inl (cA, 32, .inl v_log_latest))] := hD
  refine wi _ _ _ ?_
  have hl : lv_has ls 5 [(0, .ref a0), (1, .int p_1)] := hl
  refine lv_aload_n hx hb d_P_storeQueueing_0 rfl (lv_at hl 0 rfl) ?_
  refine va_get (D := (dC, dI)) (ci := 2) (v := .ref a_out) (C := cls_P) (T := fld_P) (N := 16) hx hb ht iin_P hown hK hP 0 rfl rfl 1 (by decide) (ht _ k_P_18) (fun _ h9 => h9) rfl d_P_storeQueueing_1 ?_
  refine va_get (D := (dC, dI)) (ci := 3) (v := .int v_out_size) (C := cls_R) (T := fld_R) (N := 4) hx hb ht iin_R hown hK hP 3 rfl rfl 3 (by decide) (ht _ k_P_93) (fun _ h9 => h9) rfl d_P_storeQueueing_4 ?_
  refine lv_if_le (tgt := 14) hx hb d_P_storeQueueing_7 (by decide) (fun c_7 => ?_) (fun c_7 => ?_)
  · have hf := ite_t hf c_7
    refine lv_iconst (v := 0) hx hb d_P_storeQueueing_14 (by decide) ?_
    exact wo _ _ _ (k_15 (v_queued, v_level, v_enabled, v_format, v_spare, v_low, v_high, v_overrun, v_vacated, v_quiet, v_shifting, v_ticksToGo, (v_in_limit, v_in_first, v_in_size, v_in_places), (v_out_limit, v_out_first, v_out_size, v_out_places), (v_modem_control, v_modem_changes, v_modem_given), (v_log_size, v_log_latest)) p_1 0 hf _ _ _ hP hD hS (lv_sub hl [0, 1] rfl))
  · have hf := ite_f hf c_7
    refine lv_iconst (v := 1) hx hb d_P_storeQueueing_10 (by decide) ?_
    refine lv_goto (tgt := 15) hx hb d_P_storeQueueing_11 (by decide) ?_
    exact wo _ _ _ (k_15 (v_queued, v_level, v_enabled, v_format, v_spare, v_low, v_high, v_overrun, v_vacated, v_quiet, v_shifting, v_ticksToGo, (v_in_limit, v_in_first, v_in_size, v_in_places), (v_out_limit, v_out_first, v_out_size, v_out_places), (v_modem_control, v_modem_changes, v_modem_given), (v_log_size, v_log_latest)) p_1 1 hf _ _ _ hP hD hS (lv_sub hl [0, 1] rfl))
def f_P_arrive_52 : PtT → Option (PtT)
  | (v_queued, v_level, v_enabled, v_format, v_spare, v_low, v_high, v_overrun, v_vacated, v_quiet, v_shifting, v_ticksToGo, (v_in_limit, v_in_first, v_in_size, v_in_places), (v_out_limit, v_out_first, v_out_size, v_out_places), (v_modem_control, v_modem_changes, v_modem_given), (v_log_size, v_log_latest)) => some (v_queued, v_level, v_enabled, v_format, v_spare, v_low, v_high, v_overrun, v_vacated, v_quiet, v_shifting, v_ticksToGo, (v_in_limit, v_in_first, v_in_size, v_in_places), (v_out_limit, v_out_first, v_out_size, v_out_places), (v_modem_control, v_modem_changes, v_modem_given), (v_log_size, v_log_latest))
def f_P_arrive : PtT → Int32 → Int32 → Option (PtT)
  | (v_queued, v_level, v_enabled, v_format, v_spare, v_low, v_high, v_overrun, v_vacated, v_quiet, v_shifting, v_ticksToGo, (v_in_limit, v_in_first, v_in_size, v_in_places), (v_out_limit, v_out_first, v_out_size, v_out_places), (v_modem_control, v_modem_changes, v_modem_given), (v_log_size, v_log_latest)), p_1, p_2 => Option.bind (f_R_isFull (v_in_limit, v_in_first, v_in_size, v_in_places)) (fun r_17 => if r_17 = 0 then (Option.bind (f_R_append (v_in_limit, v_in_first, v_in_size, v_in_places) (p_1 + (256 * p_2))) (fun q_28 => match q_28 with | (v_in_limit_28, v_in_first_28, v_in_size_28, v_in_places_28) => some (v_queued, v_level, v_enabled, v_format, v_spare, v_low, v_high, v_overrun, v_vacated, 0, v_shifting, v_ticksToGo, (v_in_limit_28, v_in_first_28, v_in_size_28, v_in_places_28), (v_out_limit, v_out_first, v_out_size, v_out_places), (v_modem_control, v_modem_changes, v_modem_given), (v_log_size, v_log_latest)))) else (if v_queued = 0 then (Option.bind (f_R_replaceOldest (v_in_limit, v_in_first, v_in_size, v_in_places) (p_1 + (256 * p_2))) (fun q_49 => match q_49 with | (v_in_limit_49, v_in_first_49, v_in_size_49, v_in_places_49) => f_P_arrive_52 (v_queued, v_level, v_enabled, v_format, v_spare, v_low, v_high, 1, v_vacated, 0, v_shifting, v_ticksToGo, (v_in_limit_49, v_in_first_49, v_in_size_49, v_in_places_49), (v_out_limit, v_out_first, v_out_size, v_out_places), (v_modem_control, v_modem_changes, v_modem_given), (v_log_size, v_log_latest)))) else (f_P_arrive_52 (v_queued, v_level, v_enabled, v_format, v_spare, v_low, v_high, 1, v_vacated, 0, v_shifting, v_ticksToGo, (v_in_limit, v_in_first, v_in_size, v_in_places), (v_out_limit, v_out_first, v_out_size, v_out_places), (v_modem_control, v_modem_changes, v_modem_given), (v_log_size, v_log_latest)))))
set_option maxHeartbeats 8000000 in
set_option maxRecDepth 100000 in
theorem c_P_arrive (l : Launch) (dC : Nat → ClassId) (dI : Nat → Nat → Nat) (cA : ClassId) (t : Nat) (a0 a_in a_in_places a_out a_out_places a_modem a_log a_log_latest : Nat) (sz : Nat) (u : PtT) (p_1 p_2 : Int32) (q : PtT) (hf : f_P_arrive u p_1 p_2 = some q) : Met l y_P_arrive (Cond.code y_P_arrive b_P_arrive 4 none :: W0) ({ frames := 1, cells := 0, slots := 0, locals := 21 }) (va_Pc [.ref a0, .int p_1, .int p_2] (pc_ (dC, dI) [(cA, .int)] t sz (cw_P cA a0 a_in a_in_places a_out a_out_places a_modem a_log a_log_latest u))) (qv_ (dC, dI) (cw_P cA a0 a_in a_in_places a_out a_out_places a_modem a_log a_log_latest) q (va_A (cw_P cA a0 a_in a_in_places a_out a_out_places a_modem a_log a_log_latest u) sz)) 0 0 (va_A (cw_P cA a0 a_in a_in_places a_out a_out_places a_modem a_log a_log_latest u) sz) := by
  refine start_ l (qv_ (dC, dI) (cw_P cA a0 a_in a_in_places a_out a_out_places a_modem a_log a_log_latest) q) (by decide) (Nat.le_of_ble_eq_true rfl) ?_
  intro p e s m below meth c hx hb hml hr hown ht hlocks hnm A hA hS hP hK hD hZ ls hl
  have hown : s.vm.findClass cls_P = some m.cls := hown
  refine wabs_ (fun WW wi wo => ?_)
  have k_52 : ∀ (u : PtT), f_P_arrive_52 u = some q → ∀ (H : Heap) (locs : List Loc) (ls : Array Slot), va_P (dC, dI) cls (cw_P cA a0 a_in a_in_places a_out a_out_places a_modem a_log a_log_latest u) H → va_D A (cw_P cA a0 a_in a_in_places a_out a_out_places a_modem a_log a_log_latest u) → va_S A s.heap H locs → lv_has ls 4 [] → WW H locs (F0 m 52 ls []) := by
    intro u hf H locs ls hP hD hS hl
    obtain ⟨v_queued, v_level, v_enabled, v_format, v_spare, v_low, v_high, v_overrun, v_vacated, v_quiet, v_shifting, v_ticksToGo, ⟨v_in_limit, v_in_first, v_in_size, v_in_places⟩, ⟨v_out_limit, v_out_first, v_out_size, v_out_places⟩, ⟨v_modem_control, v_modem_changes, v_modem_given⟩, ⟨v_log_size, v_log_latest⟩⟩ := u
    unfold f_P_arrive_52 at hf
    try dsimp only at hf
    have hP : va_P (dC, dI) cls [(a0, .inr (2, [.ref a_in, .ref a_out, .ref a_modem, .ref a_log, .int v_queued, .int v_level, .int v_enabled, .int v_format, .int v_spare, .int v_low, .int v_high, .int v_overrun, .int v_vacated, .int v_quiet, .int v_shifting, .int v_ticksToGo])), (a_in, .inr (3, [.ref a_in_places, .int v_in_limit, .int v_in_first, .int v_in_size])), (a_in_places, .inl (cA, 32, .inl v_in_places)), (a_out, .inr (3, [.ref a_out_places, .int v_out_limit, .int v_out_first, .int v_out_size])), (a_out_places, .inl (cA, 32, .inl v_out_places)), (a_modem, .inr (1, [.int v_modem_control, .int v_modem_changes, .int v_modem_given])), (a_log, .inr (4, [.ref a_log_latest, .int v_log_size])), (a_log_latest, .inl (cA, 32, .inl v_log_latest))] _ := hP
    have hD : va_D A [(a0, .inr (2, [.ref a_in, .ref a_out, .ref a_modem, .ref a_log, .int v_queued, .int v_level, .int v_enabled, .int v_format, .int v_spare, .int v_low, .int v_high, .int v_overrun, .int v_vacated, .int v_quiet, .int v_shifting, .int v_ticksToGo])), (a_in, .inr (3, [.ref a_in_places, .int v_in_limit, .int v_in_first, .int v_in_size])), (a_in_places, .inl (cA, 32, .inl v_in_places)), (a_out, .inr (3, [.ref a_out_places, .int v_out_limit, .int v_out_first, .int v_out_size])), (a_out_places, .inl (cA, 32, .inl v_out_places)), (a_modem, .inr (1, [.int v_modem_control, .int v_modem_changes, .int v_modem_given])), (a_log, .inr (4, [.ref a_log_latest, .int v_log_size])), (a_log_latest, .inl (cA, 32, .inl v_log_latest))] := hD
    refine wi _ _ _ ?_
    exact W.vret hx hb hr (fun t9 ht9 _ => rv_ (Option.some.inj hf) hP hD hS ht9) hS.2.2 d_P_arrive_52
  obtain ⟨v_queued, v_level, v_enabled, v_format, v_spare, v_low, v_high, v_overrun, v_vacated, v_quiet, v_shifting, v_ticksToGo, ⟨v_in_limit, v_in_first, v_in_size, v_in_places⟩, ⟨v_out_limit, v_out_first, v_out_size, v_out_places⟩, ⟨v_modem_control, v_modem_changes, v_modem_given⟩, ⟨v_log_size, v_log_latest⟩⟩ := u
  unfold f_P_arrive at hf
  try dsimp only at hf
  have hP : va_P (dC, dI) cls [(a0, .inr (2, [.ref a_in, .ref a_out, .ref a_modem, .ref a_log, .int v_queued, .int v_level, .int v_enabled, .int v_format, .int v_spare, .int v_low, .int v_high, .int v_overrun, .int v_vacated, .int v_quiet, .int v_shifting, .int v_ticksToGo])), (a_in, .inr (3, [.ref a_in_places, .int v_in_limit, .int v_in_first, .int v_in_size])), (a_in_places, .inl (cA, 32, .inl v_in_places)), (a_out, .inr (3, [.ref a_out_places, .int v_out_limit, .int v_out_first, .int v_out_size])), (a_out_places, .inl (cA, 32, .inl v_out_places)), (a_modem, .inr (1, [.int v_modem_control, .int v_modem_changes, .int v_modem_given])), (a_log, .inr (4, [.ref a_log_latest, .int v_log_size])), (a_log_latest, .inl (cA, 32, .inl v_log_latest))] _ := hP
  have hD : va_D A [(a0, .inr (2, [.ref a_in, .ref a_out, .ref a_modem, .ref a_log, .int v_queued, .int v_level, .int v_enabled, .int v_format, .int v_spare, .int v_low, .int v_high, .int v_overrun, .int v_vacated, .int v_quiet, .int v_shifting, .int v_ticksToGo])), (a_in, .inr (3, [.ref a_in_places, .int v_in_limit, .int v_in_first, .int v_in_size])), (a_in_places, .inl (cA, 32, .inl v_in_places)), (a_out, .inr (3, [.ref a_out_places, .int v_out_limit, .int v_out_first, .int v_out_size])), (a_out_places, .inl (cA, 32, .inl v_out_places)), (a_modem, .inr (1, [.int v_modem_control, .int v_modem_changes, .int v_modem_given])), (a_log, .inr (4, [.ref a_log_latest, .int v_log_size])), (a_log_latest, .inl (cA, 32, .inl v_log_latest))] := hD
  refine wi _ _ _ ?_
  have hl : lv_has ls 4 [(0, .ref a0), (1, .int p_1), (2, .int p_2)] := hl
  refine lv_iload_n hx hb d_P_arrive_0 rfl (lv_at hl 1 rfl) ?_
  refine lv_sipush (v := 256) hx hb d_P_arrive_1 (by decide) ?_
  refine lv_iload_n hx hb d_P_arrive_4 rfl (lv_at hl 2 rfl) ?_
  refine lv_imul hx hb d_P_arrive_5 ?_
  refine lv_iadd hx hb d_P_arrive_6 ?_
  refine lv_istore_n (lv' := [(3, .int (p_1 + (256 * p_2))), (0, .ref a0), (1, .int p_1), (2, .int p_2)]) hx hb d_P_arrive_7 rfl hl (by decide) rfl (fun ls hl => ?_)
  refine lv_aload_n hx hb d_P_arrive_8 rfl (lv_at hl 1 rfl) ?_
  refine lv_iconst (v := 0) hx hb d_P_arrive_9 (by decide) ?_
  refine va_put (D := (dC, dI)) (ci := 2) (v := .int 0) (ty := .int) (C := cls_P) (T := fld_P) (N := 16) hx hb ht iin_P typ_P tok_P nam_P hown hK hP hD hS 0 rfl rfl 13 (by decide) (ht _ k_P_99) (fun _ h9 => h9) rfl (tok_P 13 (by decide)) rfl rfl (Nat.le_of_ble_eq_true rfl) d_P_arrive_10 (fun H locs hP hD hS => ?_)
  have hP : va_P (dC, dI) cls [(a0, .inr (2, [.ref a_in, .ref a_out, .ref a_modem, .ref a_log, .int v_queued, .int v_level, .int v_enabled, .int v_format, .int v_spare, .int v_low, .int v_high, .int v_overrun, .int v_vacated, .int 0, .int v_shifting, .int v_ticksToGo])), (a_in, .inr (3, [.ref a_in_places, .int v_in_limit, .int v_in_first, .int v_in_size])), (a_in_places, .inl (cA, 32, .inl v_in_places)), (a_out, .inr (3, [.ref a_out_places, .int v_out_limit, .int v_out_first, .int v_out_size])), (a_out_places, .inl (cA, 32, .inl v_out_places)), (a_modem, .inr (1, [.int v_modem_control, .int v_modem_changes, .int v_modem_given])), (a_log, .inr (4, [.ref a_log_latest, .int v_log_size])), (a_log_latest, .inl (cA, 32, .inl v_log_latest))] _ := hP
  have hD : va_D A [(a0, .inr (2, [.ref a_in, .ref a_out, .ref a_modem, .ref a_log, .int v_queued, .int v_level, .int v_enabled, .int v_format, .int v_spare, .int v_low, .int v_high, .int v_overrun, .int v_vacated, .int 0, .int v_shifting, .int v_ticksToGo])), (a_in, .inr (3, [.ref a_in_places, .int v_in_limit, .int v_in_first, .int v_in_size])), (a_in_places, .inl (cA, 32, .inl v_in_places)), (a_out, .inr (3, [.ref a_out_places, .int v_out_limit, .int v_out_first, .int v_out_size])), (a_out_places, .inl (cA, 32, .inl v_out_places)), (a_modem, .inr (1, [.int v_modem_control, .int v_modem_changes, .int v_modem_given])), (a_log, .inr (4, [.ref a_log_latest, .int v_log_size])), (a_log_latest, .inl (cA, 32, .inl v_log_latest))] := hD
  refine lv_aload_n hx hb d_P_arrive_13 rfl (lv_at hl 1 rfl) ?_
  refine va_get (D := (dC, dI)) (ci := 2) (v := .ref a_in) (C := cls_P) (T := fld_P) (N := 16) hx hb ht iin_P hown hK hP 0 rfl rfl 0 (by decide) (ht _ k_P_12) (fun _ h9 => h9) rfl d_P_arrive_14 ?_
  obtain ⟨q_17, hc_17, hf⟩ := bind_e hf
  refine cVr_ (wc := cw_R cA a_in a_in_places (v_in_limit, v_in_first, v_in_size, v_in_places)) (wr := [(a0, .inr (2, [.ref a_in, .ref a_out, .ref a_modem, .ref a_log, .int v_queued, .int v_level, .int v_enabled, .int v_format, .int v_spare, .int v_low, .int v_high, .int v_overrun, .int v_vacated, .int 0, .int v_shifting, .int v_ticksToGo])), (a_out, .inr (3, [.ref a_out_places, .int v_out_limit, .int v_out_first, .int v_out_size])), (a_out_places, .inl (cA, 32, .inl v_out_places)), (a_modem, .inr (1, [.int v_modem_control, .int v_modem_changes, .int v_modem_given])), (a_log, .inr (4, [.ref a_log_latest, .int v_log_size])), (a_log_latest, .inl (cA, 32, .inl v_log_latest))]) (As := []) (rest := []) ⟨hx, hb, hml, hown, ht⟩ (c_R_isFull l dC dI cA t a_in a_in_places _ (v_in_limit, v_in_first, v_in_size, v_in_places)  q_17 hc_17) (cwV 0 ht (gV_ k_P_146 ki_R_isFull ks_R_isFull kn_R kc_R_isFull) rfl rfl rfl ⟨rfl, hd_R_isFull⟩ ⟨Nat.le_of_ble_eq_true rfl, Nat.le_of_ble_eq_true rfl⟩) hK hZ hA hP hD hS [1, 2] [0, 3, 4, 5, 6, 7] rfl rfl (by decide) (by decide) (by decide) rfl rfl rfl rfl hl.1 (Nat.le_of_ble_eq_true rfl) d_P_arrive_17 ⟨Nat.le_of_ble_eq_true rfl, Nat.le_of_ble_eq_true rfl⟩ (fun r_17 H locs hw hP hD hS => ?_)
  subst hw
  have hP : va_P (dC, dI) cls [(a0, .inr (2, [.ref a_in, .ref a_out, .ref a_modem, .ref a_log, .int v_queued, .int v_level, .int v_enabled, .int v_format, .int v_spare, .int v_low, .int v_high, .int v_overrun, .int v_vacated, .int 0, .int v_shifting, .int v_ticksToGo])), (a_in, .inr (3, [.ref a_in_places, .int v_in_limit, .int v_in_first, .int v_in_size])), (a_in_places, .inl (cA, 32, .inl v_in_places)), (a_out, .inr (3, [.ref a_out_places, .int v_out_limit, .int v_out_first, .int v_out_size])), (a_out_places, .inl (cA, 32, .inl v_out_places)), (a_modem, .inr (1, [.int v_modem_control, .int v_modem_changes, .int v_modem_given])), (a_log, .inr (4, [.ref a_log_latest, .int v_log_size])), (a_log_latest, .inl (cA, 32, .inl v_log_latest))] _ := hP.sub [0, 6, 7, 1, 2, 3, 4, 5] rfl
  have hD : va_D A [(a0, .inr (2, [.ref a_in, .ref a_out, .ref a_modem, .ref a_log, .int v_queued, .int v_level, .int v_enabled, .int v_format, .int v_spare, .int v_low, .int v_high, .int v_overrun, .int v_vacated, .int 0, .int v_shifting, .int v_ticksToGo])), (a_in, .inr (3, [.ref a_in_places, .int v_in_limit, .int v_in_first, .int v_in_size])), (a_in_places, .inl (cA, 32, .inl v_in_places)), (a_out, .inr (3, [.ref a_out_places, .int v_out_limit, .int v_out_first, .int v_out_size])), (a_out_places, .inl (cA, 32, .inl v_out_places)), (a_modem, .inr (1, [.int v_modem_control, .int v_modem_changes, .int v_modem_given])), (a_log, .inr (4, [.ref a_log_latest, .int v_log_size])), (a_log_latest, .inl (cA, 32, .inl v_log_latest))] := hD.sub [0, 6, 7, 1, 2, 3, 4, 5] (by decide) rfl
  refine lv_if_ne (tgt := 32) hx hb d_P_arrive_20 (by decide) (fun c_20 => ?_) (fun c_20 => ?_)
  · have hf := ite_f hf c_20
    refine lv_aload_n hx hb d_P_arrive_32 rfl (lv_at hl 1 rfl) ?_
    refine lv_iconst (v := 1) hx hb d_P_arrive_33 (by decide) ?_
    refine va_put (D := (dC, dI)) (ci := 2) (v := .int 1) (ty := .boolean) (C := cls_P) (T := fld_P) (N := 16) hx hb ht iin_P typ_P tok_P nam_P hown hK hP hD hS 0 rfl rfl 11 (by decide) (ht _ k_P_86) (fun _ h9 => h9) rfl (tok_P 11 (by decide)) rfl rfl (Nat.le_of_ble_eq_true rfl) d_P_arrive_34 (fun H locs hP hD hS => ?_)
    have hP : va_P (dC, dI) cls [(a0, .inr (2, [.ref a_in, .ref a_out, .ref a_modem, .ref a_log, .int v_queued, .int v_level, .int v_enabled, .int v_format, .int v_spare, .int v_low, .int v_high, .int 1, .int v_vacated, .int 0, .int v_shifting, .int v_ticksToGo])), (a_in, .inr (3, [.ref a_in_places, .int v_in_limit, .int v_in_first, .int v_in_size])), (a_in_places, .inl (cA, 32, .inl v_in_places)), (a_out, .inr (3, [.ref a_out_places, .int v_out_limit, .int v_out_first, .int v_out_size])), (a_out_places, .inl (cA, 32, .inl v_out_places)), (a_modem, .inr (1, [.int v_modem_control, .int v_modem_changes, .int v_modem_given])), (a_log, .inr (4, [.ref a_log_latest, .int v_log_size])), (a_log_latest, .inl (cA, 32, .inl v_log_latest))] _ := hP
    have hD : va_D A [(a0, .inr (2, [.ref a_in, .ref a_out, .ref a_modem, .ref a_log, .int v_queued, .int v_level, .int v_enabled, .int v_format, .int v_spare, .int v_low, .int v_high, .int 1, .int v_vacated, .int 0, .int v_shifting, .int v_ticksToGo])), (a_in, .inr (3, [.ref a_in_places, .int v_in_limit, .int v_in_first, .int v_in_size])), (a_in_places, .inl (cA, 32, .inl v_in_places)), (a_out, .inr (3, [.ref a_out_places, .int v_out_limit, .int v_out_first, .int v_out_size])), (a_out_places, .inl (cA, 32, .inl v_out_places)), (a_modem, .inr (1, [.int v_modem_control, .int v_modem_changes, .int v_modem_given])), (a_log, .inr (4, [.ref a_log_latest, .int v_log_size])), (a_log_latest, .inl (cA, 32, .inl v_log_latest))] := hD
    refine lv_aload_n hx hb d_P_arrive_37 rfl (lv_at hl 1 rfl) ?_
    refine va_get (D := (dC, dI)) (ci := 2) (v := .int v_queued) (C := cls_P) (T := fld_P) (N := 16) hx hb ht iin_P hown hK hP 0 rfl rfl 4 (by decide) (ht _ k_P_96) (fun _ h9 => h9) rfl d_P_arrive_38 ?_
    refine lv_if_ne (tgt := 52) hx hb d_P_arrive_41 (by decide) (fun c_41 => ?_) (fun c_41 => ?_)
    · have hf := ite_f hf c_41
      exact wo _ _ _ (k_52 (v_queued, v_level, v_enabled, v_format, v_spare, v_low, v_high, 1, v_vacated, 0, v_shifting, v_ticksToGo, (v_in_limit, v_in_first, v_in_size, v_in_places), (v_out_limit, v_out_first, v_out_size, v_out_places), (v_modem_control, v_modem_changes, v_modem_given), (v_log_size, v_log_latest)) hf _ _ _ hP hD hS (lv_sub hl [] rfl))
    · have hf := ite_t hf c_41
      refine lv_aload_n hx hb d_P_arrive_44 rfl (lv_at hl 1 rfl) ?_
      refine va_get (D := (dC, dI)) (ci := 2) (v := .ref a_in) (C := cls_P) (T := fld_P) (N := 16) hx hb ht iin_P hown hK hP 0 rfl rfl 0 (by decide) (ht _ k_P_12) (fun _ h9 => h9) rfl d_P_arrive_45 ?_
      refine lv_iload_n hx hb d_P_arrive_48 rfl (lv_at hl 0 rfl) ?_
      obtain ⟨q_49, hc_49, hf⟩ := bind_e hf
      refine cVv_ (wc := cw_R cA a_in a_in_places (v_in_limit, v_in_first, v_in_size, v_in_places)) (wr := [(a0, .inr (2, [.ref a_in, .ref a_out, .ref a_modem, .ref a_log, .int v_queued, .int v_level, .int v_enabled, .int v_format, .int v_spare, .int v_low, .int v_high, .int 1, .int v_vacated, .int 0, .int v_shifting, .int v_ticksToGo])), (a_out, .inr (3, [.ref a_out_places, .int v_out_limit, .int v_out_first, .int v_out_size])), (a_out_places, .inl (cA, 32, .inl v_out_places)), (a_modem, .inr (1, [.int v_modem_control, .int v_modem_changes, .int v_modem_given])), (a_log, .inr (4, [.ref a_log_latest, .int v_log_size])), (a_log_latest, .inl (cA, 32, .inl v_log_latest))]) (As := [.int (p_1 + (256 * p_2))]) (rest := []) ⟨hx, hb, hml, hown, ht⟩ (c_R_replaceOldest l dC dI cA t a_in a_in_places _ (v_in_limit, v_in_first, v_in_size, v_in_places) (p_1 + (256 * p_2)) q_49 hc_49) (cwV 1 ht (gV_ k_P_124 ki_R_replaceOldest ks_R_replaceOldest kn_R kc_R_replaceOldest) rfl rfl rfl ⟨rfl, hd_R_replaceOldest⟩ ⟨Nat.le_of_ble_eq_true rfl, Nat.le_of_ble_eq_true rfl⟩) hK hZ hA hP hD hS [1, 2] [0, 3, 4, 5, 6, 7] rfl rfl (by decide) (by decide) (by decide) rfl rfl rfl rfl hl.1 (Nat.le_of_ble_eq_true rfl) d_P_arrive_49 ⟨Nat.le_of_ble_eq_true rfl, Nat.le_of_ble_eq_true rfl⟩ (fun u H locs hw hP hD hS => ?_)
      obtain ⟨v_in_limit_49, v_in_first_49, v_in_size_49, v_in_places_49⟩ := u
      subst hw
      have hP : va_P (dC, dI) cls [(a0, .inr (2, [.ref a_in, .ref a_out, .ref a_modem, .ref a_log, .int v_queued, .int v_level, .int v_enabled, .int v_format, .int v_spare, .int v_low, .int v_high, .int 1, .int v_vacated, .int 0, .int v_shifting, .int v_ticksToGo])), (a_in, .inr (3, [.ref a_in_places, .int v_in_limit_49, .int v_in_first_49, .int v_in_size_49])), (a_in_places, .inl (cA, 32, .inl v_in_places_49)), (a_out, .inr (3, [.ref a_out_places, .int v_out_limit, .int v_out_first, .int v_out_size])), (a_out_places, .inl (cA, 32, .inl v_out_places)), (a_modem, .inr (1, [.int v_modem_control, .int v_modem_changes, .int v_modem_given])), (a_log, .inr (4, [.ref a_log_latest, .int v_log_size])), (a_log_latest, .inl (cA, 32, .inl v_log_latest))] _ := hP.sub [0, 6, 7, 1, 2, 3, 4, 5] rfl
      have hD : va_D A [(a0, .inr (2, [.ref a_in, .ref a_out, .ref a_modem, .ref a_log, .int v_queued, .int v_level, .int v_enabled, .int v_format, .int v_spare, .int v_low, .int v_high, .int 1, .int v_vacated, .int 0, .int v_shifting, .int v_ticksToGo])), (a_in, .inr (3, [.ref a_in_places, .int v_in_limit_49, .int v_in_first_49, .int v_in_size_49])), (a_in_places, .inl (cA, 32, .inl v_in_places_49)), (a_out, .inr (3, [.ref a_out_places, .int v_out_limit, .int v_out_first, .int v_out_size])), (a_out_places, .inl (cA, 32, .inl v_out_places)), (a_modem, .inr (1, [.int v_modem_control, .int v_modem_changes, .int v_modem_given])), (a_log, .inr (4, [.ref a_log_latest, .int v_log_size])), (a_log_latest, .inl (cA, 32, .inl v_log_latest))] := hD.sub [0, 6, 7, 1, 2, 3, 4, 5] (by decide) rfl
      try dsimp only at hf
      exact wo _ _ _ (k_52 (v_queued, v_level, v_enabled, v_format, v_spare, v_low, v_high, 1, v_vacated, 0, v_shifting, v_ticksToGo, (v_in_limit_49, v_in_first_49, v_in_size_49, v_in_places_49), (v_out_limit, v_out_first, v_out_size, v_out_places), (v_modem_control, v_modem_changes, v_modem_given), (v_log_size, v_log_latest)) hf _ _ _ hP hD hS (lv_sub hl [] rfl))
  · have hf := ite_t hf c_20
    refine lv_aload_n hx hb d_P_arrive_23 rfl (lv_at hl 1 rfl) ?_
    refine va_get (D := (dC, dI)) (ci := 2) (v := .ref a_in) (C := cls_P) (T := fld_P) (N := 16) hx hb ht iin_P hown hK hP 0 rfl rfl 0 (by decide) (ht _ k_P_12) (fun _ h9 => h9) rfl d_P_arrive_24 ?_
    refine lv_iload_n hx hb d_P_arrive_27 rfl (lv_at hl 0 rfl) ?_
    obtain ⟨q_28, hc_28, hf⟩ := bind_e hf
    refine cVv_ (wc := cw_R cA a_in a_in_places (v_in_limit, v_in_first, v_in_size, v_in_places)) (wr := [(a0, .inr (2, [.ref a_in, .ref a_out, .ref a_modem, .ref a_log, .int v_queued, .int v_level, .int v_enabled, .int v_format, .int v_spare, .int v_low, .int v_high, .int v_overrun, .int v_vacated, .int 0, .int v_shifting, .int v_ticksToGo])), (a_out, .inr (3, [.ref a_out_places, .int v_out_limit, .int v_out_first, .int v_out_size])), (a_out_places, .inl (cA, 32, .inl v_out_places)), (a_modem, .inr (1, [.int v_modem_control, .int v_modem_changes, .int v_modem_given])), (a_log, .inr (4, [.ref a_log_latest, .int v_log_size])), (a_log_latest, .inl (cA, 32, .inl v_log_latest))]) (As := [.int (p_1 + (256 * p_2))]) (rest := []) ⟨hx, hb, hml, hown, ht⟩ (c_R_append l dC dI cA t a_in a_in_places _ (v_in_limit, v_in_first, v_in_size, v_in_places) (p_1 + (256 * p_2)) q_28 hc_28) (cwV 1 ht (gV_ k_P_127 ki_R_append ks_R_append kn_R kc_R_append) rfl rfl rfl ⟨rfl, hd_R_append⟩ ⟨Nat.le_of_ble_eq_true rfl, Nat.le_of_ble_eq_true rfl⟩) hK hZ hA hP hD hS [1, 2] [0, 3, 4, 5, 6, 7] rfl rfl (by decide) (by decide) (by decide) rfl rfl rfl rfl hl.1 (Nat.le_of_ble_eq_true rfl) d_P_arrive_28 ⟨Nat.le_of_ble_eq_true rfl, Nat.le_of_ble_eq_true rfl⟩ (fun u H locs hw hP hD hS => ?_)
    obtain ⟨v_in_limit_28, v_in_first_28, v_in_size_28, v_in_places_28⟩ := u
    subst hw
    have hP : va_P (dC, dI) cls [(a0, .inr (2, [.ref a_in, .ref a_out, .ref a_modem, .ref a_log, .int v_queued, .int v_level, .int v_enabled, .int v_format, .int v_spare, .int v_low, .int v_high, .int v_overrun, .int v_vacated, .int 0, .int v_shifting, .int v_ticksToGo])), (a_in, .inr (3, [.ref a_in_places, .int v_in_limit_28, .int v_in_first_28, .int v_in_size_28])), (a_in_places, .inl (cA, 32, .inl v_in_places_28)), (a_out, .inr (3, [.ref a_out_places, .int v_out_limit, .int v_out_first, .int v_out_size])), (a_out_places, .inl (cA, 32, .inl v_out_places)), (a_modem, .inr (1, [.int v_modem_control, .int v_modem_changes, .int v_modem_given])), (a_log, .inr (4, [.ref a_log_latest, .int v_log_size])), (a_log_latest, .inl (cA, 32, .inl v_log_latest))] _ := hP.sub [0, 6, 7, 1, 2, 3, 4, 5] rfl
    have hD : va_D A [(a0, .inr (2, [.ref a_in, .ref a_out, .ref a_modem, .ref a_log, .int v_queued, .int v_level, .int v_enabled, .int v_format, .int v_spare, .int v_low, .int v_high, .int v_overrun, .int v_vacated, .int 0, .int v_shifting, .int v_ticksToGo])), (a_in, .inr (3, [.ref a_in_places, .int v_in_limit_28, .int v_in_first_28, .int v_in_size_28])), (a_in_places, .inl (cA, 32, .inl v_in_places_28)), (a_out, .inr (3, [.ref a_out_places, .int v_out_limit, .int v_out_first, .int v_out_size])), (a_out_places, .inl (cA, 32, .inl v_out_places)), (a_modem, .inr (1, [.int v_modem_control, .int v_modem_changes, .int v_modem_given])), (a_log, .inr (4, [.ref a_log_latest, .int v_log_size])), (a_log_latest, .inl (cA, 32, .inl v_log_latest))] := hD.sub [0, 6, 7, 1, 2, 3, 4, 5] (by decide) rfl
    try dsimp only at hf
    exact W.vret hx hb hr (fun t9 ht9 _ => rv_ (Option.some.inj hf) hP hD hS ht9) hS.2.2 d_P_arrive_31
def f_P_sendOff_27 : PtT → Option (PtT)
  | (v_queued, v_level, v_enabled, v_format, v_spare, v_low, v_high, v_overrun, v_vacated, v_quiet, v_shifting, v_ticksToGo, (v_in_limit, v_in_first, v_in_size, v_in_places), (v_out_limit, v_out_first, v_out_size, v_out_places), (v_modem_control, v_modem_changes, v_modem_given), (v_log_size, v_log_latest)) => some (v_queued, v_level, v_enabled, v_format, v_spare, v_low, v_high, v_overrun, v_vacated, v_quiet, v_shifting, v_ticksToGo, (v_in_limit, v_in_first, v_in_size, v_in_places), (v_out_limit, v_out_first, v_out_size, v_out_places), (v_modem_control, v_modem_changes, v_modem_given), (v_log_size, v_log_latest))
def f_P_sendOff : PtT → Int32 → Option (PtT)
  | (v_queued, v_level, v_enabled, v_format, v_spare, v_low, v_high, v_overrun, v_vacated, v_quiet, v_shifting, v_ticksToGo, (v_in_limit, v_in_first, v_in_size, v_in_places), (v_out_limit, v_out_first, v_out_size, v_out_places), (v_modem_control, v_modem_changes, v_modem_given), (v_log_size, v_log_latest)), p_1 => Option.bind (f_M_isLooped (v_modem_control, v_modem_changes, v_modem_given)) (fun r_4 => if r_4 = 0 then (Option.bind (f_S_add (v_log_size, v_log_latest) p_1) (fun q_24 => match q_24 with | (v_log_size_24, v_log_latest_24) => f_P_sendOff_27 (v_queued, v_level, v_enabled, v_format, v_spare, v_low, v_high, v_overrun, v_vacated, v_quiet, v_shifting, v_ticksToGo, (v_in_limit, v_in_first, v_in_size, v_in_places), (v_out_limit, v_out_first, v_out_size, v_out_places), (v_modem_control, v_modem_changes, v_modem_given), (v_log_size_24, v_log_latest_24)))) else (Option.bind (f_P_arrive (v_queued, v_level, v_enabled, v_format, v_spare, v_low, v_high, v_overrun, v_vacated, v_quiet, v_shifting, v_ticksToGo, (v_in_limit, v_in_first, v_in_size, v_in_places), (v_out_limit, v_out_first, v_out_size, v_out_places), (v_modem_control, v_modem_changes, v_modem_given), (v_log_size, v_log_latest)) p_1 0) (fun q_13 => match q_13 with | (v_queued_13, v_level_13, v_enabled_13, v_format_13, v_spare_13, v_low_13, v_high_13, v_overrun_13, v_vacated_13, v_quiet_13, v_shifting_13, v_ticksToGo_13, (v_in_limit_13, v_in_first_13, v_in_size_13, v_in_places_13), (v_out_limit_13, v_out_first_13, v_out_size_13, v_out_places_13), (v_modem_control_13, v_modem_changes_13, v_modem_given_13), (v_log_size_13, v_log_latest_13)) => f_P_sendOff_27 (v_queued_13, v_level_13, v_enabled_13, v_format_13, v_spare_13, v_low_13, v_high_13, v_overrun_13, v_vacated_13, v_quiet_13, v_shifting_13, v_ticksToGo_13, (v_in_limit_13, v_in_first_13, v_in_size_13, v_in_places_13), (v_out_limit_13, v_out_first_13, v_out_size_13, v_out_places_13), (v_modem_control_13, v_modem_changes_13, v_modem_given_13), (v_log_size_13, v_log_latest_13)))))
set_option maxHeartbeats 8000000 in
set_option maxRecDepth 100000 in
theorem c_P_sendOff (l : Launch) (dC : Nat → ClassId) (dI : Nat → Nat → Nat) (cA : ClassId) (t : Nat) (a0 a_in a_in_places a_out a_out_places a_modem a_log a_log_latest : Nat) (sz : Nat) (u : PtT) (p_1 : Int32) (q : PtT) (hf : f_P_sendOff u p_1 = some q) : Met l y_P_sendOff (Cond.code y_P_sendOff b_P_sendOff 2 none :: W0) ({ frames := 2, cells := 0, slots := 0, locals := 44 }) (va_Pc [.ref a0, .int p_1] (pc_ (dC, dI) [(cA, .int)] t sz (cw_P cA a0 a_in a_in_places a_out a_out_places a_modem a_log a_log_latest u))) (qv_ (dC, dI) (cw_P cA a0 a_in a_in_places a_out a_out_places a_modem a_log a_log_latest) q (va_A (cw_P cA a0 a_in a_in_places a_out a_out_places a_modem a_log a_log_latest u) sz)) 0 0 (va_A (cw_P cA a0 a_in a_in_places a_out a_out_places a_modem a_log a_log_latest u) sz) := by
  refine start_ l (qv_ (dC, dI) (cw_P cA a0 a_in a_in_places a_out a_out_places a_modem a_log a_log_latest) q) (by decide) (Nat.le_of_ble_eq_true rfl) ?_
  intro p e s m below meth c hx hb hml hr hown ht hlocks hnm A hA hS hP hK hD hZ ls hl
  have hown : s.vm.findClass cls_P = some m.cls := hown
  refine wabs_ (fun WW wi wo => ?_)
  have k_27 : ∀ (u : PtT), f_P_sendOff_27 u = some q → ∀ (H : Heap) (locs : List Loc) (ls : Array Slot), va_P (dC, dI) cls (cw_P cA a0 a_in a_in_places a_out a_out_places a_modem a_log a_log_latest u) H → va_D A (cw_P cA a0 a_in a_in_places a_out a_out_places a_modem a_log a_log_latest u) → va_S A s.heap H locs → lv_has ls 2 [] → WW H locs (F0 m 27 ls []) := by
    intro u hf H locs ls hP hD hS hl
    obtain ⟨v_queued, v_level, v_enabled, v_format, v_spare, v_low, v_high, v_overrun, v_vacated, v_quiet, v_shifting, v_ticksToGo, ⟨v_in_limit, v_in_first, v_in_size, v_in_places⟩, ⟨v_out_limit, v_out_first, v_out_size, v_out_places⟩, ⟨v_modem_control, v_modem_changes, v_modem_given⟩, ⟨v_log_size, v_log_latest⟩⟩ := u
    unfold f_P_sendOff_27 at hf
    try dsimp only at hf
    have hP : va_P (dC, dI) cls [(a0, .inr (2, [.ref a_in, .ref a_out, .ref a_modem, .ref a_log, .int v_queued, .int v_level, .int v_enabled, .int v_format, .int v_spare, .int v_low, .int v_high, .int v_overrun, .int v_vacated, .int v_quiet, .int v_shifting, .int v_ticksToGo])), (a_in, .inr (3, [.ref a_in_places, .int v_in_limit, .int v_in_first, .int v_in_size])), (a_in_places, .inl (cA, 32, .inl v_in_places)), (a_out, .inr (3, [.ref a_out_places, .int v_out_limit, .int v_out_first, .int v_out_size])), (a_out_places, .inl (cA, 32, .inl v_out_places)), (a_modem, .inr (1, [.int v_modem_control, .int v_modem_changes, .int v_modem_given])), (a_log, .inr (4, [.ref a_log_latest, .int v_log_size])), (a_log_latest, .inl (cA, 32, .inl v_log_latest))] _ := hP
    have hD : va_D A [(a0, .inr (2, [.ref a_in, .ref a_out, .ref a_modem, .ref a_log, .int v_queued, .int v_level, .int v_enabled, .int v_format, .int v_spare, .int v_low, .int v_high, .int v_overrun, .int v_vacated, .int v_quiet, .int v_shifting, .int v_ticksToGo])), (a_in, .inr (3, [.ref a_in_places, .int v_in_limit, .int v_in_first, .int v_in_size])), (a_in_places, .inl (cA, 32, .inl v_in_places)), (a_out, .inr (3, [.ref a_out_places, .int v_out_limit, .int v_out_first, .int v_out_size])), (a_out_places, .inl (cA, 32, .inl v_out_places)), (a_modem, .inr (1, [.int v_modem_control, .int v_modem_changes, .int v_modem_given])), (a_log, .inr (4, [.ref a_log_latest, .int v_log_size])), (a_log_latest, .inl (cA, 32, .inl v_log_latest))] := hD
    refine wi _ _ _ ?_
    exact W.vret hx hb hr (fun t9 ht9 _ => rv_ (Option.some.inj hf) hP hD hS ht9) hS.2.2 d_P_sendOff_27
  obtain ⟨v_queued, v_level, v_enabled, v_format, v_spare, v_low, v_high, v_overrun, v_vacated, v_quiet, v_shifting, v_ticksToGo, ⟨v_in_limit, v_in_first, v_in_size, v_in_places⟩, ⟨v_out_limit, v_out_first, v_out_size, v_out_places⟩, ⟨v_modem_control, v_modem_changes, v_modem_given⟩, ⟨v_log_size, v_log_latest⟩⟩ := u
  unfold f_P_sendOff at hf
  try dsimp only at hf
  have hP : va_P (dC, dI) cls [(a0, .inr (2, [.ref a_in, .ref a_out, .ref a_modem, .ref a_log, .int v_queued, .int v_level, .int v_enabled, .int v_format, .int v_spare, .int v_low, .int v_high, .int v_overrun, .int v_vacated, .int v_quiet, .int v_shifting, .int v_ticksToGo])), (a_in, .inr (3, [.ref a_in_places, .int v_in_limit, .int v_in_first, .int v_in_size])), (a_in_places, .inl (cA, 32, .inl v_in_places)), (a_out, .inr (3, [.ref a_out_places, .int v_out_limit, .int v_out_first, .int v_out_size])), (a_out_places, .inl (cA, 32, .inl v_out_places)), (a_modem, .inr (1, [.int v_modem_control, .int v_modem_changes, .int v_modem_given])), (a_log, .inr (4, [.ref a_log_latest, .int v_log_size])), (a_log_latest, .inl (cA, 32, .inl v_log_latest))] _ := hP
  have hD : va_D A [(a0, .inr (2, [.ref a_in, .ref a_out, .ref a_modem, .ref a_log, .int v_queued, .int v_level, .int v_enabled, .int v_format, .int v_spare, .int v_low, .int v_high, .int v_overrun, .int v_vacated, .int v_quiet, .int v_shifting, .int v_ticksToGo])), (a_in, .inr (3, [.ref a_in_places, .int v_in_limit, .int v_in_first, .int v_in_size])), (a_in_places, .inl (cA, 32, .inl v_in_places)), (a_out, .inr (3, [.ref a_out_places, .int v_out_limit, .int v_out_first, .int v_out_size])), (a_out_places, .inl (cA, 32, .inl v_out_places)), (a_modem, .inr (1, [.int v_modem_control, .int v_modem_changes, .int v_modem_given])), (a_log, .inr (4, [.ref a_log_latest, .int v_log_size])), (a_log_latest, .inl (cA, 32, .inl v_log_latest))] := hD
  refine wi _ _ _ ?_
  have hl : lv_has ls 2 [(0, .ref a0), (1, .int p_1)] := hl
  refine lv_aload_n hx hb d_P_sendOff_0 rfl (lv_at hl 0 rfl) ?_
  refine va_get (D := (dC, dI)) (ci := 2) (v := .ref a_modem) (C := cls_P) (T := fld_P) (N := 16) hx hb ht iin_P hown hK hP 0 rfl rfl 2 (by decide) (ht _ k_P_24) (fun _ h9 => h9) rfl d_P_sendOff_1 ?_
  obtain ⟨q_4, hc_4, hf⟩ := bind_e hf
  refine cVr_ (wc := cw_M cA a_modem (v_modem_control, v_modem_changes, v_modem_given)) (wr := [(a0, .inr (2, [.ref a_in, .ref a_out, .ref a_modem, .ref a_log, .int v_queued, .int v_level, .int v_enabled, .int v_format, .int v_spare, .int v_low, .int v_high, .int v_overrun, .int v_vacated, .int v_quiet, .int v_shifting, .int v_ticksToGo])), (a_in, .inr (3, [.ref a_in_places, .int v_in_limit, .int v_in_first, .int v_in_size])), (a_in_places, .inl (cA, 32, .inl v_in_places)), (a_out, .inr (3, [.ref a_out_places, .int v_out_limit, .int v_out_first, .int v_out_size])), (a_out_places, .inl (cA, 32, .inl v_out_places)), (a_log, .inr (4, [.ref a_log_latest, .int v_log_size])), (a_log_latest, .inl (cA, 32, .inl v_log_latest))]) (As := []) (rest := []) ⟨hx, hb, hml, hown, ht⟩ (c_M_isLooped l dC dI cA t a_modem _ (v_modem_control, v_modem_changes, v_modem_given)  q_4 hc_4) (cwV 0 ht (gV_ k_P_152 ki_M_isLooped ks_M_isLooped kn_M kc_M_isLooped) rfl rfl rfl ⟨rfl, hd_M_isLooped⟩ ⟨Nat.le_of_ble_eq_true rfl, Nat.le_of_ble_eq_true rfl⟩) hK hZ hA hP hD hS [5] [0, 1, 2, 3, 4, 6, 7] rfl rfl (by decide) (by decide) (by decide) rfl rfl rfl rfl hl.1 (Nat.le_of_ble_eq_true rfl) d_P_sendOff_4 ⟨Nat.le_of_ble_eq_true rfl, Nat.le_of_ble_eq_true rfl⟩ (fun r_4 H locs hw hP hD hS => ?_)
  subst hw
  have hP : va_P (dC, dI) cls [(a0, .inr (2, [.ref a_in, .ref a_out, .ref a_modem, .ref a_log, .int v_queued, .int v_level, .int v_enabled, .int v_format, .int v_spare, .int v_low, .int v_high, .int v_overrun, .int v_vacated, .int v_quiet, .int v_shifting, .int v_ticksToGo])), (a_in, .inr (3, [.ref a_in_places, .int v_in_limit, .int v_in_first, .int v_in_size])), (a_in_places, .inl (cA, 32, .inl v_in_places)), (a_out, .inr (3, [.ref a_out_places, .int v_out_limit, .int v_out_first, .int v_out_size])), (a_out_places, .inl (cA, 32, .inl v_out_places)), (a_modem, .inr (1, [.int v_modem_control, .int v_modem_changes, .int v_modem_given])), (a_log, .inr (4, [.ref a_log_latest, .int v_log_size])), (a_log_latest, .inl (cA, 32, .inl v_log_latest))] _ := hP.sub [0, 1, 2, 3, 4, 7, 5, 6] rfl
  have hD : va_D A [(a0, .inr (2, [.ref a_in, .ref a_out, .ref a_modem, .ref a_log, .int v_queued, .int v_level, .int v_enabled, .int v_format, .int v_spare, .int v_low, .int v_high, .int v_overrun, .int v_vacated, .int v_quiet, .int v_shifting, .int v_ticksToGo])), (a_in, .inr (3, [.ref a_in_places, .int v_in_limit, .int v_in_first, .int v_in_size])), (a_in_places, .inl (cA, 32, .inl v_in_places)), (a_out, .inr (3, [.ref a_out_places, .int v_out_limit, .int v_out_first, .int v_out_size])), (a_out_places, .inl (cA, 32, .inl v_out_places)), (a_modem, .inr (1, [.int v_modem_control, .int v_modem_changes, .int v_modem_given])), (a_log, .inr (4, [.ref a_log_latest, .int v_log_size])), (a_log_latest, .inl (cA, 32, .inl v_log_latest))] := hD.sub [0, 1, 2, 3, 4, 7, 5, 6] (by decide) rfl
  refine lv_if_eq (tgt := 19) hx hb d_P_sendOff_7 (by decide) (fun c_7 => ?_) (fun c_7 => ?_)
  · have hf := ite_t hf c_7
    refine lv_aload_n hx hb d_P_sendOff_19 rfl (lv_at hl 0 rfl) ?_
    refine va_get (D := (dC, dI)) (ci := 2) (v := .ref a_log) (C := cls_P) (T := fld_P) (N := 16) hx hb ht iin_P hown hK hP 0 rfl rfl 3 (by decide) (ht _ k_P_31) (fun _ h9 => h9) rfl d_P_sendOff_20 ?_
    refine lv_iload_n hx hb d_P_sendOff_23 rfl (lv_at hl 1 rfl) ?_
    obtain ⟨q_24, hc_24, hf⟩ := bind_e hf
    refine cVv_ (wc := cw_S cA a_log a_log_latest (v_log_size, v_log_latest)) (wr := [(a0, .inr (2, [.ref a_in, .ref a_out, .ref a_modem, .ref a_log, .int v_queued, .int v_level, .int v_enabled, .int v_format, .int v_spare, .int v_low, .int v_high, .int v_overrun, .int v_vacated, .int v_quiet, .int v_shifting, .int v_ticksToGo])), (a_in, .inr (3, [.ref a_in_places, .int v_in_limit, .int v_in_first, .int v_in_size])), (a_in_places, .inl (cA, 32, .inl v_in_places)), (a_out, .inr (3, [.ref a_out_places, .int v_out_limit, .int v_out_first, .int v_out_size])), (a_out_places, .inl (cA, 32, .inl v_out_places)), (a_modem, .inr (1, [.int v_modem_control, .int v_modem_changes, .int v_modem_given]))]) (As := [.int p_1]) (rest := []) ⟨hx, hb, hml, hown, ht⟩ (c_S_add l dC dI cA t a_log a_log_latest _ (v_log_size, v_log_latest) p_1 q_24 hc_24) (cwV 1 ht (gV_ k_P_159 ki_S_add ks_S_add kn_S kc_S_add) rfl rfl rfl ⟨rfl, hd_S_add⟩ ⟨Nat.le_of_ble_eq_true rfl, Nat.le_of_ble_eq_true rfl⟩) hK hZ hA hP hD hS [6, 7] [0, 1, 2, 3, 4, 5] rfl rfl (by decide) (by decide) (by decide) rfl rfl rfl rfl hl.1 (Nat.le_of_ble_eq_true rfl) d_P_sendOff_24 ⟨Nat.le_of_ble_eq_true rfl, Nat.le_of_ble_eq_true rfl⟩ (fun u H locs hw hP hD hS => ?_)
    obtain ⟨v_log_size_24, v_log_latest_24⟩ := u
    subst hw
    have hP : va_P (dC, dI) cls [(a0, .inr (2, [.ref a_in, .ref a_out, .ref a_modem, .ref a_log, .int v_queued, .int v_level, .int v_enabled, .int v_format, .int v_spare, .int v_low, .int v_high, .int v_overrun, .int v_vacated, .int v_quiet, .int v_shifting, .int v_ticksToGo])), (a_in, .inr (3, [.ref a_in_places, .int v_in_limit, .int v_in_first, .int v_in_size])), (a_in_places, .inl (cA, 32, .inl v_in_places)), (a_out, .inr (3, [.ref a_out_places, .int v_out_limit, .int v_out_first, .int v_out_size])), (a_out_places, .inl (cA, 32, .inl v_out_places)), (a_modem, .inr (1, [.int v_modem_control, .int v_modem_changes, .int v_modem_given])), (a_log, .inr (4, [.ref a_log_latest, .int v_log_size_24])), (a_log_latest, .inl (cA, 32, .inl v_log_latest_24))] _ := hP.sub [0, 1, 2, 3, 4, 5, 6, 7] rfl
    have hD : va_D A [(a0, .inr (2, [.ref a_in, .ref a_out, .ref a_modem, .ref a_log, .int v_queued, .int v_level, .int v_enabled, .int v_format, .int v_spare, .int v_low, .int v_high, .int v_overrun, .int v_vacated, .int v_quiet, .int v_shifting, .int v_ticksToGo])), (a_in, .inr (3, [.ref a_in_places, .int v_in_limit, .int v_in_first, .int v_in_size])), (a_in_places, .inl (cA, 32, .inl v_in_places)), (a_out, .inr (3, [.ref a_out_places, .int v_out_limit, .int v_out_first, .int v_out_size])), (a_out_places, .inl (cA, 32, .inl v_out_places)), (a_modem, .inr (1, [.int v_modem_control, .int v_modem_changes, .int v_modem_given])), (a_log, .inr (4, [.ref a_log_latest, .int v_log_size_24])), (a_log_latest, .inl (cA, 32, .inl v_log_latest_24))] := hD.sub [0, 1, 2, 3, 4, 5, 6, 7] (by decide) rfl
    try dsimp only at hf
    exact wo _ _ _ (k_27 (v_queued, v_level, v_enabled, v_format, v_spare, v_low, v_high, v_overrun, v_vacated, v_quiet, v_shifting, v_ticksToGo, (v_in_limit, v_in_first, v_in_size, v_in_places), (v_out_limit, v_out_first, v_out_size, v_out_places), (v_modem_control, v_modem_changes, v_modem_given), (v_log_size_24, v_log_latest_24)) hf _ _ _ hP hD hS (lv_sub hl [] rfl))
  · have hf := ite_f hf c_7
    refine lv_aload_n hx hb d_P_sendOff_10 rfl (lv_at hl 0 rfl) ?_
    refine lv_iload_n hx hb d_P_sendOff_11 rfl (lv_at hl 1 rfl) ?_
    refine lv_iconst (v := 0) hx hb d_P_sendOff_12 (by decide) ?_
    obtain ⟨q_13, hc_13, hf⟩ := bind_e hf
    refine cVv_ (wc := cw_P cA a0 a_in a_in_places a_out a_out_places a_modem a_log a_log_latest (v_queued, v_level, v_enabled, v_format, v_spare, v_low, v_high, v_overrun, v_vacated, v_quiet, v_shifting, v_ticksToGo, (v_in_limit, v_in_first, v_in_size, v_in_places), (v_out_limit, v_out_first, v_out_size, v_out_places), (v_modem_control, v_modem_changes, v_modem_given), (v_log_size, v_log_latest))) (wr := []) (As := [.int p_1, .int 0]) (rest := []) ⟨hx, hb, hml, hown, ht⟩ (c_P_arrive l dC dI cA t a0 a_in a_in_places a_out a_out_places a_modem a_log a_log_latest _ (v_queued, v_level, v_enabled, v_format, v_spare, v_low, v_high, v_overrun, v_vacated, v_quiet, v_shifting, v_ticksToGo, (v_in_limit, v_in_first, v_in_size, v_in_places), (v_out_limit, v_out_first, v_out_size, v_out_places), (v_modem_control, v_modem_changes, v_modem_given), (v_log_size, v_log_latest)) p_1 0 q_13 hc_13) (cwV 2 ht (gV_ k_P_155 ki_P_arrive ks_P_arrive kn_P kc_P_arrive) rfl rfl rfl ⟨rfl, hd_P_arrive⟩ ⟨Nat.le_of_ble_eq_true rfl, Nat.le_of_ble_eq_true rfl⟩) hK hZ hA hP hD hS [0, 1, 2, 3, 4, 5, 6, 7] [] rfl rfl (by decide) (by decide) (by decide) rfl rfl rfl rfl hl.1 (Nat.le_of_ble_eq_true rfl) d_P_sendOff_13 ⟨Nat.le_of_ble_eq_true rfl, Nat.le_of_ble_eq_true rfl⟩ (fun u H locs hw hP hD hS => ?_)
    obtain ⟨v_queued_13, v_level_13, v_enabled_13, v_format_13, v_spare_13, v_low_13, v_high_13, v_overrun_13, v_vacated_13, v_quiet_13, v_shifting_13, v_ticksToGo_13, ⟨v_in_limit_13, v_in_first_13, v_in_size_13, v_in_places_13⟩, ⟨v_out_limit_13, v_out_first_13, v_out_size_13, v_out_places_13⟩, ⟨v_modem_control_13, v_modem_changes_13, v_modem_given_13⟩, ⟨v_log_size_13, v_log_latest_13⟩⟩ := u
    subst hw
    have hP : va_P (dC, dI) cls [(a0, .inr (2, [.ref a_in, .ref a_out, .ref a_modem, .ref a_log, .int v_queued_13, .int v_level_13, .int v_enabled_13, .int v_format_13, .int v_spare_13, .int v_low_13, .int v_high_13, .int v_overrun_13, .int v_vacated_13, .int v_quiet_13, .int v_shifting_13, .int v_ticksToGo_13])), (a_in, .inr (3, [.ref a_in_places, .int v_in_limit_13, .int v_in_first_13, .int v_in_size_13])), (a_in_places, .inl (cA, 32, .inl v_in_places_13)), (a_out, .inr (3, [.ref a_out_places, .int v_out_limit_13, .int v_out_first_13, .int v_out_size_13])), (a_out_places, .inl (cA, 32, .inl v_out_places_13)), (a_modem, .inr (1, [.int v_modem_control_13, .int v_modem_changes_13, .int v_modem_given_13])), (a_log, .inr (4, [.ref a_log_latest, .int v_log_size_13])), (a_log_latest, .inl (cA, 32, .inl v_log_latest_13))] _ := hP.sub [0, 1, 2, 3, 4, 5, 6, 7] rfl
    have hD : va_D A [(a0, .inr (2, [.ref a_in, .ref a_out, .ref a_modem, .ref a_log, .int v_queued_13, .int v_level_13, .int v_enabled_13, .int v_format_13, .int v_spare_13, .int v_low_13, .int v_high_13, .int v_overrun_13, .int v_vacated_13, .int v_quiet_13, .int v_shifting_13, .int v_ticksToGo_13])), (a_in, .inr (3, [.ref a_in_places, .int v_in_limit_13, .int v_in_first_13, .int v_in_size_13])), (a_in_places, .inl (cA, 32, .inl v_in_places_13)), (a_out, .inr (3, [.ref a_out_places, .int v_out_limit_13, .int v_out_first_13, .int v_out_size_13])), (a_out_places, .inl (cA, 32, .inl v_out_places_13)), (a_modem, .inr (1, [.int v_modem_control_13, .int v_modem_changes_13, .int v_modem_given_13])), (a_log, .inr (4, [.ref a_log_latest, .int v_log_size_13])), (a_log_latest, .inl (cA, 32, .inl v_log_latest_13))] := hD.sub [0, 1, 2, 3, 4, 5, 6, 7] (by decide) rfl
    try dsimp only at hf
    refine lv_goto (tgt := 27) hx hb d_P_sendOff_16 (by decide) ?_
    exact wo _ _ _ (k_27 (v_queued_13, v_level_13, v_enabled_13, v_format_13, v_spare_13, v_low_13, v_high_13, v_overrun_13, v_vacated_13, v_quiet_13, v_shifting_13, v_ticksToGo_13, (v_in_limit_13, v_in_first_13, v_in_size_13, v_in_places_13), (v_out_limit_13, v_out_first_13, v_out_size_13, v_out_places_13), (v_modem_control_13, v_modem_changes_13, v_modem_given_13), (v_log_size_13, v_log_latest_13)) hf _ _ _ hP hD hS (lv_sub hl [] rfl))
def f_P_passTick_79 : PtT → Int32 → Option (Int32 × PtT)
  | (v_queued, v_level, v_enabled, v_format, v_spare, v_low, v_high, v_overrun, v_vacated, v_quiet, v_shifting, v_ticksToGo, (v_in_limit, v_in_first, v_in_size, v_in_places), (v_out_limit, v_out_first, v_out_size, v_out_places), (v_modem_control, v_modem_changes, v_modem_given), (v_log_size, v_log_latest)), x_1 => gb_ x_1 (some (x_1, (v_queued, v_level, v_enabled, v_format, v_spare, v_low, v_high, v_overrun, v_vacated, v_quiet, v_shifting, v_ticksToGo, (v_in_limit, v_in_first, v_in_size, v_in_places), (v_out_limit, v_out_first, v_out_size, v_out_places), (v_modem_control, v_modem_changes, v_modem_given), (v_log_size, v_log_latest))))
def f_P_passTick_55 : PtT → Int32 → Option (Int32 × PtT)
  | (v_queued, v_level, v_enabled, v_format, v_spare, v_low, v_high, v_overrun, v_vacated, v_quiet, v_shifting, v_ticksToGo, (v_in_limit, v_in_first, v_in_size, v_in_places), (v_out_limit, v_out_first, v_out_size, v_out_places), (v_modem_control, v_modem_changes, v_modem_given), (v_log_size, v_log_latest)), x_1 => Option.bind (f_P_moveIfPossible (v_queued, v_level, v_enabled, v_format, v_spare, v_low, v_high, v_overrun, v_vacated, v_quiet, v_shifting, v_ticksToGo, (v_in_limit, v_in_first, v_in_size, v_in_places), (v_out_limit, v_out_first, v_out_size, v_out_places), (v_modem_control, v_modem_changes, v_modem_given), (v_log_size, v_log_latest))) (fun q_56 => match q_56 with | (v_queued_56, v_level_56, v_enabled_56, v_format_56, v_spare_56, v_low_56, v_high_56, v_overrun_56, v_vacated_56, v_quiet_56, v_shifting_56, v_ticksToGo_56, (v_in_limit_56, v_in_first_56, v_in_size_56, v_in_places_56), (v_out_limit_56, v_out_first_56, v_out_size_56, v_out_places_56), (v_modem_control_56, v_modem_changes_56, v_modem_given_56), (v_log_size_56, v_log_latest_56)) => if v_in_size_56 ≤ 0 then (f_P_passTick_79 (v_queued_56, v_level_56, v_enabled_56, v_format_56, v_spare_56, v_low_56, v_high_56, v_overrun_56, v_vacated_56, v_quiet_56, v_shifting_56, v_ticksToGo_56, (v_in_limit_56, v_in_first_56, v_in_size_56, v_in_places_56), (v_out_limit_56, v_out_first_56, v_out_size_56, v_out_places_56), (v_modem_control_56, v_modem_changes_56, v_modem_given_56), (v_log_size_56, v_log_latest_56)) x_1) else (f_P_passTick_79 (v_queued_56, v_level_56, v_enabled_56, v_format_56, v_spare_56, v_low_56, v_high_56, v_overrun_56, v_vacated_56, (v_quiet_56 + 1), v_shifting_56, v_ticksToGo_56, (v_in_limit_56, v_in_first_56, v_in_size_56, v_in_places_56), (v_out_limit_56, v_out_first_56, v_out_size_56, v_out_places_56), (v_modem_control_56, v_modem_changes_56, v_modem_given_56), (v_log_size_56, v_log_latest_56)) x_1))
def f_P_passTick_31 : PtT → Int32 → Option (Int32 × PtT)
  | (v_queued, v_level, v_enabled, v_format, v_spare, v_low, v_high, v_overrun, v_vacated, v_quiet, v_shifting, v_ticksToGo, (v_in_limit, v_in_first, v_in_size, v_in_places), (v_out_limit, v_out_first, v_out_size, v_out_places), (v_modem_control, v_modem_changes, v_modem_given), (v_log_size, v_log_latest)), x_1 => if x_1 = 0 then (f_P_passTick_55 (v_queued, v_level, v_enabled, v_format, v_spare, v_low, v_high, v_overrun, v_vacated, v_quiet, v_shifting, v_ticksToGo, (v_in_limit, v_in_first, v_in_size, v_in_places), (v_out_limit, v_out_first, v_out_size, v_out_places), (v_modem_control, v_modem_changes, v_modem_given), (v_log_size, v_log_latest)) x_1) else (Option.bind (f_P_sendOff (v_queued, v_level, v_enabled, v_format, v_spare, v_low, v_high, v_overrun, v_vacated, v_quiet, v_shifting, v_ticksToGo, (v_in_limit, v_in_first, v_in_size, v_in_places), (v_out_limit, v_out_first, v_out_size, v_out_places), (v_modem_control, v_modem_changes, v_modem_given), (v_log_size, v_log_latest)) (v_shifting &&& ((32 <<< (((v_format &&& 3) : Int32) &&& 31)) - 1))) (fun q_52 => match q_52 with | (v_queued_52, v_level_52, v_enabled_52, v_format_52, v_spare_52, v_low_52, v_high_52, v_overrun_52, v_vacated_52, v_quiet_52, v_shifting_52, v_ticksToGo_52, (v_in_limit_52, v_in_first_52, v_in_size_52, v_in_places_52), (v_out_limit_52, v_out_first_52, v_out_size_52, v_out_places_52), (v_modem_control_52, v_modem_changes_52, v_modem_given_52), (v_log_size_52, v_log_latest_52)) => f_P_passTick_55 (v_queued_52, v_level_52, v_enabled_52, v_format_52, v_spare_52, v_low_52, v_high_52, v_overrun_52, v_vacated_52, v_quiet_52, v_shifting_52, v_ticksToGo_52, (v_in_limit_52, v_in_first_52, v_in_size_52, v_in_places_52), (v_out_limit_52, v_out_first_52, v_out_size_52, v_out_places_52), (v_modem_control_52, v_modem_changes_52, v_modem_given_52), (v_log_size_52, v_log_latest_52)) x_1))
def f_P_passTick_13 : PtT → Int32 → Option (Int32 × PtT)
  | (v_queued, v_level, v_enabled, v_format, v_spare, v_low, v_high, v_overrun, v_vacated, v_quiet, v_shifting, v_ticksToGo, (v_in_limit, v_in_first, v_in_size, v_in_places), (v_out_limit, v_out_first, v_out_size, v_out_places), (v_modem_control, v_modem_changes, v_modem_given), (v_log_size, v_log_latest)), s_1 => if v_ticksToGo ≤ 0 then (f_P_passTick_31 (v_queued, v_level, v_enabled, v_format, v_spare, v_low, v_high, v_overrun, v_vacated, v_quiet, v_shifting, v_ticksToGo, (v_in_limit, v_in_first, v_in_size, v_in_places), (v_out_limit, v_out_first, v_out_size, v_out_places), (v_modem_control, v_modem_changes, v_modem_given), (v_log_size, v_log_latest)) s_1) else (f_P_passTick_31 (v_queued, v_level, v_enabled, v_format, v_spare, v_low, v_high, v_overrun, v_vacated, v_quiet, v_shifting, (v_ticksToGo - 1), (v_in_limit, v_in_first, v_in_size, v_in_places), (v_out_limit, v_out_first, v_out_size, v_out_places), (v_modem_control, v_modem_changes, v_modem_given), (v_log_size, v_log_latest)) s_1)
def f_P_passTick : PtT → Option (Int32 × PtT)
  | (v_queued, v_level, v_enabled, v_format, v_spare, v_low, v_high, v_overrun, v_vacated, v_quiet, v_shifting, v_ticksToGo, (v_in_limit, v_in_first, v_in_size, v_in_places), (v_out_limit, v_out_first, v_out_size, v_out_places), (v_modem_control, v_modem_changes, v_modem_given), (v_log_size, v_log_latest)) => if v_ticksToGo = 1 then (f_P_passTick_13 (v_queued, v_level, v_enabled, v_format, v_spare, v_low, v_high, v_overrun, v_vacated, v_quiet, v_shifting, v_ticksToGo, (v_in_limit, v_in_first, v_in_size, v_in_places), (v_out_limit, v_out_first, v_out_size, v_out_places), (v_modem_control, v_modem_changes, v_modem_given), (v_log_size, v_log_latest)) 1) else (f_P_passTick_13 (v_queued, v_level, v_enabled, v_format, v_spare, v_low, v_high, v_overrun, v_vacated, v_quiet, v_shifting, v_ticksToGo, (v_in_limit, v_in_first, v_in_size, v_in_places), (v_out_limit, v_out_first, v_out_size, v_out_places), (v_modem_control, v_modem_changes, v_modem_given), (v_log_size, v_log_latest)) 0)
set_option maxHeartbeats 8000000 in
set_option maxRecDepth 100000 in
theorem c_P_passTick (l : Launch) (dC : Nat → ClassId) (dI : Nat → Nat → Nat) (cA : ClassId) (t : Nat) (a0 a_in a_in_places a_out a_out_places a_modem a_log a_log_latest : Nat) (sz : Nat) (u : PtT) (q : Int32 × PtT) (hf : f_P_passTick u = some q) : Met l y_P_passTick (Cond.code y_P_passTick b_P_passTick 2 (some .boolean) :: W0) ({ frames := 3, cells := 0, slots := 0, locals := 65 }) (va_Pc [.ref a0] (pc_ (dC, dI) [(cA, .int)] t sz (cw_P cA a0 a_in a_in_places a_out a_out_places a_modem a_log a_log_latest u))) (qi_ (dC, dI) (cw_P cA a0 a_in a_in_places a_out a_out_places a_modem a_log a_log_latest) q (va_A (cw_P cA a0 a_in a_in_places a_out a_out_places a_modem a_log a_log_latest u) sz)) 0 0 (va_A (cw_P cA a0 a_in a_in_places a_out a_out_places a_modem a_log a_log_latest u) sz) := by
  refine start_ l (qi_ (dC, dI) (cw_P cA a0 a_in a_in_places a_out a_out_places a_modem a_log a_log_latest) q) (by decide) (Nat.le_of_ble_eq_true rfl) ?_
  intro p e s m below meth c hx hb hml hr hown ht hlocks hnm A hA hS hP hK hD hZ ls hl
  have hown : s.vm.findClass cls_P = some m.cls := hown
  refine wabs_ (fun WW wi wo => ?_)
  have k_79 : ∀ (u : PtT) (x_1 : Int32), f_P_passTick_79 u x_1 = some q → ∀ (H : Heap) (locs : List Loc) (ls : Array Slot), va_P (dC, dI) cls (cw_P cA a0 a_in a_in_places a_out a_out_places a_modem a_log a_log_latest u) H → va_D A (cw_P cA a0 a_in a_in_places a_out a_out_places a_modem a_log a_log_latest u) → va_S A s.heap H locs → lv_has ls 2 [(1, .int x_1)] → WW H locs (F0 m 79 ls []) := by
    intro u x_1 hf H locs ls hP hD hS hl
    obtain ⟨v_queued, v_level, v_enabled, v_format, v_spare, v_low, v_high, v_overrun, v_vacated, v_quiet, v_shifting, v_ticksToGo, ⟨v_in_limit, v_in_first, v_in_size, v_in_places⟩, ⟨v_out_limit, v_out_first, v_out_size, v_out_places⟩, ⟨v_modem_control, v_modem_changes, v_modem_given⟩, ⟨v_log_size, v_log_latest⟩⟩ := u
    unfold f_P_passTick_79 at hf
    try dsimp only at hf
    have hP : va_P (dC, dI) cls [(a0, .inr (2, [.ref a_in, .ref a_out, .ref a_modem, .ref a_log, .int v_queued, .int v_level, .int v_enabled, .int v_format, .int v_spare, .int v_low, .int v_high, .int v_overrun, .int v_vacated, .int v_quiet, .int v_shifting, .int v_ticksToGo])), (a_in, .inr (3, [.ref a_in_places, .int v_in_limit, .int v_in_first, .int v_in_size])), (a_in_places, .inl (cA, 32, .inl v_in_places)), (a_out, .inr (3, [.ref a_out_places, .int v_out_limit, .int v_out_first, .int v_out_size])), (a_out_places, .inl (cA, 32, .inl v_out_places)), (a_modem, .inr (1, [.int v_modem_control, .int v_modem_changes, .int v_modem_given])), (a_log, .inr (4, [.ref a_log_latest, .int v_log_size])), (a_log_latest, .inl (cA, 32, .inl v_log_latest))] _ := hP
    have hD : va_D A [(a0, .inr (2, [.ref a_in, .ref a_out, .ref a_modem, .ref a_log, .int v_queued, .int v_level, .int v_enabled, .int v_format, .int v_spare, .int v_low, .int v_high, .int v_overrun, .int v_vacated, .int v_quiet, .int v_shifting, .int v_ticksToGo])), (a_in, .inr (3, [.ref a_in_places, .int v_in_limit, .int v_in_first, .int v_in_size])), (a_in_places, .inl (cA, 32, .inl v_in_places)), (a_out, .inr (3, [.ref a_out_places, .int v_out_limit, .int v_out_first, .int v_out_size])), (a_out_places, .inl (cA, 32, .inl v_out_places)), (a_modem, .inr (1, [.int v_modem_control, .int v_modem_changes, .int v_modem_given])), (a_log, .inr (4, [.ref a_log_latest, .int v_log_size])), (a_log_latest, .inl (cA, 32, .inl v_log_latest))] := hD
    refine wi _ _ _ ?_
    refine lv_iload_n hx hb d_P_passTick_79 rfl (lv_at hl 0 rfl) ?_
    obtain ⟨hb_80, hf⟩ := gb_e hf
    exact W.zret hx hb hr hb_80.1 (fun t9 ht9 _ => ri_ (Option.some.inj hf) hP hD hS ht9) hS.2.2 d_P_passTick_80
  have k_55 : ∀ (u : PtT) (x_1 : Int32), f_P_passTick_55 u x_1 = some q → ∀ (H : Heap) (locs : List Loc) (ls : Array Slot), va_P (dC, dI) cls (cw_P cA a0 a_in a_in_places a_out a_out_places a_modem a_log a_log_latest u) H → va_D A (cw_P cA a0 a_in a_in_places a_out a_out_places a_modem a_log a_log_latest u) → va_S A s.heap H locs → lv_has ls 2 [(0, .ref a0), (1, .int x_1)] → WW H locs (F0 m 55 ls []) := by
    intro u x_1 hf H locs ls hP hD hS hl
    obtain ⟨v_queued, v_level, v_enabled, v_format, v_spare, v_low, v_high, v_overrun, v_vacated, v_quiet, v_shifting, v_ticksToGo, ⟨v_in_limit, v_in_first, v_in_size, v_in_places⟩, ⟨v_out_limit, v_out_first, v_out_size, v_out_places⟩, ⟨v_modem_control, v_modem_changes, v_modem_given⟩, ⟨v_log_size, v_log_latest⟩⟩ := u
    unfold f_P_passTick_55 at hf
    try dsimp only at hf
    have hP : va_P (dC, dI) cls [(a0, .inr (2, [.ref a_in, .ref a_out, .ref a_modem, .ref a_log, .int v_queued, .int v_level, .int v_enabled, .int v_format, .int v_spare, .int v_low, .int v_high, .int v_overrun, .int v_vacated, .int v_quiet, .int v_shifting, .int v_ticksToGo])), (a_in, .inr (3, [.ref a_in_places, .int v_in_limit, .int v_in_first, .int v_in_size])), (a_in_places, .inl (cA, 32, .inl v_in_places)), (a_out, .inr (3, [.ref a_out_places, .int v_out_limit, .int v_out_first, .int v_out_size])), (a_out_places, .inl (cA, 32, .inl v_out_places)), (a_modem, .inr (1, [.int v_modem_control, .int v_modem_changes, .int v_modem_given])), (a_log, .inr (4, [.ref a_log_latest, .int v_log_size])), (a_log_latest, .inl (cA, 32, .inl v_log_latest))] _ := hP
    have hD : va_D A [(a0, .inr (2, [.ref a_in, .ref a_out, .ref a_modem, .ref a_log, .int v_queued, .int v_level, .int v_enabled, .int v_format, .int v_spare, .int v_low, .int v_high, .int v_overrun, .int v_vacated, .int v_quiet, .int v_shifting, .int v_ticksToGo])), (a_in, .inr (3, [.ref a_in_places, .int v_in_limit, .int v_in_first, .int v_in_size])), (a_in_places, .inl (cA, 32, .inl v_in_places)), (a_out, .inr (3, [.ref a_out_places, .int v_out_limit, .int v_out_first, .int v_out_size])), (a_out_places, .inl (cA, 32, .inl v_out_places)), (a_modem, .inr (1, [.int v_modem_control, .int v_modem_changes, .int v_modem_given])), (a_log, .inr (4, [.ref a_log_latest, .int v_log_size])), (a_log_latest, .inl (cA, 32, .inl v_log_latest))] := hD
    refine wi _ _ _ ?_
    refine lv_aload_n hx hb d_P_passTick_55 rfl (lv_at hl 0 rfl) ?_
    obtain ⟨q_56, hc_56, hf⟩ := bind_e hf
    refine cVv_ (wc := cw_P cA a0 a_in a_in_places a_out a_out_places a_modem a_log a_log_latest (v_queued, v_level, v_enabled, v_format, v_spare, v_low, v_high, v_overrun, v_vacated, v_quiet, v_shifting, v_ticksToGo, (v_in_limit, v_in_first, v_in_size, v_in_places), (v_out_limit, v_out_first, v_out_size, v_out_places), (v_modem_control, v_modem_changes, v_modem_given), (v_log_size, v_log_latest))) (wr := []) (As := []) (rest := []) ⟨hx, hb, hml, hown, ht⟩ (c_P_moveIfPossible l dC dI cA t a0 a_in a_in_places a_out a_out_places a_modem a_log a_log_latest _ (v_queued, v_level, v_enabled, v_format, v_spare, v_low, v_high, v_overrun, v_vacated, v_quiet, v_shifting, v_ticksToGo, (v_in_limit, v_in_first, v_in_size, v_in_places), (v_out_limit, v_out_first, v_out_size, v_out_places), (v_modem_control, v_modem_changes, v_modem_given), (v_log_size, v_log_latest))  q_56 hc_56) (cwV 0 ht (gV_ k_P_130 ki_P_moveIfPossible ks_P_moveIfPossible kn_P kc_P_moveIfPossible) rfl rfl rfl ⟨rfl, hd_P_moveIfPossible⟩ ⟨Nat.le_of_ble_eq_true rfl, Nat.le_of_ble_eq_true rfl⟩) hK hZ hA hP hD hS [0, 1, 2, 3, 4, 5, 6, 7] [] rfl rfl (by decide) (by decide) (by decide) rfl rfl rfl rfl hl.1 (Nat.le_of_ble_eq_true rfl) d_P_passTick_56 ⟨Nat.le_of_ble_eq_true rfl, Nat.le_of_ble_eq_true rfl⟩ (fun u H locs hw hP hD hS => ?_)
    obtain ⟨v_queued_56, v_level_56, v_enabled_56, v_format_56, v_spare_56, v_low_56, v_high_56, v_overrun_56, v_vacated_56, v_quiet_56, v_shifting_56, v_ticksToGo_56, ⟨v_in_limit_56, v_in_first_56, v_in_size_56, v_in_places_56⟩, ⟨v_out_limit_56, v_out_first_56, v_out_size_56, v_out_places_56⟩, ⟨v_modem_control_56, v_modem_changes_56, v_modem_given_56⟩, ⟨v_log_size_56, v_log_latest_56⟩⟩ := u
    subst hw
    have hP : va_P (dC, dI) cls [(a0, .inr (2, [.ref a_in, .ref a_out, .ref a_modem, .ref a_log, .int v_queued_56, .int v_level_56, .int v_enabled_56, .int v_format_56, .int v_spare_56, .int v_low_56, .int v_high_56, .int v_overrun_56, .int v_vacated_56, .int v_quiet_56, .int v_shifting_56, .int v_ticksToGo_56])), (a_in, .inr (3, [.ref a_in_places, .int v_in_limit_56, .int v_in_first_56, .int v_in_size_56])), (a_in_places, .inl (cA, 32, .inl v_in_places_56)), (a_out, .inr (3, [.ref a_out_places, .int v_out_limit_56, .int v_out_first_56, .int v_out_size_56])), (a_out_places, .inl (cA, 32, .inl v_out_places_56)), (a_modem, .inr (1, [.int v_modem_control_56, .int v_modem_changes_56, .int v_modem_given_56])), (a_log, .inr (4, [.ref a_log_latest, .int v_log_size_56])), (a_log_latest, .inl (cA, 32, .inl v_log_latest_56))] _ := hP.sub [0, 1, 2, 3, 4, 5, 6, 7] rfl
    have hD : va_D A [(a0, .inr (2, [.ref a_in, .ref a_out, .ref a_modem, .ref a_log, .int v_queued_56, .int v_level_56, .int v_enabled_56, .int v_format_56, .int v_spare_56, .int v_low_56, .int v_high_56, .int v_overrun_56, .int v_vacated_56, .int v_quiet_56, .int v_shifting_56, .int v_ticksToGo_56])), (a_in, .inr (3, [.ref a_in_places, .int v_in_limit_56, .int v_in_first_56, .int v_in_size_56])), (a_in_places, .inl (cA, 32, .inl v_in_places_56)), (a_out, .inr (3, [.ref a_out_places, .int v_out_limit_56, .int v_out_first_56, .int v_out_size_56])), (a_out_places, .inl (cA, 32, .inl v_out_places_56)), (a_modem, .inr (1, [.int v_modem_control_56, .int v_modem_changes_56, .int v_modem_given_56])), (a_log, .inr (4, [.ref a_log_latest, .int v_log_size_56])), (a_log_latest, .inl (cA, 32, .inl v_log_latest_56))] := hD.sub [0, 1, 2, 3, 4, 5, 6, 7] (by decide) rfl
    try dsimp only at hf
    refine lv_aload_n hx hb d_P_passTick_59 rfl (lv_at hl 0 rfl) ?_
    refine va_get (D := (dC, dI)) (ci := 2) (v := .ref a_in) (C := cls_P) (T := fld_P) (N := 16) hx hb ht iin_P hown hK hP 0 rfl rfl 0 (by decide) (ht _ k_P_12) (fun _ h9 => h9) rfl d_P_passTick_60 ?_
    refine va_get (D := (dC, dI)) (ci := 3) (v := .int v_in_size_56) (C := cls_R) (T := fld_R) (N := 4) hx hb ht iin_R hown hK hP 1 rfl rfl 3 (by decide) (ht _ k_P_93) (fun _ h9 => h9) rfl d_P_passTick_63 ?_
    refine lv_if_le (tgt := 79) hx hb d_P_passTick_66 (by decide) (fun c_66 => ?_) (fun c_66 => ?_)
    · have hf := ite_t hf c_66
      exact wo _ _ _ (k_79 (v_queued_56, v_level_56, v_enabled_56, v_format_56, v_spare_56, v_low_56, v_high_56, v_overrun_56, v_vacated_56, v_quiet_56, v_shifting_56, v_ticksToGo_56, (v_in_limit_56, v_in_first_56, v_in_size_56, v_in_places_56), (v_out_limit_56, v_out_first_56, v_out_size_56, v_out_places_56), (v_modem_control_56, v_modem_changes_56, v_modem_given_56), (v_log_size_56, v_log_latest_56)) x_1 hf _ _ _ hP hD hS (lv_sub hl [1] rfl))
    · have hf := ite_f hf c_66
      refine lv_aload_n hx hb d_P_passTick_69 rfl (lv_at hl 0 rfl) ?_
      refine lv_dup hx hb d_P_passTick_70 rfl ?_
      refine va_get (D := (dC, dI)) (ci := 2) (v := .int v_quiet_56) (C := cls_P) (T := fld_P) (N := 16) hx hb ht iin_P hown hK hP 0 rfl rfl 13 (by decide) (ht _ k_P_99) (fun _ h9 => h9) rfl d_P_passTick_71 ?_
      refine lv_iconst (v := 1) hx hb d_P_passTick_74 (by decide) ?_
      refine lv_iadd hx hb d_P_passTick_75 ?_
      refine va_put (D := (dC, dI)) (ci := 2) (v := .int (v_quiet_56 + 1)) (ty := .int) (C := cls_P) (T := fld_P) (N := 16) hx hb ht iin_P typ_P tok_P nam_P hown hK hP hD hS 0 rfl rfl 13 (by decide) (ht _ k_P_99) (fun _ h9 => h9) rfl (tok_P 13 (by decide)) rfl rfl (Nat.le_of_ble_eq_true rfl) d_P_passTick_76 (fun H locs hP hD hS => ?_)
      have hP : va_P (dC, dI) cls [(a0, .inr (2, [.ref a_in, .ref a_out, .ref a_modem, .ref a_log, .int v_queued_56, .int v_level_56, .int v_enabled_56, .int v_format_56, .int v_spare_56, .int v_low_56, .int v_high_56, .int v_overrun_56, .int v_vacated_56, .int (v_quiet_56 + 1), .int v_shifting_56, .int v_ticksToGo_56])), (a_in, .inr (3, [.ref a_in_places, .int v_in_limit_56, .int v_in_first_56, .int v_in_size_56])), (a_in_places, .inl (cA, 32, .inl v_in_places_56)), (a_out, .inr (3, [.ref a_out_places, .int v_out_limit_56, .int v_out_first_56, .int v_out_size_56])), (a_out_places, .inl (cA, 32, .inl v_out_places_56)), (a_modem, .inr (1, [.int v_modem_control_56, .int v_modem_changes_56, .int v_modem_given_56])), (a_log, .inr (4, [.ref a_log_latest, .int v_log_size_56])), (a_log_latest, .inl (cA, 32, .inl v_log_latest_56))] _ := hP
      have hD : va_D A [(a0, .inr (2, [.ref a_in, .ref a_out, .ref a_modem, .ref a_log, .int v_queued_56, .int v_level_56, .int v_enabled_56, .int v_format_56, .int v_spare_56, .int v_low_56, .int v_high_56, .int v_overrun_56, .int v_vacated_56, .int (v_quiet_56 + 1), .int v_shifting_56, .int v_ticksToGo_56])), (a_in, .inr (3, [.ref a_in_places, .int v_in_limit_56, .int v_in_first_56, .int v_in_size_56])), (a_in_places, .inl (cA, 32, .inl v_in_places_56)), (a_out, .inr (3, [.ref a_out_places, .int v_out_limit_56, .int v_out_first_56, .int v_out_size_56])), (a_out_places, .inl (cA, 32, .inl v_out_places_56)), (a_modem, .inr (1, [.int v_modem_control_56, .int v_modem_changes_56, .int v_modem_given_56])), (a_log, .inr (4, [.ref a_log_latest, .int v_log_size_56])), (a_log_latest, .inl (cA, 32, .inl v_log_latest_56))] := hD
      exact wo _ _ _ (k_79 (v_queued_56, v_level_56, v_enabled_56, v_format_56, v_spare_56, v_low_56, v_high_56, v_overrun_56, v_vacated_56, (v_quiet_56 + 1), v_shifting_56, v_ticksToGo_56, (v_in_limit_56, v_in_first_56, v_in_size_56, v_in_places_56), (v_out_limit_56, v_out_first_56, v_out_size_56, v_out_places_56), (v_modem_control_56, v_modem_changes_56, v_modem_given_56), (v_log_size_56, v_log_latest_56)) x_1 hf _ _ _ hP hD hS (lv_sub hl [1] rfl))
  have k_31 : ∀ (u : PtT) (x_1 : Int32), f_P_passTick_31 u x_1 = some q → ∀ (H : Heap) (locs : List Loc) (ls : Array Slot), va_P (dC, dI) cls (cw_P cA a0 a_in a_in_places a_out a_out_places a_modem a_log a_log_latest u) H → va_D A (cw_P cA a0 a_in a_in_places a_out a_out_places a_modem a_log a_log_latest u) → va_S A s.heap H locs → lv_has ls 2 [(0, .ref a0), (1, .int x_1)] → WW H locs (F0 m 31 ls []) := by
    intro u x_1 hf H locs ls hP hD hS hl
    obtain ⟨v_queued, v_level, v_enabled, v_format, v_spare, v_low, v_high, v_overrun, v_vacated, v_quiet, v_shifting, v_ticksToGo, ⟨v_in_limit, v_in_first, v_in_size, v_in_places⟩, ⟨v_out_limit, v_out_first, v_out_size, v_out_places⟩, ⟨v_modem_control, v_modem_changes, v_modem_given⟩, ⟨v_log_size, v_log_latest⟩⟩ := u
    unfold f_P_passTick_31 at hf
    try dsimp only at hf
    have hP : va_P (dC, dI) cls [(a0, .inr (2, [.ref a_in, .ref a_out, .ref a_modem, .ref a_log, .int v_queued, .int v_level, .int v_enabled, .int v_format, .int v_spare, .int v_low, .int v_high, .int v_overrun, .int v_vacated, .int v_quiet, .int v_shifting, .int v_ticksToGo])), (a_in, .inr (3, [.ref a_in_places, .int v_in_limit, .int v_in_first, .int v_in_size])), (a_in_places, .inl (cA, 32, .inl v_in_places)), (a_out, .inr (3, [.ref a_out_places, .int v_out_limit, .int v_out_first, .int v_out_size])), (a_out_places, .inl (cA, 32, .inl v_out_places)), (a_modem, .inr (1, [.int v_modem_control, .int v_modem_changes, .int v_modem_given])), (a_log, .inr (4, [.ref a_log_latest, .int v_log_size])), (a_log_latest, .inl (cA, 32, .inl v_log_latest))] _ := hP
    have hD : va_D A [(a0, .inr (2, [.ref a_in, .ref a_out, .ref a_modem, .ref a_log, .int v_queued, .int v_level, .int v_enabled, .int v_format, .int v_spare, .int v_low, .int v_high, .int v_overrun, .int v_vacated, .int v_quiet, .int v_shifting, .int v_ticksToGo])), (a_in, .inr (3, [.ref a_in_places, .int v_in_limit, .int v_in_first, .int v_in_size])), (a_in_places, .inl (cA, 32, .inl v_in_places)), (a_out, .inr (3, [.ref a_out_places, .int v_out_limit, .int v_out_first, .int v_out_size])), (a_out_places, .inl (cA, 32, .inl v_out_places)), (a_modem, .inr (1, [.int v_modem_control, .int v_modem_changes, .int v_modem_given])), (a_log, .inr (4, [.ref a_log_latest, .int v_log_size])), (a_log_latest, .inl (cA, 32, .inl v_log_latest))] := hD
    refine wi _ _ _ ?_
    refine lv_iload_n hx hb d_P_passTick_31 rfl (lv_at hl 1 rfl) ?_
    refine lv_if_eq (tgt := 55) hx hb d_P_passTick_32 (by decide) (fun c_32 => ?_) (fun c_32 => ?_)
    · have hf := ite_t hf c_32
      exact wo _ _ _ (k_55 (v_queued, v_level, v_enabled, v_format, v_spare, v_low, v_high, v_overrun, v_vacated, v_quiet, v_shifting, v_ticksToGo, (v_in_limit, v_in_first, v_in_size, v_in_places), (v_out_limit, v_out_first, v_out_size, v_out_places), (v_modem_control, v_modem_changes, v_modem_given), (v_log_size, v_log_latest)) x_1 hf _ _ _ hP hD hS (lv_sub hl [0, 1] rfl))
    · have hf := ite_f hf c_32
      refine lv_aload_n hx hb d_P_passTick_35 rfl (lv_at hl 0 rfl) ?_
      refine lv_aload_n hx hb d_P_passTick_36 rfl (lv_at hl 0 rfl) ?_
      refine va_get (D := (dC, dI)) (ci := 2) (v := .int v_shifting) (C := cls_P) (T := fld_P) (N := 16) hx hb ht iin_P hown hK hP 0 rfl rfl 14 (by decide) (ht _ k_P_143) (fun _ h9 => h9) rfl d_P_passTick_37 ?_
      refine lv_bipush (v := 32) hx hb d_P_passTick_40 (by decide) ?_
      refine lv_aload_n hx hb d_P_passTick_42 rfl (lv_at hl 0 rfl) ?_
      refine va_get (D := (dC, dI)) (ci := 2) (v := .int v_format) (C := cls_P) (T := fld_P) (N := 16) hx hb ht iin_P hown hK hP 0 rfl rfl 7 (by decide) (ht _ k_P_59) (fun _ h9 => h9) rfl d_P_passTick_43 ?_
      refine lv_iconst (v := 3) hx hb d_P_passTick_46 (by decide) ?_
      refine lv_iand hx hb d_P_passTick_47 ?_
      refine lv_ishl hx hb d_P_passTick_48 ?_
      refine lv_iconst (v := 1) hx hb d_P_passTick_49 (by decide) ?_
      refine lv_isub hx hb d_P_passTick_50 ?_
      refine lv_iand hx hb d_P_passTick_51 ?_
      obtain ⟨q_52, hc_52, hf⟩ := bind_e hf
      refine cVv_ (wc := cw_P cA a0 a_in a_in_places a_out a_out_places a_modem a_log a_log_latest (v_queued, v_level, v_enabled, v_format, v_spare, v_low, v_high, v_overrun, v_vacated, v_quiet, v_shifting, v_ticksToGo, (v_in_limit, v_in_first, v_in_size, v_in_places), (v_out_limit, v_out_first, v_out_size, v_out_places), (v_modem_control, v_modem_changes, v_modem_given), (v_log_size, v_log_latest))) (wr := []) (As := [.int (v_shifting &&& ((32 <<< (((v_format &&& 3) : Int32) &&& 31)) - 1))]) (rest := []) ⟨hx, hb, hml, hown, ht⟩ (c_P_sendOff l dC dI cA t a0 a_in a_in_places a_out a_out_places a_modem a_log a_log_latest _ (v_queued, v_level, v_enabled, v_format, v_spare, v_low, v_high, v_overrun, v_vacated, v_quiet, v_shifting, v_ticksToGo, (v_in_limit, v_in_first, v_in_size, v_in_places), (v_out_limit, v_out_first, v_out_size, v_out_places), (v_modem_control, v_modem_changes, v_modem_given), (v_log_size, v_log_latest)) (v_shifting &&& ((32 <<< (((v_format &&& 3) : Int32) &&& 31)) - 1)) q_52 hc_52) (cwV 1 ht (gV_ k_P_149 ki_P_sendOff ks_P_sendOff kn_P kc_P_sendOff) rfl rfl rfl ⟨rfl, hd_P_sendOff⟩ ⟨Nat.le_of_ble_eq_true rfl, Nat.le_of_ble_eq_true rfl⟩) hK hZ hA hP hD hS [0, 1, 2, 3, 4, 5, 6, 7] [] rfl rfl (by decide) (by decide) (by decide) rfl rfl rfl rfl hl.1 (Nat.le_of_ble_eq_true rfl) d_P_passTick_52 ⟨Nat.le_of_ble_eq_true rfl, Nat.le_of_ble_eq_true rfl⟩ (fun u H locs hw hP hD hS => ?_)
      obtain ⟨v_queued_52, v_level_52, v_enabled_52, v_format_52, v_spare_52, v_low_52, v_high_52, v_overrun_52, v_vacated_52, v_quiet_52, v_shifting_52, v_ticksToGo_52, ⟨v_in_limit_52, v_in_first_52, v_in_size_52, v_in_places_52⟩, ⟨v_out_limit_52, v_out_first_52, v_out_size_52, v_out_places_52⟩, ⟨v_modem_control_52, v_modem_changes_52, v_modem_given_52⟩, ⟨v_log_size_52, v_log_latest_52⟩⟩ := u
      subst hw
      have hP : va_P (dC, dI) cls [(a0, .inr (2, [.ref a_in, .ref a_out, .ref a_modem, .ref a_log, .int v_queued_52, .int v_level_52, .int v_enabled_52, .int v_format_52, .int v_spare_52, .int v_low_52, .int v_high_52, .int v_overrun_52, .int v_vacated_52, .int v_quiet_52, .int v_shifting_52, .int v_ticksToGo_52])), (a_in, .inr (3, [.ref a_in_places, .int v_in_limit_52, .int v_in_first_52, .int v_in_size_52])), (a_in_places, .inl (cA, 32, .inl v_in_places_52)), (a_out, .inr (3, [.ref a_out_places, .int v_out_limit_52, .int v_out_first_52, .int v_out_size_52])), (a_out_places, .inl (cA, 32, .inl v_out_places_52)), (a_modem, .inr (1, [.int v_modem_control_52, .int v_modem_changes_52, .int v_modem_given_52])), (a_log, .inr (4, [.ref a_log_latest, .int v_log_size_52])), (a_log_latest, .inl (cA, 32, .inl v_log_latest_52))] _ := hP.sub [0, 1, 2, 3, 4, 5, 6, 7] rfl
      have hD : va_D A [(a0, .inr (2, [.ref a_in, .ref a_out, .ref a_modem, .ref a_log, .int v_queued_52, .int v_level_52, .int v_enabled_52, .int v_format_52, .int v_spare_52, .int v_low_52, .int v_high_52, .int v_overrun_52, .int v_vacated_52, .int v_quiet_52, .int v_shifting_52, .int v_ticksToGo_52])), (a_in, .inr (3, [.ref a_in_places, .int v_in_limit_52, .int v_in_first_52, .int v_in_size_52])), (a_in_places, .inl (cA, 32, .inl v_in_places_52)), (a_out, .inr (3, [.ref a_out_places, .int v_out_limit_52, .int v_out_first_52, .int v_out_size_52])), (a_out_places, .inl (cA, 32, .inl v_out_places_52)), (a_modem, .inr (1, [.int v_modem_control_52, .int v_modem_changes_52, .int v_modem_given_52])), (a_log, .inr (4, [.ref a_log_latest, .int v_log_size_52])), (a_log_latest, .inl (cA, 32, .inl v_log_latest_52))] := hD.sub [0, 1, 2, 3, 4, 5, 6, 7] (by decide) rfl
      try dsimp only at hf
      exact wo _ _ _ (k_55 (v_queued_52, v_level_52, v_enabled_52, v_format_52, v_spare_52, v_low_52, v_high_52, v_overrun_52, v_vacated_52, v_quiet_52, v_shifting_52, v_ticksToGo_52, (v_in_limit_52, v_in_first_52, v_in_size_52, v_in_places_52), (v_out_limit_52, v_out_first_52, v_out_size_52, v_out_places_52), (v_modem_control_52, v_modem_changes_52, v_modem_given_52), (v_log_size_52, v_log_latest_52)) x_1 hf _ _ _ hP hD hS (lv_sub hl [0, 1] rfl))
  have k_13 : ∀ (u : PtT) (s_1 : Int32), f_P_passTick_13 u s_1 = some q → ∀ (H : Heap) (locs : List Loc) (ls : Array Slot), va_P (dC, dI) cls (cw_P cA a0 a_in a_in_places a_out a_out_places a_modem a_log a_log_latest u) H → va_D A (cw_P cA a0 a_in a_in_places a_out a_out_places a_modem a_log a_log_latest u) → va_S A s.heap H locs → lv_has ls 2 [(0, .ref a0)] → WW H locs (F0 m 13 ls [.int s_1]) := by
    intro u s_1 hf H locs ls hP hD hS hl
    obtain ⟨v_queued, v_level, v_enabled, v_format, v_spare, v_low, v_high, v_overrun, v_vacated, v_quiet, v_shifting, v_ticksToGo, ⟨v_in_limit, v_in_first, v_in_size, v_in_places⟩, ⟨v_out_limit, v_out_first, v_out_size, v_out_places⟩, ⟨v_modem_control, v_modem_changes, v_modem_given⟩, ⟨v_log_size, v_log_latest⟩⟩ := u
    unfold f_P_passTick_13 at hf
    try dsimp only at hf
    have hP : va_P (dC, dI) cls [(a0, .inr (2, [.ref a_in, .ref a_out, .ref a_modem, .ref a_log, .int v_queued, .int v_level, .int v_enabled, .int v_format, .int v_spare, .int v_low, .int v_high, .int v_overrun, .int v_vacated, .int v_quiet, .int v_shifting, .int v_ticksToGo])), (a_in, .inr (3, [.ref a_in_places, .int v_in_limit, .int v_in_first, .int v_in_size])), (a_in_places, .inl (cA, 32, .inl v_in_places)), (a_out, .inr (3, [.ref a_out_places, .int v_out_limit, .int v_out_first, .int v_out_size])), (a_out_places, .inl (cA, 32, .inl v_out_places)), (a_modem, .inr (1, [.int v_modem_control, .int v_modem_changes, .int v_modem_given])), (a_log, .inr (4, [.ref a_log_latest, .int v_log_size])), (a_log_latest, .inl (cA, 32, .inl v_log_latest))] _ := hP
    have hD : va_D A [(a0, .inr (2, [.ref a_in, .ref a_out, .ref a_modem, .ref a_log, .int v_queued, .int v_level, .int v_enabled, .int v_format, .int v_spare, .int v_low, .int v_high, .int v_overrun, .int v_vacated, .int v_quiet, .int v_shifting, .int v_ticksToGo])), (a_in, .inr (3, [.ref a_in_places, .int v_in_limit, .int v_in_first, .int v_in_size])), (a_in_places, .inl (cA, 32, .inl v_in_places)), (a_out, .inr (3, [.ref a_out_places, .int v_out_limit, .int v_out_first, .int v_out_size])), (a_out_places, .inl (cA, 32, .inl v_out_places)), (a_modem, .inr (1, [.int v_modem_control, .int v_modem_changes, .int v_modem_given])), (a_log, .inr (4, [.ref a_log_latest, .int v_log_size])), (a_log_latest, .inl (cA, 32, .inl v_log_latest))] := hD
    refine wi _ _ _ ?_
    refine lv_istore_n (lv' := [(1, .int s_1), (0, .ref a0)]) hx hb d_P_passTick_13 rfl hl (by decide) rfl (fun ls hl => ?_)
    refine lv_aload_n hx hb d_P_passTick_14 rfl (lv_at hl 1 rfl) ?_
    refine va_get (D := (dC, dI)) (ci := 2) (v := .int v_ticksToGo) (C := cls_P) (T := fld_P) (N := 16) hx hb ht iin_P hown hK hP 0 rfl rfl 15 (by decide) (ht _ k_P_117) (fun _ h9 => h9) rfl d_P_passTick_15 ?_
    refine lv_if_le (tgt := 31) hx hb d_P_passTick_18 (by decide) (fun c_18 => ?_) (fun c_18 => ?_)
    · have hf := ite_t hf c_18
      exact wo _ _ _ (k_31 (v_queued, v_level, v_enabled, v_format, v_spare, v_low, v_high, v_overrun, v_vacated, v_quiet, v_shifting, v_ticksToGo, (v_in_limit, v_in_first, v_in_size, v_in_places), (v_out_limit, v_out_first, v_out_size, v_out_places), (v_modem_control, v_modem_changes, v_modem_given), (v_log_size, v_log_latest)) s_1 hf _ _ _ hP hD hS (lv_sub hl [1, 0] rfl))
    · have hf := ite_f hf c_18
      refine lv_aload_n hx hb d_P_passTick_21 rfl (lv_at hl 1 rfl) ?_
      refine lv_dup hx hb d_P_passTick_22 rfl ?_
      refine va_get (D := (dC, dI)) (ci := 2) (v := .int v_ticksToGo) (C := cls_P) (T := fld_P) (N := 16) hx hb ht iin_P hown hK hP 0 rfl rfl 15 (by decide) (ht _ k_P_117) (fun _ h9 => h9) rfl d_P_passTick_23 ?_
      refine lv_iconst (v := 1) hx hb d_P_passTick_26 (by decide) ?_
      refine lv_isub hx hb d_P_passTick_27 ?_
      refine va_put (D := (dC, dI)) (ci := 2) (v := .int (v_ticksToGo - 1)) (ty := .int) (C := cls_P) (T := fld_P) (N := 16) hx hb ht iin_P typ_P tok_P nam_P hown hK hP hD hS 0 rfl rfl 15 (by decide) (ht _ k_P_117) (fun _ h9 => h9) rfl (tok_P 15 (by decide)) rfl rfl (Nat.le_of_ble_eq_true rfl) d_P_passTick_28 (fun H locs hP hD hS => ?_)
      have hP : va_P (dC, dI) cls [(a0, .inr (2, [.ref a_in, .ref a_out, .ref a_modem, .ref a_log, .int v_queued, .int v_level, .int v_enabled, .int v_format, .int v_spare, .int v_low, .int v_high, .int v_overrun, .int v_vacated, .int v_quiet, .int v_shifting, .int (v_ticksToGo - 1)])), (a_in, .inr (3, [.ref a_in_places, .int v_in_limit, .int v_in_first, .int v_in_size])), (a_in_places, .inl (cA, 32, .inl v_in_places)), (a_out, .inr (3, [.ref a_out_places, .int v_out_limit, .int v_out_first, .int v_out_size])), (a_out_places, .inl (cA, 32, .inl v_out_places)), (a_modem, .inr (1, [.int v_modem_control, .int v_modem_changes, .int v_modem_given])), (a_log, .inr (4, [.ref a_log_latest, .int v_log_size])), (a_log_latest, .inl (cA, 32, .inl v_log_latest))] _ := hP
      have hD : va_D A [(a0, .inr (2, [.ref a_in, .ref a_out, .ref a_modem, .ref a_log, .int v_queued, .int v_level, .int v_enabled, .int v_format, .int v_spare, .int v_low, .int v_high, .int v_overrun, .int v_vacated, .int v_quiet, .int v_shifting, .int (v_ticksToGo - 1)])), (a_in, .inr (3, [.ref a_in_places, .int v_in_limit, .int v_in_first, .int v_in_size])), (a_in_places, .inl (cA, 32, .inl v_in_places)), (a_out, .inr (3, [.ref a_out_places, .int v_out_limit, .int v_out_first, .int v_out_size])), (a_out_places, .inl (cA, 32, .inl v_out_places)), (a_modem, .inr (1, [.int v_modem_control, .int v_modem_changes, .int v_modem_given])), (a_log, .inr (4, [.ref a_log_latest, .int v_log_size])), (a_log_latest, .inl (cA, 32, .inl v_log_latest))] := hD
      exact wo _ _ _ (k_31 (v_queued, v_level, v_enabled, v_format, v_spare, v_low, v_high, v_overrun, v_vacated, v_quiet, v_shifting, (v_ticksToGo - 1), (v_in_limit, v_in_first, v_in_size, v_in_places), (v_out_limit, v_out_first, v_out_size, v_out_places), (v_modem_control, v_modem_changes, v_modem_given), (v_log_size, v_log_latest)) s_1 hf _ _ _ hP hD hS (lv_sub hl [1, 0] rfl))
  obtain ⟨v_queued, v_level, v_enabled, v_format, v_spare, v_low, v_high, v_overrun, v_vacated, v_quiet, v_shifting, v_ticksToGo, ⟨v_in_limit, v_in_first, v_in_size, v_in_places⟩, ⟨v_out_limit, v_out_first, v_out_size, v_out_places⟩, ⟨v_modem_control, v_modem_changes, v_modem_given⟩, ⟨v_log_size, v_log_latest⟩⟩ := u
  unfold f_P_passTick at hf
  try dsimp only at hf
  have hP : va_P (dC, dI) cls [(a0, .inr (2, [.ref a_in, .ref a_out, .ref a_modem, .ref a_log, .int v_queued, .int v_level, .int v_enabled, .int v_format, .int v_spare, .int v_low, .int v_high, .int v_overrun, .int v_vacated, .int v_quiet, .int v_shifting, .int v_ticksToGo])), (a_in, .inr (3, [.ref a_in_places, .int v_in_limit, .int v_in_first, .int v_in_size])), (a_in_places, .inl (cA, 32, .inl v_in_places)), (a_out, .inr (3, [.ref a_out_places, .int v_out_limit, .int v_out_first, .int v_out_size])), (a_out_places, .inl (cA, 32, .inl v_out_places)), (a_modem, .inr (1, [.int v_modem_control, .int v_modem_changes, .int v_modem_given])), (a_log, .inr (4, [.ref a_log_latest, .int v_log_size])), (a_log_latest, .inl (cA, 32, .inl v_log_latest))] _ := hP
  have hD : va_D A [(a0, .inr (2, [.ref a_in, .ref a_out, .ref a_modem, .ref a_log, .int v_queued, .int v_level, .int v_enabled, .int v_format, .int v_spare, .int v_low, .int v_high, .int v_overrun, .int v_vacated, .int v_quiet, .int v_shifting, .int v_ticksToGo])), (a_in, .inr (3, [.ref a_in_places, .int v_in_limit, .int v_in_first, .int v_in_size])), (a_in_places, .inl (cA, 32, .inl v_in_places)), (a_out, .inr (3, [.ref a_out_places, .int v_out_limit, .int v_out_first, .int v_out_size])), (a_out_places, .inl (cA, 32, .inl v_out_places)), (a_modem, .inr (1, [.int v_modem_control, .int v_modem_changes, .int v_modem_given])), (a_log, .inr (4, [.ref a_log_latest, .int v_log_size])), (a_log_latest, .inl (cA, 32, .inl v_log_latest))] := hD
  refine wi _ _ _ ?_
  have hl : lv_has ls 2 [(0, .ref a0)] := hl
  refine lv_aload_n hx hb d_P_passTick_0 rfl (lv_at hl 0 rfl) ?_
  refine va_get (D := (dC, dI)) (ci := 2) (v := .int v_ticksToGo) (C := cls_P) (T := fld_P) (N := 16) hx hb ht iin_P hown hK hP 0 rfl rfl 15 (by decide) (ht _ k_P_117) (fun _ h9 => h9) rfl d_P_passTick_1 ?_
  refine lv_iconst (v := 1) hx hb d_P_passTick_4 (by decide) ?_
  refine lv_icmp_ne (tgt := 12) hx hb d_P_passTick_5 (by decide) (fun c_5 => ?_) (fun c_5 => ?_)
  · have hf := ite_f hf c_5
    refine lv_iconst (v := 0) hx hb d_P_passTick_12 (by decide) ?_
    exact wo _ _ _ (k_13 (v_queued, v_level, v_enabled, v_format, v_spare, v_low, v_high, v_overrun, v_vacated, v_quiet, v_shifting, v_ticksToGo, (v_in_limit, v_in_first, v_in_size, v_in_places), (v_out_limit, v_out_first, v_out_size, v_out_places), (v_modem_control, v_modem_changes, v_modem_given), (v_log_size, v_log_latest)) 0 hf _ _ _ hP hD hS (lv_sub hl [0] rfl))
  · have hf := ite_t hf c_5
    refine lv_iconst (v := 1) hx hb d_P_passTick_8 (by decide) ?_
    refine lv_goto (tgt := 13) hx hb d_P_passTick_9 (by decide) ?_
    exact wo _ _ _ (k_13 (v_queued, v_level, v_enabled, v_format, v_spare, v_low, v_high, v_overrun, v_vacated, v_quiet, v_shifting, v_ticksToGo, (v_in_limit, v_in_first, v_in_size, v_in_places), (v_out_limit, v_out_first, v_out_size, v_out_places), (v_modem_control, v_modem_changes, v_modem_given), (v_log_size, v_log_latest)) 1 hf _ _ _ hP hD hS (lv_sub hl [0] rfl))
end
section
def f_P_load_81 : PtT → Int32 → Option (Int32 × PtT)
  | (v_queued, v_level, v_enabled, v_format, v_spare, v_low, v_high, v_overrun, v_vacated, v_quiet, v_shifting, v_ticksToGo, (v_in_limit, v_in_first, v_in_size, v_in_places), (v_out_limit, v_out_first, v_out_size, v_out_places), (v_modem_control, v_modem_changes, v_modem_given), (v_log_size, v_log_latest)), s_1 => some (s_1, (v_queued, v_level, v_enabled, v_format, v_spare, v_low, v_high, v_overrun, v_vacated, v_quiet, v_shifting, v_ticksToGo, (v_in_limit, v_in_first, v_in_size, v_in_places), (v_out_limit, v_out_first, v_out_size, v_out_places), (v_modem_control, v_modem_changes, v_modem_given), (v_log_size, v_log_latest)))
def f_P_load_62 : PtT → Int32 → Option (Int32 × PtT)
  | (v_queued, v_level, v_enabled, v_format, v_spare, v_low, v_high, v_overrun, v_vacated, v_quiet, v_shifting, v_ticksToGo, (v_in_limit, v_in_first, v_in_size, v_in_places), (v_out_limit, v_out_first, v_out_size, v_out_places), (v_modem_control, v_modem_changes, v_modem_given), (v_log_size, v_log_latest)), s_1 => some (s_1, (v_queued, v_level, v_enabled, v_format, v_spare, v_low, v_high, v_overrun, v_vacated, v_quiet, v_shifting, v_ticksToGo, (v_in_limit, v_in_first, v_in_size, v_in_places), (v_out_limit, v_out_first, v_out_size, v_out_places), (v_modem_control, v_modem_changes, v_modem_given), (v_log_size, v_log_latest)))
def f_P_load : PtT → Int32 → Option (Int32 × PtT)
  | (v_queued, v_level, v_enabled, v_format, v_spare, v_low, v_high, v_overrun, v_vacated, v_quiet, v_shifting, v_ticksToGo, (v_in_limit, v_in_first, v_in_size, v_in_places), (v_out_limit, v_out_first, v_out_size, v_out_places), (v_modem_control, v_modem_changes, v_modem_given), (v_log_size, v_log_latest)), p_1 => if p_1 = 0 then (Option.bind (f_P_usesOtherBank (v_queued, v_level, v_enabled, v_format, v_spare, v_low, v_high, v_overrun, v_vacated, v_quiet, v_shifting, v_ticksToGo, (v_in_limit, v_in_first, v_in_size, v_in_places), (v_out_limit, v_out_first, v_out_size, v_out_places), (v_modem_control, v_modem_changes, v_modem_given), (v_log_size, v_log_latest))) (fun r_45 => if r_45 = 0 then (Option.bind (f_P_takeIn (v_queued, v_level, v_enabled, v_format, v_spare, v_low, v_high, v_overrun, v_vacated, v_quiet, v_shifting, v_ticksToGo, (v_in_limit, v_in_first, v_in_size, v_in_places), (v_out_limit, v_out_first, v_out_size, v_out_places), (v_modem_control, v_modem_changes, v_modem_given), (v_log_size, v_log_latest))) (fun q_59 => match q_59 with | (r_59, (v_queued_59, v_level_59, v_enabled_59, v_format_59, v_spare_59, v_low_59, v_high_59, v_overrun_59, v_vacated_59, v_quiet_59, v_shifting_59, v_ticksToGo_59, (v_in_limit_59, v_in_first_59, v_in_size_59, v_in_places_59), (v_out_limit_59, v_out_first_59, v_out_size_59, v_out_places_59), (v_modem_control_59, v_modem_changes_59, v_modem_given_59), (v_log_size_59, v_log_latest_59))) => f_P_load_62 (v_queued_59, v_level_59, v_enabled_59, v_format_59, v_spare_59, v_low_59, v_high_59, v_overrun_59, v_vacated_59, v_quiet_59, v_shifting_59, v_ticksToGo_59, (v_in_limit_59, v_in_first_59, v_in_size_59, v_in_places_59), (v_out_limit_59, v_out_first_59, v_out_size_59, v_out_places_59), (v_modem_control_59, v_modem_changes_59, v_modem_given_59), (v_log_size_59, v_log_latest_59)) r_59)) else (f_P_load_62 (v_queued, v_level, v_enabled, v_format, v_spare, v_low, v_high, v_overrun, v_vacated, v_quiet, v_shifting, v_ticksToGo, (v_in_limit, v_in_first, v_in_size, v_in_places), (v_out_limit, v_out_first, v_out_size, v_out_places), (v_modem_control, v_modem_changes, v_modem_given), (v_log_size, v_log_latest)) v_low))) else (if p_1 = 1 then (Option.bind (f_P_usesOtherBank (v_queued, v_level, v_enabled, v_format, v_spare, v_low, v_high, v_overrun, v_vacated, v_quiet, v_shifting, v_ticksToGo, (v_in_limit, v_in_first, v_in_size, v_in_places), (v_out_limit, v_out_first, v_out_size, v_out_places), (v_modem_control, v_modem_changes, v_modem_given), (v_log_size, v_log_latest))) (fun r_64 => if r_64 = 0 then (f_P_load_81 (v_queued, v_level, v_enabled, v_format, v_spare, v_low, v_high, v_overrun, v_vacated, v_quiet, v_shifting, v_ticksToGo, (v_in_limit, v_in_first, v_in_size, v_in_places), (v_out_limit, v_out_first, v_out_size, v_out_places), (v_modem_control, v_modem_changes, v_modem_given), (v_log_size, v_log_latest)) v_enabled) else (f_P_load_81 (v_queued, v_level, v_enabled, v_format, v_spare, v_low, v_high, v_overrun, v_vacated, v_quiet, v_shifting, v_ticksToGo, (v_in_limit, v_in_first, v_in_size, v_in_places), (v_out_limit, v_out_first, v_out_size, v_out_places), (v_modem_control, v_modem_changes, v_modem_given), (v_log_size, v_log_latest)) v_high))) else (if p_1 = 2 then (Option.bind (f_P_identify (v_queued, v_level, v_enabled, v_format, v_spare, v_low, v_high, v_overrun, v_vacated, v_quiet, v_shifting, v_ticksToGo, (v_in_limit, v_in_first, v_in_size, v_in_places), (v_out_limit, v_out_first, v_out_size, v_out_places), (v_modem_control, v_modem_changes, v_modem_given), (v_log_size, v_log_latest))) (fun q_83 => match q_83 with | (r_83, (v_queued_83, v_level_83, v_enabled_83, v_format_83, v_spare_83, v_low_83, v_high_83, v_overrun_83, v_vacated_83, v_quiet_83, v_shifting_83, v_ticksToGo_83, (v_in_limit_83, v_in_first_83, v_in_size_83, v_in_places_83), (v_out_limit_83, v_out_first_83, v_out_size_83, v_out_places_83), (v_modem_control_83, v_modem_changes_83, v_modem_given_83), (v_log_size_83, v_log_latest_83))) => some (r_83, (v_queued_83, v_level_83, v_enabled_83, v_format_83, v_spare_83, v_low_83, v_high_83, v_overrun_83, v_vacated_83, v_quiet_83, v_shifting_83, v_ticksToGo_83, (v_in_limit_83, v_in_first_83, v_in_size_83, v_in_places_83), (v_out_limit_83, v_out_first_83, v_out_size_83, v_out_places_83), (v_modem_control_83, v_modem_changes_83, v_modem_given_83), (v_log_size_83, v_log_latest_83))))) else (if p_1 = 3 then (some (v_format, (v_queued, v_level, v_enabled, v_format, v_spare, v_low, v_high, v_overrun, v_vacated, v_quiet, v_shifting, v_ticksToGo, (v_in_limit, v_in_first, v_in_size, v_in_places), (v_out_limit, v_out_first, v_out_size, v_out_places), (v_modem_control, v_modem_changes, v_modem_given), (v_log_size, v_log_latest)))) else (if p_1 = 4 then (some (v_modem_control, (v_queued, v_level, v_enabled, v_format, v_spare, v_low, v_high, v_overrun, v_vacated, v_quiet, v_shifting, v_ticksToGo, (v_in_limit, v_in_first, v_in_size, v_in_places), (v_out_limit, v_out_first, v_out_size, v_out_places), (v_modem_control, v_modem_changes, v_modem_given), (v_log_size, v_log_latest)))) else (if p_1 = 5 then (Option.bind (f_P_readStatus (v_queued, v_level, v_enabled, v_format, v_spare, v_low, v_high, v_overrun, v_vacated, v_quiet, v_shifting, v_ticksToGo, (v_in_limit, v_in_first, v_in_size, v_in_places), (v_out_limit, v_out_first, v_out_size, v_out_places), (v_modem_control, v_modem_changes, v_modem_given), (v_log_size, v_log_latest))) (fun q_101 => match q_101 with | (r_101, (v_queued_101, v_level_101, v_enabled_101, v_format_101, v_spare_101, v_low_101, v_high_101, v_overrun_101, v_vacated_101, v_quiet_101, v_shifting_101, v_ticksToGo_101, (v_in_limit_101, v_in_first_101, v_in_size_101, v_in_places_101), (v_out_limit_101, v_out_first_101, v_out_size_101, v_out_places_101), (v_modem_control_101, v_modem_changes_101, v_modem_given_101), (v_log_size_101, v_log_latest_101))) => some (r_101, (v_queued_101, v_level_101, v_enabled_101, v_format_101, v_spare_101, v_low_101, v_high_101, v_overrun_101, v_vacated_101, v_quiet_101, v_shifting_101, v_ticksToGo_101, (v_in_limit_101, v_in_first_101, v_in_size_101, v_in_places_101), (v_out_limit_101, v_out_first_101, v_out_size_101, v_out_places_101), (v_modem_control_101, v_modem_changes_101, v_modem_given_101), (v_log_size_101, v_log_latest_101))))) else (if p_1 = 6 then (Option.bind (f_M_readChanges (v_modem_control, v_modem_changes, v_modem_given)) (fun q_109 => match q_109 with | (r_109, (v_modem_control_109, v_modem_changes_109, v_modem_given_109)) => some (r_109, (v_queued, v_level, v_enabled, v_format, v_spare, v_low, v_high, v_overrun, v_vacated, v_quiet, v_shifting, v_ticksToGo, (v_in_limit, v_in_first, v_in_size, v_in_places), (v_out_limit, v_out_first, v_out_size, v_out_places), (v_modem_control_109, v_modem_changes_109, v_modem_given_109), (v_log_size, v_log_latest))))) else (some (v_spare, (v_queued, v_level, v_enabled, v_format, v_spare, v_low, v_high, v_overrun, v_vacated, v_quiet, v_shifting, v_ticksToGo, (v_in_limit, v_in_first, v_in_size, v_in_places), (v_out_limit, v_out_first, v_out_size, v_out_places), (v_modem_control, v_modem_changes, v_modem_given), (v_log_size, v_log_latest))))))))))
set_option maxHeartbeats 8000000 in
set_option maxRecDepth 100000 in
theorem c_P_load (l : Launch) (dC : Nat → ClassId) (dI : Nat → Nat → Nat) (cA : ClassId) (t : Nat) (a0 a_in a_in_places a_out a_out_places a_modem a_log a_log_latest : Nat) (sz : Nat) (u : PtT) (p_1 : Int32) (q : Int32 × PtT) (hf : f_P_load u p_1 = some q) : Met l y_P_load (Cond.code y_P_load b_P_load 2 (some .int) :: W0) ({ frames := 3, cells := 0, slots := 0, locals := 62 }) (va_Pc [.ref a0, .int p_1] (pc_ (dC, dI) [(cA, .int)] t sz (cw_P cA a0 a_in a_in_places a_out a_out_places a_modem a_log a_log_latest u))) (qi_ (dC, dI) (cw_P cA a0 a_in a_in_places a_out a_out_places a_modem a_log a_log_latest) q (va_A (cw_P cA a0 a_in a_in_places a_out a_out_places a_modem a_log a_log_latest u) sz)) 0 0 (va_A (cw_P cA a0 a_in a_in_places a_out a_out_places a_modem a_log a_log_latest u) sz) := by
  refine start_ l (qi_ (dC, dI) (cw_P cA a0 a_in a_in_places a_out a_out_places a_modem a_log a_log_latest) q) (by decide) (Nat.le_of_ble_eq_true rfl) ?_
  intro p e s m below meth c hx hb hml hr hown ht hlocks hnm A hA hS hP hK hD hZ ls hl
  have hown : s.vm.findClass cls_P = some m.cls := hown
  refine wabs_ (fun WW wi wo => ?_)
  have k_81 : ∀ (u : PtT) (s_1 : Int32), f_P_load_81 u s_1 = some q → ∀ (H : Heap) (locs : List Loc) (ls : Array Slot), va_P (dC, dI) cls (cw_P cA a0 a_in a_in_places a_out a_out_places a_modem a_log a_log_latest u) H → va_D A (cw_P cA a0 a_in a_in_places a_out a_out_places a_modem a_log a_log_latest u) → va_S A s.heap H locs → lv_has ls 2 [] → WW H locs (F0 m 81 ls [.int s_1]) := by
    intro u s_1 hf H locs ls hP hD hS hl
    obtain ⟨v_queued, v_level, v_enabled, v_format, v_spare, v_low, v_high, v_overrun, v_vacated, v_quiet, v_shifting, v_ticksToGo, ⟨v_in_limit, v_in_first, v_in_size, v_in_places⟩, ⟨v_out_limit, v_out_first, v_out_size, v_out_places⟩, ⟨v_modem_control, v_modem_changes, v_modem_given⟩, ⟨v_log_size, v_log_latest⟩⟩ := u
    unfold f_P_load_81 at hf
    try dsimp only at hf
    have hP : va_P (dC, dI) cls [(a0, .inr (2, [.ref a_in, .ref a_out, .ref a_modem, .ref a_log, .int v_queued, .int v_level, .int v_enabled, .int v_format, .int v_spare, .int v_low, .int v_high, .int v_overrun, .int v_vacated, .int v_quiet, .int v_shifting, .int v_ticksToGo])), (a_in, .inr (3, [.ref a_in_places, .int v_in_limit, .int v_in_first, .int v_in_size])), (a_in_places, .inl (cA, 32, .inl v_in_places)), (a_out, .inr (3, [.ref a_out_places, .int v_out_limit, .int v_out_first, .int v_out_size])), (a_out_places, .inl (cA, 32, .inl v_out_places)), (a_modem, .inr (1, [.int v_modem_control, .int v_modem_changes, .int v_modem_given])), (a_log, .inr (4, [.ref a_log_latest, .int v_log_size])), (a_log_latest, .inl (cA, 32, .inl v_log_latest))] _ := hP
    have hD : va_D A [(a0, .inr (2, [.ref a_in, .ref a_out, .ref a_modem, .ref a_log, .int v_queued, .int v_level, .int v_enabled, .int v_format, .int v_spare, .int v_low, .int v_high, .int v_overrun, .int v_vacated, .int v_quiet, .int v_shifting, .int v_ticksToGo])), (a_in, .inr (3, [.ref a_in_places, .int v_in_limit, .int v_in_first, .int v_in_size])), (a_in_places, .inl (cA, 32, .inl v_in_places)), (a_out, .inr (3, [.ref a_out_places, .int v_out_limit, .int v_out_first, .int v_out_size])), (a_out_places, .inl (cA, 32, .inl v_out_places)), (a_modem, .inr (1, [.int v_modem_control, .int v_modem_changes, .int v_modem_given])), (a_log, .inr (4, [.ref a_log_latest, .int v_log_size])), (a_log_latest, .inl (cA, 32, .inl v_log_latest))] := hD
    refine wi _ _ _ ?_
    exact W.iret hx hb hr (fun t9 ht9 _ => ri_ (Option.some.inj hf) hP hD hS ht9) hS.2.2 d_P_load_81
  have k_62 : ∀ (u : PtT) (s_1 : Int32), f_P_load_62 u s_1 = some q → ∀ (H : Heap) (locs : List Loc) (ls : Array Slot), va_P (dC, dI) cls (cw_P cA a0 a_in a_in_places a_out a_out_places a_modem a_log a_log_latest u) H → va_D A (cw_P cA a0 a_in a_in_places a_out a_out_places a_modem a_log a_log_latest u) → va_S A s.heap H locs → lv_has ls 2 [] → WW H locs (F0 m 62 ls [.int s_1]) := by
    intro u s_1 hf H locs ls hP hD hS hl
    obtain ⟨v_queued, v_level, v_enabled, v_format, v_spare, v_low, v_high, v_overrun, v_vacated, v_quiet, v_shifting, v_ticksToGo, ⟨v_in_limit, v_in_first, v_in_size, v_in_places⟩, ⟨v_out_limit, v_out_first, v_out_size, v_out_places⟩, ⟨v_modem_control, v_modem_changes, v_modem_given⟩, ⟨v_log_size, v_log_latest⟩⟩ := u
    unfold f_P_load_62 at hf
    try dsimp only at hf
    have hP : va_P (dC, dI) cls [(a0, .inr (2, [.ref a_in, .ref a_out, .ref a_modem, .ref a_log, .int v_queued, .int v_level, .int v_enabled, .int v_format, .int v_spare, .int v_low, .int v_high, .int v_overrun, .int v_vacated, .int v_quiet, .int v_shifting, .int v_ticksToGo])), (a_in, .inr (3, [.ref a_in_places, .int v_in_limit, .int v_in_first, .int v_in_size])), (a_in_places, .inl (cA, 32, .inl v_in_places)), (a_out, .inr (3, [.ref a_out_places, .int v_out_limit, .int v_out_first, .int v_out_size])), (a_out_places, .inl (cA, 32, .inl v_out_places)), (a_modem, .inr (1, [.int v_modem_control, .int v_modem_changes, .int v_modem_given])), (a_log, .inr (4, [.ref a_log_latest, .int v_log_size])), (a_log_latest, .inl (cA, 32, .inl v_log_latest))] _ := hP
    have hD : va_D A [(a0, .inr (2, [.ref a_in, .ref a_out, .ref a_modem, .ref a_log, .int v_queued, .int v_level, .int v_enabled, .int v_format, .int v_spare, .int v_low, .int v_high, .int v_overrun, .int v_vacated, .int v_quiet, .int v_shifting, .int v_ticksToGo])), (a_in, .inr (3, [.ref a_in_places, .int v_in_limit, .int v_in_first, .int v_in_size])), (a_in_places, .inl (cA, 32, .inl v_in_places)), (a_out, .inr (3, [.ref a_out_places, .int v_out_limit, .int v_out_first, .int v_out_size])), (a_out_places, .inl (cA, 32, .inl v_out_places)), (a_modem, .inr (1, [.int v_modem_control, .int v_modem_changes, .int v_modem_given])), (a_log, .inr (4, [.ref a_log_latest, .int v_log_size])), (a_log_latest, .inl (cA, 32, .inl v_log_latest))] := hD
    refine wi _ _ _ ?_
    exact W.iret hx hb hr (fun t9 ht9 _ => ri_ (Option.some.inj hf) hP hD hS ht9) hS.2.2 d_P_load_62
  obtain ⟨v_queued, v_level, v_enabled, v_format, v_spare, v_low, v_high, v_overrun, v_vacated, v_quiet, v_shifting, v_ticksToGo, ⟨v_in_limit, v_in_first, v_in_size, v_in_places⟩, ⟨v_out_limit, v_out_first, v_out_size, v_out_places⟩, ⟨v_modem_control, v_modem_changes, v_modem_given⟩, ⟨v_log_size, v_log_latest⟩⟩ := u
  unfold f_P_load at hf
  try dsimp only at hf
  have hP : va_P (dC, dI) cls [(a0, .inr (2, [.ref a_in, .ref a_out, .ref a_modem, .ref a_log, .int v_queued, .int v_level, .int v_enabled, .int v_format, .int v_spare, .int v_low, .int v_high, .int v_overrun, .int v_vacated, .int v_quiet, .int v_shifting, .int v_ticksToGo])), (a_in, .inr (3, [.ref a_in_places, .int v_in_limit, .int v_in_first, .int v_in_size])), (a_in_places, .inl (cA, 32, .inl v_in_places)), (a_out, .inr (3, [.ref a_out_places, .int v_out_limit, .int v_out_first, .int v_out_size])), (a_out_places, .inl (cA, 32, .inl v_out_places)), (a_modem, .inr (1, [.int v_modem_control, .int v_modem_changes, .int v_modem_given])), (a_log, .inr (4, [.ref a_log_latest, .int v_log_size])), (a_log_latest, .inl (cA, 32, .inl v_log_latest))] _ := hP
  have hD : va_D A [(a0, .inr (2, [.ref a_in, .ref a_out, .ref a_modem, .ref a_log, .int v_queued, .int v_level, .int v_enabled, .int v_format, .int v_spare, .int v_low, .int v_high, .int v_overrun, .int v_vacated, .int v_quiet, .int v_shifting, .int v_ticksToGo])), (a_in, .inr (3, [.ref a_in_places, .int v_in_limit, .int v_in_first, .int v_in_size])), (a_in_places, .inl (cA, 32, .inl v_in_places)), (a_out, .inr (3, [.ref a_out_places, .int v_out_limit, .int v_out_first, .int v_out_size])), (a_out_places, .inl (cA, 32, .inl v_out_places)), (a_modem, .inr (1, [.int v_modem_control, .int v_modem_changes, .int v_modem_given])), (a_log, .inr (4, [.ref a_log_latest, .int v_log_size])), (a_log_latest, .inl (cA, 32, .inl v_log_latest))] := hD
  refine wi _ _ _ ?_
  have hl : lv_has ls 2 [(0, .ref a0), (1, .int p_1)] := hl
  refine lv_iload_n hx hb d_P_load_0 rfl (lv_at hl 1 rfl) ?_
  rcases Decidable.em (p_1 = 0) with c_1_0 | c_1_0
  · have hf := ite_t hf c_1_0
    refine lv_swk_ (a := 0) (off := 43) (tgt := 44) hx hb d_P_load_1 c_1_0 (by decide) (by decide) (by decide) rfl (by decide) ?_
    refine lv_aload_n hx hb d_P_load_44 rfl (lv_at hl 0 rfl) ?_
    obtain ⟨q_45, hc_45, hf⟩ := bind_e hf
    refine cVr_ (wc := cw_P cA a0 a_in a_in_places a_out a_out_places a_modem a_log a_log_latest (v_queued, v_level, v_enabled, v_format, v_spare, v_low, v_high, v_overrun, v_vacated, v_quiet, v_shifting, v_ticksToGo, (v_in_limit, v_in_first, v_in_size, v_in_places), (v_out_limit, v_out_first, v_out_size, v_out_places), (v_modem_control, v_modem_changes, v_modem_given), (v_log_size, v_log_latest))) (wr := []) (As := []) (rest := []) ⟨hx, hb, hml, hown, ht⟩ (c_P_usesOtherBank l dC dI cA t a0 a_in a_in_places a_out a_out_places a_modem a_log a_log_latest _ (v_queued, v_level, v_enabled, v_format, v_spare, v_low, v_high, v_overrun, v_vacated, v_quiet, v_shifting, v_ticksToGo, (v_in_limit, v_in_first, v_in_size, v_in_places), (v_out_limit, v_out_first, v_out_size, v_out_places), (v_modem_control, v_modem_changes, v_modem_given), (v_log_size, v_log_latest))  q_45 hc_45) (cwV 0 ht (gV_ k_P_42 ki_P_usesOtherBank ks_P_usesOtherBank kn_P kc_P_usesOtherBank) rfl rfl rfl ⟨rfl, hd_P_usesOtherBank⟩ ⟨Nat.le_of_ble_eq_true rfl, Nat.le_of_ble_eq_true rfl⟩) hK hZ hA hP hD hS [0, 1, 2, 3, 4, 5, 6, 7] [] rfl rfl (by decide) (by decide) (by decide) rfl rfl rfl rfl hl.1 (Nat.le_of_ble_eq_true rfl) d_P_load_45 ⟨Nat.le_of_ble_eq_true rfl, Nat.le_of_ble_eq_true rfl⟩ (fun r_45 H locs hw hP hD hS => ?_)
    subst hw
    have hP : va_P (dC, dI) cls [(a0, .inr (2, [.ref a_in, .ref a_out, .ref a_modem, .ref a_log, .int v_queued, .int v_level, .int v_enabled, .int v_format, .int v_spare, .int v_low, .int v_high, .int v_overrun, .int v_vacated, .int v_quiet, .int v_shifting, .int v_ticksToGo])), (a_in, .inr (3, [.ref a_in_places, .int v_in_limit, .int v_in_first, .int v_in_size])), (a_in_places, .inl (cA, 32, .inl v_in_places)), (a_out, .inr (3, [.ref a_out_places, .int v_out_limit, .int v_out_first, .int v_out_size])), (a_out_places, .inl (cA, 32, .inl v_out_places)), (a_modem, .inr (1, [.int v_modem_control, .int v_modem_changes, .int v_modem_given])), (a_log, .inr (4, [.ref a_log_latest, .int v_log_size])), (a_log_latest, .inl (cA, 32, .inl v_log_latest))] _ := hP.sub [0, 1, 2, 3, 4, 5, 6, 7] rfl
    have hD : va_D A [(a0, .inr (2, [.ref a_in, .ref a_out, .ref a_modem, .ref a_log, .int v_queued, .int v_level, .int v_enabled, .int v_format, .int v_spare, .int v_low, .int v_high, .int v_overrun, .int v_vacated, .int v_quiet, .int v_shifting, .int v_ticksToGo])), (a_in, .inr (3, [.ref a_in_places, .int v_in_limit, .int v_in_first, .int v_in_size])), (a_in_places, .inl (cA, 32, .inl v_in_places)), (a_out, .inr (3, [.ref a_out_places, .int v_out_limit, .int v_out_first, .int v_out_size])), (a_out_places, .inl (cA, 32, .inl v_out_places)), (a_modem, .inr (1, [.int v_modem_control, .int v_modem_changes, .int v_modem_given])), (a_log, .inr (4, [.ref a_log_latest, .int v_log_size])), (a_log_latest, .inl (cA, 32, .inl v_log_latest))] := hD.sub [0, 1, 2, 3, 4, 5, 6, 7] (by decide) rfl
    refine lv_if_eq (tgt := 58) hx hb d_P_load_48 (by decide) (fun c_48 => ?_) (fun c_48 => ?_)
    · have hf := ite_t hf c_48
      refine lv_aload_n hx hb d_P_load_58 rfl (lv_at hl 0 rfl) ?_
      obtain ⟨q_59, hc_59, hf⟩ := bind_e hf
      refine cVi_ (wc := cw_P cA a0 a_in a_in_places a_out a_out_places a_modem a_log a_log_latest (v_queued, v_level, v_enabled, v_format, v_spare, v_low, v_high, v_overrun, v_vacated, v_quiet, v_shifting, v_ticksToGo, (v_in_limit, v_in_first, v_in_size, v_in_places), (v_out_limit, v_out_first, v_out_size, v_out_places), (v_modem_control, v_modem_changes, v_modem_given), (v_log_size, v_log_latest))) (wr := []) (As := []) (rest := []) ⟨hx, hb, hml, hown, ht⟩ (c_P_takeIn l dC dI cA t a0 a_in a_in_places a_out a_out_places a_modem a_log a_log_latest _ (v_queued, v_level, v_enabled, v_format, v_spare, v_low, v_high, v_overrun, v_vacated, v_quiet, v_shifting, v_ticksToGo, (v_in_limit, v_in_first, v_in_size, v_in_places), (v_out_limit, v_out_first, v_out_size, v_out_places), (v_modem_control, v_modem_changes, v_modem_given), (v_log_size, v_log_latest))  q_59 hc_59) (cwV 0 ht (gV_ k_P_46 ki_P_takeIn ks_P_takeIn kn_P kc_P_takeIn) rfl rfl rfl ⟨rfl, hd_P_takeIn⟩ ⟨Nat.le_of_ble_eq_true rfl, Nat.le_of_ble_eq_true rfl⟩) hK hZ hA hP hD hS [0, 1, 2, 3, 4, 5, 6, 7] [] rfl rfl (by decide) (by decide) (by decide) rfl rfl rfl rfl hl.1 (Nat.le_of_ble_eq_true rfl) d_P_load_59 ⟨Nat.le_of_ble_eq_true rfl, Nat.le_of_ble_eq_true rfl⟩ (fun r_59 u H locs hw hP hD hS => ?_)
      obtain ⟨v_queued_59, v_level_59, v_enabled_59, v_format_59, v_spare_59, v_low_59, v_high_59, v_overrun_59, v_vacated_59, v_quiet_59, v_shifting_59, v_ticksToGo_59, ⟨v_in_limit_59, v_in_first_59, v_in_size_59, v_in_places_59⟩, ⟨v_out_limit_59, v_out_first_59, v_out_size_59, v_out_places_59⟩, ⟨v_modem_control_59, v_modem_changes_59, v_modem_given_59⟩, ⟨v_log_size_59, v_log_latest_59⟩⟩ := u
      subst hw
      have hP : va_P (dC, dI) cls [(a0, .inr (2, [.ref a_in, .ref a_out, .ref a_modem, .ref a_log, .int v_queued_59, .int v_level_59, .int v_enabled_59, .int v_format_59, .int v_spare_59, .int v_low_59, .int v_high_59, .int v_overrun_59, .int v_vacated_59, .int v_quiet_59, .int v_shifting_59, .int v_ticksToGo_59])), (a_in, .inr (3, [.ref a_in_places, .int v_in_limit_59, .int v_in_first_59, .int v_in_size_59])), (a_in_places, .inl (cA, 32, .inl v_in_places_59)), (a_out, .inr (3, [.ref a_out_places, .int v_out_limit_59, .int v_out_first_59, .int v_out_size_59])), (a_out_places, .inl (cA, 32, .inl v_out_places_59)), (a_modem, .inr (1, [.int v_modem_control_59, .int v_modem_changes_59, .int v_modem_given_59])), (a_log, .inr (4, [.ref a_log_latest, .int v_log_size_59])), (a_log_latest, .inl (cA, 32, .inl v_log_latest_59))] _ := hP.sub [0, 1, 2, 3, 4, 5, 6, 7] rfl
      have hD : va_D A [(a0, .inr (2, [.ref a_in, .ref a_out, .ref a_modem, .ref a_log, .int v_queued_59, .int v_level_59, .int v_enabled_59, .int v_format_59, .int v_spare_59, .int v_low_59, .int v_high_59, .int v_overrun_59, .int v_vacated_59, .int v_quiet_59, .int v_shifting_59, .int v_ticksToGo_59])), (a_in, .inr (3, [.ref a_in_places, .int v_in_limit_59, .int v_in_first_59, .int v_in_size_59])), (a_in_places, .inl (cA, 32, .inl v_in_places_59)), (a_out, .inr (3, [.ref a_out_places, .int v_out_limit_59, .int v_out_first_59, .int v_out_size_59])), (a_out_places, .inl (cA, 32, .inl v_out_places_59)), (a_modem, .inr (1, [.int v_modem_control_59, .int v_modem_changes_59, .int v_modem_given_59])), (a_log, .inr (4, [.ref a_log_latest, .int v_log_size_59])), (a_log_latest, .inl (cA, 32, .inl v_log_latest_59))] := hD.sub [0, 1, 2, 3, 4, 5, 6, 7] (by decide) rfl
      try dsimp only at hf
      exact wo _ _ _ (k_62 (v_queued_59, v_level_59, v_enabled_59, v_format_59, v_spare_59, v_low_59, v_high_59, v_overrun_59, v_vacated_59, v_quiet_59, v_shifting_59, v_ticksToGo_59, (v_in_limit_59, v_in_first_59, v_in_size_59, v_in_places_59), (v_out_limit_59, v_out_first_59, v_out_size_59, v_out_places_59), (v_modem_control_59, v_modem_changes_59, v_modem_given_59), (v_log_size_59, v_log_latest_59)) r_59 hf _ _ _ hP hD hS (lv_sub hl [] rfl))
    · have hf := ite_f hf c_48
      refine lv_aload_n hx hb d_P_load_51 rfl (lv_at hl 0 rfl) ?_
      refine va_get (D := (dC, dI)) (ci := 2) (v := .int v_low) (C := cls_P) (T := fld_P) (N := 16) hx hb ht iin_P hown hK hP 0 rfl rfl 9 (by decide) (ht _ k_P_39) (fun _ h9 => h9) rfl d_P_load_52 ?_
      refine lv_goto (tgt := 62) hx hb d_P_load_55 (by decide) ?_
      exact wo _ _ _ (k_62 (v_queued, v_level, v_enabled, v_format, v_spare, v_low, v_high, v_overrun, v_vacated, v_quiet, v_shifting, v_ticksToGo, (v_in_limit, v_in_first, v_in_size, v_in_places), (v_out_limit, v_out_first, v_out_size, v_out_places), (v_modem_control, v_modem_changes, v_modem_given), (v_log_size, v_log_latest)) v_low hf _ _ _ hP hD hS (lv_sub hl [] rfl))
  · have hf := ite_f hf c_1_0
    rcases Decidable.em (p_1 = 1) with c_1_1 | c_1_1
    · have hf := ite_t hf c_1_1
      refine lv_swk_ (a := 1) (off := 62) (tgt := 63) hx hb d_P_load_1 c_1_1 (by decide) (by decide) (by decide) rfl (by decide) ?_
      refine lv_aload_n hx hb d_P_load_63 rfl (lv_at hl 0 rfl) ?_
      obtain ⟨q_64, hc_64, hf⟩ := bind_e hf
      refine cVr_ (wc := cw_P cA a0 a_in a_in_places a_out a_out_places a_modem a_log a_log_latest (v_queued, v_level, v_enabled, v_format, v_spare, v_low, v_high, v_overrun, v_vacated, v_quiet, v_shifting, v_ticksToGo, (v_in_limit, v_in_first, v_in_size, v_in_places), (v_out_limit, v_out_first, v_out_size, v_out_places), (v_modem_control, v_modem_changes, v_modem_given), (v_log_size, v_log_latest))) (wr := []) (As := []) (rest := []) ⟨hx, hb, hml, hown, ht⟩ (c_P_usesOtherBank l dC dI cA t a0 a_in a_in_places a_out a_out_places a_modem a_log a_log_latest _ (v_queued, v_level, v_enabled, v_format, v_spare, v_low, v_high, v_overrun, v_vacated, v_quiet, v_shifting, v_ticksToGo, (v_in_limit, v_in_first, v_in_size, v_in_places), (v_out_limit, v_out_first, v_out_size, v_out_places), (v_modem_control, v_modem_changes, v_modem_given), (v_log_size, v_log_latest))  q_64 hc_64) (cwV 0 ht (gV_ k_P_42 ki_P_usesOtherBank ks_P_usesOtherBank kn_P kc_P_usesOtherBank) rfl rfl rfl ⟨rfl, hd_P_usesOtherBank⟩ ⟨Nat.le_of_ble_eq_true rfl, Nat.le_of_ble_eq_true rfl⟩) hK hZ hA hP hD hS [0, 1, 2, 3, 4, 5, 6, 7] [] rfl rfl (by decide) (by decide) (by decide) rfl rfl rfl rfl hl.1 (Nat.le_of_ble_eq_true rfl) d_P_load_64 ⟨Nat.le_of_ble_eq_true rfl, Nat.le_of_ble_eq_true rfl⟩ (fun r_64 H locs hw hP hD hS => ?_)
      subst hw
      have hP : va_P (dC, dI) cls [(a0, .inr (2, [.ref a_in, .ref a_out, .ref a_modem, .ref a_log, .int v_queued, .int v_level, .int v_enabled, .int v_format, .int v_spare, .int v_low, .int v_high, .int v_overrun, .int v_vacated, .int v_quiet, .int v_shifting, .int v_ticksToGo])), (a_in, .inr (3, [.ref a_in_places, .int v_in_limit, .int v_in_first, .int v_in_size])), (a_in_places, .inl (cA, 32, .inl v_in_places)), (a_out, .inr (3, [.ref a_out_places, .int v_out_limit, .int v_out_first, .int v_out_size])), (a_out_places, .inl (cA, 32, .inl v_out_places)), (a_modem, .inr (1, [.int v_modem_control, .int v_modem_changes, .int v_modem_given])), (a_log, .inr (4, [.ref a_log_latest, .int v_log_size])), (a_log_latest, .inl (cA, 32, .inl v_log_latest))] _ := hP.sub [0, 1, 2, 3, 4, 5, 6, 7] rfl
      have hD : va_D A [(a0, .inr (2, [.ref a_in, .ref a_out, .ref a_modem, .ref a_log, .int v_queued, .int v_level, .int v_enabled, .int v_format, .int v_spare, .int v_low, .int v_high, .int v_overrun, .int v_vacated, .int v_quiet, .int v_shifting, .int v_ticksToGo])), (a_in, .inr (3, [.ref a_in_places, .int v_in_limit, .int v_in_first, .int v_in_size])), (a_in_places, .inl (cA, 32, .inl v_in_places)), (a_out, .inr (3, [.ref a_out_places, .int v_out_limit, .int v_out_first, .int v_out_size])), (a_out_places, .inl (cA, 32, .inl v_out_places)), (a_modem, .inr (1, [.int v_modem_control, .int v_modem_changes, .int v_modem_given])), (a_log, .inr (4, [.ref a_log_latest, .int v_log_size])), (a_log_latest, .inl (cA, 32, .inl v_log_latest))] := hD.sub [0, 1, 2, 3, 4, 5, 6, 7] (by decide) rfl
      refine lv_if_eq (tgt := 77) hx hb d_P_load_67 (by decide) (fun c_67 => ?_) (fun c_67 => ?_)
      · have hf := ite_t hf c_67
        refine lv_aload_n hx hb d_P_load_77 rfl (lv_at hl 0 rfl) ?_
        refine va_get (D := (dC, dI)) (ci := 2) (v := .int v_enabled) (C := cls_P) (T := fld_P) (N := 16) hx hb ht iin_P hown hK hP 0 rfl rfl 6 (by decide) (ht _ k_P_53) (fun _ h9 => h9) rfl d_P_load_78 ?_
        exact wo _ _ _ (k_81 (v_queued, v_level, v_enabled, v_format, v_spare, v_low, v_high, v_overrun, v_vacated, v_quiet, v_shifting, v_ticksToGo, (v_in_limit, v_in_first, v_in_size, v_in_places), (v_out_limit, v_out_first, v_out_size, v_out_places), (v_modem_control, v_modem_changes, v_modem_given), (v_log_size, v_log_latest)) v_enabled hf _ _ _ hP hD hS (lv_sub hl [] rfl))
      · have hf := ite_f hf c_67
        refine lv_aload_n hx hb d_P_load_70 rfl (lv_at hl 0 rfl) ?_
        refine va_get (D := (dC, dI)) (ci := 2) (v := .int v_high) (C := cls_P) (T := fld_P) (N := 16) hx hb ht iin_P hown hK hP 0 rfl rfl 10 (by decide) (ht _ k_P_50) (fun _ h9 => h9) rfl d_P_load_71 ?_
        refine lv_goto (tgt := 81) hx hb d_P_load_74 (by decide) ?_
        exact wo _ _ _ (k_81 (v_queued, v_level, v_enabled, v_format, v_spare, v_low, v_high, v_overrun, v_vacated, v_quiet, v_shifting, v_ticksToGo, (v_in_limit, v_in_first, v_in_size, v_in_places), (v_out_limit, v_out_first, v_out_size, v_out_places), (v_modem_control, v_modem_changes, v_modem_given), (v_log_size, v_log_latest)) v_high hf _ _ _ hP hD hS (lv_sub hl [] rfl))
    · have hf := ite_f hf c_1_1
      rcases Decidable.em (p_1 = 2) with c_1_2 | c_1_2
      · have hf := ite_t hf c_1_2
        refine lv_swk_ (a := 2) (off := 81) (tgt := 82) hx hb d_P_load_1 c_1_2 (by decide) (by decide) (by decide) rfl (by decide) ?_
        refine lv_aload_n hx hb d_P_load_82 rfl (lv_at hl 0 rfl) ?_
        obtain ⟨q_83, hc_83, hf⟩ := bind_e hf
        refine cVi_ (wc := cw_P cA a0 a_in a_in_places a_out a_out_places a_modem a_log a_log_latest (v_queued, v_level, v_enabled, v_format, v_spare, v_low, v_high, v_overrun, v_vacated, v_quiet, v_shifting, v_ticksToGo, (v_in_limit, v_in_first, v_in_size, v_in_places), (v_out_limit, v_out_first, v_out_size, v_out_places), (v_modem_control, v_modem_changes, v_modem_given), (v_log_size, v_log_latest))) (wr := []) (As := []) (rest := []) ⟨hx, hb, hml, hown, ht⟩ (c_P_identify l dC dI cA t a0 a_in a_in_places a_out a_out_places a_modem a_log a_log_latest _ (v_queued, v_level, v_enabled, v_format, v_spare, v_low, v_high, v_overrun, v_vacated, v_quiet, v_shifting, v_ticksToGo, (v_in_limit, v_in_first, v_in_size, v_in_places), (v_out_limit, v_out_first, v_out_size, v_out_places), (v_modem_control, v_modem_changes, v_modem_given), (v_log_size, v_log_latest))  q_83 hc_83) (cwV 0 ht (gV_ k_P_56 ki_P_identify ks_P_identify kn_P kc_P_identify) rfl rfl rfl ⟨rfl, hd_P_identify⟩ ⟨Nat.le_of_ble_eq_true rfl, Nat.le_of_ble_eq_true rfl⟩) hK hZ hA hP hD hS [0, 1, 2, 3, 4, 5, 6, 7] [] rfl rfl (by decide) (by decide) (by decide) rfl rfl rfl rfl hl.1 (Nat.le_of_ble_eq_true rfl) d_P_load_83 ⟨Nat.le_of_ble_eq_true rfl, Nat.le_of_ble_eq_true rfl⟩ (fun r_83 u H locs hw hP hD hS => ?_)
        obtain ⟨v_queued_83, v_level_83, v_enabled_83, v_format_83, v_spare_83, v_low_83, v_high_83, v_overrun_83, v_vacated_83, v_quiet_83, v_shifting_83, v_ticksToGo_83, ⟨v_in_limit_83, v_in_first_83, v_in_size_83, v_in_places_83⟩, ⟨v_out_limit_83, v_out_first_83, v_out_size_83, v_out_places_83⟩, ⟨v_modem_control_83, v_modem_changes_83, v_modem_given_83⟩, ⟨v_log_size_83, v_log_latest_83⟩⟩ := u
        subst hw
        have hP : va_P (dC, dI) cls [(a0, .inr (2, [.ref a_in, .ref a_out, .ref a_modem, .ref a_log, .int v_queued_83, .int v_level_83, .int v_enabled_83, .int v_format_83, .int v_spare_83, .int v_low_83, .int v_high_83, .int v_overrun_83, .int v_vacated_83, .int v_quiet_83, .int v_shifting_83, .int v_ticksToGo_83])), (a_in, .inr (3, [.ref a_in_places, .int v_in_limit_83, .int v_in_first_83, .int v_in_size_83])), (a_in_places, .inl (cA, 32, .inl v_in_places_83)), (a_out, .inr (3, [.ref a_out_places, .int v_out_limit_83, .int v_out_first_83, .int v_out_size_83])), (a_out_places, .inl (cA, 32, .inl v_out_places_83)), (a_modem, .inr (1, [.int v_modem_control_83, .int v_modem_changes_83, .int v_modem_given_83])), (a_log, .inr (4, [.ref a_log_latest, .int v_log_size_83])), (a_log_latest, .inl (cA, 32, .inl v_log_latest_83))] _ := hP.sub [0, 1, 2, 3, 4, 5, 6, 7] rfl
        have hD : va_D A [(a0, .inr (2, [.ref a_in, .ref a_out, .ref a_modem, .ref a_log, .int v_queued_83, .int v_level_83, .int v_enabled_83, .int v_format_83, .int v_spare_83, .int v_low_83, .int v_high_83, .int v_overrun_83, .int v_vacated_83, .int v_quiet_83, .int v_shifting_83, .int v_ticksToGo_83])), (a_in, .inr (3, [.ref a_in_places, .int v_in_limit_83, .int v_in_first_83, .int v_in_size_83])), (a_in_places, .inl (cA, 32, .inl v_in_places_83)), (a_out, .inr (3, [.ref a_out_places, .int v_out_limit_83, .int v_out_first_83, .int v_out_size_83])), (a_out_places, .inl (cA, 32, .inl v_out_places_83)), (a_modem, .inr (1, [.int v_modem_control_83, .int v_modem_changes_83, .int v_modem_given_83])), (a_log, .inr (4, [.ref a_log_latest, .int v_log_size_83])), (a_log_latest, .inl (cA, 32, .inl v_log_latest_83))] := hD.sub [0, 1, 2, 3, 4, 5, 6, 7] (by decide) rfl
        try dsimp only at hf
        exact W.iret hx hb hr (fun t9 ht9 _ => ri_ (Option.some.inj hf) hP hD hS ht9) hS.2.2 d_P_load_86
      · have hf := ite_f hf c_1_2
        rcases Decidable.em (p_1 = 3) with c_1_3 | c_1_3
        · have hf := ite_t hf c_1_3
          refine lv_swk_ (a := 3) (off := 86) (tgt := 87) hx hb d_P_load_1 c_1_3 (by decide) (by decide) (by decide) rfl (by decide) ?_
          refine lv_aload_n hx hb d_P_load_87 rfl (lv_at hl 0 rfl) ?_
          refine va_get (D := (dC, dI)) (ci := 2) (v := .int v_format) (C := cls_P) (T := fld_P) (N := 16) hx hb ht iin_P hown hK hP 0 rfl rfl 7 (by decide) (ht _ k_P_59) (fun _ h9 => h9) rfl d_P_load_88 ?_
          exact W.iret hx hb hr (fun t9 ht9 _ => ri_ (Option.some.inj hf) hP hD hS ht9) hS.2.2 d_P_load_91
        · have hf := ite_f hf c_1_3
          rcases Decidable.em (p_1 = 4) with c_1_4 | c_1_4
          · have hf := ite_t hf c_1_4
            refine lv_swk_ (a := 4) (off := 91) (tgt := 92) hx hb d_P_load_1 c_1_4 (by decide) (by decide) (by decide) rfl (by decide) ?_
            refine lv_aload_n hx hb d_P_load_92 rfl (lv_at hl 0 rfl) ?_
            refine va_get (D := (dC, dI)) (ci := 2) (v := .ref a_modem) (C := cls_P) (T := fld_P) (N := 16) hx hb ht iin_P hown hK hP 0 rfl rfl 2 (by decide) (ht _ k_P_24) (fun _ h9 => h9) rfl d_P_load_93 ?_
            refine va_get (D := (dC, dI)) (ci := 1) (v := .int v_modem_control) (C := cls_M) (T := fld_M) (N := 3) hx hb ht iin_M hown hK hP 5 rfl rfl 0 (by decide) (ht _ k_P_62) (fun _ h9 => h9) rfl d_P_load_96 ?_
            exact W.iret hx hb hr (fun t9 ht9 _ => ri_ (Option.some.inj hf) hP hD hS ht9) hS.2.2 d_P_load_99
          · have hf := ite_f hf c_1_4
            rcases Decidable.em (p_1 = 5) with c_1_5 | c_1_5
            · have hf := ite_t hf c_1_5
              refine lv_swk_ (a := 5) (off := 99) (tgt := 100) hx hb d_P_load_1 c_1_5 (by decide) (by decide) (by decide) rfl (by decide) ?_
              refine lv_aload_n hx hb d_P_load_100 rfl (lv_at hl 0 rfl) ?_
              obtain ⟨q_101, hc_101, hf⟩ := bind_e hf
              refine cVi_ (wc := cw_P cA a0 a_in a_in_places a_out a_out_places a_modem a_log a_log_latest (v_queued, v_level, v_enabled, v_format, v_spare, v_low, v_high, v_overrun, v_vacated, v_quiet, v_shifting, v_ticksToGo, (v_in_limit, v_in_first, v_in_size, v_in_places), (v_out_limit, v_out_first, v_out_size, v_out_places), (v_modem_control, v_modem_changes, v_modem_given), (v_log_size, v_log_latest))) (wr := []) (As := []) (rest := []) ⟨hx, hb, hml, hown, ht⟩ (c_P_readStatus l dC dI cA t a0 a_in a_in_places a_out a_out_places a_modem a_log a_log_latest _ (v_queued, v_level, v_enabled, v_format, v_spare, v_low, v_high, v_overrun, v_vacated, v_quiet, v_shifting, v_ticksToGo, (v_in_limit, v_in_first, v_in_size, v_in_places), (v_out_limit, v_out_first, v_out_size, v_out_places), (v_modem_control, v_modem_changes, v_modem_given), (v_log_size, v_log_latest))  q_101 hc_101) (cwV 0 ht (gV_ k_P_65 ki_P_readStatus ks_P_readStatus kn_P kc_P_readStatus) rfl rfl rfl ⟨rfl, hd_P_readStatus⟩ ⟨Nat.le_of_ble_eq_true rfl, Nat.le_of_ble_eq_true rfl⟩) hK hZ hA hP hD hS [0, 1, 2, 3, 4, 5, 6, 7] [] rfl rfl (by decide) (by decide) (by decide) rfl rfl rfl rfl hl.1 (Nat.le_of_ble_eq_true rfl) d_P_load_101 ⟨Nat.le_of_ble_eq_true rfl, Nat.le_of_ble_eq_true rfl⟩ (fun r_101 u H locs hw hP hD hS => ?_)
              obtain ⟨v_queued_101, v_level_101, v_enabled_101, v_format_101, v_spare_101, v_low_101, v_high_101, v_overrun_101, v_vacated_101, v_quiet_101, v_shifting_101, v_ticksToGo_101, ⟨v_in_limit_101, v_in_first_101, v_in_size_101, v_in_places_101⟩, ⟨v_out_limit_101, v_out_first_101, v_out_size_101, v_out_places_101⟩, ⟨v_modem_control_101, v_modem_changes_101, v_modem_given_101⟩, ⟨v_log_size_101, v_log_latest_101⟩⟩ := u
              subst hw
              have hP : va_P (dC, dI) cls [(a0, .inr (2, [.ref a_in, .ref a_out, .ref a_modem, .ref a_log, .int v_queued_101, .int v_level_101, .int v_enabled_101, .int v_format_101, .int v_spare_101, .int v_low_101, .int v_high_101, .int v_overrun_101, .int v_vacated_101, .int v_quiet_101, .int v_shifting_101, .int v_ticksToGo_101])), (a_in, .inr (3, [.ref a_in_places, .int v_in_limit_101, .int v_in_first_101, .int v_in_size_101])), (a_in_places, .inl (cA, 32, .inl v_in_places_101)), (a_out, .inr (3, [.ref a_out_places, .int v_out_limit_101, .int v_out_first_101, .int v_out_size_101])), (a_out_places, .inl (cA, 32, .inl v_out_places_101)), (a_modem, .inr (1, [.int v_modem_control_101, .int v_modem_changes_101, .int v_modem_given_101])), (a_log, .inr (4, [.ref a_log_latest, .int v_log_size_101])), (a_log_latest, .inl (cA, 32, .inl v_log_latest_101))] _ := hP.sub [0, 1, 2, 3, 4, 5, 6, 7] rfl
              have hD : va_D A [(a0, .inr (2, [.ref a_in, .ref a_out, .ref a_modem, .ref a_log, .int v_queued_101, .int v_level_101, .int v_enabled_101, .int v_format_101, .int v_spare_101, .int v_low_101, .int v_high_101, .int v_overrun_101, .int v_vacated_101, .int v_quiet_101, .int v_shifting_101, .int v_ticksToGo_101])), (a_in, .inr (3, [.ref a_in_places, .int v_in_limit_101, .int v_in_first_101, .int v_in_size_101])), (a_in_places, .inl (cA, 32, .inl v_in_places_101)), (a_out, .inr (3, [.ref a_out_places, .int v_out_limit_101, .int v_out_first_101, .int v_out_size_101])), (a_out_places, .inl (cA, 32, .inl v_out_places_101)), (a_modem, .inr (1, [.int v_modem_control_101, .int v_modem_changes_101, .int v_modem_given_101])), (a_log, .inr (4, [.ref a_log_latest, .int v_log_size_101])), (a_log_latest, .inl (cA, 32, .inl v_log_latest_101))] := hD.sub [0, 1, 2, 3, 4, 5, 6, 7] (by decide) rfl
              try dsimp only at hf
              exact W.iret hx hb hr (fun t9 ht9 _ => ri_ (Option.some.inj hf) hP hD hS ht9) hS.2.2 d_P_load_104
            · have hf := ite_f hf c_1_5
              rcases Decidable.em (p_1 = 6) with c_1_6 | c_1_6
              · have hf := ite_t hf c_1_6
                refine lv_swk_ (a := 6) (off := 104) (tgt := 105) hx hb d_P_load_1 c_1_6 (by decide) (by decide) (by decide) rfl (by decide) ?_
                refine lv_aload_n hx hb d_P_load_105 rfl (lv_at hl 0 rfl) ?_
                refine va_get (D := (dC, dI)) (ci := 2) (v := .ref a_modem) (C := cls_P) (T := fld_P) (N := 16) hx hb ht iin_P hown hK hP 0 rfl rfl 2 (by decide) (ht _ k_P_24) (fun _ h9 => h9) rfl d_P_load_106 ?_
                obtain ⟨q_109, hc_109, hf⟩ := bind_e hf
                refine cVi_ (wc := cw_M cA a_modem (v_modem_control, v_modem_changes, v_modem_given)) (wr := [(a0, .inr (2, [.ref a_in, .ref a_out, .ref a_modem, .ref a_log, .int v_queued, .int v_level, .int v_enabled, .int v_format, .int v_spare, .int v_low, .int v_high, .int v_overrun, .int v_vacated, .int v_quiet, .int v_shifting, .int v_ticksToGo])), (a_in, .inr (3, [.ref a_in_places, .int v_in_limit, .int v_in_first, .int v_in_size])), (a_in_places, .inl (cA, 32, .inl v_in_places)), (a_out, .inr (3, [.ref a_out_places, .int v_out_limit, .int v_out_first, .int v_out_size])), (a_out_places, .inl (cA, 32, .inl v_out_places)), (a_log, .inr (4, [.ref a_log_latest, .int v_log_size])), (a_log_latest, .inl (cA, 32, .inl v_log_latest))]) (As := []) (rest := []) ⟨hx, hb, hml, hown, ht⟩ (c_M_readChanges l dC dI cA t a_modem _ (v_modem_control, v_modem_changes, v_modem_given)  q_109 hc_109) (cwV 0 ht (gV_ k_P_68 ki_M_readChanges ks_M_readChanges kn_M kc_M_readChanges) rfl rfl rfl ⟨rfl, hd_M_readChanges⟩ ⟨Nat.le_of_ble_eq_true rfl, Nat.le_of_ble_eq_true rfl⟩) hK hZ hA hP hD hS [5] [0, 1, 2, 3, 4, 6, 7] rfl rfl (by decide) (by decide) (by decide) rfl rfl rfl rfl hl.1 (Nat.le_of_ble_eq_true rfl) d_P_load_109 ⟨Nat.le_of_ble_eq_true rfl, Nat.le_of_ble_eq_true rfl⟩ (fun r_109 u H locs hw hP hD hS => ?_)
                obtain ⟨v_modem_control_109, v_modem_changes_109, v_modem_given_109⟩ := u
                subst hw
                have hP : va_P (dC, dI) cls [(a0, .inr (2, [.ref a_in, .ref a_out, .ref a_modem, .ref a_log, .int v_queued, .int v_level, .int v_enabled, .int v_format, .int v_spare, .int v_low, .int v_high, .int v_overrun, .int v_vacated, .int v_quiet, .int v_shifting, .int v_ticksToGo])), (a_in, .inr (3, [.ref a_in_places, .int v_in_limit, .int v_in_first, .int v_in_size])), (a_in_places, .inl (cA, 32, .inl v_in_places)), (a_out, .inr (3, [.ref a_out_places, .int v_out_limit, .int v_out_first, .int v_out_size])), (a_out_places, .inl (cA, 32, .inl v_out_places)), (a_modem, .inr (1, [.int v_modem_control_109, .int v_modem_changes_109, .int v_modem_given_109])), (a_log, .inr (4, [.ref a_log_latest, .int v_log_size])), (a_log_latest, .inl (cA, 32, .inl v_log_latest))] _ := hP.sub [0, 1, 2, 3, 4, 7, 5, 6] rfl
                have hD : va_D A [(a0, .inr (2, [.ref a_in, .ref a_out, .ref a_modem, .ref a_log, .int v_queued, .int v_level, .int v_enabled, .int v_format, .int v_spare, .int v_low, .int v_high, .int v_overrun, .int v_vacated, .int v_quiet, .int v_shifting, .int v_ticksToGo])), (a_in, .inr (3, [.ref a_in_places, .int v_in_limit, .int v_in_first, .int v_in_size])), (a_in_places, .inl (cA, 32, .inl v_in_places)), (a_out, .inr (3, [.ref a_out_places, .int v_out_limit, .int v_out_first, .int v_out_size])), (a_out_places, .inl (cA, 32, .inl v_out_places)), (a_modem, .inr (1, [.int v_modem_control_109, .int v_modem_changes_109, .int v_modem_given_109])), (a_log, .inr (4, [.ref a_log_latest, .int v_log_size])), (a_log_latest, .inl (cA, 32, .inl v_log_latest))] := hD.sub [0, 1, 2, 3, 4, 7, 5, 6] (by decide) rfl
                try dsimp only at hf
                exact W.iret hx hb hr (fun t9 ht9 _ => ri_ (Option.some.inj hf) hP hD hS ht9) hS.2.2 d_P_load_112
              · have hf := ite_f hf c_1_6
                refine lv_tableOut (tgt := 113) hx hb d_P_load_1 (by have e_0 := lv_neT c_1_0 (a := 0) (by decide); have e_1 := lv_neT c_1_1 (a := 1) (by decide); have e_2 := lv_neT c_1_2 (a := 2) (by decide); have e_3 := lv_neT c_1_3 (a := 3) (by decide); have e_4 := lv_neT c_1_4 (a := 4) (by decide); have e_5 := lv_neT c_1_5 (a := 5) (by decide); have e_6 := lv_neT c_1_6 (a := 6) (by decide); omega) (by decide) ?_
                refine lv_aload_n hx hb d_P_load_113 rfl (lv_at hl 0 rfl) ?_
                refine va_get (D := (dC, dI)) (ci := 2) (v := .int v_spare) (C := cls_P) (T := fld_P) (N := 16) hx hb ht iin_P hown hK hP 0 rfl rfl 8 (by decide) (ht _ k_P_71) (fun _ h9 => h9) rfl d_P_load_114 ?_
                exact W.iret hx hb hr (fun t9 ht9 _ => ri_ (Option.some.inj hf) hP hD hS ht9) hS.2.2 d_P_load_117
def f_P_store_136 : PtT → Option (PtT)
  | (v_queued, v_level, v_enabled, v_format, v_spare, v_low, v_high, v_overrun, v_vacated, v_quiet, v_shifting, v_ticksToGo, (v_in_limit, v_in_first, v_in_size, v_in_places), (v_out_limit, v_out_first, v_out_size, v_out_places), (v_modem_control, v_modem_changes, v_modem_given), (v_log_size, v_log_latest)) => some (v_queued, v_level, v_enabled, v_format, v_spare, v_low, v_high, v_overrun, v_vacated, v_quiet, v_shifting, v_ticksToGo, (v_in_limit, v_in_first, v_in_size, v_in_places), (v_out_limit, v_out_first, v_out_size, v_out_places), (v_modem_control, v_modem_changes, v_modem_given), (v_log_size, v_log_latest))
def f_P_store : PtT → Int32 → Int32 → Option (PtT)
  | (v_queued, v_level, v_enabled, v_format, v_spare, v_low, v_high, v_overrun, v_vacated, v_quiet, v_shifting, v_ticksToGo, (v_in_limit, v_in_first, v_in_size, v_in_places), (v_out_limit, v_out_first, v_out_size, v_out_places), (v_modem_control, v_modem_changes, v_modem_given), (v_log_size, v_log_latest)), p_1, p_2 => if p_1 = 0 then (Option.bind (f_P_usesOtherBank (v_queued, v_level, v_enabled, v_format, v_spare, v_low, v_high, v_overrun, v_vacated, v_quiet, v_shifting, v_ticksToGo, (v_in_limit, v_in_first, v_in_size, v_in_places), (v_out_limit, v_out_first, v_out_size, v_out_places), (v_modem_control, v_modem_changes, v_modem_given), (v_log_size, v_log_latest))) (fun r_53 => if r_53 = 0 then (Option.bind (f_P_storeData (v_queued, v_level, v_enabled, v_format, v_spare, v_low, v_high, v_overrun, v_vacated, v_quiet, v_shifting, v_ticksToGo, (v_in_limit, v_in_first, v_in_size, v_in_places), (v_out_limit, v_out_first, v_out_size, v_out_places), (v_modem_control, v_modem_changes, v_modem_given), (v_log_size, v_log_latest)) (p_2 &&& 255)) (fun q_69 => match q_69 with | (v_queued_69, v_level_69, v_enabled_69, v_format_69, v_spare_69, v_low_69, v_high_69, v_overrun_69, v_vacated_69, v_quiet_69, v_shifting_69, v_ticksToGo_69, (v_in_limit_69, v_in_first_69, v_in_size_69, v_in_places_69), (v_out_limit_69, v_out_first_69, v_out_size_69, v_out_places_69), (v_modem_control_69, v_modem_changes_69, v_modem_given_69), (v_log_size_69, v_log_latest_69)) => f_P_store_136 (v_queued_69, v_level_69, v_enabled_69, v_format_69, v_spare_69, v_low_69, v_high_69, v_overrun_69, v_vacated_69, v_quiet_69, v_shifting_69, v_ticksToGo_69, (v_in_limit_69, v_in_first_69, v_in_size_69, v_in_places_69), (v_out_limit_69, v_out_first_69, v_out_size_69, v_out_places_69), (v_modem_control_69, v_modem_changes_69, v_modem_given_69), (v_log_size_69, v_log_latest_69)))) else (f_P_store_136 (v_queued, v_level, v_enabled, v_format, v_spare, (p_2 &&& 255), v_high, v_overrun, v_vacated, v_quiet, v_shifting, v_ticksToGo, (v_in_limit, v_in_first, v_in_size, v_in_places), (v_out_limit, v_out_first, v_out_size, v_out_places), (v_modem_control, v_modem_changes, v_modem_given), (v_log_size, v_log_latest))))) else (if p_1 = 1 then (Option.bind (f_P_usesOtherBank (v_queued, v_level, v_enabled, v_format, v_spare, v_low, v_high, v_overrun, v_vacated, v_quiet, v_shifting, v_ticksToGo, (v_in_limit, v_in_first, v_in_size, v_in_places), (v_out_limit, v_out_first, v_out_size, v_out_places), (v_modem_control, v_modem_changes, v_modem_given), (v_log_size, v_log_latest))) (fun r_76 => if r_76 = 0 then (Option.bind (f_P_storeEnabled (v_queued, v_level, v_enabled, v_format, v_spare, v_low, v_high, v_overrun, v_vacated, v_quiet, v_shifting, v_ticksToGo, (v_in_limit, v_in_first, v_in_size, v_in_places), (v_out_limit, v_out_first, v_out_size, v_out_places), (v_modem_control, v_modem_changes, v_modem_given), (v_log_size, v_log_latest)) (p_2 &&& 255)) (fun q_92 => match q_92 with | (v_queued_92, v_level_92, v_enabled_92, v_format_92, v_spare_92, v_low_92, v_high_92, v_overrun_92, v_vacated_92, v_quiet_92, v_shifting_92, v_ticksToGo_92, (v_in_limit_92, v_in_first_92, v_in_size_92, v_in_places_92), (v_out_limit_92, v_out_first_92, v_out_size_92, v_out_places_92), (v_modem_control_92, v_modem_changes_92, v_modem_given_92), (v_log_size_92, v_log_latest_92)) => f_P_store_136 (v_queued_92, v_level_92, v_enabled_92, v_format_92, v_spare_92, v_low_92, v_high_92, v_overrun_92, v_vacated_92, v_quiet_92, v_shifting_92, v_ticksToGo_92, (v_in_limit_92, v_in_first_92, v_in_size_92, v_in_places_92), (v_out_limit_92, v_out_first_92, v_out_size_92, v_out_places_92), (v_modem_control_92, v_modem_changes_92, v_modem_given_92), (v_log_size_92, v_log_latest_92)))) else (f_P_store_136 (v_queued, v_level, v_enabled, v_format, v_spare, v_low, (p_2 &&& 255), v_overrun, v_vacated, v_quiet, v_shifting, v_ticksToGo, (v_in_limit, v_in_first, v_in_size, v_in_places), (v_out_limit, v_out_first, v_out_size, v_out_places), (v_modem_control, v_modem_changes, v_modem_given), (v_log_size, v_log_latest))))) else (if p_1 = 2 then (Option.bind (f_P_storeQueueing (v_queued, v_level, v_enabled, v_format, v_spare, v_low, v_high, v_overrun, v_vacated, v_quiet, v_shifting, v_ticksToGo, (v_in_limit, v_in_first, v_in_size, v_in_places), (v_out_limit, v_out_first, v_out_size, v_out_places), (v_modem_control, v_modem_changes, v_modem_given), (v_log_size, v_log_latest)) (p_2 &&& 255)) (fun q_100 => match q_100 with | (v_queued_100, v_level_100, v_enabled_100, v_format_100, v_spare_100, v_low_100, v_high_100, v_overrun_100, v_vacated_100, v_quiet_100, v_shifting_100, v_ticksToGo_100, (v_in_limit_100, v_in_first_100, v_in_size_100, v_in_places_100), (v_out_limit_100, v_out_first_100, v_out_size_100, v_out_places_100), (v_modem_control_100, v_modem_changes_100, v_modem_given_100), (v_log_size_100, v_log_latest_100)) => f_P_store_136 (v_queued_100, v_level_100, v_enabled_100, v_format_100, v_spare_100, v_low_100, v_high_100, v_overrun_100, v_vacated_100, v_quiet_100, v_shifting_100, v_ticksToGo_100, (v_in_limit_100, v_in_first_100, v_in_size_100, v_in_places_100), (v_out_limit_100, v_out_first_100, v_out_size_100, v_out_places_100), (v_modem_control_100, v_modem_changes_100, v_modem_given_100), (v_log_size_100, v_log_latest_100)))) else (if p_1 = 3 then (f_P_store_136 (v_queued, v_level, v_enabled, (p_2 &&& 255), v_spare, v_low, v_high, v_overrun, v_vacated, v_quiet, v_shifting, v_ticksToGo, (v_in_limit, v_in_first, v_in_size, v_in_places), (v_out_limit, v_out_first, v_out_size, v_out_places), (v_modem_control, v_modem_changes, v_modem_given), (v_log_size, v_log_latest))) else (if p_1 = 4 then (Option.bind (f_M_setControl (v_modem_control, v_modem_changes, v_modem_given) ((p_2 &&& 255) &&& 31)) (fun q_122 => match q_122 with | (v_modem_control_122, v_modem_changes_122, v_modem_given_122) => f_P_store_136 (v_queued, v_level, v_enabled, v_format, v_spare, v_low, v_high, v_overrun, v_vacated, v_quiet, v_shifting, v_ticksToGo, (v_in_limit, v_in_first, v_in_size, v_in_places), (v_out_limit, v_out_first, v_out_size, v_out_places), (v_modem_control_122, v_modem_changes_122, v_modem_given_122), (v_log_size, v_log_latest)))) else (if p_1 = 7 then (f_P_store_136 (v_queued, v_level, v_enabled, v_format, (p_2 &&& 255), v_low, v_high, v_overrun, v_vacated, v_quiet, v_shifting, v_ticksToGo, (v_in_limit, v_in_first, v_in_size, v_in_places), (v_out_limit, v_out_first, v_out_size, v_out_places), (v_modem_control, v_modem_changes, v_modem_given), (v_log_size, v_log_latest))) else (f_P_store_136 (v_queued, v_level, v_enabled, v_format, v_spare, v_low, v_high, v_overrun, v_vacated, v_quiet, v_shifting, v_ticksToGo, (v_in_limit, v_in_first, v_in_size, v_in_places), (v_out_limit, v_out_first, v_out_size, v_out_places), (v_modem_control, v_modem_changes, v_modem_given), (v_log_size, v_log_latest))))))))
set_option maxHeartbeats 8000000 in
set_option maxRecDepth 100000 in
theorem c_P_store (l : Launch) (dC : Nat → ClassId) (dI : Nat → Nat → Nat) (cA : ClassId) (t : Nat) (a0 a_in a_in_places a_out a_out_places a_modem a_log a_log_latest : Nat) (sz : Nat) (u : PtT) (p_1 p_2 : Int32) (q : PtT) (hf : f_P_store u p_1 p_2 = some q) : Met l y_P_store (Cond.code y_P_store b_P_store 4 none :: W0) ({ frames := 4, cells := 0, slots := 0, locals := 84 }) (va_Pc [.ref a0, .int p_1, .int p_2] (pc_ (dC, dI) [(cA, .int)] t sz (cw_P cA a0 a_in a_in_places a_out a_out_places a_modem a_log a_log_latest u))) (qv_ (dC, dI) (cw_P cA a0 a_in a_in_places a_out a_out_places a_modem a_log a_log_latest) q (va_A (cw_P cA a0 a_in a_in_places a_out a_out_places a_modem a_log a_log_latest u) sz)) 0 0 (va_A (cw_P cA a0 a_in a_in_places a_out a_out_places a_modem a_log a_log_latest u) sz) := by
  refine start_ l (qv_ (dC, dI) (cw_P cA a0 a_in a_in_places a_out a_out_places a_modem a_log a_log_latest) q) (by decide) (Nat.le_of_ble_eq_true rfl) ?_
  intro p e s m below meth c hx hb hml hr hown ht hlocks hnm A hA hS hP hK hD hZ ls hl
  have hown : s.vm.findClass cls_P = some m.cls := hown
  refine wabs_ (fun WW wi wo => ?_)
  have k_136 : ∀ (u : PtT), f_P_store_136 u = some q → ∀ (H : Heap) (locs : List Loc) (ls : Array Slot), va_P (dC, dI) cls (cw_P cA a0 a_in a_in_places a_out a_out_places a_modem a_log a_log_latest u) H → va_D A (cw_P cA a0 a_in a_in_places a_out a_out_places a_modem a_log a_log_latest u) → va_S A s.heap H locs → lv_has ls 4 [] → WW H locs (F0 m 136 ls []) := by
    intro u hf H locs ls hP hD hS hl
    obtain ⟨v_queued, v_level, v_enabled, v_format, v_spare, v_low, v_high, v_overrun, v_vacated, v_quiet, v_shifting, v_ticksToGo, ⟨v_in_limit, v_in_first, v_in_size, v_in_places⟩, ⟨v_out_limit, v_out_first, v_out_size, v_out_places⟩, ⟨v_modem_control, v_modem_changes, v_modem_given⟩, ⟨v_log_size, v_log_latest⟩⟩ := u
    unfold f_P_store_136 at hf
    try dsimp only at hf
    have hP : va_P (dC, dI) cls [(a0, .inr (2, [.ref a_in, .ref a_out, .ref a_modem, .ref a_log, .int v_queued, .int v_level, .int v_enabled, .int v_format, .int v_spare, .int v_low, .int v_high, .int v_overrun, .int v_vacated, .int v_quiet, .int v_shifting, .int v_ticksToGo])), (a_in, .inr (3, [.ref a_in_places, .int v_in_limit, .int v_in_first, .int v_in_size])), (a_in_places, .inl (cA, 32, .inl v_in_places)), (a_out, .inr (3, [.ref a_out_places, .int v_out_limit, .int v_out_first, .int v_out_size])), (a_out_places, .inl (cA, 32, .inl v_out_places)), (a_modem, .inr (1, [.int v_modem_control, .int v_modem_changes, .int v_modem_given])), (a_log, .inr (4, [.ref a_log_latest, .int v_log_size])), (a_log_latest, .inl (cA, 32, .inl v_log_latest))] _ := hP
    have hD : va_D A [(a0, .inr (2, [.ref a_in, .ref a_out, .ref a_modem, .ref a_log, .int v_queued, .int v_level, .int v_enabled, .int v_format, .int v_spare, .int v_low, .int v_high, .int v_overrun, .int v_vacated, .int v_quiet, .int v_shifting, .int v_ticksToGo])), (a_in, .inr (3, [.ref a_in_places, .int v_in_limit, .int v_in_first, .int v_in_size])), (a_in_places, .inl (cA, 32, .inl v_in_places)), (a_out, .inr (3, [.ref a_out_places, .int v_out_limit, .int v_out_first, .int v_out_size])), (a_out_places, .inl (cA, 32, .inl v_out_places)), (a_modem, .inr (1, [.int v_modem_control, .int v_modem_changes, .int v_modem_given])), (a_log, .inr (4, [.ref a_log_latest, .int v_log_size])), (a_log_latest, .inl (cA, 32, .inl v_log_latest))] := hD
    refine wi _ _ _ ?_
    exact W.vret hx hb hr (fun t9 ht9 _ => rv_ (Option.some.inj hf) hP hD hS ht9) hS.2.2 d_P_store_136
  obtain ⟨v_queued, v_level, v_enabled, v_format, v_spare, v_low, v_high, v_overrun, v_vacated, v_quiet, v_shifting, v_ticksToGo, ⟨v_in_limit, v_in_first, v_in_size, v_in_places⟩, ⟨v_out_limit, v_out_first, v_out_size, v_out_places⟩, ⟨v_modem_control, v_modem_changes, v_modem_given⟩, ⟨v_log_size, v_log_latest⟩⟩ := u
  unfold f_P_store at hf
  try dsimp only at hf
  have hP : va_P (dC, dI) cls [(a0, .inr (2, [.ref a_in, .ref a_out, .ref a_modem, .ref a_log, .int v_queued, .int v_level, .int v_enabled, .int v_format, .int v_spare, .int v_low, .int v_high, .int v_overrun, .int v_vacated, .int v_quiet, .int v_shifting, .int v_ticksToGo])), (a_in, .inr (3, [.ref a_in_places, .int v_in_limit, .int v_in_first, .int v_in_size])), (a_in_places, .inl (cA, 32, .inl v_in_places)), (a_out, .inr (3, [.ref a_out_places, .int v_out_limit, .int v_out_first, .int v_out_size])), (a_out_places, .inl (cA, 32, .inl v_out_places)), (a_modem, .inr (1, [.int v_modem_control, .int v_modem_changes, .int v_modem_given])), (a_log, .inr (4, [.ref a_log_latest, .int v_log_size])), (a_log_latest, .inl (cA, 32, .inl v_log_latest))] _ := hP
  have hD : va_D A [(a0, .inr (2, [.ref a_in, .ref a_out, .ref a_modem, .ref a_log, .int v_queued, .int v_level, .int v_enabled, .int v_format, .int v_spare, .int v_low, .int v_high, .int v_overrun, .int v_vacated, .int v_quiet, .int v_shifting, .int v_ticksToGo])), (a_in, .inr (3, [.ref a_in_places, .int v_in_limit, .int v_in_first, .int v_in_size])), (a_in_places, .inl (cA, 32, .inl v_in_places)), (a_out, .inr (3, [.ref a_out_places, .int v_out_limit, .int v_out_first, .int v_out_size])), (a_out_places, .inl (cA, 32, .inl v_out_places)), (a_modem, .inr (1, [.int v_modem_control, .int v_modem_changes, .int v_modem_given])), (a_log, .inr (4, [.ref a_log_latest, .int v_log_size])), (a_log_latest, .inl (cA, 32, .inl v_log_latest))] := hD
  refine wi _ _ _ ?_
  have hl : lv_has ls 4 [(0, .ref a0), (1, .int p_1), (2, .int p_2)] := hl
  refine lv_iload_n hx hb d_P_store_0 rfl (lv_at hl 2 rfl) ?_
  refine lv_sipush (v := 255) hx hb d_P_store_1 (by decide) ?_
  refine lv_iand hx hb d_P_store_4 ?_
  refine lv_istore_n (lv' := [(3, .int (p_2 &&& 255)), (0, .ref a0), (1, .int p_1), (2, .int p_2)]) hx hb d_P_store_5 rfl hl (by decide) rfl (fun ls hl => ?_)
  refine lv_iload_n hx hb d_P_store_6 rfl (lv_at hl 2 rfl) ?_
  rcases Decidable.em (p_1 = 0) with c_7_0 | c_7_0
  · have hf := ite_t hf c_7_0
    refine lv_swk_ (a := 0) (off := 45) (tgt := 52) hx hb d_P_store_7 c_7_0 (by decide) (by decide) (by decide) rfl (by decide) ?_
    refine lv_aload_n hx hb d_P_store_52 rfl (lv_at hl 1 rfl) ?_
    obtain ⟨q_53, hc_53, hf⟩ := bind_e hf
    refine cVr_ (wc := cw_P cA a0 a_in a_in_places a_out a_out_places a_modem a_log a_log_latest (v_queued, v_level, v_enabled, v_format, v_spare, v_low, v_high, v_overrun, v_vacated, v_quiet, v_shifting, v_ticksToGo, (v_in_limit, v_in_first, v_in_size, v_in_places), (v_out_limit, v_out_first, v_out_size, v_out_places), (v_modem_control, v_modem_changes, v_modem_given), (v_log_size, v_log_latest))) (wr := []) (As := []) (rest := []) ⟨hx, hb, hml, hown, ht⟩ (c_P_usesOtherBank l dC dI cA t a0 a_in a_in_places a_out a_out_places a_modem a_log a_log_latest _ (v_queued, v_level, v_enabled, v_format, v_spare, v_low, v_high, v_overrun, v_vacated, v_quiet, v_shifting, v_ticksToGo, (v_in_limit, v_in_first, v_in_size, v_in_places), (v_out_limit, v_out_first, v_out_size, v_out_places), (v_modem_control, v_modem_changes, v_modem_given), (v_log_size, v_log_latest))  q_53 hc_53) (cwV 0 ht (gV_ k_P_42 ki_P_usesOtherBank ks_P_usesOtherBank kn_P kc_P_usesOtherBank) rfl rfl rfl ⟨rfl, hd_P_usesOtherBank⟩ ⟨Nat.le_of_ble_eq_true rfl, Nat.le_of_ble_eq_true rfl⟩) hK hZ hA hP hD hS [0, 1, 2, 3, 4, 5, 6, 7] [] rfl rfl (by decide) (by decide) (by decide) rfl rfl rfl rfl hl.1 (Nat.le_of_ble_eq_true rfl) d_P_store_53 ⟨Nat.le_of_ble_eq_true rfl, Nat.le_of_ble_eq_true rfl⟩ (fun r_53 H locs hw hP hD hS => ?_)
    subst hw
    have hP : va_P (dC, dI) cls [(a0, .inr (2, [.ref a_in, .ref a_out, .ref a_modem, .ref a_log, .int v_queued, .int v_level, .int v_enabled, .int v_format, .int v_spare, .int v_low, .int v_high, .int v_overrun, .int v_vacated, .int v_quiet, .int v_shifting, .int v_ticksToGo])), (a_in, .inr (3, [.ref a_in_places, .int v_in_limit, .int v_in_first, .int v_in_size])), (a_in_places, .inl (cA, 32, .inl v_in_places)), (a_out, .inr (3, [.ref a_out_places, .int v_out_limit, .int v_out_first, .int v_out_size])), (a_out_places, .inl (cA, 32, .inl v_out_places)), (a_modem, .inr (1, [.int v_modem_control, .int v_modem_changes, .int v_modem_given])), (a_log, .inr (4, [.ref a_log_latest, .int v_log_size])), (a_log_latest, .inl (cA, 32, .inl v_log_latest))] _ := hP.sub [0, 1, 2, 3, 4, 5, 6, 7] rfl
    have hD : va_D A [(a0, .inr (2, [.ref a_in, .ref a_out, .ref a_modem, .ref a_log, .int v_queued, .int v_level, .int v_enabled, .int v_format, .int v_spare, .int v_low, .int v_high, .int v_overrun, .int v_vacated, .int v_quiet, .int v_shifting, .int v_ticksToGo])), (a_in, .inr (3, [.ref a_in_places, .int v_in_limit, .int v_in_first, .int v_in_size])), (a_in_places, .inl (cA, 32, .inl v_in_places)), (a_out, .inr (3, [.ref a_out_places, .int v_out_limit, .int v_out_first, .int v_out_size])), (a_out_places, .inl (cA, 32, .inl v_out_places)), (a_modem, .inr (1, [.int v_modem_control, .int v_modem_changes, .int v_modem_given])), (a_log, .inr (4, [.ref a_log_latest, .int v_log_size])), (a_log_latest, .inl (cA, 32, .inl v_log_latest))] := hD.sub [0, 1, 2, 3, 4, 5, 6, 7] (by decide) rfl
    refine lv_if_eq (tgt := 67) hx hb d_P_store_56 (by decide) (fun c_56 => ?_) (fun c_56 => ?_)
    · have hf := ite_t hf c_56
      refine lv_aload_n hx hb d_P_store_67 rfl (lv_at hl 1 rfl) ?_
      refine lv_iload_n hx hb d_P_store_68 rfl (lv_at hl 0 rfl) ?_
      obtain ⟨q_69, hc_69, hf⟩ := bind_e hf
      refine cVv_ (wc := cw_P cA a0 a_in a_in_places a_out a_out_places a_modem a_log a_log_latest (v_queued, v_level, v_enabled, v_format, v_spare, v_low, v_high, v_overrun, v_vacated, v_quiet, v_shifting, v_ticksToGo, (v_in_limit, v_in_first, v_in_size, v_in_places), (v_out_limit, v_out_first, v_out_size, v_out_places), (v_modem_control, v_modem_changes, v_modem_given), (v_log_size, v_log_latest))) (wr := []) (As := [.int (p_2 &&& 255)]) (rest := []) ⟨hx, hb, hml, hown, ht⟩ (c_P_storeData l dC dI cA t a0 a_in a_in_places a_out a_out_places a_modem a_log a_log_latest _ (v_queued, v_level, v_enabled, v_format, v_spare, v_low, v_high, v_overrun, v_vacated, v_quiet, v_shifting, v_ticksToGo, (v_in_limit, v_in_first, v_in_size, v_in_places), (v_out_limit, v_out_first, v_out_size, v_out_places), (v_modem_control, v_modem_changes, v_modem_given), (v_log_size, v_log_latest)) (p_2 &&& 255) q_69 hc_69) (cwV 1 ht (gV_ k_P_74 ki_P_storeData ks_P_storeData kn_P kc_P_storeData) rfl rfl rfl ⟨rfl, hd_P_storeData⟩ ⟨Nat.le_of_ble_eq_true rfl, Nat.le_of_ble_eq_true rfl⟩) hK hZ hA hP hD hS [0, 1, 2, 3, 4, 5, 6, 7] [] rfl rfl (by decide) (by decide) (by decide) rfl rfl rfl rfl hl.1 (Nat.le_of_ble_eq_true rfl) d_P_store_69 ⟨Nat.le_of_ble_eq_true rfl, Nat.le_of_ble_eq_true rfl⟩ (fun u H locs hw hP hD hS => ?_)
      obtain ⟨v_queued_69, v_level_69, v_enabled_69, v_format_69, v_spare_69, v_low_69, v_high_69, v_overrun_69, v_vacated_69, v_quiet_69, v_shifting_69, v_ticksToGo_69, ⟨v_in_limit_69, v_in_first_69, v_in_size_69, v_in_places_69⟩, ⟨v_out_limit_69, v_out_first_69, v_out_size_69, v_out_places_69⟩, ⟨v_modem_control_69, v_modem_changes_69, v_modem_given_69⟩, ⟨v_log_size_69, v_log_latest_69⟩⟩ := u
      subst hw
      have hP : va_P (dC, dI) cls [(a0, .inr (2, [.ref a_in, .ref a_out, .ref a_modem, .ref a_log, .int v_queued_69, .int v_level_69, .int v_enabled_69, .int v_format_69, .int v_spare_69, .int v_low_69, .int v_high_69, .int v_overrun_69, .int v_vacated_69, .int v_quiet_69, .int v_shifting_69, .int v_ticksToGo_69])), (a_in, .inr (3, [.ref a_in_places, .int v_in_limit_69, .int v_in_first_69, .int v_in_size_69])), (a_in_places, .inl (cA, 32, .inl v_in_places_69)), (a_out, .inr (3, [.ref a_out_places, .int v_out_limit_69, .int v_out_first_69, .int v_out_size_69])), (a_out_places, .inl (cA, 32, .inl v_out_places_69)), (a_modem, .inr (1, [.int v_modem_control_69, .int v_modem_changes_69, .int v_modem_given_69])), (a_log, .inr (4, [.ref a_log_latest, .int v_log_size_69])), (a_log_latest, .inl (cA, 32, .inl v_log_latest_69))] _ := hP.sub [0, 1, 2, 3, 4, 5, 6, 7] rfl
      have hD : va_D A [(a0, .inr (2, [.ref a_in, .ref a_out, .ref a_modem, .ref a_log, .int v_queued_69, .int v_level_69, .int v_enabled_69, .int v_format_69, .int v_spare_69, .int v_low_69, .int v_high_69, .int v_overrun_69, .int v_vacated_69, .int v_quiet_69, .int v_shifting_69, .int v_ticksToGo_69])), (a_in, .inr (3, [.ref a_in_places, .int v_in_limit_69, .int v_in_first_69, .int v_in_size_69])), (a_in_places, .inl (cA, 32, .inl v_in_places_69)), (a_out, .inr (3, [.ref a_out_places, .int v_out_limit_69, .int v_out_first_69, .int v_out_size_69])), (a_out_places, .inl (cA, 32, .inl v_out_places_69)), (a_modem, .inr (1, [.int v_modem_control_69, .int v_modem_changes_69, .int v_modem_given_69])), (a_log, .inr (4, [.ref a_log_latest, .int v_log_size_69])), (a_log_latest, .inl (cA, 32, .inl v_log_latest_69))] := hD.sub [0, 1, 2, 3, 4, 5, 6, 7] (by decide) rfl
      try dsimp only at hf
      refine lv_goto (tgt := 136) hx hb d_P_store_72 (by decide) ?_
      exact wo _ _ _ (k_136 (v_queued_69, v_level_69, v_enabled_69, v_format_69, v_spare_69, v_low_69, v_high_69, v_overrun_69, v_vacated_69, v_quiet_69, v_shifting_69, v_ticksToGo_69, (v_in_limit_69, v_in_first_69, v_in_size_69, v_in_places_69), (v_out_limit_69, v_out_first_69, v_out_size_69, v_out_places_69), (v_modem_control_69, v_modem_changes_69, v_modem_given_69), (v_log_size_69, v_log_latest_69)) hf _ _ _ hP hD hS (lv_sub hl [] rfl))
    · have hf := ite_f hf c_56
      refine lv_aload_n hx hb d_P_store_59 rfl (lv_at hl 1 rfl) ?_
      refine lv_iload_n hx hb d_P_store_60 rfl (lv_at hl 0 rfl) ?_
      refine va_put (D := (dC, dI)) (ci := 2) (v := .int (p_2 &&& 255)) (ty := .int) (C := cls_P) (T := fld_P) (N := 16) hx hb ht iin_P typ_P tok_P nam_P hown hK hP hD hS 0 rfl rfl 9 (by decide) (ht _ k_P_39) (fun _ h9 => h9) rfl (tok_P 9 (by decide)) rfl rfl (Nat.le_of_ble_eq_true rfl) d_P_store_61 (fun H locs hP hD hS => ?_)
      have hP : va_P (dC, dI) cls [(a0, .inr (2, [.ref a_in, .ref a_out, .ref a_modem, .ref a_log, .int v_queued, .int v_level, .int v_enabled, .int v_format, .int v_spare, .int (p_2 &&& 255), .int v_high, .int v_overrun, .int v_vacated, .int v_quiet, .int v_shifting, .int v_ticksToGo])), (a_in, .inr (3, [.ref a_in_places, .int v_in_limit, .int v_in_first, .int v_in_size])), (a_in_places, .inl (cA, 32, .inl v_in_places)), (a_out, .inr (3, [.ref a_out_places, .int v_out_limit, .int v_out_first, .int v_out_size])), (a_out_places, .inl (cA, 32, .inl v_out_places)), (a_modem, .inr (1, [.int v_modem_control, .int v_modem_changes, .int v_modem_given])), (a_log, .inr (4, [.ref a_log_latest, .int v_log_size])), (a_log_latest, .inl (cA, 32, .inl v_log_latest))] _ := hP
      have hD : va_D A [(a0, .inr (2, [.ref a_in, .ref a_out, .ref a_modem, .ref a_log, .int v_queued, .int v_level, .int v_enabled, .int v_format, .int v_spare, .int (p_2 &&& 255), .int v_high, .int v_overrun, .int v_vacated, .int v_quiet, .int v_shifting, .int v_ticksToGo])), (a_in, .inr (3, [.ref a_in_places, .int v_in_limit, .int v_in_first, .int v_in_size])), (a_in_places, .inl (cA, 32, .inl v_in_places)), (a_out, .inr (3, [.ref a_out_places, .int v_out_limit, .int v_out_first, .int v_out_size])), (a_out_places, .inl (cA, 32, .inl v_out_places)), (a_modem, .inr (1, [.int v_modem_control, .int v_modem_changes, .int v_modem_given])), (a_log, .inr (4, [.ref a_log_latest, .int v_log_size])), (a_log_latest, .inl (cA, 32, .inl v_log_latest))] := hD
      refine lv_goto (tgt := 136) hx hb d_P_store_64 (by decide) ?_
      exact wo _ _ _ (k_136 (v_queued, v_level, v_enabled, v_format, v_spare, (p_2 &&& 255), v_high, v_overrun, v_vacated, v_quiet, v_shifting, v_ticksToGo, (v_in_limit, v_in_first, v_in_size, v_in_places), (v_out_limit, v_out_first, v_out_size, v_out_places), (v_modem_control, v_modem_changes, v_modem_given), (v_log_size, v_log_latest)) hf _ _ _ hP hD hS (lv_sub hl [] rfl))
  · have hf := ite_f hf c_7_0
    rcases Decidable.em (p_1 = 1) with c_7_1 | c_7_1
    · have hf := ite_t hf c_7_1
      refine lv_swk_ (a := 1) (off := 68) (tgt := 75) hx hb d_P_store_7 c_7_1 (by decide) (by decide) (by decide) rfl (by decide) ?_
      refine lv_aload_n hx hb d_P_store_75 rfl (lv_at hl 1 rfl) ?_
      obtain ⟨q_76, hc_76, hf⟩ := bind_e hf
      refine cVr_ (wc := cw_P cA a0 a_in a_in_places a_out a_out_places a_modem a_log a_log_latest (v_queued, v_level, v_enabled, v_format, v_spare, v_low, v_high, v_overrun, v_vacated, v_quiet, v_shifting, v_ticksToGo, (v_in_limit, v_in_first, v_in_size, v_in_places), (v_out_limit, v_out_first, v_out_size, v_out_places), (v_modem_control, v_modem_changes, v_modem_given), (v_log_size, v_log_latest))) (wr := []) (As := []) (rest := []) ⟨hx, hb, hml, hown, ht⟩ (c_P_usesOtherBank l dC dI cA t a0 a_in a_in_places a_out a_out_places a_modem a_log a_log_latest _ (v_queued, v_level, v_enabled, v_format, v_spare, v_low, v_high, v_overrun, v_vacated, v_quiet, v_shifting, v_ticksToGo, (v_in_limit, v_in_first, v_in_size, v_in_places), (v_out_limit, v_out_first, v_out_size, v_out_places), (v_modem_control, v_modem_changes, v_modem_given), (v_log_size, v_log_latest))  q_76 hc_76) (cwV 0 ht (gV_ k_P_42 ki_P_usesOtherBank ks_P_usesOtherBank kn_P kc_P_usesOtherBank) rfl rfl rfl ⟨rfl, hd_P_usesOtherBank⟩ ⟨Nat.le_of_ble_eq_true rfl, Nat.le_of_ble_eq_true rfl⟩) hK hZ hA hP hD hS [0, 1, 2, 3, 4, 5, 6, 7] [] rfl rfl (by decide) (by decide) (by decide) rfl rfl rfl rfl hl.1 (Nat.le_of_ble_eq_true rfl) d_P_store_76 ⟨Nat.le_of_ble_eq_true rfl, Nat.le_of_ble_eq_true rfl⟩ (fun r_76 H locs hw hP hD hS => ?_)
      subst hw
      have hP : va_P (dC, dI) cls [(a0, .inr (2, [.ref a_in, .ref a_out, .ref a_modem, .ref a_log, .int v_queued, .int v_level, .int v_enabled, .int v_format, .int v_spare, .int v_low, .int v_high, .int v_overrun, .int v_vacated, .int v_quiet, .int v_shifting, .int v_ticksToGo])), (a_in, .inr (3, [.ref a_in_places, .int v_in_limit, .int v_in_first, .int v_in_size])), (a_in_places, .inl (cA, 32, .inl v_in_places)), (a_out, .inr (3, [.ref a_out_places, .int v_out_limit, .int v_out_first, .int v_out_size])), (a_out_places, .inl (cA, 32, .inl v_out_places)), (a_modem, .inr (1, [.int v_modem_control, .int v_modem_changes, .int v_modem_given])), (a_log, .inr (4, [.ref a_log_latest, .int v_log_size])), (a_log_latest, .inl (cA, 32, .inl v_log_latest))] _ := hP.sub [0, 1, 2, 3, 4, 5, 6, 7] rfl
      have hD : va_D A [(a0, .inr (2, [.ref a_in, .ref a_out, .ref a_modem, .ref a_log, .int v_queued, .int v_level, .int v_enabled, .int v_format, .int v_spare, .int v_low, .int v_high, .int v_overrun, .int v_vacated, .int v_quiet, .int v_shifting, .int v_ticksToGo])), (a_in, .inr (3, [.ref a_in_places, .int v_in_limit, .int v_in_first, .int v_in_size])), (a_in_places, .inl (cA, 32, .inl v_in_places)), (a_out, .inr (3, [.ref a_out_places, .int v_out_limit, .int v_out_first, .int v_out_size])), (a_out_places, .inl (cA, 32, .inl v_out_places)), (a_modem, .inr (1, [.int v_modem_control, .int v_modem_changes, .int v_modem_given])), (a_log, .inr (4, [.ref a_log_latest, .int v_log_size])), (a_log_latest, .inl (cA, 32, .inl v_log_latest))] := hD.sub [0, 1, 2, 3, 4, 5, 6, 7] (by decide) rfl
      refine lv_if_eq (tgt := 90) hx hb d_P_store_79 (by decide) (fun c_79 => ?_) (fun c_79 => ?_)
      · have hf := ite_t hf c_79
        refine lv_aload_n hx hb d_P_store_90 rfl (lv_at hl 1 rfl) ?_
        refine lv_iload_n hx hb d_P_store_91 rfl (lv_at hl 0 rfl) ?_
        obtain ⟨q_92, hc_92, hf⟩ := bind_e hf
        refine cVv_ (wc := cw_P cA a0 a_in a_in_places a_out a_out_places a_modem a_log a_log_latest (v_queued, v_level, v_enabled, v_format, v_spare, v_low, v_high, v_overrun, v_vacated, v_quiet, v_shifting, v_ticksToGo, (v_in_limit, v_in_first, v_in_size, v_in_places), (v_out_limit, v_out_first, v_out_size, v_out_places), (v_modem_control, v_modem_changes, v_modem_given), (v_log_size, v_log_latest))) (wr := []) (As := [.int (p_2 &&& 255)]) (rest := []) ⟨hx, hb, hml, hown, ht⟩ (c_P_storeEnabled l dC dI cA t a0 a_in a_in_places a_out a_out_places a_modem a_log a_log_latest _ (v_queued, v_level, v_enabled, v_format, v_spare, v_low, v_high, v_overrun, v_vacated, v_quiet, v_shifting, v_ticksToGo, (v_in_limit, v_in_first, v_in_size, v_in_places), (v_out_limit, v_out_first, v_out_size, v_out_places), (v_modem_control, v_modem_changes, v_modem_given), (v_log_size, v_log_latest)) (p_2 &&& 255) q_92 hc_92) (cwV 1 ht (gV_ k_P_77 ki_P_storeEnabled ks_P_storeEnabled kn_P kc_P_storeEnabled) rfl rfl rfl ⟨rfl, hd_P_storeEnabled⟩ ⟨Nat.le_of_ble_eq_true rfl, Nat.le_of_ble_eq_true rfl⟩) hK hZ hA hP hD hS [0, 1, 2, 3, 4, 5, 6, 7] [] rfl rfl (by decide) (by decide) (by decide) rfl rfl rfl rfl hl.1 (Nat.le_of_ble_eq_true rfl) d_P_store_92 ⟨Nat.le_of_ble_eq_true rfl, Nat.le_of_ble_eq_true rfl⟩ (fun u H locs hw hP hD hS => ?_)
        obtain ⟨v_queued_92, v_level_92, v_enabled_92, v_format_92, v_spare_92, v_low_92, v_high_92, v_overrun_92, v_vacated_92, v_quiet_92, v_shifting_92, v_ticksToGo_92, ⟨v_in_limit_92, v_in_first_92, v_in_size_92, v_in_places_92⟩, ⟨v_out_limit_92, v_out_first_92, v_out_size_92, v_out_places_92⟩, ⟨v_modem_control_92, v_modem_changes_92, v_modem_given_92⟩, ⟨v_log_size_92, v_log_latest_92⟩⟩ := u
        subst hw
        have hP : va_P (dC, dI) cls [(a0, .inr (2, [.ref a_in, .ref a_out, .ref a_modem, .ref a_log, .int v_queued_92, .int v_level_92, .int v_enabled_92, .int v_format_92, .int v_spare_92, .int v_low_92, .int v_high_92, .int v_overrun_92, .int v_vacated_92, .int v_quiet_92, .int v_shifting_92, .int v_ticksToGo_92])), (a_in, .inr (3, [.ref a_in_places, .int v_in_limit_92, .int v_in_first_92, .int v_in_size_92])), (a_in_places, .inl (cA, 32, .inl v_in_places_92)), (a_out, .inr (3, [.ref a_out_places, .int v_out_limit_92, .int v_out_first_92, .int v_out_size_92])), (a_out_places, .inl (cA, 32, .inl v_out_places_92)), (a_modem, .inr (1, [.int v_modem_control_92, .int v_modem_changes_92, .int v_modem_given_92])), (a_log, .inr (4, [.ref a_log_latest, .int v_log_size_92])), (a_log_latest, .inl (cA, 32, .inl v_log_latest_92))] _ := hP.sub [0, 1, 2, 3, 4, 5, 6, 7] rfl
        have hD : va_D A [(a0, .inr (2, [.ref a_in, .ref a_out, .ref a_modem, .ref a_log, .int v_queued_92, .int v_level_92, .int v_enabled_92, .int v_format_92, .int v_spare_92, .int v_low_92, .int v_high_92, .int v_overrun_92, .int v_vacated_92, .int v_quiet_92, .int v_shifting_92, .int v_ticksToGo_92])), (a_in, .inr (3, [.ref a_in_places, .int v_in_limit_92, .int v_in_first_92, .int v_in_size_92])), (a_in_places, .inl (cA, 32, .inl v_in_places_92)), (a_out, .inr (3, [.ref a_out_places, .int v_out_limit_92, .int v_out_first_92, .int v_out_size_92])), (a_out_places, .inl (cA, 32, .inl v_out_places_92)), (a_modem, .inr (1, [.int v_modem_control_92, .int v_modem_changes_92, .int v_modem_given_92])), (a_log, .inr (4, [.ref a_log_latest, .int v_log_size_92])), (a_log_latest, .inl (cA, 32, .inl v_log_latest_92))] := hD.sub [0, 1, 2, 3, 4, 5, 6, 7] (by decide) rfl
        try dsimp only at hf
        refine lv_goto (tgt := 136) hx hb d_P_store_95 (by decide) ?_
        exact wo _ _ _ (k_136 (v_queued_92, v_level_92, v_enabled_92, v_format_92, v_spare_92, v_low_92, v_high_92, v_overrun_92, v_vacated_92, v_quiet_92, v_shifting_92, v_ticksToGo_92, (v_in_limit_92, v_in_first_92, v_in_size_92, v_in_places_92), (v_out_limit_92, v_out_first_92, v_out_size_92, v_out_places_92), (v_modem_control_92, v_modem_changes_92, v_modem_given_92), (v_log_size_92, v_log_latest_92)) hf _ _ _ hP hD hS (lv_sub hl [] rfl))
      · have hf := ite_f hf c_79
        refine lv_aload_n hx hb d_P_store_82 rfl (lv_at hl 1 rfl) ?_
        refine lv_iload_n hx hb d_P_store_83 rfl (lv_at hl 0 rfl) ?_
        refine va_put (D := (dC, dI)) (ci := 2) (v := .int (p_2 &&& 255)) (ty := .int) (C := cls_P) (T := fld_P) (N := 16) hx hb ht iin_P typ_P tok_P nam_P hown hK hP hD hS 0 rfl rfl 10 (by decide) (ht _ k_P_50) (fun _ h9 => h9) rfl (tok_P 10 (by decide)) rfl rfl (Nat.le_of_ble_eq_true rfl) d_P_store_84 (fun H locs hP hD hS => ?_)
        have hP : va_P (dC, dI) cls [(a0, .inr (2, [.ref a_in, .ref a_out, .ref a_modem, .ref a_log, .int v_queued, .int v_level, .int v_enabled, .int v_format, .int v_spare, .int v_low, .int (p_2 &&& 255), .int v_overrun, .int v_vacated, .int v_quiet, .int v_shifting, .int v_ticksToGo])), (a_in, .inr (3, [.ref a_in_places, .int v_in_limit, .int v_in_first, .int v_in_size])), (a_in_places, .inl (cA, 32, .inl v_in_places)), (a_out, .inr (3, [.ref a_out_places, .int v_out_limit, .int v_out_first, .int v_out_size])), (a_out_places, .inl (cA, 32, .inl v_out_places)), (a_modem, .inr (1, [.int v_modem_control, .int v_modem_changes, .int v_modem_given])), (a_log, .inr (4, [.ref a_log_latest, .int v_log_size])), (a_log_latest, .inl (cA, 32, .inl v_log_latest))] _ := hP
        have hD : va_D A [(a0, .inr (2, [.ref a_in, .ref a_out, .ref a_modem, .ref a_log, .int v_queued, .int v_level, .int v_enabled, .int v_format, .int v_spare, .int v_low, .int (p_2 &&& 255), .int v_overrun, .int v_vacated, .int v_quiet, .int v_shifting, .int v_ticksToGo])), (a_in, .inr (3, [.ref a_in_places, .int v_in_limit, .int v_in_first, .int v_in_size])), (a_in_places, .inl (cA, 32, .inl v_in_places)), (a_out, .inr (3, [.ref a_out_places, .int v_out_limit, .int v_out_first, .int v_out_size])), (a_out_places, .inl (cA, 32, .inl v_out_places)), (a_modem, .inr (1, [.int v_modem_control, .int v_modem_changes, .int v_modem_given])), (a_log, .inr (4, [.ref a_log_latest, .int v_log_size])), (a_log_latest, .inl (cA, 32, .inl v_log_latest))] := hD
        refine lv_goto (tgt := 136) hx hb d_P_store_87 (by decide) ?_
        exact wo _ _ _ (k_136 (v_queued, v_level, v_enabled, v_format, v_spare, v_low, (p_2 &&& 255), v_overrun, v_vacated, v_quiet, v_shifting, v_ticksToGo, (v_in_limit, v_in_first, v_in_size, v_in_places), (v_out_limit, v_out_first, v_out_size, v_out_places), (v_modem_control, v_modem_changes, v_modem_given), (v_log_size, v_log_latest)) hf _ _ _ hP hD hS (lv_sub hl [] rfl))
    · have hf := ite_f hf c_7_1
      rcases Decidable.em (p_1 = 2) with c_7_2 | c_7_2
      · have hf := ite_t hf c_7_2
        refine lv_swk_ (a := 2) (off := 91) (tgt := 98) hx hb d_P_store_7 c_7_2 (by decide) (by decide) (by decide) rfl (by decide) ?_
        refine lv_aload_n hx hb d_P_store_98 rfl (lv_at hl 1 rfl) ?_
        refine lv_iload_n hx hb d_P_store_99 rfl (lv_at hl 0 rfl) ?_
        obtain ⟨q_100, hc_100, hf⟩ := bind_e hf
        refine cVv_ (wc := cw_P cA a0 a_in a_in_places a_out a_out_places a_modem a_log a_log_latest (v_queued, v_level, v_enabled, v_format, v_spare, v_low, v_high, v_overrun, v_vacated, v_quiet, v_shifting, v_ticksToGo, (v_in_limit, v_in_first, v_in_size, v_in_places), (v_out_limit, v_out_first, v_out_size, v_out_places), (v_modem_control, v_modem_changes, v_modem_given), (v_log_size, v_log_latest))) (wr := []) (As := [.int (p_2 &&& 255)]) (rest := []) ⟨hx, hb, hml, hown, ht⟩ (c_P_storeQueueing l dC dI cA t a0 a_in a_in_places a_out a_out_places a_modem a_log a_log_latest _ (v_queued, v_level, v_enabled, v_format, v_spare, v_low, v_high, v_overrun, v_vacated, v_quiet, v_shifting, v_ticksToGo, (v_in_limit, v_in_first, v_in_size, v_in_places), (v_out_limit, v_out_first, v_out_size, v_out_places), (v_modem_control, v_modem_changes, v_modem_given), (v_log_size, v_log_latest)) (p_2 &&& 255) q_100 hc_100) (cwV 1 ht (gV_ k_P_80 ki_P_storeQueueing ks_P_storeQueueing kn_P kc_P_storeQueueing) rfl rfl rfl ⟨rfl, hd_P_storeQueueing⟩ ⟨Nat.le_of_ble_eq_true rfl, Nat.le_of_ble_eq_true rfl⟩) hK hZ hA hP hD hS [0, 1, 2, 3, 4, 5, 6, 7] [] rfl rfl (by decide) (by decide) (by decide) rfl rfl rfl rfl hl.1 (Nat.le_of_ble_eq_true rfl) d_P_store_100 ⟨Nat.le_of_ble_eq_true rfl, Nat.le_of_ble_eq_true rfl⟩ (fun u H locs hw hP hD hS => ?_)
        obtain ⟨v_queued_100, v_level_100, v_enabled_100, v_format_100, v_spare_100, v_low_100, v_high_100, v_overrun_100, v_vacated_100, v_quiet_100, v_shifting_100, v_ticksToGo_100, ⟨v_in_limit_100, v_in_first_100, v_in_size_100, v_in_places_100⟩, ⟨v_out_limit_100, v_out_first_100, v_out_size_100, v_out_places_100⟩, ⟨v_modem_control_100, v_modem_changes_100, v_modem_given_100⟩, ⟨v_log_size_100, v_log_latest_100⟩⟩ := u
        subst hw
        have hP : va_P (dC, dI) cls [(a0, .inr (2, [.ref a_in, .ref a_out, .ref a_modem, .ref a_log, .int v_queued_100, .int v_level_100, .int v_enabled_100, .int v_format_100, .int v_spare_100, .int v_low_100, .int v_high_100, .int v_overrun_100, .int v_vacated_100, .int v_quiet_100, .int v_shifting_100, .int v_ticksToGo_100])), (a_in, .inr (3, [.ref a_in_places, .int v_in_limit_100, .int v_in_first_100, .int v_in_size_100])), (a_in_places, .inl (cA, 32, .inl v_in_places_100)), (a_out, .inr (3, [.ref a_out_places, .int v_out_limit_100, .int v_out_first_100, .int v_out_size_100])), (a_out_places, .inl (cA, 32, .inl v_out_places_100)), (a_modem, .inr (1, [.int v_modem_control_100, .int v_modem_changes_100, .int v_modem_given_100])), (a_log, .inr (4, [.ref a_log_latest, .int v_log_size_100])), (a_log_latest, .inl (cA, 32, .inl v_log_latest_100))] _ := hP.sub [0, 1, 2, 3, 4, 5, 6, 7] rfl
        have hD : va_D A [(a0, .inr (2, [.ref a_in, .ref a_out, .ref a_modem, .ref a_log, .int v_queued_100, .int v_level_100, .int v_enabled_100, .int v_format_100, .int v_spare_100, .int v_low_100, .int v_high_100, .int v_overrun_100, .int v_vacated_100, .int v_quiet_100, .int v_shifting_100, .int v_ticksToGo_100])), (a_in, .inr (3, [.ref a_in_places, .int v_in_limit_100, .int v_in_first_100, .int v_in_size_100])), (a_in_places, .inl (cA, 32, .inl v_in_places_100)), (a_out, .inr (3, [.ref a_out_places, .int v_out_limit_100, .int v_out_first_100, .int v_out_size_100])), (a_out_places, .inl (cA, 32, .inl v_out_places_100)), (a_modem, .inr (1, [.int v_modem_control_100, .int v_modem_changes_100, .int v_modem_given_100])), (a_log, .inr (4, [.ref a_log_latest, .int v_log_size_100])), (a_log_latest, .inl (cA, 32, .inl v_log_latest_100))] := hD.sub [0, 1, 2, 3, 4, 5, 6, 7] (by decide) rfl
        try dsimp only at hf
        refine lv_goto (tgt := 136) hx hb d_P_store_103 (by decide) ?_
        exact wo _ _ _ (k_136 (v_queued_100, v_level_100, v_enabled_100, v_format_100, v_spare_100, v_low_100, v_high_100, v_overrun_100, v_vacated_100, v_quiet_100, v_shifting_100, v_ticksToGo_100, (v_in_limit_100, v_in_first_100, v_in_size_100, v_in_places_100), (v_out_limit_100, v_out_first_100, v_out_size_100, v_out_places_100), (v_modem_control_100, v_modem_changes_100, v_modem_given_100), (v_log_size_100, v_log_latest_100)) hf _ _ _ hP hD hS (lv_sub hl [] rfl))
      · have hf := ite_f hf c_7_2
        rcases Decidable.em (p_1 = 3) with c_7_3 | c_7_3
        · have hf := ite_t hf c_7_3
          refine lv_swk_ (a := 3) (off := 99) (tgt := 106) hx hb d_P_store_7 c_7_3 (by decide) (by decide) (by decide) rfl (by decide) ?_
          refine lv_aload_n hx hb d_P_store_106 rfl (lv_at hl 1 rfl) ?_
          refine lv_iload_n hx hb d_P_store_107 rfl (lv_at hl 0 rfl) ?_
          refine va_put (D := (dC, dI)) (ci := 2) (v := .int (p_2 &&& 255)) (ty := .int) (C := cls_P) (T := fld_P) (N := 16) hx hb ht iin_P typ_P tok_P nam_P hown hK hP hD hS 0 rfl rfl 7 (by decide) (ht _ k_P_59) (fun _ h9 => h9) rfl (tok_P 7 (by decide)) rfl rfl (Nat.le_of_ble_eq_true rfl) d_P_store_108 (fun H locs hP hD hS => ?_)
          have hP : va_P (dC, dI) cls [(a0, .inr (2, [.ref a_in, .ref a_out, .ref a_modem, .ref a_log, .int v_queued, .int v_level, .int v_enabled, .int (p_2 &&& 255), .int v_spare, .int v_low, .int v_high, .int v_overrun, .int v_vacated, .int v_quiet, .int v_shifting, .int v_ticksToGo])), (a_in, .inr (3, [.ref a_in_places, .int v_in_limit, .int v_in_first, .int v_in_size])), (a_in_places, .inl (cA, 32, .inl v_in_places)), (a_out, .inr (3, [.ref a_out_places, .int v_out_limit, .int v_out_first, .int v_out_size])), (a_out_places, .inl (cA, 32, .inl v_out_places)), (a_modem, .inr (1, [.int v_modem_control, .int v_modem_changes, .int v_modem_given])), (a_log, .inr (4, [.ref a_log_latest, .int v_log_size])), (a_log_latest, .inl (cA, 32, .inl v_log_latest))] _ := hP
          have hD : va_D A [(a0, .inr (2, [.ref a_in, .ref a_out, .ref a_modem, .ref a_log, .int v_queued, .int v_level, .int v_enabled, .int (p_2 &&& 255), .int v_spare, .int v_low, .int v_high, .int v_overrun, .int v_vacated, .int v_quiet, .int v_shifting, .int v_ticksToGo])), (a_in, .inr (3, [.ref a_in_places, .int v_in_limit, .int v_in_first, .int v_in_size])), (a_in_places, .inl (cA, 32, .inl v_in_places)), (a_out, .inr (3, [.ref a_out_places, .int v_out_limit, .int v_out_first, .int v_out_size])), (a_out_places, .inl (cA, 32, .inl v_out_places)), (a_modem, .inr (1, [.int v_modem_control, .int v_modem_changes, .int v_modem_given])), (a_log, .inr (4, [.ref a_log_latest, .int v_log_size])), (a_log_latest, .inl (cA, 32, .inl v_log_latest))] := hD
          refine lv_goto (tgt := 136) hx hb d_P_store_111 (by decide) ?_
          exact wo _ _ _ (k_136 (v_queued, v_level, v_enabled, (p_2 &&& 255), v_spare, v_low, v_high, v_overrun, v_vacated, v_quiet, v_shifting, v_ticksToGo, (v_in_limit, v_in_first, v_in_size, v_in_places), (v_out_limit, v_out_first, v_out_size, v_out_places), (v_modem_control, v_modem_changes, v_modem_given), (v_log_size, v_log_latest)) hf _ _ _ hP hD hS (lv_sub hl [] rfl))
        · have hf := ite_f hf c_7_3
          rcases Decidable.em (p_1 = 4) with c_7_4 | c_7_4
          · have hf := ite_t hf c_7_4
            refine lv_swk_ (a := 4) (off := 107) (tgt := 114) hx hb d_P_store_7 c_7_4 (by decide) (by decide) (by decide) rfl (by decide) ?_
            refine lv_aload_n hx hb d_P_store_114 rfl (lv_at hl 1 rfl) ?_
            refine va_get (D := (dC, dI)) (ci := 2) (v := .ref a_modem) (C := cls_P) (T := fld_P) (N := 16) hx hb ht iin_P hown hK hP 0 rfl rfl 2 (by decide) (ht _ k_P_24) (fun _ h9 => h9) rfl d_P_store_115 ?_
            refine lv_iload_n hx hb d_P_store_118 rfl (lv_at hl 0 rfl) ?_
            refine lv_bipush (v := 31) hx hb d_P_store_119 (by decide) ?_
            refine lv_iand hx hb d_P_store_121 ?_
            obtain ⟨q_122, hc_122, hf⟩ := bind_e hf
            refine cVv_ (wc := cw_M cA a_modem (v_modem_control, v_modem_changes, v_modem_given)) (wr := [(a0, .inr (2, [.ref a_in, .ref a_out, .ref a_modem, .ref a_log, .int v_queued, .int v_level, .int v_enabled, .int v_format, .int v_spare, .int v_low, .int v_high, .int v_overrun, .int v_vacated, .int v_quiet, .int v_shifting, .int v_ticksToGo])), (a_in, .inr (3, [.ref a_in_places, .int v_in_limit, .int v_in_first, .int v_in_size])), (a_in_places, .inl (cA, 32, .inl v_in_places)), (a_out, .inr (3, [.ref a_out_places, .int v_out_limit, .int v_out_first, .int v_out_size])), (a_out_places, .inl (cA, 32, .inl v_out_places)), (a_log, .inr (4, [.ref a_log_latest, .int v_log_size])), (a_log_latest, .inl (cA, 32, .inl v_log_latest))]) (As := [.int ((p_2 &&& 255) &&& 31)]) (rest := []) ⟨hx, hb, hml, hown, ht⟩ (c_M_setControl l dC dI cA t a_modem _ (v_modem_control, v_modem_changes, v_modem_given) ((p_2 &&& 255) &&& 31) q_122 hc_122) (cwV 1 ht (gV_ k_P_83 ki_M_setControl ks_M_setControl kn_M kc_M_setControl) rfl rfl rfl ⟨rfl, hd_M_setControl⟩ ⟨Nat.le_of_ble_eq_true rfl, Nat.le_of_ble_eq_true rfl⟩) hK hZ hA hP hD hS [5] [0, 1, 2, 3, 4, 6, 7] rfl rfl (by decide) (by decide) (by decide) rfl rfl rfl rfl hl.1 (Nat.le_of_ble_eq_true rfl) d_P_store_122 ⟨Nat.le_of_ble_eq_true rfl, Nat.le_of_ble_eq_true rfl⟩ (fun u H locs hw hP hD hS => ?_)
            obtain ⟨v_modem_control_122, v_modem_changes_122, v_modem_given_122⟩ := u
            subst hw
            have hP : va_P (dC, dI) cls [(a0, .inr (2, [.ref a_in, .ref a_out, .ref a_modem, .ref a_log, .int v_queued, .int v_level, .int v_enabled, .int v_format, .int v_spare, .int v_low, .int v_high, .int v_overrun, .int v_vacated, .int v_quiet, .int v_shifting, .int v_ticksToGo])), (a_in, .inr (3, [.ref a_in_places, .int v_in_limit, .int v_in_first, .int v_in_size])), (a_in_places, .inl (cA, 32, .inl v_in_places)), (a_out, .inr (3, [.ref a_out_places, .int v_out_limit, .int v_out_first, .int v_out_size])), (a_out_places, .inl (cA, 32, .inl v_out_places)), (a_modem, .inr (1, [.int v_modem_control_122, .int v_modem_changes_122, .int v_modem_given_122])), (a_log, .inr (4, [.ref a_log_latest, .int v_log_size])), (a_log_latest, .inl (cA, 32, .inl v_log_latest))] _ := hP.sub [0, 1, 2, 3, 4, 7, 5, 6] rfl
            have hD : va_D A [(a0, .inr (2, [.ref a_in, .ref a_out, .ref a_modem, .ref a_log, .int v_queued, .int v_level, .int v_enabled, .int v_format, .int v_spare, .int v_low, .int v_high, .int v_overrun, .int v_vacated, .int v_quiet, .int v_shifting, .int v_ticksToGo])), (a_in, .inr (3, [.ref a_in_places, .int v_in_limit, .int v_in_first, .int v_in_size])), (a_in_places, .inl (cA, 32, .inl v_in_places)), (a_out, .inr (3, [.ref a_out_places, .int v_out_limit, .int v_out_first, .int v_out_size])), (a_out_places, .inl (cA, 32, .inl v_out_places)), (a_modem, .inr (1, [.int v_modem_control_122, .int v_modem_changes_122, .int v_modem_given_122])), (a_log, .inr (4, [.ref a_log_latest, .int v_log_size])), (a_log_latest, .inl (cA, 32, .inl v_log_latest))] := hD.sub [0, 1, 2, 3, 4, 7, 5, 6] (by decide) rfl
            try dsimp only at hf
            refine lv_goto (tgt := 136) hx hb d_P_store_125 (by decide) ?_
            exact wo _ _ _ (k_136 (v_queued, v_level, v_enabled, v_format, v_spare, v_low, v_high, v_overrun, v_vacated, v_quiet, v_shifting, v_ticksToGo, (v_in_limit, v_in_first, v_in_size, v_in_places), (v_out_limit, v_out_first, v_out_size, v_out_places), (v_modem_control_122, v_modem_changes_122, v_modem_given_122), (v_log_size, v_log_latest)) hf _ _ _ hP hD hS (lv_sub hl [] rfl))
          · have hf := ite_f hf c_7_4
            rcases Decidable.em (p_1 = 7) with c_7_7 | c_7_7
            · have hf := ite_t hf c_7_7
              refine lv_swk_ (a := 7) (off := 121) (tgt := 128) hx hb d_P_store_7 c_7_7 (by decide) (by decide) (by decide) rfl (by decide) ?_
              refine lv_aload_n hx hb d_P_store_128 rfl (lv_at hl 1 rfl) ?_
              refine lv_iload_n hx hb d_P_store_129 rfl (lv_at hl 0 rfl) ?_
              refine va_put (D := (dC, dI)) (ci := 2) (v := .int (p_2 &&& 255)) (ty := .int) (C := cls_P) (T := fld_P) (N := 16) hx hb ht iin_P typ_P tok_P nam_P hown hK hP hD hS 0 rfl rfl 8 (by decide) (ht _ k_P_71) (fun _ h9 => h9) rfl (tok_P 8 (by decide)) rfl rfl (Nat.le_of_ble_eq_true rfl) d_P_store_130 (fun H locs hP hD hS => ?_)
              have hP : va_P (dC, dI) cls [(a0, .inr (2, [.ref a_in, .ref a_out, .ref a_modem, .ref a_log, .int v_queued, .int v_level, .int v_enabled, .int v_format, .int (p_2 &&& 255), .int v_low, .int v_high, .int v_overrun, .int v_vacated, .int v_quiet, .int v_shifting, .int v_ticksToGo])), (a_in, .inr (3, [.ref a_in_places, .int v_in_limit, .int v_in_first, .int v_in_size])), (a_in_places, .inl (cA, 32, .inl v_in_places)), (a_out, .inr (3, [.ref a_out_places, .int v_out_limit, .int v_out_first, .int v_out_size])), (a_out_places, .inl (cA, 32, .inl v_out_places)), (a_modem, .inr (1, [.int v_modem_control, .int v_modem_changes, .int v_modem_given])), (a_log, .inr (4, [.ref a_log_latest, .int v_log_size])), (a_log_latest, .inl (cA, 32, .inl v_log_latest))] _ := hP
              have hD : va_D A [(a0, .inr (2, [.ref a_in, .ref a_out, .ref a_modem, .ref a_log, .int v_queued, .int v_level, .int v_enabled, .int v_format, .int (p_2 &&& 255), .int v_low, .int v_high, .int v_overrun, .int v_vacated, .int v_quiet, .int v_shifting, .int v_ticksToGo])), (a_in, .inr (3, [.ref a_in_places, .int v_in_limit, .int v_in_first, .int v_in_size])), (a_in_places, .inl (cA, 32, .inl v_in_places)), (a_out, .inr (3, [.ref a_out_places, .int v_out_limit, .int v_out_first, .int v_out_size])), (a_out_places, .inl (cA, 32, .inl v_out_places)), (a_modem, .inr (1, [.int v_modem_control, .int v_modem_changes, .int v_modem_given])), (a_log, .inr (4, [.ref a_log_latest, .int v_log_size])), (a_log_latest, .inl (cA, 32, .inl v_log_latest))] := hD
              refine lv_goto (tgt := 136) hx hb d_P_store_133 (by decide) ?_
              exact wo _ _ _ (k_136 (v_queued, v_level, v_enabled, v_format, (p_2 &&& 255), v_low, v_high, v_overrun, v_vacated, v_quiet, v_shifting, v_ticksToGo, (v_in_limit, v_in_first, v_in_size, v_in_places), (v_out_limit, v_out_first, v_out_size, v_out_places), (v_modem_control, v_modem_changes, v_modem_given), (v_log_size, v_log_latest)) hf _ _ _ hP hD hS (lv_sub hl [] rfl))
            · have hf := ite_f hf c_7_7
              rcases Decidable.em (p_1 = 5) with c_7_5 | c_7_5
              · refine lv_swk_ (a := 5) (off := 129) (tgt := 136) hx hb d_P_store_7 c_7_5 (by decide) (by decide) (by decide) rfl (by decide) ?_
                exact wo _ _ _ (k_136 (v_queued, v_level, v_enabled, v_format, v_spare, v_low, v_high, v_overrun, v_vacated, v_quiet, v_shifting, v_ticksToGo, (v_in_limit, v_in_first, v_in_size, v_in_places), (v_out_limit, v_out_first, v_out_size, v_out_places), (v_modem_control, v_modem_changes, v_modem_given), (v_log_size, v_log_latest)) hf _ _ _ hP hD hS (lv_sub hl [] rfl))
              · rcases Decidable.em (p_1 = 6) with c_7_6 | c_7_6
                · refine lv_swk_ (a := 6) (off := 129) (tgt := 136) hx hb d_P_store_7 c_7_6 (by decide) (by decide) (by decide) rfl (by decide) ?_
                  exact wo _ _ _ (k_136 (v_queued, v_level, v_enabled, v_format, v_spare, v_low, v_high, v_overrun, v_vacated, v_quiet, v_shifting, v_ticksToGo, (v_in_limit, v_in_first, v_in_size, v_in_places), (v_out_limit, v_out_first, v_out_size, v_out_places), (v_modem_control, v_modem_changes, v_modem_given), (v_log_size, v_log_latest)) hf _ _ _ hP hD hS (lv_sub hl [] rfl))
                · refine lv_tableOut (tgt := 136) hx hb d_P_store_7 (by have e_0 := lv_neT c_7_0 (a := 0) (by decide); have e_1 := lv_neT c_7_1 (a := 1) (by decide); have e_2 := lv_neT c_7_2 (a := 2) (by decide); have e_3 := lv_neT c_7_3 (a := 3) (by decide); have e_4 := lv_neT c_7_4 (a := 4) (by decide); have e_5 := lv_neT c_7_5 (a := 5) (by decide); have e_6 := lv_neT c_7_6 (a := 6) (by decide); have e_7 := lv_neT c_7_7 (a := 7) (by decide); omega) (by decide) ?_
                  exact wo _ _ _ (k_136 (v_queued, v_level, v_enabled, v_format, v_spare, v_low, v_high, v_overrun, v_vacated, v_quiet, v_shifting, v_ticksToGo, (v_in_limit, v_in_first, v_in_size, v_in_places), (v_out_limit, v_out_first, v_out_size, v_out_places), (v_modem_control, v_modem_changes, v_modem_given), (v_log_size, v_log_latest)) hf _ _ _ hP hD hS (lv_sub hl [] rfl))
end
