section
-- ===== PART A: goes FIRST, ahead of the names: the tables' words, and 'selects' of the private methods out of them =====
/-- a private method of a class that the tables say can be made, by its rows of tables_1 -/
def lw_okq (q : MethodName × Nat) : Prop := (q.1.cls ≠ "java/lang/invoke/MethodHandle" ∧ q.1.cls ≠ "java/lang/invoke/VarHandle") ∧ Cond.instantiable q.1.cls q.2 ∈ tables_1 ∧ Cond.privateMethod q.1 ∈ tables_1 ∧ Cond.instanceMethod q.1 ∈ tables_1
theorem lw_p0 : lw_okq (⟨"TwinVolume", "nodeOf", "(I)LTwinVolume$Node;"⟩, 5) := ⟨⟨by decide +kernel, by decide +kernel⟩, List.mem_of_getElem? (i := 10) (by decide +kernel), List.mem_of_getElem? (i := 201) (by decide +kernel), List.mem_of_getElem? (i := 202) (by decide +kernel)⟩
theorem lw_p1 : lw_okq (⟨"TwinVolume$WriteTable", "isPendingOf", "(II)Z"⟩, 6) := ⟨⟨by decide +kernel, by decide +kernel⟩, List.mem_of_getElem? (i := 144) (by decide +kernel), List.mem_of_getElem? (i := 213) (by decide +kernel), List.mem_of_getElem? (i := 214) (by decide +kernel)⟩
theorem lw_p2 : lw_okq (⟨"TwinVolume", "endUpAlone", "(I)V"⟩, 5) := ⟨⟨by decide +kernel, by decide +kernel⟩, List.mem_of_getElem? (i := 10) (by decide +kernel), List.mem_of_getElem? (i := 248) (by decide +kernel), List.mem_of_getElem? (i := 249) (by decide +kernel)⟩
theorem lw_p3 : lw_okq (⟨"TwinVolume", "peerOf", "(I)LTwinVolume$Node;"⟩, 5) := ⟨⟨by decide +kernel, by decide +kernel⟩, List.mem_of_getElem? (i := 10) (by decide +kernel), List.mem_of_getElem? (i := 276) (by decide +kernel), List.mem_of_getElem? (i := 277) (by decide +kernel)⟩
theorem lw_p4 : lw_okq (⟨"TwinVolume", "arrive", "(LTwinVolume$Node;III)V"⟩, 5) := ⟨⟨by decide +kernel, by decide +kernel⟩, List.mem_of_getElem? (i := 10) (by decide +kernel), List.mem_of_getElem? (i := 280) (by decide +kernel), List.mem_of_getElem? (i := 281) (by decide +kernel)⟩
theorem lw_p5 : lw_okq (⟨"TwinVolume", "takeAck", "(LTwinVolume$Node;I)V"⟩, 5) := ⟨⟨by decide +kernel, by decide +kernel⟩, List.mem_of_getElem? (i := 10) (by decide +kernel), List.mem_of_getElem? (i := 288) (by decide +kernel), List.mem_of_getElem? (i := 289) (by decide +kernel)⟩
theorem lw_p6 : lw_okq (⟨"TwinVolume", "takeFromMap", "(LTwinVolume$Node;I)V"⟩, 5) := ⟨⟨by decide +kernel, by decide +kernel⟩, List.mem_of_getElem? (i := 10) (by decide +kernel), List.mem_of_getElem? (i := 292) (by decide +kernel), List.mem_of_getElem? (i := 293) (by decide +kernel)⟩
theorem lw_p7 : lw_okq (⟨"TwinVolume", "end", "(LTwinVolume$Node;)V"⟩, 5) := ⟨⟨by decide +kernel, by decide +kernel⟩, List.mem_of_getElem? (i := 10) (by decide +kernel), List.mem_of_getElem? (i := 296) (by decide +kernel), List.mem_of_getElem? (i := 297) (by decide +kernel)⟩
theorem lw_p8 : lw_okq (⟨"TwinVolume", "wentDifferentWays", "()Z"⟩, 5) := ⟨⟨by decide +kernel, by decide +kernel⟩, List.mem_of_getElem? (i := 10) (by decide +kernel), List.mem_of_getElem? (i := 337) (by decide +kernel), List.mem_of_getElem? (i := 338) (by decide +kernel)⟩
theorem lw_p9 : lw_okq (⟨"TwinVolume", "chooseSource", "()I"⟩, 5) := ⟨⟨by decide +kernel, by decide +kernel⟩, List.mem_of_getElem? (i := 10) (by decide +kernel), List.mem_of_getElem? (i := 341) (by decide +kernel), List.mem_of_getElem? (i := 342) (by decide +kernel)⟩
theorem lw_p10 : lw_okq (⟨"TwinVolume", "beginUpdate", "(LTwinVolume$Node;LTwinVolume$Node;)V"⟩, 5) := ⟨⟨by decide +kernel, by decide +kernel⟩, List.mem_of_getElem? (i := 10) (by decide +kernel), List.mem_of_getElem? (i := 345) (by decide +kernel), List.mem_of_getElem? (i := 346) (by decide +kernel)⟩
theorem lw_p11 : lw_okq (⟨"TwinVolume", "breakLink", "()V"⟩, 5) := ⟨⟨by decide +kernel, by decide +kernel⟩, List.mem_of_getElem? (i := 10) (by decide +kernel), List.mem_of_getElem? (i := 353) (by decide +kernel), List.mem_of_getElem? (i := 354) (by decide +kernel)⟩
theorem lw_p12 : lw_okq (⟨"TwinVolumeModel", "pending", "(III)I"⟩, 28) := ⟨⟨by decide +kernel, by decide +kernel⟩, List.mem_of_getElem? (i := 421) (by decide +kernel), List.mem_of_getElem? (i := 523) (by decide +kernel), List.mem_of_getElem? (i := 524) (by decide +kernel)⟩
theorem lw_p13 : lw_okq (⟨"TwinVolumeModel", "inLog", "(I)I"⟩, 28) := ⟨⟨by decide +kernel, by decide +kernel⟩, List.mem_of_getElem? (i := 421) (by decide +kernel), List.mem_of_getElem? (i := 527) (by decide +kernel), List.mem_of_getElem? (i := 528) (by decide +kernel)⟩
theorem lw_p14 : lw_okq (⟨"TwinVolumeModel", "idle", "(I)I"⟩, 28) := ⟨⟨by decide +kernel, by decide +kernel⟩, List.mem_of_getElem? (i := 421) (by decide +kernel), List.mem_of_getElem? (i := 531) (by decide +kernel), List.mem_of_getElem? (i := 532) (by decide +kernel)⟩
theorem lw_p15 : lw_okq (⟨"TwinVolumeModel", "send", "(IIII)V"⟩, 28) := ⟨⟨by decide +kernel, by decide +kernel⟩, List.mem_of_getElem? (i := 421) (by decide +kernel), List.mem_of_getElem? (i := 535) (by decide +kernel), List.mem_of_getElem? (i := 536) (by decide +kernel)⟩
def lw_privs_1 : List (MethodName × Nat) := [(⟨"TwinVolume", "nodeOf", "(I)LTwinVolume$Node;"⟩, 5), (⟨"TwinVolume$WriteTable", "isPendingOf", "(II)Z"⟩, 6), (⟨"TwinVolume", "endUpAlone", "(I)V"⟩, 5), (⟨"TwinVolume", "peerOf", "(I)LTwinVolume$Node;"⟩, 5), (⟨"TwinVolume", "arrive", "(LTwinVolume$Node;III)V"⟩, 5), (⟨"TwinVolume", "takeAck", "(LTwinVolume$Node;I)V"⟩, 5), (⟨"TwinVolume", "takeFromMap", "(LTwinVolume$Node;I)V"⟩, 5), (⟨"TwinVolume", "end", "(LTwinVolume$Node;)V"⟩, 5), (⟨"TwinVolume", "wentDifferentWays", "()Z"⟩, 5), (⟨"TwinVolume", "chooseSource", "()I"⟩, 5), (⟨"TwinVolume", "beginUpdate", "(LTwinVolume$Node;LTwinVolume$Node;)V"⟩, 5), (⟨"TwinVolume", "breakLink", "()V"⟩, 5), (⟨"TwinVolumeModel", "pending", "(III)I"⟩, 28), (⟨"TwinVolumeModel", "inLog", "(I)I"⟩, 28), (⟨"TwinVolumeModel", "idle", "(I)I"⟩, 28), (⟨"TwinVolumeModel", "send", "(IIII)V"⟩, 28)]
theorem lw_r1 : ∀ q ∈ lw_privs_1, lw_okq q := List.forall_mem_cons.mpr ⟨lw_p0, List.forall_mem_cons.mpr ⟨lw_p1, List.forall_mem_cons.mpr ⟨lw_p2, List.forall_mem_cons.mpr ⟨lw_p3, List.forall_mem_cons.mpr ⟨lw_p4, List.forall_mem_cons.mpr ⟨lw_p5, List.forall_mem_cons.mpr ⟨lw_p6, List.forall_mem_cons.mpr ⟨lw_p7, List.forall_mem_cons.mpr ⟨lw_p8, List.forall_mem_cons.mpr ⟨lw_p9, List.forall_mem_cons.mpr ⟨lw_p10, List.forall_mem_cons.mpr ⟨lw_p11, List.forall_mem_cons.mpr ⟨lw_p12, List.forall_mem_cons.mpr ⟨lw_p13, List.forall_mem_cons.mpr ⟨lw_p14, List.forall_mem_cons.mpr ⟨lw_p15, fun _ h => absurd h List.not_mem_nil⟩⟩⟩⟩⟩⟩⟩⟩⟩⟩⟩⟩⟩⟩⟩⟩
theorem lw_p16 : lw_okq (⟨"TwinVolumeModel", "alone", "(I)V"⟩, 28) := ⟨⟨by decide +kernel, by decide +kernel⟩, List.mem_of_getElem? (i := 421) (by decide +kernel), List.mem_of_getElem? (i := 539) (by decide +kernel), List.mem_of_getElem? (i := 540) (by decide +kernel)⟩
theorem lw_p17 : lw_okq (⟨"TwinVolumeModel", "arrive", "(IIII)V"⟩, 28) := ⟨⟨by decide +kernel, by decide +kernel⟩, List.mem_of_getElem? (i := 421) (by decide +kernel), List.mem_of_getElem? (i := 551) (by decide +kernel), List.mem_of_getElem? (i := 552) (by decide +kernel)⟩
theorem lw_p18 : lw_okq (⟨"TwinVolumeModel", "endIfEmpty", "(I)V"⟩, 28) := ⟨⟨by decide +kernel, by decide +kernel⟩, List.mem_of_getElem? (i := 421) (by decide +kernel), List.mem_of_getElem? (i := 555) (by decide +kernel), List.mem_of_getElem? (i := 556) (by decide +kernel)⟩
theorem lw_p19 : lw_okq (⟨"TwinVolumeModel", "nothingInMap", "(I)Z"⟩, 28) := ⟨⟨by decide +kernel, by decide +kernel⟩, List.mem_of_getElem? (i := 421) (by decide +kernel), List.mem_of_getElem? (i := 559) (by decide +kernel), List.mem_of_getElem? (i := 560) (by decide +kernel)⟩
theorem lw_p20 : lw_okq (⟨"TwinVolumeModel", "turnInto", "(III)V"⟩, 28) := ⟨⟨by decide +kernel, by decide +kernel⟩, List.mem_of_getElem? (i := 421) (by decide +kernel), List.mem_of_getElem? (i := 563) (by decide +kernel), List.mem_of_getElem? (i := 564) (by decide +kernel)⟩
theorem lw_p21 : lw_okq (⟨"TwinVolumeModel", "underWay", "(II)I"⟩, 28) := ⟨⟨by decide +kernel, by decide +kernel⟩, List.mem_of_getElem? (i := 421) (by decide +kernel), List.mem_of_getElem? (i := 575) (by decide +kernel), List.mem_of_getElem? (i := 576) (by decide +kernel)⟩
theorem lw_p22 : lw_okq (⟨"TwinVolumeModel", "onTheWay", "(III)I"⟩, 28) := ⟨⟨by decide +kernel, by decide +kernel⟩, List.mem_of_getElem? (i := 421) (by decide +kernel), List.mem_of_getElem? (i := 579) (by decide +kernel), List.mem_of_getElem? (i := 580) (by decide +kernel)⟩
theorem lw_p23 : lw_okq (⟨"TwinVolumeModel", "chosen", "()I"⟩, 28) := ⟨⟨by decide +kernel, by decide +kernel⟩, List.mem_of_getElem? (i := 421) (by decide +kernel), List.mem_of_getElem? (i := 587) (by decide +kernel), List.mem_of_getElem? (i := 588) (by decide +kernel)⟩
theorem lw_p24 : lw_okq (⟨"TwinVolumeModel", "breakLink", "()V"⟩, 28) := ⟨⟨by decide +kernel, by decide +kernel⟩, List.mem_of_getElem? (i := 421) (by decide +kernel), List.mem_of_getElem? (i := 595) (by decide +kernel), List.mem_of_getElem? (i := 596) (by decide +kernel)⟩
def lw_privs_2 : List (MethodName × Nat) := [(⟨"TwinVolumeModel", "alone", "(I)V"⟩, 28), (⟨"TwinVolumeModel", "arrive", "(IIII)V"⟩, 28), (⟨"TwinVolumeModel", "endIfEmpty", "(I)V"⟩, 28), (⟨"TwinVolumeModel", "nothingInMap", "(I)Z"⟩, 28), (⟨"TwinVolumeModel", "turnInto", "(III)V"⟩, 28), (⟨"TwinVolumeModel", "underWay", "(II)I"⟩, 28), (⟨"TwinVolumeModel", "onTheWay", "(III)I"⟩, 28), (⟨"TwinVolumeModel", "chosen", "()I"⟩, 28), (⟨"TwinVolumeModel", "breakLink", "()V"⟩, 28)]
theorem lw_r2 : ∀ q ∈ lw_privs_2, lw_okq q := List.forall_mem_cons.mpr ⟨lw_p16, List.forall_mem_cons.mpr ⟨lw_p17, List.forall_mem_cons.mpr ⟨lw_p18, List.forall_mem_cons.mpr ⟨lw_p19, List.forall_mem_cons.mpr ⟨lw_p20, List.forall_mem_cons.mpr ⟨lw_p21, List.forall_mem_cons.mpr ⟨lw_p22, List.forall_mem_cons.mpr ⟨lw_p23, List.forall_mem_cons.mpr ⟨lw_p24, fun _ h => absurd h List.not_mem_nil⟩⟩⟩⟩⟩⟩⟩⟩⟩
def lw_privs : List (MethodName × Nat) := lw_privs_1 ++ (lw_privs_2)
def lw_tbl : List Cond := k2_sels lw_privs ++ tables_1
theorem lw_privs_ok : ∀ q ∈ lw_privs, lw_okq q := by
  show ∀ q ∈ lw_privs_1 ++ (lw_privs_2), lw_okq q
  exact List.forall_mem_append.mpr ⟨lw_r1, lw_r2⟩
end
section
def R_V : String := "TwinVolume"
def R_N : String := "TwinVolume$Node"
def R_E : String := "TwinVolume$ExtentLog"
def R_O : String := "TwinVolume$Outbox"
def R_L : String := "TwinVolume$WaitingList"
def R_T : String := "TwinVolume$WriteTable"
def R_M : String := "TwinVolumeModel"
def R_W : String := "TwinVolumeLaw"
def R_I : String := "java/lang/Integer"
def T_V : u_T := fun k => match k with
  | 0 => ("TwinVolume", "zero", "LTwinVolume$Node;", true)
  | 1 => ("TwinVolume", "one", "LTwinVolume$Node;", true)
  | 2 => ("TwinVolume", "writes", "LTwinVolume$WriteTable;", true)
  | 3 => ("TwinVolume", "linked", "Z", false)
  | _ => ("TwinVolume", "greatestGeneration", "I", false)
def ty_V : Nat → FieldType := fun k => match k with
  | 0 => .object "TwinVolume$Node"
  | 1 => .object "TwinVolume$Node"
  | 2 => .object "TwinVolume$WriteTable"
  | 3 => .boolean
  | _ => .int
theorem nm_V : ∀ a, a < 5 → ∀ b, b < 5 → a ≠ b → (T_V a).2.1 ≠ (T_V b).2.1 := by decide +kernel
theorem tyok_V : ∀ k, k < 5 → parseFieldDescriptor (T_V k).2.2.1 = some (ty_V k) := by decide +kernel
def T_N : u_T := fun k => match k with
  | 0 => ("TwinVolume$Node", "id", "I", true)
  | 1 => ("TwinVolume$Node", "disk", "[I", true)
  | 2 => ("TwinVolume$Node", "extents", "LTwinVolume$ExtentLog;", true)
  | 3 => ("TwinVolume$Node", "outbox", "LTwinVolume$Outbox;", true)
  | 4 => ("TwinVolume$Node", "waiting", "LTwinVolume$WaitingList;", true)
  | 5 => ("TwinVolume$Node", "map", "I", false)
  | 6 => ("TwinVolume$Node", "current", "I", false)
  | 7 => ("TwinVolume$Node", "base", "I", false)
  | 8 => ("TwinVolume$Node", "torn", "Z", false)
  | 9 => ("TwinVolume$Node", "crashed", "Z", false)
  | 10 => ("TwinVolume$Node", "up", "Z", false)
  | 11 => ("TwinVolume$Node", "primary", "Z", false)
  | 12 => ("TwinVolume$Node", "source", "Z", false)
  | 13 => ("TwinVolume$Node", "target", "Z", false)
  | 14 => ("TwinVolume$Node", "underWay", "I", false)
  | 15 => ("TwinVolume$Node", "epoch", "I", false)
  | _ => ("TwinVolume$Node", "epochIsOver", "Z", false)
def ty_N : Nat → FieldType := fun k => match k with
  | 0 => .int
  | 1 => .array .int
  | 2 => .object "TwinVolume$ExtentLog"
  | 3 => .object "TwinVolume$Outbox"
  | 4 => .object "TwinVolume$WaitingList"
  | 5 => .int
  | 6 => .int
  | 7 => .int
  | 8 => .boolean
  | 9 => .boolean
  | 10 => .boolean
  | 11 => .boolean
  | 12 => .boolean
  | 13 => .boolean
  | 14 => .int
  | 15 => .int
  | _ => .boolean
theorem nm_N : ∀ a, a < 17 → ∀ b, b < 17 → a ≠ b → (T_N a).2.1 ≠ (T_N b).2.1 := by decide +kernel
theorem tyok_N : ∀ k, k < 17 → parseFieldDescriptor (T_N k).2.2.1 = some (ty_N k) := by decide +kernel
def T_E : u_T := fun k => match k with
  | 0 => ("TwinVolume$ExtentLog", "extents", "[I", true)
  | _ => ("TwinVolume$ExtentLog", "size", "I", false)
def ty_E : Nat → FieldType := fun k => match k with
  | 0 => .array .int
  | _ => .int
theorem nm_E : ∀ a, a < 2 → ∀ b, b < 2 → a ≠ b → (T_E a).2.1 ≠ (T_E b).2.1 := by decide +kernel
theorem tyok_E : ∀ k, k < 2 → parseFieldDescriptor (T_E k).2.2.1 = some (ty_E k) := by decide +kernel
def T_O : u_T := fun k => match k with
  | 0 => ("TwinVolume$Outbox", "kinds", "[I", true)
  | 1 => ("TwinVolume$Outbox", "subjects", "[I", true)
  | 2 => ("TwinVolume$Outbox", "values", "[I", true)
  | 3 => ("TwinVolume$Outbox", "first", "I", false)
  | _ => ("TwinVolume$Outbox", "size", "I", false)
def ty_O : Nat → FieldType := fun k => match k with
  | 0 => .array .int
  | 1 => .array .int
  | 2 => .array .int
  | 3 => .int
  | _ => .int
theorem nm_O : ∀ a, a < 5 → ∀ b, b < 5 → a ≠ b → (T_O a).2.1 ≠ (T_O b).2.1 := by decide +kernel
theorem tyok_O : ∀ k, k < 5 → parseFieldDescriptor (T_O k).2.2.1 = some (ty_O k) := by decide +kernel
def T_L : u_T := fun k => match k with
  | 0 => ("TwinVolume$WaitingList", "numbers", "[I", true)
  | _ => ("TwinVolume$WaitingList", "size", "I", false)
def ty_L : Nat → FieldType := fun k => match k with
  | 0 => .array .int
  | _ => .int
theorem nm_L : ∀ a, a < 2 → ∀ b, b < 2 → a ≠ b → (T_L a).2.1 ≠ (T_L b).2.1 := by decide +kernel
theorem tyok_L : ∀ k, k < 2 → parseFieldDescriptor (T_L k).2.2.1 = some (ty_L k) := by decide +kernel
def T_T : u_T := fun k => match k with
  | 0 => ("TwinVolume$WriteTable", "owners", "[I", true)
  | 1 => ("TwinVolume$WriteTable", "blocks", "[I", true)
  | 2 => ("TwinVolume$WriteTable", "values", "[I", true)
  | 3 => ("TwinVolume$WriteTable", "epochs", "[I", true)
  | 4 => ("TwinVolume$WriteTable", "fates", "[I", true)
  | _ => ("TwinVolume$WriteTable", "count", "I", false)
def ty_T : Nat → FieldType := fun k => match k with
  | 0 => .array .int
  | 1 => .array .int
  | 2 => .array .int
  | 3 => .array .int
  | 4 => .array .int
  | _ => .int
theorem nm_T : ∀ a, a < 6 → ∀ b, b < 6 → a ≠ b → (T_T a).2.1 ≠ (T_T b).2.1 := by decide +kernel
theorem tyok_T : ∀ k, k < 6 → parseFieldDescriptor (T_T k).2.2.1 = some (ty_T k) := by decide +kernel
def T_M : u_T := fun k => match k with
  | 0 => ("TwinVolumeModel", "writes", "I", false)
  | 1 => ("TwinVolumeModel", "by", "[I", true)
  | 2 => ("TwinVolumeModel", "at", "[I", true)
  | 3 => ("TwinVolumeModel", "value", "[I", true)
  | 4 => ("TwinVolumeModel", "epoch", "[I", true)
  | 5 => ("TwinVolumeModel", "fate", "[I", true)
  | 6 => ("TwinVolumeModel", "waits", "[Z", true)
  | 7 => ("TwinVolumeModel", "disk", "[I", true)
  | 8 => ("TwinVolumeModel", "map", "[Z", true)
  | 9 => ("TwinVolumeModel", "member", "[Z", true)
  | 10 => ("TwinVolumeModel", "used", "[I", true)
  | 11 => ("TwinVolumeModel", "clock", "I", false)
  | 12 => ("TwinVolumeModel", "current", "[I", true)
  | 13 => ("TwinVolumeModel", "base", "[I", true)
  | 14 => ("TwinVolumeModel", "greatest", "I", false)
  | 15 => ("TwinVolumeModel", "torn", "[Z", true)
  | 16 => ("TwinVolumeModel", "crashed", "[Z", true)
  | 17 => ("TwinVolumeModel", "up", "[Z", true)
  | 18 => ("TwinVolumeModel", "primary", "[Z", true)
  | 19 => ("TwinVolumeModel", "source", "[Z", true)
  | 20 => ("TwinVolumeModel", "target", "[Z", true)
  | 21 => ("TwinVolumeModel", "barred", "[Z", true)
  | 22 => ("TwinVolumeModel", "previous", "[I", true)
  | 23 => ("TwinVolumeModel", "linked", "Z", false)
  | 24 => ("TwinVolumeModel", "kind", "[I", true)
  | 25 => ("TwinVolumeModel", "what", "[I", true)
  | 26 => ("TwinVolumeModel", "holds", "[I", true)
  | _ => ("TwinVolumeModel", "count", "[I", true)
def ty_M : Nat → FieldType := fun k => match k with
  | 0 => .int
  | 1 => .array .int
  | 2 => .array .int
  | 3 => .array .int
  | 4 => .array .int
  | 5 => .array .int
  | 6 => .array .boolean
  | 7 => .array .int
  | 8 => .array .boolean
  | 9 => .array .boolean
  | 10 => .array .int
  | 11 => .int
  | 12 => .array .int
  | 13 => .array .int
  | 14 => .int
  | 15 => .array .boolean
  | 16 => .array .boolean
  | 17 => .array .boolean
  | 18 => .array .boolean
  | 19 => .array .boolean
  | 20 => .array .boolean
  | 21 => .array .boolean
  | 22 => .array .int
  | 23 => .boolean
  | 24 => .array .int
  | 25 => .array .int
  | 26 => .array .int
  | _ => .array .int
theorem nm_M : ∀ a, a < 28 → ∀ b, b < 28 → a ≠ b → (T_M a).2.1 ≠ (T_M b).2.1 := by decide +kernel
theorem tyok_M : ∀ k, k < 28 → parseFieldDescriptor (T_M k).2.2.1 = some (ty_M k) := by decide +kernel
abbrev vwCl : List vw_C := [(R_V, T_V, 5), (R_N, T_N, 17), (R_E, T_E, 2), (R_O, T_O, 5), (R_L, T_L, 2), (R_T, T_T, 6), (R_M, T_M, 28)]
abbrev b_V_init : ByteArray := prog_1_method_1_code
def y_V_init : MethodName := ⟨R_V, "<init>", "()V"⟩
abbrev b_V_write : ByteArray := prog_1_method_2_code
def y_V_write : MethodName := ⟨R_V, "write", "(III)I"⟩
abbrev b_V_barrier : ByteArray := prog_1_method_3_code
def y_V_barrier : MethodName := ⟨R_V, "barrier", "(I)Z"⟩
abbrev b_V_deliver : ByteArray := prog_1_method_4_code
def y_V_deliver : MethodName := ⟨R_V, "deliver", "(I)I"⟩
abbrev b_V_store : ByteArray := prog_1_method_5_code
def y_V_store : MethodName := ⟨R_V, "store", "(II)I"⟩
abbrev b_V_copy : ByteArray := prog_1_method_6_code
def y_V_copy : MethodName := ⟨R_V, "copy", "(I)I"⟩
abbrev b_V_connect : ByteArray := prog_1_method_7_code
def y_V_connect : MethodName := ⟨R_V, "connect", "()I"⟩
abbrev b_V_cut : ByteArray := prog_1_method_8_code
def y_V_cut : MethodName := ⟨R_V, "cut", "()Z"⟩
abbrev b_V_crash : ByteArray := prog_1_method_9_code
def y_V_crash : MethodName := ⟨R_V, "crash", "(I)Z"⟩
abbrev b_V_restart : ByteArray := prog_1_method_10_code
def y_V_restart : MethodName := ⟨R_V, "restart", "(I)Z"⟩
abbrev b_V_promote : ByteArray := prog_1_method_11_code
def y_V_promote : MethodName := ⟨R_V, "promote", "(I)I"⟩
abbrev b_V_demote : ByteArray := prog_1_method_12_code
def y_V_demote : MethodName := ⟨R_V, "demote", "(I)I"⟩
abbrev b_V_discard : ByteArray := prog_1_method_13_code
def y_V_discard : MethodName := ⟨R_V, "discard", "(I)Z"⟩
abbrev b_V_disk : ByteArray := prog_1_method_14_code
def y_V_disk : MethodName := ⟨R_V, "disk", "(II)I"⟩
abbrev b_V_fate : ByteArray := prog_1_method_15_code
def y_V_fate : MethodName := ⟨R_V, "fate", "(I)I"⟩
abbrev b_V_state : ByteArray := prog_1_method_16_code
def y_V_state : MethodName := ⟨R_V, "state", "(I)I"⟩
abbrev b_V_generation : ByteArray := prog_1_method_17_code
def y_V_generation : MethodName := ⟨R_V, "generation", "(I)J"⟩
abbrev b_V_map : ByteArray := prog_1_method_18_code
def y_V_map : MethodName := ⟨R_V, "map", "(I)I"⟩
abbrev b_V_log : ByteArray := prog_1_method_19_code
def y_V_log : MethodName := ⟨R_V, "log", "(II)I"⟩
abbrev b_V_traffic : ByteArray := prog_1_method_20_code
def y_V_traffic : MethodName := ⟨R_V, "traffic", "(I)I"⟩
abbrev b_V_isNode : ByteArray := prog_1_method_21_code
def y_V_isNode : MethodName := ⟨R_V, "isNode", "(I)Z"⟩
abbrev b_V_isBlock : ByteArray := prog_1_method_22_code
def y_V_isBlock : MethodName := ⟨R_V, "isBlock", "(I)Z"⟩
abbrev b_V_hasBlock : ByteArray := prog_1_method_23_code
def y_V_hasBlock : MethodName := ⟨R_V, "hasBlock", "(II)Z"⟩
abbrev b_V_leastBlock : ByteArray := prog_1_method_24_code
def y_V_leastBlock : MethodName := ⟨R_V, "leastBlock", "(I)I"⟩
abbrev b_V_blocksOfExtent : ByteArray := prog_1_method_25_code
def y_V_blocksOfExtent : MethodName := ⟨R_V, "blocksOfExtent", "(I)I"⟩
abbrev b_V_nodeOf : ByteArray := prog_1_method_26_code
def y_V_nodeOf : MethodName := ⟨R_V, "nodeOf", "(I)LTwinVolume$Node;"⟩
abbrev b_V_peerOf : ByteArray := prog_1_method_27_code
def y_V_peerOf : MethodName := ⟨R_V, "peerOf", "(I)LTwinVolume$Node;"⟩
abbrev b_V_arrive : ByteArray := prog_1_method_28_code
def y_V_arrive : MethodName := ⟨R_V, "arrive", "(LTwinVolume$Node;III)V"⟩
abbrev b_V_takeAck : ByteArray := prog_1_method_29_code
def y_V_takeAck : MethodName := ⟨R_V, "takeAck", "(LTwinVolume$Node;I)V"⟩
abbrev b_V_takeFromMap : ByteArray := prog_1_method_30_code
def y_V_takeFromMap : MethodName := ⟨R_V, "takeFromMap", "(LTwinVolume$Node;I)V"⟩
abbrev b_V_end : ByteArray := prog_1_method_31_code
def y_V_end : MethodName := ⟨R_V, "end", "(LTwinVolume$Node;)V"⟩
abbrev b_V_endUpAlone : ByteArray := prog_1_method_32_code
def y_V_endUpAlone : MethodName := ⟨R_V, "endUpAlone", "(I)V"⟩
abbrev b_V_breakLink : ByteArray := prog_1_method_33_code
def y_V_breakLink : MethodName := ⟨R_V, "breakLink", "()V"⟩
abbrev b_V_wentDifferentWays : ByteArray := prog_1_method_34_code
def y_V_wentDifferentWays : MethodName := ⟨R_V, "wentDifferentWays", "()Z"⟩
abbrev b_V_chooseSource : ByteArray := prog_1_method_35_code
def y_V_chooseSource : MethodName := ⟨R_V, "chooseSource", "()I"⟩
abbrev b_V_beginUpdate : ByteArray := prog_1_method_36_code
def y_V_beginUpdate : MethodName := ⟨R_V, "beginUpdate", "(LTwinVolume$Node;LTwinVolume$Node;)V"⟩
abbrev b_M_init : ByteArray := prog_8_method_1_code
def y_M_init : MethodName := ⟨R_M, "<init>", "()V"⟩
abbrev b_M_isNode : ByteArray := prog_8_method_2_code
def y_M_isNode : MethodName := ⟨R_M, "isNode", "(I)Z"⟩
abbrev b_M_isBlock : ByteArray := prog_8_method_3_code
def y_M_isBlock : MethodName := ⟨R_M, "isBlock", "(I)Z"⟩
abbrev b_M_pending : ByteArray := prog_8_method_4_code
def y_M_pending : MethodName := ⟨R_M, "pending", "(III)I"⟩
abbrev b_M_inLog : ByteArray := prog_8_method_5_code
def y_M_inLog : MethodName := ⟨R_M, "inLog", "(I)I"⟩
abbrev b_M_idle : ByteArray := prog_8_method_6_code
def y_M_idle : MethodName := ⟨R_M, "idle", "(I)I"⟩
abbrev b_M_nothingInMap : ByteArray := prog_8_method_7_code
def y_M_nothingInMap : MethodName := ⟨R_M, "nothingInMap", "(I)Z"⟩
abbrev b_M_onTheWay : ByteArray := prog_8_method_8_code
def y_M_onTheWay : MethodName := ⟨R_M, "onTheWay", "(III)I"⟩
abbrev b_M_underWay : ByteArray := prog_8_method_9_code
def y_M_underWay : MethodName := ⟨R_M, "underWay", "(II)I"⟩
abbrev b_M_send : ByteArray := prog_8_method_10_code
def y_M_send : MethodName := ⟨R_M, "send", "(IIII)V"⟩
abbrev b_M_alone : ByteArray := prog_8_method_11_code
def y_M_alone : MethodName := ⟨R_M, "alone", "(I)V"⟩
abbrev b_M_turnInto : ByteArray := prog_8_method_12_code
def y_M_turnInto : MethodName := ⟨R_M, "turnInto", "(III)V"⟩
abbrev b_M_endIfEmpty : ByteArray := prog_8_method_13_code
def y_M_endIfEmpty : MethodName := ⟨R_M, "endIfEmpty", "(I)V"⟩
abbrev b_M_breakLink : ByteArray := prog_8_method_14_code
def y_M_breakLink : MethodName := ⟨R_M, "breakLink", "()V"⟩
abbrev b_M_write : ByteArray := prog_8_method_15_code
def y_M_write : MethodName := ⟨R_M, "write", "(III)I"⟩
abbrev b_M_barrier : ByteArray := prog_8_method_16_code
def y_M_barrier : MethodName := ⟨R_M, "barrier", "(I)Z"⟩
abbrev b_M_deliver : ByteArray := prog_8_method_17_code
def y_M_deliver : MethodName := ⟨R_M, "deliver", "(I)I"⟩
abbrev b_M_arrive : ByteArray := prog_8_method_18_code
def y_M_arrive : MethodName := ⟨R_M, "arrive", "(IIII)V"⟩
abbrev b_M_store : ByteArray := prog_8_method_19_code
def y_M_store : MethodName := ⟨R_M, "store", "(II)I"⟩
abbrev b_M_copy : ByteArray := prog_8_method_20_code
def y_M_copy : MethodName := ⟨R_M, "copy", "(I)I"⟩
abbrev b_M_chosen : ByteArray := prog_8_method_21_code
def y_M_chosen : MethodName := ⟨R_M, "chosen", "()I"⟩
abbrev b_M_connect : ByteArray := prog_8_method_22_code
def y_M_connect : MethodName := ⟨R_M, "connect", "()I"⟩
abbrev b_M_cut : ByteArray := prog_8_method_23_code
def y_M_cut : MethodName := ⟨R_M, "cut", "()Z"⟩
abbrev b_M_crash : ByteArray := prog_8_method_24_code
def y_M_crash : MethodName := ⟨R_M, "crash", "(I)Z"⟩
abbrev b_M_restart : ByteArray := prog_8_method_25_code
def y_M_restart : MethodName := ⟨R_M, "restart", "(I)Z"⟩
abbrev b_M_promote : ByteArray := prog_8_method_26_code
def y_M_promote : MethodName := ⟨R_M, "promote", "(I)I"⟩
abbrev b_M_demote : ByteArray := prog_8_method_27_code
def y_M_demote : MethodName := ⟨R_M, "demote", "(I)I"⟩
abbrev b_M_discard : ByteArray := prog_8_method_28_code
def y_M_discard : MethodName := ⟨R_M, "discard", "(I)Z"⟩
abbrev b_M_disk : ByteArray := prog_8_method_29_code
def y_M_disk : MethodName := ⟨R_M, "disk", "(II)I"⟩
abbrev b_M_fate : ByteArray := prog_8_method_30_code
def y_M_fate : MethodName := ⟨R_M, "fate", "(I)I"⟩
abbrev b_M_state : ByteArray := prog_8_method_31_code
def y_M_state : MethodName := ⟨R_M, "state", "(I)I"⟩
abbrev b_M_generation : ByteArray := prog_8_method_32_code
def y_M_generation : MethodName := ⟨R_M, "generation", "(I)J"⟩
abbrev b_M_map : ByteArray := prog_8_method_33_code
def y_M_map : MethodName := ⟨R_M, "map", "(I)I"⟩
abbrev b_M_log : ByteArray := prog_8_method_34_code
def y_M_log : MethodName := ⟨R_M, "log", "(II)I"⟩
abbrev b_M_traffic : ByteArray := prog_8_method_35_code
def y_M_traffic : MethodName := ⟨R_M, "traffic", "(I)I"⟩
abbrev b_E_init : ByteArray := prog_2_method_1_code
def y_E_init : MethodName := ⟨R_E, "<init>", "()V"⟩
abbrev b_E_extentAt : ByteArray := prog_2_method_2_code
def y_E_extentAt : MethodName := ⟨R_E, "extentAt", "(I)I"⟩
abbrev b_E_placeFor : ByteArray := prog_2_method_3_code
def y_E_placeFor : MethodName := ⟨R_E, "placeFor", "(II)I"⟩
abbrev b_E_putInFront : ByteArray := prog_2_method_4_code
def y_E_putInFront : MethodName := ⟨R_E, "putInFront", "(II)V"⟩
abbrev b_E_allBlocks : ByteArray := prog_2_method_5_code
def y_E_allBlocks : MethodName := ⟨R_E, "allBlocks", "()I"⟩
abbrev b_N_init : ByteArray := prog_3_method_1_code
def y_N_init : MethodName := ⟨R_N, "<init>", "(I)V"⟩
abbrev b_N_epochOfNextWrite : ByteArray := prog_3_method_2_code
def y_N_epochOfNextWrite : MethodName := ⟨R_N, "epochOfNextWrite", "(Z)I"⟩
abbrev b_N_takeFinish : ByteArray := prog_3_method_3_code
def y_N_takeFinish : MethodName := ⟨R_N, "takeFinish", "(I)V"⟩
abbrev b_N_leaveLink : ByteArray := prog_3_method_4_code
def y_N_leaveLink : MethodName := ⟨R_N, "leaveLink", "()V"⟩
abbrev b_O_init : ByteArray := prog_4_method_1_code
def y_O_init : MethodName := ⟨R_O, "<init>", "()V"⟩
abbrev b_O_send : ByteArray := prog_4_method_2_code
def y_O_send : MethodName := ⟨R_O, "send", "(III)V"⟩
abbrev b_O_kindOfFirst : ByteArray := prog_4_method_3_code
def y_O_kindOfFirst : MethodName := ⟨R_O, "kindOfFirst", "()I"⟩
abbrev b_O_subjectOfFirst : ByteArray := prog_4_method_4_code
def y_O_subjectOfFirst : MethodName := ⟨R_O, "subjectOfFirst", "()I"⟩
abbrev b_O_valueOfFirst : ByteArray := prog_4_method_5_code
def y_O_valueOfFirst : MethodName := ⟨R_O, "valueOfFirst", "()I"⟩
abbrev b_O_dropFirst : ByteArray := prog_4_method_6_code
def y_O_dropFirst : MethodName := ⟨R_O, "dropFirst", "()V"⟩
abbrev b_L_init : ByteArray := prog_5_method_1_code
def y_L_init : MethodName := ⟨R_L, "<init>", "()V"⟩
abbrev b_L_add : ByteArray := prog_5_method_2_code
def y_L_add : MethodName := ⟨R_L, "add", "(I)V"⟩
abbrev b_L_numberAt : ByteArray := prog_5_method_3_code
def y_L_numberAt : MethodName := ⟨R_L, "numberAt", "(I)I"⟩
abbrev b_L_remove : ByteArray := prog_5_method_4_code
def y_L_remove : MethodName := ⟨R_L, "remove", "(I)V"⟩
abbrev b_T_init : ByteArray := prog_6_method_1_code
def y_T_init : MethodName := ⟨R_T, "<init>", "()V"⟩
abbrev b_T_isFull : ByteArray := prog_6_method_2_code
def y_T_isFull : MethodName := ⟨R_T, "isFull", "()Z"⟩
abbrev b_T_has : ByteArray := prog_6_method_3_code
def y_T_has : MethodName := ⟨R_T, "has", "(I)Z"⟩
abbrev b_T_accept : ByteArray := prog_6_method_4_code
def y_T_accept : MethodName := ⟨R_T, "accept", "(IIII)I"⟩
abbrev b_T_countPending : ByteArray := prog_6_method_5_code
def y_T_countPending : MethodName := ⟨R_T, "countPending", "(I)I"⟩
abbrev b_T_pendingBlocks : ByteArray := prog_6_method_6_code
def y_T_pendingBlocks : MethodName := ⟨R_T, "pendingBlocks", "(I)I"⟩
abbrev b_T_changeFates : ByteArray := prog_6_method_7_code
def y_T_changeFates : MethodName := ⟨R_T, "changeFates", "(III)V"⟩
abbrev b_T_isPendingOf : ByteArray := prog_6_method_8_code
def y_T_isPendingOf : MethodName := ⟨R_T, "isPendingOf", "(II)Z"⟩
abbrev b_W_law : ByteArray := code
def y_W_law : MethodName := ⟨R_W, "law", "([I)Z"⟩
abbrev b_I_bitCount : ByteArray := prog_9_method_49_code
def y_I_bitCount : MethodName := ⟨R_I, "bitCount", "(I)I"⟩
def TB : List Cond := lw_tbl.filter goodWord
theorem good_TB : ∀ w ∈ TB, (w.onTables && w.keeps) = true ∨ ∃ ty, w = .arrayClass ty := fun w h => good_of_word (List.mem_filter.mp h).2
theorem TBi {w : Cond} (i : Nat) (h : tables_1[i]? = some w) (g : goodWord w = true) : w ∈ TB := List.mem_filter.mpr ⟨List.mem_append_right _ (List.mem_of_getElem? h), g⟩
theorem TBs {w : Cond} (i : Nat) (h : (k2_sels lw_privs)[i]? = some w) (g : goodWord w = true) : w ∈ TB := List.mem_filter.mpr ⟨List.mem_append_left _ (List.mem_of_getElem? h), g⟩
theorem inTB (ws : List Cond) (ps : List Nat) (hp : ws = ps.filterMap (fun i => tables_1[i]?)) (hg : ws.all goodWord = true) : ∀ w ∈ ws, w ∈ TB := by
  intro w hw
  have h1 := List.all_eq_true.mp hg w hw
  rw [hp] at hw
  obtain ⟨i, -, hi⟩ := List.mem_filterMap.mp hw
  exact TBi i hi h1
theorem inT_V : ∀ w ∈ u_ws R_V T_V 5, w ∈ TB := inTB _ [179, 181, 183, 185, 187] (by decide +kernel) (by decide +kernel)
theorem inT_N : ∀ w ∈ u_ws R_N T_N 17, w ∈ TB := inTB _ [108, 110, 112, 114, 116, 118, 120, 122, 124, 126, 128, 130, 132, 134, 136, 138, 140] (by decide +kernel) (by decide +kernel)
theorem inT_E : ∀ w ∈ u_ws R_E T_E 2, w ∈ TB := inTB _ [31, 33] (by decide +kernel) (by decide +kernel)
theorem inT_O : ∀ w ∈ u_ws R_O T_O 5, w ∈ TB := inTB _ [50, 52, 54, 56, 58] (by decide +kernel) (by decide +kernel)
theorem inT_L : ∀ w ∈ u_ws R_L T_L 2, w ∈ TB := inTB _ [71, 73] (by decide +kernel) (by decide +kernel)
theorem inT_T : ∀ w ∈ u_ws R_T T_T 6, w ∈ TB := inTB _ [161, 163, 165, 167, 169, 171] (by decide +kernel) (by decide +kernel)
theorem inT_M : ∀ w ∈ u_ws R_M T_M 28, w ∈ TB := inTB _ [454, 456, 458, 460, 462, 464, 466, 468, 470, 472, 474, 476, 478, 480, 482, 484, 486, 488, 490, 492, 494, 496, 498, 500, 502, 504, 506, 508] (by decide +kernel) (by decide +kernel)
end
section
theorem d_V_init_0 : decode b_V_init 0 = .ok (.aload_n 0, 1) := by decide +kernel
theorem d_V_init_1 : decode b_V_init 1 = .ok (.invokespecial 1, 3) := by decide +kernel
theorem d_V_init_4 : decode b_V_init 4 = .ok (.aload_n 0, 1) := by decide +kernel
theorem d_V_init_5 : decode b_V_init 5 = .ok (.new 7, 3) := by decide +kernel
theorem d_V_init_8 : decode b_V_init 8 = .ok (.dup, 1) := by decide +kernel
theorem d_V_init_9 : decode b_V_init 9 = .ok (.iconst 0, 1) := by decide +kernel
theorem d_V_init_10 : decode b_V_init 10 = .ok (.invokespecial 9, 3) := by decide +kernel
theorem d_V_init_13 : decode b_V_init 13 = .ok (.putfield 12, 3) := by decide +kernel
theorem d_V_init_16 : decode b_V_init 16 = .ok (.aload_n 0, 1) := by decide +kernel
theorem d_V_init_17 : decode b_V_init 17 = .ok (.new 7, 3) := by decide +kernel
theorem d_V_init_20 : decode b_V_init 20 = .ok (.dup, 1) := by decide +kernel
theorem d_V_init_21 : decode b_V_init 21 = .ok (.iconst 1, 1) := by decide +kernel
theorem d_V_init_22 : decode b_V_init 22 = .ok (.invokespecial 9, 3) := by decide +kernel
theorem d_V_init_25 : decode b_V_init 25 = .ok (.putfield 18, 3) := by decide +kernel
theorem d_V_init_28 : decode b_V_init 28 = .ok (.aload_n 0, 1) := by decide +kernel
theorem d_V_init_29 : decode b_V_init 29 = .ok (.new 21, 3) := by decide +kernel
theorem d_V_init_32 : decode b_V_init 32 = .ok (.dup, 1) := by decide +kernel
theorem d_V_init_33 : decode b_V_init 33 = .ok (.invokespecial 23, 3) := by decide +kernel
theorem d_V_init_36 : decode b_V_init 36 = .ok (.putfield 24, 3) := by decide +kernel
theorem d_V_init_39 : decode b_V_init 39 = .ok (.aload_n 0, 1) := by decide +kernel
theorem d_V_init_40 : decode b_V_init 40 = .ok (.iconst 0, 1) := by decide +kernel
theorem d_V_init_41 : decode b_V_init 41 = .ok (.putfield 28, 3) := by decide +kernel
theorem d_V_init_44 : decode b_V_init 44 = .ok (.aload_n 0, 1) := by decide +kernel
theorem d_V_init_45 : decode b_V_init 45 = .ok (.iconst 1, 1) := by decide +kernel
theorem d_V_init_46 : decode b_V_init 46 = .ok (.putfield 32, 3) := by decide +kernel
theorem d_V_init_49 : decode b_V_init 49 = .ok (.return_, 1) := by decide +kernel
theorem d_V_write_0 : decode b_V_write 0 = .ok (.iload_n 1, 1) := by decide +kernel
theorem d_V_write_1 : decode b_V_write 1 = .ok (.invokestatic 36, 3) := by decide +kernel
theorem d_V_write_4 : decode b_V_write 4 = .ok (.ifCond .eq 10, 3) := by decide +kernel
theorem d_V_write_7 : decode b_V_write 7 = .ok (.iload_n 2, 1) := by decide +kernel
theorem d_V_write_8 : decode b_V_write 8 = .ok (.invokestatic 40, 3) := by decide +kernel
theorem d_V_write_11 : decode b_V_write 11 = .ok (.ifCond .ne 5, 3) := by decide +kernel
theorem d_V_write_14 : decode b_V_write 14 = .ok (.iconst (-1), 1) := by decide +kernel
theorem d_V_write_15 : decode b_V_write 15 = .ok (.ireturn, 1) := by decide +kernel
theorem d_V_write_16 : decode b_V_write 16 = .ok (.aload_n 0, 1) := by decide +kernel
theorem d_V_write_17 : decode b_V_write 17 = .ok (.iload_n 1, 1) := by decide +kernel
theorem d_V_write_18 : decode b_V_write 18 = .ok (.invokevirtual 43, 3) := by decide +kernel
theorem d_V_write_21 : decode b_V_write 21 = .ok (.astore 4, 2) := by decide +kernel
theorem d_V_write_23 : decode b_V_write 23 = .ok (.aload 4, 2) := by decide +kernel
theorem d_V_write_25 : decode b_V_write 25 = .ok (.getfield 47, 3) := by decide +kernel
theorem d_V_write_28 : decode b_V_write 28 = .ok (.ifCond .ne 6, 3) := by decide +kernel
theorem d_V_write_31 : decode b_V_write 31 = .ok (.bipush (-2), 2) := by decide +kernel
theorem d_V_write_33 : decode b_V_write 33 = .ok (.ireturn, 1) := by decide +kernel
theorem d_V_write_34 : decode b_V_write 34 = .ok (.aload 4, 2) := by decide +kernel
theorem d_V_write_36 : decode b_V_write 36 = .ok (.getfield 50, 3) := by decide +kernel
theorem d_V_write_39 : decode b_V_write 39 = .ok (.ifCond .ne 6, 3) := by decide +kernel
theorem d_V_write_42 : decode b_V_write 42 = .ok (.bipush (-3), 2) := by decide +kernel
theorem d_V_write_44 : decode b_V_write 44 = .ok (.ireturn, 1) := by decide +kernel
theorem d_V_write_45 : decode b_V_write 45 = .ok (.aload_n 0, 1) := by decide +kernel
theorem d_V_write_46 : decode b_V_write 46 = .ok (.getfield 24, 3) := by decide +kernel
theorem d_V_write_49 : decode b_V_write 49 = .ok (.invokevirtual 53, 3) := by decide +kernel
theorem d_V_write_52 : decode b_V_write 52 = .ok (.ifCond .ne 16, 3) := by decide +kernel
theorem d_V_write_55 : decode b_V_write 55 = .ok (.aload_n 0, 1) := by decide +kernel
theorem d_V_write_56 : decode b_V_write 56 = .ok (.getfield 24, 3) := by decide +kernel
theorem d_V_write_59 : decode b_V_write 59 = .ok (.iload_n 1, 1) := by decide +kernel
theorem d_V_write_60 : decode b_V_write 60 = .ok (.invokevirtual 57, 3) := by decide +kernel
theorem d_V_write_63 : decode b_V_write 63 = .ok (.bipush 8, 2) := by decide +kernel
theorem d_V_write_65 : decode b_V_write 65 = .ok (.if_icmp .lt 6, 3) := by decide +kernel
theorem d_V_write_68 : decode b_V_write 68 = .ok (.bipush (-4), 2) := by decide +kernel
theorem d_V_write_70 : decode b_V_write 70 = .ok (.ireturn, 1) := by decide +kernel
theorem d_V_write_71 : decode b_V_write 71 = .ok (.iload_n 2, 1) := by decide +kernel
theorem d_V_write_72 : decode b_V_write 72 = .ok (.iconst 4, 1) := by decide +kernel
theorem d_V_write_73 : decode b_V_write 73 = .ok (.idiv, 1) := by decide +kernel
theorem d_V_write_74 : decode b_V_write 74 = .ok (.istore 5, 2) := by decide +kernel
theorem d_V_write_76 : decode b_V_write 76 = .ok (.aload_n 0, 1) := by decide +kernel
theorem d_V_write_77 : decode b_V_write 77 = .ok (.getfield 24, 3) := by decide +kernel
theorem d_V_write_80 : decode b_V_write 80 = .ok (.iload_n 1, 1) := by decide +kernel
theorem d_V_write_81 : decode b_V_write 81 = .ok (.invokevirtual 61, 3) := by decide +kernel
theorem d_V_write_84 : decode b_V_write 84 = .ok (.istore 6, 2) := by decide +kernel
theorem d_V_write_86 : decode b_V_write 86 = .ok (.aload 4, 2) := by decide +kernel
theorem d_V_write_88 : decode b_V_write 88 = .ok (.getfield 64, 3) := by decide +kernel
theorem d_V_write_91 : decode b_V_write 91 = .ok (.iload 5, 2) := by decide +kernel
theorem d_V_write_93 : decode b_V_write 93 = .ok (.iload 6, 2) := by decide +kernel
theorem d_V_write_95 : decode b_V_write 95 = .ok (.invokevirtual 68, 3) := by decide +kernel
theorem d_V_write_98 : decode b_V_write 98 = .ok (.istore 7, 2) := by decide +kernel
theorem d_V_write_100 : decode b_V_write 100 = .ok (.iload 7, 2) := by decide +kernel
theorem d_V_write_102 : decode b_V_write 102 = .ok (.iconst (-1), 1) := by decide +kernel
theorem d_V_write_103 : decode b_V_write 103 = .ok (.if_icmp .ne 6, 3) := by decide +kernel
theorem d_V_write_106 : decode b_V_write 106 = .ok (.bipush (-5), 2) := by decide +kernel
theorem d_V_write_108 : decode b_V_write 108 = .ok (.ireturn, 1) := by decide +kernel
theorem d_V_write_109 : decode b_V_write 109 = .ok (.aload 4, 2) := by decide +kernel
theorem d_V_write_111 : decode b_V_write 111 = .ok (.getfield 64, 3) := by decide +kernel
theorem d_V_write_114 : decode b_V_write 114 = .ok (.iload 5, 2) := by decide +kernel
theorem d_V_write_116 : decode b_V_write 116 = .ok (.iload 7, 2) := by decide +kernel
theorem d_V_write_118 : decode b_V_write 118 = .ok (.invokevirtual 74, 3) := by decide +kernel
theorem d_V_write_121 : decode b_V_write 121 = .ok (.aload 4, 2) := by decide +kernel
theorem d_V_write_123 : decode b_V_write 123 = .ok (.getfield 78, 3) := by decide +kernel
theorem d_V_write_126 : decode b_V_write 126 = .ok (.iload_n 2, 1) := by decide +kernel
theorem d_V_write_127 : decode b_V_write 127 = .ok (.iload_n 3, 1) := by decide +kernel
theorem d_V_write_128 : decode b_V_write 128 = .ok (.iastore, 1) := by decide +kernel
theorem d_V_write_129 : decode b_V_write 129 = .ok (.aload 4, 2) := by decide +kernel
theorem d_V_write_131 : decode b_V_write 131 = .ok (.iload 6, 2) := by decide +kernel
theorem d_V_write_133 : decode b_V_write 133 = .ok (.iload_n 2, 1) := by decide +kernel
theorem d_V_write_134 : decode b_V_write 134 = .ok (.invokestatic 82, 3) := by decide +kernel
theorem d_V_write_137 : decode b_V_write 137 = .ok (.invokevirtual 86, 3) := by decide +kernel
theorem d_V_write_140 : decode b_V_write 140 = .ok (.istore 8, 2) := by decide +kernel
theorem d_V_write_142 : decode b_V_write 142 = .ok (.aload_n 0, 1) := by decide +kernel
theorem d_V_write_143 : decode b_V_write 143 = .ok (.getfield 24, 3) := by decide +kernel
theorem d_V_write_146 : decode b_V_write 146 = .ok (.iload_n 1, 1) := by decide +kernel
theorem d_V_write_147 : decode b_V_write 147 = .ok (.iload_n 2, 1) := by decide +kernel
theorem d_V_write_148 : decode b_V_write 148 = .ok (.iload_n 3, 1) := by decide +kernel
theorem d_V_write_149 : decode b_V_write 149 = .ok (.iload 8, 2) := by decide +kernel
theorem d_V_write_151 : decode b_V_write 151 = .ok (.invokevirtual 90, 3) := by decide +kernel
theorem d_V_write_154 : decode b_V_write 154 = .ok (.istore 9, 2) := by decide +kernel
theorem d_V_write_156 : decode b_V_write 156 = .ok (.aload_n 0, 1) := by decide +kernel
theorem d_V_write_157 : decode b_V_write 157 = .ok (.getfield 28, 3) := by decide +kernel
theorem d_V_write_160 : decode b_V_write 160 = .ok (.ifCond .eq 18, 3) := by decide +kernel
theorem d_V_write_163 : decode b_V_write 163 = .ok (.aload 4, 2) := by decide +kernel
theorem d_V_write_165 : decode b_V_write 165 = .ok (.getfield 94, 3) := by decide +kernel
theorem d_V_write_168 : decode b_V_write 168 = .ok (.iconst 1, 1) := by decide +kernel
theorem d_V_write_169 : decode b_V_write 169 = .ok (.iload 9, 2) := by decide +kernel
theorem d_V_write_171 : decode b_V_write 171 = .ok (.iconst 0, 1) := by decide +kernel
theorem d_V_write_172 : decode b_V_write 172 = .ok (.invokevirtual 98, 3) := by decide +kernel
theorem d_V_write_175 : decode b_V_write 175 = .ok (.goto 9, 3) := by decide +kernel
theorem d_V_write_178 : decode b_V_write 178 = .ok (.aload_n 0, 1) := by decide +kernel
theorem d_V_write_179 : decode b_V_write 179 = .ok (.iload 9, 2) := by decide +kernel
theorem d_V_write_181 : decode b_V_write 181 = .ok (.invokevirtual 104, 3) := by decide +kernel
theorem d_V_write_184 : decode b_V_write 184 = .ok (.iload 9, 2) := by decide +kernel
theorem d_V_write_186 : decode b_V_write 186 = .ok (.ireturn, 1) := by decide +kernel
theorem d_V_barrier_0 : decode b_V_barrier 0 = .ok (.iload_n 1, 1) := by decide +kernel
theorem d_V_barrier_1 : decode b_V_barrier 1 = .ok (.invokestatic 36, 3) := by decide +kernel
theorem d_V_barrier_4 : decode b_V_barrier 4 = .ok (.ifCond .ne 5, 3) := by decide +kernel
theorem d_V_barrier_7 : decode b_V_barrier 7 = .ok (.iconst 0, 1) := by decide +kernel
theorem d_V_barrier_8 : decode b_V_barrier 8 = .ok (.ireturn, 1) := by decide +kernel
theorem d_V_barrier_9 : decode b_V_barrier 9 = .ok (.aload_n 0, 1) := by decide +kernel
theorem d_V_barrier_10 : decode b_V_barrier 10 = .ok (.iload_n 1, 1) := by decide +kernel
theorem d_V_barrier_11 : decode b_V_barrier 11 = .ok (.invokevirtual 43, 3) := by decide +kernel
theorem d_V_barrier_14 : decode b_V_barrier 14 = .ok (.astore_n 2, 1) := by decide +kernel
theorem d_V_barrier_15 : decode b_V_barrier 15 = .ok (.aload_n 2, 1) := by decide +kernel
theorem d_V_barrier_16 : decode b_V_barrier 16 = .ok (.getfield 47, 3) := by decide +kernel
theorem d_V_barrier_19 : decode b_V_barrier 19 = .ok (.ifCond .eq 10, 3) := by decide +kernel
theorem d_V_barrier_22 : decode b_V_barrier 22 = .ok (.aload_n 2, 1) := by decide +kernel
theorem d_V_barrier_23 : decode b_V_barrier 23 = .ok (.getfield 50, 3) := by decide +kernel
theorem d_V_barrier_26 : decode b_V_barrier 26 = .ok (.ifCond .ne 5, 3) := by decide +kernel
theorem d_V_barrier_29 : decode b_V_barrier 29 = .ok (.iconst 0, 1) := by decide +kernel
theorem d_V_barrier_30 : decode b_V_barrier 30 = .ok (.ireturn, 1) := by decide +kernel
theorem d_V_barrier_31 : decode b_V_barrier 31 = .ok (.aload_n 2, 1) := by decide +kernel
theorem d_V_barrier_32 : decode b_V_barrier 32 = .ok (.iconst 1, 1) := by decide +kernel
theorem d_V_barrier_33 : decode b_V_barrier 33 = .ok (.putfield 107, 3) := by decide +kernel
theorem d_V_barrier_36 : decode b_V_barrier 36 = .ok (.iconst 1, 1) := by decide +kernel
theorem d_V_barrier_37 : decode b_V_barrier 37 = .ok (.ireturn, 1) := by decide +kernel
theorem d_V_deliver_0 : decode b_V_deliver 0 = .ok (.iload_n 1, 1) := by decide +kernel
theorem d_V_deliver_1 : decode b_V_deliver 1 = .ok (.invokestatic 36, 3) := by decide +kernel
theorem d_V_deliver_4 : decode b_V_deliver 4 = .ok (.ifCond .ne 5, 3) := by decide +kernel
theorem d_V_deliver_7 : decode b_V_deliver 7 = .ok (.iconst 0, 1) := by decide +kernel
theorem d_V_deliver_8 : decode b_V_deliver 8 = .ok (.ireturn, 1) := by decide +kernel
theorem d_V_deliver_9 : decode b_V_deliver 9 = .ok (.aload_n 0, 1) := by decide +kernel
theorem d_V_deliver_10 : decode b_V_deliver 10 = .ok (.iload_n 1, 1) := by decide +kernel
theorem d_V_deliver_11 : decode b_V_deliver 11 = .ok (.invokevirtual 43, 3) := by decide +kernel
theorem d_V_deliver_14 : decode b_V_deliver 14 = .ok (.getfield 94, 3) := by decide +kernel
theorem d_V_deliver_17 : decode b_V_deliver 17 = .ok (.astore_n 2, 1) := by decide +kernel
theorem d_V_deliver_18 : decode b_V_deliver 18 = .ok (.aload_n 2, 1) := by decide +kernel
theorem d_V_deliver_19 : decode b_V_deliver 19 = .ok (.getfield 110, 3) := by decide +kernel
theorem d_V_deliver_22 : decode b_V_deliver 22 = .ok (.ifCond .ne 5, 3) := by decide +kernel
theorem d_V_deliver_25 : decode b_V_deliver 25 = .ok (.iconst 0, 1) := by decide +kernel
theorem d_V_deliver_26 : decode b_V_deliver 26 = .ok (.ireturn, 1) := by decide +kernel
theorem d_V_deliver_27 : decode b_V_deliver 27 = .ok (.aload_n 2, 1) := by decide +kernel
theorem d_V_deliver_28 : decode b_V_deliver 28 = .ok (.invokevirtual 113, 3) := by decide +kernel
theorem d_V_deliver_31 : decode b_V_deliver 31 = .ok (.istore_n 3, 1) := by decide +kernel
theorem d_V_deliver_32 : decode b_V_deliver 32 = .ok (.aload_n 2, 1) := by decide +kernel
theorem d_V_deliver_33 : decode b_V_deliver 33 = .ok (.invokevirtual 117, 3) := by decide +kernel
theorem d_V_deliver_36 : decode b_V_deliver 36 = .ok (.istore 4, 2) := by decide +kernel
theorem d_V_deliver_38 : decode b_V_deliver 38 = .ok (.aload_n 2, 1) := by decide +kernel
theorem d_V_deliver_39 : decode b_V_deliver 39 = .ok (.invokevirtual 120, 3) := by decide +kernel
theorem d_V_deliver_42 : decode b_V_deliver 42 = .ok (.istore 5, 2) := by decide +kernel
theorem d_V_deliver_44 : decode b_V_deliver 44 = .ok (.aload_n 2, 1) := by decide +kernel
theorem d_V_deliver_45 : decode b_V_deliver 45 = .ok (.invokevirtual 123, 3) := by decide +kernel
theorem d_V_deliver_48 : decode b_V_deliver 48 = .ok (.aload_n 0, 1) := by decide +kernel
theorem d_V_deliver_49 : decode b_V_deliver 49 = .ok (.aload_n 0, 1) := by decide +kernel
theorem d_V_deliver_50 : decode b_V_deliver 50 = .ok (.iload_n 1, 1) := by decide +kernel
theorem d_V_deliver_51 : decode b_V_deliver 51 = .ok (.invokevirtual 126, 3) := by decide +kernel
theorem d_V_deliver_54 : decode b_V_deliver 54 = .ok (.iload_n 3, 1) := by decide +kernel
theorem d_V_deliver_55 : decode b_V_deliver 55 = .ok (.iload 4, 2) := by decide +kernel
theorem d_V_deliver_57 : decode b_V_deliver 57 = .ok (.iload 5, 2) := by decide +kernel
theorem d_V_deliver_59 : decode b_V_deliver 59 = .ok (.invokevirtual 129, 3) := by decide +kernel
theorem d_V_deliver_62 : decode b_V_deliver 62 = .ok (.iload_n 3, 1) := by decide +kernel
theorem d_V_deliver_63 : decode b_V_deliver 63 = .ok (.ireturn, 1) := by decide +kernel
theorem d_V_store_0 : decode b_V_store 0 = .ok (.iload_n 1, 1) := by decide +kernel
theorem d_V_store_1 : decode b_V_store 1 = .ok (.invokestatic 36, 3) := by decide +kernel
theorem d_V_store_4 : decode b_V_store 4 = .ok (.ifCond .ne 5, 3) := by decide +kernel
theorem d_V_store_7 : decode b_V_store 7 = .ok (.iconst 0, 1) := by decide +kernel
theorem d_V_store_8 : decode b_V_store 8 = .ok (.ireturn, 1) := by decide +kernel
theorem d_V_store_9 : decode b_V_store 9 = .ok (.aload_n 0, 1) := by decide +kernel
theorem d_V_store_10 : decode b_V_store 10 = .ok (.iload_n 1, 1) := by decide +kernel
theorem d_V_store_11 : decode b_V_store 11 = .ok (.invokevirtual 43, 3) := by decide +kernel
theorem d_V_store_14 : decode b_V_store 14 = .ok (.astore_n 3, 1) := by decide +kernel
theorem d_V_store_15 : decode b_V_store 15 = .ok (.aload_n 3, 1) := by decide +kernel
theorem d_V_store_16 : decode b_V_store 16 = .ok (.getfield 133, 3) := by decide +kernel
theorem d_V_store_19 : decode b_V_store 19 = .ok (.astore 4, 2) := by decide +kernel
theorem d_V_store_21 : decode b_V_store 21 = .ok (.iload_n 2, 1) := by decide +kernel
theorem d_V_store_22 : decode b_V_store 22 = .ok (.ifCond .lt 12, 3) := by decide +kernel
theorem d_V_store_25 : decode b_V_store 25 = .ok (.iload_n 2, 1) := by decide +kernel
theorem d_V_store_26 : decode b_V_store 26 = .ok (.aload 4, 2) := by decide +kernel
theorem d_V_store_28 : decode b_V_store 28 = .ok (.getfield 137, 3) := by decide +kernel
theorem d_V_store_31 : decode b_V_store 31 = .ok (.if_icmp .lt 5, 3) := by decide +kernel
theorem d_V_store_34 : decode b_V_store 34 = .ok (.iconst 0, 1) := by decide +kernel
theorem d_V_store_35 : decode b_V_store 35 = .ok (.ireturn, 1) := by decide +kernel
theorem d_V_store_36 : decode b_V_store 36 = .ok (.aload 4, 2) := by decide +kernel
theorem d_V_store_38 : decode b_V_store 38 = .ok (.iload_n 2, 1) := by decide +kernel
theorem d_V_store_39 : decode b_V_store 39 = .ok (.invokevirtual 140, 3) := by decide +kernel
theorem d_V_store_42 : decode b_V_store 42 = .ok (.istore 5, 2) := by decide +kernel
theorem d_V_store_44 : decode b_V_store 44 = .ok (.aload_n 0, 1) := by decide +kernel
theorem d_V_store_45 : decode b_V_store 45 = .ok (.getfield 24, 3) := by decide +kernel
theorem d_V_store_48 : decode b_V_store 48 = .ok (.getfield 143, 3) := by decide +kernel
theorem d_V_store_51 : decode b_V_store 51 = .ok (.iload 5, 2) := by decide +kernel
theorem d_V_store_53 : decode b_V_store 53 = .ok (.iaload, 1) := by decide +kernel
theorem d_V_store_54 : decode b_V_store 54 = .ok (.aload_n 0, 1) := by decide +kernel
theorem d_V_store_55 : decode b_V_store 55 = .ok (.getfield 24, 3) := by decide +kernel
theorem d_V_store_58 : decode b_V_store 58 = .ok (.getfield 143, 3) := by decide +kernel
theorem d_V_store_61 : decode b_V_store 61 = .ok (.aload 4, 2) := by decide +kernel
theorem d_V_store_63 : decode b_V_store 63 = .ok (.iconst 0, 1) := by decide +kernel
theorem d_V_store_64 : decode b_V_store 64 = .ok (.invokevirtual 140, 3) := by decide +kernel
theorem d_V_store_67 : decode b_V_store 67 = .ok (.iaload, 1) := by decide +kernel
theorem d_V_store_68 : decode b_V_store 68 = .ok (.if_icmp .eq 5, 3) := by decide +kernel
theorem d_V_store_71 : decode b_V_store 71 = .ok (.iconst 0, 1) := by decide +kernel
theorem d_V_store_72 : decode b_V_store 72 = .ok (.ireturn, 1) := by decide +kernel
theorem d_V_store_73 : decode b_V_store 73 = .ok (.aload 4, 2) := by decide +kernel
theorem d_V_store_75 : decode b_V_store 75 = .ok (.iload_n 2, 1) := by decide +kernel
theorem d_V_store_76 : decode b_V_store 76 = .ok (.invokevirtual 146, 3) := by decide +kernel
theorem d_V_store_79 : decode b_V_store 79 = .ok (.aload_n 3, 1) := by decide +kernel
theorem d_V_store_80 : decode b_V_store 80 = .ok (.getfield 78, 3) := by decide +kernel
theorem d_V_store_83 : decode b_V_store 83 = .ok (.aload_n 0, 1) := by decide +kernel
theorem d_V_store_84 : decode b_V_store 84 = .ok (.getfield 24, 3) := by decide +kernel
theorem d_V_store_87 : decode b_V_store 87 = .ok (.getfield 149, 3) := by decide +kernel
theorem d_V_store_90 : decode b_V_store 90 = .ok (.iload 5, 2) := by decide +kernel
theorem d_V_store_92 : decode b_V_store 92 = .ok (.iaload, 1) := by decide +kernel
theorem d_V_store_93 : decode b_V_store 93 = .ok (.aload_n 0, 1) := by decide +kernel
theorem d_V_store_94 : decode b_V_store 94 = .ok (.getfield 24, 3) := by decide +kernel
theorem d_V_store_97 : decode b_V_store 97 = .ok (.getfield 152, 3) := by decide +kernel
theorem d_V_store_100 : decode b_V_store 100 = .ok (.iload 5, 2) := by decide +kernel
theorem d_V_store_102 : decode b_V_store 102 = .ok (.iaload, 1) := by decide +kernel
theorem d_V_store_103 : decode b_V_store 103 = .ok (.iastore, 1) := by decide +kernel
theorem d_V_store_104 : decode b_V_store 104 = .ok (.aload_n 3, 1) := by decide +kernel
theorem d_V_store_105 : decode b_V_store 105 = .ok (.getfield 94, 3) := by decide +kernel
theorem d_V_store_108 : decode b_V_store 108 = .ok (.iconst 2, 1) := by decide +kernel
theorem d_V_store_109 : decode b_V_store 109 = .ok (.iload 5, 2) := by decide +kernel
theorem d_V_store_111 : decode b_V_store 111 = .ok (.iconst 0, 1) := by decide +kernel
theorem d_V_store_112 : decode b_V_store 112 = .ok (.invokevirtual 98, 3) := by decide +kernel
theorem d_V_store_115 : decode b_V_store 115 = .ok (.iload 5, 2) := by decide +kernel
theorem d_V_store_117 : decode b_V_store 117 = .ok (.ireturn, 1) := by decide +kernel
theorem d_V_copy_0 : decode b_V_copy 0 = .ok (.iload_n 1, 1) := by decide +kernel
theorem d_V_copy_1 : decode b_V_copy 1 = .ok (.invokestatic 36, 3) := by decide +kernel
theorem d_V_copy_4 : decode b_V_copy 4 = .ok (.ifCond .ne 5, 3) := by decide +kernel
theorem d_V_copy_7 : decode b_V_copy 7 = .ok (.iconst (-1), 1) := by decide +kernel
theorem d_V_copy_8 : decode b_V_copy 8 = .ok (.ireturn, 1) := by decide +kernel
theorem d_V_copy_9 : decode b_V_copy 9 = .ok (.aload_n 0, 1) := by decide +kernel
theorem d_V_copy_10 : decode b_V_copy 10 = .ok (.iload_n 1, 1) := by decide +kernel
theorem d_V_copy_11 : decode b_V_copy 11 = .ok (.invokevirtual 43, 3) := by decide +kernel
theorem d_V_copy_14 : decode b_V_copy 14 = .ok (.astore_n 2, 1) := by decide +kernel
theorem d_V_copy_15 : decode b_V_copy 15 = .ok (.aload_n 2, 1) := by decide +kernel
theorem d_V_copy_16 : decode b_V_copy 16 = .ok (.getfield 155, 3) := by decide +kernel
theorem d_V_copy_19 : decode b_V_copy 19 = .ok (.ifCond .eq 14, 3) := by decide +kernel
theorem d_V_copy_22 : decode b_V_copy 22 = .ok (.aload_n 2, 1) := by decide +kernel
theorem d_V_copy_23 : decode b_V_copy 23 = .ok (.getfield 158, 3) := by decide +kernel
theorem d_V_copy_26 : decode b_V_copy 26 = .ok (.invokestatic 161, 3) := by decide +kernel
theorem d_V_copy_29 : decode b_V_copy 29 = .ok (.iconst 4, 1) := by decide +kernel
theorem d_V_copy_30 : decode b_V_copy 30 = .ok (.if_icmp .lt 5, 3) := by decide +kernel
theorem d_V_copy_33 : decode b_V_copy 33 = .ok (.iconst (-1), 1) := by decide +kernel
theorem d_V_copy_34 : decode b_V_copy 34 = .ok (.ireturn, 1) := by decide +kernel
theorem d_V_copy_35 : decode b_V_copy 35 = .ok (.aload_n 2, 1) := by decide +kernel
theorem d_V_copy_36 : decode b_V_copy 36 = .ok (.getfield 166, 3) := by decide +kernel
theorem d_V_copy_39 : decode b_V_copy 39 = .ok (.aload_n 2, 1) := by decide +kernel
theorem d_V_copy_40 : decode b_V_copy 40 = .ok (.getfield 158, 3) := by decide +kernel
theorem d_V_copy_43 : decode b_V_copy 43 = .ok (.iconst (-1), 1) := by decide +kernel
theorem d_V_copy_44 : decode b_V_copy 44 = .ok (.ixor, 1) := by decide +kernel
theorem d_V_copy_45 : decode b_V_copy 45 = .ok (.iand, 1) := by decide +kernel
theorem d_V_copy_46 : decode b_V_copy 46 = .ok (.aload_n 0, 1) := by decide +kernel
theorem d_V_copy_47 : decode b_V_copy 47 = .ok (.getfield 24, 3) := by decide +kernel
theorem d_V_copy_50 : decode b_V_copy 50 = .ok (.iload_n 1, 1) := by decide +kernel
theorem d_V_copy_51 : decode b_V_copy 51 = .ok (.invokevirtual 61, 3) := by decide +kernel
theorem d_V_copy_54 : decode b_V_copy 54 = .ok (.iconst (-1), 1) := by decide +kernel
theorem d_V_copy_55 : decode b_V_copy 55 = .ok (.ixor, 1) := by decide +kernel
theorem d_V_copy_56 : decode b_V_copy 56 = .ok (.iand, 1) := by decide +kernel
theorem d_V_copy_57 : decode b_V_copy 57 = .ok (.invokestatic 169, 3) := by decide +kernel
theorem d_V_copy_60 : decode b_V_copy 60 = .ok (.istore_n 3, 1) := by decide +kernel
theorem d_V_copy_61 : decode b_V_copy 61 = .ok (.iload_n 3, 1) := by decide +kernel
theorem d_V_copy_62 : decode b_V_copy 62 = .ok (.iconst (-1), 1) := by decide +kernel
theorem d_V_copy_63 : decode b_V_copy 63 = .ok (.if_icmp .ne 5, 3) := by decide +kernel
theorem d_V_copy_66 : decode b_V_copy 66 = .ok (.iconst (-1), 1) := by decide +kernel
theorem d_V_copy_67 : decode b_V_copy 67 = .ok (.ireturn, 1) := by decide +kernel
theorem d_V_copy_68 : decode b_V_copy 68 = .ok (.aload_n 2, 1) := by decide +kernel
theorem d_V_copy_69 : decode b_V_copy 69 = .ok (.dup, 1) := by decide +kernel
theorem d_V_copy_70 : decode b_V_copy 70 = .ok (.getfield 158, 3) := by decide +kernel
theorem d_V_copy_73 : decode b_V_copy 73 = .ok (.iconst 1, 1) := by decide +kernel
theorem d_V_copy_74 : decode b_V_copy 74 = .ok (.iload_n 3, 1) := by decide +kernel
theorem d_V_copy_75 : decode b_V_copy 75 = .ok (.ishl, 1) := by decide +kernel
theorem d_V_copy_76 : decode b_V_copy 76 = .ok (.ior, 1) := by decide +kernel
theorem d_V_copy_77 : decode b_V_copy 77 = .ok (.putfield 158, 3) := by decide +kernel
theorem d_V_copy_80 : decode b_V_copy 80 = .ok (.aload_n 2, 1) := by decide +kernel
theorem d_V_copy_81 : decode b_V_copy 81 = .ok (.getfield 94, 3) := by decide +kernel
theorem d_V_copy_84 : decode b_V_copy 84 = .ok (.iconst 3, 1) := by decide +kernel
theorem d_V_copy_85 : decode b_V_copy 85 = .ok (.iload_n 3, 1) := by decide +kernel
theorem d_V_copy_86 : decode b_V_copy 86 = .ok (.aload_n 2, 1) := by decide +kernel
theorem d_V_copy_87 : decode b_V_copy 87 = .ok (.getfield 78, 3) := by decide +kernel
theorem d_V_copy_90 : decode b_V_copy 90 = .ok (.iload_n 3, 1) := by decide +kernel
theorem d_V_copy_91 : decode b_V_copy 91 = .ok (.iaload, 1) := by decide +kernel
theorem d_V_copy_92 : decode b_V_copy 92 = .ok (.invokevirtual 98, 3) := by decide +kernel
theorem d_V_copy_95 : decode b_V_copy 95 = .ok (.iload_n 3, 1) := by decide +kernel
theorem d_V_copy_96 : decode b_V_copy 96 = .ok (.ireturn, 1) := by decide +kernel
theorem d_V_connect_0 : decode b_V_connect 0 = .ok (.aload_n 0, 1) := by decide +kernel
theorem d_V_connect_1 : decode b_V_connect 1 = .ok (.getfield 12, 3) := by decide +kernel
theorem d_V_connect_4 : decode b_V_connect 4 = .ok (.getfield 47, 3) := by decide +kernel
theorem d_V_connect_7 : decode b_V_connect 7 = .ok (.ifCond .eq 13, 3) := by decide +kernel
theorem d_V_connect_10 : decode b_V_connect 10 = .ok (.aload_n 0, 1) := by decide +kernel
theorem d_V_connect_11 : decode b_V_connect 11 = .ok (.getfield 18, 3) := by decide +kernel
theorem d_V_connect_14 : decode b_V_connect 14 = .ok (.getfield 47, 3) := by decide +kernel
theorem d_V_connect_17 : decode b_V_connect 17 = .ok (.ifCond .ne 6, 3) := by decide +kernel
theorem d_V_connect_20 : decode b_V_connect 20 = .ok (.bipush (-2), 2) := by decide +kernel
theorem d_V_connect_22 : decode b_V_connect 22 = .ok (.ireturn, 1) := by decide +kernel
theorem d_V_connect_23 : decode b_V_connect 23 = .ok (.aload_n 0, 1) := by decide +kernel
theorem d_V_connect_24 : decode b_V_connect 24 = .ok (.getfield 28, 3) := by decide +kernel
theorem d_V_connect_27 : decode b_V_connect 27 = .ok (.ifCond .eq 6, 3) := by decide +kernel
theorem d_V_connect_30 : decode b_V_connect 30 = .ok (.bipush (-9), 2) := by decide +kernel
theorem d_V_connect_32 : decode b_V_connect 32 = .ok (.ireturn, 1) := by decide +kernel
theorem d_V_connect_33 : decode b_V_connect 33 = .ok (.aload_n 0, 1) := by decide +kernel
theorem d_V_connect_34 : decode b_V_connect 34 = .ok (.getfield 12, 3) := by decide +kernel
theorem d_V_connect_37 : decode b_V_connect 37 = .ok (.getfield 50, 3) := by decide +kernel
theorem d_V_connect_40 : decode b_V_connect 40 = .ok (.ifCond .eq 16, 3) := by decide +kernel
theorem d_V_connect_43 : decode b_V_connect 43 = .ok (.aload_n 0, 1) := by decide +kernel
theorem d_V_connect_44 : decode b_V_connect 44 = .ok (.getfield 18, 3) := by decide +kernel
theorem d_V_connect_47 : decode b_V_connect 47 = .ok (.getfield 50, 3) := by decide +kernel
theorem d_V_connect_50 : decode b_V_connect 50 = .ok (.ifCond .eq 6, 3) := by decide +kernel
theorem d_V_connect_53 : decode b_V_connect 53 = .ok (.bipush (-7), 2) := by decide +kernel
theorem d_V_connect_55 : decode b_V_connect 55 = .ok (.ireturn, 1) := by decide +kernel
theorem d_V_connect_56 : decode b_V_connect 56 = .ok (.aload_n 0, 1) := by decide +kernel
theorem d_V_connect_57 : decode b_V_connect 57 = .ok (.invokevirtual 172, 3) := by decide +kernel
theorem d_V_connect_60 : decode b_V_connect 60 = .ok (.ifCond .eq 6, 3) := by decide +kernel
theorem d_V_connect_63 : decode b_V_connect 63 = .ok (.bipush (-8), 2) := by decide +kernel
theorem d_V_connect_65 : decode b_V_connect 65 = .ok (.ireturn, 1) := by decide +kernel
theorem d_V_connect_66 : decode b_V_connect 66 = .ok (.aload_n 0, 1) := by decide +kernel
theorem d_V_connect_67 : decode b_V_connect 67 = .ok (.invokevirtual 175, 3) := by decide +kernel
theorem d_V_connect_70 : decode b_V_connect 70 = .ok (.istore_n 1, 1) := by decide +kernel
theorem d_V_connect_71 : decode b_V_connect 71 = .ok (.iload_n 1, 1) := by decide +kernel
theorem d_V_connect_72 : decode b_V_connect 72 = .ok (.iconst (-1), 1) := by decide +kernel
theorem d_V_connect_73 : decode b_V_connect 73 = .ok (.if_icmp .ne 10, 3) := by decide +kernel
theorem d_V_connect_76 : decode b_V_connect 76 = .ok (.aload_n 0, 1) := by decide +kernel
theorem d_V_connect_77 : decode b_V_connect 77 = .ok (.iconst 1, 1) := by decide +kernel
theorem d_V_connect_78 : decode b_V_connect 78 = .ok (.putfield 28, 3) := by decide +kernel
theorem d_V_connect_81 : decode b_V_connect 81 = .ok (.iconst 0, 1) := by decide +kernel
theorem d_V_connect_82 : decode b_V_connect 82 = .ok (.ireturn, 1) := by decide +kernel
theorem d_V_connect_83 : decode b_V_connect 83 = .ok (.aload_n 0, 1) := by decide +kernel
theorem d_V_connect_84 : decode b_V_connect 84 = .ok (.iload_n 1, 1) := by decide +kernel
theorem d_V_connect_85 : decode b_V_connect 85 = .ok (.invokevirtual 126, 3) := by decide +kernel
theorem d_V_connect_88 : decode b_V_connect 88 = .ok (.getfield 50, 3) := by decide +kernel
theorem d_V_connect_91 : decode b_V_connect 91 = .ok (.ifCond .eq 6, 3) := by decide +kernel
theorem d_V_connect_94 : decode b_V_connect 94 = .ok (.bipush (-10), 2) := by decide +kernel
theorem d_V_connect_96 : decode b_V_connect 96 = .ok (.ireturn, 1) := by decide +kernel
theorem d_V_connect_97 : decode b_V_connect 97 = .ok (.aload_n 0, 1) := by decide +kernel
theorem d_V_connect_98 : decode b_V_connect 98 = .ok (.iconst 1, 1) := by decide +kernel
theorem d_V_connect_99 : decode b_V_connect 99 = .ok (.putfield 28, 3) := by decide +kernel
theorem d_V_connect_102 : decode b_V_connect 102 = .ok (.aload_n 0, 1) := by decide +kernel
theorem d_V_connect_103 : decode b_V_connect 103 = .ok (.aload_n 0, 1) := by decide +kernel
theorem d_V_connect_104 : decode b_V_connect 104 = .ok (.iload_n 1, 1) := by decide +kernel
theorem d_V_connect_105 : decode b_V_connect 105 = .ok (.invokevirtual 43, 3) := by decide +kernel
theorem d_V_connect_108 : decode b_V_connect 108 = .ok (.aload_n 0, 1) := by decide +kernel
theorem d_V_connect_109 : decode b_V_connect 109 = .ok (.iload_n 1, 1) := by decide +kernel
theorem d_V_connect_110 : decode b_V_connect 110 = .ok (.invokevirtual 126, 3) := by decide +kernel
theorem d_V_connect_113 : decode b_V_connect 113 = .ok (.invokevirtual 178, 3) := by decide +kernel
theorem d_V_connect_116 : decode b_V_connect 116 = .ok (.iconst 1, 1) := by decide +kernel
theorem d_V_connect_117 : decode b_V_connect 117 = .ok (.iload_n 1, 1) := by decide +kernel
theorem d_V_connect_118 : decode b_V_connect 118 = .ok (.iadd, 1) := by decide +kernel
theorem d_V_connect_119 : decode b_V_connect 119 = .ok (.ireturn, 1) := by decide +kernel
theorem d_V_cut_0 : decode b_V_cut 0 = .ok (.aload_n 0, 1) := by decide +kernel
theorem d_V_cut_1 : decode b_V_cut 1 = .ok (.getfield 28, 3) := by decide +kernel
theorem d_V_cut_4 : decode b_V_cut 4 = .ok (.ifCond .ne 5, 3) := by decide +kernel
theorem d_V_cut_7 : decode b_V_cut 7 = .ok (.iconst 0, 1) := by decide +kernel
theorem d_V_cut_8 : decode b_V_cut 8 = .ok (.ireturn, 1) := by decide +kernel
theorem d_V_cut_9 : decode b_V_cut 9 = .ok (.aload_n 0, 1) := by decide +kernel
theorem d_V_cut_10 : decode b_V_cut 10 = .ok (.invokevirtual 182, 3) := by decide +kernel
theorem d_V_cut_13 : decode b_V_cut 13 = .ok (.iconst 1, 1) := by decide +kernel
theorem d_V_cut_14 : decode b_V_cut 14 = .ok (.ireturn, 1) := by decide +kernel
theorem d_V_crash_0 : decode b_V_crash 0 = .ok (.iload_n 1, 1) := by decide +kernel
theorem d_V_crash_1 : decode b_V_crash 1 = .ok (.invokestatic 36, 3) := by decide +kernel
theorem d_V_crash_4 : decode b_V_crash 4 = .ok (.ifCond .eq 14, 3) := by decide +kernel
theorem d_V_crash_7 : decode b_V_crash 7 = .ok (.aload_n 0, 1) := by decide +kernel
theorem d_V_crash_8 : decode b_V_crash 8 = .ok (.iload_n 1, 1) := by decide +kernel
theorem d_V_crash_9 : decode b_V_crash 9 = .ok (.invokevirtual 43, 3) := by decide +kernel
theorem d_V_crash_12 : decode b_V_crash 12 = .ok (.getfield 47, 3) := by decide +kernel
theorem d_V_crash_15 : decode b_V_crash 15 = .ok (.ifCond .ne 5, 3) := by decide +kernel
theorem d_V_crash_18 : decode b_V_crash 18 = .ok (.iconst 0, 1) := by decide +kernel
theorem d_V_crash_19 : decode b_V_crash 19 = .ok (.ireturn, 1) := by decide +kernel
theorem d_V_crash_20 : decode b_V_crash 20 = .ok (.aload_n 0, 1) := by decide +kernel
theorem d_V_crash_21 : decode b_V_crash 21 = .ok (.iload_n 1, 1) := by decide +kernel
theorem d_V_crash_22 : decode b_V_crash 22 = .ok (.invokevirtual 43, 3) := by decide +kernel
theorem d_V_crash_25 : decode b_V_crash 25 = .ok (.astore_n 2, 1) := by decide +kernel
theorem d_V_crash_26 : decode b_V_crash 26 = .ok (.aload_n 2, 1) := by decide +kernel
theorem d_V_crash_27 : decode b_V_crash 27 = .ok (.iconst 0, 1) := by decide +kernel
theorem d_V_crash_28 : decode b_V_crash 28 = .ok (.putfield 47, 3) := by decide +kernel
theorem d_V_crash_31 : decode b_V_crash 31 = .ok (.aload_n 0, 1) := by decide +kernel
theorem d_V_crash_32 : decode b_V_crash 32 = .ok (.getfield 24, 3) := by decide +kernel
theorem d_V_crash_35 : decode b_V_crash 35 = .ok (.iload_n 1, 1) := by decide +kernel
theorem d_V_crash_36 : decode b_V_crash 36 = .ok (.iconst 1, 1) := by decide +kernel
theorem d_V_crash_37 : decode b_V_crash 37 = .ok (.iconst 4, 1) := by decide +kernel
theorem d_V_crash_38 : decode b_V_crash 38 = .ok (.invokevirtual 185, 3) := by decide +kernel
theorem d_V_crash_41 : decode b_V_crash 41 = .ok (.aload_n 0, 1) := by decide +kernel
theorem d_V_crash_42 : decode b_V_crash 42 = .ok (.getfield 24, 3) := by decide +kernel
theorem d_V_crash_45 : decode b_V_crash 45 = .ok (.iload_n 1, 1) := by decide +kernel
theorem d_V_crash_46 : decode b_V_crash 46 = .ok (.iconst 3, 1) := by decide +kernel
theorem d_V_crash_47 : decode b_V_crash 47 = .ok (.iconst 4, 1) := by decide +kernel
theorem d_V_crash_48 : decode b_V_crash 48 = .ok (.invokevirtual 185, 3) := by decide +kernel
theorem d_V_crash_51 : decode b_V_crash 51 = .ok (.aload_n 2, 1) := by decide +kernel
theorem d_V_crash_52 : decode b_V_crash 52 = .ok (.getfield 50, 3) := by decide +kernel
theorem d_V_crash_55 : decode b_V_crash 55 = .ok (.ifCond .eq 13, 3) := by decide +kernel
theorem d_V_crash_58 : decode b_V_crash 58 = .ok (.aload_n 2, 1) := by decide +kernel
theorem d_V_crash_59 : decode b_V_crash 59 = .ok (.iconst 1, 1) := by decide +kernel
theorem d_V_crash_60 : decode b_V_crash 60 = .ok (.putfield 188, 3) := by decide +kernel
theorem d_V_crash_63 : decode b_V_crash 63 = .ok (.aload_n 2, 1) := by decide +kernel
theorem d_V_crash_64 : decode b_V_crash 64 = .ok (.iconst 0, 1) := by decide +kernel
theorem d_V_crash_65 : decode b_V_crash 65 = .ok (.putfield 50, 3) := by decide +kernel
theorem d_V_crash_68 : decode b_V_crash 68 = .ok (.aload_n 0, 1) := by decide +kernel
theorem d_V_crash_69 : decode b_V_crash 69 = .ok (.getfield 28, 3) := by decide +kernel
theorem d_V_crash_72 : decode b_V_crash 72 = .ok (.ifCond .eq 7, 3) := by decide +kernel
theorem d_V_crash_75 : decode b_V_crash 75 = .ok (.aload_n 0, 1) := by decide +kernel
theorem d_V_crash_76 : decode b_V_crash 76 = .ok (.invokevirtual 182, 3) := by decide +kernel
theorem d_V_crash_79 : decode b_V_crash 79 = .ok (.iconst 1, 1) := by decide +kernel
theorem d_V_crash_80 : decode b_V_crash 80 = .ok (.ireturn, 1) := by decide +kernel
theorem d_V_restart_0 : decode b_V_restart 0 = .ok (.iload_n 1, 1) := by decide +kernel
theorem d_V_restart_1 : decode b_V_restart 1 = .ok (.invokestatic 36, 3) := by decide +kernel
theorem d_V_restart_4 : decode b_V_restart 4 = .ok (.ifCond .eq 14, 3) := by decide +kernel
theorem d_V_restart_7 : decode b_V_restart 7 = .ok (.aload_n 0, 1) := by decide +kernel
theorem d_V_restart_8 : decode b_V_restart 8 = .ok (.iload_n 1, 1) := by decide +kernel
theorem d_V_restart_9 : decode b_V_restart 9 = .ok (.invokevirtual 43, 3) := by decide +kernel
theorem d_V_restart_12 : decode b_V_restart 12 = .ok (.getfield 47, 3) := by decide +kernel
theorem d_V_restart_15 : decode b_V_restart 15 = .ok (.ifCond .eq 5, 3) := by decide +kernel
theorem d_V_restart_18 : decode b_V_restart 18 = .ok (.iconst 0, 1) := by decide +kernel
theorem d_V_restart_19 : decode b_V_restart 19 = .ok (.ireturn, 1) := by decide +kernel
theorem d_V_restart_20 : decode b_V_restart 20 = .ok (.aload_n 0, 1) := by decide +kernel
theorem d_V_restart_21 : decode b_V_restart 21 = .ok (.iload_n 1, 1) := by decide +kernel
theorem d_V_restart_22 : decode b_V_restart 22 = .ok (.invokevirtual 43, 3) := by decide +kernel
theorem d_V_restart_25 : decode b_V_restart 25 = .ok (.astore_n 2, 1) := by decide +kernel
theorem d_V_restart_26 : decode b_V_restart 26 = .ok (.aload_n 2, 1) := by decide +kernel
theorem d_V_restart_27 : decode b_V_restart 27 = .ok (.iconst 1, 1) := by decide +kernel
theorem d_V_restart_28 : decode b_V_restart 28 = .ok (.putfield 47, 3) := by decide +kernel
theorem d_V_restart_31 : decode b_V_restart 31 = .ok (.aload_n 2, 1) := by decide +kernel
theorem d_V_restart_32 : decode b_V_restart 32 = .ok (.getfield 188, 3) := by decide +kernel
theorem d_V_restart_35 : decode b_V_restart 35 = .ok (.ifCond .eq 19, 3) := by decide +kernel
theorem d_V_restart_38 : decode b_V_restart 38 = .ok (.aload_n 2, 1) := by decide +kernel
theorem d_V_restart_39 : decode b_V_restart 39 = .ok (.dup, 1) := by decide +kernel
theorem d_V_restart_40 : decode b_V_restart 40 = .ok (.getfield 166, 3) := by decide +kernel
theorem d_V_restart_43 : decode b_V_restart 43 = .ok (.aload_n 2, 1) := by decide +kernel
theorem d_V_restart_44 : decode b_V_restart 44 = .ok (.getfield 64, 3) := by decide +kernel
theorem d_V_restart_47 : decode b_V_restart 47 = .ok (.invokevirtual 191, 3) := by decide +kernel
theorem d_V_restart_50 : decode b_V_restart 50 = .ok (.ior, 1) := by decide +kernel
theorem d_V_restart_51 : decode b_V_restart 51 = .ok (.putfield 166, 3) := by decide +kernel
theorem d_V_restart_54 : decode b_V_restart 54 = .ok (.iconst 1, 1) := by decide +kernel
theorem d_V_restart_55 : decode b_V_restart 55 = .ok (.ireturn, 1) := by decide +kernel
theorem d_V_promote_0 : decode b_V_promote 0 = .ok (.iload_n 1, 1) := by decide +kernel
theorem d_V_promote_1 : decode b_V_promote 1 = .ok (.invokestatic 36, 3) := by decide +kernel
theorem d_V_promote_4 : decode b_V_promote 4 = .ok (.ifCond .ne 5, 3) := by decide +kernel
theorem d_V_promote_7 : decode b_V_promote 7 = .ok (.iconst (-1), 1) := by decide +kernel
end
section
theorem d_V_promote_8 : decode b_V_promote 8 = .ok (.ireturn, 1) := by decide +kernel
theorem d_V_promote_9 : decode b_V_promote 9 = .ok (.aload_n 0, 1) := by decide +kernel
theorem d_V_promote_10 : decode b_V_promote 10 = .ok (.iload_n 1, 1) := by decide +kernel
theorem d_V_promote_11 : decode b_V_promote 11 = .ok (.invokevirtual 43, 3) := by decide +kernel
theorem d_V_promote_14 : decode b_V_promote 14 = .ok (.astore_n 2, 1) := by decide +kernel
theorem d_V_promote_15 : decode b_V_promote 15 = .ok (.aload_n 2, 1) := by decide +kernel
theorem d_V_promote_16 : decode b_V_promote 16 = .ok (.getfield 47, 3) := by decide +kernel
theorem d_V_promote_19 : decode b_V_promote 19 = .ok (.ifCond .ne 6, 3) := by decide +kernel
theorem d_V_promote_22 : decode b_V_promote 22 = .ok (.bipush (-2), 2) := by decide +kernel
theorem d_V_promote_24 : decode b_V_promote 24 = .ok (.ireturn, 1) := by decide +kernel
theorem d_V_promote_25 : decode b_V_promote 25 = .ok (.aload_n 2, 1) := by decide +kernel
theorem d_V_promote_26 : decode b_V_promote 26 = .ok (.getfield 194, 3) := by decide +kernel
theorem d_V_promote_29 : decode b_V_promote 29 = .ok (.ifCond .eq 6, 3) := by decide +kernel
theorem d_V_promote_32 : decode b_V_promote 32 = .ok (.bipush (-6), 2) := by decide +kernel
theorem d_V_promote_34 : decode b_V_promote 34 = .ok (.ireturn, 1) := by decide +kernel
theorem d_V_promote_35 : decode b_V_promote 35 = .ok (.aload_n 0, 1) := by decide +kernel
theorem d_V_promote_36 : decode b_V_promote 36 = .ok (.getfield 28, 3) := by decide +kernel
theorem d_V_promote_39 : decode b_V_promote 39 = .ok (.ifCond .eq 17, 3) := by decide +kernel
theorem d_V_promote_42 : decode b_V_promote 42 = .ok (.aload_n 0, 1) := by decide +kernel
theorem d_V_promote_43 : decode b_V_promote 43 = .ok (.iload_n 1, 1) := by decide +kernel
theorem d_V_promote_44 : decode b_V_promote 44 = .ok (.invokevirtual 126, 3) := by decide +kernel
theorem d_V_promote_47 : decode b_V_promote 47 = .ok (.getfield 50, 3) := by decide +kernel
theorem d_V_promote_50 : decode b_V_promote 50 = .ok (.ifCond .eq 6, 3) := by decide +kernel
theorem d_V_promote_53 : decode b_V_promote 53 = .ok (.bipush (-7), 2) := by decide +kernel
theorem d_V_promote_55 : decode b_V_promote 55 = .ok (.ireturn, 1) := by decide +kernel
theorem d_V_promote_56 : decode b_V_promote 56 = .ok (.aload_n 2, 1) := by decide +kernel
theorem d_V_promote_57 : decode b_V_promote 57 = .ok (.iconst 1, 1) := by decide +kernel
theorem d_V_promote_58 : decode b_V_promote 58 = .ok (.putfield 50, 3) := by decide +kernel
theorem d_V_promote_61 : decode b_V_promote 61 = .ok (.iconst 0, 1) := by decide +kernel
theorem d_V_promote_62 : decode b_V_promote 62 = .ok (.ireturn, 1) := by decide +kernel
theorem d_V_demote_0 : decode b_V_demote 0 = .ok (.iload_n 1, 1) := by decide +kernel
theorem d_V_demote_1 : decode b_V_demote 1 = .ok (.invokestatic 36, 3) := by decide +kernel
theorem d_V_demote_4 : decode b_V_demote 4 = .ok (.ifCond .ne 5, 3) := by decide +kernel
theorem d_V_demote_7 : decode b_V_demote 7 = .ok (.iconst (-1), 1) := by decide +kernel
theorem d_V_demote_8 : decode b_V_demote 8 = .ok (.ireturn, 1) := by decide +kernel
theorem d_V_demote_9 : decode b_V_demote 9 = .ok (.aload_n 0, 1) := by decide +kernel
theorem d_V_demote_10 : decode b_V_demote 10 = .ok (.iload_n 1, 1) := by decide +kernel
theorem d_V_demote_11 : decode b_V_demote 11 = .ok (.invokevirtual 43, 3) := by decide +kernel
theorem d_V_demote_14 : decode b_V_demote 14 = .ok (.astore_n 2, 1) := by decide +kernel
theorem d_V_demote_15 : decode b_V_demote 15 = .ok (.aload_n 2, 1) := by decide +kernel
theorem d_V_demote_16 : decode b_V_demote 16 = .ok (.getfield 47, 3) := by decide +kernel
theorem d_V_demote_19 : decode b_V_demote 19 = .ok (.ifCond .ne 6, 3) := by decide +kernel
theorem d_V_demote_22 : decode b_V_demote 22 = .ok (.bipush (-2), 2) := by decide +kernel
theorem d_V_demote_24 : decode b_V_demote 24 = .ok (.ireturn, 1) := by decide +kernel
theorem d_V_demote_25 : decode b_V_demote 25 = .ok (.aload_n 2, 1) := by decide +kernel
theorem d_V_demote_26 : decode b_V_demote 26 = .ok (.getfield 50, 3) := by decide +kernel
theorem d_V_demote_29 : decode b_V_demote 29 = .ok (.ifCond .ne 6, 3) := by decide +kernel
theorem d_V_demote_32 : decode b_V_demote 32 = .ok (.bipush (-3), 2) := by decide +kernel
theorem d_V_demote_34 : decode b_V_demote 34 = .ok (.ireturn, 1) := by decide +kernel
theorem d_V_demote_35 : decode b_V_demote 35 = .ok (.aload_n 0, 1) := by decide +kernel
theorem d_V_demote_36 : decode b_V_demote 36 = .ok (.getfield 24, 3) := by decide +kernel
theorem d_V_demote_39 : decode b_V_demote 39 = .ok (.iload_n 1, 1) := by decide +kernel
theorem d_V_demote_40 : decode b_V_demote 40 = .ok (.invokevirtual 57, 3) := by decide +kernel
theorem d_V_demote_43 : decode b_V_demote 43 = .ok (.ifCond .le 6, 3) := by decide +kernel
theorem d_V_demote_46 : decode b_V_demote 46 = .ok (.bipush (-5), 2) := by decide +kernel
theorem d_V_demote_48 : decode b_V_demote 48 = .ok (.ireturn, 1) := by decide +kernel
theorem d_V_demote_49 : decode b_V_demote 49 = .ok (.aload_n 2, 1) := by decide +kernel
theorem d_V_demote_50 : decode b_V_demote 50 = .ok (.iconst 0, 1) := by decide +kernel
theorem d_V_demote_51 : decode b_V_demote 51 = .ok (.putfield 50, 3) := by decide +kernel
theorem d_V_demote_54 : decode b_V_demote 54 = .ok (.iconst 0, 1) := by decide +kernel
theorem d_V_demote_55 : decode b_V_demote 55 = .ok (.ireturn, 1) := by decide +kernel
theorem d_V_discard_0 : decode b_V_discard 0 = .ok (.iload_n 1, 1) := by decide +kernel
theorem d_V_discard_1 : decode b_V_discard 1 = .ok (.invokestatic 36, 3) := by decide +kernel
theorem d_V_discard_4 : decode b_V_discard 4 = .ok (.ifCond .eq 10, 3) := by decide +kernel
theorem d_V_discard_7 : decode b_V_discard 7 = .ok (.aload_n 0, 1) := by decide +kernel
theorem d_V_discard_8 : decode b_V_discard 8 = .ok (.getfield 28, 3) := by decide +kernel
theorem d_V_discard_11 : decode b_V_discard 11 = .ok (.ifCond .eq 5, 3) := by decide +kernel
theorem d_V_discard_14 : decode b_V_discard 14 = .ok (.iconst 0, 1) := by decide +kernel
theorem d_V_discard_15 : decode b_V_discard 15 = .ok (.ireturn, 1) := by decide +kernel
theorem d_V_discard_16 : decode b_V_discard 16 = .ok (.aload_n 0, 1) := by decide +kernel
theorem d_V_discard_17 : decode b_V_discard 17 = .ok (.iload_n 1, 1) := by decide +kernel
theorem d_V_discard_18 : decode b_V_discard 18 = .ok (.invokevirtual 43, 3) := by decide +kernel
theorem d_V_discard_21 : decode b_V_discard 21 = .ok (.astore_n 2, 1) := by decide +kernel
theorem d_V_discard_22 : decode b_V_discard 22 = .ok (.aload_n 2, 1) := by decide +kernel
theorem d_V_discard_23 : decode b_V_discard 23 = .ok (.getfield 47, 3) := by decide +kernel
theorem d_V_discard_26 : decode b_V_discard 26 = .ok (.ifCond .eq 21, 3) := by decide +kernel
theorem d_V_discard_29 : decode b_V_discard 29 = .ok (.aload_n 2, 1) := by decide +kernel
theorem d_V_discard_30 : decode b_V_discard 30 = .ok (.getfield 50, 3) := by decide +kernel
theorem d_V_discard_33 : decode b_V_discard 33 = .ok (.ifCond .ne 14, 3) := by decide +kernel
theorem d_V_discard_36 : decode b_V_discard 36 = .ok (.aload_n 0, 1) := by decide +kernel
theorem d_V_discard_37 : decode b_V_discard 37 = .ok (.iload_n 1, 1) := by decide +kernel
theorem d_V_discard_38 : decode b_V_discard 38 = .ok (.invokevirtual 126, 3) := by decide +kernel
theorem d_V_discard_41 : decode b_V_discard 41 = .ok (.getfield 194, 3) := by decide +kernel
theorem d_V_discard_44 : decode b_V_discard 44 = .ok (.ifCond .eq 5, 3) := by decide +kernel
theorem d_V_discard_47 : decode b_V_discard 47 = .ok (.iconst 0, 1) := by decide +kernel
theorem d_V_discard_48 : decode b_V_discard 48 = .ok (.ireturn, 1) := by decide +kernel
theorem d_V_discard_49 : decode b_V_discard 49 = .ok (.aload_n 2, 1) := by decide +kernel
theorem d_V_discard_50 : decode b_V_discard 50 = .ok (.iconst 1, 1) := by decide +kernel
theorem d_V_discard_51 : decode b_V_discard 51 = .ok (.putfield 194, 3) := by decide +kernel
theorem d_V_discard_54 : decode b_V_discard 54 = .ok (.aload_n 2, 1) := by decide +kernel
theorem d_V_discard_55 : decode b_V_discard 55 = .ok (.iconst 0, 1) := by decide +kernel
theorem d_V_discard_56 : decode b_V_discard 56 = .ok (.putfield 188, 3) := by decide +kernel
theorem d_V_discard_59 : decode b_V_discard 59 = .ok (.aload_n 2, 1) := by decide +kernel
theorem d_V_discard_60 : decode b_V_discard 60 = .ok (.iconst 0, 1) := by decide +kernel
theorem d_V_discard_61 : decode b_V_discard 61 = .ok (.putfield 197, 3) := by decide +kernel
theorem d_V_discard_64 : decode b_V_discard 64 = .ok (.aload_n 2, 1) := by decide +kernel
theorem d_V_discard_65 : decode b_V_discard 65 = .ok (.iconst 0, 1) := by decide +kernel
theorem d_V_discard_66 : decode b_V_discard 66 = .ok (.putfield 200, 3) := by decide +kernel
theorem d_V_discard_69 : decode b_V_discard 69 = .ok (.aload_n 2, 1) := by decide +kernel
theorem d_V_discard_70 : decode b_V_discard 70 = .ok (.iconst 0, 1) := by decide +kernel
theorem d_V_discard_71 : decode b_V_discard 71 = .ok (.putfield 166, 3) := by decide +kernel
theorem d_V_discard_74 : decode b_V_discard 74 = .ok (.aload_n 0, 1) := by decide +kernel
theorem d_V_discard_75 : decode b_V_discard 75 = .ok (.getfield 24, 3) := by decide +kernel
theorem d_V_discard_78 : decode b_V_discard 78 = .ok (.iload_n 1, 1) := by decide +kernel
theorem d_V_discard_79 : decode b_V_discard 79 = .ok (.iconst 3, 1) := by decide +kernel
theorem d_V_discard_80 : decode b_V_discard 80 = .ok (.iconst 4, 1) := by decide +kernel
theorem d_V_discard_81 : decode b_V_discard 81 = .ok (.invokevirtual 185, 3) := by decide +kernel
theorem d_V_discard_84 : decode b_V_discard 84 = .ok (.iconst 1, 1) := by decide +kernel
theorem d_V_discard_85 : decode b_V_discard 85 = .ok (.ireturn, 1) := by decide +kernel
theorem d_V_disk_0 : decode b_V_disk 0 = .ok (.iload_n 1, 1) := by decide +kernel
theorem d_V_disk_1 : decode b_V_disk 1 = .ok (.invokestatic 36, 3) := by decide +kernel
theorem d_V_disk_4 : decode b_V_disk 4 = .ok (.ifCond .eq 23, 3) := by decide +kernel
theorem d_V_disk_7 : decode b_V_disk 7 = .ok (.iload_n 2, 1) := by decide +kernel
theorem d_V_disk_8 : decode b_V_disk 8 = .ok (.invokestatic 40, 3) := by decide +kernel
theorem d_V_disk_11 : decode b_V_disk 11 = .ok (.ifCond .eq 16, 3) := by decide +kernel
theorem d_V_disk_14 : decode b_V_disk 14 = .ok (.aload_n 0, 1) := by decide +kernel
theorem d_V_disk_15 : decode b_V_disk 15 = .ok (.iload_n 1, 1) := by decide +kernel
theorem d_V_disk_16 : decode b_V_disk 16 = .ok (.invokevirtual 43, 3) := by decide +kernel
theorem d_V_disk_19 : decode b_V_disk 19 = .ok (.getfield 78, 3) := by decide +kernel
theorem d_V_disk_22 : decode b_V_disk 22 = .ok (.iload_n 2, 1) := by decide +kernel
theorem d_V_disk_23 : decode b_V_disk 23 = .ok (.iaload, 1) := by decide +kernel
theorem d_V_disk_24 : decode b_V_disk 24 = .ok (.goto 4, 3) := by decide +kernel
theorem d_V_disk_27 : decode b_V_disk 27 = .ok (.iconst 0, 1) := by decide +kernel
theorem d_V_disk_28 : decode b_V_disk 28 = .ok (.ireturn, 1) := by decide +kernel
theorem d_V_fate_0 : decode b_V_fate 0 = .ok (.aload_n 0, 1) := by decide +kernel
theorem d_V_fate_1 : decode b_V_fate 1 = .ok (.getfield 24, 3) := by decide +kernel
theorem d_V_fate_4 : decode b_V_fate 4 = .ok (.iload_n 1, 1) := by decide +kernel
theorem d_V_fate_5 : decode b_V_fate 5 = .ok (.invokevirtual 203, 3) := by decide +kernel
theorem d_V_fate_8 : decode b_V_fate 8 = .ok (.ifCond .eq 15, 3) := by decide +kernel
theorem d_V_fate_11 : decode b_V_fate 11 = .ok (.aload_n 0, 1) := by decide +kernel
theorem d_V_fate_12 : decode b_V_fate 12 = .ok (.getfield 24, 3) := by decide +kernel
theorem d_V_fate_15 : decode b_V_fate 15 = .ok (.getfield 206, 3) := by decide +kernel
theorem d_V_fate_18 : decode b_V_fate 18 = .ok (.iload_n 1, 1) := by decide +kernel
theorem d_V_fate_19 : decode b_V_fate 19 = .ok (.iaload, 1) := by decide +kernel
theorem d_V_fate_20 : decode b_V_fate 20 = .ok (.goto 4, 3) := by decide +kernel
theorem d_V_fate_23 : decode b_V_fate 23 = .ok (.iconst 0, 1) := by decide +kernel
theorem d_V_fate_24 : decode b_V_fate 24 = .ok (.ireturn, 1) := by decide +kernel
theorem d_V_state_0 : decode b_V_state 0 = .ok (.iload_n 1, 1) := by decide +kernel
theorem d_V_state_1 : decode b_V_state 1 = .ok (.invokestatic 36, 3) := by decide +kernel
theorem d_V_state_4 : decode b_V_state 4 = .ok (.ifCond .ne 5, 3) := by decide +kernel
theorem d_V_state_7 : decode b_V_state 7 = .ok (.iconst (-1), 1) := by decide +kernel
theorem d_V_state_8 : decode b_V_state 8 = .ok (.ireturn, 1) := by decide +kernel
theorem d_V_state_9 : decode b_V_state 9 = .ok (.aload_n 0, 1) := by decide +kernel
theorem d_V_state_10 : decode b_V_state 10 = .ok (.iload_n 1, 1) := by decide +kernel
theorem d_V_state_11 : decode b_V_state 11 = .ok (.invokevirtual 43, 3) := by decide +kernel
theorem d_V_state_14 : decode b_V_state 14 = .ok (.astore_n 2, 1) := by decide +kernel
theorem d_V_state_15 : decode b_V_state 15 = .ok (.aload_n 2, 1) := by decide +kernel
theorem d_V_state_16 : decode b_V_state 16 = .ok (.getfield 47, 3) := by decide +kernel
theorem d_V_state_19 : decode b_V_state 19 = .ok (.ifCond .eq 7, 3) := by decide +kernel
theorem d_V_state_22 : decode b_V_state 22 = .ok (.iconst 1, 1) := by decide +kernel
theorem d_V_state_23 : decode b_V_state 23 = .ok (.goto 4, 3) := by decide +kernel
theorem d_V_state_26 : decode b_V_state 26 = .ok (.iconst 0, 1) := by decide +kernel
theorem d_V_state_27 : decode b_V_state 27 = .ok (.istore_n 3, 1) := by decide +kernel
theorem d_V_state_28 : decode b_V_state 28 = .ok (.iload_n 3, 1) := by decide +kernel
theorem d_V_state_29 : decode b_V_state 29 = .ok (.aload_n 2, 1) := by decide +kernel
theorem d_V_state_30 : decode b_V_state 30 = .ok (.getfield 50, 3) := by decide +kernel
theorem d_V_state_33 : decode b_V_state 33 = .ok (.ifCond .eq 7, 3) := by decide +kernel
theorem d_V_state_36 : decode b_V_state 36 = .ok (.iconst 2, 1) := by decide +kernel
theorem d_V_state_37 : decode b_V_state 37 = .ok (.goto 4, 3) := by decide +kernel
theorem d_V_state_40 : decode b_V_state 40 = .ok (.iconst 0, 1) := by decide +kernel
theorem d_V_state_41 : decode b_V_state 41 = .ok (.iadd, 1) := by decide +kernel
theorem d_V_state_42 : decode b_V_state 42 = .ok (.istore_n 3, 1) := by decide +kernel
theorem d_V_state_43 : decode b_V_state 43 = .ok (.iload_n 3, 1) := by decide +kernel
theorem d_V_state_44 : decode b_V_state 44 = .ok (.aload_n 2, 1) := by decide +kernel
theorem d_V_state_45 : decode b_V_state 45 = .ok (.getfield 194, 3) := by decide +kernel
theorem d_V_state_48 : decode b_V_state 48 = .ok (.ifCond .eq 7, 3) := by decide +kernel
theorem d_V_state_51 : decode b_V_state 51 = .ok (.iconst 4, 1) := by decide +kernel
theorem d_V_state_52 : decode b_V_state 52 = .ok (.goto 4, 3) := by decide +kernel
theorem d_V_state_55 : decode b_V_state 55 = .ok (.iconst 0, 1) := by decide +kernel
theorem d_V_state_56 : decode b_V_state 56 = .ok (.iadd, 1) := by decide +kernel
theorem d_V_state_57 : decode b_V_state 57 = .ok (.istore_n 3, 1) := by decide +kernel
theorem d_V_state_58 : decode b_V_state 58 = .ok (.iload_n 3, 1) := by decide +kernel
theorem d_V_state_59 : decode b_V_state 59 = .ok (.aload_n 2, 1) := by decide +kernel
theorem d_V_state_60 : decode b_V_state 60 = .ok (.getfield 188, 3) := by decide +kernel
theorem d_V_state_63 : decode b_V_state 63 = .ok (.ifCond .eq 8, 3) := by decide +kernel
theorem d_V_state_66 : decode b_V_state 66 = .ok (.bipush 8, 2) := by decide +kernel
theorem d_V_state_68 : decode b_V_state 68 = .ok (.goto 4, 3) := by decide +kernel
theorem d_V_state_71 : decode b_V_state 71 = .ok (.iconst 0, 1) := by decide +kernel
theorem d_V_state_72 : decode b_V_state 72 = .ok (.iadd, 1) := by decide +kernel
theorem d_V_state_73 : decode b_V_state 73 = .ok (.istore_n 3, 1) := by decide +kernel
theorem d_V_state_74 : decode b_V_state 74 = .ok (.iload_n 3, 1) := by decide +kernel
theorem d_V_state_75 : decode b_V_state 75 = .ok (.aload_n 0, 1) := by decide +kernel
theorem d_V_state_76 : decode b_V_state 76 = .ok (.getfield 28, 3) := by decide +kernel
theorem d_V_state_79 : decode b_V_state 79 = .ok (.ifCond .eq 8, 3) := by decide +kernel
theorem d_V_state_82 : decode b_V_state 82 = .ok (.bipush 16, 2) := by decide +kernel
theorem d_V_state_84 : decode b_V_state 84 = .ok (.goto 4, 3) := by decide +kernel
theorem d_V_state_87 : decode b_V_state 87 = .ok (.iconst 0, 1) := by decide +kernel
theorem d_V_state_88 : decode b_V_state 88 = .ok (.iadd, 1) := by decide +kernel
theorem d_V_state_89 : decode b_V_state 89 = .ok (.istore_n 3, 1) := by decide +kernel
theorem d_V_state_90 : decode b_V_state 90 = .ok (.iload_n 3, 1) := by decide +kernel
theorem d_V_state_91 : decode b_V_state 91 = .ok (.aload_n 2, 1) := by decide +kernel
theorem d_V_state_92 : decode b_V_state 92 = .ok (.getfield 155, 3) := by decide +kernel
theorem d_V_state_95 : decode b_V_state 95 = .ok (.ifCond .eq 8, 3) := by decide +kernel
theorem d_V_state_98 : decode b_V_state 98 = .ok (.bipush 32, 2) := by decide +kernel
theorem d_V_state_100 : decode b_V_state 100 = .ok (.goto 4, 3) := by decide +kernel
theorem d_V_state_103 : decode b_V_state 103 = .ok (.iconst 0, 1) := by decide +kernel
theorem d_V_state_104 : decode b_V_state 104 = .ok (.iadd, 1) := by decide +kernel
theorem d_V_state_105 : decode b_V_state 105 = .ok (.istore_n 3, 1) := by decide +kernel
theorem d_V_state_106 : decode b_V_state 106 = .ok (.iload_n 3, 1) := by decide +kernel
theorem d_V_state_107 : decode b_V_state 107 = .ok (.aload_n 2, 1) := by decide +kernel
theorem d_V_state_108 : decode b_V_state 108 = .ok (.getfield 209, 3) := by decide +kernel
theorem d_V_state_111 : decode b_V_state 111 = .ok (.ifCond .eq 8, 3) := by decide +kernel
theorem d_V_state_114 : decode b_V_state 114 = .ok (.bipush 64, 2) := by decide +kernel
theorem d_V_state_116 : decode b_V_state 116 = .ok (.goto 4, 3) := by decide +kernel
theorem d_V_state_119 : decode b_V_state 119 = .ok (.iconst 0, 1) := by decide +kernel
theorem d_V_state_120 : decode b_V_state 120 = .ok (.iadd, 1) := by decide +kernel
theorem d_V_state_121 : decode b_V_state 121 = .ok (.istore_n 3, 1) := by decide +kernel
theorem d_V_state_122 : decode b_V_state 122 = .ok (.iload_n 3, 1) := by decide +kernel
theorem d_V_state_123 : decode b_V_state 123 = .ok (.ireturn, 1) := by decide +kernel
theorem d_V_generation_0 : decode b_V_generation 0 = .ok (.iload_n 1, 1) := by decide +kernel
theorem d_V_generation_1 : decode b_V_generation 1 = .ok (.invokestatic 36, 3) := by decide +kernel
theorem d_V_generation_4 : decode b_V_generation 4 = .ok (.ifCond .eq 28, 3) := by decide +kernel
theorem d_V_generation_7 : decode b_V_generation 7 = .ok (.aload_n 0, 1) := by decide +kernel
theorem d_V_generation_8 : decode b_V_generation 8 = .ok (.iload_n 1, 1) := by decide +kernel
theorem d_V_generation_9 : decode b_V_generation 9 = .ok (.invokevirtual 43, 3) := by decide +kernel
theorem d_V_generation_12 : decode b_V_generation 12 = .ok (.getfield 197, 3) := by decide +kernel
theorem d_V_generation_15 : decode b_V_generation 15 = .ok (.i2l, 1) := by decide +kernel
theorem d_V_generation_16 : decode b_V_generation 16 = .ok (.bipush 32, 2) := by decide +kernel
theorem d_V_generation_18 : decode b_V_generation 18 = .ok (.lshl, 1) := by decide +kernel
theorem d_V_generation_19 : decode b_V_generation 19 = .ok (.aload_n 0, 1) := by decide +kernel
theorem d_V_generation_20 : decode b_V_generation 20 = .ok (.iload_n 1, 1) := by decide +kernel
theorem d_V_generation_21 : decode b_V_generation 21 = .ok (.invokevirtual 43, 3) := by decide +kernel
theorem d_V_generation_24 : decode b_V_generation 24 = .ok (.getfield 200, 3) := by decide +kernel
theorem d_V_generation_27 : decode b_V_generation 27 = .ok (.i2l, 1) := by decide +kernel
theorem d_V_generation_28 : decode b_V_generation 28 = .ok (.ladd, 1) := by decide +kernel
theorem d_V_generation_29 : decode b_V_generation 29 = .ok (.goto 4, 3) := by decide +kernel
theorem d_V_generation_32 : decode b_V_generation 32 = .ok (.lconst 0, 1) := by decide +kernel
theorem d_V_generation_33 : decode b_V_generation 33 = .ok (.lreturn, 1) := by decide +kernel
theorem d_V_map_0 : decode b_V_map 0 = .ok (.iload_n 1, 1) := by decide +kernel
theorem d_V_map_1 : decode b_V_map 1 = .ok (.invokestatic 36, 3) := by decide +kernel
theorem d_V_map_4 : decode b_V_map 4 = .ok (.ifCond .eq 14, 3) := by decide +kernel
theorem d_V_map_7 : decode b_V_map 7 = .ok (.aload_n 0, 1) := by decide +kernel
theorem d_V_map_8 : decode b_V_map 8 = .ok (.iload_n 1, 1) := by decide +kernel
theorem d_V_map_9 : decode b_V_map 9 = .ok (.invokevirtual 43, 3) := by decide +kernel
theorem d_V_map_12 : decode b_V_map 12 = .ok (.getfield 166, 3) := by decide +kernel
theorem d_V_map_15 : decode b_V_map 15 = .ok (.goto 4, 3) := by decide +kernel
theorem d_V_map_18 : decode b_V_map 18 = .ok (.iconst 0, 1) := by decide +kernel
theorem d_V_map_19 : decode b_V_map 19 = .ok (.ireturn, 1) := by decide +kernel
theorem d_V_log_0 : decode b_V_log 0 = .ok (.iload_n 1, 1) := by decide +kernel
theorem d_V_log_1 : decode b_V_log 1 = .ok (.invokestatic 36, 3) := by decide +kernel
theorem d_V_log_4 : decode b_V_log 4 = .ok (.ifCond .eq 18, 3) := by decide +kernel
theorem d_V_log_7 : decode b_V_log 7 = .ok (.aload_n 0, 1) := by decide +kernel
theorem d_V_log_8 : decode b_V_log 8 = .ok (.iload_n 1, 1) := by decide +kernel
theorem d_V_log_9 : decode b_V_log 9 = .ok (.invokevirtual 43, 3) := by decide +kernel
theorem d_V_log_12 : decode b_V_log 12 = .ok (.getfield 64, 3) := by decide +kernel
theorem d_V_log_15 : decode b_V_log 15 = .ok (.iload_n 2, 1) := by decide +kernel
theorem d_V_log_16 : decode b_V_log 16 = .ok (.invokevirtual 212, 3) := by decide +kernel
theorem d_V_log_19 : decode b_V_log 19 = .ok (.goto 4, 3) := by decide +kernel
theorem d_V_log_22 : decode b_V_log 22 = .ok (.iconst (-1), 1) := by decide +kernel
theorem d_V_log_23 : decode b_V_log 23 = .ok (.ireturn, 1) := by decide +kernel
theorem d_V_traffic_0 : decode b_V_traffic 0 = .ok (.iload_n 1, 1) := by decide +kernel
theorem d_V_traffic_1 : decode b_V_traffic 1 = .ok (.invokestatic 36, 3) := by decide +kernel
theorem d_V_traffic_4 : decode b_V_traffic 4 = .ok (.ifCond .ne 5, 3) := by decide +kernel
theorem d_V_traffic_7 : decode b_V_traffic 7 = .ok (.iconst 0, 1) := by decide +kernel
theorem d_V_traffic_8 : decode b_V_traffic 8 = .ok (.ireturn, 1) := by decide +kernel
theorem d_V_traffic_9 : decode b_V_traffic 9 = .ok (.aload_n 0, 1) := by decide +kernel
theorem d_V_traffic_10 : decode b_V_traffic 10 = .ok (.iload_n 1, 1) := by decide +kernel
theorem d_V_traffic_11 : decode b_V_traffic 11 = .ok (.invokevirtual 43, 3) := by decide +kernel
theorem d_V_traffic_14 : decode b_V_traffic 14 = .ok (.astore_n 2, 1) := by decide +kernel
theorem d_V_traffic_15 : decode b_V_traffic 15 = .ok (.aload_n 2, 1) := by decide +kernel
theorem d_V_traffic_16 : decode b_V_traffic 16 = .ok (.getfield 94, 3) := by decide +kernel
theorem d_V_traffic_19 : decode b_V_traffic 19 = .ok (.getfield 110, 3) := by decide +kernel
theorem d_V_traffic_22 : decode b_V_traffic 22 = .ok (.bipush 100, 2) := by decide +kernel
theorem d_V_traffic_24 : decode b_V_traffic 24 = .ok (.aload_n 2, 1) := by decide +kernel
theorem d_V_traffic_25 : decode b_V_traffic 25 = .ok (.getfield 133, 3) := by decide +kernel
theorem d_V_traffic_28 : decode b_V_traffic 28 = .ok (.getfield 137, 3) := by decide +kernel
theorem d_V_traffic_31 : decode b_V_traffic 31 = .ok (.imul, 1) := by decide +kernel
theorem d_V_traffic_32 : decode b_V_traffic 32 = .ok (.iadd, 1) := by decide +kernel
theorem d_V_traffic_33 : decode b_V_traffic 33 = .ok (.sipush 10000, 3) := by decide +kernel
theorem d_V_traffic_36 : decode b_V_traffic 36 = .ok (.aload_n 2, 1) := by decide +kernel
theorem d_V_traffic_37 : decode b_V_traffic 37 = .ok (.getfield 158, 3) := by decide +kernel
theorem d_V_traffic_40 : decode b_V_traffic 40 = .ok (.invokestatic 161, 3) := by decide +kernel
theorem d_V_traffic_43 : decode b_V_traffic 43 = .ok (.imul, 1) := by decide +kernel
theorem d_V_traffic_44 : decode b_V_traffic 44 = .ok (.iadd, 1) := by decide +kernel
theorem d_V_traffic_45 : decode b_V_traffic 45 = .ok (.ireturn, 1) := by decide +kernel
theorem d_V_isNode_0 : decode b_V_isNode 0 = .ok (.iload_n 0, 1) := by decide +kernel
theorem d_V_isNode_1 : decode b_V_isNode 1 = .ok (.ifCond .eq 8, 3) := by decide +kernel
theorem d_V_isNode_4 : decode b_V_isNode 4 = .ok (.iload_n 0, 1) := by decide +kernel
theorem d_V_isNode_5 : decode b_V_isNode 5 = .ok (.iconst 1, 1) := by decide +kernel
theorem d_V_isNode_6 : decode b_V_isNode 6 = .ok (.if_icmp .ne 7, 3) := by decide +kernel
theorem d_V_isNode_9 : decode b_V_isNode 9 = .ok (.iconst 1, 1) := by decide +kernel
theorem d_V_isNode_10 : decode b_V_isNode 10 = .ok (.goto 4, 3) := by decide +kernel
theorem d_V_isNode_13 : decode b_V_isNode 13 = .ok (.iconst 0, 1) := by decide +kernel
theorem d_V_isNode_14 : decode b_V_isNode 14 = .ok (.ireturn, 1) := by decide +kernel
theorem d_V_isBlock_0 : decode b_V_isBlock 0 = .ok (.iload_n 0, 1) := by decide +kernel
theorem d_V_isBlock_1 : decode b_V_isBlock 1 = .ok (.ifCond .lt 13, 3) := by decide +kernel
theorem d_V_isBlock_4 : decode b_V_isBlock 4 = .ok (.iload_n 0, 1) := by decide +kernel
theorem d_V_isBlock_5 : decode b_V_isBlock 5 = .ok (.bipush 32, 2) := by decide +kernel
theorem d_V_isBlock_7 : decode b_V_isBlock 7 = .ok (.if_icmp .ge 7, 3) := by decide +kernel
theorem d_V_isBlock_10 : decode b_V_isBlock 10 = .ok (.iconst 1, 1) := by decide +kernel
theorem d_V_isBlock_11 : decode b_V_isBlock 11 = .ok (.goto 4, 3) := by decide +kernel
theorem d_V_isBlock_14 : decode b_V_isBlock 14 = .ok (.iconst 0, 1) := by decide +kernel
theorem d_V_isBlock_15 : decode b_V_isBlock 15 = .ok (.ireturn, 1) := by decide +kernel
theorem d_V_hasBlock_0 : decode b_V_hasBlock 0 = .ok (.iload_n 0, 1) := by decide +kernel
theorem d_V_hasBlock_1 : decode b_V_hasBlock 1 = .ok (.iload_n 1, 1) := by decide +kernel
theorem d_V_hasBlock_2 : decode b_V_hasBlock 2 = .ok (.iushr, 1) := by decide +kernel
theorem d_V_hasBlock_3 : decode b_V_hasBlock 3 = .ok (.iconst 1, 1) := by decide +kernel
theorem d_V_hasBlock_4 : decode b_V_hasBlock 4 = .ok (.iand, 1) := by decide +kernel
theorem d_V_hasBlock_5 : decode b_V_hasBlock 5 = .ok (.ifCond .eq 7, 3) := by decide +kernel
theorem d_V_hasBlock_8 : decode b_V_hasBlock 8 = .ok (.iconst 1, 1) := by decide +kernel
theorem d_V_hasBlock_9 : decode b_V_hasBlock 9 = .ok (.goto 4, 3) := by decide +kernel
theorem d_V_hasBlock_12 : decode b_V_hasBlock 12 = .ok (.iconst 0, 1) := by decide +kernel
theorem d_V_hasBlock_13 : decode b_V_hasBlock 13 = .ok (.ireturn, 1) := by decide +kernel
theorem d_V_leastBlock_0 : decode b_V_leastBlock 0 = .ok (.iconst 0, 1) := by decide +kernel
theorem d_V_leastBlock_1 : decode b_V_leastBlock 1 = .ok (.istore_n 1, 1) := by decide +kernel
theorem d_V_leastBlock_2 : decode b_V_leastBlock 2 = .ok (.iload_n 1, 1) := by decide +kernel
theorem d_V_leastBlock_3 : decode b_V_leastBlock 3 = .ok (.bipush 32, 2) := by decide +kernel
theorem d_V_leastBlock_5 : decode b_V_leastBlock 5 = .ok (.if_icmp .ge 19, 3) := by decide +kernel
theorem d_V_leastBlock_8 : decode b_V_leastBlock 8 = .ok (.iload_n 0, 1) := by decide +kernel
theorem d_V_leastBlock_9 : decode b_V_leastBlock 9 = .ok (.iload_n 1, 1) := by decide +kernel
theorem d_V_leastBlock_10 : decode b_V_leastBlock 10 = .ok (.invokestatic 82, 3) := by decide +kernel
theorem d_V_leastBlock_13 : decode b_V_leastBlock 13 = .ok (.ifCond .eq 5, 3) := by decide +kernel
theorem d_V_leastBlock_16 : decode b_V_leastBlock 16 = .ok (.iload_n 1, 1) := by decide +kernel
theorem d_V_leastBlock_17 : decode b_V_leastBlock 17 = .ok (.ireturn, 1) := by decide +kernel
theorem d_V_leastBlock_18 : decode b_V_leastBlock 18 = .ok (.iinc 1 1, 3) := by decide +kernel
theorem d_V_leastBlock_21 : decode b_V_leastBlock 21 = .ok (.goto (-19), 3) := by decide +kernel
theorem d_V_leastBlock_24 : decode b_V_leastBlock 24 = .ok (.iconst (-1), 1) := by decide +kernel
theorem d_V_leastBlock_25 : decode b_V_leastBlock 25 = .ok (.ireturn, 1) := by decide +kernel
theorem d_V_blocksOfExtent_0 : decode b_V_blocksOfExtent 0 = .ok (.bipush 15, 2) := by decide +kernel
theorem d_V_blocksOfExtent_2 : decode b_V_blocksOfExtent 2 = .ok (.iload_n 0, 1) := by decide +kernel
theorem d_V_blocksOfExtent_3 : decode b_V_blocksOfExtent 3 = .ok (.iconst 4, 1) := by decide +kernel
theorem d_V_blocksOfExtent_4 : decode b_V_blocksOfExtent 4 = .ok (.imul, 1) := by decide +kernel
theorem d_V_blocksOfExtent_5 : decode b_V_blocksOfExtent 5 = .ok (.ishl, 1) := by decide +kernel
theorem d_V_blocksOfExtent_6 : decode b_V_blocksOfExtent 6 = .ok (.ireturn, 1) := by decide +kernel
theorem d_V_nodeOf_0 : decode b_V_nodeOf 0 = .ok (.iload_n 1, 1) := by decide +kernel
theorem d_V_nodeOf_1 : decode b_V_nodeOf 1 = .ok (.ifCond .ne 10, 3) := by decide +kernel
theorem d_V_nodeOf_4 : decode b_V_nodeOf 4 = .ok (.aload_n 0, 1) := by decide +kernel
theorem d_V_nodeOf_5 : decode b_V_nodeOf 5 = .ok (.getfield 12, 3) := by decide +kernel
theorem d_V_nodeOf_8 : decode b_V_nodeOf 8 = .ok (.goto 7, 3) := by decide +kernel
theorem d_V_nodeOf_11 : decode b_V_nodeOf 11 = .ok (.aload_n 0, 1) := by decide +kernel
theorem d_V_nodeOf_12 : decode b_V_nodeOf 12 = .ok (.getfield 18, 3) := by decide +kernel
theorem d_V_nodeOf_15 : decode b_V_nodeOf 15 = .ok (.areturn, 1) := by decide +kernel
theorem d_V_peerOf_0 : decode b_V_peerOf 0 = .ok (.iload_n 1, 1) := by decide +kernel
theorem d_V_peerOf_1 : decode b_V_peerOf 1 = .ok (.ifCond .ne 10, 3) := by decide +kernel
theorem d_V_peerOf_4 : decode b_V_peerOf 4 = .ok (.aload_n 0, 1) := by decide +kernel
theorem d_V_peerOf_5 : decode b_V_peerOf 5 = .ok (.getfield 18, 3) := by decide +kernel
theorem d_V_peerOf_8 : decode b_V_peerOf 8 = .ok (.goto 7, 3) := by decide +kernel
theorem d_V_peerOf_11 : decode b_V_peerOf 11 = .ok (.aload_n 0, 1) := by decide +kernel
theorem d_V_peerOf_12 : decode b_V_peerOf 12 = .ok (.getfield 12, 3) := by decide +kernel
theorem d_V_peerOf_15 : decode b_V_peerOf 15 = .ok (.areturn, 1) := by decide +kernel
theorem d_V_arrive_0 : decode b_V_arrive 0 = .ok (.iload_n 2, 1) := by decide +kernel
theorem d_V_arrive_1 : decode b_V_arrive 1 = .ok (.tableswitch 107 1 5 #[35, 46, 55, 76, 99], 35) := by decide +kernel
theorem d_V_arrive_36 : decode b_V_arrive 36 = .ok (.aload_n 1, 1) := by decide +kernel
theorem d_V_arrive_37 : decode b_V_arrive 37 = .ok (.getfield 133, 3) := by decide +kernel
theorem d_V_arrive_40 : decode b_V_arrive 40 = .ok (.iload_n 3, 1) := by decide +kernel
theorem d_V_arrive_41 : decode b_V_arrive 41 = .ok (.invokevirtual 215, 3) := by decide +kernel
theorem d_V_arrive_44 : decode b_V_arrive 44 = .ok (.goto 64, 3) := by decide +kernel
theorem d_V_arrive_47 : decode b_V_arrive 47 = .ok (.aload_n 0, 1) := by decide +kernel
theorem d_V_arrive_48 : decode b_V_arrive 48 = .ok (.aload_n 1, 1) := by decide +kernel
theorem d_V_arrive_49 : decode b_V_arrive 49 = .ok (.iload_n 3, 1) := by decide +kernel
theorem d_V_arrive_50 : decode b_V_arrive 50 = .ok (.invokevirtual 218, 3) := by decide +kernel
theorem d_V_arrive_53 : decode b_V_arrive 53 = .ok (.goto 55, 3) := by decide +kernel
theorem d_V_arrive_56 : decode b_V_arrive 56 = .ok (.aload_n 1, 1) := by decide +kernel
theorem d_V_arrive_57 : decode b_V_arrive 57 = .ok (.getfield 78, 3) := by decide +kernel
theorem d_V_arrive_60 : decode b_V_arrive 60 = .ok (.iload_n 3, 1) := by decide +kernel
theorem d_V_arrive_61 : decode b_V_arrive 61 = .ok (.iload 4, 2) := by decide +kernel
theorem d_V_arrive_63 : decode b_V_arrive 63 = .ok (.iastore, 1) := by decide +kernel
theorem d_V_arrive_64 : decode b_V_arrive 64 = .ok (.aload_n 1, 1) := by decide +kernel
theorem d_V_arrive_65 : decode b_V_arrive 65 = .ok (.getfield 94, 3) := by decide +kernel
theorem d_V_arrive_68 : decode b_V_arrive 68 = .ok (.iconst 4, 1) := by decide +kernel
theorem d_V_arrive_69 : decode b_V_arrive 69 = .ok (.iload_n 3, 1) := by decide +kernel
theorem d_V_arrive_70 : decode b_V_arrive 70 = .ok (.iconst 0, 1) := by decide +kernel
theorem d_V_arrive_71 : decode b_V_arrive 71 = .ok (.invokevirtual 98, 3) := by decide +kernel
theorem d_V_arrive_74 : decode b_V_arrive 74 = .ok (.goto 34, 3) := by decide +kernel
theorem d_V_arrive_77 : decode b_V_arrive 77 = .ok (.aload_n 1, 1) := by decide +kernel
theorem d_V_arrive_78 : decode b_V_arrive 78 = .ok (.dup, 1) := by decide +kernel
theorem d_V_arrive_79 : decode b_V_arrive 79 = .ok (.getfield 158, 3) := by decide +kernel
theorem d_V_arrive_82 : decode b_V_arrive 82 = .ok (.iconst 1, 1) := by decide +kernel
theorem d_V_arrive_83 : decode b_V_arrive 83 = .ok (.iload_n 3, 1) := by decide +kernel
theorem d_V_arrive_84 : decode b_V_arrive 84 = .ok (.ishl, 1) := by decide +kernel
theorem d_V_arrive_85 : decode b_V_arrive 85 = .ok (.iconst (-1), 1) := by decide +kernel
theorem d_V_arrive_86 : decode b_V_arrive 86 = .ok (.ixor, 1) := by decide +kernel
theorem d_V_arrive_87 : decode b_V_arrive 87 = .ok (.iand, 1) := by decide +kernel
theorem d_V_arrive_88 : decode b_V_arrive 88 = .ok (.putfield 158, 3) := by decide +kernel
theorem d_V_arrive_91 : decode b_V_arrive 91 = .ok (.aload_n 0, 1) := by decide +kernel
theorem d_V_arrive_92 : decode b_V_arrive 92 = .ok (.aload_n 1, 1) := by decide +kernel
theorem d_V_arrive_93 : decode b_V_arrive 93 = .ok (.iload_n 3, 1) := by decide +kernel
theorem d_V_arrive_94 : decode b_V_arrive 94 = .ok (.invokevirtual 222, 3) := by decide +kernel
theorem d_V_arrive_97 : decode b_V_arrive 97 = .ok (.goto 11, 3) := by decide +kernel
theorem d_V_arrive_100 : decode b_V_arrive 100 = .ok (.aload_n 1, 1) := by decide +kernel
theorem d_V_arrive_101 : decode b_V_arrive 101 = .ok (.iload_n 3, 1) := by decide +kernel
theorem d_V_arrive_102 : decode b_V_arrive 102 = .ok (.invokevirtual 225, 3) := by decide +kernel
theorem d_V_arrive_105 : decode b_V_arrive 105 = .ok (.goto 3, 3) := by decide +kernel
theorem d_V_arrive_108 : decode b_V_arrive 108 = .ok (.return_, 1) := by decide +kernel
theorem d_V_takeAck_0 : decode b_V_takeAck 0 = .ok (.aload_n 0, 1) := by decide +kernel
theorem d_V_takeAck_1 : decode b_V_takeAck 1 = .ok (.getfield 24, 3) := by decide +kernel
theorem d_V_takeAck_4 : decode b_V_takeAck 4 = .ok (.getfield 206, 3) := by decide +kernel
theorem d_V_takeAck_7 : decode b_V_takeAck 7 = .ok (.iload_n 2, 1) := by decide +kernel
theorem d_V_takeAck_8 : decode b_V_takeAck 8 = .ok (.iconst 2, 1) := by decide +kernel
theorem d_V_takeAck_9 : decode b_V_takeAck 9 = .ok (.iastore, 1) := by decide +kernel
theorem d_V_takeAck_10 : decode b_V_takeAck 10 = .ok (.aload_n 1, 1) := by decide +kernel
theorem d_V_takeAck_11 : decode b_V_takeAck 11 = .ok (.getfield 155, 3) := by decide +kernel
theorem d_V_takeAck_14 : decode b_V_takeAck 14 = .ok (.ifCond .eq 17, 3) := by decide +kernel
theorem d_V_takeAck_17 : decode b_V_takeAck 17 = .ok (.aload_n 0, 1) := by decide +kernel
theorem d_V_takeAck_18 : decode b_V_takeAck 18 = .ok (.aload_n 1, 1) := by decide +kernel
theorem d_V_takeAck_19 : decode b_V_takeAck 19 = .ok (.aload_n 0, 1) := by decide +kernel
theorem d_V_takeAck_20 : decode b_V_takeAck 20 = .ok (.getfield 24, 3) := by decide +kernel
theorem d_V_takeAck_23 : decode b_V_takeAck 23 = .ok (.getfield 149, 3) := by decide +kernel
theorem d_V_takeAck_26 : decode b_V_takeAck 26 = .ok (.iload_n 2, 1) := by decide +kernel
theorem d_V_takeAck_27 : decode b_V_takeAck 27 = .ok (.iaload, 1) := by decide +kernel
theorem d_V_takeAck_28 : decode b_V_takeAck 28 = .ok (.invokevirtual 222, 3) := by decide +kernel
theorem d_V_takeAck_31 : decode b_V_takeAck 31 = .ok (.return_, 1) := by decide +kernel
theorem d_V_takeFromMap_0 : decode b_V_takeFromMap 0 = .ok (.aload_n 1, 1) := by decide +kernel
theorem d_V_takeFromMap_1 : decode b_V_takeFromMap 1 = .ok (.dup, 1) := by decide +kernel
theorem d_V_takeFromMap_2 : decode b_V_takeFromMap 2 = .ok (.getfield 166, 3) := by decide +kernel
theorem d_V_takeFromMap_5 : decode b_V_takeFromMap 5 = .ok (.iconst 1, 1) := by decide +kernel
theorem d_V_takeFromMap_6 : decode b_V_takeFromMap 6 = .ok (.iload_n 2, 1) := by decide +kernel
theorem d_V_takeFromMap_7 : decode b_V_takeFromMap 7 = .ok (.ishl, 1) := by decide +kernel
theorem d_V_takeFromMap_8 : decode b_V_takeFromMap 8 = .ok (.iconst (-1), 1) := by decide +kernel
theorem d_V_takeFromMap_9 : decode b_V_takeFromMap 9 = .ok (.ixor, 1) := by decide +kernel
theorem d_V_takeFromMap_10 : decode b_V_takeFromMap 10 = .ok (.iand, 1) := by decide +kernel
theorem d_V_takeFromMap_11 : decode b_V_takeFromMap 11 = .ok (.putfield 166, 3) := by decide +kernel
theorem d_V_takeFromMap_14 : decode b_V_takeFromMap 14 = .ok (.aload_n 1, 1) := by decide +kernel
theorem d_V_takeFromMap_15 : decode b_V_takeFromMap 15 = .ok (.getfield 166, 3) := by decide +kernel
theorem d_V_takeFromMap_18 : decode b_V_takeFromMap 18 = .ok (.ifCond .ne 8, 3) := by decide +kernel
theorem d_V_takeFromMap_21 : decode b_V_takeFromMap 21 = .ok (.aload_n 0, 1) := by decide +kernel
theorem d_V_takeFromMap_22 : decode b_V_takeFromMap 22 = .ok (.aload_n 1, 1) := by decide +kernel
theorem d_V_takeFromMap_23 : decode b_V_takeFromMap 23 = .ok (.invokevirtual 228, 3) := by decide +kernel
theorem d_V_takeFromMap_26 : decode b_V_takeFromMap 26 = .ok (.return_, 1) := by decide +kernel
theorem d_V_end_0 : decode b_V_end 0 = .ok (.aload_n 1, 1) := by decide +kernel
theorem d_V_end_1 : decode b_V_end 1 = .ok (.iconst 0, 1) := by decide +kernel
theorem d_V_end_2 : decode b_V_end 2 = .ok (.putfield 155, 3) := by decide +kernel
theorem d_V_end_5 : decode b_V_end 5 = .ok (.aload_n 1, 1) := by decide +kernel
theorem d_V_end_6 : decode b_V_end 6 = .ok (.iconst 0, 1) := by decide +kernel
theorem d_V_end_7 : decode b_V_end 7 = .ok (.putfield 188, 3) := by decide +kernel
theorem d_V_end_10 : decode b_V_end 10 = .ok (.aload_n 1, 1) := by decide +kernel
theorem d_V_end_11 : decode b_V_end 11 = .ok (.iconst 0, 1) := by decide +kernel
theorem d_V_end_12 : decode b_V_end 12 = .ok (.putfield 200, 3) := by decide +kernel
theorem d_V_end_15 : decode b_V_end 15 = .ok (.aload_n 0, 1) := by decide +kernel
theorem d_V_end_16 : decode b_V_end 16 = .ok (.getfield 24, 3) := by decide +kernel
theorem d_V_end_19 : decode b_V_end 19 = .ok (.aload_n 1, 1) := by decide +kernel
theorem d_V_end_20 : decode b_V_end 20 = .ok (.getfield 232, 3) := by decide +kernel
theorem d_V_end_23 : decode b_V_end 23 = .ok (.iconst 3, 1) := by decide +kernel
theorem d_V_end_24 : decode b_V_end 24 = .ok (.iconst 2, 1) := by decide +kernel
theorem d_V_end_25 : decode b_V_end 25 = .ok (.invokevirtual 185, 3) := by decide +kernel
theorem d_V_end_28 : decode b_V_end 28 = .ok (.aload_n 1, 1) := by decide +kernel
theorem d_V_end_29 : decode b_V_end 29 = .ok (.getfield 94, 3) := by decide +kernel
theorem d_V_end_32 : decode b_V_end 32 = .ok (.iconst 5, 1) := by decide +kernel
theorem d_V_end_33 : decode b_V_end 33 = .ok (.aload_n 1, 1) := by decide +kernel
theorem d_V_end_34 : decode b_V_end 34 = .ok (.getfield 197, 3) := by decide +kernel
theorem d_V_end_37 : decode b_V_end 37 = .ok (.iconst 0, 1) := by decide +kernel
theorem d_V_end_38 : decode b_V_end 38 = .ok (.invokevirtual 98, 3) := by decide +kernel
theorem d_V_end_41 : decode b_V_end 41 = .ok (.return_, 1) := by decide +kernel
theorem d_V_endUpAlone_0 : decode b_V_endUpAlone 0 = .ok (.aload_n 0, 1) := by decide +kernel
theorem d_V_endUpAlone_1 : decode b_V_endUpAlone 1 = .ok (.getfield 24, 3) := by decide +kernel
theorem d_V_endUpAlone_4 : decode b_V_endUpAlone 4 = .ok (.getfield 206, 3) := by decide +kernel
theorem d_V_endUpAlone_7 : decode b_V_endUpAlone 7 = .ok (.iload_n 1, 1) := by decide +kernel
theorem d_V_endUpAlone_8 : decode b_V_endUpAlone 8 = .ok (.iconst 3, 1) := by decide +kernel
theorem d_V_endUpAlone_9 : decode b_V_endUpAlone 9 = .ok (.iastore, 1) := by decide +kernel
theorem d_V_endUpAlone_10 : decode b_V_endUpAlone 10 = .ok (.aload_n 0, 1) := by decide +kernel
end
section
theorem d_V_endUpAlone_11 : decode b_V_endUpAlone 11 = .ok (.aload_n 0, 1) := by decide +kernel
theorem d_V_endUpAlone_12 : decode b_V_endUpAlone 12 = .ok (.getfield 24, 3) := by decide +kernel
theorem d_V_endUpAlone_15 : decode b_V_endUpAlone 15 = .ok (.getfield 235, 3) := by decide +kernel
theorem d_V_endUpAlone_18 : decode b_V_endUpAlone 18 = .ok (.iload_n 1, 1) := by decide +kernel
theorem d_V_endUpAlone_19 : decode b_V_endUpAlone 19 = .ok (.iaload, 1) := by decide +kernel
theorem d_V_endUpAlone_20 : decode b_V_endUpAlone 20 = .ok (.invokevirtual 43, 3) := by decide +kernel
theorem d_V_endUpAlone_23 : decode b_V_endUpAlone 23 = .ok (.astore_n 2, 1) := by decide +kernel
theorem d_V_endUpAlone_24 : decode b_V_endUpAlone 24 = .ok (.aload_n 2, 1) := by decide +kernel
theorem d_V_endUpAlone_25 : decode b_V_endUpAlone 25 = .ok (.dup, 1) := by decide +kernel
theorem d_V_endUpAlone_26 : decode b_V_endUpAlone 26 = .ok (.getfield 166, 3) := by decide +kernel
theorem d_V_endUpAlone_29 : decode b_V_endUpAlone 29 = .ok (.iconst 1, 1) := by decide +kernel
theorem d_V_endUpAlone_30 : decode b_V_endUpAlone 30 = .ok (.aload_n 0, 1) := by decide +kernel
theorem d_V_endUpAlone_31 : decode b_V_endUpAlone 31 = .ok (.getfield 24, 3) := by decide +kernel
theorem d_V_endUpAlone_34 : decode b_V_endUpAlone 34 = .ok (.getfield 149, 3) := by decide +kernel
theorem d_V_endUpAlone_37 : decode b_V_endUpAlone 37 = .ok (.iload_n 1, 1) := by decide +kernel
theorem d_V_endUpAlone_38 : decode b_V_endUpAlone 38 = .ok (.iaload, 1) := by decide +kernel
theorem d_V_endUpAlone_39 : decode b_V_endUpAlone 39 = .ok (.ishl, 1) := by decide +kernel
theorem d_V_endUpAlone_40 : decode b_V_endUpAlone 40 = .ok (.ior, 1) := by decide +kernel
theorem d_V_endUpAlone_41 : decode b_V_endUpAlone 41 = .ok (.putfield 166, 3) := by decide +kernel
theorem d_V_endUpAlone_44 : decode b_V_endUpAlone 44 = .ok (.aload_n 2, 1) := by decide +kernel
theorem d_V_endUpAlone_45 : decode b_V_endUpAlone 45 = .ok (.getfield 200, 3) := by decide +kernel
theorem d_V_endUpAlone_48 : decode b_V_endUpAlone 48 = .ok (.ifCond .ne 29, 3) := by decide +kernel
theorem d_V_endUpAlone_51 : decode b_V_endUpAlone 51 = .ok (.aload_n 2, 1) := by decide +kernel
theorem d_V_endUpAlone_52 : decode b_V_endUpAlone 52 = .ok (.aload_n 2, 1) := by decide +kernel
theorem d_V_endUpAlone_53 : decode b_V_endUpAlone 53 = .ok (.getfield 197, 3) := by decide +kernel
theorem d_V_endUpAlone_56 : decode b_V_endUpAlone 56 = .ok (.putfield 200, 3) := by decide +kernel
theorem d_V_endUpAlone_59 : decode b_V_endUpAlone 59 = .ok (.aload_n 0, 1) := by decide +kernel
theorem d_V_endUpAlone_60 : decode b_V_endUpAlone 60 = .ok (.dup, 1) := by decide +kernel
theorem d_V_endUpAlone_61 : decode b_V_endUpAlone 61 = .ok (.getfield 32, 3) := by decide +kernel
theorem d_V_endUpAlone_64 : decode b_V_endUpAlone 64 = .ok (.iconst 1, 1) := by decide +kernel
theorem d_V_endUpAlone_65 : decode b_V_endUpAlone 65 = .ok (.iadd, 1) := by decide +kernel
theorem d_V_endUpAlone_66 : decode b_V_endUpAlone 66 = .ok (.putfield 32, 3) := by decide +kernel
theorem d_V_endUpAlone_69 : decode b_V_endUpAlone 69 = .ok (.aload_n 2, 1) := by decide +kernel
theorem d_V_endUpAlone_70 : decode b_V_endUpAlone 70 = .ok (.aload_n 0, 1) := by decide +kernel
theorem d_V_endUpAlone_71 : decode b_V_endUpAlone 71 = .ok (.getfield 32, 3) := by decide +kernel
theorem d_V_endUpAlone_74 : decode b_V_endUpAlone 74 = .ok (.putfield 197, 3) := by decide +kernel
theorem d_V_endUpAlone_77 : decode b_V_endUpAlone 77 = .ok (.return_, 1) := by decide +kernel
theorem d_V_breakLink_0 : decode b_V_breakLink 0 = .ok (.aload_n 0, 1) := by decide +kernel
theorem d_V_breakLink_1 : decode b_V_breakLink 1 = .ok (.iconst 0, 1) := by decide +kernel
theorem d_V_breakLink_2 : decode b_V_breakLink 2 = .ok (.putfield 28, 3) := by decide +kernel
theorem d_V_breakLink_5 : decode b_V_breakLink 5 = .ok (.aload_n 0, 1) := by decide +kernel
theorem d_V_breakLink_6 : decode b_V_breakLink 6 = .ok (.getfield 12, 3) := by decide +kernel
theorem d_V_breakLink_9 : decode b_V_breakLink 9 = .ok (.invokevirtual 238, 3) := by decide +kernel
theorem d_V_breakLink_12 : decode b_V_breakLink 12 = .ok (.aload_n 0, 1) := by decide +kernel
theorem d_V_breakLink_13 : decode b_V_breakLink 13 = .ok (.getfield 18, 3) := by decide +kernel
theorem d_V_breakLink_16 : decode b_V_breakLink 16 = .ok (.invokevirtual 238, 3) := by decide +kernel
theorem d_V_breakLink_19 : decode b_V_breakLink 19 = .ok (.iconst 1, 1) := by decide +kernel
theorem d_V_breakLink_20 : decode b_V_breakLink 20 = .ok (.istore_n 1, 1) := by decide +kernel
theorem d_V_breakLink_21 : decode b_V_breakLink 21 = .ok (.iload_n 1, 1) := by decide +kernel
theorem d_V_breakLink_22 : decode b_V_breakLink 22 = .ok (.aload_n 0, 1) := by decide +kernel
theorem d_V_breakLink_23 : decode b_V_breakLink 23 = .ok (.getfield 24, 3) := by decide +kernel
theorem d_V_breakLink_26 : decode b_V_breakLink 26 = .ok (.getfield 241, 3) := by decide +kernel
theorem d_V_breakLink_29 : decode b_V_breakLink 29 = .ok (.if_icmp .gt 27, 3) := by decide +kernel
theorem d_V_breakLink_32 : decode b_V_breakLink 32 = .ok (.aload_n 0, 1) := by decide +kernel
theorem d_V_breakLink_33 : decode b_V_breakLink 33 = .ok (.getfield 24, 3) := by decide +kernel
theorem d_V_breakLink_36 : decode b_V_breakLink 36 = .ok (.getfield 206, 3) := by decide +kernel
theorem d_V_breakLink_39 : decode b_V_breakLink 39 = .ok (.iload_n 1, 1) := by decide +kernel
theorem d_V_breakLink_40 : decode b_V_breakLink 40 = .ok (.iaload, 1) := by decide +kernel
theorem d_V_breakLink_41 : decode b_V_breakLink 41 = .ok (.iconst 1, 1) := by decide +kernel
theorem d_V_breakLink_42 : decode b_V_breakLink 42 = .ok (.if_icmp .ne 8, 3) := by decide +kernel
theorem d_V_breakLink_45 : decode b_V_breakLink 45 = .ok (.aload_n 0, 1) := by decide +kernel
theorem d_V_breakLink_46 : decode b_V_breakLink 46 = .ok (.iload_n 1, 1) := by decide +kernel
theorem d_V_breakLink_47 : decode b_V_breakLink 47 = .ok (.invokevirtual 104, 3) := by decide +kernel
theorem d_V_breakLink_50 : decode b_V_breakLink 50 = .ok (.iinc 1 1, 3) := by decide +kernel
theorem d_V_breakLink_53 : decode b_V_breakLink 53 = .ok (.goto (-32), 3) := by decide +kernel
theorem d_V_breakLink_56 : decode b_V_breakLink 56 = .ok (.return_, 1) := by decide +kernel
theorem d_V_wentDifferentWays_0 : decode b_V_wentDifferentWays 0 = .ok (.aload_n 0, 1) := by decide +kernel
theorem d_V_wentDifferentWays_1 : decode b_V_wentDifferentWays 1 = .ok (.getfield 12, 3) := by decide +kernel
theorem d_V_wentDifferentWays_4 : decode b_V_wentDifferentWays 4 = .ok (.getfield 194, 3) := by decide +kernel
theorem d_V_wentDifferentWays_7 : decode b_V_wentDifferentWays 7 = .ok (.ifCond .ne 68, 3) := by decide +kernel
theorem d_V_wentDifferentWays_10 : decode b_V_wentDifferentWays 10 = .ok (.aload_n 0, 1) := by decide +kernel
theorem d_V_wentDifferentWays_11 : decode b_V_wentDifferentWays 11 = .ok (.getfield 18, 3) := by decide +kernel
theorem d_V_wentDifferentWays_14 : decode b_V_wentDifferentWays 14 = .ok (.getfield 194, 3) := by decide +kernel
theorem d_V_wentDifferentWays_17 : decode b_V_wentDifferentWays 17 = .ok (.ifCond .ne 58, 3) := by decide +kernel
theorem d_V_wentDifferentWays_20 : decode b_V_wentDifferentWays 20 = .ok (.aload_n 0, 1) := by decide +kernel
theorem d_V_wentDifferentWays_21 : decode b_V_wentDifferentWays 21 = .ok (.getfield 12, 3) := by decide +kernel
theorem d_V_wentDifferentWays_24 : decode b_V_wentDifferentWays 24 = .ok (.getfield 197, 3) := by decide +kernel
theorem d_V_wentDifferentWays_27 : decode b_V_wentDifferentWays 27 = .ok (.aload_n 0, 1) := by decide +kernel
theorem d_V_wentDifferentWays_28 : decode b_V_wentDifferentWays 28 = .ok (.getfield 18, 3) := by decide +kernel
theorem d_V_wentDifferentWays_31 : decode b_V_wentDifferentWays 31 = .ok (.getfield 197, 3) := by decide +kernel
theorem d_V_wentDifferentWays_34 : decode b_V_wentDifferentWays 34 = .ok (.if_icmp .eq 41, 3) := by decide +kernel
theorem d_V_wentDifferentWays_37 : decode b_V_wentDifferentWays 37 = .ok (.aload_n 0, 1) := by decide +kernel
theorem d_V_wentDifferentWays_38 : decode b_V_wentDifferentWays 38 = .ok (.getfield 12, 3) := by decide +kernel
theorem d_V_wentDifferentWays_41 : decode b_V_wentDifferentWays 41 = .ok (.getfield 200, 3) := by decide +kernel
theorem d_V_wentDifferentWays_44 : decode b_V_wentDifferentWays 44 = .ok (.aload_n 0, 1) := by decide +kernel
theorem d_V_wentDifferentWays_45 : decode b_V_wentDifferentWays 45 = .ok (.getfield 18, 3) := by decide +kernel
theorem d_V_wentDifferentWays_48 : decode b_V_wentDifferentWays 48 = .ok (.getfield 197, 3) := by decide +kernel
theorem d_V_wentDifferentWays_51 : decode b_V_wentDifferentWays 51 = .ok (.if_icmp .eq 24, 3) := by decide +kernel
theorem d_V_wentDifferentWays_54 : decode b_V_wentDifferentWays 54 = .ok (.aload_n 0, 1) := by decide +kernel
theorem d_V_wentDifferentWays_55 : decode b_V_wentDifferentWays 55 = .ok (.getfield 18, 3) := by decide +kernel
theorem d_V_wentDifferentWays_58 : decode b_V_wentDifferentWays 58 = .ok (.getfield 200, 3) := by decide +kernel
theorem d_V_wentDifferentWays_61 : decode b_V_wentDifferentWays 61 = .ok (.aload_n 0, 1) := by decide +kernel
theorem d_V_wentDifferentWays_62 : decode b_V_wentDifferentWays 62 = .ok (.getfield 12, 3) := by decide +kernel
theorem d_V_wentDifferentWays_65 : decode b_V_wentDifferentWays 65 = .ok (.getfield 197, 3) := by decide +kernel
theorem d_V_wentDifferentWays_68 : decode b_V_wentDifferentWays 68 = .ok (.if_icmp .eq 7, 3) := by decide +kernel
theorem d_V_wentDifferentWays_71 : decode b_V_wentDifferentWays 71 = .ok (.iconst 1, 1) := by decide +kernel
theorem d_V_wentDifferentWays_72 : decode b_V_wentDifferentWays 72 = .ok (.goto 4, 3) := by decide +kernel
theorem d_V_wentDifferentWays_75 : decode b_V_wentDifferentWays 75 = .ok (.iconst 0, 1) := by decide +kernel
theorem d_V_wentDifferentWays_76 : decode b_V_wentDifferentWays 76 = .ok (.ireturn, 1) := by decide +kernel
theorem d_V_chooseSource_0 : decode b_V_chooseSource 0 = .ok (.aload_n 0, 1) := by decide +kernel
theorem d_V_chooseSource_1 : decode b_V_chooseSource 1 = .ok (.getfield 12, 3) := by decide +kernel
theorem d_V_chooseSource_4 : decode b_V_chooseSource 4 = .ok (.getfield 194, 3) := by decide +kernel
theorem d_V_chooseSource_7 : decode b_V_chooseSource 7 = .ok (.ifCond .ne 13, 3) := by decide +kernel
theorem d_V_chooseSource_10 : decode b_V_chooseSource 10 = .ok (.aload_n 0, 1) := by decide +kernel
theorem d_V_chooseSource_11 : decode b_V_chooseSource 11 = .ok (.getfield 18, 3) := by decide +kernel
theorem d_V_chooseSource_14 : decode b_V_chooseSource 14 = .ok (.getfield 194, 3) := by decide +kernel
theorem d_V_chooseSource_17 : decode b_V_chooseSource 17 = .ok (.ifCond .eq 19, 3) := by decide +kernel
theorem d_V_chooseSource_20 : decode b_V_chooseSource 20 = .ok (.aload_n 0, 1) := by decide +kernel
theorem d_V_chooseSource_21 : decode b_V_chooseSource 21 = .ok (.getfield 18, 3) := by decide +kernel
theorem d_V_chooseSource_24 : decode b_V_chooseSource 24 = .ok (.getfield 194, 3) := by decide +kernel
theorem d_V_chooseSource_27 : decode b_V_chooseSource 27 = .ok (.ifCond .eq 7, 3) := by decide +kernel
theorem d_V_chooseSource_30 : decode b_V_chooseSource 30 = .ok (.iconst 0, 1) := by decide +kernel
theorem d_V_chooseSource_31 : decode b_V_chooseSource 31 = .ok (.goto 4, 3) := by decide +kernel
theorem d_V_chooseSource_34 : decode b_V_chooseSource 34 = .ok (.iconst 1, 1) := by decide +kernel
theorem d_V_chooseSource_35 : decode b_V_chooseSource 35 = .ok (.ireturn, 1) := by decide +kernel
theorem d_V_chooseSource_36 : decode b_V_chooseSource 36 = .ok (.aload_n 0, 1) := by decide +kernel
theorem d_V_chooseSource_37 : decode b_V_chooseSource 37 = .ok (.getfield 12, 3) := by decide +kernel
theorem d_V_chooseSource_40 : decode b_V_chooseSource 40 = .ok (.getfield 197, 3) := by decide +kernel
theorem d_V_chooseSource_43 : decode b_V_chooseSource 43 = .ok (.aload_n 0, 1) := by decide +kernel
theorem d_V_chooseSource_44 : decode b_V_chooseSource 44 = .ok (.getfield 18, 3) := by decide +kernel
theorem d_V_chooseSource_47 : decode b_V_chooseSource 47 = .ok (.getfield 197, 3) := by decide +kernel
theorem d_V_chooseSource_50 : decode b_V_chooseSource 50 = .ok (.if_icmp .eq 26, 3) := by decide +kernel
theorem d_V_chooseSource_53 : decode b_V_chooseSource 53 = .ok (.aload_n 0, 1) := by decide +kernel
theorem d_V_chooseSource_54 : decode b_V_chooseSource 54 = .ok (.getfield 12, 3) := by decide +kernel
theorem d_V_chooseSource_57 : decode b_V_chooseSource 57 = .ok (.getfield 200, 3) := by decide +kernel
theorem d_V_chooseSource_60 : decode b_V_chooseSource 60 = .ok (.aload_n 0, 1) := by decide +kernel
theorem d_V_chooseSource_61 : decode b_V_chooseSource 61 = .ok (.getfield 18, 3) := by decide +kernel
theorem d_V_chooseSource_64 : decode b_V_chooseSource 64 = .ok (.getfield 197, 3) := by decide +kernel
theorem d_V_chooseSource_67 : decode b_V_chooseSource 67 = .ok (.if_icmp .ne 7, 3) := by decide +kernel
theorem d_V_chooseSource_70 : decode b_V_chooseSource 70 = .ok (.iconst 0, 1) := by decide +kernel
theorem d_V_chooseSource_71 : decode b_V_chooseSource 71 = .ok (.goto 4, 3) := by decide +kernel
theorem d_V_chooseSource_74 : decode b_V_chooseSource 74 = .ok (.iconst 1, 1) := by decide +kernel
theorem d_V_chooseSource_75 : decode b_V_chooseSource 75 = .ok (.ireturn, 1) := by decide +kernel
theorem d_V_chooseSource_76 : decode b_V_chooseSource 76 = .ok (.aload_n 0, 1) := by decide +kernel
theorem d_V_chooseSource_77 : decode b_V_chooseSource 77 = .ok (.getfield 12, 3) := by decide +kernel
theorem d_V_chooseSource_80 : decode b_V_chooseSource 80 = .ok (.getfield 188, 3) := by decide +kernel
theorem d_V_chooseSource_83 : decode b_V_chooseSource 83 = .ok (.ifCond .ne 15, 3) := by decide +kernel
theorem d_V_chooseSource_86 : decode b_V_chooseSource 86 = .ok (.aload_n 0, 1) := by decide +kernel
theorem d_V_chooseSource_87 : decode b_V_chooseSource 87 = .ok (.getfield 18, 3) := by decide +kernel
theorem d_V_chooseSource_90 : decode b_V_chooseSource 90 = .ok (.getfield 188, 3) := by decide +kernel
theorem d_V_chooseSource_93 : decode b_V_chooseSource 93 = .ok (.ifCond .ne 5, 3) := by decide +kernel
theorem d_V_chooseSource_96 : decode b_V_chooseSource 96 = .ok (.iconst (-1), 1) := by decide +kernel
theorem d_V_chooseSource_97 : decode b_V_chooseSource 97 = .ok (.ireturn, 1) := by decide +kernel
theorem d_V_chooseSource_98 : decode b_V_chooseSource 98 = .ok (.aload_n 0, 1) := by decide +kernel
theorem d_V_chooseSource_99 : decode b_V_chooseSource 99 = .ok (.getfield 12, 3) := by decide +kernel
theorem d_V_chooseSource_102 : decode b_V_chooseSource 102 = .ok (.getfield 50, 3) := by decide +kernel
theorem d_V_chooseSource_105 : decode b_V_chooseSource 105 = .ok (.aload_n 0, 1) := by decide +kernel
theorem d_V_chooseSource_106 : decode b_V_chooseSource 106 = .ok (.getfield 18, 3) := by decide +kernel
theorem d_V_chooseSource_109 : decode b_V_chooseSource 109 = .ok (.getfield 50, 3) := by decide +kernel
theorem d_V_chooseSource_112 : decode b_V_chooseSource 112 = .ok (.if_icmp .eq 19, 3) := by decide +kernel
theorem d_V_chooseSource_115 : decode b_V_chooseSource 115 = .ok (.aload_n 0, 1) := by decide +kernel
theorem d_V_chooseSource_116 : decode b_V_chooseSource 116 = .ok (.getfield 12, 3) := by decide +kernel
theorem d_V_chooseSource_119 : decode b_V_chooseSource 119 = .ok (.getfield 50, 3) := by decide +kernel
theorem d_V_chooseSource_122 : decode b_V_chooseSource 122 = .ok (.ifCond .eq 7, 3) := by decide +kernel
theorem d_V_chooseSource_125 : decode b_V_chooseSource 125 = .ok (.iconst 0, 1) := by decide +kernel
theorem d_V_chooseSource_126 : decode b_V_chooseSource 126 = .ok (.goto 4, 3) := by decide +kernel
theorem d_V_chooseSource_129 : decode b_V_chooseSource 129 = .ok (.iconst 1, 1) := by decide +kernel
theorem d_V_chooseSource_130 : decode b_V_chooseSource 130 = .ok (.ireturn, 1) := by decide +kernel
theorem d_V_chooseSource_131 : decode b_V_chooseSource 131 = .ok (.aload_n 0, 1) := by decide +kernel
theorem d_V_chooseSource_132 : decode b_V_chooseSource 132 = .ok (.getfield 12, 3) := by decide +kernel
theorem d_V_chooseSource_135 : decode b_V_chooseSource 135 = .ok (.getfield 188, 3) := by decide +kernel
theorem d_V_chooseSource_138 : decode b_V_chooseSource 138 = .ok (.ifCond .eq 7, 3) := by decide +kernel
theorem d_V_chooseSource_141 : decode b_V_chooseSource 141 = .ok (.iconst 0, 1) := by decide +kernel
theorem d_V_chooseSource_142 : decode b_V_chooseSource 142 = .ok (.goto 4, 3) := by decide +kernel
theorem d_V_chooseSource_145 : decode b_V_chooseSource 145 = .ok (.iconst 1, 1) := by decide +kernel
theorem d_V_chooseSource_146 : decode b_V_chooseSource 146 = .ok (.ireturn, 1) := by decide +kernel
theorem d_V_beginUpdate_0 : decode b_V_beginUpdate 0 = .ok (.aload_n 2, 1) := by decide +kernel
theorem d_V_beginUpdate_1 : decode b_V_beginUpdate 1 = .ok (.getfield 197, 3) := by decide +kernel
theorem d_V_beginUpdate_4 : decode b_V_beginUpdate 4 = .ok (.ifCond .eq 29, 3) := by decide +kernel
theorem d_V_beginUpdate_7 : decode b_V_beginUpdate 7 = .ok (.aload_n 2, 1) := by decide +kernel
theorem d_V_beginUpdate_8 : decode b_V_beginUpdate 8 = .ok (.getfield 197, 3) := by decide +kernel
theorem d_V_beginUpdate_11 : decode b_V_beginUpdate 11 = .ok (.aload_n 1, 1) := by decide +kernel
theorem d_V_beginUpdate_12 : decode b_V_beginUpdate 12 = .ok (.getfield 197, 3) := by decide +kernel
theorem d_V_beginUpdate_15 : decode b_V_beginUpdate 15 = .ok (.if_icmp .eq 14, 3) := by decide +kernel
theorem d_V_beginUpdate_18 : decode b_V_beginUpdate 18 = .ok (.aload_n 2, 1) := by decide +kernel
theorem d_V_beginUpdate_19 : decode b_V_beginUpdate 19 = .ok (.getfield 197, 3) := by decide +kernel
theorem d_V_beginUpdate_22 : decode b_V_beginUpdate 22 = .ok (.aload_n 1, 1) := by decide +kernel
theorem d_V_beginUpdate_23 : decode b_V_beginUpdate 23 = .ok (.getfield 200, 3) := by decide +kernel
theorem d_V_beginUpdate_26 : decode b_V_beginUpdate 26 = .ok (.if_icmp .ne 7, 3) := by decide +kernel
theorem d_V_beginUpdate_29 : decode b_V_beginUpdate 29 = .ok (.iconst 1, 1) := by decide +kernel
theorem d_V_beginUpdate_30 : decode b_V_beginUpdate 30 = .ok (.goto 4, 3) := by decide +kernel
theorem d_V_beginUpdate_33 : decode b_V_beginUpdate 33 = .ok (.iconst 0, 1) := by decide +kernel
theorem d_V_beginUpdate_34 : decode b_V_beginUpdate 34 = .ok (.istore_n 3, 1) := by decide +kernel
theorem d_V_beginUpdate_35 : decode b_V_beginUpdate 35 = .ok (.aload_n 1, 1) := by decide +kernel
theorem d_V_beginUpdate_36 : decode b_V_beginUpdate 36 = .ok (.iload_n 3, 1) := by decide +kernel
theorem d_V_beginUpdate_37 : decode b_V_beginUpdate 37 = .ok (.ifCond .eq 15, 3) := by decide +kernel
theorem d_V_beginUpdate_40 : decode b_V_beginUpdate 40 = .ok (.aload_n 1, 1) := by decide +kernel
theorem d_V_beginUpdate_41 : decode b_V_beginUpdate 41 = .ok (.getfield 166, 3) := by decide +kernel
theorem d_V_beginUpdate_44 : decode b_V_beginUpdate 44 = .ok (.aload_n 2, 1) := by decide +kernel
theorem d_V_beginUpdate_45 : decode b_V_beginUpdate 45 = .ok (.getfield 166, 3) := by decide +kernel
theorem d_V_beginUpdate_48 : decode b_V_beginUpdate 48 = .ok (.ior, 1) := by decide +kernel
theorem d_V_beginUpdate_49 : decode b_V_beginUpdate 49 = .ok (.goto 4, 3) := by decide +kernel
theorem d_V_beginUpdate_52 : decode b_V_beginUpdate 52 = .ok (.iconst (-1), 1) := by decide +kernel
theorem d_V_beginUpdate_53 : decode b_V_beginUpdate 53 = .ok (.putfield 166, 3) := by decide +kernel
theorem d_V_beginUpdate_56 : decode b_V_beginUpdate 56 = .ok (.aload_n 1, 1) := by decide +kernel
theorem d_V_beginUpdate_57 : decode b_V_beginUpdate 57 = .ok (.iconst 1, 1) := by decide +kernel
theorem d_V_beginUpdate_58 : decode b_V_beginUpdate 58 = .ok (.putfield 155, 3) := by decide +kernel
theorem d_V_beginUpdate_61 : decode b_V_beginUpdate 61 = .ok (.aload_n 2, 1) := by decide +kernel
theorem d_V_beginUpdate_62 : decode b_V_beginUpdate 62 = .ok (.iconst 1, 1) := by decide +kernel
theorem d_V_beginUpdate_63 : decode b_V_beginUpdate 63 = .ok (.putfield 209, 3) := by decide +kernel
theorem d_V_beginUpdate_66 : decode b_V_beginUpdate 66 = .ok (.aload_n 2, 1) := by decide +kernel
theorem d_V_beginUpdate_67 : decode b_V_beginUpdate 67 = .ok (.iconst 1, 1) := by decide +kernel
theorem d_V_beginUpdate_68 : decode b_V_beginUpdate 68 = .ok (.putfield 194, 3) := by decide +kernel
theorem d_V_beginUpdate_71 : decode b_V_beginUpdate 71 = .ok (.aload_n 1, 1) := by decide +kernel
theorem d_V_beginUpdate_72 : decode b_V_beginUpdate 72 = .ok (.getfield 166, 3) := by decide +kernel
theorem d_V_beginUpdate_75 : decode b_V_beginUpdate 75 = .ok (.ifCond .ne 8, 3) := by decide +kernel
theorem d_V_beginUpdate_78 : decode b_V_beginUpdate 78 = .ok (.aload_n 0, 1) := by decide +kernel
theorem d_V_beginUpdate_79 : decode b_V_beginUpdate 79 = .ok (.aload_n 1, 1) := by decide +kernel
theorem d_V_beginUpdate_80 : decode b_V_beginUpdate 80 = .ok (.invokevirtual 228, 3) := by decide +kernel
theorem d_V_beginUpdate_83 : decode b_V_beginUpdate 83 = .ok (.return_, 1) := by decide +kernel
theorem d_M_init_0 : decode b_M_init 0 = .ok (.aload_n 0, 1) := by decide +kernel
theorem d_M_init_1 : decode b_M_init 1 = .ok (.invokespecial 1, 3) := by decide +kernel
theorem d_M_init_4 : decode b_M_init 4 = .ok (.aload_n 0, 1) := by decide +kernel
theorem d_M_init_5 : decode b_M_init 5 = .ok (.sipush 301, 3) := by decide +kernel
theorem d_M_init_8 : decode b_M_init 8 = .ok (.newarray .int, 2) := by decide +kernel
theorem d_M_init_10 : decode b_M_init 10 = .ok (.putfield 7, 3) := by decide +kernel
theorem d_M_init_13 : decode b_M_init 13 = .ok (.aload_n 0, 1) := by decide +kernel
theorem d_M_init_14 : decode b_M_init 14 = .ok (.sipush 301, 3) := by decide +kernel
theorem d_M_init_17 : decode b_M_init 17 = .ok (.newarray .int, 2) := by decide +kernel
theorem d_M_init_19 : decode b_M_init 19 = .ok (.putfield 13, 3) := by decide +kernel
theorem d_M_init_22 : decode b_M_init 22 = .ok (.aload_n 0, 1) := by decide +kernel
theorem d_M_init_23 : decode b_M_init 23 = .ok (.sipush 301, 3) := by decide +kernel
theorem d_M_init_26 : decode b_M_init 26 = .ok (.newarray .int, 2) := by decide +kernel
theorem d_M_init_28 : decode b_M_init 28 = .ok (.putfield 16, 3) := by decide +kernel
theorem d_M_init_31 : decode b_M_init 31 = .ok (.aload_n 0, 1) := by decide +kernel
theorem d_M_init_32 : decode b_M_init 32 = .ok (.sipush 301, 3) := by decide +kernel
theorem d_M_init_35 : decode b_M_init 35 = .ok (.newarray .int, 2) := by decide +kernel
theorem d_M_init_37 : decode b_M_init 37 = .ok (.putfield 19, 3) := by decide +kernel
theorem d_M_init_40 : decode b_M_init 40 = .ok (.aload_n 0, 1) := by decide +kernel
theorem d_M_init_41 : decode b_M_init 41 = .ok (.sipush 301, 3) := by decide +kernel
theorem d_M_init_44 : decode b_M_init 44 = .ok (.newarray .int, 2) := by decide +kernel
theorem d_M_init_46 : decode b_M_init 46 = .ok (.putfield 22, 3) := by decide +kernel
theorem d_M_init_49 : decode b_M_init 49 = .ok (.aload_n 0, 1) := by decide +kernel
theorem d_M_init_50 : decode b_M_init 50 = .ok (.sipush 301, 3) := by decide +kernel
theorem d_M_init_53 : decode b_M_init 53 = .ok (.newarray .boolean, 2) := by decide +kernel
theorem d_M_init_55 : decode b_M_init 55 = .ok (.putfield 25, 3) := by decide +kernel
theorem d_M_init_58 : decode b_M_init 58 = .ok (.aload_n 0, 1) := by decide +kernel
theorem d_M_init_59 : decode b_M_init 59 = .ok (.bipush 64, 2) := by decide +kernel
theorem d_M_init_61 : decode b_M_init 61 = .ok (.newarray .int, 2) := by decide +kernel
theorem d_M_init_63 : decode b_M_init 63 = .ok (.putfield 29, 3) := by decide +kernel
theorem d_M_init_66 : decode b_M_init 66 = .ok (.aload_n 0, 1) := by decide +kernel
theorem d_M_init_67 : decode b_M_init 67 = .ok (.bipush 64, 2) := by decide +kernel
theorem d_M_init_69 : decode b_M_init 69 = .ok (.newarray .boolean, 2) := by decide +kernel
theorem d_M_init_71 : decode b_M_init 71 = .ok (.putfield 32, 3) := by decide +kernel
theorem d_M_init_74 : decode b_M_init 74 = .ok (.aload_n 0, 1) := by decide +kernel
theorem d_M_init_75 : decode b_M_init 75 = .ok (.bipush 16, 2) := by decide +kernel
theorem d_M_init_77 : decode b_M_init 77 = .ok (.newarray .boolean, 2) := by decide +kernel
theorem d_M_init_79 : decode b_M_init 79 = .ok (.putfield 35, 3) := by decide +kernel
theorem d_M_init_82 : decode b_M_init 82 = .ok (.aload_n 0, 1) := by decide +kernel
theorem d_M_init_83 : decode b_M_init 83 = .ok (.bipush 16, 2) := by decide +kernel
theorem d_M_init_85 : decode b_M_init 85 = .ok (.newarray .int, 2) := by decide +kernel
theorem d_M_init_87 : decode b_M_init 87 = .ok (.putfield 38, 3) := by decide +kernel
theorem d_M_init_90 : decode b_M_init 90 = .ok (.aload_n 0, 1) := by decide +kernel
theorem d_M_init_91 : decode b_M_init 91 = .ok (.iconst 2, 1) := by decide +kernel
theorem d_M_init_92 : decode b_M_init 92 = .ok (.newarray .int, 2) := by decide +kernel
theorem d_M_init_94 : decode b_M_init 94 = .ok (.putfield 41, 3) := by decide +kernel
theorem d_M_init_97 : decode b_M_init 97 = .ok (.aload_n 0, 1) := by decide +kernel
theorem d_M_init_98 : decode b_M_init 98 = .ok (.iconst 2, 1) := by decide +kernel
theorem d_M_init_99 : decode b_M_init 99 = .ok (.newarray .int, 2) := by decide +kernel
theorem d_M_init_101 : decode b_M_init 101 = .ok (.putfield 44, 3) := by decide +kernel
theorem d_M_init_104 : decode b_M_init 104 = .ok (.aload_n 0, 1) := by decide +kernel
theorem d_M_init_105 : decode b_M_init 105 = .ok (.iconst 1, 1) := by decide +kernel
theorem d_M_init_106 : decode b_M_init 106 = .ok (.putfield 47, 3) := by decide +kernel
theorem d_M_init_109 : decode b_M_init 109 = .ok (.aload_n 0, 1) := by decide +kernel
theorem d_M_init_110 : decode b_M_init 110 = .ok (.iconst 2, 1) := by decide +kernel
theorem d_M_init_111 : decode b_M_init 111 = .ok (.newarray .boolean, 2) := by decide +kernel
theorem d_M_init_113 : decode b_M_init 113 = .ok (.putfield 51, 3) := by decide +kernel
theorem d_M_init_116 : decode b_M_init 116 = .ok (.aload_n 0, 1) := by decide +kernel
theorem d_M_init_117 : decode b_M_init 117 = .ok (.iconst 2, 1) := by decide +kernel
theorem d_M_init_118 : decode b_M_init 118 = .ok (.newarray .boolean, 2) := by decide +kernel
theorem d_M_init_120 : decode b_M_init 120 = .ok (.putfield 54, 3) := by decide +kernel
theorem d_M_init_123 : decode b_M_init 123 = .ok (.aload_n 0, 1) := by decide +kernel
theorem d_M_init_124 : decode b_M_init 124 = .ok (.iconst 2, 1) := by decide +kernel
theorem d_M_init_125 : decode b_M_init 125 = .ok (.newarray .boolean, 2) := by decide +kernel
theorem d_M_init_127 : decode b_M_init 127 = .ok (.putfield 57, 3) := by decide +kernel
theorem d_M_init_130 : decode b_M_init 130 = .ok (.aload_n 0, 1) := by decide +kernel
theorem d_M_init_131 : decode b_M_init 131 = .ok (.iconst 2, 1) := by decide +kernel
theorem d_M_init_132 : decode b_M_init 132 = .ok (.newarray .boolean, 2) := by decide +kernel
theorem d_M_init_134 : decode b_M_init 134 = .ok (.putfield 60, 3) := by decide +kernel
theorem d_M_init_137 : decode b_M_init 137 = .ok (.aload_n 0, 1) := by decide +kernel
theorem d_M_init_138 : decode b_M_init 138 = .ok (.iconst 2, 1) := by decide +kernel
theorem d_M_init_139 : decode b_M_init 139 = .ok (.newarray .boolean, 2) := by decide +kernel
theorem d_M_init_141 : decode b_M_init 141 = .ok (.putfield 63, 3) := by decide +kernel
theorem d_M_init_144 : decode b_M_init 144 = .ok (.aload_n 0, 1) := by decide +kernel
theorem d_M_init_145 : decode b_M_init 145 = .ok (.iconst 2, 1) := by decide +kernel
theorem d_M_init_146 : decode b_M_init 146 = .ok (.newarray .boolean, 2) := by decide +kernel
theorem d_M_init_148 : decode b_M_init 148 = .ok (.putfield 66, 3) := by decide +kernel
theorem d_M_init_151 : decode b_M_init 151 = .ok (.aload_n 0, 1) := by decide +kernel
theorem d_M_init_152 : decode b_M_init 152 = .ok (.iconst 2, 1) := by decide +kernel
theorem d_M_init_153 : decode b_M_init 153 = .ok (.newarray .boolean, 2) := by decide +kernel
theorem d_M_init_155 : decode b_M_init 155 = .ok (.putfield 69, 3) := by decide +kernel
theorem d_M_init_158 : decode b_M_init 158 = .ok (.aload_n 0, 1) := by decide +kernel
theorem d_M_init_159 : decode b_M_init 159 = .ok (.iconst 2, 1) := by decide +kernel
theorem d_M_init_160 : decode b_M_init 160 = .ok (.newarray .int, 2) := by decide +kernel
theorem d_M_init_162 : decode b_M_init 162 = .ok (.putfield 72, 3) := by decide +kernel
theorem d_M_init_165 : decode b_M_init 165 = .ok (.aload_n 0, 1) := by decide +kernel
theorem d_M_init_166 : decode b_M_init 166 = .ok (.sipush 128, 3) := by decide +kernel
theorem d_M_init_169 : decode b_M_init 169 = .ok (.newarray .int, 2) := by decide +kernel
theorem d_M_init_171 : decode b_M_init 171 = .ok (.putfield 75, 3) := by decide +kernel
theorem d_M_init_174 : decode b_M_init 174 = .ok (.aload_n 0, 1) := by decide +kernel
theorem d_M_init_175 : decode b_M_init 175 = .ok (.sipush 128, 3) := by decide +kernel
theorem d_M_init_178 : decode b_M_init 178 = .ok (.newarray .int, 2) := by decide +kernel
theorem d_M_init_180 : decode b_M_init 180 = .ok (.putfield 78, 3) := by decide +kernel
theorem d_M_init_183 : decode b_M_init 183 = .ok (.aload_n 0, 1) := by decide +kernel
theorem d_M_init_184 : decode b_M_init 184 = .ok (.sipush 128, 3) := by decide +kernel
theorem d_M_init_187 : decode b_M_init 187 = .ok (.newarray .int, 2) := by decide +kernel
theorem d_M_init_189 : decode b_M_init 189 = .ok (.putfield 81, 3) := by decide +kernel
theorem d_M_init_192 : decode b_M_init 192 = .ok (.aload_n 0, 1) := by decide +kernel
theorem d_M_init_193 : decode b_M_init 193 = .ok (.iconst 2, 1) := by decide +kernel
theorem d_M_init_194 : decode b_M_init 194 = .ok (.newarray .int, 2) := by decide +kernel
theorem d_M_init_196 : decode b_M_init 196 = .ok (.putfield 84, 3) := by decide +kernel
theorem d_M_init_199 : decode b_M_init 199 = .ok (.iconst 0, 1) := by decide +kernel
theorem d_M_init_200 : decode b_M_init 200 = .ok (.istore_n 1, 1) := by decide +kernel
theorem d_M_init_201 : decode b_M_init 201 = .ok (.iload_n 1, 1) := by decide +kernel
theorem d_M_init_202 : decode b_M_init 202 = .ok (.iconst 2, 1) := by decide +kernel
theorem d_M_init_203 : decode b_M_init 203 = .ok (.if_icmp .ge 23, 3) := by decide +kernel
theorem d_M_init_206 : decode b_M_init 206 = .ok (.aload_n 0, 1) := by decide +kernel
theorem d_M_init_207 : decode b_M_init 207 = .ok (.getfield 41, 3) := by decide +kernel
theorem d_M_init_210 : decode b_M_init 210 = .ok (.iload_n 1, 1) := by decide +kernel
theorem d_M_init_211 : decode b_M_init 211 = .ok (.iconst 1, 1) := by decide +kernel
theorem d_M_init_212 : decode b_M_init 212 = .ok (.iastore, 1) := by decide +kernel
theorem d_M_init_213 : decode b_M_init 213 = .ok (.aload_n 0, 1) := by decide +kernel
theorem d_M_init_214 : decode b_M_init 214 = .ok (.getfield 57, 3) := by decide +kernel
theorem d_M_init_217 : decode b_M_init 217 = .ok (.iload_n 1, 1) := by decide +kernel
theorem d_M_init_218 : decode b_M_init 218 = .ok (.iconst 1, 1) := by decide +kernel
theorem d_M_init_219 : decode b_M_init 219 = .ok (.bastore, 1) := by decide +kernel
theorem d_M_init_220 : decode b_M_init 220 = .ok (.iinc 1 1, 3) := by decide +kernel
theorem d_M_init_223 : decode b_M_init 223 = .ok (.goto (-22), 3) := by decide +kernel
theorem d_M_init_226 : decode b_M_init 226 = .ok (.return_, 1) := by decide +kernel
theorem d_M_isNode_0 : decode b_M_isNode 0 = .ok (.iload_n 0, 1) := by decide +kernel
theorem d_M_isNode_1 : decode b_M_isNode 1 = .ok (.ifCond .eq 8, 3) := by decide +kernel
theorem d_M_isNode_4 : decode b_M_isNode 4 = .ok (.iload_n 0, 1) := by decide +kernel
theorem d_M_isNode_5 : decode b_M_isNode 5 = .ok (.iconst 1, 1) := by decide +kernel
theorem d_M_isNode_6 : decode b_M_isNode 6 = .ok (.if_icmp .ne 7, 3) := by decide +kernel
theorem d_M_isNode_9 : decode b_M_isNode 9 = .ok (.iconst 1, 1) := by decide +kernel
theorem d_M_isNode_10 : decode b_M_isNode 10 = .ok (.goto 4, 3) := by decide +kernel
theorem d_M_isNode_13 : decode b_M_isNode 13 = .ok (.iconst 0, 1) := by decide +kernel
theorem d_M_isNode_14 : decode b_M_isNode 14 = .ok (.ireturn, 1) := by decide +kernel
theorem d_M_isBlock_0 : decode b_M_isBlock 0 = .ok (.iload_n 0, 1) := by decide +kernel
theorem d_M_isBlock_1 : decode b_M_isBlock 1 = .ok (.ifCond .lt 13, 3) := by decide +kernel
theorem d_M_isBlock_4 : decode b_M_isBlock 4 = .ok (.iload_n 0, 1) := by decide +kernel
theorem d_M_isBlock_5 : decode b_M_isBlock 5 = .ok (.bipush 31, 2) := by decide +kernel
theorem d_M_isBlock_7 : decode b_M_isBlock 7 = .ok (.if_icmp .gt 7, 3) := by decide +kernel
theorem d_M_isBlock_10 : decode b_M_isBlock 10 = .ok (.iconst 1, 1) := by decide +kernel
theorem d_M_isBlock_11 : decode b_M_isBlock 11 = .ok (.goto 4, 3) := by decide +kernel
theorem d_M_isBlock_14 : decode b_M_isBlock 14 = .ok (.iconst 0, 1) := by decide +kernel
theorem d_M_isBlock_15 : decode b_M_isBlock 15 = .ok (.ireturn, 1) := by decide +kernel
theorem d_M_pending_0 : decode b_M_pending 0 = .ok (.iconst 0, 1) := by decide +kernel
theorem d_M_pending_1 : decode b_M_pending 1 = .ok (.istore 4, 2) := by decide +kernel
theorem d_M_pending_3 : decode b_M_pending 3 = .ok (.iconst 1, 1) := by decide +kernel
theorem d_M_pending_4 : decode b_M_pending 4 = .ok (.istore 5, 2) := by decide +kernel
theorem d_M_pending_6 : decode b_M_pending 6 = .ok (.iload 5, 2) := by decide +kernel
theorem d_M_pending_8 : decode b_M_pending 8 = .ok (.aload_n 0, 1) := by decide +kernel
theorem d_M_pending_9 : decode b_M_pending 9 = .ok (.getfield 87, 3) := by decide +kernel
theorem d_M_pending_12 : decode b_M_pending 12 = .ok (.if_icmp .gt 56, 3) := by decide +kernel
theorem d_M_pending_15 : decode b_M_pending 15 = .ok (.aload_n 0, 1) := by decide +kernel
theorem d_M_pending_16 : decode b_M_pending 16 = .ok (.getfield 22, 3) := by decide +kernel
theorem d_M_pending_19 : decode b_M_pending 19 = .ok (.iload 5, 2) := by decide +kernel
theorem d_M_pending_21 : decode b_M_pending 21 = .ok (.iaload, 1) := by decide +kernel
theorem d_M_pending_22 : decode b_M_pending 22 = .ok (.iconst 1, 1) := by decide +kernel
theorem d_M_pending_23 : decode b_M_pending 23 = .ok (.if_icmp .ne 39, 3) := by decide +kernel
theorem d_M_pending_26 : decode b_M_pending 26 = .ok (.aload_n 0, 1) := by decide +kernel
theorem d_M_pending_27 : decode b_M_pending 27 = .ok (.getfield 7, 3) := by decide +kernel
theorem d_M_pending_30 : decode b_M_pending 30 = .ok (.iload 5, 2) := by decide +kernel
theorem d_M_pending_32 : decode b_M_pending 32 = .ok (.iaload, 1) := by decide +kernel
theorem d_M_pending_33 : decode b_M_pending 33 = .ok (.iload_n 1, 1) := by decide +kernel
theorem d_M_pending_34 : decode b_M_pending 34 = .ok (.if_icmp .ne 28, 3) := by decide +kernel
theorem d_M_pending_37 : decode b_M_pending 37 = .ok (.aload_n 0, 1) := by decide +kernel
theorem d_M_pending_38 : decode b_M_pending 38 = .ok (.getfield 13, 3) := by decide +kernel
theorem d_M_pending_41 : decode b_M_pending 41 = .ok (.iload 5, 2) := by decide +kernel
theorem d_M_pending_43 : decode b_M_pending 43 = .ok (.iaload, 1) := by decide +kernel
theorem d_M_pending_44 : decode b_M_pending 44 = .ok (.iload_n 2, 1) := by decide +kernel
theorem d_M_pending_45 : decode b_M_pending 45 = .ok (.if_icmp .lt 17, 3) := by decide +kernel
theorem d_M_pending_48 : decode b_M_pending 48 = .ok (.aload_n 0, 1) := by decide +kernel
theorem d_M_pending_49 : decode b_M_pending 49 = .ok (.getfield 13, 3) := by decide +kernel
theorem d_M_pending_52 : decode b_M_pending 52 = .ok (.iload 5, 2) := by decide +kernel
theorem d_M_pending_54 : decode b_M_pending 54 = .ok (.iaload, 1) := by decide +kernel
theorem d_M_pending_55 : decode b_M_pending 55 = .ok (.iload_n 3, 1) := by decide +kernel
theorem d_M_pending_56 : decode b_M_pending 56 = .ok (.if_icmp .gt 6, 3) := by decide +kernel
theorem d_M_pending_59 : decode b_M_pending 59 = .ok (.iinc 4 1, 3) := by decide +kernel
theorem d_M_pending_62 : decode b_M_pending 62 = .ok (.iinc 5 1, 3) := by decide +kernel
theorem d_M_pending_65 : decode b_M_pending 65 = .ok (.goto (-59), 3) := by decide +kernel
theorem d_M_pending_68 : decode b_M_pending 68 = .ok (.iload 4, 2) := by decide +kernel
theorem d_M_pending_70 : decode b_M_pending 70 = .ok (.ireturn, 1) := by decide +kernel
theorem d_M_inLog_0 : decode b_M_inLog 0 = .ok (.iconst 0, 1) := by decide +kernel
theorem d_M_inLog_1 : decode b_M_inLog 1 = .ok (.istore_n 2, 1) := by decide +kernel
theorem d_M_inLog_2 : decode b_M_inLog 2 = .ok (.iconst 0, 1) := by decide +kernel
theorem d_M_inLog_3 : decode b_M_inLog 3 = .ok (.istore_n 3, 1) := by decide +kernel
theorem d_M_inLog_4 : decode b_M_inLog 4 = .ok (.iload_n 3, 1) := by decide +kernel
theorem d_M_inLog_5 : decode b_M_inLog 5 = .ok (.bipush 8, 2) := by decide +kernel
theorem d_M_inLog_7 : decode b_M_inLog 7 = .ok (.if_icmp .ge 31, 3) := by decide +kernel
theorem d_M_inLog_10 : decode b_M_inLog 10 = .ok (.aload_n 0, 1) := by decide +kernel
theorem d_M_inLog_11 : decode b_M_inLog 11 = .ok (.getfield 35, 3) := by decide +kernel
theorem d_M_inLog_14 : decode b_M_inLog 14 = .ok (.bipush 8, 2) := by decide +kernel
theorem d_M_inLog_16 : decode b_M_inLog 16 = .ok (.iload_n 1, 1) := by decide +kernel
theorem d_M_inLog_17 : decode b_M_inLog 17 = .ok (.imul, 1) := by decide +kernel
theorem d_M_inLog_18 : decode b_M_inLog 18 = .ok (.iload_n 3, 1) := by decide +kernel
theorem d_M_inLog_19 : decode b_M_inLog 19 = .ok (.iadd, 1) := by decide +kernel
theorem d_M_inLog_20 : decode b_M_inLog 20 = .ok (.baload, 1) := by decide +kernel
theorem d_M_inLog_21 : decode b_M_inLog 21 = .ok (.ifCond .eq 9, 3) := by decide +kernel
theorem d_M_inLog_24 : decode b_M_inLog 24 = .ok (.iload_n 2, 1) := by decide +kernel
theorem d_M_inLog_25 : decode b_M_inLog 25 = .ok (.iconst 1, 1) := by decide +kernel
theorem d_M_inLog_26 : decode b_M_inLog 26 = .ok (.iadd, 1) := by decide +kernel
theorem d_M_inLog_27 : decode b_M_inLog 27 = .ok (.goto 4, 3) := by decide +kernel
theorem d_M_inLog_30 : decode b_M_inLog 30 = .ok (.iload_n 2, 1) := by decide +kernel
theorem d_M_inLog_31 : decode b_M_inLog 31 = .ok (.istore_n 2, 1) := by decide +kernel
theorem d_M_inLog_32 : decode b_M_inLog 32 = .ok (.iinc 3 1, 3) := by decide +kernel
theorem d_M_inLog_35 : decode b_M_inLog 35 = .ok (.goto (-31), 3) := by decide +kernel
theorem d_M_inLog_38 : decode b_M_inLog 38 = .ok (.iload_n 2, 1) := by decide +kernel
theorem d_M_inLog_39 : decode b_M_inLog 39 = .ok (.ireturn, 1) := by decide +kernel
theorem d_M_idle_0 : decode b_M_idle 0 = .ok (.iconst (-1), 1) := by decide +kernel
theorem d_M_idle_1 : decode b_M_idle 1 = .ok (.istore_n 2, 1) := by decide +kernel
theorem d_M_idle_2 : decode b_M_idle 2 = .ok (.iconst 0, 1) := by decide +kernel
theorem d_M_idle_3 : decode b_M_idle 3 = .ok (.istore_n 3, 1) := by decide +kernel
theorem d_M_idle_4 : decode b_M_idle 4 = .ok (.iload_n 3, 1) := by decide +kernel
theorem d_M_idle_5 : decode b_M_idle 5 = .ok (.bipush 8, 2) := by decide +kernel
theorem d_M_idle_7 : decode b_M_idle 7 = .ok (.if_icmp .ge 70, 3) := by decide +kernel
theorem d_M_idle_10 : decode b_M_idle 10 = .ok (.aload_n 0, 1) := by decide +kernel
theorem d_M_idle_11 : decode b_M_idle 11 = .ok (.getfield 35, 3) := by decide +kernel
theorem d_M_idle_14 : decode b_M_idle 14 = .ok (.bipush 8, 2) := by decide +kernel
theorem d_M_idle_16 : decode b_M_idle 16 = .ok (.iload_n 1, 1) := by decide +kernel
theorem d_M_idle_17 : decode b_M_idle 17 = .ok (.imul, 1) := by decide +kernel
theorem d_M_idle_18 : decode b_M_idle 18 = .ok (.iload_n 3, 1) := by decide +kernel
theorem d_M_idle_19 : decode b_M_idle 19 = .ok (.iadd, 1) := by decide +kernel
theorem d_M_idle_20 : decode b_M_idle 20 = .ok (.baload, 1) := by decide +kernel
theorem d_M_idle_21 : decode b_M_idle 21 = .ok (.ifCond .eq 50, 3) := by decide +kernel
theorem d_M_idle_24 : decode b_M_idle 24 = .ok (.aload_n 0, 1) := by decide +kernel
theorem d_M_idle_25 : decode b_M_idle 25 = .ok (.iload_n 1, 1) := by decide +kernel
theorem d_M_idle_26 : decode b_M_idle 26 = .ok (.iconst 4, 1) := by decide +kernel
theorem d_M_idle_27 : decode b_M_idle 27 = .ok (.iload_n 3, 1) := by decide +kernel
theorem d_M_idle_28 : decode b_M_idle 28 = .ok (.imul, 1) := by decide +kernel
theorem d_M_idle_29 : decode b_M_idle 29 = .ok (.iconst 4, 1) := by decide +kernel
theorem d_M_idle_30 : decode b_M_idle 30 = .ok (.iload_n 3, 1) := by decide +kernel
theorem d_M_idle_31 : decode b_M_idle 31 = .ok (.imul, 1) := by decide +kernel
theorem d_M_idle_32 : decode b_M_idle 32 = .ok (.iconst 3, 1) := by decide +kernel
theorem d_M_idle_33 : decode b_M_idle 33 = .ok (.iadd, 1) := by decide +kernel
theorem d_M_idle_34 : decode b_M_idle 34 = .ok (.invokevirtual 90, 3) := by decide +kernel
theorem d_M_idle_37 : decode b_M_idle 37 = .ok (.ifCond .ne 34, 3) := by decide +kernel
theorem d_M_idle_40 : decode b_M_idle 40 = .ok (.iload_n 2, 1) := by decide +kernel
theorem d_M_idle_41 : decode b_M_idle 41 = .ok (.ifCond .lt 28, 3) := by decide +kernel
theorem d_M_idle_44 : decode b_M_idle 44 = .ok (.aload_n 0, 1) := by decide +kernel
theorem d_M_idle_45 : decode b_M_idle 45 = .ok (.getfield 38, 3) := by decide +kernel
theorem d_M_idle_48 : decode b_M_idle 48 = .ok (.bipush 8, 2) := by decide +kernel
theorem d_M_idle_50 : decode b_M_idle 50 = .ok (.iload_n 1, 1) := by decide +kernel
theorem d_M_idle_51 : decode b_M_idle 51 = .ok (.imul, 1) := by decide +kernel
theorem d_M_idle_52 : decode b_M_idle 52 = .ok (.iload_n 3, 1) := by decide +kernel
theorem d_M_idle_53 : decode b_M_idle 53 = .ok (.iadd, 1) := by decide +kernel
theorem d_M_idle_54 : decode b_M_idle 54 = .ok (.iaload, 1) := by decide +kernel
theorem d_M_idle_55 : decode b_M_idle 55 = .ok (.aload_n 0, 1) := by decide +kernel
theorem d_M_idle_56 : decode b_M_idle 56 = .ok (.getfield 38, 3) := by decide +kernel
end
section
theorem d_M_idle_59 : decode b_M_idle 59 = .ok (.bipush 8, 2) := by decide +kernel
theorem d_M_idle_61 : decode b_M_idle 61 = .ok (.iload_n 1, 1) := by decide +kernel
theorem d_M_idle_62 : decode b_M_idle 62 = .ok (.imul, 1) := by decide +kernel
theorem d_M_idle_63 : decode b_M_idle 63 = .ok (.iload_n 2, 1) := by decide +kernel
theorem d_M_idle_64 : decode b_M_idle 64 = .ok (.iadd, 1) := by decide +kernel
theorem d_M_idle_65 : decode b_M_idle 65 = .ok (.iaload, 1) := by decide +kernel
theorem d_M_idle_66 : decode b_M_idle 66 = .ok (.if_icmp .ge 5, 3) := by decide +kernel
theorem d_M_idle_69 : decode b_M_idle 69 = .ok (.iload_n 3, 1) := by decide +kernel
theorem d_M_idle_70 : decode b_M_idle 70 = .ok (.istore_n 2, 1) := by decide +kernel
theorem d_M_idle_71 : decode b_M_idle 71 = .ok (.iinc 3 1, 3) := by decide +kernel
theorem d_M_idle_74 : decode b_M_idle 74 = .ok (.goto (-70), 3) := by decide +kernel
theorem d_M_idle_77 : decode b_M_idle 77 = .ok (.iload_n 2, 1) := by decide +kernel
theorem d_M_idle_78 : decode b_M_idle 78 = .ok (.ireturn, 1) := by decide +kernel
theorem d_M_nothingInMap_0 : decode b_M_nothingInMap 0 = .ok (.iconst 1, 1) := by decide +kernel
theorem d_M_nothingInMap_1 : decode b_M_nothingInMap 1 = .ok (.istore_n 2, 1) := by decide +kernel
theorem d_M_nothingInMap_2 : decode b_M_nothingInMap 2 = .ok (.iconst 0, 1) := by decide +kernel
theorem d_M_nothingInMap_3 : decode b_M_nothingInMap 3 = .ok (.istore_n 3, 1) := by decide +kernel
theorem d_M_nothingInMap_4 : decode b_M_nothingInMap 4 = .ok (.iload_n 3, 1) := by decide +kernel
theorem d_M_nothingInMap_5 : decode b_M_nothingInMap 5 = .ok (.bipush 32, 2) := by decide +kernel
theorem d_M_nothingInMap_7 : decode b_M_nothingInMap 7 = .ok (.if_icmp .ge 33, 3) := by decide +kernel
theorem d_M_nothingInMap_10 : decode b_M_nothingInMap 10 = .ok (.iload_n 2, 1) := by decide +kernel
theorem d_M_nothingInMap_11 : decode b_M_nothingInMap 11 = .ok (.ifCond .eq 21, 3) := by decide +kernel
theorem d_M_nothingInMap_14 : decode b_M_nothingInMap 14 = .ok (.aload_n 0, 1) := by decide +kernel
theorem d_M_nothingInMap_15 : decode b_M_nothingInMap 15 = .ok (.getfield 32, 3) := by decide +kernel
theorem d_M_nothingInMap_18 : decode b_M_nothingInMap 18 = .ok (.bipush 32, 2) := by decide +kernel
theorem d_M_nothingInMap_20 : decode b_M_nothingInMap 20 = .ok (.iload_n 1, 1) := by decide +kernel
theorem d_M_nothingInMap_21 : decode b_M_nothingInMap 21 = .ok (.imul, 1) := by decide +kernel
theorem d_M_nothingInMap_22 : decode b_M_nothingInMap 22 = .ok (.iload_n 3, 1) := by decide +kernel
theorem d_M_nothingInMap_23 : decode b_M_nothingInMap 23 = .ok (.iadd, 1) := by decide +kernel
theorem d_M_nothingInMap_24 : decode b_M_nothingInMap 24 = .ok (.baload, 1) := by decide +kernel
theorem d_M_nothingInMap_25 : decode b_M_nothingInMap 25 = .ok (.ifCond .ne 7, 3) := by decide +kernel
theorem d_M_nothingInMap_28 : decode b_M_nothingInMap 28 = .ok (.iconst 1, 1) := by decide +kernel
theorem d_M_nothingInMap_29 : decode b_M_nothingInMap 29 = .ok (.goto 4, 3) := by decide +kernel
theorem d_M_nothingInMap_32 : decode b_M_nothingInMap 32 = .ok (.iconst 0, 1) := by decide +kernel
theorem d_M_nothingInMap_33 : decode b_M_nothingInMap 33 = .ok (.istore_n 2, 1) := by decide +kernel
theorem d_M_nothingInMap_34 : decode b_M_nothingInMap 34 = .ok (.iinc 3 1, 3) := by decide +kernel
theorem d_M_nothingInMap_37 : decode b_M_nothingInMap 37 = .ok (.goto (-33), 3) := by decide +kernel
theorem d_M_nothingInMap_40 : decode b_M_nothingInMap 40 = .ok (.iload_n 2, 1) := by decide +kernel
theorem d_M_nothingInMap_41 : decode b_M_nothingInMap 41 = .ok (.ireturn, 1) := by decide +kernel
theorem d_M_onTheWay_0 : decode b_M_onTheWay 0 = .ok (.iconst 0, 1) := by decide +kernel
theorem d_M_onTheWay_1 : decode b_M_onTheWay 1 = .ok (.istore 4, 2) := by decide +kernel
theorem d_M_onTheWay_3 : decode b_M_onTheWay 3 = .ok (.bipush 64, 2) := by decide +kernel
theorem d_M_onTheWay_5 : decode b_M_onTheWay 5 = .ok (.iload_n 1, 1) := by decide +kernel
theorem d_M_onTheWay_6 : decode b_M_onTheWay 6 = .ok (.imul, 1) := by decide +kernel
theorem d_M_onTheWay_7 : decode b_M_onTheWay 7 = .ok (.istore 5, 2) := by decide +kernel
theorem d_M_onTheWay_9 : decode b_M_onTheWay 9 = .ok (.iload 5, 2) := by decide +kernel
theorem d_M_onTheWay_11 : decode b_M_onTheWay 11 = .ok (.bipush 64, 2) := by decide +kernel
theorem d_M_onTheWay_13 : decode b_M_onTheWay 13 = .ok (.iload_n 1, 1) := by decide +kernel
theorem d_M_onTheWay_14 : decode b_M_onTheWay 14 = .ok (.imul, 1) := by decide +kernel
theorem d_M_onTheWay_15 : decode b_M_onTheWay 15 = .ok (.aload_n 0, 1) := by decide +kernel
theorem d_M_onTheWay_16 : decode b_M_onTheWay 16 = .ok (.getfield 84, 3) := by decide +kernel
theorem d_M_onTheWay_19 : decode b_M_onTheWay 19 = .ok (.iload_n 1, 1) := by decide +kernel
theorem d_M_onTheWay_20 : decode b_M_onTheWay 20 = .ok (.iaload, 1) := by decide +kernel
theorem d_M_onTheWay_21 : decode b_M_onTheWay 21 = .ok (.iadd, 1) := by decide +kernel
theorem d_M_onTheWay_22 : decode b_M_onTheWay 22 = .ok (.if_icmp .ge 38, 3) := by decide +kernel
theorem d_M_onTheWay_25 : decode b_M_onTheWay 25 = .ok (.aload_n 0, 1) := by decide +kernel
theorem d_M_onTheWay_26 : decode b_M_onTheWay 26 = .ok (.getfield 75, 3) := by decide +kernel
theorem d_M_onTheWay_29 : decode b_M_onTheWay 29 = .ok (.iload 5, 2) := by decide +kernel
theorem d_M_onTheWay_31 : decode b_M_onTheWay 31 = .ok (.iaload, 1) := by decide +kernel
theorem d_M_onTheWay_32 : decode b_M_onTheWay 32 = .ok (.iload_n 2, 1) := by decide +kernel
theorem d_M_onTheWay_33 : decode b_M_onTheWay 33 = .ok (.if_icmp .ne 21, 3) := by decide +kernel
theorem d_M_onTheWay_36 : decode b_M_onTheWay 36 = .ok (.iload_n 3, 1) := by decide +kernel
theorem d_M_onTheWay_37 : decode b_M_onTheWay 37 = .ok (.ifCond .lt 14, 3) := by decide +kernel
theorem d_M_onTheWay_40 : decode b_M_onTheWay 40 = .ok (.aload_n 0, 1) := by decide +kernel
theorem d_M_onTheWay_41 : decode b_M_onTheWay 41 = .ok (.getfield 78, 3) := by decide +kernel
theorem d_M_onTheWay_44 : decode b_M_onTheWay 44 = .ok (.iload 5, 2) := by decide +kernel
theorem d_M_onTheWay_46 : decode b_M_onTheWay 46 = .ok (.iaload, 1) := by decide +kernel
theorem d_M_onTheWay_47 : decode b_M_onTheWay 47 = .ok (.iload_n 3, 1) := by decide +kernel
theorem d_M_onTheWay_48 : decode b_M_onTheWay 48 = .ok (.if_icmp .ne 6, 3) := by decide +kernel
theorem d_M_onTheWay_51 : decode b_M_onTheWay 51 = .ok (.iinc 4 1, 3) := by decide +kernel
theorem d_M_onTheWay_54 : decode b_M_onTheWay 54 = .ok (.iinc 5 1, 3) := by decide +kernel
theorem d_M_onTheWay_57 : decode b_M_onTheWay 57 = .ok (.goto (-48), 3) := by decide +kernel
theorem d_M_onTheWay_60 : decode b_M_onTheWay 60 = .ok (.iload 4, 2) := by decide +kernel
theorem d_M_onTheWay_62 : decode b_M_onTheWay 62 = .ok (.ireturn, 1) := by decide +kernel
theorem d_M_underWay_0 : decode b_M_underWay 0 = .ok (.aload_n 0, 1) := by decide +kernel
theorem d_M_underWay_1 : decode b_M_underWay 1 = .ok (.iload_n 1, 1) := by decide +kernel
theorem d_M_underWay_2 : decode b_M_underWay 2 = .ok (.iconst 3, 1) := by decide +kernel
theorem d_M_underWay_3 : decode b_M_underWay 3 = .ok (.iload_n 2, 1) := by decide +kernel
theorem d_M_underWay_4 : decode b_M_underWay 4 = .ok (.invokevirtual 94, 3) := by decide +kernel
theorem d_M_underWay_7 : decode b_M_underWay 7 = .ok (.aload_n 0, 1) := by decide +kernel
theorem d_M_underWay_8 : decode b_M_underWay 8 = .ok (.iconst 1, 1) := by decide +kernel
theorem d_M_underWay_9 : decode b_M_underWay 9 = .ok (.iload_n 1, 1) := by decide +kernel
theorem d_M_underWay_10 : decode b_M_underWay 10 = .ok (.isub, 1) := by decide +kernel
theorem d_M_underWay_11 : decode b_M_underWay 11 = .ok (.iconst 4, 1) := by decide +kernel
theorem d_M_underWay_12 : decode b_M_underWay 12 = .ok (.iload_n 2, 1) := by decide +kernel
theorem d_M_underWay_13 : decode b_M_underWay 13 = .ok (.invokevirtual 94, 3) := by decide +kernel
theorem d_M_underWay_16 : decode b_M_underWay 16 = .ok (.iadd, 1) := by decide +kernel
theorem d_M_underWay_17 : decode b_M_underWay 17 = .ok (.ireturn, 1) := by decide +kernel
theorem d_M_send_0 : decode b_M_send 0 = .ok (.bipush 64, 2) := by decide +kernel
theorem d_M_send_2 : decode b_M_send 2 = .ok (.iload_n 1, 1) := by decide +kernel
theorem d_M_send_3 : decode b_M_send 3 = .ok (.imul, 1) := by decide +kernel
theorem d_M_send_4 : decode b_M_send 4 = .ok (.aload_n 0, 1) := by decide +kernel
theorem d_M_send_5 : decode b_M_send 5 = .ok (.getfield 84, 3) := by decide +kernel
theorem d_M_send_8 : decode b_M_send 8 = .ok (.iload_n 1, 1) := by decide +kernel
theorem d_M_send_9 : decode b_M_send 9 = .ok (.iaload, 1) := by decide +kernel
theorem d_M_send_10 : decode b_M_send 10 = .ok (.iadd, 1) := by decide +kernel
theorem d_M_send_11 : decode b_M_send 11 = .ok (.istore 5, 2) := by decide +kernel
theorem d_M_send_13 : decode b_M_send 13 = .ok (.aload_n 0, 1) := by decide +kernel
theorem d_M_send_14 : decode b_M_send 14 = .ok (.getfield 75, 3) := by decide +kernel
theorem d_M_send_17 : decode b_M_send 17 = .ok (.iload 5, 2) := by decide +kernel
theorem d_M_send_19 : decode b_M_send 19 = .ok (.iload_n 2, 1) := by decide +kernel
theorem d_M_send_20 : decode b_M_send 20 = .ok (.iastore, 1) := by decide +kernel
theorem d_M_send_21 : decode b_M_send 21 = .ok (.aload_n 0, 1) := by decide +kernel
theorem d_M_send_22 : decode b_M_send 22 = .ok (.getfield 78, 3) := by decide +kernel
theorem d_M_send_25 : decode b_M_send 25 = .ok (.iload 5, 2) := by decide +kernel
theorem d_M_send_27 : decode b_M_send 27 = .ok (.iload_n 3, 1) := by decide +kernel
theorem d_M_send_28 : decode b_M_send 28 = .ok (.iastore, 1) := by decide +kernel
theorem d_M_send_29 : decode b_M_send 29 = .ok (.aload_n 0, 1) := by decide +kernel
theorem d_M_send_30 : decode b_M_send 30 = .ok (.getfield 81, 3) := by decide +kernel
theorem d_M_send_33 : decode b_M_send 33 = .ok (.iload 5, 2) := by decide +kernel
theorem d_M_send_35 : decode b_M_send 35 = .ok (.iload 4, 2) := by decide +kernel
theorem d_M_send_37 : decode b_M_send 37 = .ok (.iastore, 1) := by decide +kernel
theorem d_M_send_38 : decode b_M_send 38 = .ok (.aload_n 0, 1) := by decide +kernel
theorem d_M_send_39 : decode b_M_send 39 = .ok (.getfield 84, 3) := by decide +kernel
theorem d_M_send_42 : decode b_M_send 42 = .ok (.iload_n 1, 1) := by decide +kernel
theorem d_M_send_43 : decode b_M_send 43 = .ok (.dup2, 1) := by decide +kernel
theorem d_M_send_44 : decode b_M_send 44 = .ok (.iaload, 1) := by decide +kernel
theorem d_M_send_45 : decode b_M_send 45 = .ok (.iconst 1, 1) := by decide +kernel
theorem d_M_send_46 : decode b_M_send 46 = .ok (.iadd, 1) := by decide +kernel
theorem d_M_send_47 : decode b_M_send 47 = .ok (.iastore, 1) := by decide +kernel
theorem d_M_send_48 : decode b_M_send 48 = .ok (.return_, 1) := by decide +kernel
theorem d_M_alone_0 : decode b_M_alone 0 = .ok (.aload_n 0, 1) := by decide +kernel
theorem d_M_alone_1 : decode b_M_alone 1 = .ok (.getfield 7, 3) := by decide +kernel
theorem d_M_alone_4 : decode b_M_alone 4 = .ok (.iload_n 1, 1) := by decide +kernel
theorem d_M_alone_5 : decode b_M_alone 5 = .ok (.iaload, 1) := by decide +kernel
theorem d_M_alone_6 : decode b_M_alone 6 = .ok (.istore_n 2, 1) := by decide +kernel
theorem d_M_alone_7 : decode b_M_alone 7 = .ok (.aload_n 0, 1) := by decide +kernel
theorem d_M_alone_8 : decode b_M_alone 8 = .ok (.getfield 22, 3) := by decide +kernel
theorem d_M_alone_11 : decode b_M_alone 11 = .ok (.iload_n 1, 1) := by decide +kernel
theorem d_M_alone_12 : decode b_M_alone 12 = .ok (.iconst 3, 1) := by decide +kernel
theorem d_M_alone_13 : decode b_M_alone 13 = .ok (.iastore, 1) := by decide +kernel
theorem d_M_alone_14 : decode b_M_alone 14 = .ok (.aload_n 0, 1) := by decide +kernel
theorem d_M_alone_15 : decode b_M_alone 15 = .ok (.getfield 32, 3) := by decide +kernel
theorem d_M_alone_18 : decode b_M_alone 18 = .ok (.bipush 32, 2) := by decide +kernel
theorem d_M_alone_20 : decode b_M_alone 20 = .ok (.iload_n 2, 1) := by decide +kernel
theorem d_M_alone_21 : decode b_M_alone 21 = .ok (.imul, 1) := by decide +kernel
theorem d_M_alone_22 : decode b_M_alone 22 = .ok (.aload_n 0, 1) := by decide +kernel
theorem d_M_alone_23 : decode b_M_alone 23 = .ok (.getfield 13, 3) := by decide +kernel
theorem d_M_alone_26 : decode b_M_alone 26 = .ok (.iload_n 1, 1) := by decide +kernel
theorem d_M_alone_27 : decode b_M_alone 27 = .ok (.iaload, 1) := by decide +kernel
theorem d_M_alone_28 : decode b_M_alone 28 = .ok (.iadd, 1) := by decide +kernel
theorem d_M_alone_29 : decode b_M_alone 29 = .ok (.iconst 1, 1) := by decide +kernel
theorem d_M_alone_30 : decode b_M_alone 30 = .ok (.bastore, 1) := by decide +kernel
theorem d_M_alone_31 : decode b_M_alone 31 = .ok (.aload_n 0, 1) := by decide +kernel
theorem d_M_alone_32 : decode b_M_alone 32 = .ok (.getfield 44, 3) := by decide +kernel
theorem d_M_alone_35 : decode b_M_alone 35 = .ok (.iload_n 2, 1) := by decide +kernel
theorem d_M_alone_36 : decode b_M_alone 36 = .ok (.iaload, 1) := by decide +kernel
theorem d_M_alone_37 : decode b_M_alone 37 = .ok (.ifCond .ne 35, 3) := by decide +kernel
theorem d_M_alone_40 : decode b_M_alone 40 = .ok (.aload_n 0, 1) := by decide +kernel
theorem d_M_alone_41 : decode b_M_alone 41 = .ok (.getfield 44, 3) := by decide +kernel
theorem d_M_alone_44 : decode b_M_alone 44 = .ok (.iload_n 2, 1) := by decide +kernel
theorem d_M_alone_45 : decode b_M_alone 45 = .ok (.aload_n 0, 1) := by decide +kernel
theorem d_M_alone_46 : decode b_M_alone 46 = .ok (.getfield 41, 3) := by decide +kernel
theorem d_M_alone_49 : decode b_M_alone 49 = .ok (.iload_n 2, 1) := by decide +kernel
theorem d_M_alone_50 : decode b_M_alone 50 = .ok (.iaload, 1) := by decide +kernel
theorem d_M_alone_51 : decode b_M_alone 51 = .ok (.iastore, 1) := by decide +kernel
theorem d_M_alone_52 : decode b_M_alone 52 = .ok (.aload_n 0, 1) := by decide +kernel
theorem d_M_alone_53 : decode b_M_alone 53 = .ok (.dup, 1) := by decide +kernel
theorem d_M_alone_54 : decode b_M_alone 54 = .ok (.getfield 47, 3) := by decide +kernel
theorem d_M_alone_57 : decode b_M_alone 57 = .ok (.iconst 1, 1) := by decide +kernel
theorem d_M_alone_58 : decode b_M_alone 58 = .ok (.iadd, 1) := by decide +kernel
theorem d_M_alone_59 : decode b_M_alone 59 = .ok (.putfield 47, 3) := by decide +kernel
theorem d_M_alone_62 : decode b_M_alone 62 = .ok (.aload_n 0, 1) := by decide +kernel
theorem d_M_alone_63 : decode b_M_alone 63 = .ok (.getfield 41, 3) := by decide +kernel
theorem d_M_alone_66 : decode b_M_alone 66 = .ok (.iload_n 2, 1) := by decide +kernel
theorem d_M_alone_67 : decode b_M_alone 67 = .ok (.aload_n 0, 1) := by decide +kernel
theorem d_M_alone_68 : decode b_M_alone 68 = .ok (.getfield 47, 3) := by decide +kernel
theorem d_M_alone_71 : decode b_M_alone 71 = .ok (.iastore, 1) := by decide +kernel
theorem d_M_alone_72 : decode b_M_alone 72 = .ok (.return_, 1) := by decide +kernel
theorem d_M_turnInto_0 : decode b_M_turnInto 0 = .ok (.iconst 1, 1) := by decide +kernel
theorem d_M_turnInto_1 : decode b_M_turnInto 1 = .ok (.istore 4, 2) := by decide +kernel
theorem d_M_turnInto_3 : decode b_M_turnInto 3 = .ok (.iload 4, 2) := by decide +kernel
theorem d_M_turnInto_5 : decode b_M_turnInto 5 = .ok (.aload_n 0, 1) := by decide +kernel
theorem d_M_turnInto_6 : decode b_M_turnInto 6 = .ok (.getfield 87, 3) := by decide +kernel
theorem d_M_turnInto_9 : decode b_M_turnInto 9 = .ok (.if_icmp .gt 39, 3) := by decide +kernel
theorem d_M_turnInto_12 : decode b_M_turnInto 12 = .ok (.aload_n 0, 1) := by decide +kernel
theorem d_M_turnInto_13 : decode b_M_turnInto 13 = .ok (.getfield 7, 3) := by decide +kernel
theorem d_M_turnInto_16 : decode b_M_turnInto 16 = .ok (.iload 4, 2) := by decide +kernel
theorem d_M_turnInto_18 : decode b_M_turnInto 18 = .ok (.iaload, 1) := by decide +kernel
theorem d_M_turnInto_19 : decode b_M_turnInto 19 = .ok (.iload_n 1, 1) := by decide +kernel
theorem d_M_turnInto_20 : decode b_M_turnInto 20 = .ok (.if_icmp .ne 22, 3) := by decide +kernel
theorem d_M_turnInto_23 : decode b_M_turnInto 23 = .ok (.aload_n 0, 1) := by decide +kernel
theorem d_M_turnInto_24 : decode b_M_turnInto 24 = .ok (.getfield 22, 3) := by decide +kernel
theorem d_M_turnInto_27 : decode b_M_turnInto 27 = .ok (.iload 4, 2) := by decide +kernel
theorem d_M_turnInto_29 : decode b_M_turnInto 29 = .ok (.iaload, 1) := by decide +kernel
theorem d_M_turnInto_30 : decode b_M_turnInto 30 = .ok (.iload_n 2, 1) := by decide +kernel
theorem d_M_turnInto_31 : decode b_M_turnInto 31 = .ok (.if_icmp .ne 11, 3) := by decide +kernel
theorem d_M_turnInto_34 : decode b_M_turnInto 34 = .ok (.aload_n 0, 1) := by decide +kernel
theorem d_M_turnInto_35 : decode b_M_turnInto 35 = .ok (.getfield 22, 3) := by decide +kernel
theorem d_M_turnInto_38 : decode b_M_turnInto 38 = .ok (.iload 4, 2) := by decide +kernel
theorem d_M_turnInto_40 : decode b_M_turnInto 40 = .ok (.iload_n 3, 1) := by decide +kernel
theorem d_M_turnInto_41 : decode b_M_turnInto 41 = .ok (.iastore, 1) := by decide +kernel
theorem d_M_turnInto_42 : decode b_M_turnInto 42 = .ok (.iinc 4 1, 3) := by decide +kernel
theorem d_M_turnInto_45 : decode b_M_turnInto 45 = .ok (.goto (-42), 3) := by decide +kernel
theorem d_M_turnInto_48 : decode b_M_turnInto 48 = .ok (.return_, 1) := by decide +kernel
theorem d_M_endIfEmpty_0 : decode b_M_endIfEmpty 0 = .ok (.aload_n 0, 1) := by decide +kernel
theorem d_M_endIfEmpty_1 : decode b_M_endIfEmpty 1 = .ok (.iload_n 1, 1) := by decide +kernel
theorem d_M_endIfEmpty_2 : decode b_M_endIfEmpty 2 = .ok (.invokevirtual 97, 3) := by decide +kernel
theorem d_M_endIfEmpty_5 : decode b_M_endIfEmpty 5 = .ok (.ifCond .ne 4, 3) := by decide +kernel
theorem d_M_endIfEmpty_8 : decode b_M_endIfEmpty 8 = .ok (.return_, 1) := by decide +kernel
theorem d_M_endIfEmpty_9 : decode b_M_endIfEmpty 9 = .ok (.aload_n 0, 1) := by decide +kernel
theorem d_M_endIfEmpty_10 : decode b_M_endIfEmpty 10 = .ok (.getfield 63, 3) := by decide +kernel
theorem d_M_endIfEmpty_13 : decode b_M_endIfEmpty 13 = .ok (.iload_n 1, 1) := by decide +kernel
theorem d_M_endIfEmpty_14 : decode b_M_endIfEmpty 14 = .ok (.iconst 0, 1) := by decide +kernel
theorem d_M_endIfEmpty_15 : decode b_M_endIfEmpty 15 = .ok (.bastore, 1) := by decide +kernel
theorem d_M_endIfEmpty_16 : decode b_M_endIfEmpty 16 = .ok (.aload_n 0, 1) := by decide +kernel
theorem d_M_endIfEmpty_17 : decode b_M_endIfEmpty 17 = .ok (.getfield 54, 3) := by decide +kernel
theorem d_M_endIfEmpty_20 : decode b_M_endIfEmpty 20 = .ok (.iload_n 1, 1) := by decide +kernel
theorem d_M_endIfEmpty_21 : decode b_M_endIfEmpty 21 = .ok (.iconst 0, 1) := by decide +kernel
theorem d_M_endIfEmpty_22 : decode b_M_endIfEmpty 22 = .ok (.bastore, 1) := by decide +kernel
theorem d_M_endIfEmpty_23 : decode b_M_endIfEmpty 23 = .ok (.aload_n 0, 1) := by decide +kernel
theorem d_M_endIfEmpty_24 : decode b_M_endIfEmpty 24 = .ok (.getfield 44, 3) := by decide +kernel
theorem d_M_endIfEmpty_27 : decode b_M_endIfEmpty 27 = .ok (.iload_n 1, 1) := by decide +kernel
theorem d_M_endIfEmpty_28 : decode b_M_endIfEmpty 28 = .ok (.iconst 0, 1) := by decide +kernel
theorem d_M_endIfEmpty_29 : decode b_M_endIfEmpty 29 = .ok (.iastore, 1) := by decide +kernel
theorem d_M_endIfEmpty_30 : decode b_M_endIfEmpty 30 = .ok (.aload_n 0, 1) := by decide +kernel
theorem d_M_endIfEmpty_31 : decode b_M_endIfEmpty 31 = .ok (.iload_n 1, 1) := by decide +kernel
theorem d_M_endIfEmpty_32 : decode b_M_endIfEmpty 32 = .ok (.iconst 3, 1) := by decide +kernel
theorem d_M_endIfEmpty_33 : decode b_M_endIfEmpty 33 = .ok (.iconst 2, 1) := by decide +kernel
theorem d_M_endIfEmpty_34 : decode b_M_endIfEmpty 34 = .ok (.invokevirtual 101, 3) := by decide +kernel
theorem d_M_endIfEmpty_37 : decode b_M_endIfEmpty 37 = .ok (.aload_n 0, 1) := by decide +kernel
theorem d_M_endIfEmpty_38 : decode b_M_endIfEmpty 38 = .ok (.iload_n 1, 1) := by decide +kernel
theorem d_M_endIfEmpty_39 : decode b_M_endIfEmpty 39 = .ok (.iconst 5, 1) := by decide +kernel
theorem d_M_endIfEmpty_40 : decode b_M_endIfEmpty 40 = .ok (.aload_n 0, 1) := by decide +kernel
theorem d_M_endIfEmpty_41 : decode b_M_endIfEmpty 41 = .ok (.getfield 41, 3) := by decide +kernel
theorem d_M_endIfEmpty_44 : decode b_M_endIfEmpty 44 = .ok (.iload_n 1, 1) := by decide +kernel
theorem d_M_endIfEmpty_45 : decode b_M_endIfEmpty 45 = .ok (.iaload, 1) := by decide +kernel
theorem d_M_endIfEmpty_46 : decode b_M_endIfEmpty 46 = .ok (.iconst 0, 1) := by decide +kernel
theorem d_M_endIfEmpty_47 : decode b_M_endIfEmpty 47 = .ok (.invokevirtual 105, 3) := by decide +kernel
theorem d_M_endIfEmpty_50 : decode b_M_endIfEmpty 50 = .ok (.return_, 1) := by decide +kernel
theorem d_M_breakLink_0 : decode b_M_breakLink 0 = .ok (.aload_n 0, 1) := by decide +kernel
theorem d_M_breakLink_1 : decode b_M_breakLink 1 = .ok (.iconst 0, 1) := by decide +kernel
theorem d_M_breakLink_2 : decode b_M_breakLink 2 = .ok (.putfield 109, 3) := by decide +kernel
theorem d_M_breakLink_5 : decode b_M_breakLink 5 = .ok (.iconst 0, 1) := by decide +kernel
theorem d_M_breakLink_6 : decode b_M_breakLink 6 = .ok (.istore_n 1, 1) := by decide +kernel
theorem d_M_breakLink_7 : decode b_M_breakLink 7 = .ok (.iload_n 1, 1) := by decide +kernel
theorem d_M_breakLink_8 : decode b_M_breakLink 8 = .ok (.iconst 2, 1) := by decide +kernel
theorem d_M_breakLink_9 : decode b_M_breakLink 9 = .ok (.if_icmp .ge 30, 3) := by decide +kernel
theorem d_M_breakLink_12 : decode b_M_breakLink 12 = .ok (.aload_n 0, 1) := by decide +kernel
theorem d_M_breakLink_13 : decode b_M_breakLink 13 = .ok (.getfield 84, 3) := by decide +kernel
theorem d_M_breakLink_16 : decode b_M_breakLink 16 = .ok (.iload_n 1, 1) := by decide +kernel
theorem d_M_breakLink_17 : decode b_M_breakLink 17 = .ok (.iconst 0, 1) := by decide +kernel
theorem d_M_breakLink_18 : decode b_M_breakLink 18 = .ok (.iastore, 1) := by decide +kernel
theorem d_M_breakLink_19 : decode b_M_breakLink 19 = .ok (.aload_n 0, 1) := by decide +kernel
theorem d_M_breakLink_20 : decode b_M_breakLink 20 = .ok (.getfield 63, 3) := by decide +kernel
theorem d_M_breakLink_23 : decode b_M_breakLink 23 = .ok (.iload_n 1, 1) := by decide +kernel
theorem d_M_breakLink_24 : decode b_M_breakLink 24 = .ok (.iconst 0, 1) := by decide +kernel
theorem d_M_breakLink_25 : decode b_M_breakLink 25 = .ok (.bastore, 1) := by decide +kernel
theorem d_M_breakLink_26 : decode b_M_breakLink 26 = .ok (.aload_n 0, 1) := by decide +kernel
theorem d_M_breakLink_27 : decode b_M_breakLink 27 = .ok (.getfield 66, 3) := by decide +kernel
theorem d_M_breakLink_30 : decode b_M_breakLink 30 = .ok (.iload_n 1, 1) := by decide +kernel
theorem d_M_breakLink_31 : decode b_M_breakLink 31 = .ok (.iconst 0, 1) := by decide +kernel
theorem d_M_breakLink_32 : decode b_M_breakLink 32 = .ok (.bastore, 1) := by decide +kernel
theorem d_M_breakLink_33 : decode b_M_breakLink 33 = .ok (.iinc 1 1, 3) := by decide +kernel
theorem d_M_breakLink_36 : decode b_M_breakLink 36 = .ok (.goto (-29), 3) := by decide +kernel
theorem d_M_breakLink_39 : decode b_M_breakLink 39 = .ok (.iconst 1, 1) := by decide +kernel
theorem d_M_breakLink_40 : decode b_M_breakLink 40 = .ok (.istore_n 1, 1) := by decide +kernel
theorem d_M_breakLink_41 : decode b_M_breakLink 41 = .ok (.iload_n 1, 1) := by decide +kernel
theorem d_M_breakLink_42 : decode b_M_breakLink 42 = .ok (.aload_n 0, 1) := by decide +kernel
theorem d_M_breakLink_43 : decode b_M_breakLink 43 = .ok (.getfield 87, 3) := by decide +kernel
theorem d_M_breakLink_46 : decode b_M_breakLink 46 = .ok (.if_icmp .gt 31, 3) := by decide +kernel
theorem d_M_breakLink_49 : decode b_M_breakLink 49 = .ok (.aload_n 0, 1) := by decide +kernel
theorem d_M_breakLink_50 : decode b_M_breakLink 50 = .ok (.getfield 25, 3) := by decide +kernel
theorem d_M_breakLink_53 : decode b_M_breakLink 53 = .ok (.iload_n 1, 1) := by decide +kernel
theorem d_M_breakLink_54 : decode b_M_breakLink 54 = .ok (.iconst 0, 1) := by decide +kernel
theorem d_M_breakLink_55 : decode b_M_breakLink 55 = .ok (.bastore, 1) := by decide +kernel
theorem d_M_breakLink_56 : decode b_M_breakLink 56 = .ok (.aload_n 0, 1) := by decide +kernel
theorem d_M_breakLink_57 : decode b_M_breakLink 57 = .ok (.getfield 22, 3) := by decide +kernel
theorem d_M_breakLink_60 : decode b_M_breakLink 60 = .ok (.iload_n 1, 1) := by decide +kernel
theorem d_M_breakLink_61 : decode b_M_breakLink 61 = .ok (.iaload, 1) := by decide +kernel
theorem d_M_breakLink_62 : decode b_M_breakLink 62 = .ok (.iconst 1, 1) := by decide +kernel
theorem d_M_breakLink_63 : decode b_M_breakLink 63 = .ok (.if_icmp .ne 8, 3) := by decide +kernel
theorem d_M_breakLink_66 : decode b_M_breakLink 66 = .ok (.aload_n 0, 1) := by decide +kernel
theorem d_M_breakLink_67 : decode b_M_breakLink 67 = .ok (.iload_n 1, 1) := by decide +kernel
theorem d_M_breakLink_68 : decode b_M_breakLink 68 = .ok (.invokevirtual 113, 3) := by decide +kernel
theorem d_M_breakLink_71 : decode b_M_breakLink 71 = .ok (.iinc 1 1, 3) := by decide +kernel
theorem d_M_breakLink_74 : decode b_M_breakLink 74 = .ok (.goto (-33), 3) := by decide +kernel
theorem d_M_breakLink_77 : decode b_M_breakLink 77 = .ok (.return_, 1) := by decide +kernel
theorem d_M_write_0 : decode b_M_write 0 = .ok (.iload_n 1, 1) := by decide +kernel
theorem d_M_write_1 : decode b_M_write 1 = .ok (.invokestatic 117, 3) := by decide +kernel
theorem d_M_write_4 : decode b_M_write 4 = .ok (.ifCond .eq 10, 3) := by decide +kernel
theorem d_M_write_7 : decode b_M_write 7 = .ok (.iload_n 2, 1) := by decide +kernel
theorem d_M_write_8 : decode b_M_write 8 = .ok (.invokestatic 120, 3) := by decide +kernel
theorem d_M_write_11 : decode b_M_write 11 = .ok (.ifCond .ne 5, 3) := by decide +kernel
theorem d_M_write_14 : decode b_M_write 14 = .ok (.iconst (-1), 1) := by decide +kernel
theorem d_M_write_15 : decode b_M_write 15 = .ok (.ireturn, 1) := by decide +kernel
theorem d_M_write_16 : decode b_M_write 16 = .ok (.aload_n 0, 1) := by decide +kernel
theorem d_M_write_17 : decode b_M_write 17 = .ok (.getfield 57, 3) := by decide +kernel
theorem d_M_write_20 : decode b_M_write 20 = .ok (.iload_n 1, 1) := by decide +kernel
theorem d_M_write_21 : decode b_M_write 21 = .ok (.baload, 1) := by decide +kernel
theorem d_M_write_22 : decode b_M_write 22 = .ok (.ifCond .ne 6, 3) := by decide +kernel
theorem d_M_write_25 : decode b_M_write 25 = .ok (.bipush (-2), 2) := by decide +kernel
theorem d_M_write_27 : decode b_M_write 27 = .ok (.ireturn, 1) := by decide +kernel
theorem d_M_write_28 : decode b_M_write 28 = .ok (.aload_n 0, 1) := by decide +kernel
theorem d_M_write_29 : decode b_M_write 29 = .ok (.getfield 60, 3) := by decide +kernel
theorem d_M_write_32 : decode b_M_write 32 = .ok (.iload_n 1, 1) := by decide +kernel
theorem d_M_write_33 : decode b_M_write 33 = .ok (.baload, 1) := by decide +kernel
theorem d_M_write_34 : decode b_M_write 34 = .ok (.ifCond .ne 6, 3) := by decide +kernel
theorem d_M_write_37 : decode b_M_write 37 = .ok (.bipush (-3), 2) := by decide +kernel
theorem d_M_write_39 : decode b_M_write 39 = .ok (.ireturn, 1) := by decide +kernel
theorem d_M_write_40 : decode b_M_write 40 = .ok (.aload_n 0, 1) := by decide +kernel
theorem d_M_write_41 : decode b_M_write 41 = .ok (.getfield 87, 3) := by decide +kernel
theorem d_M_write_44 : decode b_M_write 44 = .ok (.sipush 300, 3) := by decide +kernel
theorem d_M_write_47 : decode b_M_write 47 = .ok (.if_icmp .eq 16, 3) := by decide +kernel
theorem d_M_write_50 : decode b_M_write 50 = .ok (.aload_n 0, 1) := by decide +kernel
theorem d_M_write_51 : decode b_M_write 51 = .ok (.iload_n 1, 1) := by decide +kernel
theorem d_M_write_52 : decode b_M_write 52 = .ok (.iconst 0, 1) := by decide +kernel
theorem d_M_write_53 : decode b_M_write 53 = .ok (.bipush 31, 2) := by decide +kernel
theorem d_M_write_55 : decode b_M_write 55 = .ok (.invokevirtual 90, 3) := by decide +kernel
theorem d_M_write_58 : decode b_M_write 58 = .ok (.bipush 8, 2) := by decide +kernel
theorem d_M_write_60 : decode b_M_write 60 = .ok (.if_icmp .lt 6, 3) := by decide +kernel
theorem d_M_write_63 : decode b_M_write 63 = .ok (.bipush (-4), 2) := by decide +kernel
theorem d_M_write_65 : decode b_M_write 65 = .ok (.ireturn, 1) := by decide +kernel
theorem d_M_write_66 : decode b_M_write 66 = .ok (.bipush 8, 2) := by decide +kernel
theorem d_M_write_68 : decode b_M_write 68 = .ok (.iload_n 1, 1) := by decide +kernel
theorem d_M_write_69 : decode b_M_write 69 = .ok (.imul, 1) := by decide +kernel
theorem d_M_write_70 : decode b_M_write 70 = .ok (.iload_n 2, 1) := by decide +kernel
theorem d_M_write_71 : decode b_M_write 71 = .ok (.iconst 4, 1) := by decide +kernel
theorem d_M_write_72 : decode b_M_write 72 = .ok (.idiv, 1) := by decide +kernel
theorem d_M_write_73 : decode b_M_write 73 = .ok (.iadd, 1) := by decide +kernel
theorem d_M_write_74 : decode b_M_write 74 = .ok (.istore 4, 2) := by decide +kernel
theorem d_M_write_76 : decode b_M_write 76 = .ok (.aload_n 0, 1) := by decide +kernel
theorem d_M_write_77 : decode b_M_write 77 = .ok (.getfield 35, 3) := by decide +kernel
theorem d_M_write_80 : decode b_M_write 80 = .ok (.iload 4, 2) := by decide +kernel
theorem d_M_write_82 : decode b_M_write 82 = .ok (.baload, 1) := by decide +kernel
theorem d_M_write_83 : decode b_M_write 83 = .ok (.ifCond .ne 40, 3) := by decide +kernel
theorem d_M_write_86 : decode b_M_write 86 = .ok (.aload_n 0, 1) := by decide +kernel
theorem d_M_write_87 : decode b_M_write 87 = .ok (.iload_n 1, 1) := by decide +kernel
theorem d_M_write_88 : decode b_M_write 88 = .ok (.invokevirtual 123, 3) := by decide +kernel
theorem d_M_write_91 : decode b_M_write 91 = .ok (.iconst 3, 1) := by decide +kernel
theorem d_M_write_92 : decode b_M_write 92 = .ok (.if_icmp .ne 31, 3) := by decide +kernel
theorem d_M_write_95 : decode b_M_write 95 = .ok (.aload_n 0, 1) := by decide +kernel
theorem d_M_write_96 : decode b_M_write 96 = .ok (.iload_n 1, 1) := by decide +kernel
theorem d_M_write_97 : decode b_M_write 97 = .ok (.invokevirtual 127, 3) := by decide +kernel
theorem d_M_write_100 : decode b_M_write 100 = .ok (.istore 5, 2) := by decide +kernel
theorem d_M_write_102 : decode b_M_write 102 = .ok (.iload 5, 2) := by decide +kernel
theorem d_M_write_104 : decode b_M_write 104 = .ok (.ifCond .ge 6, 3) := by decide +kernel
theorem d_M_write_107 : decode b_M_write 107 = .ok (.bipush (-5), 2) := by decide +kernel
theorem d_M_write_109 : decode b_M_write 109 = .ok (.ireturn, 1) := by decide +kernel
theorem d_M_write_110 : decode b_M_write 110 = .ok (.aload_n 0, 1) := by decide +kernel
theorem d_M_write_111 : decode b_M_write 111 = .ok (.getfield 35, 3) := by decide +kernel
theorem d_M_write_114 : decode b_M_write 114 = .ok (.bipush 8, 2) := by decide +kernel
theorem d_M_write_116 : decode b_M_write 116 = .ok (.iload_n 1, 1) := by decide +kernel
theorem d_M_write_117 : decode b_M_write 117 = .ok (.imul, 1) := by decide +kernel
theorem d_M_write_118 : decode b_M_write 118 = .ok (.iload 5, 2) := by decide +kernel
theorem d_M_write_120 : decode b_M_write 120 = .ok (.iadd, 1) := by decide +kernel
theorem d_M_write_121 : decode b_M_write 121 = .ok (.iconst 0, 1) := by decide +kernel
theorem d_M_write_122 : decode b_M_write 122 = .ok (.bastore, 1) := by decide +kernel
theorem d_M_write_123 : decode b_M_write 123 = .ok (.aload_n 0, 1) := by decide +kernel
theorem d_M_write_124 : decode b_M_write 124 = .ok (.getfield 35, 3) := by decide +kernel
theorem d_M_write_127 : decode b_M_write 127 = .ok (.iload 4, 2) := by decide +kernel
theorem d_M_write_129 : decode b_M_write 129 = .ok (.iconst 1, 1) := by decide +kernel
theorem d_M_write_130 : decode b_M_write 130 = .ok (.bastore, 1) := by decide +kernel
theorem d_M_write_131 : decode b_M_write 131 = .ok (.aload_n 0, 1) := by decide +kernel
theorem d_M_write_132 : decode b_M_write 132 = .ok (.dup, 1) := by decide +kernel
theorem d_M_write_133 : decode b_M_write 133 = .ok (.getfield 130, 3) := by decide +kernel
theorem d_M_write_136 : decode b_M_write 136 = .ok (.iconst 1, 1) := by decide +kernel
theorem d_M_write_137 : decode b_M_write 137 = .ok (.iadd, 1) := by decide +kernel
theorem d_M_write_138 : decode b_M_write 138 = .ok (.putfield 130, 3) := by decide +kernel
theorem d_M_write_141 : decode b_M_write 141 = .ok (.aload_n 0, 1) := by decide +kernel
theorem d_M_write_142 : decode b_M_write 142 = .ok (.getfield 38, 3) := by decide +kernel
theorem d_M_write_145 : decode b_M_write 145 = .ok (.iload 4, 2) := by decide +kernel
theorem d_M_write_147 : decode b_M_write 147 = .ok (.aload_n 0, 1) := by decide +kernel
theorem d_M_write_148 : decode b_M_write 148 = .ok (.getfield 130, 3) := by decide +kernel
theorem d_M_write_151 : decode b_M_write 151 = .ok (.iastore, 1) := by decide +kernel
theorem d_M_write_152 : decode b_M_write 152 = .ok (.aload_n 0, 1) := by decide +kernel
theorem d_M_write_153 : decode b_M_write 153 = .ok (.getfield 72, 3) := by decide +kernel
theorem d_M_write_156 : decode b_M_write 156 = .ok (.iload_n 1, 1) := by decide +kernel
theorem d_M_write_157 : decode b_M_write 157 = .ok (.iaload, 1) := by decide +kernel
theorem d_M_write_158 : decode b_M_write 158 = .ok (.ifCond .eq 22, 3) := by decide +kernel
theorem d_M_write_161 : decode b_M_write 161 = .ok (.aload_n 0, 1) := by decide +kernel
theorem d_M_write_162 : decode b_M_write 162 = .ok (.getfield 69, 3) := by decide +kernel
theorem d_M_write_165 : decode b_M_write 165 = .ok (.iload_n 1, 1) := by decide +kernel
theorem d_M_write_166 : decode b_M_write 166 = .ok (.baload, 1) := by decide +kernel
theorem d_M_write_167 : decode b_M_write 167 = .ok (.ifCond .ne 13, 3) := by decide +kernel
theorem d_M_write_170 : decode b_M_write 170 = .ok (.aload_n 0, 1) := by decide +kernel
theorem d_M_write_171 : decode b_M_write 171 = .ok (.iload_n 1, 1) := by decide +kernel
theorem d_M_write_172 : decode b_M_write 172 = .ok (.iload_n 2, 1) := by decide +kernel
theorem d_M_write_173 : decode b_M_write 173 = .ok (.iload_n 2, 1) := by decide +kernel
theorem d_M_write_174 : decode b_M_write 174 = .ok (.invokevirtual 90, 3) := by decide +kernel
theorem d_M_write_177 : decode b_M_write 177 = .ok (.ifCond .le 7, 3) := by decide +kernel
theorem d_M_write_180 : decode b_M_write 180 = .ok (.iconst 1, 1) := by decide +kernel
theorem d_M_write_181 : decode b_M_write 181 = .ok (.goto 4, 3) := by decide +kernel
theorem d_M_write_184 : decode b_M_write 184 = .ok (.iconst 0, 1) := by decide +kernel
theorem d_M_write_185 : decode b_M_write 185 = .ok (.istore 5, 2) := by decide +kernel
theorem d_M_write_187 : decode b_M_write 187 = .ok (.aload_n 0, 1) := by decide +kernel
theorem d_M_write_188 : decode b_M_write 188 = .ok (.dup, 1) := by decide +kernel
theorem d_M_write_189 : decode b_M_write 189 = .ok (.getfield 87, 3) := by decide +kernel
theorem d_M_write_192 : decode b_M_write 192 = .ok (.iconst 1, 1) := by decide +kernel
theorem d_M_write_193 : decode b_M_write 193 = .ok (.iadd, 1) := by decide +kernel
theorem d_M_write_194 : decode b_M_write 194 = .ok (.putfield 87, 3) := by decide +kernel
theorem d_M_write_197 : decode b_M_write 197 = .ok (.aload_n 0, 1) := by decide +kernel
theorem d_M_write_198 : decode b_M_write 198 = .ok (.getfield 87, 3) := by decide +kernel
theorem d_M_write_201 : decode b_M_write 201 = .ok (.istore 6, 2) := by decide +kernel
theorem d_M_write_203 : decode b_M_write 203 = .ok (.aload_n 0, 1) := by decide +kernel
theorem d_M_write_204 : decode b_M_write 204 = .ok (.getfield 7, 3) := by decide +kernel
theorem d_M_write_207 : decode b_M_write 207 = .ok (.iload 6, 2) := by decide +kernel
theorem d_M_write_209 : decode b_M_write 209 = .ok (.iload_n 1, 1) := by decide +kernel
theorem d_M_write_210 : decode b_M_write 210 = .ok (.iastore, 1) := by decide +kernel
theorem d_M_write_211 : decode b_M_write 211 = .ok (.aload_n 0, 1) := by decide +kernel
theorem d_M_write_212 : decode b_M_write 212 = .ok (.getfield 13, 3) := by decide +kernel
theorem d_M_write_215 : decode b_M_write 215 = .ok (.iload 6, 2) := by decide +kernel
theorem d_M_write_217 : decode b_M_write 217 = .ok (.iload_n 2, 1) := by decide +kernel
theorem d_M_write_218 : decode b_M_write 218 = .ok (.iastore, 1) := by decide +kernel
theorem d_M_write_219 : decode b_M_write 219 = .ok (.aload_n 0, 1) := by decide +kernel
theorem d_M_write_220 : decode b_M_write 220 = .ok (.getfield 16, 3) := by decide +kernel
theorem d_M_write_223 : decode b_M_write 223 = .ok (.iload 6, 2) := by decide +kernel
theorem d_M_write_225 : decode b_M_write 225 = .ok (.iload_n 3, 1) := by decide +kernel
theorem d_M_write_226 : decode b_M_write 226 = .ok (.iastore, 1) := by decide +kernel
theorem d_M_write_227 : decode b_M_write 227 = .ok (.aload_n 0, 1) := by decide +kernel
theorem d_M_write_228 : decode b_M_write 228 = .ok (.getfield 19, 3) := by decide +kernel
theorem d_M_write_231 : decode b_M_write 231 = .ok (.iload 6, 2) := by decide +kernel
theorem d_M_write_233 : decode b_M_write 233 = .ok (.aload_n 0, 1) := by decide +kernel
theorem d_M_write_234 : decode b_M_write 234 = .ok (.getfield 19, 3) := by decide +kernel
theorem d_M_write_237 : decode b_M_write 237 = .ok (.aload_n 0, 1) := by decide +kernel
theorem d_M_write_238 : decode b_M_write 238 = .ok (.getfield 72, 3) := by decide +kernel
theorem d_M_write_241 : decode b_M_write 241 = .ok (.iload_n 1, 1) := by decide +kernel
theorem d_M_write_242 : decode b_M_write 242 = .ok (.iaload, 1) := by decide +kernel
theorem d_M_write_243 : decode b_M_write 243 = .ok (.iaload, 1) := by decide +kernel
theorem d_M_write_244 : decode b_M_write 244 = .ok (.iload 5, 2) := by decide +kernel
theorem d_M_write_246 : decode b_M_write 246 = .ok (.ifCond .eq 7, 3) := by decide +kernel
theorem d_M_write_249 : decode b_M_write 249 = .ok (.iconst 1, 1) := by decide +kernel
theorem d_M_write_250 : decode b_M_write 250 = .ok (.goto 4, 3) := by decide +kernel
theorem d_M_write_253 : decode b_M_write 253 = .ok (.iconst 0, 1) := by decide +kernel
theorem d_M_write_254 : decode b_M_write 254 = .ok (.iadd, 1) := by decide +kernel
theorem d_M_write_255 : decode b_M_write 255 = .ok (.iastore, 1) := by decide +kernel
theorem d_M_write_256 : decode b_M_write 256 = .ok (.aload_n 0, 1) := by decide +kernel
theorem d_M_write_257 : decode b_M_write 257 = .ok (.getfield 72, 3) := by decide +kernel
theorem d_M_write_260 : decode b_M_write 260 = .ok (.iload_n 1, 1) := by decide +kernel
theorem d_M_write_261 : decode b_M_write 261 = .ok (.iload 6, 2) := by decide +kernel
theorem d_M_write_263 : decode b_M_write 263 = .ok (.iastore, 1) := by decide +kernel
theorem d_M_write_264 : decode b_M_write 264 = .ok (.aload_n 0, 1) := by decide +kernel
theorem d_M_write_265 : decode b_M_write 265 = .ok (.getfield 69, 3) := by decide +kernel
theorem d_M_write_268 : decode b_M_write 268 = .ok (.iload_n 1, 1) := by decide +kernel
theorem d_M_write_269 : decode b_M_write 269 = .ok (.iconst 0, 1) := by decide +kernel
theorem d_M_write_270 : decode b_M_write 270 = .ok (.bastore, 1) := by decide +kernel
theorem d_M_write_271 : decode b_M_write 271 = .ok (.aload_n 0, 1) := by decide +kernel
theorem d_M_write_272 : decode b_M_write 272 = .ok (.getfield 29, 3) := by decide +kernel
theorem d_M_write_275 : decode b_M_write 275 = .ok (.bipush 32, 2) := by decide +kernel
theorem d_M_write_277 : decode b_M_write 277 = .ok (.iload_n 1, 1) := by decide +kernel
theorem d_M_write_278 : decode b_M_write 278 = .ok (.imul, 1) := by decide +kernel
theorem d_M_write_279 : decode b_M_write 279 = .ok (.iload_n 2, 1) := by decide +kernel
theorem d_M_write_280 : decode b_M_write 280 = .ok (.iadd, 1) := by decide +kernel
theorem d_M_write_281 : decode b_M_write 281 = .ok (.iload_n 3, 1) := by decide +kernel
theorem d_M_write_282 : decode b_M_write 282 = .ok (.iastore, 1) := by decide +kernel
theorem d_M_write_283 : decode b_M_write 283 = .ok (.aload_n 0, 1) := by decide +kernel
theorem d_M_write_284 : decode b_M_write 284 = .ok (.getfield 109, 3) := by decide +kernel
theorem d_M_write_287 : decode b_M_write 287 = .ok (.ifCond .eq 23, 3) := by decide +kernel
theorem d_M_write_290 : decode b_M_write 290 = .ok (.aload_n 0, 1) := by decide +kernel
theorem d_M_write_291 : decode b_M_write 291 = .ok (.getfield 22, 3) := by decide +kernel
end
section
theorem d_M_write_294 : decode b_M_write 294 = .ok (.iload 6, 2) := by decide +kernel
theorem d_M_write_296 : decode b_M_write 296 = .ok (.iconst 1, 1) := by decide +kernel
theorem d_M_write_297 : decode b_M_write 297 = .ok (.iastore, 1) := by decide +kernel
theorem d_M_write_298 : decode b_M_write 298 = .ok (.aload_n 0, 1) := by decide +kernel
theorem d_M_write_299 : decode b_M_write 299 = .ok (.iload_n 1, 1) := by decide +kernel
theorem d_M_write_300 : decode b_M_write 300 = .ok (.iconst 1, 1) := by decide +kernel
theorem d_M_write_301 : decode b_M_write 301 = .ok (.iload 6, 2) := by decide +kernel
theorem d_M_write_303 : decode b_M_write 303 = .ok (.iconst 0, 1) := by decide +kernel
theorem d_M_write_304 : decode b_M_write 304 = .ok (.invokevirtual 105, 3) := by decide +kernel
theorem d_M_write_307 : decode b_M_write 307 = .ok (.goto 9, 3) := by decide +kernel
theorem d_M_write_310 : decode b_M_write 310 = .ok (.aload_n 0, 1) := by decide +kernel
theorem d_M_write_311 : decode b_M_write 311 = .ok (.iload 6, 2) := by decide +kernel
theorem d_M_write_313 : decode b_M_write 313 = .ok (.invokevirtual 113, 3) := by decide +kernel
theorem d_M_write_316 : decode b_M_write 316 = .ok (.iload 6, 2) := by decide +kernel
theorem d_M_write_318 : decode b_M_write 318 = .ok (.ireturn, 1) := by decide +kernel
theorem d_M_barrier_0 : decode b_M_barrier 0 = .ok (.iload_n 1, 1) := by decide +kernel
theorem d_M_barrier_1 : decode b_M_barrier 1 = .ok (.invokestatic 117, 3) := by decide +kernel
theorem d_M_barrier_4 : decode b_M_barrier 4 = .ok (.ifCond .eq 21, 3) := by decide +kernel
theorem d_M_barrier_7 : decode b_M_barrier 7 = .ok (.aload_n 0, 1) := by decide +kernel
theorem d_M_barrier_8 : decode b_M_barrier 8 = .ok (.getfield 57, 3) := by decide +kernel
theorem d_M_barrier_11 : decode b_M_barrier 11 = .ok (.iload_n 1, 1) := by decide +kernel
theorem d_M_barrier_12 : decode b_M_barrier 12 = .ok (.baload, 1) := by decide +kernel
theorem d_M_barrier_13 : decode b_M_barrier 13 = .ok (.ifCond .eq 12, 3) := by decide +kernel
theorem d_M_barrier_16 : decode b_M_barrier 16 = .ok (.aload_n 0, 1) := by decide +kernel
theorem d_M_barrier_17 : decode b_M_barrier 17 = .ok (.getfield 60, 3) := by decide +kernel
theorem d_M_barrier_20 : decode b_M_barrier 20 = .ok (.iload_n 1, 1) := by decide +kernel
theorem d_M_barrier_21 : decode b_M_barrier 21 = .ok (.baload, 1) := by decide +kernel
theorem d_M_barrier_22 : decode b_M_barrier 22 = .ok (.ifCond .ne 5, 3) := by decide +kernel
theorem d_M_barrier_25 : decode b_M_barrier 25 = .ok (.iconst 0, 1) := by decide +kernel
theorem d_M_barrier_26 : decode b_M_barrier 26 = .ok (.ireturn, 1) := by decide +kernel
theorem d_M_barrier_27 : decode b_M_barrier 27 = .ok (.aload_n 0, 1) := by decide +kernel
theorem d_M_barrier_28 : decode b_M_barrier 28 = .ok (.getfield 69, 3) := by decide +kernel
theorem d_M_barrier_31 : decode b_M_barrier 31 = .ok (.iload_n 1, 1) := by decide +kernel
theorem d_M_barrier_32 : decode b_M_barrier 32 = .ok (.iconst 1, 1) := by decide +kernel
theorem d_M_barrier_33 : decode b_M_barrier 33 = .ok (.bastore, 1) := by decide +kernel
theorem d_M_barrier_34 : decode b_M_barrier 34 = .ok (.iconst 1, 1) := by decide +kernel
theorem d_M_barrier_35 : decode b_M_barrier 35 = .ok (.ireturn, 1) := by decide +kernel
theorem d_M_deliver_0 : decode b_M_deliver 0 = .ok (.iload_n 1, 1) := by decide +kernel
theorem d_M_deliver_1 : decode b_M_deliver 1 = .ok (.invokestatic 117, 3) := by decide +kernel
theorem d_M_deliver_4 : decode b_M_deliver 4 = .ok (.ifCond .eq 12, 3) := by decide +kernel
theorem d_M_deliver_7 : decode b_M_deliver 7 = .ok (.aload_n 0, 1) := by decide +kernel
theorem d_M_deliver_8 : decode b_M_deliver 8 = .ok (.getfield 84, 3) := by decide +kernel
theorem d_M_deliver_11 : decode b_M_deliver 11 = .ok (.iload_n 1, 1) := by decide +kernel
theorem d_M_deliver_12 : decode b_M_deliver 12 = .ok (.iaload, 1) := by decide +kernel
theorem d_M_deliver_13 : decode b_M_deliver 13 = .ok (.ifCond .ne 5, 3) := by decide +kernel
theorem d_M_deliver_16 : decode b_M_deliver 16 = .ok (.iconst 0, 1) := by decide +kernel
theorem d_M_deliver_17 : decode b_M_deliver 17 = .ok (.ireturn, 1) := by decide +kernel
theorem d_M_deliver_18 : decode b_M_deliver 18 = .ok (.bipush 64, 2) := by decide +kernel
theorem d_M_deliver_20 : decode b_M_deliver 20 = .ok (.iload_n 1, 1) := by decide +kernel
theorem d_M_deliver_21 : decode b_M_deliver 21 = .ok (.imul, 1) := by decide +kernel
theorem d_M_deliver_22 : decode b_M_deliver 22 = .ok (.istore_n 2, 1) := by decide +kernel
theorem d_M_deliver_23 : decode b_M_deliver 23 = .ok (.aload_n 0, 1) := by decide +kernel
theorem d_M_deliver_24 : decode b_M_deliver 24 = .ok (.getfield 75, 3) := by decide +kernel
theorem d_M_deliver_27 : decode b_M_deliver 27 = .ok (.iload_n 2, 1) := by decide +kernel
theorem d_M_deliver_28 : decode b_M_deliver 28 = .ok (.iaload, 1) := by decide +kernel
theorem d_M_deliver_29 : decode b_M_deliver 29 = .ok (.istore_n 3, 1) := by decide +kernel
theorem d_M_deliver_30 : decode b_M_deliver 30 = .ok (.aload_n 0, 1) := by decide +kernel
theorem d_M_deliver_31 : decode b_M_deliver 31 = .ok (.getfield 78, 3) := by decide +kernel
theorem d_M_deliver_34 : decode b_M_deliver 34 = .ok (.iload_n 2, 1) := by decide +kernel
theorem d_M_deliver_35 : decode b_M_deliver 35 = .ok (.iaload, 1) := by decide +kernel
theorem d_M_deliver_36 : decode b_M_deliver 36 = .ok (.istore 4, 2) := by decide +kernel
theorem d_M_deliver_38 : decode b_M_deliver 38 = .ok (.aload_n 0, 1) := by decide +kernel
theorem d_M_deliver_39 : decode b_M_deliver 39 = .ok (.getfield 81, 3) := by decide +kernel
theorem d_M_deliver_42 : decode b_M_deliver 42 = .ok (.iload_n 2, 1) := by decide +kernel
theorem d_M_deliver_43 : decode b_M_deliver 43 = .ok (.iaload, 1) := by decide +kernel
theorem d_M_deliver_44 : decode b_M_deliver 44 = .ok (.istore 5, 2) := by decide +kernel
theorem d_M_deliver_46 : decode b_M_deliver 46 = .ok (.aload_n 0, 1) := by decide +kernel
theorem d_M_deliver_47 : decode b_M_deliver 47 = .ok (.getfield 84, 3) := by decide +kernel
theorem d_M_deliver_50 : decode b_M_deliver 50 = .ok (.iload_n 1, 1) := by decide +kernel
theorem d_M_deliver_51 : decode b_M_deliver 51 = .ok (.dup2, 1) := by decide +kernel
theorem d_M_deliver_52 : decode b_M_deliver 52 = .ok (.iaload, 1) := by decide +kernel
theorem d_M_deliver_53 : decode b_M_deliver 53 = .ok (.iconst 1, 1) := by decide +kernel
theorem d_M_deliver_54 : decode b_M_deliver 54 = .ok (.isub, 1) := by decide +kernel
theorem d_M_deliver_55 : decode b_M_deliver 55 = .ok (.iastore, 1) := by decide +kernel
theorem d_M_deliver_56 : decode b_M_deliver 56 = .ok (.iload_n 2, 1) := by decide +kernel
theorem d_M_deliver_57 : decode b_M_deliver 57 = .ok (.istore 6, 2) := by decide +kernel
theorem d_M_deliver_59 : decode b_M_deliver 59 = .ok (.iload 6, 2) := by decide +kernel
theorem d_M_deliver_61 : decode b_M_deliver 61 = .ok (.iload_n 2, 1) := by decide +kernel
theorem d_M_deliver_62 : decode b_M_deliver 62 = .ok (.aload_n 0, 1) := by decide +kernel
theorem d_M_deliver_63 : decode b_M_deliver 63 = .ok (.getfield 84, 3) := by decide +kernel
theorem d_M_deliver_66 : decode b_M_deliver 66 = .ok (.iload_n 1, 1) := by decide +kernel
theorem d_M_deliver_67 : decode b_M_deliver 67 = .ok (.iaload, 1) := by decide +kernel
theorem d_M_deliver_68 : decode b_M_deliver 68 = .ok (.iadd, 1) := by decide +kernel
theorem d_M_deliver_69 : decode b_M_deliver 69 = .ok (.if_icmp .ge 57, 3) := by decide +kernel
theorem d_M_deliver_72 : decode b_M_deliver 72 = .ok (.aload_n 0, 1) := by decide +kernel
theorem d_M_deliver_73 : decode b_M_deliver 73 = .ok (.getfield 75, 3) := by decide +kernel
theorem d_M_deliver_76 : decode b_M_deliver 76 = .ok (.iload 6, 2) := by decide +kernel
theorem d_M_deliver_78 : decode b_M_deliver 78 = .ok (.aload_n 0, 1) := by decide +kernel
theorem d_M_deliver_79 : decode b_M_deliver 79 = .ok (.getfield 75, 3) := by decide +kernel
theorem d_M_deliver_82 : decode b_M_deliver 82 = .ok (.iload 6, 2) := by decide +kernel
theorem d_M_deliver_84 : decode b_M_deliver 84 = .ok (.iconst 1, 1) := by decide +kernel
theorem d_M_deliver_85 : decode b_M_deliver 85 = .ok (.iadd, 1) := by decide +kernel
theorem d_M_deliver_86 : decode b_M_deliver 86 = .ok (.iaload, 1) := by decide +kernel
theorem d_M_deliver_87 : decode b_M_deliver 87 = .ok (.iastore, 1) := by decide +kernel
theorem d_M_deliver_88 : decode b_M_deliver 88 = .ok (.aload_n 0, 1) := by decide +kernel
theorem d_M_deliver_89 : decode b_M_deliver 89 = .ok (.getfield 78, 3) := by decide +kernel
theorem d_M_deliver_92 : decode b_M_deliver 92 = .ok (.iload 6, 2) := by decide +kernel
theorem d_M_deliver_94 : decode b_M_deliver 94 = .ok (.aload_n 0, 1) := by decide +kernel
theorem d_M_deliver_95 : decode b_M_deliver 95 = .ok (.getfield 78, 3) := by decide +kernel
theorem d_M_deliver_98 : decode b_M_deliver 98 = .ok (.iload 6, 2) := by decide +kernel
theorem d_M_deliver_100 : decode b_M_deliver 100 = .ok (.iconst 1, 1) := by decide +kernel
theorem d_M_deliver_101 : decode b_M_deliver 101 = .ok (.iadd, 1) := by decide +kernel
theorem d_M_deliver_102 : decode b_M_deliver 102 = .ok (.iaload, 1) := by decide +kernel
theorem d_M_deliver_103 : decode b_M_deliver 103 = .ok (.iastore, 1) := by decide +kernel
theorem d_M_deliver_104 : decode b_M_deliver 104 = .ok (.aload_n 0, 1) := by decide +kernel
theorem d_M_deliver_105 : decode b_M_deliver 105 = .ok (.getfield 81, 3) := by decide +kernel
theorem d_M_deliver_108 : decode b_M_deliver 108 = .ok (.iload 6, 2) := by decide +kernel
theorem d_M_deliver_110 : decode b_M_deliver 110 = .ok (.aload_n 0, 1) := by decide +kernel
theorem d_M_deliver_111 : decode b_M_deliver 111 = .ok (.getfield 81, 3) := by decide +kernel
theorem d_M_deliver_114 : decode b_M_deliver 114 = .ok (.iload 6, 2) := by decide +kernel
theorem d_M_deliver_116 : decode b_M_deliver 116 = .ok (.iconst 1, 1) := by decide +kernel
theorem d_M_deliver_117 : decode b_M_deliver 117 = .ok (.iadd, 1) := by decide +kernel
theorem d_M_deliver_118 : decode b_M_deliver 118 = .ok (.iaload, 1) := by decide +kernel
theorem d_M_deliver_119 : decode b_M_deliver 119 = .ok (.iastore, 1) := by decide +kernel
theorem d_M_deliver_120 : decode b_M_deliver 120 = .ok (.iinc 6 1, 3) := by decide +kernel
theorem d_M_deliver_123 : decode b_M_deliver 123 = .ok (.goto (-64), 3) := by decide +kernel
theorem d_M_deliver_126 : decode b_M_deliver 126 = .ok (.aload_n 0, 1) := by decide +kernel
theorem d_M_deliver_127 : decode b_M_deliver 127 = .ok (.iconst 1, 1) := by decide +kernel
theorem d_M_deliver_128 : decode b_M_deliver 128 = .ok (.iload_n 1, 1) := by decide +kernel
theorem d_M_deliver_129 : decode b_M_deliver 129 = .ok (.isub, 1) := by decide +kernel
theorem d_M_deliver_130 : decode b_M_deliver 130 = .ok (.iload_n 3, 1) := by decide +kernel
theorem d_M_deliver_131 : decode b_M_deliver 131 = .ok (.iload 4, 2) := by decide +kernel
theorem d_M_deliver_133 : decode b_M_deliver 133 = .ok (.iload 5, 2) := by decide +kernel
theorem d_M_deliver_135 : decode b_M_deliver 135 = .ok (.invokevirtual 133, 3) := by decide +kernel
theorem d_M_deliver_138 : decode b_M_deliver 138 = .ok (.iload_n 3, 1) := by decide +kernel
theorem d_M_deliver_139 : decode b_M_deliver 139 = .ok (.ireturn, 1) := by decide +kernel
theorem d_M_arrive_0 : decode b_M_arrive 0 = .ok (.iload_n 2, 1) := by decide +kernel
theorem d_M_arrive_1 : decode b_M_arrive 1 = .ok (.iconst 1, 1) := by decide +kernel
theorem d_M_arrive_2 : decode b_M_arrive 2 = .ok (.if_icmp .ne 13, 3) := by decide +kernel
theorem d_M_arrive_5 : decode b_M_arrive 5 = .ok (.aload_n 0, 1) := by decide +kernel
theorem d_M_arrive_6 : decode b_M_arrive 6 = .ok (.getfield 25, 3) := by decide +kernel
theorem d_M_arrive_9 : decode b_M_arrive 9 = .ok (.iload_n 3, 1) := by decide +kernel
theorem d_M_arrive_10 : decode b_M_arrive 10 = .ok (.iconst 1, 1) := by decide +kernel
theorem d_M_arrive_11 : decode b_M_arrive 11 = .ok (.bastore, 1) := by decide +kernel
theorem d_M_arrive_12 : decode b_M_arrive 12 = .ok (.goto 167, 3) := by decide +kernel
theorem d_M_arrive_15 : decode b_M_arrive 15 = .ok (.iload_n 2, 1) := by decide +kernel
theorem d_M_arrive_16 : decode b_M_arrive 16 = .ok (.iconst 2, 1) := by decide +kernel
theorem d_M_arrive_17 : decode b_M_arrive 17 = .ok (.if_icmp .ne 44, 3) := by decide +kernel
theorem d_M_arrive_20 : decode b_M_arrive 20 = .ok (.aload_n 0, 1) := by decide +kernel
theorem d_M_arrive_21 : decode b_M_arrive 21 = .ok (.getfield 22, 3) := by decide +kernel
theorem d_M_arrive_24 : decode b_M_arrive 24 = .ok (.iload_n 3, 1) := by decide +kernel
theorem d_M_arrive_25 : decode b_M_arrive 25 = .ok (.iconst 2, 1) := by decide +kernel
theorem d_M_arrive_26 : decode b_M_arrive 26 = .ok (.iastore, 1) := by decide +kernel
theorem d_M_arrive_27 : decode b_M_arrive 27 = .ok (.aload_n 0, 1) := by decide +kernel
theorem d_M_arrive_28 : decode b_M_arrive 28 = .ok (.getfield 63, 3) := by decide +kernel
theorem d_M_arrive_31 : decode b_M_arrive 31 = .ok (.iload_n 1, 1) := by decide +kernel
theorem d_M_arrive_32 : decode b_M_arrive 32 = .ok (.baload, 1) := by decide +kernel
theorem d_M_arrive_33 : decode b_M_arrive 33 = .ok (.ifCond .eq 146, 3) := by decide +kernel
theorem d_M_arrive_36 : decode b_M_arrive 36 = .ok (.aload_n 0, 1) := by decide +kernel
theorem d_M_arrive_37 : decode b_M_arrive 37 = .ok (.getfield 32, 3) := by decide +kernel
theorem d_M_arrive_40 : decode b_M_arrive 40 = .ok (.bipush 32, 2) := by decide +kernel
theorem d_M_arrive_42 : decode b_M_arrive 42 = .ok (.iload_n 1, 1) := by decide +kernel
theorem d_M_arrive_43 : decode b_M_arrive 43 = .ok (.imul, 1) := by decide +kernel
theorem d_M_arrive_44 : decode b_M_arrive 44 = .ok (.aload_n 0, 1) := by decide +kernel
theorem d_M_arrive_45 : decode b_M_arrive 45 = .ok (.getfield 13, 3) := by decide +kernel
theorem d_M_arrive_48 : decode b_M_arrive 48 = .ok (.iload_n 3, 1) := by decide +kernel
theorem d_M_arrive_49 : decode b_M_arrive 49 = .ok (.iaload, 1) := by decide +kernel
theorem d_M_arrive_50 : decode b_M_arrive 50 = .ok (.iadd, 1) := by decide +kernel
theorem d_M_arrive_51 : decode b_M_arrive 51 = .ok (.iconst 0, 1) := by decide +kernel
theorem d_M_arrive_52 : decode b_M_arrive 52 = .ok (.bastore, 1) := by decide +kernel
theorem d_M_arrive_53 : decode b_M_arrive 53 = .ok (.aload_n 0, 1) := by decide +kernel
theorem d_M_arrive_54 : decode b_M_arrive 54 = .ok (.iload_n 1, 1) := by decide +kernel
theorem d_M_arrive_55 : decode b_M_arrive 55 = .ok (.invokevirtual 136, 3) := by decide +kernel
theorem d_M_arrive_58 : decode b_M_arrive 58 = .ok (.goto 121, 3) := by decide +kernel
theorem d_M_arrive_61 : decode b_M_arrive 61 = .ok (.iload_n 2, 1) := by decide +kernel
theorem d_M_arrive_62 : decode b_M_arrive 62 = .ok (.iconst 3, 1) := by decide +kernel
theorem d_M_arrive_63 : decode b_M_arrive 63 = .ok (.if_icmp .ne 27, 3) := by decide +kernel
theorem d_M_arrive_66 : decode b_M_arrive 66 = .ok (.aload_n 0, 1) := by decide +kernel
theorem d_M_arrive_67 : decode b_M_arrive 67 = .ok (.getfield 29, 3) := by decide +kernel
theorem d_M_arrive_70 : decode b_M_arrive 70 = .ok (.bipush 32, 2) := by decide +kernel
theorem d_M_arrive_72 : decode b_M_arrive 72 = .ok (.iload_n 1, 1) := by decide +kernel
theorem d_M_arrive_73 : decode b_M_arrive 73 = .ok (.imul, 1) := by decide +kernel
theorem d_M_arrive_74 : decode b_M_arrive 74 = .ok (.iload_n 3, 1) := by decide +kernel
theorem d_M_arrive_75 : decode b_M_arrive 75 = .ok (.iadd, 1) := by decide +kernel
theorem d_M_arrive_76 : decode b_M_arrive 76 = .ok (.iload 4, 2) := by decide +kernel
theorem d_M_arrive_78 : decode b_M_arrive 78 = .ok (.iastore, 1) := by decide +kernel
theorem d_M_arrive_79 : decode b_M_arrive 79 = .ok (.aload_n 0, 1) := by decide +kernel
theorem d_M_arrive_80 : decode b_M_arrive 80 = .ok (.iload_n 1, 1) := by decide +kernel
theorem d_M_arrive_81 : decode b_M_arrive 81 = .ok (.iconst 4, 1) := by decide +kernel
theorem d_M_arrive_82 : decode b_M_arrive 82 = .ok (.iload_n 3, 1) := by decide +kernel
theorem d_M_arrive_83 : decode b_M_arrive 83 = .ok (.iconst 0, 1) := by decide +kernel
theorem d_M_arrive_84 : decode b_M_arrive 84 = .ok (.invokevirtual 105, 3) := by decide +kernel
theorem d_M_arrive_87 : decode b_M_arrive 87 = .ok (.goto 92, 3) := by decide +kernel
theorem d_M_arrive_90 : decode b_M_arrive 90 = .ok (.iload_n 2, 1) := by decide +kernel
theorem d_M_arrive_91 : decode b_M_arrive 91 = .ok (.iconst 4, 1) := by decide +kernel
theorem d_M_arrive_92 : decode b_M_arrive 92 = .ok (.if_icmp .ne 23, 3) := by decide +kernel
theorem d_M_arrive_95 : decode b_M_arrive 95 = .ok (.aload_n 0, 1) := by decide +kernel
theorem d_M_arrive_96 : decode b_M_arrive 96 = .ok (.getfield 32, 3) := by decide +kernel
theorem d_M_arrive_99 : decode b_M_arrive 99 = .ok (.bipush 32, 2) := by decide +kernel
theorem d_M_arrive_101 : decode b_M_arrive 101 = .ok (.iload_n 1, 1) := by decide +kernel
theorem d_M_arrive_102 : decode b_M_arrive 102 = .ok (.imul, 1) := by decide +kernel
theorem d_M_arrive_103 : decode b_M_arrive 103 = .ok (.iload_n 3, 1) := by decide +kernel
theorem d_M_arrive_104 : decode b_M_arrive 104 = .ok (.iadd, 1) := by decide +kernel
theorem d_M_arrive_105 : decode b_M_arrive 105 = .ok (.iconst 0, 1) := by decide +kernel
theorem d_M_arrive_106 : decode b_M_arrive 106 = .ok (.bastore, 1) := by decide +kernel
theorem d_M_arrive_107 : decode b_M_arrive 107 = .ok (.aload_n 0, 1) := by decide +kernel
theorem d_M_arrive_108 : decode b_M_arrive 108 = .ok (.iload_n 1, 1) := by decide +kernel
theorem d_M_arrive_109 : decode b_M_arrive 109 = .ok (.invokevirtual 136, 3) := by decide +kernel
theorem d_M_arrive_112 : decode b_M_arrive 112 = .ok (.goto 67, 3) := by decide +kernel
theorem d_M_arrive_115 : decode b_M_arrive 115 = .ok (.aload_n 0, 1) := by decide +kernel
theorem d_M_arrive_116 : decode b_M_arrive 116 = .ok (.getfield 66, 3) := by decide +kernel
theorem d_M_arrive_119 : decode b_M_arrive 119 = .ok (.iload_n 1, 1) := by decide +kernel
theorem d_M_arrive_120 : decode b_M_arrive 120 = .ok (.iconst 0, 1) := by decide +kernel
theorem d_M_arrive_121 : decode b_M_arrive 121 = .ok (.bastore, 1) := by decide +kernel
theorem d_M_arrive_122 : decode b_M_arrive 122 = .ok (.aload_n 0, 1) := by decide +kernel
theorem d_M_arrive_123 : decode b_M_arrive 123 = .ok (.getfield 51, 3) := by decide +kernel
theorem d_M_arrive_126 : decode b_M_arrive 126 = .ok (.iload_n 1, 1) := by decide +kernel
theorem d_M_arrive_127 : decode b_M_arrive 127 = .ok (.iconst 0, 1) := by decide +kernel
theorem d_M_arrive_128 : decode b_M_arrive 128 = .ok (.bastore, 1) := by decide +kernel
theorem d_M_arrive_129 : decode b_M_arrive 129 = .ok (.aload_n 0, 1) := by decide +kernel
theorem d_M_arrive_130 : decode b_M_arrive 130 = .ok (.getfield 54, 3) := by decide +kernel
theorem d_M_arrive_133 : decode b_M_arrive 133 = .ok (.iload_n 1, 1) := by decide +kernel
theorem d_M_arrive_134 : decode b_M_arrive 134 = .ok (.iconst 0, 1) := by decide +kernel
theorem d_M_arrive_135 : decode b_M_arrive 135 = .ok (.bastore, 1) := by decide +kernel
theorem d_M_arrive_136 : decode b_M_arrive 136 = .ok (.iconst 0, 1) := by decide +kernel
theorem d_M_arrive_137 : decode b_M_arrive 137 = .ok (.istore 5, 2) := by decide +kernel
theorem d_M_arrive_139 : decode b_M_arrive 139 = .ok (.iload 5, 2) := by decide +kernel
theorem d_M_arrive_141 : decode b_M_arrive 141 = .ok (.bipush 32, 2) := by decide +kernel
theorem d_M_arrive_143 : decode b_M_arrive 143 = .ok (.if_icmp .ge 22, 3) := by decide +kernel
theorem d_M_arrive_146 : decode b_M_arrive 146 = .ok (.aload_n 0, 1) := by decide +kernel
theorem d_M_arrive_147 : decode b_M_arrive 147 = .ok (.getfield 32, 3) := by decide +kernel
theorem d_M_arrive_150 : decode b_M_arrive 150 = .ok (.bipush 32, 2) := by decide +kernel
theorem d_M_arrive_152 : decode b_M_arrive 152 = .ok (.iload_n 1, 1) := by decide +kernel
theorem d_M_arrive_153 : decode b_M_arrive 153 = .ok (.imul, 1) := by decide +kernel
theorem d_M_arrive_154 : decode b_M_arrive 154 = .ok (.iload 5, 2) := by decide +kernel
theorem d_M_arrive_156 : decode b_M_arrive 156 = .ok (.iadd, 1) := by decide +kernel
theorem d_M_arrive_157 : decode b_M_arrive 157 = .ok (.iconst 0, 1) := by decide +kernel
theorem d_M_arrive_158 : decode b_M_arrive 158 = .ok (.bastore, 1) := by decide +kernel
theorem d_M_arrive_159 : decode b_M_arrive 159 = .ok (.iinc 5 1, 3) := by decide +kernel
theorem d_M_arrive_162 : decode b_M_arrive 162 = .ok (.goto (-23), 3) := by decide +kernel
theorem d_M_arrive_165 : decode b_M_arrive 165 = .ok (.aload_n 0, 1) := by decide +kernel
theorem d_M_arrive_166 : decode b_M_arrive 166 = .ok (.getfield 41, 3) := by decide +kernel
theorem d_M_arrive_169 : decode b_M_arrive 169 = .ok (.iload_n 1, 1) := by decide +kernel
theorem d_M_arrive_170 : decode b_M_arrive 170 = .ok (.iload_n 3, 1) := by decide +kernel
theorem d_M_arrive_171 : decode b_M_arrive 171 = .ok (.iastore, 1) := by decide +kernel
theorem d_M_arrive_172 : decode b_M_arrive 172 = .ok (.aload_n 0, 1) := by decide +kernel
theorem d_M_arrive_173 : decode b_M_arrive 173 = .ok (.getfield 44, 3) := by decide +kernel
theorem d_M_arrive_176 : decode b_M_arrive 176 = .ok (.iload_n 1, 1) := by decide +kernel
theorem d_M_arrive_177 : decode b_M_arrive 177 = .ok (.iconst 0, 1) := by decide +kernel
theorem d_M_arrive_178 : decode b_M_arrive 178 = .ok (.iastore, 1) := by decide +kernel
theorem d_M_arrive_179 : decode b_M_arrive 179 = .ok (.return_, 1) := by decide +kernel
theorem d_M_store_0 : decode b_M_store 0 = .ok (.iload_n 1, 1) := by decide +kernel
theorem d_M_store_1 : decode b_M_store 1 = .ok (.invokestatic 117, 3) := by decide +kernel
theorem d_M_store_4 : decode b_M_store 4 = .ok (.ifCond .eq 7, 3) := by decide +kernel
theorem d_M_store_7 : decode b_M_store 7 = .ok (.iload_n 2, 1) := by decide +kernel
theorem d_M_store_8 : decode b_M_store 8 = .ok (.ifCond .ge 5, 3) := by decide +kernel
theorem d_M_store_11 : decode b_M_store 11 = .ok (.iconst 0, 1) := by decide +kernel
theorem d_M_store_12 : decode b_M_store 12 = .ok (.ireturn, 1) := by decide +kernel
theorem d_M_store_13 : decode b_M_store 13 = .ok (.iconst 0, 1) := by decide +kernel
theorem d_M_store_14 : decode b_M_store 14 = .ok (.istore_n 3, 1) := by decide +kernel
theorem d_M_store_15 : decode b_M_store 15 = .ok (.iconst 0, 1) := by decide +kernel
theorem d_M_store_16 : decode b_M_store 16 = .ok (.istore 4, 2) := by decide +kernel
theorem d_M_store_18 : decode b_M_store 18 = .ok (.iconst 1, 1) := by decide +kernel
theorem d_M_store_19 : decode b_M_store 19 = .ok (.istore 5, 2) := by decide +kernel
theorem d_M_store_21 : decode b_M_store 21 = .ok (.iload 5, 2) := by decide +kernel
theorem d_M_store_23 : decode b_M_store 23 = .ok (.aload_n 0, 1) := by decide +kernel
theorem d_M_store_24 : decode b_M_store 24 = .ok (.getfield 87, 3) := by decide +kernel
theorem d_M_store_27 : decode b_M_store 27 = .ok (.if_icmp .gt 108, 3) := by decide +kernel
theorem d_M_store_30 : decode b_M_store 30 = .ok (.aload_n 0, 1) := by decide +kernel
theorem d_M_store_31 : decode b_M_store 31 = .ok (.getfield 25, 3) := by decide +kernel
theorem d_M_store_34 : decode b_M_store 34 = .ok (.iload 5, 2) := by decide +kernel
theorem d_M_store_36 : decode b_M_store 36 = .ok (.baload, 1) := by decide +kernel
theorem d_M_store_37 : decode b_M_store 37 = .ok (.ifCond .eq 92, 3) := by decide +kernel
theorem d_M_store_40 : decode b_M_store 40 = .ok (.aload_n 0, 1) := by decide +kernel
theorem d_M_store_41 : decode b_M_store 41 = .ok (.getfield 7, 3) := by decide +kernel
theorem d_M_store_44 : decode b_M_store 44 = .ok (.iload 5, 2) := by decide +kernel
theorem d_M_store_46 : decode b_M_store 46 = .ok (.iaload, 1) := by decide +kernel
theorem d_M_store_47 : decode b_M_store 47 = .ok (.iconst 1, 1) := by decide +kernel
theorem d_M_store_48 : decode b_M_store 48 = .ok (.iload_n 1, 1) := by decide +kernel
theorem d_M_store_49 : decode b_M_store 49 = .ok (.isub, 1) := by decide +kernel
theorem d_M_store_50 : decode b_M_store 50 = .ok (.if_icmp .ne 79, 3) := by decide +kernel
theorem d_M_store_53 : decode b_M_store 53 = .ok (.iload_n 3, 1) := by decide +kernel
theorem d_M_store_54 : decode b_M_store 54 = .ok (.ifCond .ne 6, 3) := by decide +kernel
theorem d_M_store_57 : decode b_M_store 57 = .ok (.iload 5, 2) := by decide +kernel
theorem d_M_store_59 : decode b_M_store 59 = .ok (.istore_n 3, 1) := by decide +kernel
theorem d_M_store_60 : decode b_M_store 60 = .ok (.aload_n 0, 1) := by decide +kernel
theorem d_M_store_61 : decode b_M_store 61 = .ok (.getfield 19, 3) := by decide +kernel
theorem d_M_store_64 : decode b_M_store 64 = .ok (.iload 5, 2) := by decide +kernel
theorem d_M_store_66 : decode b_M_store 66 = .ok (.iaload, 1) := by decide +kernel
theorem d_M_store_67 : decode b_M_store 67 = .ok (.aload_n 0, 1) := by decide +kernel
theorem d_M_store_68 : decode b_M_store 68 = .ok (.getfield 19, 3) := by decide +kernel
theorem d_M_store_71 : decode b_M_store 71 = .ok (.iload_n 3, 1) := by decide +kernel
theorem d_M_store_72 : decode b_M_store 72 = .ok (.iaload, 1) := by decide +kernel
theorem d_M_store_73 : decode b_M_store 73 = .ok (.if_icmp .ne 56, 3) := by decide +kernel
theorem d_M_store_76 : decode b_M_store 76 = .ok (.iload 4, 2) := by decide +kernel
theorem d_M_store_78 : decode b_M_store 78 = .ok (.iload_n 2, 1) := by decide +kernel
theorem d_M_store_79 : decode b_M_store 79 = .ok (.if_icmp .ne 47, 3) := by decide +kernel
theorem d_M_store_82 : decode b_M_store 82 = .ok (.aload_n 0, 1) := by decide +kernel
theorem d_M_store_83 : decode b_M_store 83 = .ok (.getfield 25, 3) := by decide +kernel
theorem d_M_store_86 : decode b_M_store 86 = .ok (.iload 5, 2) := by decide +kernel
theorem d_M_store_88 : decode b_M_store 88 = .ok (.iconst 0, 1) := by decide +kernel
theorem d_M_store_89 : decode b_M_store 89 = .ok (.bastore, 1) := by decide +kernel
theorem d_M_store_90 : decode b_M_store 90 = .ok (.aload_n 0, 1) := by decide +kernel
theorem d_M_store_91 : decode b_M_store 91 = .ok (.getfield 29, 3) := by decide +kernel
theorem d_M_store_94 : decode b_M_store 94 = .ok (.bipush 32, 2) := by decide +kernel
theorem d_M_store_96 : decode b_M_store 96 = .ok (.iload_n 1, 1) := by decide +kernel
theorem d_M_store_97 : decode b_M_store 97 = .ok (.imul, 1) := by decide +kernel
theorem d_M_store_98 : decode b_M_store 98 = .ok (.aload_n 0, 1) := by decide +kernel
theorem d_M_store_99 : decode b_M_store 99 = .ok (.getfield 13, 3) := by decide +kernel
theorem d_M_store_102 : decode b_M_store 102 = .ok (.iload 5, 2) := by decide +kernel
theorem d_M_store_104 : decode b_M_store 104 = .ok (.iaload, 1) := by decide +kernel
theorem d_M_store_105 : decode b_M_store 105 = .ok (.iadd, 1) := by decide +kernel
theorem d_M_store_106 : decode b_M_store 106 = .ok (.aload_n 0, 1) := by decide +kernel
theorem d_M_store_107 : decode b_M_store 107 = .ok (.getfield 16, 3) := by decide +kernel
theorem d_M_store_110 : decode b_M_store 110 = .ok (.iload 5, 2) := by decide +kernel
theorem d_M_store_112 : decode b_M_store 112 = .ok (.iaload, 1) := by decide +kernel
theorem d_M_store_113 : decode b_M_store 113 = .ok (.iastore, 1) := by decide +kernel
theorem d_M_store_114 : decode b_M_store 114 = .ok (.aload_n 0, 1) := by decide +kernel
theorem d_M_store_115 : decode b_M_store 115 = .ok (.iload_n 1, 1) := by decide +kernel
theorem d_M_store_116 : decode b_M_store 116 = .ok (.iconst 2, 1) := by decide +kernel
theorem d_M_store_117 : decode b_M_store 117 = .ok (.iload 5, 2) := by decide +kernel
theorem d_M_store_119 : decode b_M_store 119 = .ok (.iconst 0, 1) := by decide +kernel
theorem d_M_store_120 : decode b_M_store 120 = .ok (.invokevirtual 105, 3) := by decide +kernel
theorem d_M_store_123 : decode b_M_store 123 = .ok (.iload 5, 2) := by decide +kernel
theorem d_M_store_125 : decode b_M_store 125 = .ok (.ireturn, 1) := by decide +kernel
theorem d_M_store_126 : decode b_M_store 126 = .ok (.iinc 4 1, 3) := by decide +kernel
theorem d_M_store_129 : decode b_M_store 129 = .ok (.iinc 5 1, 3) := by decide +kernel
theorem d_M_store_132 : decode b_M_store 132 = .ok (.goto (-111), 3) := by decide +kernel
theorem d_M_store_135 : decode b_M_store 135 = .ok (.iconst 0, 1) := by decide +kernel
theorem d_M_store_136 : decode b_M_store 136 = .ok (.ireturn, 1) := by decide +kernel
theorem d_M_copy_0 : decode b_M_copy 0 = .ok (.iload_n 1, 1) := by decide +kernel
theorem d_M_copy_1 : decode b_M_copy 1 = .ok (.invokestatic 117, 3) := by decide +kernel
theorem d_M_copy_4 : decode b_M_copy 4 = .ok (.ifCond .eq 22, 3) := by decide +kernel
theorem d_M_copy_7 : decode b_M_copy 7 = .ok (.aload_n 0, 1) := by decide +kernel
theorem d_M_copy_8 : decode b_M_copy 8 = .ok (.getfield 63, 3) := by decide +kernel
theorem d_M_copy_11 : decode b_M_copy 11 = .ok (.iload_n 1, 1) := by decide +kernel
theorem d_M_copy_12 : decode b_M_copy 12 = .ok (.baload, 1) := by decide +kernel
theorem d_M_copy_13 : decode b_M_copy 13 = .ok (.ifCond .eq 13, 3) := by decide +kernel
theorem d_M_copy_16 : decode b_M_copy 16 = .ok (.aload_n 0, 1) := by decide +kernel
theorem d_M_copy_17 : decode b_M_copy 17 = .ok (.iload_n 1, 1) := by decide +kernel
theorem d_M_copy_18 : decode b_M_copy 18 = .ok (.iconst (-1), 1) := by decide +kernel
theorem d_M_copy_19 : decode b_M_copy 19 = .ok (.invokevirtual 139, 3) := by decide +kernel
theorem d_M_copy_22 : decode b_M_copy 22 = .ok (.iconst 4, 1) := by decide +kernel
theorem d_M_copy_23 : decode b_M_copy 23 = .ok (.if_icmp .lt 5, 3) := by decide +kernel
theorem d_M_copy_26 : decode b_M_copy 26 = .ok (.iconst (-1), 1) := by decide +kernel
theorem d_M_copy_27 : decode b_M_copy 27 = .ok (.ireturn, 1) := by decide +kernel
theorem d_M_copy_28 : decode b_M_copy 28 = .ok (.iconst 0, 1) := by decide +kernel
theorem d_M_copy_29 : decode b_M_copy 29 = .ok (.istore_n 2, 1) := by decide +kernel
theorem d_M_copy_30 : decode b_M_copy 30 = .ok (.iload_n 2, 1) := by decide +kernel
theorem d_M_copy_31 : decode b_M_copy 31 = .ok (.bipush 32, 2) := by decide +kernel
theorem d_M_copy_33 : decode b_M_copy 33 = .ok (.if_icmp .ge 62, 3) := by decide +kernel
theorem d_M_copy_36 : decode b_M_copy 36 = .ok (.aload_n 0, 1) := by decide +kernel
theorem d_M_copy_37 : decode b_M_copy 37 = .ok (.getfield 32, 3) := by decide +kernel
theorem d_M_copy_40 : decode b_M_copy 40 = .ok (.bipush 32, 2) := by decide +kernel
theorem d_M_copy_42 : decode b_M_copy 42 = .ok (.iload_n 1, 1) := by decide +kernel
theorem d_M_copy_43 : decode b_M_copy 43 = .ok (.imul, 1) := by decide +kernel
theorem d_M_copy_44 : decode b_M_copy 44 = .ok (.iload_n 2, 1) := by decide +kernel
theorem d_M_copy_45 : decode b_M_copy 45 = .ok (.iadd, 1) := by decide +kernel
theorem d_M_copy_46 : decode b_M_copy 46 = .ok (.baload, 1) := by decide +kernel
theorem d_M_copy_47 : decode b_M_copy 47 = .ok (.ifCond .eq 42, 3) := by decide +kernel
theorem d_M_copy_50 : decode b_M_copy 50 = .ok (.aload_n 0, 1) := by decide +kernel
theorem d_M_copy_51 : decode b_M_copy 51 = .ok (.iload_n 1, 1) := by decide +kernel
theorem d_M_copy_52 : decode b_M_copy 52 = .ok (.iload_n 2, 1) := by decide +kernel
theorem d_M_copy_53 : decode b_M_copy 53 = .ok (.invokevirtual 139, 3) := by decide +kernel
theorem d_M_copy_56 : decode b_M_copy 56 = .ok (.ifCond .ne 33, 3) := by decide +kernel
theorem d_M_copy_59 : decode b_M_copy 59 = .ok (.aload_n 0, 1) := by decide +kernel
theorem d_M_copy_60 : decode b_M_copy 60 = .ok (.iload_n 1, 1) := by decide +kernel
theorem d_M_copy_61 : decode b_M_copy 61 = .ok (.iload_n 2, 1) := by decide +kernel
theorem d_M_copy_62 : decode b_M_copy 62 = .ok (.iload_n 2, 1) := by decide +kernel
theorem d_M_copy_63 : decode b_M_copy 63 = .ok (.invokevirtual 90, 3) := by decide +kernel
theorem d_M_copy_66 : decode b_M_copy 66 = .ok (.ifCond .ne 23, 3) := by decide +kernel
theorem d_M_copy_69 : decode b_M_copy 69 = .ok (.aload_n 0, 1) := by decide +kernel
theorem d_M_copy_70 : decode b_M_copy 70 = .ok (.iload_n 1, 1) := by decide +kernel
theorem d_M_copy_71 : decode b_M_copy 71 = .ok (.iconst 3, 1) := by decide +kernel
theorem d_M_copy_72 : decode b_M_copy 72 = .ok (.iload_n 2, 1) := by decide +kernel
theorem d_M_copy_73 : decode b_M_copy 73 = .ok (.aload_n 0, 1) := by decide +kernel
theorem d_M_copy_74 : decode b_M_copy 74 = .ok (.getfield 29, 3) := by decide +kernel
theorem d_M_copy_77 : decode b_M_copy 77 = .ok (.bipush 32, 2) := by decide +kernel
theorem d_M_copy_79 : decode b_M_copy 79 = .ok (.iload_n 1, 1) := by decide +kernel
theorem d_M_copy_80 : decode b_M_copy 80 = .ok (.imul, 1) := by decide +kernel
theorem d_M_copy_81 : decode b_M_copy 81 = .ok (.iload_n 2, 1) := by decide +kernel
theorem d_M_copy_82 : decode b_M_copy 82 = .ok (.iadd, 1) := by decide +kernel
theorem d_M_copy_83 : decode b_M_copy 83 = .ok (.iaload, 1) := by decide +kernel
theorem d_M_copy_84 : decode b_M_copy 84 = .ok (.invokevirtual 105, 3) := by decide +kernel
theorem d_M_copy_87 : decode b_M_copy 87 = .ok (.iload_n 2, 1) := by decide +kernel
theorem d_M_copy_88 : decode b_M_copy 88 = .ok (.ireturn, 1) := by decide +kernel
theorem d_M_copy_89 : decode b_M_copy 89 = .ok (.iinc 2 1, 3) := by decide +kernel
theorem d_M_copy_92 : decode b_M_copy 92 = .ok (.goto (-62), 3) := by decide +kernel
theorem d_M_copy_95 : decode b_M_copy 95 = .ok (.iconst (-1), 1) := by decide +kernel
theorem d_M_copy_96 : decode b_M_copy 96 = .ok (.ireturn, 1) := by decide +kernel
theorem d_M_chosen_0 : decode b_M_chosen 0 = .ok (.aload_n 0, 1) := by decide +kernel
theorem d_M_chosen_1 : decode b_M_chosen 1 = .ok (.getfield 51, 3) := by decide +kernel
theorem d_M_chosen_4 : decode b_M_chosen 4 = .ok (.iconst 0, 1) := by decide +kernel
theorem d_M_chosen_5 : decode b_M_chosen 5 = .ok (.baload, 1) := by decide +kernel
theorem d_M_chosen_6 : decode b_M_chosen 6 = .ok (.ifCond .ne 12, 3) := by decide +kernel
theorem d_M_chosen_9 : decode b_M_chosen 9 = .ok (.aload_n 0, 1) := by decide +kernel
theorem d_M_chosen_10 : decode b_M_chosen 10 = .ok (.getfield 51, 3) := by decide +kernel
theorem d_M_chosen_13 : decode b_M_chosen 13 = .ok (.iconst 1, 1) := by decide +kernel
theorem d_M_chosen_14 : decode b_M_chosen 14 = .ok (.baload, 1) := by decide +kernel
theorem d_M_chosen_15 : decode b_M_chosen 15 = .ok (.ifCond .eq 18, 3) := by decide +kernel
theorem d_M_chosen_18 : decode b_M_chosen 18 = .ok (.aload_n 0, 1) := by decide +kernel
theorem d_M_chosen_19 : decode b_M_chosen 19 = .ok (.getfield 51, 3) := by decide +kernel
theorem d_M_chosen_22 : decode b_M_chosen 22 = .ok (.iconst 0, 1) := by decide +kernel
theorem d_M_chosen_23 : decode b_M_chosen 23 = .ok (.baload, 1) := by decide +kernel
theorem d_M_chosen_24 : decode b_M_chosen 24 = .ok (.ifCond .eq 7, 3) := by decide +kernel
theorem d_M_chosen_27 : decode b_M_chosen 27 = .ok (.iconst 1, 1) := by decide +kernel
theorem d_M_chosen_28 : decode b_M_chosen 28 = .ok (.goto 4, 3) := by decide +kernel
theorem d_M_chosen_31 : decode b_M_chosen 31 = .ok (.iconst 0, 1) := by decide +kernel
theorem d_M_chosen_32 : decode b_M_chosen 32 = .ok (.ireturn, 1) := by decide +kernel
theorem d_M_chosen_33 : decode b_M_chosen 33 = .ok (.aload_n 0, 1) := by decide +kernel
theorem d_M_chosen_34 : decode b_M_chosen 34 = .ok (.getfield 41, 3) := by decide +kernel
theorem d_M_chosen_37 : decode b_M_chosen 37 = .ok (.iconst 0, 1) := by decide +kernel
theorem d_M_chosen_38 : decode b_M_chosen 38 = .ok (.iaload, 1) := by decide +kernel
theorem d_M_chosen_39 : decode b_M_chosen 39 = .ok (.aload_n 0, 1) := by decide +kernel
theorem d_M_chosen_40 : decode b_M_chosen 40 = .ok (.getfield 41, 3) := by decide +kernel
theorem d_M_chosen_43 : decode b_M_chosen 43 = .ok (.iconst 1, 1) := by decide +kernel
theorem d_M_chosen_44 : decode b_M_chosen 44 = .ok (.iaload, 1) := by decide +kernel
theorem d_M_chosen_45 : decode b_M_chosen 45 = .ok (.if_icmp .eq 60, 3) := by decide +kernel
theorem d_M_chosen_48 : decode b_M_chosen 48 = .ok (.aload_n 0, 1) := by decide +kernel
theorem d_M_chosen_49 : decode b_M_chosen 49 = .ok (.getfield 44, 3) := by decide +kernel
theorem d_M_chosen_52 : decode b_M_chosen 52 = .ok (.iconst 0, 1) := by decide +kernel
theorem d_M_chosen_53 : decode b_M_chosen 53 = .ok (.iaload, 1) := by decide +kernel
theorem d_M_chosen_54 : decode b_M_chosen 54 = .ok (.ifCond .eq 20, 3) := by decide +kernel
theorem d_M_chosen_57 : decode b_M_chosen 57 = .ok (.aload_n 0, 1) := by decide +kernel
theorem d_M_chosen_58 : decode b_M_chosen 58 = .ok (.getfield 44, 3) := by decide +kernel
theorem d_M_chosen_61 : decode b_M_chosen 61 = .ok (.iconst 0, 1) := by decide +kernel
theorem d_M_chosen_62 : decode b_M_chosen 62 = .ok (.iaload, 1) := by decide +kernel
theorem d_M_chosen_63 : decode b_M_chosen 63 = .ok (.aload_n 0, 1) := by decide +kernel
theorem d_M_chosen_64 : decode b_M_chosen 64 = .ok (.getfield 41, 3) := by decide +kernel
theorem d_M_chosen_67 : decode b_M_chosen 67 = .ok (.iconst 1, 1) := by decide +kernel
theorem d_M_chosen_68 : decode b_M_chosen 68 = .ok (.iaload, 1) := by decide +kernel
theorem d_M_chosen_69 : decode b_M_chosen 69 = .ok (.if_icmp .ne 5, 3) := by decide +kernel
theorem d_M_chosen_72 : decode b_M_chosen 72 = .ok (.iconst 0, 1) := by decide +kernel
theorem d_M_chosen_73 : decode b_M_chosen 73 = .ok (.ireturn, 1) := by decide +kernel
theorem d_M_chosen_74 : decode b_M_chosen 74 = .ok (.aload_n 0, 1) := by decide +kernel
theorem d_M_chosen_75 : decode b_M_chosen 75 = .ok (.getfield 44, 3) := by decide +kernel
theorem d_M_chosen_78 : decode b_M_chosen 78 = .ok (.iconst 1, 1) := by decide +kernel
theorem d_M_chosen_79 : decode b_M_chosen 79 = .ok (.iaload, 1) := by decide +kernel
theorem d_M_chosen_80 : decode b_M_chosen 80 = .ok (.ifCond .eq 22, 3) := by decide +kernel
theorem d_M_chosen_83 : decode b_M_chosen 83 = .ok (.aload_n 0, 1) := by decide +kernel
theorem d_M_chosen_84 : decode b_M_chosen 84 = .ok (.getfield 44, 3) := by decide +kernel
theorem d_M_chosen_87 : decode b_M_chosen 87 = .ok (.iconst 1, 1) := by decide +kernel
theorem d_M_chosen_88 : decode b_M_chosen 88 = .ok (.iaload, 1) := by decide +kernel
theorem d_M_chosen_89 : decode b_M_chosen 89 = .ok (.aload_n 0, 1) := by decide +kernel
theorem d_M_chosen_90 : decode b_M_chosen 90 = .ok (.getfield 41, 3) := by decide +kernel
theorem d_M_chosen_93 : decode b_M_chosen 93 = .ok (.iconst 0, 1) := by decide +kernel
theorem d_M_chosen_94 : decode b_M_chosen 94 = .ok (.iaload, 1) := by decide +kernel
theorem d_M_chosen_95 : decode b_M_chosen 95 = .ok (.if_icmp .ne 7, 3) := by decide +kernel
theorem d_M_chosen_98 : decode b_M_chosen 98 = .ok (.iconst 1, 1) := by decide +kernel
theorem d_M_chosen_99 : decode b_M_chosen 99 = .ok (.goto 5, 3) := by decide +kernel
theorem d_M_chosen_102 : decode b_M_chosen 102 = .ok (.bipush (-8), 2) := by decide +kernel
theorem d_M_chosen_104 : decode b_M_chosen 104 = .ok (.ireturn, 1) := by decide +kernel
theorem d_M_chosen_105 : decode b_M_chosen 105 = .ok (.aload_n 0, 1) := by decide +kernel
theorem d_M_chosen_106 : decode b_M_chosen 106 = .ok (.getfield 54, 3) := by decide +kernel
theorem d_M_chosen_109 : decode b_M_chosen 109 = .ok (.iconst 0, 1) := by decide +kernel
theorem d_M_chosen_110 : decode b_M_chosen 110 = .ok (.baload, 1) := by decide +kernel
theorem d_M_chosen_111 : decode b_M_chosen 111 = .ok (.ifCond .ne 14, 3) := by decide +kernel
theorem d_M_chosen_114 : decode b_M_chosen 114 = .ok (.aload_n 0, 1) := by decide +kernel
theorem d_M_chosen_115 : decode b_M_chosen 115 = .ok (.getfield 54, 3) := by decide +kernel
theorem d_M_chosen_118 : decode b_M_chosen 118 = .ok (.iconst 1, 1) := by decide +kernel
end
section
theorem d_M_chosen_119 : decode b_M_chosen 119 = .ok (.baload, 1) := by decide +kernel
theorem d_M_chosen_120 : decode b_M_chosen 120 = .ok (.ifCond .ne 5, 3) := by decide +kernel
theorem d_M_chosen_123 : decode b_M_chosen 123 = .ok (.iconst (-1), 1) := by decide +kernel
theorem d_M_chosen_124 : decode b_M_chosen 124 = .ok (.ireturn, 1) := by decide +kernel
theorem d_M_chosen_125 : decode b_M_chosen 125 = .ok (.aload_n 0, 1) := by decide +kernel
theorem d_M_chosen_126 : decode b_M_chosen 126 = .ok (.getfield 60, 3) := by decide +kernel
theorem d_M_chosen_129 : decode b_M_chosen 129 = .ok (.iconst 0, 1) := by decide +kernel
theorem d_M_chosen_130 : decode b_M_chosen 130 = .ok (.baload, 1) := by decide +kernel
theorem d_M_chosen_131 : decode b_M_chosen 131 = .ok (.aload_n 0, 1) := by decide +kernel
theorem d_M_chosen_132 : decode b_M_chosen 132 = .ok (.getfield 60, 3) := by decide +kernel
theorem d_M_chosen_135 : decode b_M_chosen 135 = .ok (.iconst 1, 1) := by decide +kernel
theorem d_M_chosen_136 : decode b_M_chosen 136 = .ok (.baload, 1) := by decide +kernel
theorem d_M_chosen_137 : decode b_M_chosen 137 = .ok (.if_icmp .eq 18, 3) := by decide +kernel
theorem d_M_chosen_140 : decode b_M_chosen 140 = .ok (.aload_n 0, 1) := by decide +kernel
theorem d_M_chosen_141 : decode b_M_chosen 141 = .ok (.getfield 60, 3) := by decide +kernel
theorem d_M_chosen_144 : decode b_M_chosen 144 = .ok (.iconst 0, 1) := by decide +kernel
theorem d_M_chosen_145 : decode b_M_chosen 145 = .ok (.baload, 1) := by decide +kernel
theorem d_M_chosen_146 : decode b_M_chosen 146 = .ok (.ifCond .eq 7, 3) := by decide +kernel
theorem d_M_chosen_149 : decode b_M_chosen 149 = .ok (.iconst 0, 1) := by decide +kernel
theorem d_M_chosen_150 : decode b_M_chosen 150 = .ok (.goto 4, 3) := by decide +kernel
theorem d_M_chosen_153 : decode b_M_chosen 153 = .ok (.iconst 1, 1) := by decide +kernel
theorem d_M_chosen_154 : decode b_M_chosen 154 = .ok (.ireturn, 1) := by decide +kernel
theorem d_M_chosen_155 : decode b_M_chosen 155 = .ok (.aload_n 0, 1) := by decide +kernel
theorem d_M_chosen_156 : decode b_M_chosen 156 = .ok (.getfield 54, 3) := by decide +kernel
theorem d_M_chosen_159 : decode b_M_chosen 159 = .ok (.iconst 0, 1) := by decide +kernel
theorem d_M_chosen_160 : decode b_M_chosen 160 = .ok (.baload, 1) := by decide +kernel
theorem d_M_chosen_161 : decode b_M_chosen 161 = .ok (.ifCond .eq 7, 3) := by decide +kernel
theorem d_M_chosen_164 : decode b_M_chosen 164 = .ok (.iconst 0, 1) := by decide +kernel
theorem d_M_chosen_165 : decode b_M_chosen 165 = .ok (.goto 4, 3) := by decide +kernel
theorem d_M_chosen_168 : decode b_M_chosen 168 = .ok (.iconst 1, 1) := by decide +kernel
theorem d_M_chosen_169 : decode b_M_chosen 169 = .ok (.ireturn, 1) := by decide +kernel
theorem d_M_connect_0 : decode b_M_connect 0 = .ok (.aload_n 0, 1) := by decide +kernel
theorem d_M_connect_1 : decode b_M_connect 1 = .ok (.getfield 57, 3) := by decide +kernel
theorem d_M_connect_4 : decode b_M_connect 4 = .ok (.iconst 0, 1) := by decide +kernel
theorem d_M_connect_5 : decode b_M_connect 5 = .ok (.baload, 1) := by decide +kernel
theorem d_M_connect_6 : decode b_M_connect 6 = .ok (.ifCond .eq 12, 3) := by decide +kernel
theorem d_M_connect_9 : decode b_M_connect 9 = .ok (.aload_n 0, 1) := by decide +kernel
theorem d_M_connect_10 : decode b_M_connect 10 = .ok (.getfield 57, 3) := by decide +kernel
theorem d_M_connect_13 : decode b_M_connect 13 = .ok (.iconst 1, 1) := by decide +kernel
theorem d_M_connect_14 : decode b_M_connect 14 = .ok (.baload, 1) := by decide +kernel
theorem d_M_connect_15 : decode b_M_connect 15 = .ok (.ifCond .ne 6, 3) := by decide +kernel
theorem d_M_connect_18 : decode b_M_connect 18 = .ok (.bipush (-2), 2) := by decide +kernel
theorem d_M_connect_20 : decode b_M_connect 20 = .ok (.ireturn, 1) := by decide +kernel
theorem d_M_connect_21 : decode b_M_connect 21 = .ok (.aload_n 0, 1) := by decide +kernel
theorem d_M_connect_22 : decode b_M_connect 22 = .ok (.getfield 109, 3) := by decide +kernel
theorem d_M_connect_25 : decode b_M_connect 25 = .ok (.ifCond .eq 6, 3) := by decide +kernel
theorem d_M_connect_28 : decode b_M_connect 28 = .ok (.bipush (-9), 2) := by decide +kernel
theorem d_M_connect_30 : decode b_M_connect 30 = .ok (.ireturn, 1) := by decide +kernel
theorem d_M_connect_31 : decode b_M_connect 31 = .ok (.aload_n 0, 1) := by decide +kernel
theorem d_M_connect_32 : decode b_M_connect 32 = .ok (.getfield 60, 3) := by decide +kernel
theorem d_M_connect_35 : decode b_M_connect 35 = .ok (.iconst 0, 1) := by decide +kernel
theorem d_M_connect_36 : decode b_M_connect 36 = .ok (.baload, 1) := by decide +kernel
theorem d_M_connect_37 : decode b_M_connect 37 = .ok (.ifCond .eq 15, 3) := by decide +kernel
theorem d_M_connect_40 : decode b_M_connect 40 = .ok (.aload_n 0, 1) := by decide +kernel
theorem d_M_connect_41 : decode b_M_connect 41 = .ok (.getfield 60, 3) := by decide +kernel
theorem d_M_connect_44 : decode b_M_connect 44 = .ok (.iconst 1, 1) := by decide +kernel
theorem d_M_connect_45 : decode b_M_connect 45 = .ok (.baload, 1) := by decide +kernel
theorem d_M_connect_46 : decode b_M_connect 46 = .ok (.ifCond .eq 6, 3) := by decide +kernel
theorem d_M_connect_49 : decode b_M_connect 49 = .ok (.bipush (-7), 2) := by decide +kernel
theorem d_M_connect_51 : decode b_M_connect 51 = .ok (.ireturn, 1) := by decide +kernel
theorem d_M_connect_52 : decode b_M_connect 52 = .ok (.aload_n 0, 1) := by decide +kernel
theorem d_M_connect_53 : decode b_M_connect 53 = .ok (.invokevirtual 143, 3) := by decide +kernel
theorem d_M_connect_56 : decode b_M_connect 56 = .ok (.istore_n 1, 1) := by decide +kernel
theorem d_M_connect_57 : decode b_M_connect 57 = .ok (.iload_n 1, 1) := by decide +kernel
theorem d_M_connect_58 : decode b_M_connect 58 = .ok (.bipush (-8), 2) := by decide +kernel
theorem d_M_connect_60 : decode b_M_connect 60 = .ok (.if_icmp .ne 6, 3) := by decide +kernel
theorem d_M_connect_63 : decode b_M_connect 63 = .ok (.bipush (-8), 2) := by decide +kernel
theorem d_M_connect_65 : decode b_M_connect 65 = .ok (.ireturn, 1) := by decide +kernel
theorem d_M_connect_66 : decode b_M_connect 66 = .ok (.iload_n 1, 1) := by decide +kernel
theorem d_M_connect_67 : decode b_M_connect 67 = .ok (.ifCond .lt 17, 3) := by decide +kernel
theorem d_M_connect_70 : decode b_M_connect 70 = .ok (.aload_n 0, 1) := by decide +kernel
theorem d_M_connect_71 : decode b_M_connect 71 = .ok (.getfield 60, 3) := by decide +kernel
theorem d_M_connect_74 : decode b_M_connect 74 = .ok (.iconst 1, 1) := by decide +kernel
theorem d_M_connect_75 : decode b_M_connect 75 = .ok (.iload_n 1, 1) := by decide +kernel
theorem d_M_connect_76 : decode b_M_connect 76 = .ok (.isub, 1) := by decide +kernel
theorem d_M_connect_77 : decode b_M_connect 77 = .ok (.baload, 1) := by decide +kernel
theorem d_M_connect_78 : decode b_M_connect 78 = .ok (.ifCond .eq 6, 3) := by decide +kernel
theorem d_M_connect_81 : decode b_M_connect 81 = .ok (.bipush (-10), 2) := by decide +kernel
theorem d_M_connect_83 : decode b_M_connect 83 = .ok (.ireturn, 1) := by decide +kernel
theorem d_M_connect_84 : decode b_M_connect 84 = .ok (.aload_n 0, 1) := by decide +kernel
theorem d_M_connect_85 : decode b_M_connect 85 = .ok (.iconst 1, 1) := by decide +kernel
theorem d_M_connect_86 : decode b_M_connect 86 = .ok (.putfield 109, 3) := by decide +kernel
theorem d_M_connect_89 : decode b_M_connect 89 = .ok (.iload_n 1, 1) := by decide +kernel
theorem d_M_connect_90 : decode b_M_connect 90 = .ok (.ifCond .ge 5, 3) := by decide +kernel
theorem d_M_connect_93 : decode b_M_connect 93 = .ok (.iconst 0, 1) := by decide +kernel
theorem d_M_connect_94 : decode b_M_connect 94 = .ok (.ireturn, 1) := by decide +kernel
theorem d_M_connect_95 : decode b_M_connect 95 = .ok (.iconst 1, 1) := by decide +kernel
theorem d_M_connect_96 : decode b_M_connect 96 = .ok (.iload_n 1, 1) := by decide +kernel
theorem d_M_connect_97 : decode b_M_connect 97 = .ok (.isub, 1) := by decide +kernel
theorem d_M_connect_98 : decode b_M_connect 98 = .ok (.istore_n 2, 1) := by decide +kernel
theorem d_M_connect_99 : decode b_M_connect 99 = .ok (.aload_n 0, 1) := by decide +kernel
theorem d_M_connect_100 : decode b_M_connect 100 = .ok (.getfield 41, 3) := by decide +kernel
theorem d_M_connect_103 : decode b_M_connect 103 = .ok (.iload_n 2, 1) := by decide +kernel
theorem d_M_connect_104 : decode b_M_connect 104 = .ok (.iaload, 1) := by decide +kernel
theorem d_M_connect_105 : decode b_M_connect 105 = .ok (.ifCond .eq 33, 3) := by decide +kernel
theorem d_M_connect_108 : decode b_M_connect 108 = .ok (.aload_n 0, 1) := by decide +kernel
theorem d_M_connect_109 : decode b_M_connect 109 = .ok (.getfield 41, 3) := by decide +kernel
theorem d_M_connect_112 : decode b_M_connect 112 = .ok (.iload_n 2, 1) := by decide +kernel
theorem d_M_connect_113 : decode b_M_connect 113 = .ok (.iaload, 1) := by decide +kernel
theorem d_M_connect_114 : decode b_M_connect 114 = .ok (.aload_n 0, 1) := by decide +kernel
theorem d_M_connect_115 : decode b_M_connect 115 = .ok (.getfield 41, 3) := by decide +kernel
theorem d_M_connect_118 : decode b_M_connect 118 = .ok (.iload_n 1, 1) := by decide +kernel
theorem d_M_connect_119 : decode b_M_connect 119 = .ok (.iaload, 1) := by decide +kernel
theorem d_M_connect_120 : decode b_M_connect 120 = .ok (.if_icmp .eq 22, 3) := by decide +kernel
theorem d_M_connect_123 : decode b_M_connect 123 = .ok (.aload_n 0, 1) := by decide +kernel
theorem d_M_connect_124 : decode b_M_connect 124 = .ok (.getfield 41, 3) := by decide +kernel
theorem d_M_connect_127 : decode b_M_connect 127 = .ok (.iload_n 2, 1) := by decide +kernel
theorem d_M_connect_128 : decode b_M_connect 128 = .ok (.iaload, 1) := by decide +kernel
theorem d_M_connect_129 : decode b_M_connect 129 = .ok (.aload_n 0, 1) := by decide +kernel
theorem d_M_connect_130 : decode b_M_connect 130 = .ok (.getfield 44, 3) := by decide +kernel
theorem d_M_connect_133 : decode b_M_connect 133 = .ok (.iload_n 1, 1) := by decide +kernel
theorem d_M_connect_134 : decode b_M_connect 134 = .ok (.iaload, 1) := by decide +kernel
theorem d_M_connect_135 : decode b_M_connect 135 = .ok (.if_icmp .eq 7, 3) := by decide +kernel
theorem d_M_connect_138 : decode b_M_connect 138 = .ok (.iconst 1, 1) := by decide +kernel
theorem d_M_connect_139 : decode b_M_connect 139 = .ok (.goto 4, 3) := by decide +kernel
theorem d_M_connect_142 : decode b_M_connect 142 = .ok (.iconst 0, 1) := by decide +kernel
theorem d_M_connect_143 : decode b_M_connect 143 = .ok (.istore_n 3, 1) := by decide +kernel
theorem d_M_connect_144 : decode b_M_connect 144 = .ok (.iconst 0, 1) := by decide +kernel
theorem d_M_connect_145 : decode b_M_connect 145 = .ok (.istore 4, 2) := by decide +kernel
theorem d_M_connect_147 : decode b_M_connect 147 = .ok (.iload 4, 2) := by decide +kernel
theorem d_M_connect_149 : decode b_M_connect 149 = .ok (.bipush 32, 2) := by decide +kernel
theorem d_M_connect_151 : decode b_M_connect 151 = .ok (.if_icmp .ge 60, 3) := by decide +kernel
theorem d_M_connect_154 : decode b_M_connect 154 = .ok (.aload_n 0, 1) := by decide +kernel
theorem d_M_connect_155 : decode b_M_connect 155 = .ok (.getfield 32, 3) := by decide +kernel
theorem d_M_connect_158 : decode b_M_connect 158 = .ok (.bipush 32, 2) := by decide +kernel
theorem d_M_connect_160 : decode b_M_connect 160 = .ok (.iload_n 1, 1) := by decide +kernel
theorem d_M_connect_161 : decode b_M_connect 161 = .ok (.imul, 1) := by decide +kernel
theorem d_M_connect_162 : decode b_M_connect 162 = .ok (.iload 4, 2) := by decide +kernel
theorem d_M_connect_164 : decode b_M_connect 164 = .ok (.iadd, 1) := by decide +kernel
theorem d_M_connect_165 : decode b_M_connect 165 = .ok (.iload_n 3, 1) := by decide +kernel
theorem d_M_connect_166 : decode b_M_connect 166 = .ok (.ifCond .ne 33, 3) := by decide +kernel
theorem d_M_connect_169 : decode b_M_connect 169 = .ok (.aload_n 0, 1) := by decide +kernel
theorem d_M_connect_170 : decode b_M_connect 170 = .ok (.getfield 32, 3) := by decide +kernel
theorem d_M_connect_173 : decode b_M_connect 173 = .ok (.bipush 32, 2) := by decide +kernel
theorem d_M_connect_175 : decode b_M_connect 175 = .ok (.iload_n 1, 1) := by decide +kernel
theorem d_M_connect_176 : decode b_M_connect 176 = .ok (.imul, 1) := by decide +kernel
theorem d_M_connect_177 : decode b_M_connect 177 = .ok (.iload 4, 2) := by decide +kernel
theorem d_M_connect_179 : decode b_M_connect 179 = .ok (.iadd, 1) := by decide +kernel
theorem d_M_connect_180 : decode b_M_connect 180 = .ok (.baload, 1) := by decide +kernel
theorem d_M_connect_181 : decode b_M_connect 181 = .ok (.ifCond .ne 18, 3) := by decide +kernel
theorem d_M_connect_184 : decode b_M_connect 184 = .ok (.aload_n 0, 1) := by decide +kernel
theorem d_M_connect_185 : decode b_M_connect 185 = .ok (.getfield 32, 3) := by decide +kernel
theorem d_M_connect_188 : decode b_M_connect 188 = .ok (.bipush 32, 2) := by decide +kernel
theorem d_M_connect_190 : decode b_M_connect 190 = .ok (.iload_n 2, 1) := by decide +kernel
theorem d_M_connect_191 : decode b_M_connect 191 = .ok (.imul, 1) := by decide +kernel
theorem d_M_connect_192 : decode b_M_connect 192 = .ok (.iload 4, 2) := by decide +kernel
theorem d_M_connect_194 : decode b_M_connect 194 = .ok (.iadd, 1) := by decide +kernel
theorem d_M_connect_195 : decode b_M_connect 195 = .ok (.baload, 1) := by decide +kernel
theorem d_M_connect_196 : decode b_M_connect 196 = .ok (.ifCond .eq 7, 3) := by decide +kernel
theorem d_M_connect_199 : decode b_M_connect 199 = .ok (.iconst 1, 1) := by decide +kernel
theorem d_M_connect_200 : decode b_M_connect 200 = .ok (.goto 4, 3) := by decide +kernel
theorem d_M_connect_203 : decode b_M_connect 203 = .ok (.iconst 0, 1) := by decide +kernel
theorem d_M_connect_204 : decode b_M_connect 204 = .ok (.bastore, 1) := by decide +kernel
theorem d_M_connect_205 : decode b_M_connect 205 = .ok (.iinc 4 1, 3) := by decide +kernel
theorem d_M_connect_208 : decode b_M_connect 208 = .ok (.goto (-61), 3) := by decide +kernel
theorem d_M_connect_211 : decode b_M_connect 211 = .ok (.aload_n 0, 1) := by decide +kernel
theorem d_M_connect_212 : decode b_M_connect 212 = .ok (.getfield 63, 3) := by decide +kernel
theorem d_M_connect_215 : decode b_M_connect 215 = .ok (.iload_n 1, 1) := by decide +kernel
theorem d_M_connect_216 : decode b_M_connect 216 = .ok (.iconst 1, 1) := by decide +kernel
theorem d_M_connect_217 : decode b_M_connect 217 = .ok (.bastore, 1) := by decide +kernel
theorem d_M_connect_218 : decode b_M_connect 218 = .ok (.aload_n 0, 1) := by decide +kernel
theorem d_M_connect_219 : decode b_M_connect 219 = .ok (.getfield 66, 3) := by decide +kernel
theorem d_M_connect_222 : decode b_M_connect 222 = .ok (.iload_n 2, 1) := by decide +kernel
theorem d_M_connect_223 : decode b_M_connect 223 = .ok (.iconst 1, 1) := by decide +kernel
theorem d_M_connect_224 : decode b_M_connect 224 = .ok (.bastore, 1) := by decide +kernel
theorem d_M_connect_225 : decode b_M_connect 225 = .ok (.aload_n 0, 1) := by decide +kernel
theorem d_M_connect_226 : decode b_M_connect 226 = .ok (.getfield 51, 3) := by decide +kernel
theorem d_M_connect_229 : decode b_M_connect 229 = .ok (.iload_n 2, 1) := by decide +kernel
theorem d_M_connect_230 : decode b_M_connect 230 = .ok (.iconst 1, 1) := by decide +kernel
theorem d_M_connect_231 : decode b_M_connect 231 = .ok (.bastore, 1) := by decide +kernel
theorem d_M_connect_232 : decode b_M_connect 232 = .ok (.aload_n 0, 1) := by decide +kernel
theorem d_M_connect_233 : decode b_M_connect 233 = .ok (.iload_n 1, 1) := by decide +kernel
theorem d_M_connect_234 : decode b_M_connect 234 = .ok (.invokevirtual 136, 3) := by decide +kernel
theorem d_M_connect_237 : decode b_M_connect 237 = .ok (.iconst 1, 1) := by decide +kernel
theorem d_M_connect_238 : decode b_M_connect 238 = .ok (.iload_n 1, 1) := by decide +kernel
theorem d_M_connect_239 : decode b_M_connect 239 = .ok (.iadd, 1) := by decide +kernel
theorem d_M_connect_240 : decode b_M_connect 240 = .ok (.ireturn, 1) := by decide +kernel
theorem d_M_cut_0 : decode b_M_cut 0 = .ok (.aload_n 0, 1) := by decide +kernel
theorem d_M_cut_1 : decode b_M_cut 1 = .ok (.getfield 109, 3) := by decide +kernel
theorem d_M_cut_4 : decode b_M_cut 4 = .ok (.ifCond .ne 5, 3) := by decide +kernel
theorem d_M_cut_7 : decode b_M_cut 7 = .ok (.iconst 0, 1) := by decide +kernel
theorem d_M_cut_8 : decode b_M_cut 8 = .ok (.ireturn, 1) := by decide +kernel
theorem d_M_cut_9 : decode b_M_cut 9 = .ok (.aload_n 0, 1) := by decide +kernel
theorem d_M_cut_10 : decode b_M_cut 10 = .ok (.invokevirtual 147, 3) := by decide +kernel
theorem d_M_cut_13 : decode b_M_cut 13 = .ok (.iconst 1, 1) := by decide +kernel
theorem d_M_cut_14 : decode b_M_cut 14 = .ok (.ireturn, 1) := by decide +kernel
theorem d_M_crash_0 : decode b_M_crash 0 = .ok (.iload_n 1, 1) := by decide +kernel
theorem d_M_crash_1 : decode b_M_crash 1 = .ok (.invokestatic 117, 3) := by decide +kernel
theorem d_M_crash_4 : decode b_M_crash 4 = .ok (.ifCond .eq 12, 3) := by decide +kernel
theorem d_M_crash_7 : decode b_M_crash 7 = .ok (.aload_n 0, 1) := by decide +kernel
theorem d_M_crash_8 : decode b_M_crash 8 = .ok (.getfield 57, 3) := by decide +kernel
theorem d_M_crash_11 : decode b_M_crash 11 = .ok (.iload_n 1, 1) := by decide +kernel
theorem d_M_crash_12 : decode b_M_crash 12 = .ok (.baload, 1) := by decide +kernel
theorem d_M_crash_13 : decode b_M_crash 13 = .ok (.ifCond .ne 5, 3) := by decide +kernel
theorem d_M_crash_16 : decode b_M_crash 16 = .ok (.iconst 0, 1) := by decide +kernel
theorem d_M_crash_17 : decode b_M_crash 17 = .ok (.ireturn, 1) := by decide +kernel
theorem d_M_crash_18 : decode b_M_crash 18 = .ok (.aload_n 0, 1) := by decide +kernel
theorem d_M_crash_19 : decode b_M_crash 19 = .ok (.getfield 57, 3) := by decide +kernel
theorem d_M_crash_22 : decode b_M_crash 22 = .ok (.iload_n 1, 1) := by decide +kernel
theorem d_M_crash_23 : decode b_M_crash 23 = .ok (.iconst 0, 1) := by decide +kernel
theorem d_M_crash_24 : decode b_M_crash 24 = .ok (.bastore, 1) := by decide +kernel
theorem d_M_crash_25 : decode b_M_crash 25 = .ok (.aload_n 0, 1) := by decide +kernel
theorem d_M_crash_26 : decode b_M_crash 26 = .ok (.iload_n 1, 1) := by decide +kernel
theorem d_M_crash_27 : decode b_M_crash 27 = .ok (.iconst 1, 1) := by decide +kernel
theorem d_M_crash_28 : decode b_M_crash 28 = .ok (.iconst 4, 1) := by decide +kernel
theorem d_M_crash_29 : decode b_M_crash 29 = .ok (.invokevirtual 101, 3) := by decide +kernel
theorem d_M_crash_32 : decode b_M_crash 32 = .ok (.aload_n 0, 1) := by decide +kernel
theorem d_M_crash_33 : decode b_M_crash 33 = .ok (.iload_n 1, 1) := by decide +kernel
theorem d_M_crash_34 : decode b_M_crash 34 = .ok (.iconst 3, 1) := by decide +kernel
theorem d_M_crash_35 : decode b_M_crash 35 = .ok (.iconst 4, 1) := by decide +kernel
theorem d_M_crash_36 : decode b_M_crash 36 = .ok (.invokevirtual 101, 3) := by decide +kernel
theorem d_M_crash_39 : decode b_M_crash 39 = .ok (.aload_n 0, 1) := by decide +kernel
theorem d_M_crash_40 : decode b_M_crash 40 = .ok (.getfield 54, 3) := by decide +kernel
theorem d_M_crash_43 : decode b_M_crash 43 = .ok (.iload_n 1, 1) := by decide +kernel
theorem d_M_crash_44 : decode b_M_crash 44 = .ok (.aload_n 0, 1) := by decide +kernel
theorem d_M_crash_45 : decode b_M_crash 45 = .ok (.getfield 54, 3) := by decide +kernel
theorem d_M_crash_48 : decode b_M_crash 48 = .ok (.iload_n 1, 1) := by decide +kernel
theorem d_M_crash_49 : decode b_M_crash 49 = .ok (.baload, 1) := by decide +kernel
theorem d_M_crash_50 : decode b_M_crash 50 = .ok (.ifCond .ne 12, 3) := by decide +kernel
theorem d_M_crash_53 : decode b_M_crash 53 = .ok (.aload_n 0, 1) := by decide +kernel
theorem d_M_crash_54 : decode b_M_crash 54 = .ok (.getfield 60, 3) := by decide +kernel
theorem d_M_crash_57 : decode b_M_crash 57 = .ok (.iload_n 1, 1) := by decide +kernel
theorem d_M_crash_58 : decode b_M_crash 58 = .ok (.baload, 1) := by decide +kernel
theorem d_M_crash_59 : decode b_M_crash 59 = .ok (.ifCond .eq 7, 3) := by decide +kernel
theorem d_M_crash_62 : decode b_M_crash 62 = .ok (.iconst 1, 1) := by decide +kernel
theorem d_M_crash_63 : decode b_M_crash 63 = .ok (.goto 4, 3) := by decide +kernel
theorem d_M_crash_66 : decode b_M_crash 66 = .ok (.iconst 0, 1) := by decide +kernel
theorem d_M_crash_67 : decode b_M_crash 67 = .ok (.bastore, 1) := by decide +kernel
theorem d_M_crash_68 : decode b_M_crash 68 = .ok (.aload_n 0, 1) := by decide +kernel
theorem d_M_crash_69 : decode b_M_crash 69 = .ok (.getfield 60, 3) := by decide +kernel
theorem d_M_crash_72 : decode b_M_crash 72 = .ok (.iload_n 1, 1) := by decide +kernel
theorem d_M_crash_73 : decode b_M_crash 73 = .ok (.iconst 0, 1) := by decide +kernel
theorem d_M_crash_74 : decode b_M_crash 74 = .ok (.bastore, 1) := by decide +kernel
theorem d_M_crash_75 : decode b_M_crash 75 = .ok (.aload_n 0, 1) := by decide +kernel
theorem d_M_crash_76 : decode b_M_crash 76 = .ok (.getfield 109, 3) := by decide +kernel
theorem d_M_crash_79 : decode b_M_crash 79 = .ok (.ifCond .eq 7, 3) := by decide +kernel
theorem d_M_crash_82 : decode b_M_crash 82 = .ok (.aload_n 0, 1) := by decide +kernel
theorem d_M_crash_83 : decode b_M_crash 83 = .ok (.invokevirtual 147, 3) := by decide +kernel
theorem d_M_crash_86 : decode b_M_crash 86 = .ok (.iconst 1, 1) := by decide +kernel
theorem d_M_crash_87 : decode b_M_crash 87 = .ok (.ireturn, 1) := by decide +kernel
theorem d_M_restart_0 : decode b_M_restart 0 = .ok (.iload_n 1, 1) := by decide +kernel
theorem d_M_restart_1 : decode b_M_restart 1 = .ok (.invokestatic 117, 3) := by decide +kernel
theorem d_M_restart_4 : decode b_M_restart 4 = .ok (.ifCond .eq 12, 3) := by decide +kernel
theorem d_M_restart_7 : decode b_M_restart 7 = .ok (.aload_n 0, 1) := by decide +kernel
theorem d_M_restart_8 : decode b_M_restart 8 = .ok (.getfield 57, 3) := by decide +kernel
theorem d_M_restart_11 : decode b_M_restart 11 = .ok (.iload_n 1, 1) := by decide +kernel
theorem d_M_restart_12 : decode b_M_restart 12 = .ok (.baload, 1) := by decide +kernel
theorem d_M_restart_13 : decode b_M_restart 13 = .ok (.ifCond .eq 5, 3) := by decide +kernel
theorem d_M_restart_16 : decode b_M_restart 16 = .ok (.iconst 0, 1) := by decide +kernel
theorem d_M_restart_17 : decode b_M_restart 17 = .ok (.ireturn, 1) := by decide +kernel
theorem d_M_restart_18 : decode b_M_restart 18 = .ok (.aload_n 0, 1) := by decide +kernel
theorem d_M_restart_19 : decode b_M_restart 19 = .ok (.getfield 57, 3) := by decide +kernel
theorem d_M_restart_22 : decode b_M_restart 22 = .ok (.iload_n 1, 1) := by decide +kernel
theorem d_M_restart_23 : decode b_M_restart 23 = .ok (.iconst 1, 1) := by decide +kernel
theorem d_M_restart_24 : decode b_M_restart 24 = .ok (.bastore, 1) := by decide +kernel
theorem d_M_restart_25 : decode b_M_restart 25 = .ok (.iconst 0, 1) := by decide +kernel
theorem d_M_restart_26 : decode b_M_restart 26 = .ok (.istore_n 2, 1) := by decide +kernel
theorem d_M_restart_27 : decode b_M_restart 27 = .ok (.iload_n 2, 1) := by decide +kernel
theorem d_M_restart_28 : decode b_M_restart 28 = .ok (.bipush 32, 2) := by decide +kernel
theorem d_M_restart_30 : decode b_M_restart 30 = .ok (.if_icmp .ge 46, 3) := by decide +kernel
theorem d_M_restart_33 : decode b_M_restart 33 = .ok (.aload_n 0, 1) := by decide +kernel
theorem d_M_restart_34 : decode b_M_restart 34 = .ok (.getfield 54, 3) := by decide +kernel
theorem d_M_restart_37 : decode b_M_restart 37 = .ok (.iload_n 1, 1) := by decide +kernel
theorem d_M_restart_38 : decode b_M_restart 38 = .ok (.baload, 1) := by decide +kernel
theorem d_M_restart_39 : decode b_M_restart 39 = .ok (.ifCond .eq 31, 3) := by decide +kernel
theorem d_M_restart_42 : decode b_M_restart 42 = .ok (.aload_n 0, 1) := by decide +kernel
theorem d_M_restart_43 : decode b_M_restart 43 = .ok (.getfield 35, 3) := by decide +kernel
theorem d_M_restart_46 : decode b_M_restart 46 = .ok (.bipush 8, 2) := by decide +kernel
theorem d_M_restart_48 : decode b_M_restart 48 = .ok (.iload_n 1, 1) := by decide +kernel
theorem d_M_restart_49 : decode b_M_restart 49 = .ok (.imul, 1) := by decide +kernel
theorem d_M_restart_50 : decode b_M_restart 50 = .ok (.iload_n 2, 1) := by decide +kernel
theorem d_M_restart_51 : decode b_M_restart 51 = .ok (.iconst 4, 1) := by decide +kernel
theorem d_M_restart_52 : decode b_M_restart 52 = .ok (.idiv, 1) := by decide +kernel
theorem d_M_restart_53 : decode b_M_restart 53 = .ok (.iadd, 1) := by decide +kernel
theorem d_M_restart_54 : decode b_M_restart 54 = .ok (.baload, 1) := by decide +kernel
theorem d_M_restart_55 : decode b_M_restart 55 = .ok (.ifCond .eq 15, 3) := by decide +kernel
theorem d_M_restart_58 : decode b_M_restart 58 = .ok (.aload_n 0, 1) := by decide +kernel
theorem d_M_restart_59 : decode b_M_restart 59 = .ok (.getfield 32, 3) := by decide +kernel
theorem d_M_restart_62 : decode b_M_restart 62 = .ok (.bipush 32, 2) := by decide +kernel
theorem d_M_restart_64 : decode b_M_restart 64 = .ok (.iload_n 1, 1) := by decide +kernel
theorem d_M_restart_65 : decode b_M_restart 65 = .ok (.imul, 1) := by decide +kernel
theorem d_M_restart_66 : decode b_M_restart 66 = .ok (.iload_n 2, 1) := by decide +kernel
theorem d_M_restart_67 : decode b_M_restart 67 = .ok (.iadd, 1) := by decide +kernel
theorem d_M_restart_68 : decode b_M_restart 68 = .ok (.iconst 1, 1) := by decide +kernel
theorem d_M_restart_69 : decode b_M_restart 69 = .ok (.bastore, 1) := by decide +kernel
theorem d_M_restart_70 : decode b_M_restart 70 = .ok (.iinc 2 1, 3) := by decide +kernel
theorem d_M_restart_73 : decode b_M_restart 73 = .ok (.goto (-46), 3) := by decide +kernel
theorem d_M_restart_76 : decode b_M_restart 76 = .ok (.iconst 1, 1) := by decide +kernel
theorem d_M_restart_77 : decode b_M_restart 77 = .ok (.ireturn, 1) := by decide +kernel
theorem d_M_promote_0 : decode b_M_promote 0 = .ok (.iload_n 1, 1) := by decide +kernel
theorem d_M_promote_1 : decode b_M_promote 1 = .ok (.invokestatic 117, 3) := by decide +kernel
theorem d_M_promote_4 : decode b_M_promote 4 = .ok (.ifCond .ne 5, 3) := by decide +kernel
theorem d_M_promote_7 : decode b_M_promote 7 = .ok (.iconst (-1), 1) := by decide +kernel
theorem d_M_promote_8 : decode b_M_promote 8 = .ok (.ireturn, 1) := by decide +kernel
theorem d_M_promote_9 : decode b_M_promote 9 = .ok (.aload_n 0, 1) := by decide +kernel
theorem d_M_promote_10 : decode b_M_promote 10 = .ok (.getfield 57, 3) := by decide +kernel
theorem d_M_promote_13 : decode b_M_promote 13 = .ok (.iload_n 1, 1) := by decide +kernel
theorem d_M_promote_14 : decode b_M_promote 14 = .ok (.baload, 1) := by decide +kernel
theorem d_M_promote_15 : decode b_M_promote 15 = .ok (.ifCond .ne 6, 3) := by decide +kernel
theorem d_M_promote_18 : decode b_M_promote 18 = .ok (.bipush (-2), 2) := by decide +kernel
theorem d_M_promote_20 : decode b_M_promote 20 = .ok (.ireturn, 1) := by decide +kernel
theorem d_M_promote_21 : decode b_M_promote 21 = .ok (.aload_n 0, 1) := by decide +kernel
theorem d_M_promote_22 : decode b_M_promote 22 = .ok (.getfield 51, 3) := by decide +kernel
theorem d_M_promote_25 : decode b_M_promote 25 = .ok (.iload_n 1, 1) := by decide +kernel
theorem d_M_promote_26 : decode b_M_promote 26 = .ok (.baload, 1) := by decide +kernel
theorem d_M_promote_27 : decode b_M_promote 27 = .ok (.ifCond .eq 6, 3) := by decide +kernel
theorem d_M_promote_30 : decode b_M_promote 30 = .ok (.bipush (-6), 2) := by decide +kernel
theorem d_M_promote_32 : decode b_M_promote 32 = .ok (.ireturn, 1) := by decide +kernel
theorem d_M_promote_33 : decode b_M_promote 33 = .ok (.aload_n 0, 1) := by decide +kernel
theorem d_M_promote_34 : decode b_M_promote 34 = .ok (.getfield 109, 3) := by decide +kernel
theorem d_M_promote_37 : decode b_M_promote 37 = .ok (.ifCond .eq 17, 3) := by decide +kernel
theorem d_M_promote_40 : decode b_M_promote 40 = .ok (.aload_n 0, 1) := by decide +kernel
theorem d_M_promote_41 : decode b_M_promote 41 = .ok (.getfield 60, 3) := by decide +kernel
theorem d_M_promote_44 : decode b_M_promote 44 = .ok (.iconst 1, 1) := by decide +kernel
theorem d_M_promote_45 : decode b_M_promote 45 = .ok (.iload_n 1, 1) := by decide +kernel
theorem d_M_promote_46 : decode b_M_promote 46 = .ok (.isub, 1) := by decide +kernel
theorem d_M_promote_47 : decode b_M_promote 47 = .ok (.baload, 1) := by decide +kernel
theorem d_M_promote_48 : decode b_M_promote 48 = .ok (.ifCond .eq 6, 3) := by decide +kernel
theorem d_M_promote_51 : decode b_M_promote 51 = .ok (.bipush (-7), 2) := by decide +kernel
theorem d_M_promote_53 : decode b_M_promote 53 = .ok (.ireturn, 1) := by decide +kernel
theorem d_M_promote_54 : decode b_M_promote 54 = .ok (.aload_n 0, 1) := by decide +kernel
theorem d_M_promote_55 : decode b_M_promote 55 = .ok (.getfield 60, 3) := by decide +kernel
theorem d_M_promote_58 : decode b_M_promote 58 = .ok (.iload_n 1, 1) := by decide +kernel
theorem d_M_promote_59 : decode b_M_promote 59 = .ok (.iconst 1, 1) := by decide +kernel
theorem d_M_promote_60 : decode b_M_promote 60 = .ok (.bastore, 1) := by decide +kernel
theorem d_M_promote_61 : decode b_M_promote 61 = .ok (.iconst 0, 1) := by decide +kernel
theorem d_M_promote_62 : decode b_M_promote 62 = .ok (.ireturn, 1) := by decide +kernel
theorem d_M_demote_0 : decode b_M_demote 0 = .ok (.iload_n 1, 1) := by decide +kernel
theorem d_M_demote_1 : decode b_M_demote 1 = .ok (.invokestatic 117, 3) := by decide +kernel
theorem d_M_demote_4 : decode b_M_demote 4 = .ok (.ifCond .ne 5, 3) := by decide +kernel
theorem d_M_demote_7 : decode b_M_demote 7 = .ok (.iconst (-1), 1) := by decide +kernel
theorem d_M_demote_8 : decode b_M_demote 8 = .ok (.ireturn, 1) := by decide +kernel
theorem d_M_demote_9 : decode b_M_demote 9 = .ok (.aload_n 0, 1) := by decide +kernel
theorem d_M_demote_10 : decode b_M_demote 10 = .ok (.getfield 57, 3) := by decide +kernel
theorem d_M_demote_13 : decode b_M_demote 13 = .ok (.iload_n 1, 1) := by decide +kernel
theorem d_M_demote_14 : decode b_M_demote 14 = .ok (.baload, 1) := by decide +kernel
theorem d_M_demote_15 : decode b_M_demote 15 = .ok (.ifCond .ne 6, 3) := by decide +kernel
theorem d_M_demote_18 : decode b_M_demote 18 = .ok (.bipush (-2), 2) := by decide +kernel
theorem d_M_demote_20 : decode b_M_demote 20 = .ok (.ireturn, 1) := by decide +kernel
theorem d_M_demote_21 : decode b_M_demote 21 = .ok (.aload_n 0, 1) := by decide +kernel
theorem d_M_demote_22 : decode b_M_demote 22 = .ok (.getfield 60, 3) := by decide +kernel
theorem d_M_demote_25 : decode b_M_demote 25 = .ok (.iload_n 1, 1) := by decide +kernel
theorem d_M_demote_26 : decode b_M_demote 26 = .ok (.baload, 1) := by decide +kernel
theorem d_M_demote_27 : decode b_M_demote 27 = .ok (.ifCond .ne 6, 3) := by decide +kernel
theorem d_M_demote_30 : decode b_M_demote 30 = .ok (.bipush (-3), 2) := by decide +kernel
theorem d_M_demote_32 : decode b_M_demote 32 = .ok (.ireturn, 1) := by decide +kernel
theorem d_M_demote_33 : decode b_M_demote 33 = .ok (.aload_n 0, 1) := by decide +kernel
theorem d_M_demote_34 : decode b_M_demote 34 = .ok (.iload_n 1, 1) := by decide +kernel
theorem d_M_demote_35 : decode b_M_demote 35 = .ok (.iconst 0, 1) := by decide +kernel
theorem d_M_demote_36 : decode b_M_demote 36 = .ok (.bipush 31, 2) := by decide +kernel
theorem d_M_demote_38 : decode b_M_demote 38 = .ok (.invokevirtual 90, 3) := by decide +kernel
theorem d_M_demote_41 : decode b_M_demote 41 = .ok (.ifCond .le 6, 3) := by decide +kernel
theorem d_M_demote_44 : decode b_M_demote 44 = .ok (.bipush (-5), 2) := by decide +kernel
theorem d_M_demote_46 : decode b_M_demote 46 = .ok (.ireturn, 1) := by decide +kernel
theorem d_M_demote_47 : decode b_M_demote 47 = .ok (.aload_n 0, 1) := by decide +kernel
theorem d_M_demote_48 : decode b_M_demote 48 = .ok (.getfield 60, 3) := by decide +kernel
theorem d_M_demote_51 : decode b_M_demote 51 = .ok (.iload_n 1, 1) := by decide +kernel
theorem d_M_demote_52 : decode b_M_demote 52 = .ok (.iconst 0, 1) := by decide +kernel
theorem d_M_demote_53 : decode b_M_demote 53 = .ok (.bastore, 1) := by decide +kernel
theorem d_M_demote_54 : decode b_M_demote 54 = .ok (.iconst 0, 1) := by decide +kernel
theorem d_M_demote_55 : decode b_M_demote 55 = .ok (.ireturn, 1) := by decide +kernel
theorem d_M_discard_0 : decode b_M_discard 0 = .ok (.iload_n 1, 1) := by decide +kernel
theorem d_M_discard_1 : decode b_M_discard 1 = .ok (.invokestatic 117, 3) := by decide +kernel
theorem d_M_discard_4 : decode b_M_discard 4 = .ok (.ifCond .eq 39, 3) := by decide +kernel
theorem d_M_discard_7 : decode b_M_discard 7 = .ok (.aload_n 0, 1) := by decide +kernel
theorem d_M_discard_8 : decode b_M_discard 8 = .ok (.getfield 57, 3) := by decide +kernel
theorem d_M_discard_11 : decode b_M_discard 11 = .ok (.iload_n 1, 1) := by decide +kernel
theorem d_M_discard_12 : decode b_M_discard 12 = .ok (.baload, 1) := by decide +kernel
theorem d_M_discard_13 : decode b_M_discard 13 = .ok (.ifCond .eq 30, 3) := by decide +kernel
theorem d_M_discard_16 : decode b_M_discard 16 = .ok (.aload_n 0, 1) := by decide +kernel
theorem d_M_discard_17 : decode b_M_discard 17 = .ok (.getfield 60, 3) := by decide +kernel
theorem d_M_discard_20 : decode b_M_discard 20 = .ok (.iload_n 1, 1) := by decide +kernel
theorem d_M_discard_21 : decode b_M_discard 21 = .ok (.baload, 1) := by decide +kernel
theorem d_M_discard_22 : decode b_M_discard 22 = .ok (.ifCond .ne 21, 3) := by decide +kernel
theorem d_M_discard_25 : decode b_M_discard 25 = .ok (.aload_n 0, 1) := by decide +kernel
theorem d_M_discard_26 : decode b_M_discard 26 = .ok (.getfield 109, 3) := by decide +kernel
theorem d_M_discard_29 : decode b_M_discard 29 = .ok (.ifCond .ne 14, 3) := by decide +kernel
theorem d_M_discard_32 : decode b_M_discard 32 = .ok (.aload_n 0, 1) := by decide +kernel
theorem d_M_discard_33 : decode b_M_discard 33 = .ok (.getfield 51, 3) := by decide +kernel
theorem d_M_discard_36 : decode b_M_discard 36 = .ok (.iconst 1, 1) := by decide +kernel
theorem d_M_discard_37 : decode b_M_discard 37 = .ok (.iload_n 1, 1) := by decide +kernel
theorem d_M_discard_38 : decode b_M_discard 38 = .ok (.isub, 1) := by decide +kernel
theorem d_M_discard_39 : decode b_M_discard 39 = .ok (.baload, 1) := by decide +kernel
theorem d_M_discard_40 : decode b_M_discard 40 = .ok (.ifCond .eq 5, 3) := by decide +kernel
theorem d_M_discard_43 : decode b_M_discard 43 = .ok (.iconst 0, 1) := by decide +kernel
theorem d_M_discard_44 : decode b_M_discard 44 = .ok (.ireturn, 1) := by decide +kernel
theorem d_M_discard_45 : decode b_M_discard 45 = .ok (.aload_n 0, 1) := by decide +kernel
theorem d_M_discard_46 : decode b_M_discard 46 = .ok (.getfield 51, 3) := by decide +kernel
theorem d_M_discard_49 : decode b_M_discard 49 = .ok (.iload_n 1, 1) := by decide +kernel
theorem d_M_discard_50 : decode b_M_discard 50 = .ok (.iconst 1, 1) := by decide +kernel
theorem d_M_discard_51 : decode b_M_discard 51 = .ok (.bastore, 1) := by decide +kernel
theorem d_M_discard_52 : decode b_M_discard 52 = .ok (.aload_n 0, 1) := by decide +kernel
theorem d_M_discard_53 : decode b_M_discard 53 = .ok (.getfield 54, 3) := by decide +kernel
theorem d_M_discard_56 : decode b_M_discard 56 = .ok (.iload_n 1, 1) := by decide +kernel
theorem d_M_discard_57 : decode b_M_discard 57 = .ok (.iconst 0, 1) := by decide +kernel
theorem d_M_discard_58 : decode b_M_discard 58 = .ok (.bastore, 1) := by decide +kernel
theorem d_M_discard_59 : decode b_M_discard 59 = .ok (.aload_n 0, 1) := by decide +kernel
theorem d_M_discard_60 : decode b_M_discard 60 = .ok (.getfield 41, 3) := by decide +kernel
theorem d_M_discard_63 : decode b_M_discard 63 = .ok (.iload_n 1, 1) := by decide +kernel
theorem d_M_discard_64 : decode b_M_discard 64 = .ok (.iconst 0, 1) := by decide +kernel
theorem d_M_discard_65 : decode b_M_discard 65 = .ok (.iastore, 1) := by decide +kernel
theorem d_M_discard_66 : decode b_M_discard 66 = .ok (.aload_n 0, 1) := by decide +kernel
theorem d_M_discard_67 : decode b_M_discard 67 = .ok (.getfield 44, 3) := by decide +kernel
theorem d_M_discard_70 : decode b_M_discard 70 = .ok (.iload_n 1, 1) := by decide +kernel
theorem d_M_discard_71 : decode b_M_discard 71 = .ok (.iconst 0, 1) := by decide +kernel
theorem d_M_discard_72 : decode b_M_discard 72 = .ok (.iastore, 1) := by decide +kernel
theorem d_M_discard_73 : decode b_M_discard 73 = .ok (.iconst 0, 1) := by decide +kernel
theorem d_M_discard_74 : decode b_M_discard 74 = .ok (.istore_n 2, 1) := by decide +kernel
theorem d_M_discard_75 : decode b_M_discard 75 = .ok (.iload_n 2, 1) := by decide +kernel
theorem d_M_discard_76 : decode b_M_discard 76 = .ok (.bipush 32, 2) := by decide +kernel
theorem d_M_discard_78 : decode b_M_discard 78 = .ok (.if_icmp .ge 21, 3) := by decide +kernel
theorem d_M_discard_81 : decode b_M_discard 81 = .ok (.aload_n 0, 1) := by decide +kernel
theorem d_M_discard_82 : decode b_M_discard 82 = .ok (.getfield 32, 3) := by decide +kernel
theorem d_M_discard_85 : decode b_M_discard 85 = .ok (.bipush 32, 2) := by decide +kernel
theorem d_M_discard_87 : decode b_M_discard 87 = .ok (.iload_n 1, 1) := by decide +kernel
theorem d_M_discard_88 : decode b_M_discard 88 = .ok (.imul, 1) := by decide +kernel
theorem d_M_discard_89 : decode b_M_discard 89 = .ok (.iload_n 2, 1) := by decide +kernel
theorem d_M_discard_90 : decode b_M_discard 90 = .ok (.iadd, 1) := by decide +kernel
theorem d_M_discard_91 : decode b_M_discard 91 = .ok (.iconst 0, 1) := by decide +kernel
theorem d_M_discard_92 : decode b_M_discard 92 = .ok (.bastore, 1) := by decide +kernel
theorem d_M_discard_93 : decode b_M_discard 93 = .ok (.iinc 2 1, 3) := by decide +kernel
theorem d_M_discard_96 : decode b_M_discard 96 = .ok (.goto (-21), 3) := by decide +kernel
theorem d_M_discard_99 : decode b_M_discard 99 = .ok (.aload_n 0, 1) := by decide +kernel
theorem d_M_discard_100 : decode b_M_discard 100 = .ok (.iload_n 1, 1) := by decide +kernel
theorem d_M_discard_101 : decode b_M_discard 101 = .ok (.iconst 3, 1) := by decide +kernel
theorem d_M_discard_102 : decode b_M_discard 102 = .ok (.iconst 4, 1) := by decide +kernel
theorem d_M_discard_103 : decode b_M_discard 103 = .ok (.invokevirtual 101, 3) := by decide +kernel
theorem d_M_discard_106 : decode b_M_discard 106 = .ok (.iconst 1, 1) := by decide +kernel
theorem d_M_discard_107 : decode b_M_discard 107 = .ok (.ireturn, 1) := by decide +kernel
theorem d_M_disk_0 : decode b_M_disk 0 = .ok (.iload_n 1, 1) := by decide +kernel
theorem d_M_disk_1 : decode b_M_disk 1 = .ok (.invokestatic 117, 3) := by decide +kernel
theorem d_M_disk_4 : decode b_M_disk 4 = .ok (.ifCond .eq 24, 3) := by decide +kernel
theorem d_M_disk_7 : decode b_M_disk 7 = .ok (.iload_n 2, 1) := by decide +kernel
theorem d_M_disk_8 : decode b_M_disk 8 = .ok (.invokestatic 120, 3) := by decide +kernel
theorem d_M_disk_11 : decode b_M_disk 11 = .ok (.ifCond .eq 17, 3) := by decide +kernel
theorem d_M_disk_14 : decode b_M_disk 14 = .ok (.aload_n 0, 1) := by decide +kernel
theorem d_M_disk_15 : decode b_M_disk 15 = .ok (.getfield 29, 3) := by decide +kernel
theorem d_M_disk_18 : decode b_M_disk 18 = .ok (.bipush 32, 2) := by decide +kernel
theorem d_M_disk_20 : decode b_M_disk 20 = .ok (.iload_n 1, 1) := by decide +kernel
theorem d_M_disk_21 : decode b_M_disk 21 = .ok (.imul, 1) := by decide +kernel
theorem d_M_disk_22 : decode b_M_disk 22 = .ok (.iload_n 2, 1) := by decide +kernel
theorem d_M_disk_23 : decode b_M_disk 23 = .ok (.iadd, 1) := by decide +kernel
theorem d_M_disk_24 : decode b_M_disk 24 = .ok (.iaload, 1) := by decide +kernel
theorem d_M_disk_25 : decode b_M_disk 25 = .ok (.goto 4, 3) := by decide +kernel
theorem d_M_disk_28 : decode b_M_disk 28 = .ok (.iconst 0, 1) := by decide +kernel
theorem d_M_disk_29 : decode b_M_disk 29 = .ok (.ireturn, 1) := by decide +kernel
theorem d_M_fate_0 : decode b_M_fate 0 = .ok (.iload_n 1, 1) := by decide +kernel
theorem d_M_fate_1 : decode b_M_fate 1 = .ok (.iconst 1, 1) := by decide +kernel
theorem d_M_fate_2 : decode b_M_fate 2 = .ok (.if_icmp .lt 20, 3) := by decide +kernel
theorem d_M_fate_5 : decode b_M_fate 5 = .ok (.iload_n 1, 1) := by decide +kernel
end
section
theorem d_M_fate_6 : decode b_M_fate 6 = .ok (.aload_n 0, 1) := by decide +kernel
theorem d_M_fate_7 : decode b_M_fate 7 = .ok (.getfield 87, 3) := by decide +kernel
theorem d_M_fate_10 : decode b_M_fate 10 = .ok (.if_icmp .gt 12, 3) := by decide +kernel
theorem d_M_fate_13 : decode b_M_fate 13 = .ok (.aload_n 0, 1) := by decide +kernel
theorem d_M_fate_14 : decode b_M_fate 14 = .ok (.getfield 22, 3) := by decide +kernel
theorem d_M_fate_17 : decode b_M_fate 17 = .ok (.iload_n 1, 1) := by decide +kernel
theorem d_M_fate_18 : decode b_M_fate 18 = .ok (.iaload, 1) := by decide +kernel
theorem d_M_fate_19 : decode b_M_fate 19 = .ok (.goto 4, 3) := by decide +kernel
theorem d_M_fate_22 : decode b_M_fate 22 = .ok (.iconst 0, 1) := by decide +kernel
theorem d_M_fate_23 : decode b_M_fate 23 = .ok (.ireturn, 1) := by decide +kernel
theorem d_M_state_0 : decode b_M_state 0 = .ok (.iload_n 1, 1) := by decide +kernel
theorem d_M_state_1 : decode b_M_state 1 = .ok (.invokestatic 117, 3) := by decide +kernel
theorem d_M_state_4 : decode b_M_state 4 = .ok (.ifCond .ne 5, 3) := by decide +kernel
theorem d_M_state_7 : decode b_M_state 7 = .ok (.iconst (-1), 1) := by decide +kernel
theorem d_M_state_8 : decode b_M_state 8 = .ok (.ireturn, 1) := by decide +kernel
theorem d_M_state_9 : decode b_M_state 9 = .ok (.aload_n 0, 1) := by decide +kernel
theorem d_M_state_10 : decode b_M_state 10 = .ok (.getfield 57, 3) := by decide +kernel
theorem d_M_state_13 : decode b_M_state 13 = .ok (.iload_n 1, 1) := by decide +kernel
theorem d_M_state_14 : decode b_M_state 14 = .ok (.baload, 1) := by decide +kernel
theorem d_M_state_15 : decode b_M_state 15 = .ok (.ifCond .eq 7, 3) := by decide +kernel
theorem d_M_state_18 : decode b_M_state 18 = .ok (.iconst 1, 1) := by decide +kernel
theorem d_M_state_19 : decode b_M_state 19 = .ok (.goto 4, 3) := by decide +kernel
theorem d_M_state_22 : decode b_M_state 22 = .ok (.iconst 0, 1) := by decide +kernel
theorem d_M_state_23 : decode b_M_state 23 = .ok (.aload_n 0, 1) := by decide +kernel
theorem d_M_state_24 : decode b_M_state 24 = .ok (.getfield 60, 3) := by decide +kernel
theorem d_M_state_27 : decode b_M_state 27 = .ok (.iload_n 1, 1) := by decide +kernel
theorem d_M_state_28 : decode b_M_state 28 = .ok (.baload, 1) := by decide +kernel
theorem d_M_state_29 : decode b_M_state 29 = .ok (.ifCond .eq 7, 3) := by decide +kernel
theorem d_M_state_32 : decode b_M_state 32 = .ok (.iconst 2, 1) := by decide +kernel
theorem d_M_state_33 : decode b_M_state 33 = .ok (.goto 4, 3) := by decide +kernel
theorem d_M_state_36 : decode b_M_state 36 = .ok (.iconst 0, 1) := by decide +kernel
theorem d_M_state_37 : decode b_M_state 37 = .ok (.iadd, 1) := by decide +kernel
theorem d_M_state_38 : decode b_M_state 38 = .ok (.aload_n 0, 1) := by decide +kernel
theorem d_M_state_39 : decode b_M_state 39 = .ok (.getfield 51, 3) := by decide +kernel
theorem d_M_state_42 : decode b_M_state 42 = .ok (.iload_n 1, 1) := by decide +kernel
theorem d_M_state_43 : decode b_M_state 43 = .ok (.baload, 1) := by decide +kernel
theorem d_M_state_44 : decode b_M_state 44 = .ok (.ifCond .eq 7, 3) := by decide +kernel
theorem d_M_state_47 : decode b_M_state 47 = .ok (.iconst 4, 1) := by decide +kernel
theorem d_M_state_48 : decode b_M_state 48 = .ok (.goto 4, 3) := by decide +kernel
theorem d_M_state_51 : decode b_M_state 51 = .ok (.iconst 0, 1) := by decide +kernel
theorem d_M_state_52 : decode b_M_state 52 = .ok (.iadd, 1) := by decide +kernel
theorem d_M_state_53 : decode b_M_state 53 = .ok (.aload_n 0, 1) := by decide +kernel
theorem d_M_state_54 : decode b_M_state 54 = .ok (.getfield 54, 3) := by decide +kernel
theorem d_M_state_57 : decode b_M_state 57 = .ok (.iload_n 1, 1) := by decide +kernel
theorem d_M_state_58 : decode b_M_state 58 = .ok (.baload, 1) := by decide +kernel
theorem d_M_state_59 : decode b_M_state 59 = .ok (.ifCond .eq 8, 3) := by decide +kernel
theorem d_M_state_62 : decode b_M_state 62 = .ok (.bipush 8, 2) := by decide +kernel
theorem d_M_state_64 : decode b_M_state 64 = .ok (.goto 4, 3) := by decide +kernel
theorem d_M_state_67 : decode b_M_state 67 = .ok (.iconst 0, 1) := by decide +kernel
theorem d_M_state_68 : decode b_M_state 68 = .ok (.iadd, 1) := by decide +kernel
theorem d_M_state_69 : decode b_M_state 69 = .ok (.istore_n 2, 1) := by decide +kernel
theorem d_M_state_70 : decode b_M_state 70 = .ok (.iload_n 2, 1) := by decide +kernel
theorem d_M_state_71 : decode b_M_state 71 = .ok (.aload_n 0, 1) := by decide +kernel
theorem d_M_state_72 : decode b_M_state 72 = .ok (.getfield 109, 3) := by decide +kernel
theorem d_M_state_75 : decode b_M_state 75 = .ok (.ifCond .eq 8, 3) := by decide +kernel
theorem d_M_state_78 : decode b_M_state 78 = .ok (.bipush 16, 2) := by decide +kernel
theorem d_M_state_80 : decode b_M_state 80 = .ok (.goto 4, 3) := by decide +kernel
theorem d_M_state_83 : decode b_M_state 83 = .ok (.iconst 0, 1) := by decide +kernel
theorem d_M_state_84 : decode b_M_state 84 = .ok (.iadd, 1) := by decide +kernel
theorem d_M_state_85 : decode b_M_state 85 = .ok (.aload_n 0, 1) := by decide +kernel
theorem d_M_state_86 : decode b_M_state 86 = .ok (.getfield 63, 3) := by decide +kernel
theorem d_M_state_89 : decode b_M_state 89 = .ok (.iload_n 1, 1) := by decide +kernel
theorem d_M_state_90 : decode b_M_state 90 = .ok (.baload, 1) := by decide +kernel
theorem d_M_state_91 : decode b_M_state 91 = .ok (.ifCond .eq 8, 3) := by decide +kernel
theorem d_M_state_94 : decode b_M_state 94 = .ok (.bipush 32, 2) := by decide +kernel
theorem d_M_state_96 : decode b_M_state 96 = .ok (.goto 4, 3) := by decide +kernel
theorem d_M_state_99 : decode b_M_state 99 = .ok (.iconst 0, 1) := by decide +kernel
theorem d_M_state_100 : decode b_M_state 100 = .ok (.iadd, 1) := by decide +kernel
theorem d_M_state_101 : decode b_M_state 101 = .ok (.aload_n 0, 1) := by decide +kernel
theorem d_M_state_102 : decode b_M_state 102 = .ok (.getfield 66, 3) := by decide +kernel
theorem d_M_state_105 : decode b_M_state 105 = .ok (.iload_n 1, 1) := by decide +kernel
theorem d_M_state_106 : decode b_M_state 106 = .ok (.baload, 1) := by decide +kernel
theorem d_M_state_107 : decode b_M_state 107 = .ok (.ifCond .eq 8, 3) := by decide +kernel
theorem d_M_state_110 : decode b_M_state 110 = .ok (.bipush 64, 2) := by decide +kernel
theorem d_M_state_112 : decode b_M_state 112 = .ok (.goto 4, 3) := by decide +kernel
theorem d_M_state_115 : decode b_M_state 115 = .ok (.iconst 0, 1) := by decide +kernel
theorem d_M_state_116 : decode b_M_state 116 = .ok (.iadd, 1) := by decide +kernel
theorem d_M_state_117 : decode b_M_state 117 = .ok (.ireturn, 1) := by decide +kernel
theorem d_M_generation_0 : decode b_M_generation 0 = .ok (.iload_n 1, 1) := by decide +kernel
theorem d_M_generation_1 : decode b_M_generation 1 = .ok (.invokestatic 117, 3) := by decide +kernel
theorem d_M_generation_4 : decode b_M_generation 4 = .ok (.ifCond .eq 25, 3) := by decide +kernel
theorem d_M_generation_7 : decode b_M_generation 7 = .ok (.ldc2_w 150, 3) := by decide +kernel
theorem d_M_generation_10 : decode b_M_generation 10 = .ok (.aload_n 0, 1) := by decide +kernel
theorem d_M_generation_11 : decode b_M_generation 11 = .ok (.getfield 41, 3) := by decide +kernel
theorem d_M_generation_14 : decode b_M_generation 14 = .ok (.iload_n 1, 1) := by decide +kernel
theorem d_M_generation_15 : decode b_M_generation 15 = .ok (.iaload, 1) := by decide +kernel
theorem d_M_generation_16 : decode b_M_generation 16 = .ok (.i2l, 1) := by decide +kernel
theorem d_M_generation_17 : decode b_M_generation 17 = .ok (.lmul, 1) := by decide +kernel
theorem d_M_generation_18 : decode b_M_generation 18 = .ok (.aload_n 0, 1) := by decide +kernel
theorem d_M_generation_19 : decode b_M_generation 19 = .ok (.getfield 44, 3) := by decide +kernel
theorem d_M_generation_22 : decode b_M_generation 22 = .ok (.iload_n 1, 1) := by decide +kernel
theorem d_M_generation_23 : decode b_M_generation 23 = .ok (.iaload, 1) := by decide +kernel
theorem d_M_generation_24 : decode b_M_generation 24 = .ok (.i2l, 1) := by decide +kernel
theorem d_M_generation_25 : decode b_M_generation 25 = .ok (.ladd, 1) := by decide +kernel
theorem d_M_generation_26 : decode b_M_generation 26 = .ok (.goto 4, 3) := by decide +kernel
theorem d_M_generation_29 : decode b_M_generation 29 = .ok (.lconst 0, 1) := by decide +kernel
theorem d_M_generation_30 : decode b_M_generation 30 = .ok (.lreturn, 1) := by decide +kernel
theorem d_M_map_0 : decode b_M_map 0 = .ok (.iload_n 1, 1) := by decide +kernel
theorem d_M_map_1 : decode b_M_map 1 = .ok (.invokestatic 117, 3) := by decide +kernel
theorem d_M_map_4 : decode b_M_map 4 = .ok (.ifCond .ne 5, 3) := by decide +kernel
theorem d_M_map_7 : decode b_M_map 7 = .ok (.iconst 0, 1) := by decide +kernel
theorem d_M_map_8 : decode b_M_map 8 = .ok (.ireturn, 1) := by decide +kernel
theorem d_M_map_9 : decode b_M_map 9 = .ok (.iconst 0, 1) := by decide +kernel
theorem d_M_map_10 : decode b_M_map 10 = .ok (.istore_n 2, 1) := by decide +kernel
theorem d_M_map_11 : decode b_M_map 11 = .ok (.iconst 0, 1) := by decide +kernel
theorem d_M_map_12 : decode b_M_map 12 = .ok (.istore_n 3, 1) := by decide +kernel
theorem d_M_map_13 : decode b_M_map 13 = .ok (.iload_n 3, 1) := by decide +kernel
theorem d_M_map_14 : decode b_M_map 14 = .ok (.bipush 32, 2) := by decide +kernel
theorem d_M_map_16 : decode b_M_map 16 = .ok (.if_icmp .ge 33, 3) := by decide +kernel
theorem d_M_map_19 : decode b_M_map 19 = .ok (.aload_n 0, 1) := by decide +kernel
theorem d_M_map_20 : decode b_M_map 20 = .ok (.getfield 32, 3) := by decide +kernel
theorem d_M_map_23 : decode b_M_map 23 = .ok (.bipush 32, 2) := by decide +kernel
theorem d_M_map_25 : decode b_M_map 25 = .ok (.iload_n 1, 1) := by decide +kernel
theorem d_M_map_26 : decode b_M_map 26 = .ok (.imul, 1) := by decide +kernel
theorem d_M_map_27 : decode b_M_map 27 = .ok (.iload_n 3, 1) := by decide +kernel
theorem d_M_map_28 : decode b_M_map 28 = .ok (.iadd, 1) := by decide +kernel
theorem d_M_map_29 : decode b_M_map 29 = .ok (.baload, 1) := by decide +kernel
theorem d_M_map_30 : decode b_M_map 30 = .ok (.ifCond .eq 11, 3) := by decide +kernel
theorem d_M_map_33 : decode b_M_map 33 = .ok (.iload_n 2, 1) := by decide +kernel
theorem d_M_map_34 : decode b_M_map 34 = .ok (.iconst 1, 1) := by decide +kernel
theorem d_M_map_35 : decode b_M_map 35 = .ok (.iload_n 3, 1) := by decide +kernel
theorem d_M_map_36 : decode b_M_map 36 = .ok (.ishl, 1) := by decide +kernel
theorem d_M_map_37 : decode b_M_map 37 = .ok (.ior, 1) := by decide +kernel
theorem d_M_map_38 : decode b_M_map 38 = .ok (.goto 4, 3) := by decide +kernel
theorem d_M_map_41 : decode b_M_map 41 = .ok (.iload_n 2, 1) := by decide +kernel
theorem d_M_map_42 : decode b_M_map 42 = .ok (.istore_n 2, 1) := by decide +kernel
theorem d_M_map_43 : decode b_M_map 43 = .ok (.iinc 3 1, 3) := by decide +kernel
theorem d_M_map_46 : decode b_M_map 46 = .ok (.goto (-33), 3) := by decide +kernel
theorem d_M_map_49 : decode b_M_map 49 = .ok (.iload_n 2, 1) := by decide +kernel
theorem d_M_map_50 : decode b_M_map 50 = .ok (.ireturn, 1) := by decide +kernel
theorem d_M_log_0 : decode b_M_log 0 = .ok (.iload_n 1, 1) := by decide +kernel
theorem d_M_log_1 : decode b_M_log 1 = .ok (.invokestatic 117, 3) := by decide +kernel
theorem d_M_log_4 : decode b_M_log 4 = .ok (.ifCond .ne 5, 3) := by decide +kernel
theorem d_M_log_7 : decode b_M_log 7 = .ok (.iconst (-1), 1) := by decide +kernel
theorem d_M_log_8 : decode b_M_log 8 = .ok (.ireturn, 1) := by decide +kernel
theorem d_M_log_9 : decode b_M_log 9 = .ok (.iconst 0, 1) := by decide +kernel
theorem d_M_log_10 : decode b_M_log 10 = .ok (.istore_n 3, 1) := by decide +kernel
theorem d_M_log_11 : decode b_M_log 11 = .ok (.iload_n 3, 1) := by decide +kernel
theorem d_M_log_12 : decode b_M_log 12 = .ok (.bipush 8, 2) := by decide +kernel
theorem d_M_log_14 : decode b_M_log 14 = .ok (.if_icmp .ge 94, 3) := by decide +kernel
theorem d_M_log_17 : decode b_M_log 17 = .ok (.iconst 0, 1) := by decide +kernel
theorem d_M_log_18 : decode b_M_log 18 = .ok (.istore 4, 2) := by decide +kernel
theorem d_M_log_20 : decode b_M_log 20 = .ok (.iconst 0, 1) := by decide +kernel
theorem d_M_log_21 : decode b_M_log 21 = .ok (.istore 5, 2) := by decide +kernel
theorem d_M_log_23 : decode b_M_log 23 = .ok (.iload 5, 2) := by decide +kernel
theorem d_M_log_25 : decode b_M_log 25 = .ok (.bipush 8, 2) := by decide +kernel
theorem d_M_log_27 : decode b_M_log 27 = .ok (.if_icmp .ge 53, 3) := by decide +kernel
theorem d_M_log_30 : decode b_M_log 30 = .ok (.aload_n 0, 1) := by decide +kernel
theorem d_M_log_31 : decode b_M_log 31 = .ok (.getfield 35, 3) := by decide +kernel
theorem d_M_log_34 : decode b_M_log 34 = .ok (.bipush 8, 2) := by decide +kernel
theorem d_M_log_36 : decode b_M_log 36 = .ok (.iload_n 1, 1) := by decide +kernel
theorem d_M_log_37 : decode b_M_log 37 = .ok (.imul, 1) := by decide +kernel
theorem d_M_log_38 : decode b_M_log 38 = .ok (.iload 5, 2) := by decide +kernel
theorem d_M_log_40 : decode b_M_log 40 = .ok (.iadd, 1) := by decide +kernel
theorem d_M_log_41 : decode b_M_log 41 = .ok (.baload, 1) := by decide +kernel
theorem d_M_log_42 : decode b_M_log 42 = .ok (.ifCond .eq 32, 3) := by decide +kernel
theorem d_M_log_45 : decode b_M_log 45 = .ok (.aload_n 0, 1) := by decide +kernel
theorem d_M_log_46 : decode b_M_log 46 = .ok (.getfield 38, 3) := by decide +kernel
theorem d_M_log_49 : decode b_M_log 49 = .ok (.bipush 8, 2) := by decide +kernel
theorem d_M_log_51 : decode b_M_log 51 = .ok (.iload_n 1, 1) := by decide +kernel
theorem d_M_log_52 : decode b_M_log 52 = .ok (.imul, 1) := by decide +kernel
theorem d_M_log_53 : decode b_M_log 53 = .ok (.iload 5, 2) := by decide +kernel
theorem d_M_log_55 : decode b_M_log 55 = .ok (.iadd, 1) := by decide +kernel
theorem d_M_log_56 : decode b_M_log 56 = .ok (.iaload, 1) := by decide +kernel
theorem d_M_log_57 : decode b_M_log 57 = .ok (.aload_n 0, 1) := by decide +kernel
theorem d_M_log_58 : decode b_M_log 58 = .ok (.getfield 38, 3) := by decide +kernel
theorem d_M_log_61 : decode b_M_log 61 = .ok (.bipush 8, 2) := by decide +kernel
theorem d_M_log_63 : decode b_M_log 63 = .ok (.iload_n 1, 1) := by decide +kernel
theorem d_M_log_64 : decode b_M_log 64 = .ok (.imul, 1) := by decide +kernel
theorem d_M_log_65 : decode b_M_log 65 = .ok (.iload_n 3, 1) := by decide +kernel
theorem d_M_log_66 : decode b_M_log 66 = .ok (.iadd, 1) := by decide +kernel
theorem d_M_log_67 : decode b_M_log 67 = .ok (.iaload, 1) := by decide +kernel
theorem d_M_log_68 : decode b_M_log 68 = .ok (.if_icmp .le 6, 3) := by decide +kernel
theorem d_M_log_71 : decode b_M_log 71 = .ok (.iinc 4 1, 3) := by decide +kernel
theorem d_M_log_74 : decode b_M_log 74 = .ok (.iinc 5 1, 3) := by decide +kernel
theorem d_M_log_77 : decode b_M_log 77 = .ok (.goto (-54), 3) := by decide +kernel
theorem d_M_log_80 : decode b_M_log 80 = .ok (.aload_n 0, 1) := by decide +kernel
theorem d_M_log_81 : decode b_M_log 81 = .ok (.getfield 35, 3) := by decide +kernel
theorem d_M_log_84 : decode b_M_log 84 = .ok (.bipush 8, 2) := by decide +kernel
theorem d_M_log_86 : decode b_M_log 86 = .ok (.iload_n 1, 1) := by decide +kernel
theorem d_M_log_87 : decode b_M_log 87 = .ok (.imul, 1) := by decide +kernel
theorem d_M_log_88 : decode b_M_log 88 = .ok (.iload_n 3, 1) := by decide +kernel
theorem d_M_log_89 : decode b_M_log 89 = .ok (.iadd, 1) := by decide +kernel
theorem d_M_log_90 : decode b_M_log 90 = .ok (.baload, 1) := by decide +kernel
theorem d_M_log_91 : decode b_M_log 91 = .ok (.ifCond .eq 11, 3) := by decide +kernel
theorem d_M_log_94 : decode b_M_log 94 = .ok (.iload 4, 2) := by decide +kernel
theorem d_M_log_96 : decode b_M_log 96 = .ok (.iload_n 2, 1) := by decide +kernel
theorem d_M_log_97 : decode b_M_log 97 = .ok (.if_icmp .ne 5, 3) := by decide +kernel
theorem d_M_log_100 : decode b_M_log 100 = .ok (.iload_n 3, 1) := by decide +kernel
theorem d_M_log_101 : decode b_M_log 101 = .ok (.ireturn, 1) := by decide +kernel
theorem d_M_log_102 : decode b_M_log 102 = .ok (.iinc 3 1, 3) := by decide +kernel
theorem d_M_log_105 : decode b_M_log 105 = .ok (.goto (-94), 3) := by decide +kernel
theorem d_M_log_108 : decode b_M_log 108 = .ok (.iconst (-1), 1) := by decide +kernel
theorem d_M_log_109 : decode b_M_log 109 = .ok (.ireturn, 1) := by decide +kernel
theorem d_M_traffic_0 : decode b_M_traffic 0 = .ok (.iload_n 1, 1) := by decide +kernel
theorem d_M_traffic_1 : decode b_M_traffic 1 = .ok (.invokestatic 117, 3) := by decide +kernel
theorem d_M_traffic_4 : decode b_M_traffic 4 = .ok (.ifCond .ne 5, 3) := by decide +kernel
theorem d_M_traffic_7 : decode b_M_traffic 7 = .ok (.iconst 0, 1) := by decide +kernel
theorem d_M_traffic_8 : decode b_M_traffic 8 = .ok (.ireturn, 1) := by decide +kernel
theorem d_M_traffic_9 : decode b_M_traffic 9 = .ok (.iconst 0, 1) := by decide +kernel
theorem d_M_traffic_10 : decode b_M_traffic 10 = .ok (.istore_n 2, 1) := by decide +kernel
theorem d_M_traffic_11 : decode b_M_traffic 11 = .ok (.iconst 1, 1) := by decide +kernel
theorem d_M_traffic_12 : decode b_M_traffic 12 = .ok (.istore_n 3, 1) := by decide +kernel
theorem d_M_traffic_13 : decode b_M_traffic 13 = .ok (.iload_n 3, 1) := by decide +kernel
theorem d_M_traffic_14 : decode b_M_traffic 14 = .ok (.aload_n 0, 1) := by decide +kernel
theorem d_M_traffic_15 : decode b_M_traffic 15 = .ok (.getfield 87, 3) := by decide +kernel
theorem d_M_traffic_18 : decode b_M_traffic 18 = .ok (.if_icmp .gt 38, 3) := by decide +kernel
theorem d_M_traffic_21 : decode b_M_traffic 21 = .ok (.aload_n 0, 1) := by decide +kernel
theorem d_M_traffic_22 : decode b_M_traffic 22 = .ok (.getfield 25, 3) := by decide +kernel
theorem d_M_traffic_25 : decode b_M_traffic 25 = .ok (.iload_n 3, 1) := by decide +kernel
theorem d_M_traffic_26 : decode b_M_traffic 26 = .ok (.baload, 1) := by decide +kernel
theorem d_M_traffic_27 : decode b_M_traffic 27 = .ok (.ifCond .eq 21, 3) := by decide +kernel
theorem d_M_traffic_30 : decode b_M_traffic 30 = .ok (.aload_n 0, 1) := by decide +kernel
theorem d_M_traffic_31 : decode b_M_traffic 31 = .ok (.getfield 7, 3) := by decide +kernel
theorem d_M_traffic_34 : decode b_M_traffic 34 = .ok (.iload_n 3, 1) := by decide +kernel
theorem d_M_traffic_35 : decode b_M_traffic 35 = .ok (.iaload, 1) := by decide +kernel
theorem d_M_traffic_36 : decode b_M_traffic 36 = .ok (.iconst 1, 1) := by decide +kernel
theorem d_M_traffic_37 : decode b_M_traffic 37 = .ok (.iload_n 1, 1) := by decide +kernel
theorem d_M_traffic_38 : decode b_M_traffic 38 = .ok (.isub, 1) := by decide +kernel
theorem d_M_traffic_39 : decode b_M_traffic 39 = .ok (.if_icmp .ne 9, 3) := by decide +kernel
theorem d_M_traffic_42 : decode b_M_traffic 42 = .ok (.iload_n 2, 1) := by decide +kernel
theorem d_M_traffic_43 : decode b_M_traffic 43 = .ok (.iconst 1, 1) := by decide +kernel
theorem d_M_traffic_44 : decode b_M_traffic 44 = .ok (.iadd, 1) := by decide +kernel
theorem d_M_traffic_45 : decode b_M_traffic 45 = .ok (.goto 4, 3) := by decide +kernel
theorem d_M_traffic_48 : decode b_M_traffic 48 = .ok (.iload_n 2, 1) := by decide +kernel
theorem d_M_traffic_49 : decode b_M_traffic 49 = .ok (.istore_n 2, 1) := by decide +kernel
theorem d_M_traffic_50 : decode b_M_traffic 50 = .ok (.iinc 3 1, 3) := by decide +kernel
theorem d_M_traffic_53 : decode b_M_traffic 53 = .ok (.goto (-40), 3) := by decide +kernel
theorem d_M_traffic_56 : decode b_M_traffic 56 = .ok (.aload_n 0, 1) := by decide +kernel
theorem d_M_traffic_57 : decode b_M_traffic 57 = .ok (.getfield 84, 3) := by decide +kernel
theorem d_M_traffic_60 : decode b_M_traffic 60 = .ok (.iload_n 1, 1) := by decide +kernel
theorem d_M_traffic_61 : decode b_M_traffic 61 = .ok (.iaload, 1) := by decide +kernel
theorem d_M_traffic_62 : decode b_M_traffic 62 = .ok (.bipush 100, 2) := by decide +kernel
theorem d_M_traffic_64 : decode b_M_traffic 64 = .ok (.iload_n 2, 1) := by decide +kernel
theorem d_M_traffic_65 : decode b_M_traffic 65 = .ok (.imul, 1) := by decide +kernel
theorem d_M_traffic_66 : decode b_M_traffic 66 = .ok (.iadd, 1) := by decide +kernel
theorem d_M_traffic_67 : decode b_M_traffic 67 = .ok (.sipush 10000, 3) := by decide +kernel
theorem d_M_traffic_70 : decode b_M_traffic 70 = .ok (.aload_n 0, 1) := by decide +kernel
theorem d_M_traffic_71 : decode b_M_traffic 71 = .ok (.iload_n 1, 1) := by decide +kernel
theorem d_M_traffic_72 : decode b_M_traffic 72 = .ok (.iconst (-1), 1) := by decide +kernel
theorem d_M_traffic_73 : decode b_M_traffic 73 = .ok (.invokevirtual 139, 3) := by decide +kernel
theorem d_M_traffic_76 : decode b_M_traffic 76 = .ok (.imul, 1) := by decide +kernel
theorem d_M_traffic_77 : decode b_M_traffic 77 = .ok (.iadd, 1) := by decide +kernel
theorem d_M_traffic_78 : decode b_M_traffic 78 = .ok (.ireturn, 1) := by decide +kernel
theorem d_E_init_0 : decode b_E_init 0 = .ok (.aload_n 0, 1) := by decide +kernel
theorem d_E_init_1 : decode b_E_init 1 = .ok (.invokespecial 3, 3) := by decide +kernel
theorem d_E_init_4 : decode b_E_init 4 = .ok (.aload_n 0, 1) := by decide +kernel
theorem d_E_init_5 : decode b_E_init 5 = .ok (.iconst 3, 1) := by decide +kernel
theorem d_E_init_6 : decode b_E_init 6 = .ok (.newarray .int, 2) := by decide +kernel
theorem d_E_init_8 : decode b_E_init 8 = .ok (.putfield 9, 3) := by decide +kernel
theorem d_E_init_11 : decode b_E_init 11 = .ok (.return_, 1) := by decide +kernel
theorem d_E_extentAt_0 : decode b_E_extentAt 0 = .ok (.iload_n 1, 1) := by decide +kernel
theorem d_E_extentAt_1 : decode b_E_extentAt 1 = .ok (.ifCond .lt 20, 3) := by decide +kernel
theorem d_E_extentAt_4 : decode b_E_extentAt 4 = .ok (.iload_n 1, 1) := by decide +kernel
theorem d_E_extentAt_5 : decode b_E_extentAt 5 = .ok (.aload_n 0, 1) := by decide +kernel
theorem d_E_extentAt_6 : decode b_E_extentAt 6 = .ok (.getfield 15, 3) := by decide +kernel
theorem d_E_extentAt_9 : decode b_E_extentAt 9 = .ok (.if_icmp .ge 12, 3) := by decide +kernel
theorem d_E_extentAt_12 : decode b_E_extentAt 12 = .ok (.aload_n 0, 1) := by decide +kernel
theorem d_E_extentAt_13 : decode b_E_extentAt 13 = .ok (.getfield 9, 3) := by decide +kernel
theorem d_E_extentAt_16 : decode b_E_extentAt 16 = .ok (.iload_n 1, 1) := by decide +kernel
theorem d_E_extentAt_17 : decode b_E_extentAt 17 = .ok (.iaload, 1) := by decide +kernel
theorem d_E_extentAt_18 : decode b_E_extentAt 18 = .ok (.goto 4, 3) := by decide +kernel
theorem d_E_extentAt_21 : decode b_E_extentAt 21 = .ok (.iconst (-1), 1) := by decide +kernel
theorem d_E_extentAt_22 : decode b_E_extentAt 22 = .ok (.ireturn, 1) := by decide +kernel
theorem d_E_placeFor_0 : decode b_E_placeFor 0 = .ok (.iconst 0, 1) := by decide +kernel
theorem d_E_placeFor_1 : decode b_E_placeFor 1 = .ok (.istore_n 3, 1) := by decide +kernel
theorem d_E_placeFor_2 : decode b_E_placeFor 2 = .ok (.iload_n 3, 1) := by decide +kernel
theorem d_E_placeFor_3 : decode b_E_placeFor 3 = .ok (.aload_n 0, 1) := by decide +kernel
theorem d_E_placeFor_4 : decode b_E_placeFor 4 = .ok (.getfield 15, 3) := by decide +kernel
theorem d_E_placeFor_7 : decode b_E_placeFor 7 = .ok (.if_icmp .ge 21, 3) := by decide +kernel
theorem d_E_placeFor_10 : decode b_E_placeFor 10 = .ok (.aload_n 0, 1) := by decide +kernel
theorem d_E_placeFor_11 : decode b_E_placeFor 11 = .ok (.getfield 9, 3) := by decide +kernel
theorem d_E_placeFor_14 : decode b_E_placeFor 14 = .ok (.iload_n 3, 1) := by decide +kernel
theorem d_E_placeFor_15 : decode b_E_placeFor 15 = .ok (.iaload, 1) := by decide +kernel
theorem d_E_placeFor_16 : decode b_E_placeFor 16 = .ok (.iload_n 1, 1) := by decide +kernel
theorem d_E_placeFor_17 : decode b_E_placeFor 17 = .ok (.if_icmp .ne 5, 3) := by decide +kernel
theorem d_E_placeFor_20 : decode b_E_placeFor 20 = .ok (.iload_n 3, 1) := by decide +kernel
theorem d_E_placeFor_21 : decode b_E_placeFor 21 = .ok (.ireturn, 1) := by decide +kernel
theorem d_E_placeFor_22 : decode b_E_placeFor 22 = .ok (.iinc 3 1, 3) := by decide +kernel
theorem d_E_placeFor_25 : decode b_E_placeFor 25 = .ok (.goto (-23), 3) := by decide +kernel
theorem d_E_placeFor_28 : decode b_E_placeFor 28 = .ok (.aload_n 0, 1) := by decide +kernel
theorem d_E_placeFor_29 : decode b_E_placeFor 29 = .ok (.getfield 15, 3) := by decide +kernel
theorem d_E_placeFor_32 : decode b_E_placeFor 32 = .ok (.iconst 3, 1) := by decide +kernel
theorem d_E_placeFor_33 : decode b_E_placeFor 33 = .ok (.if_icmp .ge 8, 3) := by decide +kernel
theorem d_E_placeFor_36 : decode b_E_placeFor 36 = .ok (.aload_n 0, 1) := by decide +kernel
theorem d_E_placeFor_37 : decode b_E_placeFor 37 = .ok (.getfield 15, 3) := by decide +kernel
theorem d_E_placeFor_40 : decode b_E_placeFor 40 = .ok (.ireturn, 1) := by decide +kernel
theorem d_E_placeFor_41 : decode b_E_placeFor 41 = .ok (.aload_n 0, 1) := by decide +kernel
theorem d_E_placeFor_42 : decode b_E_placeFor 42 = .ok (.getfield 15, 3) := by decide +kernel
theorem d_E_placeFor_45 : decode b_E_placeFor 45 = .ok (.iconst 1, 1) := by decide +kernel
theorem d_E_placeFor_46 : decode b_E_placeFor 46 = .ok (.isub, 1) := by decide +kernel
theorem d_E_placeFor_47 : decode b_E_placeFor 47 = .ok (.istore_n 3, 1) := by decide +kernel
theorem d_E_placeFor_48 : decode b_E_placeFor 48 = .ok (.iload_n 3, 1) := by decide +kernel
theorem d_E_placeFor_49 : decode b_E_placeFor 49 = .ok (.ifCond .lt 25, 3) := by decide +kernel
theorem d_E_placeFor_52 : decode b_E_placeFor 52 = .ok (.aload_n 0, 1) := by decide +kernel
theorem d_E_placeFor_53 : decode b_E_placeFor 53 = .ok (.getfield 9, 3) := by decide +kernel
theorem d_E_placeFor_56 : decode b_E_placeFor 56 = .ok (.iload_n 3, 1) := by decide +kernel
theorem d_E_placeFor_57 : decode b_E_placeFor 57 = .ok (.iaload, 1) := by decide +kernel
theorem d_E_placeFor_58 : decode b_E_placeFor 58 = .ok (.invokestatic 19, 3) := by decide +kernel
theorem d_E_placeFor_61 : decode b_E_placeFor 61 = .ok (.iload_n 2, 1) := by decide +kernel
theorem d_E_placeFor_62 : decode b_E_placeFor 62 = .ok (.iand, 1) := by decide +kernel
theorem d_E_placeFor_63 : decode b_E_placeFor 63 = .ok (.ifCond .ne 5, 3) := by decide +kernel
theorem d_E_placeFor_66 : decode b_E_placeFor 66 = .ok (.iload_n 3, 1) := by decide +kernel
theorem d_E_placeFor_67 : decode b_E_placeFor 67 = .ok (.ireturn, 1) := by decide +kernel
theorem d_E_placeFor_68 : decode b_E_placeFor 68 = .ok (.iinc 3 (-1), 3) := by decide +kernel
theorem d_E_placeFor_71 : decode b_E_placeFor 71 = .ok (.goto (-23), 3) := by decide +kernel
theorem d_E_placeFor_74 : decode b_E_placeFor 74 = .ok (.iconst (-1), 1) := by decide +kernel
theorem d_E_placeFor_75 : decode b_E_placeFor 75 = .ok (.ireturn, 1) := by decide +kernel
theorem d_E_putInFront_0 : decode b_E_putInFront 0 = .ok (.iload_n 2, 1) := by decide +kernel
theorem d_E_putInFront_1 : decode b_E_putInFront 1 = .ok (.ifCond .lt 8, 3) := by decide +kernel
theorem d_E_putInFront_4 : decode b_E_putInFront 4 = .ok (.iload_n 2, 1) := by decide +kernel
theorem d_E_putInFront_5 : decode b_E_putInFront 5 = .ok (.iconst 3, 1) := by decide +kernel
theorem d_E_putInFront_6 : decode b_E_putInFront 6 = .ok (.if_icmp .lt 4, 3) := by decide +kernel
theorem d_E_putInFront_9 : decode b_E_putInFront 9 = .ok (.return_, 1) := by decide +kernel
theorem d_E_putInFront_10 : decode b_E_putInFront 10 = .ok (.iload_n 2, 1) := by decide +kernel
theorem d_E_putInFront_11 : decode b_E_putInFront 11 = .ok (.istore_n 3, 1) := by decide +kernel
theorem d_E_putInFront_12 : decode b_E_putInFront 12 = .ok (.iload_n 3, 1) := by decide +kernel
theorem d_E_putInFront_13 : decode b_E_putInFront 13 = .ok (.ifCond .le 23, 3) := by decide +kernel
theorem d_E_putInFront_16 : decode b_E_putInFront 16 = .ok (.aload_n 0, 1) := by decide +kernel
theorem d_E_putInFront_17 : decode b_E_putInFront 17 = .ok (.getfield 9, 3) := by decide +kernel
theorem d_E_putInFront_20 : decode b_E_putInFront 20 = .ok (.iload_n 3, 1) := by decide +kernel
theorem d_E_putInFront_21 : decode b_E_putInFront 21 = .ok (.aload_n 0, 1) := by decide +kernel
theorem d_E_putInFront_22 : decode b_E_putInFront 22 = .ok (.getfield 9, 3) := by decide +kernel
theorem d_E_putInFront_25 : decode b_E_putInFront 25 = .ok (.iload_n 3, 1) := by decide +kernel
theorem d_E_putInFront_26 : decode b_E_putInFront 26 = .ok (.iconst 1, 1) := by decide +kernel
theorem d_E_putInFront_27 : decode b_E_putInFront 27 = .ok (.isub, 1) := by decide +kernel
theorem d_E_putInFront_28 : decode b_E_putInFront 28 = .ok (.iaload, 1) := by decide +kernel
theorem d_E_putInFront_29 : decode b_E_putInFront 29 = .ok (.iastore, 1) := by decide +kernel
theorem d_E_putInFront_30 : decode b_E_putInFront 30 = .ok (.iinc 3 (-1), 3) := by decide +kernel
theorem d_E_putInFront_33 : decode b_E_putInFront 33 = .ok (.goto (-21), 3) := by decide +kernel
theorem d_E_putInFront_36 : decode b_E_putInFront 36 = .ok (.aload_n 0, 1) := by decide +kernel
theorem d_E_putInFront_37 : decode b_E_putInFront 37 = .ok (.getfield 9, 3) := by decide +kernel
theorem d_E_putInFront_40 : decode b_E_putInFront 40 = .ok (.iconst 0, 1) := by decide +kernel
theorem d_E_putInFront_41 : decode b_E_putInFront 41 = .ok (.iload_n 1, 1) := by decide +kernel
theorem d_E_putInFront_42 : decode b_E_putInFront 42 = .ok (.iastore, 1) := by decide +kernel
theorem d_E_putInFront_43 : decode b_E_putInFront 43 = .ok (.iload_n 2, 1) := by decide +kernel
theorem d_E_putInFront_44 : decode b_E_putInFront 44 = .ok (.aload_n 0, 1) := by decide +kernel
theorem d_E_putInFront_45 : decode b_E_putInFront 45 = .ok (.getfield 15, 3) := by decide +kernel
theorem d_E_putInFront_48 : decode b_E_putInFront 48 = .ok (.if_icmp .ne 13, 3) := by decide +kernel
theorem d_E_putInFront_51 : decode b_E_putInFront 51 = .ok (.aload_n 0, 1) := by decide +kernel
theorem d_E_putInFront_52 : decode b_E_putInFront 52 = .ok (.dup, 1) := by decide +kernel
theorem d_E_putInFront_53 : decode b_E_putInFront 53 = .ok (.getfield 15, 3) := by decide +kernel
theorem d_E_putInFront_56 : decode b_E_putInFront 56 = .ok (.iconst 1, 1) := by decide +kernel
theorem d_E_putInFront_57 : decode b_E_putInFront 57 = .ok (.iadd, 1) := by decide +kernel
theorem d_E_putInFront_58 : decode b_E_putInFront 58 = .ok (.putfield 15, 3) := by decide +kernel
theorem d_E_putInFront_61 : decode b_E_putInFront 61 = .ok (.return_, 1) := by decide +kernel
theorem d_E_allBlocks_0 : decode b_E_allBlocks 0 = .ok (.iconst 0, 1) := by decide +kernel
theorem d_E_allBlocks_1 : decode b_E_allBlocks 1 = .ok (.istore_n 1, 1) := by decide +kernel
theorem d_E_allBlocks_2 : decode b_E_allBlocks 2 = .ok (.iconst 0, 1) := by decide +kernel
theorem d_E_allBlocks_3 : decode b_E_allBlocks 3 = .ok (.istore_n 2, 1) := by decide +kernel
theorem d_E_allBlocks_4 : decode b_E_allBlocks 4 = .ok (.iload_n 2, 1) := by decide +kernel
theorem d_E_allBlocks_5 : decode b_E_allBlocks 5 = .ok (.aload_n 0, 1) := by decide +kernel
theorem d_E_allBlocks_6 : decode b_E_allBlocks 6 = .ok (.getfield 15, 3) := by decide +kernel
theorem d_E_allBlocks_9 : decode b_E_allBlocks 9 = .ok (.if_icmp .ge 21, 3) := by decide +kernel
theorem d_E_allBlocks_12 : decode b_E_allBlocks 12 = .ok (.iload_n 1, 1) := by decide +kernel
theorem d_E_allBlocks_13 : decode b_E_allBlocks 13 = .ok (.aload_n 0, 1) := by decide +kernel
theorem d_E_allBlocks_14 : decode b_E_allBlocks 14 = .ok (.getfield 9, 3) := by decide +kernel
theorem d_E_allBlocks_17 : decode b_E_allBlocks 17 = .ok (.iload_n 2, 1) := by decide +kernel
theorem d_E_allBlocks_18 : decode b_E_allBlocks 18 = .ok (.iaload, 1) := by decide +kernel
theorem d_E_allBlocks_19 : decode b_E_allBlocks 19 = .ok (.invokestatic 19, 3) := by decide +kernel
theorem d_E_allBlocks_22 : decode b_E_allBlocks 22 = .ok (.ior, 1) := by decide +kernel
theorem d_E_allBlocks_23 : decode b_E_allBlocks 23 = .ok (.istore_n 1, 1) := by decide +kernel
theorem d_E_allBlocks_24 : decode b_E_allBlocks 24 = .ok (.iinc 2 1, 3) := by decide +kernel
theorem d_E_allBlocks_27 : decode b_E_allBlocks 27 = .ok (.goto (-23), 3) := by decide +kernel
theorem d_E_allBlocks_30 : decode b_E_allBlocks 30 = .ok (.iload_n 1, 1) := by decide +kernel
theorem d_E_allBlocks_31 : decode b_E_allBlocks 31 = .ok (.ireturn, 1) := by decide +kernel
theorem d_N_init_0 : decode b_N_init 0 = .ok (.aload_n 0, 1) := by decide +kernel
theorem d_N_init_1 : decode b_N_init 1 = .ok (.invokespecial 3, 3) := by decide +kernel
theorem d_N_init_4 : decode b_N_init 4 = .ok (.aload_n 0, 1) := by decide +kernel
theorem d_N_init_5 : decode b_N_init 5 = .ok (.iload_n 1, 1) := by decide +kernel
theorem d_N_init_6 : decode b_N_init 6 = .ok (.putfield 9, 3) := by decide +kernel
theorem d_N_init_9 : decode b_N_init 9 = .ok (.aload_n 0, 1) := by decide +kernel
theorem d_N_init_10 : decode b_N_init 10 = .ok (.bipush 32, 2) := by decide +kernel
theorem d_N_init_12 : decode b_N_init 12 = .ok (.newarray .int, 2) := by decide +kernel
theorem d_N_init_14 : decode b_N_init 14 = .ok (.putfield 15, 3) := by decide +kernel
theorem d_N_init_17 : decode b_N_init 17 = .ok (.aload_n 0, 1) := by decide +kernel
theorem d_N_init_18 : decode b_N_init 18 = .ok (.new 19, 3) := by decide +kernel
theorem d_N_init_21 : decode b_N_init 21 = .ok (.dup, 1) := by decide +kernel
theorem d_N_init_22 : decode b_N_init 22 = .ok (.invokespecial 21, 3) := by decide +kernel
theorem d_N_init_25 : decode b_N_init 25 = .ok (.putfield 22, 3) := by decide +kernel
theorem d_N_init_28 : decode b_N_init 28 = .ok (.aload_n 0, 1) := by decide +kernel
theorem d_N_init_29 : decode b_N_init 29 = .ok (.new 26, 3) := by decide +kernel
theorem d_N_init_32 : decode b_N_init 32 = .ok (.dup, 1) := by decide +kernel
theorem d_N_init_33 : decode b_N_init 33 = .ok (.invokespecial 28, 3) := by decide +kernel
theorem d_N_init_36 : decode b_N_init 36 = .ok (.putfield 29, 3) := by decide +kernel
theorem d_N_init_39 : decode b_N_init 39 = .ok (.aload_n 0, 1) := by decide +kernel
theorem d_N_init_40 : decode b_N_init 40 = .ok (.new 33, 3) := by decide +kernel
theorem d_N_init_43 : decode b_N_init 43 = .ok (.dup, 1) := by decide +kernel
theorem d_N_init_44 : decode b_N_init 44 = .ok (.invokespecial 35, 3) := by decide +kernel
theorem d_N_init_47 : decode b_N_init 47 = .ok (.putfield 36, 3) := by decide +kernel
theorem d_N_init_50 : decode b_N_init 50 = .ok (.aload_n 0, 1) := by decide +kernel
theorem d_N_init_51 : decode b_N_init 51 = .ok (.iconst 1, 1) := by decide +kernel
theorem d_N_init_52 : decode b_N_init 52 = .ok (.putfield 40, 3) := by decide +kernel
theorem d_N_init_55 : decode b_N_init 55 = .ok (.aload_n 0, 1) := by decide +kernel
theorem d_N_init_56 : decode b_N_init 56 = .ok (.iconst 1, 1) := by decide +kernel
theorem d_N_init_57 : decode b_N_init 57 = .ok (.putfield 43, 3) := by decide +kernel
theorem d_N_init_60 : decode b_N_init 60 = .ok (.aload_n 0, 1) := by decide +kernel
theorem d_N_init_61 : decode b_N_init 61 = .ok (.iconst 1, 1) := by decide +kernel
theorem d_N_init_62 : decode b_N_init 62 = .ok (.putfield 47, 3) := by decide +kernel
theorem d_N_init_65 : decode b_N_init 65 = .ok (.return_, 1) := by decide +kernel
theorem d_N_epochOfNextWrite_0 : decode b_N_epochOfNextWrite 0 = .ok (.aload_n 0, 1) := by decide +kernel
theorem d_N_epochOfNextWrite_1 : decode b_N_epochOfNextWrite 1 = .ok (.getfield 47, 3) := by decide +kernel
theorem d_N_epochOfNextWrite_4 : decode b_N_epochOfNextWrite 4 = .ok (.ifCond .ne 7, 3) := by decide +kernel
theorem d_N_epochOfNextWrite_7 : decode b_N_epochOfNextWrite 7 = .ok (.iload_n 1, 1) := by decide +kernel
theorem d_N_epochOfNextWrite_8 : decode b_N_epochOfNextWrite 8 = .ok (.ifCond .eq 13, 3) := by decide +kernel
theorem d_N_epochOfNextWrite_11 : decode b_N_epochOfNextWrite 11 = .ok (.aload_n 0, 1) := by decide +kernel
theorem d_N_epochOfNextWrite_12 : decode b_N_epochOfNextWrite 12 = .ok (.dup, 1) := by decide +kernel
theorem d_N_epochOfNextWrite_13 : decode b_N_epochOfNextWrite 13 = .ok (.getfield 50, 3) := by decide +kernel
theorem d_N_epochOfNextWrite_16 : decode b_N_epochOfNextWrite 16 = .ok (.iconst 1, 1) := by decide +kernel
theorem d_N_epochOfNextWrite_17 : decode b_N_epochOfNextWrite 17 = .ok (.iadd, 1) := by decide +kernel
theorem d_N_epochOfNextWrite_18 : decode b_N_epochOfNextWrite 18 = .ok (.putfield 50, 3) := by decide +kernel
theorem d_N_epochOfNextWrite_21 : decode b_N_epochOfNextWrite 21 = .ok (.aload_n 0, 1) := by decide +kernel
theorem d_N_epochOfNextWrite_22 : decode b_N_epochOfNextWrite 22 = .ok (.iconst 0, 1) := by decide +kernel
theorem d_N_epochOfNextWrite_23 : decode b_N_epochOfNextWrite 23 = .ok (.putfield 47, 3) := by decide +kernel
theorem d_N_epochOfNextWrite_26 : decode b_N_epochOfNextWrite 26 = .ok (.aload_n 0, 1) := by decide +kernel
theorem d_N_epochOfNextWrite_27 : decode b_N_epochOfNextWrite 27 = .ok (.getfield 50, 3) := by decide +kernel
theorem d_N_epochOfNextWrite_30 : decode b_N_epochOfNextWrite 30 = .ok (.ireturn, 1) := by decide +kernel
theorem d_N_takeFinish_0 : decode b_N_takeFinish 0 = .ok (.aload_n 0, 1) := by decide +kernel
theorem d_N_takeFinish_1 : decode b_N_takeFinish 1 = .ok (.iconst 0, 1) := by decide +kernel
theorem d_N_takeFinish_2 : decode b_N_takeFinish 2 = .ok (.putfield 53, 3) := by decide +kernel
theorem d_N_takeFinish_5 : decode b_N_takeFinish 5 = .ok (.aload_n 0, 1) := by decide +kernel
theorem d_N_takeFinish_6 : decode b_N_takeFinish 6 = .ok (.iconst 0, 1) := by decide +kernel
theorem d_N_takeFinish_7 : decode b_N_takeFinish 7 = .ok (.putfield 56, 3) := by decide +kernel
theorem d_N_takeFinish_10 : decode b_N_takeFinish 10 = .ok (.aload_n 0, 1) := by decide +kernel
theorem d_N_takeFinish_11 : decode b_N_takeFinish 11 = .ok (.iconst 0, 1) := by decide +kernel
theorem d_N_takeFinish_12 : decode b_N_takeFinish 12 = .ok (.putfield 59, 3) := by decide +kernel
theorem d_N_takeFinish_15 : decode b_N_takeFinish 15 = .ok (.aload_n 0, 1) := by decide +kernel
theorem d_N_takeFinish_16 : decode b_N_takeFinish 16 = .ok (.iconst 0, 1) := by decide +kernel
theorem d_N_takeFinish_17 : decode b_N_takeFinish 17 = .ok (.putfield 62, 3) := by decide +kernel
theorem d_N_takeFinish_20 : decode b_N_takeFinish 20 = .ok (.aload_n 0, 1) := by decide +kernel
theorem d_N_takeFinish_21 : decode b_N_takeFinish 21 = .ok (.iload_n 1, 1) := by decide +kernel
theorem d_N_takeFinish_22 : decode b_N_takeFinish 22 = .ok (.putfield 40, 3) := by decide +kernel
theorem d_N_takeFinish_25 : decode b_N_takeFinish 25 = .ok (.aload_n 0, 1) := by decide +kernel
theorem d_N_takeFinish_26 : decode b_N_takeFinish 26 = .ok (.iconst 0, 1) := by decide +kernel
theorem d_N_takeFinish_27 : decode b_N_takeFinish 27 = .ok (.putfield 65, 3) := by decide +kernel
theorem d_N_takeFinish_30 : decode b_N_takeFinish 30 = .ok (.return_, 1) := by decide +kernel
theorem d_N_leaveLink_0 : decode b_N_leaveLink 0 = .ok (.aload_n 0, 1) := by decide +kernel
theorem d_N_leaveLink_1 : decode b_N_leaveLink 1 = .ok (.getfield 29, 3) := by decide +kernel
theorem d_N_leaveLink_4 : decode b_N_leaveLink 4 = .ok (.iconst 0, 1) := by decide +kernel
theorem d_N_leaveLink_5 : decode b_N_leaveLink 5 = .ok (.putfield 68, 3) := by decide +kernel
theorem d_N_leaveLink_8 : decode b_N_leaveLink 8 = .ok (.aload_n 0, 1) := by decide +kernel
theorem d_N_leaveLink_9 : decode b_N_leaveLink 9 = .ok (.getfield 36, 3) := by decide +kernel
theorem d_N_leaveLink_12 : decode b_N_leaveLink 12 = .ok (.iconst 0, 1) := by decide +kernel
theorem d_N_leaveLink_13 : decode b_N_leaveLink 13 = .ok (.putfield 71, 3) := by decide +kernel
theorem d_N_leaveLink_16 : decode b_N_leaveLink 16 = .ok (.aload_n 0, 1) := by decide +kernel
theorem d_N_leaveLink_17 : decode b_N_leaveLink 17 = .ok (.iconst 0, 1) := by decide +kernel
theorem d_N_leaveLink_18 : decode b_N_leaveLink 18 = .ok (.putfield 72, 3) := by decide +kernel
theorem d_N_leaveLink_21 : decode b_N_leaveLink 21 = .ok (.aload_n 0, 1) := by decide +kernel
theorem d_N_leaveLink_22 : decode b_N_leaveLink 22 = .ok (.iconst 0, 1) := by decide +kernel
theorem d_N_leaveLink_23 : decode b_N_leaveLink 23 = .ok (.putfield 75, 3) := by decide +kernel
end
section
theorem d_N_leaveLink_26 : decode b_N_leaveLink 26 = .ok (.aload_n 0, 1) := by decide +kernel
theorem d_N_leaveLink_27 : decode b_N_leaveLink 27 = .ok (.iconst 0, 1) := by decide +kernel
theorem d_N_leaveLink_28 : decode b_N_leaveLink 28 = .ok (.putfield 53, 3) := by decide +kernel
theorem d_N_leaveLink_31 : decode b_N_leaveLink 31 = .ok (.return_, 1) := by decide +kernel
theorem d_O_init_0 : decode b_O_init 0 = .ok (.aload_n 0, 1) := by decide +kernel
theorem d_O_init_1 : decode b_O_init 1 = .ok (.invokespecial 3, 3) := by decide +kernel
theorem d_O_init_4 : decode b_O_init 4 = .ok (.aload_n 0, 1) := by decide +kernel
theorem d_O_init_5 : decode b_O_init 5 = .ok (.bipush 25, 2) := by decide +kernel
theorem d_O_init_7 : decode b_O_init 7 = .ok (.newarray .int, 2) := by decide +kernel
theorem d_O_init_9 : decode b_O_init 9 = .ok (.putfield 9, 3) := by decide +kernel
theorem d_O_init_12 : decode b_O_init 12 = .ok (.aload_n 0, 1) := by decide +kernel
theorem d_O_init_13 : decode b_O_init 13 = .ok (.bipush 25, 2) := by decide +kernel
theorem d_O_init_15 : decode b_O_init 15 = .ok (.newarray .int, 2) := by decide +kernel
theorem d_O_init_17 : decode b_O_init 17 = .ok (.putfield 15, 3) := by decide +kernel
theorem d_O_init_20 : decode b_O_init 20 = .ok (.aload_n 0, 1) := by decide +kernel
theorem d_O_init_21 : decode b_O_init 21 = .ok (.bipush 25, 2) := by decide +kernel
theorem d_O_init_23 : decode b_O_init 23 = .ok (.newarray .int, 2) := by decide +kernel
theorem d_O_init_25 : decode b_O_init 25 = .ok (.putfield 18, 3) := by decide +kernel
theorem d_O_init_28 : decode b_O_init 28 = .ok (.return_, 1) := by decide +kernel
theorem d_O_send_0 : decode b_O_send 0 = .ok (.aload_n 0, 1) := by decide +kernel
theorem d_O_send_1 : decode b_O_send 1 = .ok (.getfield 21, 3) := by decide +kernel
theorem d_O_send_4 : decode b_O_send 4 = .ok (.bipush 25, 2) := by decide +kernel
theorem d_O_send_6 : decode b_O_send 6 = .ok (.if_icmp .lt 4, 3) := by decide +kernel
theorem d_O_send_9 : decode b_O_send 9 = .ok (.return_, 1) := by decide +kernel
theorem d_O_send_10 : decode b_O_send 10 = .ok (.aload_n 0, 1) := by decide +kernel
theorem d_O_send_11 : decode b_O_send 11 = .ok (.getfield 25, 3) := by decide +kernel
theorem d_O_send_14 : decode b_O_send 14 = .ok (.aload_n 0, 1) := by decide +kernel
theorem d_O_send_15 : decode b_O_send 15 = .ok (.getfield 21, 3) := by decide +kernel
theorem d_O_send_18 : decode b_O_send 18 = .ok (.iadd, 1) := by decide +kernel
theorem d_O_send_19 : decode b_O_send 19 = .ok (.bipush 25, 2) := by decide +kernel
theorem d_O_send_21 : decode b_O_send 21 = .ok (.irem, 1) := by decide +kernel
theorem d_O_send_22 : decode b_O_send 22 = .ok (.istore 4, 2) := by decide +kernel
theorem d_O_send_24 : decode b_O_send 24 = .ok (.aload_n 0, 1) := by decide +kernel
theorem d_O_send_25 : decode b_O_send 25 = .ok (.getfield 9, 3) := by decide +kernel
theorem d_O_send_28 : decode b_O_send 28 = .ok (.iload 4, 2) := by decide +kernel
theorem d_O_send_30 : decode b_O_send 30 = .ok (.iload_n 1, 1) := by decide +kernel
theorem d_O_send_31 : decode b_O_send 31 = .ok (.iastore, 1) := by decide +kernel
theorem d_O_send_32 : decode b_O_send 32 = .ok (.aload_n 0, 1) := by decide +kernel
theorem d_O_send_33 : decode b_O_send 33 = .ok (.getfield 15, 3) := by decide +kernel
theorem d_O_send_36 : decode b_O_send 36 = .ok (.iload 4, 2) := by decide +kernel
theorem d_O_send_38 : decode b_O_send 38 = .ok (.iload_n 2, 1) := by decide +kernel
theorem d_O_send_39 : decode b_O_send 39 = .ok (.iastore, 1) := by decide +kernel
theorem d_O_send_40 : decode b_O_send 40 = .ok (.aload_n 0, 1) := by decide +kernel
theorem d_O_send_41 : decode b_O_send 41 = .ok (.getfield 18, 3) := by decide +kernel
theorem d_O_send_44 : decode b_O_send 44 = .ok (.iload 4, 2) := by decide +kernel
theorem d_O_send_46 : decode b_O_send 46 = .ok (.iload_n 3, 1) := by decide +kernel
theorem d_O_send_47 : decode b_O_send 47 = .ok (.iastore, 1) := by decide +kernel
theorem d_O_send_48 : decode b_O_send 48 = .ok (.aload_n 0, 1) := by decide +kernel
theorem d_O_send_49 : decode b_O_send 49 = .ok (.dup, 1) := by decide +kernel
theorem d_O_send_50 : decode b_O_send 50 = .ok (.getfield 21, 3) := by decide +kernel
theorem d_O_send_53 : decode b_O_send 53 = .ok (.iconst 1, 1) := by decide +kernel
theorem d_O_send_54 : decode b_O_send 54 = .ok (.iadd, 1) := by decide +kernel
theorem d_O_send_55 : decode b_O_send 55 = .ok (.putfield 21, 3) := by decide +kernel
theorem d_O_send_58 : decode b_O_send 58 = .ok (.return_, 1) := by decide +kernel
theorem d_O_kindOfFirst_0 : decode b_O_kindOfFirst 0 = .ok (.aload_n 0, 1) := by decide +kernel
theorem d_O_kindOfFirst_1 : decode b_O_kindOfFirst 1 = .ok (.getfield 9, 3) := by decide +kernel
theorem d_O_kindOfFirst_4 : decode b_O_kindOfFirst 4 = .ok (.aload_n 0, 1) := by decide +kernel
theorem d_O_kindOfFirst_5 : decode b_O_kindOfFirst 5 = .ok (.getfield 25, 3) := by decide +kernel
theorem d_O_kindOfFirst_8 : decode b_O_kindOfFirst 8 = .ok (.iaload, 1) := by decide +kernel
theorem d_O_kindOfFirst_9 : decode b_O_kindOfFirst 9 = .ok (.ireturn, 1) := by decide +kernel
theorem d_O_subjectOfFirst_0 : decode b_O_subjectOfFirst 0 = .ok (.aload_n 0, 1) := by decide +kernel
theorem d_O_subjectOfFirst_1 : decode b_O_subjectOfFirst 1 = .ok (.getfield 15, 3) := by decide +kernel
theorem d_O_subjectOfFirst_4 : decode b_O_subjectOfFirst 4 = .ok (.aload_n 0, 1) := by decide +kernel
theorem d_O_subjectOfFirst_5 : decode b_O_subjectOfFirst 5 = .ok (.getfield 25, 3) := by decide +kernel
theorem d_O_subjectOfFirst_8 : decode b_O_subjectOfFirst 8 = .ok (.iaload, 1) := by decide +kernel
theorem d_O_subjectOfFirst_9 : decode b_O_subjectOfFirst 9 = .ok (.ireturn, 1) := by decide +kernel
theorem d_O_valueOfFirst_0 : decode b_O_valueOfFirst 0 = .ok (.aload_n 0, 1) := by decide +kernel
theorem d_O_valueOfFirst_1 : decode b_O_valueOfFirst 1 = .ok (.getfield 18, 3) := by decide +kernel
theorem d_O_valueOfFirst_4 : decode b_O_valueOfFirst 4 = .ok (.aload_n 0, 1) := by decide +kernel
theorem d_O_valueOfFirst_5 : decode b_O_valueOfFirst 5 = .ok (.getfield 25, 3) := by decide +kernel
theorem d_O_valueOfFirst_8 : decode b_O_valueOfFirst 8 = .ok (.iaload, 1) := by decide +kernel
theorem d_O_valueOfFirst_9 : decode b_O_valueOfFirst 9 = .ok (.ireturn, 1) := by decide +kernel
theorem d_O_dropFirst_0 : decode b_O_dropFirst 0 = .ok (.aload_n 0, 1) := by decide +kernel
theorem d_O_dropFirst_1 : decode b_O_dropFirst 1 = .ok (.getfield 21, 3) := by decide +kernel
theorem d_O_dropFirst_4 : decode b_O_dropFirst 4 = .ok (.ifCond .le 26, 3) := by decide +kernel
theorem d_O_dropFirst_7 : decode b_O_dropFirst 7 = .ok (.aload_n 0, 1) := by decide +kernel
theorem d_O_dropFirst_8 : decode b_O_dropFirst 8 = .ok (.aload_n 0, 1) := by decide +kernel
theorem d_O_dropFirst_9 : decode b_O_dropFirst 9 = .ok (.getfield 25, 3) := by decide +kernel
theorem d_O_dropFirst_12 : decode b_O_dropFirst 12 = .ok (.iconst 1, 1) := by decide +kernel
theorem d_O_dropFirst_13 : decode b_O_dropFirst 13 = .ok (.iadd, 1) := by decide +kernel
theorem d_O_dropFirst_14 : decode b_O_dropFirst 14 = .ok (.bipush 25, 2) := by decide +kernel
theorem d_O_dropFirst_16 : decode b_O_dropFirst 16 = .ok (.irem, 1) := by decide +kernel
theorem d_O_dropFirst_17 : decode b_O_dropFirst 17 = .ok (.putfield 25, 3) := by decide +kernel
theorem d_O_dropFirst_20 : decode b_O_dropFirst 20 = .ok (.aload_n 0, 1) := by decide +kernel
theorem d_O_dropFirst_21 : decode b_O_dropFirst 21 = .ok (.dup, 1) := by decide +kernel
theorem d_O_dropFirst_22 : decode b_O_dropFirst 22 = .ok (.getfield 21, 3) := by decide +kernel
theorem d_O_dropFirst_25 : decode b_O_dropFirst 25 = .ok (.iconst 1, 1) := by decide +kernel
theorem d_O_dropFirst_26 : decode b_O_dropFirst 26 = .ok (.isub, 1) := by decide +kernel
theorem d_O_dropFirst_27 : decode b_O_dropFirst 27 = .ok (.putfield 21, 3) := by decide +kernel
theorem d_O_dropFirst_30 : decode b_O_dropFirst 30 = .ok (.return_, 1) := by decide +kernel
theorem d_L_init_0 : decode b_L_init 0 = .ok (.aload_n 0, 1) := by decide +kernel
theorem d_L_init_1 : decode b_L_init 1 = .ok (.invokespecial 3, 3) := by decide +kernel
theorem d_L_init_4 : decode b_L_init 4 = .ok (.aload_n 0, 1) := by decide +kernel
theorem d_L_init_5 : decode b_L_init 5 = .ok (.bipush 8, 2) := by decide +kernel
theorem d_L_init_7 : decode b_L_init 7 = .ok (.newarray .int, 2) := by decide +kernel
theorem d_L_init_9 : decode b_L_init 9 = .ok (.putfield 9, 3) := by decide +kernel
theorem d_L_init_12 : decode b_L_init 12 = .ok (.return_, 1) := by decide +kernel
theorem d_L_add_0 : decode b_L_add 0 = .ok (.aload_n 0, 1) := by decide +kernel
theorem d_L_add_1 : decode b_L_add 1 = .ok (.getfield 15, 3) := by decide +kernel
theorem d_L_add_4 : decode b_L_add 4 = .ok (.bipush 8, 2) := by decide +kernel
theorem d_L_add_6 : decode b_L_add 6 = .ok (.if_icmp .ge 23, 3) := by decide +kernel
theorem d_L_add_9 : decode b_L_add 9 = .ok (.aload_n 0, 1) := by decide +kernel
theorem d_L_add_10 : decode b_L_add 10 = .ok (.getfield 9, 3) := by decide +kernel
theorem d_L_add_13 : decode b_L_add 13 = .ok (.aload_n 0, 1) := by decide +kernel
theorem d_L_add_14 : decode b_L_add 14 = .ok (.getfield 15, 3) := by decide +kernel
theorem d_L_add_17 : decode b_L_add 17 = .ok (.iload_n 1, 1) := by decide +kernel
theorem d_L_add_18 : decode b_L_add 18 = .ok (.iastore, 1) := by decide +kernel
theorem d_L_add_19 : decode b_L_add 19 = .ok (.aload_n 0, 1) := by decide +kernel
theorem d_L_add_20 : decode b_L_add 20 = .ok (.dup, 1) := by decide +kernel
theorem d_L_add_21 : decode b_L_add 21 = .ok (.getfield 15, 3) := by decide +kernel
theorem d_L_add_24 : decode b_L_add 24 = .ok (.iconst 1, 1) := by decide +kernel
theorem d_L_add_25 : decode b_L_add 25 = .ok (.iadd, 1) := by decide +kernel
theorem d_L_add_26 : decode b_L_add 26 = .ok (.putfield 15, 3) := by decide +kernel
theorem d_L_add_29 : decode b_L_add 29 = .ok (.return_, 1) := by decide +kernel
theorem d_L_numberAt_0 : decode b_L_numberAt 0 = .ok (.iload_n 1, 1) := by decide +kernel
theorem d_L_numberAt_1 : decode b_L_numberAt 1 = .ok (.ifCond .lt 20, 3) := by decide +kernel
theorem d_L_numberAt_4 : decode b_L_numberAt 4 = .ok (.iload_n 1, 1) := by decide +kernel
theorem d_L_numberAt_5 : decode b_L_numberAt 5 = .ok (.aload_n 0, 1) := by decide +kernel
theorem d_L_numberAt_6 : decode b_L_numberAt 6 = .ok (.getfield 15, 3) := by decide +kernel
theorem d_L_numberAt_9 : decode b_L_numberAt 9 = .ok (.if_icmp .ge 12, 3) := by decide +kernel
theorem d_L_numberAt_12 : decode b_L_numberAt 12 = .ok (.aload_n 0, 1) := by decide +kernel
theorem d_L_numberAt_13 : decode b_L_numberAt 13 = .ok (.getfield 9, 3) := by decide +kernel
theorem d_L_numberAt_16 : decode b_L_numberAt 16 = .ok (.iload_n 1, 1) := by decide +kernel
theorem d_L_numberAt_17 : decode b_L_numberAt 17 = .ok (.iaload, 1) := by decide +kernel
theorem d_L_numberAt_18 : decode b_L_numberAt 18 = .ok (.goto 4, 3) := by decide +kernel
theorem d_L_numberAt_21 : decode b_L_numberAt 21 = .ok (.iconst 0, 1) := by decide +kernel
theorem d_L_numberAt_22 : decode b_L_numberAt 22 = .ok (.ireturn, 1) := by decide +kernel
theorem d_L_remove_0 : decode b_L_remove 0 = .ok (.iload_n 1, 1) := by decide +kernel
theorem d_L_remove_1 : decode b_L_remove 1 = .ok (.ifCond .lt 11, 3) := by decide +kernel
theorem d_L_remove_4 : decode b_L_remove 4 = .ok (.iload_n 1, 1) := by decide +kernel
theorem d_L_remove_5 : decode b_L_remove 5 = .ok (.aload_n 0, 1) := by decide +kernel
theorem d_L_remove_6 : decode b_L_remove 6 = .ok (.getfield 15, 3) := by decide +kernel
theorem d_L_remove_9 : decode b_L_remove 9 = .ok (.if_icmp .lt 4, 3) := by decide +kernel
theorem d_L_remove_12 : decode b_L_remove 12 = .ok (.return_, 1) := by decide +kernel
theorem d_L_remove_13 : decode b_L_remove 13 = .ok (.iload_n 1, 1) := by decide +kernel
theorem d_L_remove_14 : decode b_L_remove 14 = .ok (.istore_n 2, 1) := by decide +kernel
theorem d_L_remove_15 : decode b_L_remove 15 = .ok (.iload_n 2, 1) := by decide +kernel
theorem d_L_remove_16 : decode b_L_remove 16 = .ok (.aload_n 0, 1) := by decide +kernel
theorem d_L_remove_17 : decode b_L_remove 17 = .ok (.getfield 15, 3) := by decide +kernel
theorem d_L_remove_20 : decode b_L_remove 20 = .ok (.iconst 1, 1) := by decide +kernel
theorem d_L_remove_21 : decode b_L_remove 21 = .ok (.isub, 1) := by decide +kernel
theorem d_L_remove_22 : decode b_L_remove 22 = .ok (.if_icmp .ge 23, 3) := by decide +kernel
theorem d_L_remove_25 : decode b_L_remove 25 = .ok (.aload_n 0, 1) := by decide +kernel
theorem d_L_remove_26 : decode b_L_remove 26 = .ok (.getfield 9, 3) := by decide +kernel
theorem d_L_remove_29 : decode b_L_remove 29 = .ok (.iload_n 2, 1) := by decide +kernel
theorem d_L_remove_30 : decode b_L_remove 30 = .ok (.aload_n 0, 1) := by decide +kernel
theorem d_L_remove_31 : decode b_L_remove 31 = .ok (.getfield 9, 3) := by decide +kernel
theorem d_L_remove_34 : decode b_L_remove 34 = .ok (.iload_n 2, 1) := by decide +kernel
theorem d_L_remove_35 : decode b_L_remove 35 = .ok (.iconst 1, 1) := by decide +kernel
theorem d_L_remove_36 : decode b_L_remove 36 = .ok (.iadd, 1) := by decide +kernel
theorem d_L_remove_37 : decode b_L_remove 37 = .ok (.iaload, 1) := by decide +kernel
theorem d_L_remove_38 : decode b_L_remove 38 = .ok (.iastore, 1) := by decide +kernel
theorem d_L_remove_39 : decode b_L_remove 39 = .ok (.iinc 2 1, 3) := by decide +kernel
theorem d_L_remove_42 : decode b_L_remove 42 = .ok (.goto (-27), 3) := by decide +kernel
theorem d_L_remove_45 : decode b_L_remove 45 = .ok (.aload_n 0, 1) := by decide +kernel
theorem d_L_remove_46 : decode b_L_remove 46 = .ok (.dup, 1) := by decide +kernel
theorem d_L_remove_47 : decode b_L_remove 47 = .ok (.getfield 15, 3) := by decide +kernel
theorem d_L_remove_50 : decode b_L_remove 50 = .ok (.iconst 1, 1) := by decide +kernel
theorem d_L_remove_51 : decode b_L_remove 51 = .ok (.isub, 1) := by decide +kernel
theorem d_L_remove_52 : decode b_L_remove 52 = .ok (.putfield 15, 3) := by decide +kernel
theorem d_L_remove_55 : decode b_L_remove 55 = .ok (.return_, 1) := by decide +kernel
theorem d_T_init_0 : decode b_T_init 0 = .ok (.aload_n 0, 1) := by decide +kernel
theorem d_T_init_1 : decode b_T_init 1 = .ok (.invokespecial 3, 3) := by decide +kernel
theorem d_T_init_4 : decode b_T_init 4 = .ok (.aload_n 0, 1) := by decide +kernel
theorem d_T_init_5 : decode b_T_init 5 = .ok (.sipush 301, 3) := by decide +kernel
theorem d_T_init_8 : decode b_T_init 8 = .ok (.newarray .int, 2) := by decide +kernel
theorem d_T_init_10 : decode b_T_init 10 = .ok (.putfield 9, 3) := by decide +kernel
theorem d_T_init_13 : decode b_T_init 13 = .ok (.aload_n 0, 1) := by decide +kernel
theorem d_T_init_14 : decode b_T_init 14 = .ok (.sipush 301, 3) := by decide +kernel
theorem d_T_init_17 : decode b_T_init 17 = .ok (.newarray .int, 2) := by decide +kernel
theorem d_T_init_19 : decode b_T_init 19 = .ok (.putfield 15, 3) := by decide +kernel
theorem d_T_init_22 : decode b_T_init 22 = .ok (.aload_n 0, 1) := by decide +kernel
theorem d_T_init_23 : decode b_T_init 23 = .ok (.sipush 301, 3) := by decide +kernel
theorem d_T_init_26 : decode b_T_init 26 = .ok (.newarray .int, 2) := by decide +kernel
theorem d_T_init_28 : decode b_T_init 28 = .ok (.putfield 18, 3) := by decide +kernel
theorem d_T_init_31 : decode b_T_init 31 = .ok (.aload_n 0, 1) := by decide +kernel
theorem d_T_init_32 : decode b_T_init 32 = .ok (.sipush 301, 3) := by decide +kernel
theorem d_T_init_35 : decode b_T_init 35 = .ok (.newarray .int, 2) := by decide +kernel
theorem d_T_init_37 : decode b_T_init 37 = .ok (.putfield 21, 3) := by decide +kernel
theorem d_T_init_40 : decode b_T_init 40 = .ok (.aload_n 0, 1) := by decide +kernel
theorem d_T_init_41 : decode b_T_init 41 = .ok (.sipush 301, 3) := by decide +kernel
theorem d_T_init_44 : decode b_T_init 44 = .ok (.newarray .int, 2) := by decide +kernel
theorem d_T_init_46 : decode b_T_init 46 = .ok (.putfield 24, 3) := by decide +kernel
theorem d_T_init_49 : decode b_T_init 49 = .ok (.return_, 1) := by decide +kernel
theorem d_T_isFull_0 : decode b_T_isFull 0 = .ok (.aload_n 0, 1) := by decide +kernel
theorem d_T_isFull_1 : decode b_T_isFull 1 = .ok (.getfield 27, 3) := by decide +kernel
theorem d_T_isFull_4 : decode b_T_isFull 4 = .ok (.sipush 300, 3) := by decide +kernel
theorem d_T_isFull_7 : decode b_T_isFull 7 = .ok (.if_icmp .lt 7, 3) := by decide +kernel
theorem d_T_isFull_10 : decode b_T_isFull 10 = .ok (.iconst 1, 1) := by decide +kernel
theorem d_T_isFull_11 : decode b_T_isFull 11 = .ok (.goto 4, 3) := by decide +kernel
theorem d_T_isFull_14 : decode b_T_isFull 14 = .ok (.iconst 0, 1) := by decide +kernel
theorem d_T_isFull_15 : decode b_T_isFull 15 = .ok (.ireturn, 1) := by decide +kernel
theorem d_T_has_0 : decode b_T_has 0 = .ok (.iload_n 1, 1) := by decide +kernel
theorem d_T_has_1 : decode b_T_has 1 = .ok (.iconst 1, 1) := by decide +kernel
theorem d_T_has_2 : decode b_T_has 2 = .ok (.if_icmp .lt 15, 3) := by decide +kernel
theorem d_T_has_5 : decode b_T_has 5 = .ok (.iload_n 1, 1) := by decide +kernel
theorem d_T_has_6 : decode b_T_has 6 = .ok (.aload_n 0, 1) := by decide +kernel
theorem d_T_has_7 : decode b_T_has 7 = .ok (.getfield 27, 3) := by decide +kernel
theorem d_T_has_10 : decode b_T_has 10 = .ok (.if_icmp .gt 7, 3) := by decide +kernel
theorem d_T_has_13 : decode b_T_has 13 = .ok (.iconst 1, 1) := by decide +kernel
theorem d_T_has_14 : decode b_T_has 14 = .ok (.goto 4, 3) := by decide +kernel
theorem d_T_has_17 : decode b_T_has 17 = .ok (.iconst 0, 1) := by decide +kernel
theorem d_T_has_18 : decode b_T_has 18 = .ok (.ireturn, 1) := by decide +kernel
theorem d_T_accept_0 : decode b_T_accept 0 = .ok (.aload_n 0, 1) := by decide +kernel
theorem d_T_accept_1 : decode b_T_accept 1 = .ok (.invokevirtual 31, 3) := by decide +kernel
theorem d_T_accept_4 : decode b_T_accept 4 = .ok (.ifCond .eq 5, 3) := by decide +kernel
theorem d_T_accept_7 : decode b_T_accept 7 = .ok (.iconst 0, 1) := by decide +kernel
theorem d_T_accept_8 : decode b_T_accept 8 = .ok (.ireturn, 1) := by decide +kernel
theorem d_T_accept_9 : decode b_T_accept 9 = .ok (.aload_n 0, 1) := by decide +kernel
theorem d_T_accept_10 : decode b_T_accept 10 = .ok (.dup, 1) := by decide +kernel
theorem d_T_accept_11 : decode b_T_accept 11 = .ok (.getfield 27, 3) := by decide +kernel
theorem d_T_accept_14 : decode b_T_accept 14 = .ok (.iconst 1, 1) := by decide +kernel
theorem d_T_accept_15 : decode b_T_accept 15 = .ok (.iadd, 1) := by decide +kernel
theorem d_T_accept_16 : decode b_T_accept 16 = .ok (.putfield 27, 3) := by decide +kernel
theorem d_T_accept_19 : decode b_T_accept 19 = .ok (.aload_n 0, 1) := by decide +kernel
theorem d_T_accept_20 : decode b_T_accept 20 = .ok (.getfield 9, 3) := by decide +kernel
theorem d_T_accept_23 : decode b_T_accept 23 = .ok (.aload_n 0, 1) := by decide +kernel
theorem d_T_accept_24 : decode b_T_accept 24 = .ok (.getfield 27, 3) := by decide +kernel
theorem d_T_accept_27 : decode b_T_accept 27 = .ok (.iload_n 1, 1) := by decide +kernel
theorem d_T_accept_28 : decode b_T_accept 28 = .ok (.iastore, 1) := by decide +kernel
theorem d_T_accept_29 : decode b_T_accept 29 = .ok (.aload_n 0, 1) := by decide +kernel
theorem d_T_accept_30 : decode b_T_accept 30 = .ok (.getfield 15, 3) := by decide +kernel
theorem d_T_accept_33 : decode b_T_accept 33 = .ok (.aload_n 0, 1) := by decide +kernel
theorem d_T_accept_34 : decode b_T_accept 34 = .ok (.getfield 27, 3) := by decide +kernel
theorem d_T_accept_37 : decode b_T_accept 37 = .ok (.iload_n 2, 1) := by decide +kernel
theorem d_T_accept_38 : decode b_T_accept 38 = .ok (.iastore, 1) := by decide +kernel
theorem d_T_accept_39 : decode b_T_accept 39 = .ok (.aload_n 0, 1) := by decide +kernel
theorem d_T_accept_40 : decode b_T_accept 40 = .ok (.getfield 18, 3) := by decide +kernel
theorem d_T_accept_43 : decode b_T_accept 43 = .ok (.aload_n 0, 1) := by decide +kernel
theorem d_T_accept_44 : decode b_T_accept 44 = .ok (.getfield 27, 3) := by decide +kernel
theorem d_T_accept_47 : decode b_T_accept 47 = .ok (.iload_n 3, 1) := by decide +kernel
theorem d_T_accept_48 : decode b_T_accept 48 = .ok (.iastore, 1) := by decide +kernel
theorem d_T_accept_49 : decode b_T_accept 49 = .ok (.aload_n 0, 1) := by decide +kernel
theorem d_T_accept_50 : decode b_T_accept 50 = .ok (.getfield 21, 3) := by decide +kernel
theorem d_T_accept_53 : decode b_T_accept 53 = .ok (.aload_n 0, 1) := by decide +kernel
theorem d_T_accept_54 : decode b_T_accept 54 = .ok (.getfield 27, 3) := by decide +kernel
theorem d_T_accept_57 : decode b_T_accept 57 = .ok (.iload 4, 2) := by decide +kernel
theorem d_T_accept_59 : decode b_T_accept 59 = .ok (.iastore, 1) := by decide +kernel
theorem d_T_accept_60 : decode b_T_accept 60 = .ok (.aload_n 0, 1) := by decide +kernel
theorem d_T_accept_61 : decode b_T_accept 61 = .ok (.getfield 24, 3) := by decide +kernel
theorem d_T_accept_64 : decode b_T_accept 64 = .ok (.aload_n 0, 1) := by decide +kernel
theorem d_T_accept_65 : decode b_T_accept 65 = .ok (.getfield 27, 3) := by decide +kernel
theorem d_T_accept_68 : decode b_T_accept 68 = .ok (.iconst 1, 1) := by decide +kernel
theorem d_T_accept_69 : decode b_T_accept 69 = .ok (.iastore, 1) := by decide +kernel
theorem d_T_accept_70 : decode b_T_accept 70 = .ok (.aload_n 0, 1) := by decide +kernel
theorem d_T_accept_71 : decode b_T_accept 71 = .ok (.getfield 27, 3) := by decide +kernel
theorem d_T_accept_74 : decode b_T_accept 74 = .ok (.ireturn, 1) := by decide +kernel
theorem d_T_countPending_0 : decode b_T_countPending 0 = .ok (.iconst 0, 1) := by decide +kernel
theorem d_T_countPending_1 : decode b_T_countPending 1 = .ok (.istore_n 2, 1) := by decide +kernel
theorem d_T_countPending_2 : decode b_T_countPending 2 = .ok (.iconst 1, 1) := by decide +kernel
theorem d_T_countPending_3 : decode b_T_countPending 3 = .ok (.istore_n 3, 1) := by decide +kernel
theorem d_T_countPending_4 : decode b_T_countPending 4 = .ok (.iload_n 3, 1) := by decide +kernel
theorem d_T_countPending_5 : decode b_T_countPending 5 = .ok (.aload_n 0, 1) := by decide +kernel
theorem d_T_countPending_6 : decode b_T_countPending 6 = .ok (.getfield 27, 3) := by decide +kernel
theorem d_T_countPending_9 : decode b_T_countPending 9 = .ok (.if_icmp .gt 21, 3) := by decide +kernel
theorem d_T_countPending_12 : decode b_T_countPending 12 = .ok (.aload_n 0, 1) := by decide +kernel
theorem d_T_countPending_13 : decode b_T_countPending 13 = .ok (.iload_n 1, 1) := by decide +kernel
theorem d_T_countPending_14 : decode b_T_countPending 14 = .ok (.iload_n 3, 1) := by decide +kernel
theorem d_T_countPending_15 : decode b_T_countPending 15 = .ok (.invokevirtual 35, 3) := by decide +kernel
theorem d_T_countPending_18 : decode b_T_countPending 18 = .ok (.ifCond .eq 6, 3) := by decide +kernel
theorem d_T_countPending_21 : decode b_T_countPending 21 = .ok (.iinc 2 1, 3) := by decide +kernel
theorem d_T_countPending_24 : decode b_T_countPending 24 = .ok (.iinc 3 1, 3) := by decide +kernel
theorem d_T_countPending_27 : decode b_T_countPending 27 = .ok (.goto (-23), 3) := by decide +kernel
theorem d_T_countPending_30 : decode b_T_countPending 30 = .ok (.iload_n 2, 1) := by decide +kernel
theorem d_T_countPending_31 : decode b_T_countPending 31 = .ok (.ireturn, 1) := by decide +kernel
theorem d_T_pendingBlocks_0 : decode b_T_pendingBlocks 0 = .ok (.iconst 0, 1) := by decide +kernel
theorem d_T_pendingBlocks_1 : decode b_T_pendingBlocks 1 = .ok (.istore_n 2, 1) := by decide +kernel
theorem d_T_pendingBlocks_2 : decode b_T_pendingBlocks 2 = .ok (.iconst 1, 1) := by decide +kernel
theorem d_T_pendingBlocks_3 : decode b_T_pendingBlocks 3 = .ok (.istore_n 3, 1) := by decide +kernel
theorem d_T_pendingBlocks_4 : decode b_T_pendingBlocks 4 = .ok (.iload_n 3, 1) := by decide +kernel
theorem d_T_pendingBlocks_5 : decode b_T_pendingBlocks 5 = .ok (.aload_n 0, 1) := by decide +kernel
theorem d_T_pendingBlocks_6 : decode b_T_pendingBlocks 6 = .ok (.getfield 27, 3) := by decide +kernel
theorem d_T_pendingBlocks_9 : decode b_T_pendingBlocks 9 = .ok (.if_icmp .gt 29, 3) := by decide +kernel
theorem d_T_pendingBlocks_12 : decode b_T_pendingBlocks 12 = .ok (.aload_n 0, 1) := by decide +kernel
theorem d_T_pendingBlocks_13 : decode b_T_pendingBlocks 13 = .ok (.iload_n 1, 1) := by decide +kernel
theorem d_T_pendingBlocks_14 : decode b_T_pendingBlocks 14 = .ok (.iload_n 3, 1) := by decide +kernel
theorem d_T_pendingBlocks_15 : decode b_T_pendingBlocks 15 = .ok (.invokevirtual 35, 3) := by decide +kernel
theorem d_T_pendingBlocks_18 : decode b_T_pendingBlocks 18 = .ok (.ifCond .eq 14, 3) := by decide +kernel
theorem d_T_pendingBlocks_21 : decode b_T_pendingBlocks 21 = .ok (.iload_n 2, 1) := by decide +kernel
theorem d_T_pendingBlocks_22 : decode b_T_pendingBlocks 22 = .ok (.iconst 1, 1) := by decide +kernel
theorem d_T_pendingBlocks_23 : decode b_T_pendingBlocks 23 = .ok (.aload_n 0, 1) := by decide +kernel
theorem d_T_pendingBlocks_24 : decode b_T_pendingBlocks 24 = .ok (.getfield 15, 3) := by decide +kernel
theorem d_T_pendingBlocks_27 : decode b_T_pendingBlocks 27 = .ok (.iload_n 3, 1) := by decide +kernel
theorem d_T_pendingBlocks_28 : decode b_T_pendingBlocks 28 = .ok (.iaload, 1) := by decide +kernel
theorem d_T_pendingBlocks_29 : decode b_T_pendingBlocks 29 = .ok (.ishl, 1) := by decide +kernel
theorem d_T_pendingBlocks_30 : decode b_T_pendingBlocks 30 = .ok (.ior, 1) := by decide +kernel
theorem d_T_pendingBlocks_31 : decode b_T_pendingBlocks 31 = .ok (.istore_n 2, 1) := by decide +kernel
theorem d_T_pendingBlocks_32 : decode b_T_pendingBlocks 32 = .ok (.iinc 3 1, 3) := by decide +kernel
theorem d_T_pendingBlocks_35 : decode b_T_pendingBlocks 35 = .ok (.goto (-31), 3) := by decide +kernel
theorem d_T_pendingBlocks_38 : decode b_T_pendingBlocks 38 = .ok (.iload_n 2, 1) := by decide +kernel
theorem d_T_pendingBlocks_39 : decode b_T_pendingBlocks 39 = .ok (.ireturn, 1) := by decide +kernel
theorem d_T_changeFates_0 : decode b_T_changeFates 0 = .ok (.iconst 1, 1) := by decide +kernel
theorem d_T_changeFates_1 : decode b_T_changeFates 1 = .ok (.istore 4, 2) := by decide +kernel
theorem d_T_changeFates_3 : decode b_T_changeFates 3 = .ok (.iload 4, 2) := by decide +kernel
theorem d_T_changeFates_5 : decode b_T_changeFates 5 = .ok (.aload_n 0, 1) := by decide +kernel
theorem d_T_changeFates_6 : decode b_T_changeFates 6 = .ok (.getfield 27, 3) := by decide +kernel
theorem d_T_changeFates_9 : decode b_T_changeFates 9 = .ok (.if_icmp .gt 39, 3) := by decide +kernel
theorem d_T_changeFates_12 : decode b_T_changeFates 12 = .ok (.aload_n 0, 1) := by decide +kernel
theorem d_T_changeFates_13 : decode b_T_changeFates 13 = .ok (.getfield 9, 3) := by decide +kernel
theorem d_T_changeFates_16 : decode b_T_changeFates 16 = .ok (.iload 4, 2) := by decide +kernel
theorem d_T_changeFates_18 : decode b_T_changeFates 18 = .ok (.iaload, 1) := by decide +kernel
theorem d_T_changeFates_19 : decode b_T_changeFates 19 = .ok (.iload_n 1, 1) := by decide +kernel
theorem d_T_changeFates_20 : decode b_T_changeFates 20 = .ok (.if_icmp .ne 22, 3) := by decide +kernel
theorem d_T_changeFates_23 : decode b_T_changeFates 23 = .ok (.aload_n 0, 1) := by decide +kernel
theorem d_T_changeFates_24 : decode b_T_changeFates 24 = .ok (.getfield 24, 3) := by decide +kernel
theorem d_T_changeFates_27 : decode b_T_changeFates 27 = .ok (.iload 4, 2) := by decide +kernel
theorem d_T_changeFates_29 : decode b_T_changeFates 29 = .ok (.iaload, 1) := by decide +kernel
theorem d_T_changeFates_30 : decode b_T_changeFates 30 = .ok (.iload_n 2, 1) := by decide +kernel
theorem d_T_changeFates_31 : decode b_T_changeFates 31 = .ok (.if_icmp .ne 11, 3) := by decide +kernel
theorem d_T_changeFates_34 : decode b_T_changeFates 34 = .ok (.aload_n 0, 1) := by decide +kernel
theorem d_T_changeFates_35 : decode b_T_changeFates 35 = .ok (.getfield 24, 3) := by decide +kernel
theorem d_T_changeFates_38 : decode b_T_changeFates 38 = .ok (.iload 4, 2) := by decide +kernel
theorem d_T_changeFates_40 : decode b_T_changeFates 40 = .ok (.iload_n 3, 1) := by decide +kernel
theorem d_T_changeFates_41 : decode b_T_changeFates 41 = .ok (.iastore, 1) := by decide +kernel
theorem d_T_changeFates_42 : decode b_T_changeFates 42 = .ok (.iinc 4 1, 3) := by decide +kernel
theorem d_T_changeFates_45 : decode b_T_changeFates 45 = .ok (.goto (-42), 3) := by decide +kernel
theorem d_T_changeFates_48 : decode b_T_changeFates 48 = .ok (.return_, 1) := by decide +kernel
theorem d_T_isPendingOf_0 : decode b_T_isPendingOf 0 = .ok (.aload_n 0, 1) := by decide +kernel
theorem d_T_isPendingOf_1 : decode b_T_isPendingOf 1 = .ok (.getfield 9, 3) := by decide +kernel
theorem d_T_isPendingOf_4 : decode b_T_isPendingOf 4 = .ok (.iload_n 2, 1) := by decide +kernel
theorem d_T_isPendingOf_5 : decode b_T_isPendingOf 5 = .ok (.iaload, 1) := by decide +kernel
theorem d_T_isPendingOf_6 : decode b_T_isPendingOf 6 = .ok (.iload_n 1, 1) := by decide +kernel
theorem d_T_isPendingOf_7 : decode b_T_isPendingOf 7 = .ok (.if_icmp .ne 17, 3) := by decide +kernel
theorem d_T_isPendingOf_10 : decode b_T_isPendingOf 10 = .ok (.aload_n 0, 1) := by decide +kernel
theorem d_T_isPendingOf_11 : decode b_T_isPendingOf 11 = .ok (.getfield 24, 3) := by decide +kernel
theorem d_T_isPendingOf_14 : decode b_T_isPendingOf 14 = .ok (.iload_n 2, 1) := by decide +kernel
theorem d_T_isPendingOf_15 : decode b_T_isPendingOf 15 = .ok (.iaload, 1) := by decide +kernel
theorem d_T_isPendingOf_16 : decode b_T_isPendingOf 16 = .ok (.iconst 1, 1) := by decide +kernel
theorem d_T_isPendingOf_17 : decode b_T_isPendingOf 17 = .ok (.if_icmp .ne 7, 3) := by decide +kernel
theorem d_T_isPendingOf_20 : decode b_T_isPendingOf 20 = .ok (.iconst 1, 1) := by decide +kernel
theorem d_T_isPendingOf_21 : decode b_T_isPendingOf 21 = .ok (.goto 4, 3) := by decide +kernel
theorem d_T_isPendingOf_24 : decode b_T_isPendingOf 24 = .ok (.iconst 0, 1) := by decide +kernel
theorem d_T_isPendingOf_25 : decode b_T_isPendingOf 25 = .ok (.ireturn, 1) := by decide +kernel
theorem d_W_law_0 : decode b_W_law 0 = .ok (.new 7, 3) := by decide +kernel
theorem d_W_law_3 : decode b_W_law 3 = .ok (.dup, 1) := by decide +kernel
theorem d_W_law_4 : decode b_W_law 4 = .ok (.invokespecial 9, 3) := by decide +kernel
theorem d_W_law_7 : decode b_W_law 7 = .ok (.astore_n 1, 1) := by decide +kernel
theorem d_W_law_8 : decode b_W_law 8 = .ok (.new 10, 3) := by decide +kernel
theorem d_W_law_11 : decode b_W_law 11 = .ok (.dup, 1) := by decide +kernel
theorem d_W_law_12 : decode b_W_law 12 = .ok (.invokespecial 12, 3) := by decide +kernel
theorem d_W_law_15 : decode b_W_law 15 = .ok (.astore_n 2, 1) := by decide +kernel
theorem d_W_law_16 : decode b_W_law 16 = .ok (.iconst 0, 1) := by decide +kernel
theorem d_W_law_17 : decode b_W_law 17 = .ok (.istore_n 3, 1) := by decide +kernel
theorem d_W_law_18 : decode b_W_law 18 = .ok (.iload_n 3, 1) := by decide +kernel
theorem d_W_law_19 : decode b_W_law 19 = .ok (.aload_n 0, 1) := by decide +kernel
theorem d_W_law_20 : decode b_W_law 20 = .ok (.arraylength, 1) := by decide +kernel
theorem d_W_law_21 : decode b_W_law 21 = .ok (.iconst 4, 1) := by decide +kernel
theorem d_W_law_22 : decode b_W_law 22 = .ok (.isub, 1) := by decide +kernel
theorem d_W_law_23 : decode b_W_law 23 = .ok (.if_icmp .gt 575, 3) := by decide +kernel
theorem d_W_law_26 : decode b_W_law 26 = .ok (.aload_n 0, 1) := by decide +kernel
theorem d_W_law_27 : decode b_W_law 27 = .ok (.iload_n 3, 1) := by decide +kernel
theorem d_W_law_28 : decode b_W_law 28 = .ok (.iaload, 1) := by decide +kernel
theorem d_W_law_29 : decode b_W_law 29 = .ok (.bipush 31, 2) := by decide +kernel
theorem d_W_law_31 : decode b_W_law 31 = .ok (.iand, 1) := by decide +kernel
theorem d_W_law_32 : decode b_W_law 32 = .ok (.tableswitch 560 0 18 #[92, 135, 158, 181, 214, 237, 250, 263, 286, 309, 332, 355, 378, 411, 434, 457, 481, 504, 537], 92) := by decide +kernel
theorem d_W_law_124 : decode b_W_law 124 = .ok (.aload_n 1, 1) := by decide +kernel
theorem d_W_law_125 : decode b_W_law 125 = .ok (.aload_n 0, 1) := by decide +kernel
theorem d_W_law_126 : decode b_W_law 126 = .ok (.iload_n 3, 1) := by decide +kernel
theorem d_W_law_127 : decode b_W_law 127 = .ok (.iconst 1, 1) := by decide +kernel
theorem d_W_law_128 : decode b_W_law 128 = .ok (.iadd, 1) := by decide +kernel
theorem d_W_law_129 : decode b_W_law 129 = .ok (.iaload, 1) := by decide +kernel
theorem d_W_law_130 : decode b_W_law 130 = .ok (.aload_n 0, 1) := by decide +kernel
theorem d_W_law_131 : decode b_W_law 131 = .ok (.iload_n 3, 1) := by decide +kernel
theorem d_W_law_132 : decode b_W_law 132 = .ok (.iconst 2, 1) := by decide +kernel
theorem d_W_law_133 : decode b_W_law 133 = .ok (.iadd, 1) := by decide +kernel
theorem d_W_law_134 : decode b_W_law 134 = .ok (.iaload, 1) := by decide +kernel
theorem d_W_law_135 : decode b_W_law 135 = .ok (.aload_n 0, 1) := by decide +kernel
theorem d_W_law_136 : decode b_W_law 136 = .ok (.iload_n 3, 1) := by decide +kernel
theorem d_W_law_137 : decode b_W_law 137 = .ok (.iconst 3, 1) := by decide +kernel
theorem d_W_law_138 : decode b_W_law 138 = .ok (.iadd, 1) := by decide +kernel
theorem d_W_law_139 : decode b_W_law 139 = .ok (.iaload, 1) := by decide +kernel
theorem d_W_law_140 : decode b_W_law 140 = .ok (.invokevirtual 13, 3) := by decide +kernel
theorem d_W_law_143 : decode b_W_law 143 = .ok (.aload_n 2, 1) := by decide +kernel
theorem d_W_law_144 : decode b_W_law 144 = .ok (.aload_n 0, 1) := by decide +kernel
theorem d_W_law_145 : decode b_W_law 145 = .ok (.iload_n 3, 1) := by decide +kernel
theorem d_W_law_146 : decode b_W_law 146 = .ok (.iconst 1, 1) := by decide +kernel
theorem d_W_law_147 : decode b_W_law 147 = .ok (.iadd, 1) := by decide +kernel
theorem d_W_law_148 : decode b_W_law 148 = .ok (.iaload, 1) := by decide +kernel
theorem d_W_law_149 : decode b_W_law 149 = .ok (.aload_n 0, 1) := by decide +kernel
theorem d_W_law_150 : decode b_W_law 150 = .ok (.iload_n 3, 1) := by decide +kernel
theorem d_W_law_151 : decode b_W_law 151 = .ok (.iconst 2, 1) := by decide +kernel
theorem d_W_law_152 : decode b_W_law 152 = .ok (.iadd, 1) := by decide +kernel
theorem d_W_law_153 : decode b_W_law 153 = .ok (.iaload, 1) := by decide +kernel
theorem d_W_law_154 : decode b_W_law 154 = .ok (.aload_n 0, 1) := by decide +kernel
theorem d_W_law_155 : decode b_W_law 155 = .ok (.iload_n 3, 1) := by decide +kernel
theorem d_W_law_156 : decode b_W_law 156 = .ok (.iconst 3, 1) := by decide +kernel
theorem d_W_law_157 : decode b_W_law 157 = .ok (.iadd, 1) := by decide +kernel
theorem d_W_law_158 : decode b_W_law 158 = .ok (.iaload, 1) := by decide +kernel
theorem d_W_law_159 : decode b_W_law 159 = .ok (.invokevirtual 17, 3) := by decide +kernel
theorem d_W_law_162 : decode b_W_law 162 = .ok (.if_icmp .eq 430, 3) := by decide +kernel
theorem d_W_law_165 : decode b_W_law 165 = .ok (.iconst 0, 1) := by decide +kernel
theorem d_W_law_166 : decode b_W_law 166 = .ok (.ireturn, 1) := by decide +kernel
theorem d_W_law_167 : decode b_W_law 167 = .ok (.aload_n 1, 1) := by decide +kernel
theorem d_W_law_168 : decode b_W_law 168 = .ok (.aload_n 0, 1) := by decide +kernel
theorem d_W_law_169 : decode b_W_law 169 = .ok (.iload_n 3, 1) := by decide +kernel
theorem d_W_law_170 : decode b_W_law 170 = .ok (.iconst 1, 1) := by decide +kernel
theorem d_W_law_171 : decode b_W_law 171 = .ok (.iadd, 1) := by decide +kernel
theorem d_W_law_172 : decode b_W_law 172 = .ok (.iaload, 1) := by decide +kernel
theorem d_W_law_173 : decode b_W_law 173 = .ok (.invokevirtual 18, 3) := by decide +kernel
theorem d_W_law_176 : decode b_W_law 176 = .ok (.aload_n 2, 1) := by decide +kernel
theorem d_W_law_177 : decode b_W_law 177 = .ok (.aload_n 0, 1) := by decide +kernel
theorem d_W_law_178 : decode b_W_law 178 = .ok (.iload_n 3, 1) := by decide +kernel
theorem d_W_law_179 : decode b_W_law 179 = .ok (.iconst 1, 1) := by decide +kernel
theorem d_W_law_180 : decode b_W_law 180 = .ok (.iadd, 1) := by decide +kernel
theorem d_W_law_181 : decode b_W_law 181 = .ok (.iaload, 1) := by decide +kernel
theorem d_W_law_182 : decode b_W_law 182 = .ok (.invokevirtual 22, 3) := by decide +kernel
theorem d_W_law_185 : decode b_W_law 185 = .ok (.if_icmp .eq 407, 3) := by decide +kernel
theorem d_W_law_188 : decode b_W_law 188 = .ok (.iconst 0, 1) := by decide +kernel
theorem d_W_law_189 : decode b_W_law 189 = .ok (.ireturn, 1) := by decide +kernel
theorem d_W_law_190 : decode b_W_law 190 = .ok (.aload_n 1, 1) := by decide +kernel
theorem d_W_law_191 : decode b_W_law 191 = .ok (.aload_n 0, 1) := by decide +kernel
theorem d_W_law_192 : decode b_W_law 192 = .ok (.iload_n 3, 1) := by decide +kernel
theorem d_W_law_193 : decode b_W_law 193 = .ok (.iconst 1, 1) := by decide +kernel
theorem d_W_law_194 : decode b_W_law 194 = .ok (.iadd, 1) := by decide +kernel
theorem d_W_law_195 : decode b_W_law 195 = .ok (.iaload, 1) := by decide +kernel
theorem d_W_law_196 : decode b_W_law 196 = .ok (.invokevirtual 23, 3) := by decide +kernel
theorem d_W_law_199 : decode b_W_law 199 = .ok (.aload_n 2, 1) := by decide +kernel
theorem d_W_law_200 : decode b_W_law 200 = .ok (.aload_n 0, 1) := by decide +kernel
theorem d_W_law_201 : decode b_W_law 201 = .ok (.iload_n 3, 1) := by decide +kernel
theorem d_W_law_202 : decode b_W_law 202 = .ok (.iconst 1, 1) := by decide +kernel
theorem d_W_law_203 : decode b_W_law 203 = .ok (.iadd, 1) := by decide +kernel
theorem d_W_law_204 : decode b_W_law 204 = .ok (.iaload, 1) := by decide +kernel
theorem d_W_law_205 : decode b_W_law 205 = .ok (.invokevirtual 27, 3) := by decide +kernel
theorem d_W_law_208 : decode b_W_law 208 = .ok (.if_icmp .eq 384, 3) := by decide +kernel
theorem d_W_law_211 : decode b_W_law 211 = .ok (.iconst 0, 1) := by decide +kernel
theorem d_W_law_212 : decode b_W_law 212 = .ok (.ireturn, 1) := by decide +kernel
theorem d_W_law_213 : decode b_W_law 213 = .ok (.aload_n 1, 1) := by decide +kernel
theorem d_W_law_214 : decode b_W_law 214 = .ok (.aload_n 0, 1) := by decide +kernel
theorem d_W_law_215 : decode b_W_law 215 = .ok (.iload_n 3, 1) := by decide +kernel
theorem d_W_law_216 : decode b_W_law 216 = .ok (.iconst 1, 1) := by decide +kernel
theorem d_W_law_217 : decode b_W_law 217 = .ok (.iadd, 1) := by decide +kernel
theorem d_W_law_218 : decode b_W_law 218 = .ok (.iaload, 1) := by decide +kernel
theorem d_W_law_219 : decode b_W_law 219 = .ok (.aload_n 0, 1) := by decide +kernel
theorem d_W_law_220 : decode b_W_law 220 = .ok (.iload_n 3, 1) := by decide +kernel
theorem d_W_law_221 : decode b_W_law 221 = .ok (.iconst 2, 1) := by decide +kernel
theorem d_W_law_222 : decode b_W_law 222 = .ok (.iadd, 1) := by decide +kernel
theorem d_W_law_223 : decode b_W_law 223 = .ok (.iaload, 1) := by decide +kernel
theorem d_W_law_224 : decode b_W_law 224 = .ok (.invokevirtual 28, 3) := by decide +kernel
theorem d_W_law_227 : decode b_W_law 227 = .ok (.aload_n 2, 1) := by decide +kernel
theorem d_W_law_228 : decode b_W_law 228 = .ok (.aload_n 0, 1) := by decide +kernel
theorem d_W_law_229 : decode b_W_law 229 = .ok (.iload_n 3, 1) := by decide +kernel
theorem d_W_law_230 : decode b_W_law 230 = .ok (.iconst 1, 1) := by decide +kernel
theorem d_W_law_231 : decode b_W_law 231 = .ok (.iadd, 1) := by decide +kernel
theorem d_W_law_232 : decode b_W_law 232 = .ok (.iaload, 1) := by decide +kernel
theorem d_W_law_233 : decode b_W_law 233 = .ok (.aload_n 0, 1) := by decide +kernel
theorem d_W_law_234 : decode b_W_law 234 = .ok (.iload_n 3, 1) := by decide +kernel
theorem d_W_law_235 : decode b_W_law 235 = .ok (.iconst 2, 1) := by decide +kernel
theorem d_W_law_236 : decode b_W_law 236 = .ok (.iadd, 1) := by decide +kernel
theorem d_W_law_237 : decode b_W_law 237 = .ok (.iaload, 1) := by decide +kernel
theorem d_W_law_238 : decode b_W_law 238 = .ok (.invokevirtual 32, 3) := by decide +kernel
end
section
theorem d_W_law_241 : decode b_W_law 241 = .ok (.if_icmp .eq 351, 3) := by decide +kernel
theorem d_W_law_244 : decode b_W_law 244 = .ok (.iconst 0, 1) := by decide +kernel
theorem d_W_law_245 : decode b_W_law 245 = .ok (.ireturn, 1) := by decide +kernel
theorem d_W_law_246 : decode b_W_law 246 = .ok (.aload_n 1, 1) := by decide +kernel
theorem d_W_law_247 : decode b_W_law 247 = .ok (.aload_n 0, 1) := by decide +kernel
theorem d_W_law_248 : decode b_W_law 248 = .ok (.iload_n 3, 1) := by decide +kernel
theorem d_W_law_249 : decode b_W_law 249 = .ok (.iconst 1, 1) := by decide +kernel
theorem d_W_law_250 : decode b_W_law 250 = .ok (.iadd, 1) := by decide +kernel
theorem d_W_law_251 : decode b_W_law 251 = .ok (.iaload, 1) := by decide +kernel
theorem d_W_law_252 : decode b_W_law 252 = .ok (.invokevirtual 33, 3) := by decide +kernel
theorem d_W_law_255 : decode b_W_law 255 = .ok (.aload_n 2, 1) := by decide +kernel
theorem d_W_law_256 : decode b_W_law 256 = .ok (.aload_n 0, 1) := by decide +kernel
theorem d_W_law_257 : decode b_W_law 257 = .ok (.iload_n 3, 1) := by decide +kernel
theorem d_W_law_258 : decode b_W_law 258 = .ok (.iconst 1, 1) := by decide +kernel
theorem d_W_law_259 : decode b_W_law 259 = .ok (.iadd, 1) := by decide +kernel
theorem d_W_law_260 : decode b_W_law 260 = .ok (.iaload, 1) := by decide +kernel
theorem d_W_law_261 : decode b_W_law 261 = .ok (.invokevirtual 36, 3) := by decide +kernel
theorem d_W_law_264 : decode b_W_law 264 = .ok (.if_icmp .eq 328, 3) := by decide +kernel
theorem d_W_law_267 : decode b_W_law 267 = .ok (.iconst 0, 1) := by decide +kernel
theorem d_W_law_268 : decode b_W_law 268 = .ok (.ireturn, 1) := by decide +kernel
theorem d_W_law_269 : decode b_W_law 269 = .ok (.aload_n 1, 1) := by decide +kernel
theorem d_W_law_270 : decode b_W_law 270 = .ok (.invokevirtual 37, 3) := by decide +kernel
theorem d_W_law_273 : decode b_W_law 273 = .ok (.aload_n 2, 1) := by decide +kernel
theorem d_W_law_274 : decode b_W_law 274 = .ok (.invokevirtual 41, 3) := by decide +kernel
theorem d_W_law_277 : decode b_W_law 277 = .ok (.if_icmp .eq 315, 3) := by decide +kernel
theorem d_W_law_280 : decode b_W_law 280 = .ok (.iconst 0, 1) := by decide +kernel
theorem d_W_law_281 : decode b_W_law 281 = .ok (.ireturn, 1) := by decide +kernel
theorem d_W_law_282 : decode b_W_law 282 = .ok (.aload_n 1, 1) := by decide +kernel
theorem d_W_law_283 : decode b_W_law 283 = .ok (.invokevirtual 42, 3) := by decide +kernel
theorem d_W_law_286 : decode b_W_law 286 = .ok (.aload_n 2, 1) := by decide +kernel
theorem d_W_law_287 : decode b_W_law 287 = .ok (.invokevirtual 46, 3) := by decide +kernel
theorem d_W_law_290 : decode b_W_law 290 = .ok (.if_icmp .eq 302, 3) := by decide +kernel
theorem d_W_law_293 : decode b_W_law 293 = .ok (.iconst 0, 1) := by decide +kernel
theorem d_W_law_294 : decode b_W_law 294 = .ok (.ireturn, 1) := by decide +kernel
theorem d_W_law_295 : decode b_W_law 295 = .ok (.aload_n 1, 1) := by decide +kernel
theorem d_W_law_296 : decode b_W_law 296 = .ok (.aload_n 0, 1) := by decide +kernel
theorem d_W_law_297 : decode b_W_law 297 = .ok (.iload_n 3, 1) := by decide +kernel
theorem d_W_law_298 : decode b_W_law 298 = .ok (.iconst 1, 1) := by decide +kernel
theorem d_W_law_299 : decode b_W_law 299 = .ok (.iadd, 1) := by decide +kernel
theorem d_W_law_300 : decode b_W_law 300 = .ok (.iaload, 1) := by decide +kernel
theorem d_W_law_301 : decode b_W_law 301 = .ok (.invokevirtual 47, 3) := by decide +kernel
theorem d_W_law_304 : decode b_W_law 304 = .ok (.aload_n 2, 1) := by decide +kernel
theorem d_W_law_305 : decode b_W_law 305 = .ok (.aload_n 0, 1) := by decide +kernel
theorem d_W_law_306 : decode b_W_law 306 = .ok (.iload_n 3, 1) := by decide +kernel
theorem d_W_law_307 : decode b_W_law 307 = .ok (.iconst 1, 1) := by decide +kernel
theorem d_W_law_308 : decode b_W_law 308 = .ok (.iadd, 1) := by decide +kernel
theorem d_W_law_309 : decode b_W_law 309 = .ok (.iaload, 1) := by decide +kernel
theorem d_W_law_310 : decode b_W_law 310 = .ok (.invokevirtual 50, 3) := by decide +kernel
theorem d_W_law_313 : decode b_W_law 313 = .ok (.if_icmp .eq 279, 3) := by decide +kernel
theorem d_W_law_316 : decode b_W_law 316 = .ok (.iconst 0, 1) := by decide +kernel
theorem d_W_law_317 : decode b_W_law 317 = .ok (.ireturn, 1) := by decide +kernel
theorem d_W_law_318 : decode b_W_law 318 = .ok (.aload_n 1, 1) := by decide +kernel
theorem d_W_law_319 : decode b_W_law 319 = .ok (.aload_n 0, 1) := by decide +kernel
theorem d_W_law_320 : decode b_W_law 320 = .ok (.iload_n 3, 1) := by decide +kernel
theorem d_W_law_321 : decode b_W_law 321 = .ok (.iconst 1, 1) := by decide +kernel
theorem d_W_law_322 : decode b_W_law 322 = .ok (.iadd, 1) := by decide +kernel
theorem d_W_law_323 : decode b_W_law 323 = .ok (.iaload, 1) := by decide +kernel
theorem d_W_law_324 : decode b_W_law 324 = .ok (.invokevirtual 51, 3) := by decide +kernel
theorem d_W_law_327 : decode b_W_law 327 = .ok (.aload_n 2, 1) := by decide +kernel
theorem d_W_law_328 : decode b_W_law 328 = .ok (.aload_n 0, 1) := by decide +kernel
theorem d_W_law_329 : decode b_W_law 329 = .ok (.iload_n 3, 1) := by decide +kernel
theorem d_W_law_330 : decode b_W_law 330 = .ok (.iconst 1, 1) := by decide +kernel
theorem d_W_law_331 : decode b_W_law 331 = .ok (.iadd, 1) := by decide +kernel
theorem d_W_law_332 : decode b_W_law 332 = .ok (.iaload, 1) := by decide +kernel
theorem d_W_law_333 : decode b_W_law 333 = .ok (.invokevirtual 54, 3) := by decide +kernel
theorem d_W_law_336 : decode b_W_law 336 = .ok (.if_icmp .eq 256, 3) := by decide +kernel
theorem d_W_law_339 : decode b_W_law 339 = .ok (.iconst 0, 1) := by decide +kernel
theorem d_W_law_340 : decode b_W_law 340 = .ok (.ireturn, 1) := by decide +kernel
theorem d_W_law_341 : decode b_W_law 341 = .ok (.aload_n 1, 1) := by decide +kernel
theorem d_W_law_342 : decode b_W_law 342 = .ok (.aload_n 0, 1) := by decide +kernel
theorem d_W_law_343 : decode b_W_law 343 = .ok (.iload_n 3, 1) := by decide +kernel
theorem d_W_law_344 : decode b_W_law 344 = .ok (.iconst 1, 1) := by decide +kernel
theorem d_W_law_345 : decode b_W_law 345 = .ok (.iadd, 1) := by decide +kernel
theorem d_W_law_346 : decode b_W_law 346 = .ok (.iaload, 1) := by decide +kernel
theorem d_W_law_347 : decode b_W_law 347 = .ok (.invokevirtual 55, 3) := by decide +kernel
theorem d_W_law_350 : decode b_W_law 350 = .ok (.aload_n 2, 1) := by decide +kernel
theorem d_W_law_351 : decode b_W_law 351 = .ok (.aload_n 0, 1) := by decide +kernel
theorem d_W_law_352 : decode b_W_law 352 = .ok (.iload_n 3, 1) := by decide +kernel
theorem d_W_law_353 : decode b_W_law 353 = .ok (.iconst 1, 1) := by decide +kernel
theorem d_W_law_354 : decode b_W_law 354 = .ok (.iadd, 1) := by decide +kernel
theorem d_W_law_355 : decode b_W_law 355 = .ok (.iaload, 1) := by decide +kernel
theorem d_W_law_356 : decode b_W_law 356 = .ok (.invokevirtual 58, 3) := by decide +kernel
theorem d_W_law_359 : decode b_W_law 359 = .ok (.if_icmp .eq 233, 3) := by decide +kernel
theorem d_W_law_362 : decode b_W_law 362 = .ok (.iconst 0, 1) := by decide +kernel
theorem d_W_law_363 : decode b_W_law 363 = .ok (.ireturn, 1) := by decide +kernel
theorem d_W_law_364 : decode b_W_law 364 = .ok (.aload_n 1, 1) := by decide +kernel
theorem d_W_law_365 : decode b_W_law 365 = .ok (.aload_n 0, 1) := by decide +kernel
theorem d_W_law_366 : decode b_W_law 366 = .ok (.iload_n 3, 1) := by decide +kernel
theorem d_W_law_367 : decode b_W_law 367 = .ok (.iconst 1, 1) := by decide +kernel
theorem d_W_law_368 : decode b_W_law 368 = .ok (.iadd, 1) := by decide +kernel
theorem d_W_law_369 : decode b_W_law 369 = .ok (.iaload, 1) := by decide +kernel
theorem d_W_law_370 : decode b_W_law 370 = .ok (.invokevirtual 59, 3) := by decide +kernel
theorem d_W_law_373 : decode b_W_law 373 = .ok (.aload_n 2, 1) := by decide +kernel
theorem d_W_law_374 : decode b_W_law 374 = .ok (.aload_n 0, 1) := by decide +kernel
theorem d_W_law_375 : decode b_W_law 375 = .ok (.iload_n 3, 1) := by decide +kernel
theorem d_W_law_376 : decode b_W_law 376 = .ok (.iconst 1, 1) := by decide +kernel
theorem d_W_law_377 : decode b_W_law 377 = .ok (.iadd, 1) := by decide +kernel
theorem d_W_law_378 : decode b_W_law 378 = .ok (.iaload, 1) := by decide +kernel
theorem d_W_law_379 : decode b_W_law 379 = .ok (.invokevirtual 62, 3) := by decide +kernel
theorem d_W_law_382 : decode b_W_law 382 = .ok (.if_icmp .eq 210, 3) := by decide +kernel
theorem d_W_law_385 : decode b_W_law 385 = .ok (.iconst 0, 1) := by decide +kernel
theorem d_W_law_386 : decode b_W_law 386 = .ok (.ireturn, 1) := by decide +kernel
theorem d_W_law_387 : decode b_W_law 387 = .ok (.aload_n 1, 1) := by decide +kernel
theorem d_W_law_388 : decode b_W_law 388 = .ok (.aload_n 0, 1) := by decide +kernel
theorem d_W_law_389 : decode b_W_law 389 = .ok (.iload_n 3, 1) := by decide +kernel
theorem d_W_law_390 : decode b_W_law 390 = .ok (.iconst 1, 1) := by decide +kernel
theorem d_W_law_391 : decode b_W_law 391 = .ok (.iadd, 1) := by decide +kernel
theorem d_W_law_392 : decode b_W_law 392 = .ok (.iaload, 1) := by decide +kernel
theorem d_W_law_393 : decode b_W_law 393 = .ok (.invokevirtual 63, 3) := by decide +kernel
theorem d_W_law_396 : decode b_W_law 396 = .ok (.aload_n 2, 1) := by decide +kernel
theorem d_W_law_397 : decode b_W_law 397 = .ok (.aload_n 0, 1) := by decide +kernel
theorem d_W_law_398 : decode b_W_law 398 = .ok (.iload_n 3, 1) := by decide +kernel
theorem d_W_law_399 : decode b_W_law 399 = .ok (.iconst 1, 1) := by decide +kernel
theorem d_W_law_400 : decode b_W_law 400 = .ok (.iadd, 1) := by decide +kernel
theorem d_W_law_401 : decode b_W_law 401 = .ok (.iaload, 1) := by decide +kernel
theorem d_W_law_402 : decode b_W_law 402 = .ok (.invokevirtual 66, 3) := by decide +kernel
theorem d_W_law_405 : decode b_W_law 405 = .ok (.if_icmp .eq 187, 3) := by decide +kernel
theorem d_W_law_408 : decode b_W_law 408 = .ok (.iconst 0, 1) := by decide +kernel
theorem d_W_law_409 : decode b_W_law 409 = .ok (.ireturn, 1) := by decide +kernel
theorem d_W_law_410 : decode b_W_law 410 = .ok (.aload_n 1, 1) := by decide +kernel
theorem d_W_law_411 : decode b_W_law 411 = .ok (.aload_n 0, 1) := by decide +kernel
theorem d_W_law_412 : decode b_W_law 412 = .ok (.iload_n 3, 1) := by decide +kernel
theorem d_W_law_413 : decode b_W_law 413 = .ok (.iconst 1, 1) := by decide +kernel
theorem d_W_law_414 : decode b_W_law 414 = .ok (.iadd, 1) := by decide +kernel
theorem d_W_law_415 : decode b_W_law 415 = .ok (.iaload, 1) := by decide +kernel
theorem d_W_law_416 : decode b_W_law 416 = .ok (.aload_n 0, 1) := by decide +kernel
theorem d_W_law_417 : decode b_W_law 417 = .ok (.iload_n 3, 1) := by decide +kernel
theorem d_W_law_418 : decode b_W_law 418 = .ok (.iconst 2, 1) := by decide +kernel
theorem d_W_law_419 : decode b_W_law 419 = .ok (.iadd, 1) := by decide +kernel
theorem d_W_law_420 : decode b_W_law 420 = .ok (.iaload, 1) := by decide +kernel
theorem d_W_law_421 : decode b_W_law 421 = .ok (.invokevirtual 67, 3) := by decide +kernel
theorem d_W_law_424 : decode b_W_law 424 = .ok (.aload_n 2, 1) := by decide +kernel
theorem d_W_law_425 : decode b_W_law 425 = .ok (.aload_n 0, 1) := by decide +kernel
theorem d_W_law_426 : decode b_W_law 426 = .ok (.iload_n 3, 1) := by decide +kernel
theorem d_W_law_427 : decode b_W_law 427 = .ok (.iconst 1, 1) := by decide +kernel
theorem d_W_law_428 : decode b_W_law 428 = .ok (.iadd, 1) := by decide +kernel
theorem d_W_law_429 : decode b_W_law 429 = .ok (.iaload, 1) := by decide +kernel
theorem d_W_law_430 : decode b_W_law 430 = .ok (.aload_n 0, 1) := by decide +kernel
theorem d_W_law_431 : decode b_W_law 431 = .ok (.iload_n 3, 1) := by decide +kernel
theorem d_W_law_432 : decode b_W_law 432 = .ok (.iconst 2, 1) := by decide +kernel
theorem d_W_law_433 : decode b_W_law 433 = .ok (.iadd, 1) := by decide +kernel
theorem d_W_law_434 : decode b_W_law 434 = .ok (.iaload, 1) := by decide +kernel
theorem d_W_law_435 : decode b_W_law 435 = .ok (.invokevirtual 70, 3) := by decide +kernel
theorem d_W_law_438 : decode b_W_law 438 = .ok (.if_icmp .eq 154, 3) := by decide +kernel
theorem d_W_law_441 : decode b_W_law 441 = .ok (.iconst 0, 1) := by decide +kernel
theorem d_W_law_442 : decode b_W_law 442 = .ok (.ireturn, 1) := by decide +kernel
theorem d_W_law_443 : decode b_W_law 443 = .ok (.aload_n 1, 1) := by decide +kernel
theorem d_W_law_444 : decode b_W_law 444 = .ok (.aload_n 0, 1) := by decide +kernel
theorem d_W_law_445 : decode b_W_law 445 = .ok (.iload_n 3, 1) := by decide +kernel
theorem d_W_law_446 : decode b_W_law 446 = .ok (.iconst 1, 1) := by decide +kernel
theorem d_W_law_447 : decode b_W_law 447 = .ok (.iadd, 1) := by decide +kernel
theorem d_W_law_448 : decode b_W_law 448 = .ok (.iaload, 1) := by decide +kernel
theorem d_W_law_449 : decode b_W_law 449 = .ok (.invokevirtual 71, 3) := by decide +kernel
theorem d_W_law_452 : decode b_W_law 452 = .ok (.aload_n 2, 1) := by decide +kernel
theorem d_W_law_453 : decode b_W_law 453 = .ok (.aload_n 0, 1) := by decide +kernel
theorem d_W_law_454 : decode b_W_law 454 = .ok (.iload_n 3, 1) := by decide +kernel
theorem d_W_law_455 : decode b_W_law 455 = .ok (.iconst 1, 1) := by decide +kernel
theorem d_W_law_456 : decode b_W_law 456 = .ok (.iadd, 1) := by decide +kernel
theorem d_W_law_457 : decode b_W_law 457 = .ok (.iaload, 1) := by decide +kernel
theorem d_W_law_458 : decode b_W_law 458 = .ok (.invokevirtual 74, 3) := by decide +kernel
theorem d_W_law_461 : decode b_W_law 461 = .ok (.if_icmp .eq 131, 3) := by decide +kernel
theorem d_W_law_464 : decode b_W_law 464 = .ok (.iconst 0, 1) := by decide +kernel
theorem d_W_law_465 : decode b_W_law 465 = .ok (.ireturn, 1) := by decide +kernel
theorem d_W_law_466 : decode b_W_law 466 = .ok (.aload_n 1, 1) := by decide +kernel
theorem d_W_law_467 : decode b_W_law 467 = .ok (.aload_n 0, 1) := by decide +kernel
theorem d_W_law_468 : decode b_W_law 468 = .ok (.iload_n 3, 1) := by decide +kernel
theorem d_W_law_469 : decode b_W_law 469 = .ok (.iconst 1, 1) := by decide +kernel
theorem d_W_law_470 : decode b_W_law 470 = .ok (.iadd, 1) := by decide +kernel
theorem d_W_law_471 : decode b_W_law 471 = .ok (.iaload, 1) := by decide +kernel
theorem d_W_law_472 : decode b_W_law 472 = .ok (.invokevirtual 75, 3) := by decide +kernel
theorem d_W_law_475 : decode b_W_law 475 = .ok (.aload_n 2, 1) := by decide +kernel
theorem d_W_law_476 : decode b_W_law 476 = .ok (.aload_n 0, 1) := by decide +kernel
theorem d_W_law_477 : decode b_W_law 477 = .ok (.iload_n 3, 1) := by decide +kernel
theorem d_W_law_478 : decode b_W_law 478 = .ok (.iconst 1, 1) := by decide +kernel
theorem d_W_law_479 : decode b_W_law 479 = .ok (.iadd, 1) := by decide +kernel
theorem d_W_law_480 : decode b_W_law 480 = .ok (.iaload, 1) := by decide +kernel
theorem d_W_law_481 : decode b_W_law 481 = .ok (.invokevirtual 78, 3) := by decide +kernel
theorem d_W_law_484 : decode b_W_law 484 = .ok (.if_icmp .eq 108, 3) := by decide +kernel
theorem d_W_law_487 : decode b_W_law 487 = .ok (.iconst 0, 1) := by decide +kernel
theorem d_W_law_488 : decode b_W_law 488 = .ok (.ireturn, 1) := by decide +kernel
theorem d_W_law_489 : decode b_W_law 489 = .ok (.aload_n 1, 1) := by decide +kernel
theorem d_W_law_490 : decode b_W_law 490 = .ok (.aload_n 0, 1) := by decide +kernel
theorem d_W_law_491 : decode b_W_law 491 = .ok (.iload_n 3, 1) := by decide +kernel
theorem d_W_law_492 : decode b_W_law 492 = .ok (.iconst 1, 1) := by decide +kernel
theorem d_W_law_493 : decode b_W_law 493 = .ok (.iadd, 1) := by decide +kernel
theorem d_W_law_494 : decode b_W_law 494 = .ok (.iaload, 1) := by decide +kernel
theorem d_W_law_495 : decode b_W_law 495 = .ok (.invokevirtual 79, 3) := by decide +kernel
theorem d_W_law_498 : decode b_W_law 498 = .ok (.aload_n 2, 1) := by decide +kernel
theorem d_W_law_499 : decode b_W_law 499 = .ok (.aload_n 0, 1) := by decide +kernel
theorem d_W_law_500 : decode b_W_law 500 = .ok (.iload_n 3, 1) := by decide +kernel
theorem d_W_law_501 : decode b_W_law 501 = .ok (.iconst 1, 1) := by decide +kernel
theorem d_W_law_502 : decode b_W_law 502 = .ok (.iadd, 1) := by decide +kernel
theorem d_W_law_503 : decode b_W_law 503 = .ok (.iaload, 1) := by decide +kernel
theorem d_W_law_504 : decode b_W_law 504 = .ok (.invokevirtual 83, 3) := by decide +kernel
theorem d_W_law_507 : decode b_W_law 507 = .ok (.lcmp, 1) := by decide +kernel
theorem d_W_law_508 : decode b_W_law 508 = .ok (.ifCond .eq 84, 3) := by decide +kernel
theorem d_W_law_511 : decode b_W_law 511 = .ok (.iconst 0, 1) := by decide +kernel
theorem d_W_law_512 : decode b_W_law 512 = .ok (.ireturn, 1) := by decide +kernel
theorem d_W_law_513 : decode b_W_law 513 = .ok (.aload_n 1, 1) := by decide +kernel
theorem d_W_law_514 : decode b_W_law 514 = .ok (.aload_n 0, 1) := by decide +kernel
theorem d_W_law_515 : decode b_W_law 515 = .ok (.iload_n 3, 1) := by decide +kernel
theorem d_W_law_516 : decode b_W_law 516 = .ok (.iconst 1, 1) := by decide +kernel
theorem d_W_law_517 : decode b_W_law 517 = .ok (.iadd, 1) := by decide +kernel
theorem d_W_law_518 : decode b_W_law 518 = .ok (.iaload, 1) := by decide +kernel
theorem d_W_law_519 : decode b_W_law 519 = .ok (.invokevirtual 84, 3) := by decide +kernel
theorem d_W_law_522 : decode b_W_law 522 = .ok (.aload_n 2, 1) := by decide +kernel
theorem d_W_law_523 : decode b_W_law 523 = .ok (.aload_n 0, 1) := by decide +kernel
theorem d_W_law_524 : decode b_W_law 524 = .ok (.iload_n 3, 1) := by decide +kernel
theorem d_W_law_525 : decode b_W_law 525 = .ok (.iconst 1, 1) := by decide +kernel
theorem d_W_law_526 : decode b_W_law 526 = .ok (.iadd, 1) := by decide +kernel
theorem d_W_law_527 : decode b_W_law 527 = .ok (.iaload, 1) := by decide +kernel
theorem d_W_law_528 : decode b_W_law 528 = .ok (.invokevirtual 87, 3) := by decide +kernel
theorem d_W_law_531 : decode b_W_law 531 = .ok (.if_icmp .eq 61, 3) := by decide +kernel
theorem d_W_law_534 : decode b_W_law 534 = .ok (.iconst 0, 1) := by decide +kernel
theorem d_W_law_535 : decode b_W_law 535 = .ok (.ireturn, 1) := by decide +kernel
theorem d_W_law_536 : decode b_W_law 536 = .ok (.aload_n 1, 1) := by decide +kernel
theorem d_W_law_537 : decode b_W_law 537 = .ok (.aload_n 0, 1) := by decide +kernel
theorem d_W_law_538 : decode b_W_law 538 = .ok (.iload_n 3, 1) := by decide +kernel
theorem d_W_law_539 : decode b_W_law 539 = .ok (.iconst 1, 1) := by decide +kernel
theorem d_W_law_540 : decode b_W_law 540 = .ok (.iadd, 1) := by decide +kernel
theorem d_W_law_541 : decode b_W_law 541 = .ok (.iaload, 1) := by decide +kernel
theorem d_W_law_542 : decode b_W_law 542 = .ok (.aload_n 0, 1) := by decide +kernel
theorem d_W_law_543 : decode b_W_law 543 = .ok (.iload_n 3, 1) := by decide +kernel
theorem d_W_law_544 : decode b_W_law 544 = .ok (.iconst 2, 1) := by decide +kernel
theorem d_W_law_545 : decode b_W_law 545 = .ok (.iadd, 1) := by decide +kernel
theorem d_W_law_546 : decode b_W_law 546 = .ok (.iaload, 1) := by decide +kernel
theorem d_W_law_547 : decode b_W_law 547 = .ok (.invokevirtual 88, 3) := by decide +kernel
theorem d_W_law_550 : decode b_W_law 550 = .ok (.aload_n 2, 1) := by decide +kernel
theorem d_W_law_551 : decode b_W_law 551 = .ok (.aload_n 0, 1) := by decide +kernel
theorem d_W_law_552 : decode b_W_law 552 = .ok (.iload_n 3, 1) := by decide +kernel
theorem d_W_law_553 : decode b_W_law 553 = .ok (.iconst 1, 1) := by decide +kernel
theorem d_W_law_554 : decode b_W_law 554 = .ok (.iadd, 1) := by decide +kernel
theorem d_W_law_555 : decode b_W_law 555 = .ok (.iaload, 1) := by decide +kernel
theorem d_W_law_556 : decode b_W_law 556 = .ok (.aload_n 0, 1) := by decide +kernel
theorem d_W_law_557 : decode b_W_law 557 = .ok (.iload_n 3, 1) := by decide +kernel
theorem d_W_law_558 : decode b_W_law 558 = .ok (.iconst 2, 1) := by decide +kernel
theorem d_W_law_559 : decode b_W_law 559 = .ok (.iadd, 1) := by decide +kernel
theorem d_W_law_560 : decode b_W_law 560 = .ok (.iaload, 1) := by decide +kernel
theorem d_W_law_561 : decode b_W_law 561 = .ok (.invokevirtual 91, 3) := by decide +kernel
theorem d_W_law_564 : decode b_W_law 564 = .ok (.if_icmp .eq 28, 3) := by decide +kernel
theorem d_W_law_567 : decode b_W_law 567 = .ok (.iconst 0, 1) := by decide +kernel
theorem d_W_law_568 : decode b_W_law 568 = .ok (.ireturn, 1) := by decide +kernel
theorem d_W_law_569 : decode b_W_law 569 = .ok (.aload_n 1, 1) := by decide +kernel
theorem d_W_law_570 : decode b_W_law 570 = .ok (.aload_n 0, 1) := by decide +kernel
theorem d_W_law_571 : decode b_W_law 571 = .ok (.iload_n 3, 1) := by decide +kernel
theorem d_W_law_572 : decode b_W_law 572 = .ok (.iconst 1, 1) := by decide +kernel
theorem d_W_law_573 : decode b_W_law 573 = .ok (.iadd, 1) := by decide +kernel
theorem d_W_law_574 : decode b_W_law 574 = .ok (.iaload, 1) := by decide +kernel
theorem d_W_law_575 : decode b_W_law 575 = .ok (.invokevirtual 92, 3) := by decide +kernel
theorem d_W_law_578 : decode b_W_law 578 = .ok (.aload_n 2, 1) := by decide +kernel
theorem d_W_law_579 : decode b_W_law 579 = .ok (.aload_n 0, 1) := by decide +kernel
theorem d_W_law_580 : decode b_W_law 580 = .ok (.iload_n 3, 1) := by decide +kernel
theorem d_W_law_581 : decode b_W_law 581 = .ok (.iconst 1, 1) := by decide +kernel
theorem d_W_law_582 : decode b_W_law 582 = .ok (.iadd, 1) := by decide +kernel
theorem d_W_law_583 : decode b_W_law 583 = .ok (.iaload, 1) := by decide +kernel
theorem d_W_law_584 : decode b_W_law 584 = .ok (.invokevirtual 95, 3) := by decide +kernel
theorem d_W_law_587 : decode b_W_law 587 = .ok (.if_icmp .eq 5, 3) := by decide +kernel
theorem d_W_law_590 : decode b_W_law 590 = .ok (.iconst 0, 1) := by decide +kernel
theorem d_W_law_591 : decode b_W_law 591 = .ok (.ireturn, 1) := by decide +kernel
theorem d_W_law_592 : decode b_W_law 592 = .ok (.iinc 3 4, 3) := by decide +kernel
theorem d_W_law_595 : decode b_W_law 595 = .ok (.goto (-577), 3) := by decide +kernel
theorem d_W_law_598 : decode b_W_law 598 = .ok (.iconst 1, 1) := by decide +kernel
theorem d_W_law_599 : decode b_W_law 599 = .ok (.ireturn, 1) := by decide +kernel
theorem d_I_bitCount_0 : decode b_I_bitCount 0 = .ok (.iload_n 0, 1) := by decide +kernel
theorem d_I_bitCount_1 : decode b_I_bitCount 1 = .ok (.iload_n 0, 1) := by decide +kernel
theorem d_I_bitCount_2 : decode b_I_bitCount 2 = .ok (.iconst 1, 1) := by decide +kernel
theorem d_I_bitCount_3 : decode b_I_bitCount 3 = .ok (.iushr, 1) := by decide +kernel
theorem d_I_bitCount_4 : decode b_I_bitCount 4 = .ok (.ldc_w 265, 3) := by decide +kernel
theorem d_I_bitCount_7 : decode b_I_bitCount 7 = .ok (.iand, 1) := by decide +kernel
theorem d_I_bitCount_8 : decode b_I_bitCount 8 = .ok (.isub, 1) := by decide +kernel
theorem d_I_bitCount_9 : decode b_I_bitCount 9 = .ok (.istore_n 0, 1) := by decide +kernel
theorem d_I_bitCount_10 : decode b_I_bitCount 10 = .ok (.iload_n 0, 1) := by decide +kernel
theorem d_I_bitCount_11 : decode b_I_bitCount 11 = .ok (.ldc_w 266, 3) := by decide +kernel
theorem d_I_bitCount_14 : decode b_I_bitCount 14 = .ok (.iand, 1) := by decide +kernel
theorem d_I_bitCount_15 : decode b_I_bitCount 15 = .ok (.iload_n 0, 1) := by decide +kernel
theorem d_I_bitCount_16 : decode b_I_bitCount 16 = .ok (.iconst 2, 1) := by decide +kernel
theorem d_I_bitCount_17 : decode b_I_bitCount 17 = .ok (.iushr, 1) := by decide +kernel
theorem d_I_bitCount_18 : decode b_I_bitCount 18 = .ok (.ldc_w 266, 3) := by decide +kernel
theorem d_I_bitCount_21 : decode b_I_bitCount 21 = .ok (.iand, 1) := by decide +kernel
theorem d_I_bitCount_22 : decode b_I_bitCount 22 = .ok (.iadd, 1) := by decide +kernel
theorem d_I_bitCount_23 : decode b_I_bitCount 23 = .ok (.istore_n 0, 1) := by decide +kernel
theorem d_I_bitCount_24 : decode b_I_bitCount 24 = .ok (.iload_n 0, 1) := by decide +kernel
theorem d_I_bitCount_25 : decode b_I_bitCount 25 = .ok (.iload_n 0, 1) := by decide +kernel
theorem d_I_bitCount_26 : decode b_I_bitCount 26 = .ok (.iconst 4, 1) := by decide +kernel
theorem d_I_bitCount_27 : decode b_I_bitCount 27 = .ok (.iushr, 1) := by decide +kernel
theorem d_I_bitCount_28 : decode b_I_bitCount 28 = .ok (.iadd, 1) := by decide +kernel
theorem d_I_bitCount_29 : decode b_I_bitCount 29 = .ok (.ldc_w 267, 3) := by decide +kernel
theorem d_I_bitCount_32 : decode b_I_bitCount 32 = .ok (.iand, 1) := by decide +kernel
theorem d_I_bitCount_33 : decode b_I_bitCount 33 = .ok (.istore_n 0, 1) := by decide +kernel
theorem d_I_bitCount_34 : decode b_I_bitCount 34 = .ok (.iload_n 0, 1) := by decide +kernel
theorem d_I_bitCount_35 : decode b_I_bitCount 35 = .ok (.iload_n 0, 1) := by decide +kernel
theorem d_I_bitCount_36 : decode b_I_bitCount 36 = .ok (.bipush 8, 2) := by decide +kernel
theorem d_I_bitCount_38 : decode b_I_bitCount 38 = .ok (.iushr, 1) := by decide +kernel
theorem d_I_bitCount_39 : decode b_I_bitCount 39 = .ok (.iadd, 1) := by decide +kernel
theorem d_I_bitCount_40 : decode b_I_bitCount 40 = .ok (.istore_n 0, 1) := by decide +kernel
theorem d_I_bitCount_41 : decode b_I_bitCount 41 = .ok (.iload_n 0, 1) := by decide +kernel
theorem d_I_bitCount_42 : decode b_I_bitCount 42 = .ok (.iload_n 0, 1) := by decide +kernel
theorem d_I_bitCount_43 : decode b_I_bitCount 43 = .ok (.bipush 16, 2) := by decide +kernel
theorem d_I_bitCount_45 : decode b_I_bitCount 45 = .ok (.iushr, 1) := by decide +kernel
theorem d_I_bitCount_46 : decode b_I_bitCount 46 = .ok (.iadd, 1) := by decide +kernel
theorem d_I_bitCount_47 : decode b_I_bitCount 47 = .ok (.istore_n 0, 1) := by decide +kernel
theorem d_I_bitCount_48 : decode b_I_bitCount 48 = .ok (.iload_n 0, 1) := by decide +kernel
theorem d_I_bitCount_49 : decode b_I_bitCount 49 = .ok (.bipush 63, 2) := by decide +kernel
theorem d_I_bitCount_51 : decode b_I_bitCount 51 = .ok (.iand, 1) := by decide +kernel
theorem d_I_bitCount_52 : decode b_I_bitCount 52 = .ok (.ireturn, 1) := by decide +kernel
end
section
abbrev HH : Type := Nat → Nat → Int32
def u2 (h : HH) (i k : Nat) (v : Int32) : HH := fun a b => if a = i ∧ b = k then v else h a b
theorem u2_s (h : HH) (i k : Nat) (v : Int32) : u2 h i k v i k = v := by simp [u2]
theorem u2_i (h : HH) {i a : Nat} (k : Nat) (v : Int32) (ha : a ≠ i) : u2 h i k v a = h a := by funext b; simp [u2, ha]
theorem u2_k (h : HH) {i k b : Nat} (v : Int32) (a : Nat) (hb : b ≠ k) : u2 h i k v a b = h a b := by simp [u2, hb]
abbrev ix (x : Int32) : Nat := x.toNatClampNeg
abbrev sh_E : Type := (Nat × Bool) ⊕ (Nat × List Nat)
def mk_f (ad : Nat → Nat) (h : HH) (i : Nat) (k : Nat) (o : Nat) : Value := match o with
  | 0 => .int (h i k)
  | 1 => .null
  | j + 2 => .ref (ad j)
def mk_v (cI cZ : ClassId) (ad : Nat → Nat) (h : HH) (i : Nat) (e : sh_E) : va_E := match e with
  | .inl a => .inl (cond a.2 cZ cI, a.1, .inl (h i))
  | .inr o => .inr (o.1, o.2.mapIdx (mk_f ad h i))
def mk_e (cI cZ : ClassId) (ad : Nat → Nat) (h : HH) (i : Nat) (e : sh_E) : Nat × va_E := (ad i, mk_v cI cZ ad h i e)
def wld (S : List sh_E) (cI cZ : ClassId) (ad : Nat → Nat) (h : HH) : va_W := S.mapIdx (mk_e cI cZ ad h)
def AdOk (base : Nat) (ad : Nat → Nat) (n : Nat) : Prop := (∀ i j, i < n → j < n → ad i = ad j → i = j) ∧ ∀ i, i < n → base ≤ ad i
section WLD
variable {S : List sh_E} {cI cZ : ClassId} {base : Nat} {ad : Nat → Nat} {h : HH}
theorem wld_at {i : Nat} {e : sh_E} (hs : S[i]? = some e) : (wld S cI cZ ad h)[i]? = some (ad i, mk_v cI cZ ad h i e) := by
  unfold wld
  rw [List.getElem?_mapIdx, hs]
  rfl
theorem wld_key {k : Nat} {q : Nat × va_E} (hk : (wld S cI cZ ad h)[k]? = some q) : k < S.length ∧ q.1 = ad k := by
  unfold wld at hk
  rw [List.getElem?_mapIdx] at hk
  cases hs : S[k]? with
  | none => rw [hs] at hk; cases hk
  | some e =>
    rw [hs] at hk
    cases hk
    exact ⟨(List.getElem?_eq_some_iff.mp hs).1, rfl⟩
theorem wld_D (hA : AdOk base ad S.length) : va_D (fun q => base ≤ q) (wld S cI cZ ad h) := by
  refine ⟨fun i j p q hi hj hpq => ?_, fun k q hk => ?_⟩
  · obtain ⟨l1, h1⟩ := wld_key hi
    obtain ⟨l2, h2⟩ := wld_key hj
    exact hA.1 i j l1 l2 (h1.symm.trans (hpq.trans h2))
  · obtain ⟨l1, h1⟩ := wld_key hk
    show base ≤ q.1
    rw [h1]
    exact hA.2 k l1
theorem mk_v_ne {i j k : Nat} {v : Int32} (e : sh_E) (hj : j ≠ i) : mk_v cI cZ ad (u2 h i k v) j e = mk_v cI cZ ad h j e := by
  have h1 : u2 h i k v j = h j := u2_i h k v hj
  have h2 : mk_f ad (u2 h i k v) j = mk_f ad h j := by
    funext a o
    match o with
    | 0 => simp [mk_f, h1]
    | 1 => rfl
    | x + 2 => rfl
  cases e with
  | inl a => simp [mk_v, h1]
  | inr o => simp [mk_v, h2]
theorem mk_put {i k : Nat} {ks : List Nat} (hk : ks[k]? = some 0) (v : Int32) : (ks.mapIdx (mk_f ad h i)).set k (.int v) = ks.mapIdx (mk_f ad (u2 h i k v) i) := by
  have hl : k < ks.length := (List.getElem?_eq_some_iff.mp hk).1
  apply List.ext_getElem?
  intro j
  rw [List.getElem?_mapIdx]
  by_cases hj : k = j
  · subst hj
    rw [List.getElem?_set_self (by rw [List.length_mapIdx]; exact hl), hk]
    simp [mk_f, u2]
  · rw [List.getElem?_set_ne hj, List.getElem?_mapIdx]
    cases ks[j]? with
    | none => rfl
    | some o =>
      match o with
      | 0 => simp [mk_f, u2_k h v i (Ne.symm hj)]
      | 1 => rfl
      | x + 2 => rfl
theorem wld_set {i k : Nat} {v : Int32} {e : sh_E} {w : va_E} (hs : S[i]? = some e) (hw : w = mk_v cI cZ ad (u2 h i k v) i e) : (wld S cI cZ ad h).set i (ad i, w) = wld S cI cZ ad (u2 h i k v) := by
  have hl : i < (wld S cI cZ ad h).length := (List.getElem?_eq_some_iff.mp (wld_at hs)).1
  apply List.ext_getElem?
  intro j
  by_cases hj : i = j
  · subst hj
    rw [List.getElem?_set_self hl, wld_at hs, hw]
  · rw [List.getElem?_set_ne hj]
    cases hsj : S[j]? with
    | none =>
      unfold wld
      rw [List.getElem?_mapIdx, List.getElem?_mapIdx, hsj]
      rfl
    | some e' => rw [wld_at hsj, wld_at hsj, mk_v_ne e' (Ne.symm hj)]
end WLD
def Lc (ls : Array Slot) (nL : Nat) (vs : List (Option Value)) : Prop := ls.size = nL ∧ lv_wf ls ∧ (∀ (i : Nat) (v : Value), vs[i]? = some (some v) → ls[i]? = some (.val v) ∧ v.category = 1)
theorem Lc.at {ls : Array Slot} {nL : Nat} {vs : List (Option Value)} (h : Lc ls nL vs) (i : Nat) {v : Value} (hv : vs[i]? = some (some v)) : ls[i]? = some (.val v) := (h.2.2 i v hv).1
def Lm (vs : List (Option Value)) (ms : List Bool) : List (Option Value) := vs.zipWith (fun v b => cond b v none) ms
theorem Lc.mask {ls : Array Slot} {nL : Nat} {vs : List (Option Value)} (h : Lc ls nL vs) (ms : List Bool) : Lc ls nL (Lm vs ms) := by
  refine ⟨h.1, h.2.1, fun i v hv => ?_⟩
  unfold Lm at hv
  rw [List.getElem?_zipWith] at hv
  cases h1 : vs[i]? with
  | none => rw [h1] at hv; cases hv
  | some a =>
    cases h2 : ms[i]? with
    | none => rw [h1, h2] at hv; cases hv
    | some b =>
      rw [h1, h2] at hv
      cases b with
      | false => cases hv
      | true =>
        have ha : a = some v := Option.some.inj hv
        subst ha
        exact h.2.2 i v h1
def Lx : Nat → List (Option Value) → List (Nat × Value)
  | _, [] => []
  | n, none :: l => Lx (n + 1) l
  | n, some v :: l => (n, v) :: Lx (n + 1) l
theorem Lx_in : ∀ (l : List (Option Value)) (n : Nat) (q : Nat × Value), q ∈ Lx n l → ∃ i, q.1 = n + i ∧ l[i]? = some (some q.2)
  | [], n, q, h => by simp [Lx] at h
  | none :: l, n, q, h => by
    obtain ⟨i, h1, h2⟩ := Lx_in l (n + 1) q h
    exact ⟨i + 1, by omega, by simpa using h2⟩
  | some v :: l, n, q, h => by
    rcases List.mem_cons.mp h with rfl | h
    · exact ⟨0, rfl, rfl⟩
    · obtain ⟨i, h1, h2⟩ := Lx_in l (n + 1) q h
      exact ⟨i + 1, by omega, by simpa using h2⟩
theorem Lx_mem : ∀ (l : List (Option Value)) (n i : Nat) (v : Value), l[i]? = some (some v) → (n + i, v) ∈ Lx n l
  | [], n, i, v, h => by simp at h
  | none :: l, n, i, v, h => by
    cases i with
    | zero => simp at h
    | succ i =>
      have := Lx_mem l (n + 1) i v (by simpa using h)
      rw [show n + (i + 1) = n + 1 + i by omega]
      exact this
  | some w :: l, n, i, v, h => by
    cases i with
    | zero =>
      have : w = v := by simpa using h
      subst this
      exact List.mem_cons_self
    | succ i =>
      have := Lx_mem l (n + 1) i v (by simpa using h)
      rw [show n + (i + 1) = n + 1 + i by omega]
      exact List.mem_cons_of_mem _ this
theorem Lc.has {ls : Array Slot} {nL : Nat} {vs : List (Option Value)} (h : Lc ls nL vs) : lv_has ls nL (Lx 0 vs) := by
  refine ⟨h.1, h.2.1, fun q hq => ?_⟩
  obtain ⟨i, h1, h2⟩ := Lx_in vs 0 q hq
  rw [h1, Nat.zero_add]
  exact (h.2.2 i q.2 h2).1
theorem Lc.put {ls ls' : Array Slot} {nL i : Nat} {vs : List (Option Value)} {v : Value} (h : Lc ls nL vs) (hv : v.category = 1) (h' : lv_has ls' nL ((i, v) :: (Lx 0 vs).filter (fun q => !(q.1 == i) && !(q.1 + 1 == i && q.2.category == 2)))) : Lc ls' nL (vs.set i (some v)) := by
  refine ⟨h'.1, h'.2.1, fun j w hw => ?_⟩
  by_cases hij : i = j
  · subst hij
    have hl : i < (vs.set i (some v)).length := (List.getElem?_eq_some_iff.mp hw).1
    rw [List.length_set] at hl
    rw [List.getElem?_set_self hl] at hw
    have : v = w := by simpa using hw
    subst this
    exact ⟨h'.2.2 (i, v) List.mem_cons_self, hv⟩
  · rw [List.getElem?_set_ne hij] at hw
    have hc := (h.2.2 j w hw).2
    have hm := Lx_mem vs 0 j w hw
    rw [Nat.zero_add] at hm
    refine ⟨h'.2.2 (j, w) (List.mem_cons_of_mem _ (List.mem_filter.mpr ⟨hm, ?_⟩)), hc⟩
    have h1 : ¬ j = i := fun q => hij q.symm
    simp [h1, hc]
theorem lv_args_at : ∀ (vs : List Value) (i j : Nat) (v : Value), (∀ w ∈ vs, w.category = 1) → vs[j]? = some v → (i + j, v) ∈ lv_args i vs
  | [], i, j, v, _, h => by simp at h
  | w :: vs, i, j, v, hc, h => by
    have h1 : w.category = 1 := hc w List.mem_cons_self
    have e : lv_args i (w :: vs) = (i, w) :: lv_args (i + 1) vs := by simp [lv_args, h1]
    rw [e]
    cases j with
    | zero =>
      have : w = v := by simpa using h
      subst this
      exact List.mem_cons_self
    | succ j =>
      have := lv_args_at vs (i + 1) j v (fun q hq => hc q (List.mem_cons_of_mem _ hq)) (by simpa using h)
      rw [show i + (j + 1) = i + 1 + j by omega]
      exact List.mem_cons_of_mem _ this
theorem Lc_entry {ls : Array Slot} {n : Nat} {avs : List Value} (hcat : ∀ v ∈ avs, v.category = 1) (hl : lv_has ls n (lv_args 0 avs)) : Lc ls n (avs.map some ++ List.replicate (n - avs.length) none) := by
  refine ⟨hl.1, hl.2.1, fun i v hv => ?_⟩
  by_cases hi : i < avs.length
  · rw [List.getElem?_append_left (by simpa using hi), List.getElem?_map] at hv
    cases hx : avs[i]? with
    | none => rw [hx] at hv; cases hv
    | some w =>
      rw [hx] at hv
      have : w = v := by simpa using hv
      subst this
      have h2 := hl.2.2 (0 + i, w) (lv_args_at avs 0 i w hcat hx)
      refine ⟨by simpa using h2, hcat w (List.mem_of_getElem? hx)⟩
  · rw [List.getElem?_append_right (by simpa using hi)] at hv
    have h1 := List.mem_of_getElem? hv
    have h2 := List.eq_of_mem_replicate h1
    cases h2
def catOk (vs : List Value) : Bool := vs.all (fun v => v.category == 1)
theorem cat_ok {vs : List Value} (h : catOk vs = true) : ∀ v ∈ vs, v.category = 1 := by
  intro v hv
  have := List.all_eq_true.mp h v hv
  simpa using this
end
section
def n9_own : String := R_E
def n9_idx : Nat := 19
def n9_y : MethodName := y_V_blocksOfExtent
def n9_host : String := "TwinVolume"
abbrev isN (i : Nat) : Prop := i = 1 ∨ i = 11
def shape : List sh_E := [.inr (0, [3, 13, 23, 0, 0]), .inr (1, [0, 4, 5, 7, 11, 0, 0, 0, 0, 0, 0, 0, 0, 0, 0, 0, 0]), .inl (32, false), .inr (2, [6, 0]), .inl (3, false), .inr (3, [8, 9, 10, 0, 0]), .inl (25, false), .inl (25, false), .inl (25, false), .inr (4, [12, 0]), .inl (8, false), .inr (1, [0, 14, 15, 17, 21, 0, 0, 0, 0, 0, 0, 0, 0, 0, 0, 0, 0]), .inl (32, false), .inr (2, [16, 0]), .inl (3, false), .inr (3, [18, 19, 20, 0, 0]), .inl (25, false), .inl (25, false), .inl (25, false), .inr (4, [22, 0]), .inl (8, false), .inr (5, [24, 25, 26, 27, 28, 0]), .inl (301, false), .inl (301, false), .inl (301, false), .inl (301, false), .inl (301, false), .inr (6, [0, 30, 31, 32, 33, 34, 35, 36, 37, 38, 39, 0, 40, 41, 0, 42, 43, 44, 45, 46, 47, 48, 49, 0, 50, 51, 52, 53]), .inl (301, false), .inl (301, false), .inl (301, false), .inl (301, false), .inl (301, false), .inl (301, true), .inl (64, false), .inl (64, true), .inl (16, true), .inl (16, false), .inl (2, false), .inl (2, false), .inl (2, true), .inl (2, true), .inl (2, true), .inl (2, true), .inl (2, true), .inl (2, true), .inl (2, true), .inl (2, false), .inl (128, false), .inl (128, false), .inl (128, false), .inl (2, false)]
theorem shp_N {i : Nat} (hi : isN i) : shape[i]? = some (.inr (1, [0, i + 1 + 2, i + 2 + 2, i + 4 + 2, i + 8 + 2, 0, 0, 0, 0, 0, 0, 0, 0, 0, 0, 0, 0])) := by
  rcases hi with rfl | rfl <;> rfl
theorem shp_E {i : Nat} (hi : isN i) : shape[i + 2]? = some (.inr (2, [i + 3 + 2, 0])) := by
  rcases hi with rfl | rfl <;> rfl
theorem shp_O {i : Nat} (hi : isN i) : shape[i + 4]? = some (.inr (3, [i + 5 + 2, i + 6 + 2, i + 7 + 2, 0, 0])) := by
  rcases hi with rfl | rfl <;> rfl
theorem shp_L {i : Nat} (hi : isN i) : shape[i + 8]? = some (.inr (4, [i + 9 + 2, 0])) := by
  rcases hi with rfl | rfl <;> rfl
theorem sha_1 {i : Nat} (hi : isN i) : shape[i + 1]? = some (.inl (32, false)) := by
  rcases hi with rfl | rfl <;> rfl
theorem sha_3 {i : Nat} (hi : isN i) : shape[i + 3]? = some (.inl (3, false)) := by
  rcases hi with rfl | rfl <;> rfl
theorem sha_5 {i : Nat} (hi : isN i) : shape[i + 5]? = some (.inl (25, false)) := by
  rcases hi with rfl | rfl <;> rfl
theorem sha_6 {i : Nat} (hi : isN i) : shape[i + 6]? = some (.inl (25, false)) := by
  rcases hi with rfl | rfl <;> rfl
theorem sha_7 {i : Nat} (hi : isN i) : shape[i + 7]? = some (.inl (25, false)) := by
  rcases hi with rfl | rfl <;> rfl
theorem sha_9 {i : Nat} (hi : isN i) : shape[i + 9]? = some (.inl (8, false)) := by
  rcases hi with rfl | rfl <;> rfl
abbrev tyz (cI cZ : ClassId) : List (ClassId × FieldType) := [(cI, .int), (cZ, .boolean)]
def NW (U : State) : Prop := va_Nw (.methodLinkNest n9_own n9_idx n9_y n9_host) U
def KK (D : va_G) (cI cZ : ClassId) (U : State) : Prop := va_K D vwCl (tyz cI cZ) U ∧ NW U
theorem KK.moved {D : va_G} {cI cZ : ClassId} {u U : State} (hW : u.WarmedH U.vm) (h : KK D cI cZ u) : KK D cI cZ U := ⟨va_K.moved hW.alike h.1, va_Nw.warmM hW h.2⟩
def Hw (D : va_G) (cI cZ : ClassId) (base : Nat) (ad : Nat → Nat) (s : State) (S : List sh_E) (h : HH) (H : Heap) (locs : List Loc) : Prop := va_P D vwCl (wld S cI cZ ad h) H ∧ va_S (fun q => base ≤ q) s.heap H locs ∧ AdOk base ad S.length
abbrev FG (own : String) (idx ci k : Nat) : Prop := ∃ (C : String) (T : u_T) (N : Nat), vwCl[ci]? = some (C, T, N) ∧ k < N ∧ (∀ w ∈ u_ws C T N, w ∈ TB) ∧ Cond.fieldLink own idx (T k).1 (T k).2.1 (T k).2.2.1 ∈ TB
abbrev FP (own : String) (idx ci k : Nat) (ty : FieldType) : Prop := ∃ (C : String) (T : u_T) (N : Nat) (tf : Nat → FieldType), vwCl[ci]? = some (C, T, N) ∧ k < N ∧ (∀ w ∈ u_ws C T N, w ∈ TB) ∧ Cond.fieldLink own idx (T k).1 (T k).2.1 (T k).2.2.1 ∈ TB ∧ (∀ k, k < N → parseFieldDescriptor (T k).2.2.1 = some (tf k)) ∧ (∀ a, a < N → ∀ b, b < N → a ≠ b → (T a).2.1 ≠ (T b).2.1) ∧ (T k).2.2.2 = false ∧ parseFieldDescriptor (T k).2.2.1 = some ty
abbrev MF (own : String) (idx : Nat) (y : MethodName) (bytes : ByteArray) (maxL : Nat) (ret : Option FieldType) (n : Nat) : Prop := Cond.methodLink own idx y ∈ TB ∧ Cond.code y bytes maxL ret ∈ TB ∧ Cond.initialized y.cls ∈ TB ∧ (y.cls ≠ "java/lang/invoke/MethodHandle" ∧ y.cls ≠ "java/lang/invoke/VarHandle" ∧ (parseMethodDescriptor y.desc).map (fun d => d.parameters.length) = some n)
abbrev MN (y : MethodName) (bytes : ByteArray) (maxL : Nat) (ret : Option FieldType) (n : Nat) : Prop := Cond.code y bytes maxL ret ∈ TB ∧ Cond.initialized y.cls ∈ TB ∧ (y.cls ≠ "java/lang/invoke/MethodHandle" ∧ y.cls ≠ "java/lang/invoke/VarHandle" ∧ (parseMethodDescriptor y.desc).map (fun d => d.parameters.length) = some n)
abbrev rmD (d lw : Nat) : Room := { frames := d, cells := 0, slots := 0, locals := lw }
def Pw (D : va_G) (cI cZ : ClassId) (base : Nat) (ad : Nat → Nat) (avs : List Value) (h : HH) : Array Value → State → Prop := va_Pc avs (fun U => va_P D vwCl (wld shape cI cZ ad h) U.heap ∧ KK D cI cZ U ∧ AdOk base ad shape.length)
def Qw (D : va_G) (cI cZ : ClassId) (base : Nat) (ad : Nat → Nat) (post : Option Value → HH → Prop) : Array Value → State → Outcome → State → Prop := fun _ st oc t => (∃ (v : Option Value) (h' : HH), oc = .returned v ∧ post v h' ∧ va_P D vwCl (wld shape cI cZ ad h') t.heap) ∧ va_F (fun q => base ≤ q) st t
def Ct (l : Launch) (D : va_G) (cI cZ : ClassId) (base : Nat) (ad : Nat → Nat) (y : MethodName) (bytes : ByteArray) (maxL : Nat) (ret : Option FieldType) (d lw : Nat) (avs : List Value) (h : HH) (post : Option Value → HH → Prop) : Prop :=
  Met l y (Cond.code y bytes maxL ret :: TB) (rmD d lw) (Pw D cI cZ base ad avs h) (Qw D cI cZ base ad post) 0 0 (fun q => base ≤ q)
section ROWS
variable {p : Program} {l : Launch} {e : Env} {R : Room} {s : State} {m : MethodId} {args : Array Value} {below : List Frame} {meth : Method} {c : Code} {H : Heap} {locs : List Loc} {cells slots : Nat} {Q : State → Prop}
variable {cc : ByteArray} {pc nL : Nat} {ls : Array Slot} {rest : List Value} {D : va_G} {cI cZ : ClassId} {base : Nat} {ad : Nat → Nat} {S : List sh_E} {h : HH} {own : String}
theorem r_geti (X : CallFix p m c cc nL s args TB own) (K : KK D cI cZ s) (hw : Hw D cI cZ base ad s S h H locs) {idx ci k : Nat} (F : FG own idx ci k) {i : Nat} {ks : List Nat} (hs : S[i]? = some (.inr (ci, ks))) (hk : ks[k]? = some 0) (hdg : decode cc pc = .ok (.getfield idx, 3))
    (kk : W p l e R s m args below meth c H locs cells slots Q (F0 m (pc + 3) ls (.int (h i k) :: rest))) : W p l e R s m args below meth c H locs cells slots Q (F0 m pc ls (.ref (ad i) :: rest)) := by
  obtain ⟨C, T, N, h1, h2, h3, h4⟩ := F
  refine va_get (D := D) (own := own) (ref := (T k).1) X.1 X.2.1 X.2.2.2.2 h3 X.2.2.2.1 K.1 hw.1 i (wld_at hs) h1 k h2 (X.2.2.2.2 _ h4) (fun _ h9 => h9) (v := .int (h i k)) ?_ hdg kk
  rw [List.getElem?_mapIdx, hk]
  rfl
theorem r_getr (X : CallFix p m c cc nL s args TB own) (K : KK D cI cZ s) (hw : Hw D cI cZ base ad s S h H locs) {idx ci k : Nat} (F : FG own idx ci k) {i j : Nat} {ks : List Nat} (hs : S[i]? = some (.inr (ci, ks))) (hk : ks[k]? = some (j + 2)) (hdg : decode cc pc = .ok (.getfield idx, 3))
    (kk : W p l e R s m args below meth c H locs cells slots Q (F0 m (pc + 3) ls (.ref (ad j) :: rest))) : W p l e R s m args below meth c H locs cells slots Q (F0 m pc ls (.ref (ad i) :: rest)) := by
  obtain ⟨C, T, N, h1, h2, h3, h4⟩ := F
  refine va_get (D := D) (own := own) (ref := (T k).1) X.1 X.2.1 X.2.2.2.2 h3 X.2.2.2.1 K.1 hw.1 i (wld_at hs) h1 k h2 (X.2.2.2.2 _ h4) (fun _ h9 => h9) (v := .ref (ad j)) ?_ hdg kk
  rw [List.getElem?_mapIdx, hk]
  rfl
theorem r_put (X : CallFix p m c cc nL s args TB own) (K : KK D cI cZ s) (hw : Hw D cI cZ base ad s S h H locs) {idx ci k : Nat} {ty : FieldType} (F : FP own idx ci k ty) {i : Nat} {ks : List Nat} (hs : S[i]? = some (.inr (ci, ks))) (hk : ks[k]? = some 0) {v : Int32} (hn : narrow ty (.int v) = .int v) (hf : fits ty (.int v) = true) (hdg : decode cc pc = .ok (.putfield idx, 3))
    (kk : ∀ (H1 : Heap) (locs1 : List Loc), Hw D cI cZ base ad s S (u2 h i k v) H1 locs1 → W p l e R s m args below meth c H1 locs1 cells slots Q (F0 m (pc + 3) ls rest)) : W p l e R s m args below meth c H locs cells slots Q (F0 m pc ls (.int v :: .ref (ad i) :: rest)) := by
  obtain ⟨C, T, N, tf, h1, h2, h3, h4, h5, h6, h7, h8⟩ := F
  have hl : k < (ks.mapIdx (mk_f ad h i)).length := by
    rw [List.length_mapIdx]
    exact (List.getElem?_eq_some_iff.mp hk).1
  refine va_put (D := D) (own := own) (ref := (T k).1) X.1 X.2.1 X.2.2.2.2 h3 tf h5 h6 X.2.2.2.1 K.1 hw.1 (wld_D hw.2.2) hw.2.1 i (wld_at hs) h1 k h2 (X.2.2.2.2 _ h4) (fun _ h9 => h9) h7 h8 hn hf hl hdg (fun H1 locs1 hP hD hS => kk H1 locs1 ⟨?_, hS, hw.2.2⟩)
  rw [wld_set (k := k) (v := v) hs (show (.inr (ci, (ks.mapIdx (mk_f ad h i)).set k (.int v)) : va_E) = mk_v cI cZ ad (u2 h i k v) i (.inr (ci, ks)) by rw [mk_put hk v]; rfl)] at hP
  exact hP
theorem r_ald (X : CallFix p m c cc nL s args TB own) (K : KK D cI cZ s) (hw : Hw D cI cZ base ad s S h H locs) {i n : Nat} (hs : S[i]? = some (.inl (n, false))) {j : Int32} (hin : vp_in j n) (hdg : decode cc pc = .ok (.iaload, 1))
    (kk : W p l e R s m args below meth c H locs cells slots Q (F0 m (pc + 1) ls (.int (h i (ix j)) :: rest))) : W p l e R s m args below meth c H locs cells slots Q (F0 m pc ls (.int j :: .ref (ad i) :: rest)) :=
  va_iald X.1 X.2.1 K.1 hw.1 i 0 (wld_at hs) rfl hin hdg kk
theorem r_aldz (X : CallFix p m c cc nL s args TB own) (K : KK D cI cZ s) (hw : Hw D cI cZ base ad s S h H locs) {i n : Nat} (hs : S[i]? = some (.inl (n, true))) {j : Int32} (hin : vp_in j n) (hdg : decode cc pc = .ok (.baload, 1))
    (kk : W p l e R s m args below meth c H locs cells slots Q (F0 m (pc + 1) ls (.int (h i (ix j)) :: rest))) : W p l e R s m args below meth c H locs cells slots Q (F0 m pc ls (.int j :: .ref (ad i) :: rest)) :=
  va_zald X.1 X.2.1 K.1 hw.1 i 1 (wld_at hs) rfl hin hdg kk
theorem upd_row (h : HH) (i k : Nat) (v : Int32) : upd (h i) k v = u2 h i k v i := by
  funext b
  by_cases hb : b = k
  · subst hb; simp [upd, u2]
  · simp [upd, u2, hb]
theorem r_ast (X : CallFix p m c cc nL s args TB own) (K : KK D cI cZ s) (hw : Hw D cI cZ base ad s S h H locs) {i n : Nat} (hs : S[i]? = some (.inl (n, false))) {j v : Int32} (hin : vp_in j n) (hdg : decode cc pc = .ok (.iastore, 1))
    (kk : ∀ (H1 : Heap) (locs1 : List Loc), Hw D cI cZ base ad s S (u2 h i (ix j) v) H1 locs1 → W p l e R s m args below meth c H1 locs1 cells slots Q (F0 m (pc + 1) ls rest)) : W p l e R s m args below meth c H locs cells slots Q (F0 m pc ls (.int v :: .int j :: .ref (ad i) :: rest)) := by
  refine va_iast X.1 X.2.1 K.1 hw.1 (wld_D hw.2.2) hw.2.1 i 0 (wld_at hs) rfl hin hdg (fun H1 locs1 hP hD hS => kk H1 locs1 ⟨?_, hS, hw.2.2⟩)
  rw [upd_row] at hP
  have hP2 : va_P D vwCl ((wld S cI cZ ad h).set i (ad i, .inl (cI, n, .inl (u2 h i (ix j) v i)))) H1 := hP
  rw [wld_set (k := ix j) (v := v) (w := .inl (cI, n, .inl (u2 h i (ix j) v i))) hs rfl] at hP2
  exact hP2
theorem r_astz (X : CallFix p m c cc nL s args TB own) (K : KK D cI cZ s) (hw : Hw D cI cZ base ad s S h H locs) {i n : Nat} (hs : S[i]? = some (.inl (n, true))) {j v : Int32} (hin : vp_in j n) (hv : vp_nar .boolean v = v) (hdg : decode cc pc = .ok (.bastore, 1))
    (kk : ∀ (H1 : Heap) (locs1 : List Loc), Hw D cI cZ base ad s S (u2 h i (ix j) v) H1 locs1 → W p l e R s m args below meth c H1 locs1 cells slots Q (F0 m (pc + 1) ls rest)) : W p l e R s m args below meth c H locs cells slots Q (F0 m pc ls (.int v :: .int j :: .ref (ad i) :: rest)) := by
  refine va_zast X.1 X.2.1 K.1 hw.1 (wld_D hw.2.2) hw.2.1 i 1 (wld_at hs) rfl hin hdg (fun H1 locs1 hP hD hS => kk H1 locs1 ⟨?_, hS, hw.2.2⟩)
  rw [hv, upd_row] at hP
  have hP2 : va_P D vwCl ((wld S cI cZ ad h).set i (ad i, .inl (cZ, n, .inl (u2 h i (ix j) v i)))) H1 := hP
  rw [wld_set (k := ix j) (v := v) (w := .inl (cZ, n, .inl (u2 h i (ix j) v i))) hs rfl] at hP2
  exact hP2
theorem r_istore_n (X : CallFix p m c cc nL s args TB own) {vs : List (Option Value)} (hl : Lc ls nL vs) {k : Fin 4} {i : Nat} {x : Int32} (hdg : decode cc pc = .ok (.istore_n k, 1)) (hi : (k : Nat) = i) (hn : i < nL)
    (kk : ∀ ls' : Array Slot, Lc ls' nL (vs.set i (some (.int x))) → W p l e R s m args below meth c H locs cells slots Q (F0 m (pc + 1) ls' rest)) : W p l e R s m args below meth c H locs cells slots Q (F0 m pc ls (.int x :: rest)) :=
  lv_istore_n X.1 X.2.1 hdg hi hl.has hn rfl (fun ls' h' => kk ls' (hl.put rfl h'))
theorem r_istore (X : CallFix p m c cc nL s args TB own) {vs : List (Option Value)} (hl : Lc ls nL vs) {i : Nat} {x : Int32} (hdg : decode cc pc = .ok (.istore i, 2)) (hn : i < nL)
    (kk : ∀ ls' : Array Slot, Lc ls' nL (vs.set i (some (.int x))) → W p l e R s m args below meth c H locs cells slots Q (F0 m (pc + 2) ls' rest)) : W p l e R s m args below meth c H locs cells slots Q (F0 m pc ls (.int x :: rest)) :=
  lv_istore X.1 X.2.1 hdg hl.has hn rfl (fun ls' h' => kk ls' (hl.put rfl h'))
theorem r_astore_n (X : CallFix p m c cc nL s args TB own) {vs : List (Option Value)} (hl : Lc ls nL vs) {k : Fin 4} {i : Nat} {x : Nat} (hdg : decode cc pc = .ok (.astore_n k, 1)) (hi : (k : Nat) = i) (hn : i < nL)
    (kk : ∀ ls' : Array Slot, Lc ls' nL (vs.set i (some (.ref x))) → W p l e R s m args below meth c H locs cells slots Q (F0 m (pc + 1) ls' rest)) : W p l e R s m args below meth c H locs cells slots Q (F0 m pc ls (.ref x :: rest)) :=
  lv_astore_n X.1 X.2.1 hdg hi hl.has hn rfl (fun ls' h' => kk ls' (hl.put rfl h'))
theorem r_astore (X : CallFix p m c cc nL s args TB own) {vs : List (Option Value)} (hl : Lc ls nL vs) {i : Nat} {x : Nat} (hdg : decode cc pc = .ok (.astore i, 2)) (hn : i < nL)
    (kk : ∀ ls' : Array Slot, Lc ls' nL (vs.set i (some (.ref x))) → W p l e R s m args below meth c H locs cells slots Q (F0 m (pc + 2) ls' rest)) : W p l e R s m args below meth c H locs cells slots Q (F0 m pc ls (.ref x :: rest)) :=
  lv_astore X.1 X.2.1 hdg hl.has hn rfl (fun ls' h' => kk ls' (hl.put rfl h'))
theorem lv_iincL (hexec : p.tables.exec = Jvm.exec) (hb : c.code = cc) {vs : List (Option Value)} (hl : Lc ls nL vs) {i : Nat} {n : Int} {x v : Int32} (hdg : decode cc pc = .ok (.iinc i n, 3)) (hk : vs[i]? = some (some (.int x))) (hv : x + Int32.ofInt n = v) (hn : i < nL)
    (kk : ∀ ls' : Array Slot, Lc ls' nL (vs.set i (some (.int v))) → W p l e R s m args below meth c H locs cells slots Q (F0 m (pc + 3) ls' rest)) : W p l e R s m args below meth c H locs cells slots Q (F0 m pc ls rest) := by
  have hm := Lx_mem vs 0 i (.int x) hk
  rw [Nat.zero_add] at hm
  obtain ⟨k, hk'⟩ := List.getElem?_of_mem hm
  exact lv_iinc hexec hb (k := k) hdg hl.has hk' hv hn rfl (fun ls' h' => kk ls' (hl.put rfl h'))
theorem good_code {y : MethodName} {bytes : ByteArray} {maxL : Nat} {ret : Option FieldType} (hc : Cond.code y bytes maxL ret ∈ TB) : GoodIn TB (Cond.code y bytes maxL ret :: TB) := by
  intro w hw
  rcases List.mem_cons.mp hw with rfl | hw
  · exact ⟨hc, good_TB _ hc⟩
  · exact ⟨hw, good_TB _ hw⟩
theorem Pw_blind {avs : List Value} : FrameBlind (Pw D cI cZ base ad avs h) := fun a U g mk q => ⟨q.1, q.2.1, ⟨va_K.moved (u := U) (U := U.calling g mk a) (Vm.Alike.refl U.vm) q.2.2.1.1, va_Nw.same rfl rfl q.2.2.1.2⟩, q.2.2.2⟩
theorem r_run {post : Option Value → HH → Prop} {a : Array Value} {st0 : List Value} (hw : Hw D cI cZ base ad s shape h H locs) (hr : va_Run p l e R s m args below meth c H locs cells slots 0 0 (F0 m pc ls st0) rest (Qw D cI cZ base ad post a) (fun q => base ≤ q))
    (kk : ∀ (v : Option Value) (h' : HH) (H1 : Heap) (locs1 : List Loc), post v h' → Hw D cI cZ base ad s shape h' H1 locs1 → W p l e R s m args below meth c H1 locs1 cells slots Q (F0 m (pc + 3) ls (v.toList ++ rest))) : W p l e R s m args below meth c H locs cells slots Q (F0 m pc ls st0) := by
  intro T hT X
  obtain ⟨v, st₀, t, T', L, h0, X', hL, e1, e2, ⟨⟨v', h', hv, hp, hb⟩, hz, hk⟩, st⟩ := hr T hT X
  cases hv
  rw [h0] at hz hk
  obtain ⟨t2, a1, b1⟩ := kk v h' T'.heap (locs ++ L) hp ⟨by rw [e1]; exact hb, ⟨Nat.le_trans hw.2.1.1 (by rw [e1]; exact hz), fun q h1 h2 => by rw [e1, hk q (Nat.lt_of_lt_of_le h1 hw.2.1.1) h2]; exact hw.2.1.2.1 q h1 h2, fun q hq => by
      rcases List.mem_append.mp hq with h | h
      · exact hw.2.1.2.2 q h
      · exact hL q h⟩, hw.2.2⟩ T' rfl X'
  exact ⟨t2, st t2 a1, b1⟩
theorem r_callS (X : CallFix p m c cc nL s args TB own) (K : KK D cI cZ s) (hw : Hw D cI cZ base ad s shape h H locs) (hl : ls.size = nL) {idx : Nat} {y : MethodName} {bytes : ByteArray} {maxL n d lw : Nat} {ret : Option FieldType} (M : MF own idx y bytes maxL ret n ∧ Cond.static y ∈ TB) {avs : List Value} {post : Option Value → HH → Prop} (hC : Ct l D cI cZ base ad y bytes maxL ret d lw avs h post)
    (hR : d + 1 ≤ R.frames ∧ 8 + (maxL + 11) + lw ≤ R.locals) (hcs : cells ≤ R.cells ∧ slots ≤ R.slots) (hn : avs.length = n) {st0 : List Value} (hst : st0 = avs.reverse ++ rest) (hrm : (rest.map fun v => v.category).sum ≤ 8) (hdg : decode cc pc = .ok (.invokestatic idx, 3))
    (kk : ∀ (v : Option Value) (h' : HH) (H1 : Heap) (locs1 : List Loc), post v h' → Hw D cI cZ base ad s shape h' H1 locs1 → W p l e R s m args below meth c H1 locs1 cells slots Q (F0 m (pc + 3) ls (v.toList ++ rest))) : W p l e R s m args below meth c H locs cells slots Q (F0 m pc ls st0) := by
  obtain ⟨⟨m1, m2, m3, m4⟩, m5⟩ := M
  have hts := X.2.2.2.2
  exact r_run hw (va_runS X hC ⟨callB_of n hts (good_code m2) rfl rfl rfl (hts _ m3) (hts _ m1) m4 hR, hts _ m5⟩ ⟨Pw_blind, fun U hU hW => ⟨rfl, by rw [hU]; exact hw.1, KK.moved hW K, hw.2.2⟩⟩ rfl hn hl hst (lv_room hrm) hdg hcs) kk
theorem r_callSN (X : CallFix p m c cc nL s args TB own) (K : KK D cI cZ s) (hw : Hw D cI cZ base ad s shape h H locs) (hl : ls.size = nL) {idx : Nat} {y : MethodName} {host : String} {bytes : ByteArray} {maxL n d lw : Nat} {ret : Option FieldType} (hN : va_Nw (.methodLinkNest own idx y host) s) (M : MN y bytes maxL ret n ∧ Cond.static y ∈ TB) {avs : List Value} {post : Option Value → HH → Prop} (hC : Ct l D cI cZ base ad y bytes maxL ret d lw avs h post)
    (hR : d + 1 ≤ R.frames ∧ 8 + (maxL + 11) + lw ≤ R.locals) (hcs : cells ≤ R.cells ∧ slots ≤ R.slots) (hn : avs.length = n) {st0 : List Value} (hst : st0 = avs.reverse ++ rest) (hrm : (rest.map fun v => v.category).sum ≤ 8) (hdg : decode cc pc = .ok (.invokestatic idx, 3))
    (kk : ∀ (v : Option Value) (h' : HH) (H1 : Heap) (locs1 : List Loc), post v h' → Hw D cI cZ base ad s shape h' H1 locs1 → W p l e R s m args below meth c H1 locs1 cells slots Q (F0 m (pc + 3) ls (v.toList ++ rest))) : W p l e R s m args below meth c H locs cells slots Q (F0 m pc ls st0) := by
  obtain ⟨⟨m2, m3, m4⟩, m5⟩ := M
  have hts := X.2.2.2.2
  exact r_run hw (va_runSN X hC ⟨va_cnB n hts (good_code m2) rfl rfl rfl hN (hts _ m3) m4 hR, hts _ m5, trivial⟩ ⟨Pw_blind, fun U hU hW => ⟨rfl, by rw [hU]; exact hw.1, KK.moved hW K, hw.2.2⟩⟩ rfl hn hl hst (lv_room hrm) hdg hcs) kk
theorem r_callV (X : CallFix p m c cc nL s args TB own) (K : KK D cI cZ s) (hw : Hw D cI cZ base ad s shape h H locs) (hl : ls.size = nL) {idx : Nat} {y : MethodName} {bytes : ByteArray} {maxL n d lw : Nat} {ret : Option FieldType} (M : MF own idx y bytes maxL ret n ∧ Cond.instanceMethod y ∈ TB ∧ Cond.selects y.cls y y ∈ TB) {i ci : Nat} {ks : List Nat} {q : vw_C} (hs : shape[i]? = some (.inr (ci, ks))) (hc : vwCl[ci]? = some q) (hq : q.1 = y.cls) {As : List Value} {post : Option Value → HH → Prop} (hC : Ct l D cI cZ base ad y bytes maxL ret d lw (.ref (ad i) :: As) h post)
    (hR : d + 1 ≤ R.frames ∧ 8 + (maxL + 11) + lw ≤ R.locals) (hcs : cells ≤ R.cells ∧ slots ≤ R.slots) (hn : As.length = n) {st0 : List Value} (hst : st0 = As.reverse ++ .ref (ad i) :: rest) (hrm : (rest.map fun v => v.category).sum ≤ 8) (hdg : decode cc pc = .ok (.invokevirtual idx, 3))
    (kk : ∀ (v : Option Value) (h' : HH) (H1 : Heap) (locs1 : List Loc), post v h' → Hw D cI cZ base ad s shape h' H1 locs1 → W p l e R s m args below meth c H1 locs1 cells slots Q (F0 m (pc + 3) ls (v.toList ++ rest))) : W p l e R s m args below meth c H locs cells slots Q (F0 m pc ls st0) := by
  obtain ⟨⟨m1, m2, m3, m4⟩, m5, m6⟩ := M
  have hts := X.2.2.2.2
  have hrecv := va_recv K.1 hw.1 hc (wld_at hs)
  rw [hq] at hrecv
  exact r_run hw (va_runV (C := y.cls) X hC ⟨callB_of n hts (good_code m2) rfl rfl rfl (hts _ m3) (hts _ m1) m4 hR, hts _ m5, hts _ m6⟩ ⟨Pw_blind, hrecv, fun U hU hW => ⟨rfl, by rw [hU]; exact hw.1, KK.moved hW K, hw.2.2⟩⟩ rfl hn hl hst (lv_room hrm) hdg hcs) kk
theorem r_iret {post : Option Value → HH → Prop} {v : Int32} (X : CallFix p m c cc nL s args TB own) (hr : meth.sig.returnType = some .int) (hk : meth.locks = false) (hw : Hw D cI cZ base ad s shape h H locs) (hp : post (some (.int v)) h) (hdg : decode cc pc = .ok (.ireturn, 1)) : W p l e R s m args below meth c H locs cells slots (MQ below (Qw D cI cZ base ad post) args s cells slots (fun q => base ≤ q)) (F0 m pc ls [.int v]) :=
  W.iret X.1 X.2.1 hr (fun t ht hW => ⟨⟨_, h, rfl, hp, by rw [ht]; exact hw.1⟩, hw.2.1.F ht⟩) hw.2.1.2.2 hdg hk
theorem r_zret {post : Option Value → HH → Prop} {v : Int32} (X : CallFix p m c cc nL s args TB own) (hr : meth.sig.returnType = some .boolean) (hk : meth.locks = false) (hw : Hw D cI cZ base ad s shape h H locs) (hn : narrow .boolean (.int v) = .int v) (hp : post (some (.int v)) h) (hdg : decode cc pc = .ok (.ireturn, 1)) : W p l e R s m args below meth c H locs cells slots (MQ below (Qw D cI cZ base ad post) args s cells slots (fun q => base ≤ q)) (F0 m pc ls [.int v]) :=
  W.zret X.1 X.2.1 hr hn (fun t ht hW => ⟨⟨_, h, rfl, hp, by rw [ht]; exact hw.1⟩, hw.2.1.F ht⟩) hw.2.1.2.2 hdg hk
theorem r_lret {post : Option Value → HH → Prop} {v : Int64} (X : CallFix p m c cc nL s args TB own) (hr : meth.sig.returnType = some .long) (hk : meth.locks = false) (hw : Hw D cI cZ base ad s shape h H locs) (hp : post (some (.long v)) h) (hdg : decode cc pc = .ok (.lreturn, 1)) : W p l e R s m args below meth c H locs cells slots (MQ below (Qw D cI cZ base ad post) args s cells slots (fun q => base ≤ q)) (F0 m pc ls [.long v]) :=
  W.lret X.1 X.2.1 hr (fun t ht hW => ⟨⟨_, h, rfl, hp, by rw [ht]; exact hw.1⟩, hw.2.1.F ht⟩) hw.2.1.2.2 hdg hk
theorem r_vret {post : Option Value → HH → Prop} (X : CallFix p m c cc nL s args TB own) (hr : meth.sig.returnType = none) (hk : meth.locks = false) (hw : Hw D cI cZ base ad s shape h H locs) (hp : post none h) (hdg : decode cc pc = .ok (.return_, 1)) : W p l e R s m args below meth c H locs cells slots (MQ below (Qw D cI cZ base ad post) args s cells slots (fun q => base ≤ q)) (F0 m pc ls []) :=
  W.vret X.1 X.2.1 hr (fun t ht hW => ⟨⟨_, h, rfl, hp, by rw [ht]; exact hw.1⟩, hw.2.1.F ht⟩) hw.2.1.2.2 hdg hk
theorem r_aret {post : Option Value → HH → Prop} {x : Nat} {rt : FieldType} (X : CallFix p m c cc nL s args TB own) (hr : meth.sig.returnType = some rt) (hrt : (∃ n, rt = .object n) ∨ ∃ t, rt = .array t) (hk : meth.locks = false) (hw : Hw D cI cZ base ad s shape h H locs) (hp : post (some (.ref x)) h) (hdg : decode cc pc = .ok (.areturn, 1)) : W p l e R s m args below meth c H locs cells slots (MQ below (Qw D cI cZ base ad post) args s cells slots (fun q => base ≤ q)) (F0 m pc ls [.ref x]) :=
  W.aret X.1 X.2.1 hr hrt (Or.inr ⟨x, rfl⟩) (fun t ht hW => ⟨⟨_, h, rfl, hp, by rw [ht]; exact hw.1⟩, hw.2.1.F ht⟩) hw.2.1.2.2 hdg hk
theorem Ct.of {l : Launch} {y : MethodName} {bytes : ByteArray} {maxL d lw : Nat} {ret : Option FieldType} {avs : List Value} {post : Option Value → HH → Prop} (hy : plainName y.cls = true) (hav : (lg_sl avs).length ≤ maxL) (hcat : ∀ v ∈ avs, v.category = 1)
    (body : ∀ (p : Program) (e : Env) (s : State) (m : MethodId) (args : Array Value) (below : List Frame) (meth : Method) (c : Code) (ls : Array Slot), CallFix p m c bytes maxL s args TB y.cls → KK D cI cZ s → meth.sig.returnType = ret → meth.locks = false → Lc ls maxL (avs.map some ++ List.replicate (maxL - avs.length) none) → Hw D cI cZ base ad s shape h s.heap [] →
      W p l e (rmD d lw) s m args below meth c s.heap [] 0 0 (MQ below (Qw D cI cZ base ad post) args s 0 0 (fun q => base ≤ q)) (F0 m 0 ls [])) : Ct l D cI cZ base ad y bytes maxL ret d lw avs h post := by
  refine Met.ofW (cc := bytes) (maxL := maxL) (ret := ret) hy rfl ?_
  intro p e s m args below meth c s₁ B hml hv
  obtain ⟨rfl, hP, hK, hA⟩ := hv
  have hts := atoms_spec (ws := Cond.code y bytes maxL ret :: TB) B.pre
  have hl := lv_entry avs (n := maxL) hav
  rw [lg_entry_eq]
  generalize (lg_sl avs ++ List.replicate (maxL - (lg_sl avs).length) Slot.unset).toArray = ls at hl ⊢
  refine body p e s m _ below meth c ls ⟨B.exec, B.bytes, hml, findClass_of_methodNamed B.named, fun w hw => hts w (List.mem_cons_of_mem _ hw)⟩ hK B.returns B.notSynchronized (Lc_entry hcat hl) ⟨hP, va_S.rf, hA⟩
end ROWS
def pI (h0 : HH) (ρ : Int32) : Option Value → HH → Prop := fun v h' => v = some (.int ρ) ∧ h0 = h'
def pIH (ρ : Int32 × HH) : Option Value → HH → Prop := fun v h' => v = some (.int ρ.1) ∧ ρ.2 = h'
def pH (ρ : HH) : Option Value → HH → Prop := fun v h' => v = none ∧ ρ = h'
def pJ (h0 : HH) (ρ : Int64) : Option Value → HH → Prop := fun v h' => v = some (.long ρ) ∧ h0 = h'
def pR (ad : Nat → Nat) (h0 : HH) (ρ : Nat) : Option Value → HH → Prop := fun v h' => v = some (.ref (ad ρ)) ∧ h0 = h'
end
section
def ext (ad : Nat → Nat) (n : Nat) (f : Nat → Nat) : Nat → Nat := fun j => if j < n then ad j else f j
def shOk (n : Nat) (S : List sh_E) : Bool := S.all (fun e => match e with
  | .inl _ => true
  | .inr o => o.2.all (fun c => decide (c < n + 2)))
def dfl (c : Nat) : Value := match c with
  | 0 => .int 0
  | _ + 1 => .null
def Zr (n : Nat) (h : HH) : Prop := ∀ j, n ≤ j → ∀ k, h j k = 0
theorem Zr.mono {n n' : Nat} {h : HH} (z : Zr n h) (hn : n ≤ n') : Zr n' h := fun j hj k => z j (Nat.le_trans hn hj) k
theorem Zr.put {n i k : Nat} {h : HH} {v : Int32} (z : Zr n h) (hi : i < n) : Zr n (u2 h i k v) := fun j hj k' => by
  rw [u2_i h k v (by omega)]
  exact z j hj k'
section GROW
variable {S : List sh_E} {cI cZ : ClassId} {base : Nat} {ad : Nat → Nat} {h : HH}
theorem mk_f_ext {n i k c : Nat} {f : Nat → Nat} (hc : c < n + 2) : mk_f (ext ad n f) h i k c = mk_f ad h i k c := by
  match c with
  | 0 => rfl
  | 1 => rfl
  | x + 2 =>
    have hx : x < n := by omega
    simp [mk_f, ext, hx]
theorem mk_v_ext {n i : Nat} {f : Nat → Nat} {e : sh_E} (he : shOk n [e] = true) : mk_v cI cZ (ext ad n f) h i e = mk_v cI cZ ad h i e := by
  cases e with
  | inl a => rfl
  | inr o =>
    have ho : ∀ c ∈ o.2, c < n + 2 := by
      intro c hc
      have h1 : o.2.all (fun c => decide (c < n + 2)) = true := by simpa [shOk] using he
      simpa using List.all_eq_true.mp h1 c hc
    have hm : o.2.mapIdx (mk_f (ext ad n f) h i) = o.2.mapIdx (mk_f ad h i) := by
      apply List.ext_getElem?
      intro j
      rw [List.getElem?_mapIdx, List.getElem?_mapIdx]
      cases hj : o.2[j]? with
      | none => rfl
      | some c =>
        have := mk_f_ext (ad := ad) (h := h) (i := i) (k := j) (f := f) (ho c (List.mem_of_getElem? hj))
        simp [this]
    simp [mk_v, hm]
theorem shOk_at {n i : Nat} {e : sh_E} (hS : shOk n S = true) (hi : S[i]? = some e) : shOk n [e] = true := by
  have := List.all_eq_true.mp hS e (List.mem_of_getElem? hi)
  simpa [shOk] using this
theorem wld_ext {f : Nat → Nat} (hS : shOk S.length S = true) : wld S cI cZ (ext ad S.length f) h = wld S cI cZ ad h := by
  apply List.ext_getElem?
  intro j
  cases hj : S[j]? with
  | none =>
    unfold wld
    rw [List.getElem?_mapIdx, List.getElem?_mapIdx, hj]
    rfl
  | some e =>
    have hl : j < S.length := (List.getElem?_eq_some_iff.mp hj).1
    have h1 : ext ad S.length f j = ad j := by simp [ext, hl]
    rw [wld_at hj, wld_at hj, h1, mk_v_ext (shOk_at hS hj)]
theorem wld_push {e : sh_E} {w : va_E} {q : Nat} (hS : shOk S.length S = true) (hw : w = mk_v cI cZ (ext ad S.length (fun _ => q)) h S.length e) : wld S cI cZ ad h ++ [(q, w)] = wld (S ++ [e]) cI cZ (ext ad S.length (fun _ => q)) h := by
  have hlen : (wld S cI cZ ad h).length = S.length := by simp [wld]
  apply List.ext_getElem?
  intro j
  by_cases hj : j < S.length
  · rw [List.getElem?_append_left (by rw [hlen]; exact hj), ← wld_ext (f := fun _ => q) hS]
    have hs : S[j]? = some S[j] := List.getElem?_eq_getElem hj
    rw [wld_at hs, wld_at (S := S ++ [e]) (e := S[j]) (by rw [List.getElem?_append_left hj]; exact hs)]
  · rw [List.getElem?_append_right (by rw [hlen]; omega), hlen]
    by_cases hj2 : j = S.length
    · subst hj2
      rw [Nat.sub_self, wld_at (S := S ++ [e]) (e := e) (by rw [List.getElem?_append_right (Nat.le_refl _), Nat.sub_self]; rfl), hw]
      simp [ext]
    · have h1 : (S ++ [e])[j]? = none := by
        rw [List.getElem?_eq_none_iff]
        simp
        omega
      unfold wld
      rw [List.getElem?_mapIdx, h1]
      have : ¬ j - S.length = 0 := by omega
      simp [this]
theorem AdOk.ofD {D : va_G} {A : Nat → Prop} (hA : ∀ q, A q → base ≤ q) (hD : va_D A (wld S cI cZ ad h)) : AdOk base ad S.length := by
  have key : ∀ i, i < S.length → ∃ e, (wld S cI cZ ad h)[i]? = some (ad i, e) := fun i hi => ⟨_, wld_at (List.getElem?_eq_getElem hi)⟩
  refine ⟨fun i j hi hj hij => ?_, fun i hi => ?_⟩
  · obtain ⟨e1, h1⟩ := key i hi
    obtain ⟨e2, h2⟩ := key j hj
    exact hD.1 i j _ _ h1 h2 hij
  · obtain ⟨e1, h1⟩ := key i hi
    exact hA _ (hD.2 i _ h1)
theorem mk_setr {i k j : Nat} {ks : List Nat} (hk : k < ks.length) : (ks.mapIdx (mk_f ad h i)).set k (.ref (ad j)) = (ks.set k (j + 2)).mapIdx (mk_f ad h i) := by
  apply List.ext_getElem?
  intro x
  rw [List.getElem?_mapIdx]
  by_cases hx : k = x
  · subst hx
    rw [List.getElem?_set_self (by rw [List.length_mapIdx]; exact hk), List.getElem?_set_self hk]
    rfl
  · rw [List.getElem?_set_ne hx, List.getElem?_set_ne hx, List.getElem?_mapIdx]
theorem wld_setr {i k j ci : Nat} {ks : List Nat} (hs : S[i]? = some (.inr (ci, ks))) (hk : k < ks.length) : (wld S cI cZ ad h).set i (ad i, .inr (ci, (ks.mapIdx (mk_f ad h i)).set k (.ref (ad j)))) = wld (S.set i (.inr (ci, ks.set k (j + 2)))) cI cZ ad h := by
  have hl : i < S.length := (List.getElem?_eq_some_iff.mp hs).1
  have hl2 : i < (wld S cI cZ ad h).length := (List.getElem?_eq_some_iff.mp (wld_at hs)).1
  apply List.ext_getElem?
  intro x
  by_cases hx : i = x
  · subst hx
    rw [List.getElem?_set_self hl2, wld_at (S := S.set i (.inr (ci, ks.set k (j + 2)))) (e := .inr (ci, ks.set k (j + 2))) (by rw [List.getElem?_set_self hl]), mk_setr hk]
    rfl
  · rw [List.getElem?_set_ne hx]
    unfold wld
    rw [List.getElem?_mapIdx, List.getElem?_mapIdx, List.getElem?_set_ne hx]
end GROW
abbrev NF (own : String) (idx ci N : Nat) (ks : List Nat) : Prop := ∃ (C : String) (T : u_T) (ty : Nat → FieldType), vwCl[ci]? = some (C, T, N) ∧ (∀ w ∈ u_ws C T N, w ∈ TB) ∧ (∀ k, k < N → parseFieldDescriptor (T k).2.2.1 = some (ty k)) ∧ Cond.classLink own idx C ∈ TB ∧ Cond.instantiable C N ∈ TB ∧ Cond.initialized C ∈ TB ∧ (∀ j, j < N → defaultValue (ty j) = vp_V (ks.map dfl) j)
abbrev FR (own : String) (idx ci k : Nat) (ty : FieldType) : Prop := ∃ (C : String) (T : u_T) (N : Nat) (tf : Nat → FieldType), vwCl[ci]? = some (C, T, N) ∧ k < N ∧ (∀ w ∈ u_ws C T N, w ∈ TB) ∧ Cond.fieldLink own idx (T k).1 (T k).2.1 (T k).2.2.1 ∈ TB ∧ (∀ k, k < N → parseFieldDescriptor (T k).2.2.1 = some (tf k)) ∧ (∀ a, a < N → ∀ b, b < N → a ≠ b → (T a).2.1 ≠ (T b).2.1) ∧ (T k).2.2.2 = true ∧ (T k).1 = own ∧ parseFieldDescriptor (T k).2.2.1 = some ty
def Cn (l : Launch) (D : va_G) (cI cZ : ClassId) (base : Nat) (y : MethodName) (bytes : ByteArray) (maxL d lw mc ms : Nat) (avs : List Value) (ad : Nat → Nat) (S : List sh_E) (h : HH) (S' : List sh_E) (h' : HH) : Prop :=
  Met l y (Cond.code y bytes maxL none :: TB) { frames := d, cells := mc, slots := ms, locals := lw }
    (va_Pc avs (fun U => va_P D vwCl (wld S cI cZ ad h) U.heap ∧ KK D cI cZ U ∧ AdOk base ad S.length ∧ base ≤ U.heap.size))
    (fun _ st oc t => (∃ f : Nat → Nat, oc = .returned none ∧ va_P D vwCl (wld S' cI cZ (ext ad S.length f) h') t.heap ∧ AdOk base (ext ad S.length f) S'.length) ∧ va_F (fun q => base ≤ q) st t) mc ms (fun q => base ≤ q)
section CROWS
variable {p : Program} {l : Launch} {e : Env} {R : Room} {s : State} {m : MethodId} {args : Array Value} {below : List Frame} {meth : Method} {c : Code} {H : Heap} {locs : List Loc} {cells slots : Nat} {Q : State → Prop}
variable {cc : ByteArray} {pc nL : Nat} {ls : Array Slot} {rest : List Value} {D : va_G} {cI cZ : ClassId} {base : Nat} {ad : Nat → Nat} {S : List sh_E} {h : HH} {own : String}
theorem k_new (X : CallFix p m c cc nL s args TB own) (K : KK D cI cZ s) (hw : Hw D cI cZ base ad s S h H locs) (hb : base ≤ s.heap.size) {idx ci N : Nat} {ks : List Nat} (F : NF own idx ci N ks) (hz : Zr S.length h) (hS : shOk S.length S = true) (hc1 : cells + 1 ≤ R.cells) (hc2 : slots + N ≤ R.slots) (hk01 : ∀ c ∈ ks, c ≤ 1) (hdg : decode cc pc = .ok (.new idx, 3))
    (kk : ∀ (q : Nat) (H1 : Heap), Hw D cI cZ base (ext ad S.length (fun _ => q)) s (S ++ [.inr (ci, ks)]) h H1 locs → W p l e R s m args below meth c H1 locs (cells + 1) (slots + N) Q (F0 m (pc + 3) ls (.ref q :: rest))) : W p l e R s m args below meth c H locs cells slots Q (F0 m pc ls rest) := by
  obtain ⟨C, T, ty, h1, h2, h3, h4, h5, h6, h7⟩ := F
  have hts := X.2.2.2.2
  refine va_new (D := D) (ci := ci) (fs := ks.map dfl) X.1 X.2.1 hts h2 ty h3 X.2.2.2.1 (hts _ h4) (hts _ h5) (hts _ h6) K.1 hw.1 (wld_D hw.2.2) hw.2.1 (fun q hq => Nat.le_trans hb hq) h1 h7 hc1 hc2 hdg (fun q H1 hP hD hS1 => kk q H1 ?_)
  have hv : (.inr (ci, ks.map dfl) : va_E) = mk_v cI cZ (ext ad S.length (fun _ => q)) h S.length (.inr (ci, ks)) := by
    have : ks.map dfl = ks.mapIdx (mk_f (ext ad S.length (fun _ => q)) h S.length) := by
      apply List.ext_getElem?
      intro j
      rw [List.getElem?_map, List.getElem?_mapIdx]
      cases hj : ks[j]? with
      | none => rfl
      | some c =>
        have hc := hk01 c (List.mem_of_getElem? hj)
        match c, hc with
        | 0, _ => simp [dfl, mk_f, hz S.length (Nat.le_refl _) j]
        | 1, _ => rfl
    simp [mk_v, this]
  rw [wld_push hS hv] at hP hD
  exact ⟨hP, hS1, AdOk.ofD (D := D) (fun q h => h) hD⟩
theorem ty_int {cA : ClassId} (hK : va_K D vwCl (tyz cI cZ ++ [(cA, .int)]) s) : cA = cI := Option.some.inj ((show s.vm.findClass _ = some cA from (hK.2 2 _ rfl).2).symm.trans (show s.vm.findClass _ = some cI from (hK.2 0 _ rfl).2))
theorem ty_bool {cA : ClassId} (hK : va_K D vwCl (tyz cI cZ ++ [(cA, .boolean)]) s) : cA = cZ := Option.some.inj ((show s.vm.findClass _ = some cA from (hK.2 2 _ rfl).2).symm.trans (show s.vm.findClass _ = some cZ from (hK.2 1 _ rfl).2))
theorem k_newi (X : CallFix p m c cc nL s args TB own) (K : KK D cI cZ s) (hw : Hw D cI cZ base ad s S h H locs) (hb : base ≤ s.heap.size) (hW : Cond.arrayClass .int ∈ TB) {n : Int32} {N : Nat} (hn : ¬ n < 0) (hN : n.toNatClampNeg = N) (hN2 : N * componentBytes .int ≤ 536870912) (hz : Zr S.length h) (hS : shOk S.length S = true) (hc1 : cells + 1 ≤ R.cells) (hc2 : slots + N ≤ R.slots) (hdg : decode cc pc = .ok (.newarray .int, 2))
    (kk : ∀ (q : Nat) (H1 : Heap), Hw D cI cZ base (ext ad S.length (fun _ => q)) s (S ++ [.inl (N, false)]) h H1 locs → W p l e R s m args below meth c H1 locs (cells + 1) (slots + N) Q (F0 m (pc + 2) ls (.ref q :: rest))) : W p l e R s m args below meth c H locs cells slots Q (F0 m pc ls (.int n :: rest)) := by
  refine va_newa (atype := .int) (ty := .int) (a0 := (N, .inl (fun _ => 0))) X.1 X.2.1 (X.2.2.2.2 _ hW) rfl K.1 hw.1 (wld_D hw.2.2) hw.2.1 (fun q hq => Nat.le_trans hb hq) (fun _ => rfl) hn hN hN2 hc1 hc2 hdg (fun q cA H1 hK hP hD hS1 => kk q H1 ?_)
  have hcA := ty_int hK
  subst hcA
  have hv : (.inl (cA, N, .inl (fun _ => 0)) : va_E) = mk_v cA cZ (ext ad S.length (fun _ => q)) h S.length (.inl (N, false)) := by
    have : h S.length = fun _ => 0 := by funext k; exact hz S.length (Nat.le_refl _) k
    simp [mk_v, this]
  rw [wld_push hS hv] at hP hD
  exact ⟨hP, hS1, AdOk.ofD (D := D) (fun q h => h) hD⟩
theorem k_newz (X : CallFix p m c cc nL s args TB own) (K : KK D cI cZ s) (hw : Hw D cI cZ base ad s S h H locs) (hb : base ≤ s.heap.size) (hW : Cond.arrayClass .boolean ∈ TB) {n : Int32} {N : Nat} (hn : ¬ n < 0) (hN : n.toNatClampNeg = N) (hN2 : N * componentBytes .boolean ≤ 536870912) (hz : Zr S.length h) (hS : shOk S.length S = true) (hc1 : cells + 1 ≤ R.cells) (hc2 : slots + N ≤ R.slots) (hdg : decode cc pc = .ok (.newarray .boolean, 2))
    (kk : ∀ (q : Nat) (H1 : Heap), Hw D cI cZ base (ext ad S.length (fun _ => q)) s (S ++ [.inl (N, true)]) h H1 locs → W p l e R s m args below meth c H1 locs (cells + 1) (slots + N) Q (F0 m (pc + 2) ls (.ref q :: rest))) : W p l e R s m args below meth c H locs cells slots Q (F0 m pc ls (.int n :: rest)) := by
  refine va_newa (atype := .boolean) (ty := .boolean) (a0 := (N, .inl (fun _ => 0))) X.1 X.2.1 (X.2.2.2.2 _ hW) rfl K.1 hw.1 (wld_D hw.2.2) hw.2.1 (fun q hq => Nat.le_trans hb hq) (fun _ => rfl) hn hN hN2 hc1 hc2 hdg (fun q cA H1 hK hP hD hS1 => kk q H1 ?_)
  have hcA := ty_bool hK
  subst hcA
  have hv : (.inl (cA, N, .inl (fun _ => 0)) : va_E) = mk_v cI cA (ext ad S.length (fun _ => q)) h S.length (.inl (N, true)) := by
    have : h S.length = fun _ => 0 := by funext k; exact hz S.length (Nat.le_refl _) k
    simp [mk_v, this]
  rw [wld_push hS hv] at hP hD
  exact ⟨hP, hS1, AdOk.ofD (D := D) (fun q h => h) hD⟩
theorem k_putr (X : CallFix p m c cc nL s args TB own) (K : KK D cI cZ s) (hw : Hw D cI cZ base ad s S h H locs) (hin : meth.name = "<init>") {idx ci k : Nat} {ty : FieldType} (F : FR own idx ci k ty) {i j : Nat} {ks : List Nat} (hs : S[i]? = some (.inr (ci, ks))) (hk : k < ks.length) {a b : Nat} (ha : a = ad i) (hb : b = ad j) (hn : ∀ x : Nat, narrow ty (.ref x) = .ref x) (hf : ∀ x : Nat, fits ty (.ref x) = true) (hdg : decode cc pc = .ok (.putfield idx, 3))
    (kk : ∀ (H1 : Heap) (locs1 : List Loc), Hw D cI cZ base ad s (S.set i (.inr (ci, ks.set k (j + 2)))) h H1 locs1 → W p l e R s m args below meth c H1 locs1 cells slots Q (F0 m (pc + 3) ls rest)) : W p l e R s m args below meth c H locs cells slots Q (F0 m pc ls (.ref b :: .ref a :: rest)) := by
  obtain ⟨C, T, N, tf, h1, h2, h3, h4, h5, h6, h7, h8, h9⟩ := F
  subst ha
  subst hb
  refine va_putF (D := D) (own := own) (ref := (T k).1) X.1 X.2.1 X.2.2.2.2 h3 tf h5 h6 X.2.2.2.1 K.1 hw.1 (wld_D hw.2.2) hw.2.1 i (wld_at hs) h1 k h2 (X.2.2.2.2 _ h4) (fun _ h9 => h9) h7 hin h8 h9 (hn _) (hf _) (by rw [List.length_mapIdx]; exact hk) hdg (fun H1 locs1 hP hD hS => kk H1 locs1 ⟨?_, hS, ?_⟩)
  · rw [wld_setr hs hk] at hP
    exact hP
  · rw [List.length_set]
    exact hw.2.2
theorem k_puti (X : CallFix p m c cc nL s args TB own) (K : KK D cI cZ s) (hw : Hw D cI cZ base ad s S h H locs) (hin : meth.name = "<init>") {idx ci k : Nat} {ty : FieldType} (F : FR own idx ci k ty) {i : Nat} {ks : List Nat} (hs : S[i]? = some (.inr (ci, ks))) (hk : ks[k]? = some 0) {a : Nat} (ha : a = ad i) {v : Int32} (hn : narrow ty (.int v) = .int v) (hf : fits ty (.int v) = true) (hdg : decode cc pc = .ok (.putfield idx, 3))
    (kk : ∀ (H1 : Heap) (locs1 : List Loc), Hw D cI cZ base ad s S (u2 h i k v) H1 locs1 → W p l e R s m args below meth c H1 locs1 cells slots Q (F0 m (pc + 3) ls rest)) : W p l e R s m args below meth c H locs cells slots Q (F0 m pc ls (.int v :: .ref a :: rest)) := by
  obtain ⟨C, T, N, tf, h1, h2, h3, h4, h5, h6, h7, h8, h9⟩ := F
  subst ha
  have hl : k < (ks.mapIdx (mk_f ad h i)).length := by
    rw [List.length_mapIdx]
    exact (List.getElem?_eq_some_iff.mp hk).1
  refine va_putF (D := D) (own := own) (ref := (T k).1) X.1 X.2.1 X.2.2.2.2 h3 tf h5 h6 X.2.2.2.1 K.1 hw.1 (wld_D hw.2.2) hw.2.1 i (wld_at hs) h1 k h2 (X.2.2.2.2 _ h4) (fun _ h9 => h9) h7 hin h8 h9 hn hf hl hdg (fun H1 locs1 hP hD hS => kk H1 locs1 ⟨?_, hS, hw.2.2⟩)
  rw [wld_set (k := k) (v := v) hs (show (.inr (ci, (ks.mapIdx (mk_f ad h i)).set k (.int v)) : va_E) = mk_v cI cZ ad (u2 h i k v) i (.inr (ci, ks)) by rw [mk_put hk v]; rfl)] at hP
  exact hP
theorem k_ret {S' : List sh_E} {ad' : Nat → Nat} {h' : HH} {n : Nat} {f : Nat → Nat} (X : CallFix p m c cc nL s args TB own) (hr : meth.sig.returnType = none) (hk : meth.locks = false) (hw : Hw D cI cZ base ad' s S' h' H locs) (he : ad' = ext ad n f) (hdg : decode cc pc = .ok (.return_, 1)) : W p l e R s m args below meth c H locs cells slots (MQ below (fun _ st oc t => (∃ f : Nat → Nat, oc = .returned none ∧ va_P D vwCl (wld S' cI cZ (ext ad n f) h') t.heap ∧ AdOk base (ext ad n f) S'.length) ∧ va_F (fun q => base ≤ q) st t) args s cells slots (fun q => base ≤ q)) (F0 m pc ls []) := by
  subst he
  exact W.vret X.1 X.2.1 hr (fun t ht hW => ⟨⟨f, rfl, by rw [ht]; exact hw.1, hw.2.2⟩, hw.2.1.F ht⟩) hw.2.1.2.2 hdg hk
theorem ext_ext (ad : Nat → Nat) {n n' : Nat} (hn : n ≤ n') (f g : Nat → Nat) : ext (ext ad n f) n' g = ext ad n (ext f n' g) := by
  funext j
  unfold ext
  by_cases h1 : j < n
  · have : j < n' := by omega
    simp [h1, this]
  · by_cases h2 : j < n' <;> simp [h1, h2]
theorem Cn.of {l : Launch} {y : MethodName} {bytes : ByteArray} {maxL d lw mc ms : Nat} {avs : List Value} {S' : List sh_E} {h' : HH} (hy : plainName y.cls = true) (hn : y.name = "<init>") (hav : (lg_sl avs).length ≤ maxL) (hcat : ∀ v ∈ avs, v.category = 1)
    (body : ∀ (p : Program) (e : Env) (s : State) (m : MethodId) (args : Array Value) (below : List Frame) (meth : Method) (c : Code) (ls : Array Slot), CallFix p m c bytes maxL s args TB y.cls → KK D cI cZ s → meth.sig.returnType = none → meth.locks = false → meth.name = "<init>" → base ≤ s.heap.size → Lc ls maxL (avs.map some ++ List.replicate (maxL - avs.length) none) → Hw D cI cZ base ad s S h s.heap [] →
      W p l e { frames := d, cells := mc, slots := ms, locals := lw } s m args below meth c s.heap [] 0 0 (MQ below (fun _ st oc t => (∃ f : Nat → Nat, oc = .returned none ∧ va_P D vwCl (wld S' cI cZ (ext ad S.length f) h') t.heap ∧ AdOk base (ext ad S.length f) S'.length) ∧ va_F (fun q => base ≤ q) st t) args s mc ms (fun q => base ≤ q)) (F0 m 0 ls [])) : Cn l D cI cZ base y bytes maxL d lw mc ms avs ad S h S' h' := by
  refine Met.ofW (cc := bytes) (maxL := maxL) (ret := none) hy rfl ?_
  intro p e s m args below meth c s₁ B hml hv
  obtain ⟨rfl, hP, hK, hA, hB⟩ := hv
  have hts := atoms_spec (ws := Cond.code y bytes maxL none :: TB) B.pre
  have hl := lv_entry avs (n := maxL) hav
  rw [lg_entry_eq]
  generalize (lg_sl avs ++ List.replicate (maxL - (lg_sl avs).length) Slot.unset).toArray = ls at hl ⊢
  refine body p e s m _ below meth c ls ⟨B.exec, B.bytes, hml, findClass_of_methodNamed B.named, fun w hw => hts w (List.mem_cons_of_mem _ hw)⟩ hK B.returns B.notSynchronized ?_ hB (Lc_entry hcat hl) ⟨hP, va_S.rf, hA⟩
  rw [← hn]
  exact (name_of_methodNamed B.named B.method).1
theorem k_ctor (X : CallFix p m c cc nL s args TB own) (K : KK D cI cZ s) (hw : Hw D cI cZ base ad s S h H locs) (hb : base ≤ s.heap.size) (hl : ls.size = nL) {idx : Nat} {y : MethodName} {bytes : ByteArray} {maxL n d lw mc ms : Nat} (M : MF own idx y bytes maxL none n ∧ y.name = "<init>" ∧ Cond.instanceMethod y ∈ TB) {b : Nat} {As : List Value} {S' : List sh_E} {h' : HH} (hC : Cn l D cI cZ base y bytes maxL d lw mc ms (.ref b :: As) ad S h S' h')
    (hR : d + 1 ≤ R.frames ∧ 8 + (maxL + 11) + lw ≤ R.locals) (hcs : cells + mc ≤ R.cells ∧ slots + ms ≤ R.slots) (hn : As.length = n) {st0 : List Value} (hst : st0 = As.reverse ++ .ref b :: rest) (hrm : (rest.map fun v => v.category).sum ≤ 8) (hdg : decode cc pc = .ok (.invokespecial idx, 3))
    (kk : ∀ (f : Nat → Nat) (H1 : Heap) (locs1 : List Loc), Hw D cI cZ base (ext ad S.length f) s S' h' H1 locs1 → W p l e R s m args below meth c H1 locs1 (cells + mc) (slots + ms) Q (F0 m (pc + 3) ls rest)) : W p l e R s m args below meth c H locs cells slots Q (F0 m pc ls st0) := by
  obtain ⟨⟨m1, m2, m3, m4⟩, m5, m6⟩ := M
  have hts := X.2.2.2.2
  have hr := va_runI (cells := cells) (slots := slots) (locs := locs) (below := below) (meth := meth) (e := e) (R := R) (b := b) (As := As) (rest := rest) (g := F0 m pc ls st0) X hC ⟨callB_of n hts (good_code m2) rfl rfl rfl (hts _ m3) (hts _ m1) m4 hR, m5, hts _ m6⟩ ⟨fun a U g mk q => ⟨q.1, q.2.1, ⟨va_K.moved (u := U) (U := U.calling g mk a) (Vm.Alike.refl U.vm) q.2.2.1.1, va_Nw.same rfl rfl q.2.2.1.2⟩, q.2.2.2⟩, fun U hU hW => ⟨rfl, by rw [hU]; exact hw.1, KK.moved hW K, hw.2.2, by rw [hU]; exact Nat.le_trans hb hw.2.1.1⟩⟩ rfl hn hl hst (lv_room hrm) hdg hcs
  intro T hT X1
  obtain ⟨v, st₀, t, T', L, h0, X', hL, e1, e2, ⟨⟨f, hv, hP1, hA1⟩, hz, hk⟩, st⟩ := hr T hT X1
  cases hv
  rw [h0] at hz hk
  obtain ⟨t2, a1, b1⟩ := kk f T'.heap (locs ++ L) ⟨by rw [e1]; exact hP1, ⟨Nat.le_trans hw.2.1.1 (by rw [e1]; exact hz), fun q h1 h2 => by rw [e1, hk q (Nat.lt_of_lt_of_le h1 hw.2.1.1) h2]; exact hw.2.1.2.1 q h1 h2, fun q hq => by
      rcases List.mem_append.mp hq with h | h
      · exact hw.2.1.2.2 q h
      · exact hL q h⟩, hA1⟩ T' rfl X'
  exact ⟨t2, st t2 a1, b1⟩
end CROWS
end
section
theorem nf_W_7 : NF R_W 7 0 5 [1, 1, 1, 0, 0] := ⟨R_V, T_V, ty_V, rfl, inT_V, tyok_V, TBi 9 (by decide +kernel) (by decide +kernel), TBi 10 (by decide +kernel) (by decide +kernel), TBi 1 (by decide +kernel) (by decide +kernel), by decide +kernel⟩
theorem mf_W_9 : MF R_W 9 y_V_init b_V_init 1 none 0 ∧ y_V_init.name = "<init>" ∧ Cond.instanceMethod y_V_init ∈ TB := ⟨⟨TBi 11 (by decide +kernel) (by decide +kernel), TBi 13 (by decide +kernel) (by decide +kernel), TBi 1 (by decide +kernel) (by decide +kernel), by decide +kernel⟩, rfl, TBi 12 (by decide +kernel) (by decide +kernel)⟩
theorem nf_V_7 : NF R_V 7 1 17 [0, 1, 1, 1, 1, 0, 0, 0, 0, 0, 0, 0, 0, 0, 0, 0, 0] := ⟨R_N, T_N, ty_N, rfl, inT_N, tyok_N, TBi 17 (by decide +kernel) (by decide +kernel), TBi 18 (by decide +kernel) (by decide +kernel), TBi 2 (by decide +kernel) (by decide +kernel), by decide +kernel⟩
theorem mf_V_9 : MF R_V 9 y_N_init b_N_init 2 none 1 ∧ y_N_init.name = "<init>" ∧ Cond.instanceMethod y_N_init ∈ TB := ⟨⟨TBi 19 (by decide +kernel) (by decide +kernel), TBi 21 (by decide +kernel) (by decide +kernel), TBi 2 (by decide +kernel) (by decide +kernel), by decide +kernel⟩, rfl, TBi 20 (by decide +kernel) (by decide +kernel)⟩
theorem nf_N_19 : NF R_N 19 2 2 [1, 0] := ⟨R_E, T_E, ty_E, rfl, inT_E, tyok_E, TBi 23 (by decide +kernel) (by decide +kernel), TBi 24 (by decide +kernel) (by decide +kernel), TBi 3 (by decide +kernel) (by decide +kernel), by decide +kernel⟩
theorem mf_N_21 : MF R_N 21 y_E_init b_E_init 1 none 0 ∧ y_E_init.name = "<init>" ∧ Cond.instanceMethod y_E_init ∈ TB := ⟨⟨TBi 25 (by decide +kernel) (by decide +kernel), TBi 27 (by decide +kernel) (by decide +kernel), TBi 3 (by decide +kernel) (by decide +kernel), by decide +kernel⟩, rfl, TBi 26 (by decide +kernel) (by decide +kernel)⟩
theorem fg_E_9 : FG R_E 9 2 0 := ⟨R_E, T_E, 2, rfl, by decide, inT_E, TBi 29 (by decide +kernel) (by decide +kernel)⟩
theorem fr_E_9 : FR R_E 9 2 0 (.array .int) := ⟨R_E, T_E, 2, ty_E, rfl, by decide, inT_E, TBi 29 (by decide +kernel) (by decide +kernel), tyok_E, nm_E, rfl, rfl, by decide +kernel⟩
theorem fg_E_15 : FG R_E 15 2 1 := ⟨R_E, T_E, 2, rfl, by decide, inT_E, TBi 30 (by decide +kernel) (by decide +kernel)⟩
theorem fp_E_15 : FP R_E 15 2 1 .int := ⟨R_E, T_E, 2, ty_E, rfl, by decide, inT_E, TBi 30 (by decide +kernel) (by decide +kernel), tyok_E, nm_E, rfl, by decide +kernel⟩
theorem ka_int : Cond.arrayClass .int ∈ TB := TBi 36 (by decide +kernel) (by decide +kernel)
theorem nf_N_26 : NF R_N 26 3 5 [1, 1, 1, 0, 0] := ⟨R_O, T_O, ty_O, rfl, inT_O, tyok_O, TBi 37 (by decide +kernel) (by decide +kernel), TBi 38 (by decide +kernel) (by decide +kernel), TBi 4 (by decide +kernel) (by decide +kernel), by decide +kernel⟩
theorem mf_N_28 : MF R_N 28 y_O_init b_O_init 1 none 0 ∧ y_O_init.name = "<init>" ∧ Cond.instanceMethod y_O_init ∈ TB := ⟨⟨TBi 39 (by decide +kernel) (by decide +kernel), TBi 41 (by decide +kernel) (by decide +kernel), TBi 4 (by decide +kernel) (by decide +kernel), by decide +kernel⟩, rfl, TBi 40 (by decide +kernel) (by decide +kernel)⟩
theorem fg_O_9 : FG R_O 9 3 0 := ⟨R_O, T_O, 5, rfl, by decide, inT_O, TBi 43 (by decide +kernel) (by decide +kernel)⟩
theorem fr_O_9 : FR R_O 9 3 0 (.array .int) := ⟨R_O, T_O, 5, ty_O, rfl, by decide, inT_O, TBi 43 (by decide +kernel) (by decide +kernel), tyok_O, nm_O, rfl, rfl, by decide +kernel⟩
theorem fg_O_15 : FG R_O 15 3 1 := ⟨R_O, T_O, 5, rfl, by decide, inT_O, TBi 44 (by decide +kernel) (by decide +kernel)⟩
theorem fr_O_15 : FR R_O 15 3 1 (.array .int) := ⟨R_O, T_O, 5, ty_O, rfl, by decide, inT_O, TBi 44 (by decide +kernel) (by decide +kernel), tyok_O, nm_O, rfl, rfl, by decide +kernel⟩
theorem fg_O_18 : FG R_O 18 3 2 := ⟨R_O, T_O, 5, rfl, by decide, inT_O, TBi 45 (by decide +kernel) (by decide +kernel)⟩
theorem fr_O_18 : FR R_O 18 3 2 (.array .int) := ⟨R_O, T_O, 5, ty_O, rfl, by decide, inT_O, TBi 45 (by decide +kernel) (by decide +kernel), tyok_O, nm_O, rfl, rfl, by decide +kernel⟩
theorem fg_O_25 : FG R_O 25 3 3 := ⟨R_O, T_O, 5, rfl, by decide, inT_O, TBi 46 (by decide +kernel) (by decide +kernel)⟩
theorem fp_O_25 : FP R_O 25 3 3 .int := ⟨R_O, T_O, 5, ty_O, rfl, by decide, inT_O, TBi 46 (by decide +kernel) (by decide +kernel), tyok_O, nm_O, rfl, by decide +kernel⟩
theorem fg_O_21 : FG R_O 21 3 4 := ⟨R_O, T_O, 5, rfl, by decide, inT_O, TBi 47 (by decide +kernel) (by decide +kernel)⟩
theorem fp_O_21 : FP R_O 21 3 4 .int := ⟨R_O, T_O, 5, ty_O, rfl, by decide, inT_O, TBi 47 (by decide +kernel) (by decide +kernel), tyok_O, nm_O, rfl, by decide +kernel⟩
theorem fg_N_68 : FG R_N 68 3 4 := ⟨R_O, T_O, 5, rfl, by decide, inT_O, TBi 48 (by decide +kernel) (by decide +kernel)⟩
theorem fp_N_68 : FP R_N 68 3 4 .int := ⟨R_O, T_O, 5, ty_O, rfl, by decide, inT_O, TBi 48 (by decide +kernel) (by decide +kernel), tyok_O, nm_O, rfl, by decide +kernel⟩
theorem fg_V_110 : FG R_V 110 3 4 := ⟨R_O, T_O, 5, rfl, by decide, inT_O, TBi 49 (by decide +kernel) (by decide +kernel)⟩
theorem fp_V_110 : FP R_V 110 3 4 .int := ⟨R_O, T_O, 5, ty_O, rfl, by decide, inT_O, TBi 49 (by decide +kernel) (by decide +kernel), tyok_O, nm_O, rfl, by decide +kernel⟩
theorem nf_N_33 : NF R_N 33 4 2 [1, 0] := ⟨R_L, T_L, ty_L, rfl, inT_L, tyok_L, TBi 61 (by decide +kernel) (by decide +kernel), TBi 62 (by decide +kernel) (by decide +kernel), TBi 5 (by decide +kernel) (by decide +kernel), by decide +kernel⟩
theorem mf_N_35 : MF R_N 35 y_L_init b_L_init 1 none 0 ∧ y_L_init.name = "<init>" ∧ Cond.instanceMethod y_L_init ∈ TB := ⟨⟨TBi 63 (by decide +kernel) (by decide +kernel), TBi 65 (by decide +kernel) (by decide +kernel), TBi 5 (by decide +kernel) (by decide +kernel), by decide +kernel⟩, rfl, TBi 64 (by decide +kernel) (by decide +kernel)⟩
theorem fg_L_9 : FG R_L 9 4 0 := ⟨R_L, T_L, 2, rfl, by decide, inT_L, TBi 67 (by decide +kernel) (by decide +kernel)⟩
theorem fr_L_9 : FR R_L 9 4 0 (.array .int) := ⟨R_L, T_L, 2, ty_L, rfl, by decide, inT_L, TBi 67 (by decide +kernel) (by decide +kernel), tyok_L, nm_L, rfl, rfl, by decide +kernel⟩
theorem fg_L_15 : FG R_L 15 4 1 := ⟨R_L, T_L, 2, rfl, by decide, inT_L, TBi 68 (by decide +kernel) (by decide +kernel)⟩
theorem fp_L_15 : FP R_L 15 4 1 .int := ⟨R_L, T_L, 2, ty_L, rfl, by decide, inT_L, TBi 68 (by decide +kernel) (by decide +kernel), tyok_L, nm_L, rfl, by decide +kernel⟩
theorem fg_N_71 : FG R_N 71 4 1 := ⟨R_L, T_L, 2, rfl, by decide, inT_L, TBi 69 (by decide +kernel) (by decide +kernel)⟩
theorem fp_N_71 : FP R_N 71 4 1 .int := ⟨R_L, T_L, 2, ty_L, rfl, by decide, inT_L, TBi 69 (by decide +kernel) (by decide +kernel), tyok_L, nm_L, rfl, by decide +kernel⟩
theorem fg_V_137 : FG R_V 137 4 1 := ⟨R_L, T_L, 2, rfl, by decide, inT_L, TBi 70 (by decide +kernel) (by decide +kernel)⟩
theorem fp_V_137 : FP R_V 137 4 1 .int := ⟨R_L, T_L, 2, ty_L, rfl, by decide, inT_L, TBi 70 (by decide +kernel) (by decide +kernel), tyok_L, nm_L, rfl, by decide +kernel⟩
theorem fg_N_9 : FG R_N 9 1 0 := ⟨R_N, T_N, 17, rfl, by decide, inT_N, TBi 76 (by decide +kernel) (by decide +kernel)⟩
theorem fr_N_9 : FR R_N 9 1 0 (.int) := ⟨R_N, T_N, 17, ty_N, rfl, by decide, inT_N, TBi 76 (by decide +kernel) (by decide +kernel), tyok_N, nm_N, rfl, rfl, by decide +kernel⟩
theorem fg_V_232 : FG R_V 232 1 0 := ⟨R_N, T_N, 17, rfl, by decide, inT_N, TBi 77 (by decide +kernel) (by decide +kernel)⟩
theorem fg_N_15 : FG R_N 15 1 1 := ⟨R_N, T_N, 17, rfl, by decide, inT_N, TBi 78 (by decide +kernel) (by decide +kernel)⟩
theorem fr_N_15 : FR R_N 15 1 1 (.array .int) := ⟨R_N, T_N, 17, ty_N, rfl, by decide, inT_N, TBi 78 (by decide +kernel) (by decide +kernel), tyok_N, nm_N, rfl, rfl, by decide +kernel⟩
theorem fg_V_78 : FG R_V 78 1 1 := ⟨R_N, T_N, 17, rfl, by decide, inT_N, TBi 79 (by decide +kernel) (by decide +kernel)⟩
theorem fg_N_22 : FG R_N 22 1 2 := ⟨R_N, T_N, 17, rfl, by decide, inT_N, TBi 80 (by decide +kernel) (by decide +kernel)⟩
theorem fr_N_22 : FR R_N 22 1 2 (.object "TwinVolume$ExtentLog") := ⟨R_N, T_N, 17, ty_N, rfl, by decide, inT_N, TBi 80 (by decide +kernel) (by decide +kernel), tyok_N, nm_N, rfl, rfl, by decide +kernel⟩
theorem fg_V_64 : FG R_V 64 1 2 := ⟨R_N, T_N, 17, rfl, by decide, inT_N, TBi 81 (by decide +kernel) (by decide +kernel)⟩
theorem fg_N_29 : FG R_N 29 1 3 := ⟨R_N, T_N, 17, rfl, by decide, inT_N, TBi 82 (by decide +kernel) (by decide +kernel)⟩
theorem fr_N_29 : FR R_N 29 1 3 (.object "TwinVolume$Outbox") := ⟨R_N, T_N, 17, ty_N, rfl, by decide, inT_N, TBi 82 (by decide +kernel) (by decide +kernel), tyok_N, nm_N, rfl, rfl, by decide +kernel⟩
theorem fg_V_94 : FG R_V 94 1 3 := ⟨R_N, T_N, 17, rfl, by decide, inT_N, TBi 83 (by decide +kernel) (by decide +kernel)⟩
theorem fg_N_36 : FG R_N 36 1 4 := ⟨R_N, T_N, 17, rfl, by decide, inT_N, TBi 84 (by decide +kernel) (by decide +kernel)⟩
theorem fr_N_36 : FR R_N 36 1 4 (.object "TwinVolume$WaitingList") := ⟨R_N, T_N, 17, ty_N, rfl, by decide, inT_N, TBi 84 (by decide +kernel) (by decide +kernel), tyok_N, nm_N, rfl, rfl, by decide +kernel⟩
theorem fg_V_133 : FG R_V 133 1 4 := ⟨R_N, T_N, 17, rfl, by decide, inT_N, TBi 85 (by decide +kernel) (by decide +kernel)⟩
theorem fg_N_62 : FG R_N 62 1 5 := ⟨R_N, T_N, 17, rfl, by decide, inT_N, TBi 86 (by decide +kernel) (by decide +kernel)⟩
theorem fp_N_62 : FP R_N 62 1 5 .int := ⟨R_N, T_N, 17, ty_N, rfl, by decide, inT_N, TBi 86 (by decide +kernel) (by decide +kernel), tyok_N, nm_N, rfl, by decide +kernel⟩
theorem fg_V_166 : FG R_V 166 1 5 := ⟨R_N, T_N, 17, rfl, by decide, inT_N, TBi 87 (by decide +kernel) (by decide +kernel)⟩
theorem fp_V_166 : FP R_V 166 1 5 .int := ⟨R_N, T_N, 17, ty_N, rfl, by decide, inT_N, TBi 87 (by decide +kernel) (by decide +kernel), tyok_N, nm_N, rfl, by decide +kernel⟩
theorem fg_N_40 : FG R_N 40 1 6 := ⟨R_N, T_N, 17, rfl, by decide, inT_N, TBi 88 (by decide +kernel) (by decide +kernel)⟩
theorem fp_N_40 : FP R_N 40 1 6 .int := ⟨R_N, T_N, 17, ty_N, rfl, by decide, inT_N, TBi 88 (by decide +kernel) (by decide +kernel), tyok_N, nm_N, rfl, by decide +kernel⟩
theorem fg_V_197 : FG R_V 197 1 6 := ⟨R_N, T_N, 17, rfl, by decide, inT_N, TBi 89 (by decide +kernel) (by decide +kernel)⟩
theorem fp_V_197 : FP R_V 197 1 6 .int := ⟨R_N, T_N, 17, ty_N, rfl, by decide, inT_N, TBi 89 (by decide +kernel) (by decide +kernel), tyok_N, nm_N, rfl, by decide +kernel⟩
theorem fg_N_65 : FG R_N 65 1 7 := ⟨R_N, T_N, 17, rfl, by decide, inT_N, TBi 90 (by decide +kernel) (by decide +kernel)⟩
theorem fp_N_65 : FP R_N 65 1 7 .int := ⟨R_N, T_N, 17, ty_N, rfl, by decide, inT_N, TBi 90 (by decide +kernel) (by decide +kernel), tyok_N, nm_N, rfl, by decide +kernel⟩
theorem fg_V_200 : FG R_V 200 1 7 := ⟨R_N, T_N, 17, rfl, by decide, inT_N, TBi 91 (by decide +kernel) (by decide +kernel)⟩
theorem fp_V_200 : FP R_V 200 1 7 .int := ⟨R_N, T_N, 17, ty_N, rfl, by decide, inT_N, TBi 91 (by decide +kernel) (by decide +kernel), tyok_N, nm_N, rfl, by decide +kernel⟩
theorem fg_N_56 : FG R_N 56 1 8 := ⟨R_N, T_N, 17, rfl, by decide, inT_N, TBi 92 (by decide +kernel) (by decide +kernel)⟩
theorem fp_N_56 : FP R_N 56 1 8 .boolean := ⟨R_N, T_N, 17, ty_N, rfl, by decide, inT_N, TBi 92 (by decide +kernel) (by decide +kernel), tyok_N, nm_N, rfl, by decide +kernel⟩
theorem fg_V_194 : FG R_V 194 1 8 := ⟨R_N, T_N, 17, rfl, by decide, inT_N, TBi 93 (by decide +kernel) (by decide +kernel)⟩
theorem fp_V_194 : FP R_V 194 1 8 .boolean := ⟨R_N, T_N, 17, ty_N, rfl, by decide, inT_N, TBi 93 (by decide +kernel) (by decide +kernel), tyok_N, nm_N, rfl, by decide +kernel⟩
theorem fg_N_59 : FG R_N 59 1 9 := ⟨R_N, T_N, 17, rfl, by decide, inT_N, TBi 94 (by decide +kernel) (by decide +kernel)⟩
theorem fp_N_59 : FP R_N 59 1 9 .boolean := ⟨R_N, T_N, 17, ty_N, rfl, by decide, inT_N, TBi 94 (by decide +kernel) (by decide +kernel), tyok_N, nm_N, rfl, by decide +kernel⟩
theorem fg_V_188 : FG R_V 188 1 9 := ⟨R_N, T_N, 17, rfl, by decide, inT_N, TBi 95 (by decide +kernel) (by decide +kernel)⟩
theorem fp_V_188 : FP R_V 188 1 9 .boolean := ⟨R_N, T_N, 17, ty_N, rfl, by decide, inT_N, TBi 95 (by decide +kernel) (by decide +kernel), tyok_N, nm_N, rfl, by decide +kernel⟩
theorem fg_N_43 : FG R_N 43 1 10 := ⟨R_N, T_N, 17, rfl, by decide, inT_N, TBi 96 (by decide +kernel) (by decide +kernel)⟩
theorem fp_N_43 : FP R_N 43 1 10 .boolean := ⟨R_N, T_N, 17, ty_N, rfl, by decide, inT_N, TBi 96 (by decide +kernel) (by decide +kernel), tyok_N, nm_N, rfl, by decide +kernel⟩
theorem fg_V_47 : FG R_V 47 1 10 := ⟨R_N, T_N, 17, rfl, by decide, inT_N, TBi 97 (by decide +kernel) (by decide +kernel)⟩
theorem fp_V_47 : FP R_V 47 1 10 .boolean := ⟨R_N, T_N, 17, ty_N, rfl, by decide, inT_N, TBi 97 (by decide +kernel) (by decide +kernel), tyok_N, nm_N, rfl, by decide +kernel⟩
theorem fg_V_50 : FG R_V 50 1 11 := ⟨R_N, T_N, 17, rfl, by decide, inT_N, TBi 98 (by decide +kernel) (by decide +kernel)⟩
theorem fp_V_50 : FP R_V 50 1 11 .boolean := ⟨R_N, T_N, 17, ty_N, rfl, by decide, inT_N, TBi 98 (by decide +kernel) (by decide +kernel), tyok_N, nm_N, rfl, by decide +kernel⟩
theorem fg_N_75 : FG R_N 75 1 12 := ⟨R_N, T_N, 17, rfl, by decide, inT_N, TBi 99 (by decide +kernel) (by decide +kernel)⟩
theorem fp_N_75 : FP R_N 75 1 12 .boolean := ⟨R_N, T_N, 17, ty_N, rfl, by decide, inT_N, TBi 99 (by decide +kernel) (by decide +kernel), tyok_N, nm_N, rfl, by decide +kernel⟩
theorem fg_V_155 : FG R_V 155 1 12 := ⟨R_N, T_N, 17, rfl, by decide, inT_N, TBi 100 (by decide +kernel) (by decide +kernel)⟩
theorem fp_V_155 : FP R_V 155 1 12 .boolean := ⟨R_N, T_N, 17, ty_N, rfl, by decide, inT_N, TBi 100 (by decide +kernel) (by decide +kernel), tyok_N, nm_N, rfl, by decide +kernel⟩
theorem fg_N_53 : FG R_N 53 1 13 := ⟨R_N, T_N, 17, rfl, by decide, inT_N, TBi 101 (by decide +kernel) (by decide +kernel)⟩
theorem fp_N_53 : FP R_N 53 1 13 .boolean := ⟨R_N, T_N, 17, ty_N, rfl, by decide, inT_N, TBi 101 (by decide +kernel) (by decide +kernel), tyok_N, nm_N, rfl, by decide +kernel⟩
theorem fg_V_209 : FG R_V 209 1 13 := ⟨R_N, T_N, 17, rfl, by decide, inT_N, TBi 102 (by decide +kernel) (by decide +kernel)⟩
theorem fp_V_209 : FP R_V 209 1 13 .boolean := ⟨R_N, T_N, 17, ty_N, rfl, by decide, inT_N, TBi 102 (by decide +kernel) (by decide +kernel), tyok_N, nm_N, rfl, by decide +kernel⟩
theorem fg_N_72 : FG R_N 72 1 14 := ⟨R_N, T_N, 17, rfl, by decide, inT_N, TBi 103 (by decide +kernel) (by decide +kernel)⟩
theorem fp_N_72 : FP R_N 72 1 14 .int := ⟨R_N, T_N, 17, ty_N, rfl, by decide, inT_N, TBi 103 (by decide +kernel) (by decide +kernel), tyok_N, nm_N, rfl, by decide +kernel⟩
theorem fg_V_158 : FG R_V 158 1 14 := ⟨R_N, T_N, 17, rfl, by decide, inT_N, TBi 104 (by decide +kernel) (by decide +kernel)⟩
theorem fp_V_158 : FP R_V 158 1 14 .int := ⟨R_N, T_N, 17, ty_N, rfl, by decide, inT_N, TBi 104 (by decide +kernel) (by decide +kernel), tyok_N, nm_N, rfl, by decide +kernel⟩
theorem fg_N_50 : FG R_N 50 1 15 := ⟨R_N, T_N, 17, rfl, by decide, inT_N, TBi 105 (by decide +kernel) (by decide +kernel)⟩
theorem fp_N_50 : FP R_N 50 1 15 .int := ⟨R_N, T_N, 17, ty_N, rfl, by decide, inT_N, TBi 105 (by decide +kernel) (by decide +kernel), tyok_N, nm_N, rfl, by decide +kernel⟩
theorem fg_N_47 : FG R_N 47 1 16 := ⟨R_N, T_N, 17, rfl, by decide, inT_N, TBi 106 (by decide +kernel) (by decide +kernel)⟩
theorem fp_N_47 : FP R_N 47 1 16 .boolean := ⟨R_N, T_N, 17, ty_N, rfl, by decide, inT_N, TBi 106 (by decide +kernel) (by decide +kernel), tyok_N, nm_N, rfl, by decide +kernel⟩
theorem fg_V_107 : FG R_V 107 1 16 := ⟨R_N, T_N, 17, rfl, by decide, inT_N, TBi 107 (by decide +kernel) (by decide +kernel)⟩
theorem fp_V_107 : FP R_V 107 1 16 .boolean := ⟨R_N, T_N, 17, ty_N, rfl, by decide, inT_N, TBi 107 (by decide +kernel) (by decide +kernel), tyok_N, nm_N, rfl, by decide +kernel⟩
theorem nf_V_21 : NF R_V 21 5 6 [1, 1, 1, 1, 1, 0] := ⟨R_T, T_T, ty_T, rfl, inT_T, tyok_T, TBi 143 (by decide +kernel) (by decide +kernel), TBi 144 (by decide +kernel) (by decide +kernel), TBi 6 (by decide +kernel) (by decide +kernel), by decide +kernel⟩
theorem mf_V_23 : MF R_V 23 y_T_init b_T_init 1 none 0 ∧ y_T_init.name = "<init>" ∧ Cond.instanceMethod y_T_init ∈ TB := ⟨⟨TBi 145 (by decide +kernel) (by decide +kernel), TBi 147 (by decide +kernel) (by decide +kernel), TBi 6 (by decide +kernel) (by decide +kernel), by decide +kernel⟩, rfl, TBi 146 (by decide +kernel) (by decide +kernel)⟩
theorem fg_T_9 : FG R_T 9 5 0 := ⟨R_T, T_T, 6, rfl, by decide, inT_T, TBi 149 (by decide +kernel) (by decide +kernel)⟩
theorem fr_T_9 : FR R_T 9 5 0 (.array .int) := ⟨R_T, T_T, 6, ty_T, rfl, by decide, inT_T, TBi 149 (by decide +kernel) (by decide +kernel), tyok_T, nm_T, rfl, rfl, by decide +kernel⟩
theorem fg_V_235 : FG R_V 235 5 0 := ⟨R_T, T_T, 6, rfl, by decide, inT_T, TBi 150 (by decide +kernel) (by decide +kernel)⟩
theorem fg_T_15 : FG R_T 15 5 1 := ⟨R_T, T_T, 6, rfl, by decide, inT_T, TBi 151 (by decide +kernel) (by decide +kernel)⟩
theorem fr_T_15 : FR R_T 15 5 1 (.array .int) := ⟨R_T, T_T, 6, ty_T, rfl, by decide, inT_T, TBi 151 (by decide +kernel) (by decide +kernel), tyok_T, nm_T, rfl, rfl, by decide +kernel⟩
theorem fg_V_149 : FG R_V 149 5 1 := ⟨R_T, T_T, 6, rfl, by decide, inT_T, TBi 152 (by decide +kernel) (by decide +kernel)⟩
theorem fg_T_18 : FG R_T 18 5 2 := ⟨R_T, T_T, 6, rfl, by decide, inT_T, TBi 153 (by decide +kernel) (by decide +kernel)⟩
theorem fr_T_18 : FR R_T 18 5 2 (.array .int) := ⟨R_T, T_T, 6, ty_T, rfl, by decide, inT_T, TBi 153 (by decide +kernel) (by decide +kernel), tyok_T, nm_T, rfl, rfl, by decide +kernel⟩
theorem fg_V_152 : FG R_V 152 5 2 := ⟨R_T, T_T, 6, rfl, by decide, inT_T, TBi 154 (by decide +kernel) (by decide +kernel)⟩
theorem fg_T_21 : FG R_T 21 5 3 := ⟨R_T, T_T, 6, rfl, by decide, inT_T, TBi 155 (by decide +kernel) (by decide +kernel)⟩
theorem fr_T_21 : FR R_T 21 5 3 (.array .int) := ⟨R_T, T_T, 6, ty_T, rfl, by decide, inT_T, TBi 155 (by decide +kernel) (by decide +kernel), tyok_T, nm_T, rfl, rfl, by decide +kernel⟩
theorem fg_V_143 : FG R_V 143 5 3 := ⟨R_T, T_T, 6, rfl, by decide, inT_T, TBi 156 (by decide +kernel) (by decide +kernel)⟩
theorem fg_T_24 : FG R_T 24 5 4 := ⟨R_T, T_T, 6, rfl, by decide, inT_T, TBi 157 (by decide +kernel) (by decide +kernel)⟩
theorem fr_T_24 : FR R_T 24 5 4 (.array .int) := ⟨R_T, T_T, 6, ty_T, rfl, by decide, inT_T, TBi 157 (by decide +kernel) (by decide +kernel), tyok_T, nm_T, rfl, rfl, by decide +kernel⟩
theorem fg_V_206 : FG R_V 206 5 4 := ⟨R_T, T_T, 6, rfl, by decide, inT_T, TBi 158 (by decide +kernel) (by decide +kernel)⟩
theorem fg_T_27 : FG R_T 27 5 5 := ⟨R_T, T_T, 6, rfl, by decide, inT_T, TBi 159 (by decide +kernel) (by decide +kernel)⟩
theorem fp_T_27 : FP R_T 27 5 5 .int := ⟨R_T, T_T, 6, ty_T, rfl, by decide, inT_T, TBi 159 (by decide +kernel) (by decide +kernel), tyok_T, nm_T, rfl, by decide +kernel⟩
theorem fg_V_241 : FG R_V 241 5 5 := ⟨R_T, T_T, 6, rfl, by decide, inT_T, TBi 160 (by decide +kernel) (by decide +kernel)⟩
theorem fp_V_241 : FP R_V 241 5 5 .int := ⟨R_T, T_T, 6, ty_T, rfl, by decide, inT_T, TBi 160 (by decide +kernel) (by decide +kernel), tyok_T, nm_T, rfl, by decide +kernel⟩
theorem fg_V_12 : FG R_V 12 0 0 := ⟨R_V, T_V, 5, rfl, by decide, inT_V, TBi 174 (by decide +kernel) (by decide +kernel)⟩
theorem fr_V_12 : FR R_V 12 0 0 (.object "TwinVolume$Node") := ⟨R_V, T_V, 5, ty_V, rfl, by decide, inT_V, TBi 174 (by decide +kernel) (by decide +kernel), tyok_V, nm_V, rfl, rfl, by decide +kernel⟩
theorem fg_V_18 : FG R_V 18 0 1 := ⟨R_V, T_V, 5, rfl, by decide, inT_V, TBi 175 (by decide +kernel) (by decide +kernel)⟩
theorem fr_V_18 : FR R_V 18 0 1 (.object "TwinVolume$Node") := ⟨R_V, T_V, 5, ty_V, rfl, by decide, inT_V, TBi 175 (by decide +kernel) (by decide +kernel), tyok_V, nm_V, rfl, rfl, by decide +kernel⟩
theorem fg_V_24 : FG R_V 24 0 2 := ⟨R_V, T_V, 5, rfl, by decide, inT_V, TBi 176 (by decide +kernel) (by decide +kernel)⟩
theorem fr_V_24 : FR R_V 24 0 2 (.object "TwinVolume$WriteTable") := ⟨R_V, T_V, 5, ty_V, rfl, by decide, inT_V, TBi 176 (by decide +kernel) (by decide +kernel), tyok_V, nm_V, rfl, rfl, by decide +kernel⟩
theorem fg_V_28 : FG R_V 28 0 3 := ⟨R_V, T_V, 5, rfl, by decide, inT_V, TBi 177 (by decide +kernel) (by decide +kernel)⟩
theorem fp_V_28 : FP R_V 28 0 3 .boolean := ⟨R_V, T_V, 5, ty_V, rfl, by decide, inT_V, TBi 177 (by decide +kernel) (by decide +kernel), tyok_V, nm_V, rfl, by decide +kernel⟩
theorem fg_V_32 : FG R_V 32 0 4 := ⟨R_V, T_V, 5, rfl, by decide, inT_V, TBi 178 (by decide +kernel) (by decide +kernel)⟩
theorem fp_V_32 : FP R_V 32 0 4 .int := ⟨R_V, T_V, 5, ty_V, rfl, by decide, inT_V, TBi 178 (by decide +kernel) (by decide +kernel), tyok_V, nm_V, rfl, by decide +kernel⟩
theorem mf_W_13 : MF R_W 13 y_V_write b_V_write 10 (some .int) 3 ∧ Cond.instanceMethod y_V_write ∈ TB ∧ Cond.selects y_V_write.cls y_V_write y_V_write ∈ TB := ⟨⟨TBi 190 (by decide +kernel) (by decide +kernel), TBi 193 (by decide +kernel) (by decide +kernel), TBi 1 (by decide +kernel) (by decide +kernel), by decide +kernel⟩, TBi 191 (by decide +kernel) (by decide +kernel), TBi 192 (by decide +kernel) (by decide +kernel)⟩
theorem mf_V_36 : MF R_V 36 y_V_isNode b_V_isNode 1 (some .boolean) 1 ∧ Cond.static y_V_isNode ∈ TB := ⟨⟨TBi 194 (by decide +kernel) (by decide +kernel), TBi 196 (by decide +kernel) (by decide +kernel), TBi 1 (by decide +kernel) (by decide +kernel), by decide +kernel⟩, TBi 195 (by decide +kernel) (by decide +kernel)⟩
theorem mf_V_40 : MF R_V 40 y_V_isBlock b_V_isBlock 1 (some .boolean) 1 ∧ Cond.static y_V_isBlock ∈ TB := ⟨⟨TBi 197 (by decide +kernel) (by decide +kernel), TBi 199 (by decide +kernel) (by decide +kernel), TBi 1 (by decide +kernel) (by decide +kernel), by decide +kernel⟩, TBi 198 (by decide +kernel) (by decide +kernel)⟩
theorem mf_V_43 : MF R_V 43 y_V_nodeOf b_V_nodeOf 2 (some (.object "TwinVolume$Node")) 1 ∧ Cond.instanceMethod y_V_nodeOf ∈ TB ∧ Cond.selects y_V_nodeOf.cls y_V_nodeOf y_V_nodeOf ∈ TB := ⟨⟨TBi 200 (by decide +kernel) (by decide +kernel), TBi 203 (by decide +kernel) (by decide +kernel), TBi 1 (by decide +kernel) (by decide +kernel), by decide +kernel⟩, TBi 202 (by decide +kernel) (by decide +kernel), TBs 0 (by decide +kernel) (by decide +kernel)⟩
theorem mf_V_53 : MF R_V 53 y_T_isFull b_T_isFull 1 (some .boolean) 0 ∧ Cond.instanceMethod y_T_isFull ∈ TB ∧ Cond.selects y_T_isFull.cls y_T_isFull y_T_isFull ∈ TB := ⟨⟨TBi 204 (by decide +kernel) (by decide +kernel), TBi 207 (by decide +kernel) (by decide +kernel), TBi 6 (by decide +kernel) (by decide +kernel), by decide +kernel⟩, TBi 205 (by decide +kernel) (by decide +kernel), TBi 206 (by decide +kernel) (by decide +kernel)⟩
theorem mf_V_57 : MF R_V 57 y_T_countPending b_T_countPending 4 (some .int) 1 ∧ Cond.instanceMethod y_T_countPending ∈ TB ∧ Cond.selects y_T_countPending.cls y_T_countPending y_T_countPending ∈ TB := ⟨⟨TBi 208 (by decide +kernel) (by decide +kernel), TBi 211 (by decide +kernel) (by decide +kernel), TBi 6 (by decide +kernel) (by decide +kernel), by decide +kernel⟩, TBi 209 (by decide +kernel) (by decide +kernel), TBi 210 (by decide +kernel) (by decide +kernel)⟩
theorem mf_T_35 : MF R_T 35 y_T_isPendingOf b_T_isPendingOf 3 (some .boolean) 2 ∧ Cond.instanceMethod y_T_isPendingOf ∈ TB ∧ Cond.selects y_T_isPendingOf.cls y_T_isPendingOf y_T_isPendingOf ∈ TB := ⟨⟨TBi 212 (by decide +kernel) (by decide +kernel), TBi 215 (by decide +kernel) (by decide +kernel), TBi 6 (by decide +kernel) (by decide +kernel), by decide +kernel⟩, TBi 214 (by decide +kernel) (by decide +kernel), TBs 1 (by decide +kernel) (by decide +kernel)⟩
theorem mf_V_61 : MF R_V 61 y_T_pendingBlocks b_T_pendingBlocks 4 (some .int) 1 ∧ Cond.instanceMethod y_T_pendingBlocks ∈ TB ∧ Cond.selects y_T_pendingBlocks.cls y_T_pendingBlocks y_T_pendingBlocks ∈ TB := ⟨⟨TBi 216 (by decide +kernel) (by decide +kernel), TBi 219 (by decide +kernel) (by decide +kernel), TBi 6 (by decide +kernel) (by decide +kernel), by decide +kernel⟩, TBi 217 (by decide +kernel) (by decide +kernel), TBi 218 (by decide +kernel) (by decide +kernel)⟩
theorem mf_V_68 : MF R_V 68 y_E_placeFor b_E_placeFor 4 (some .int) 2 ∧ Cond.instanceMethod y_E_placeFor ∈ TB ∧ Cond.selects y_E_placeFor.cls y_E_placeFor y_E_placeFor ∈ TB := ⟨⟨TBi 220 (by decide +kernel) (by decide +kernel), TBi 223 (by decide +kernel) (by decide +kernel), TBi 3 (by decide +kernel) (by decide +kernel), by decide +kernel⟩, TBi 221 (by decide +kernel) (by decide +kernel), TBi 222 (by decide +kernel) (by decide +kernel)⟩
theorem mf_E_19 : MN y_V_blocksOfExtent b_V_blocksOfExtent 1 (some .int) 1 ∧ Cond.static y_V_blocksOfExtent ∈ TB := ⟨⟨TBi 226 (by decide +kernel) (by decide +kernel), TBi 1 (by decide +kernel) (by decide +kernel), by decide +kernel⟩, TBi 225 (by decide +kernel) (by decide +kernel)⟩
theorem mf_V_74 : MF R_V 74 y_E_putInFront b_E_putInFront 4 none 2 ∧ Cond.instanceMethod y_E_putInFront ∈ TB ∧ Cond.selects y_E_putInFront.cls y_E_putInFront y_E_putInFront ∈ TB := ⟨⟨TBi 227 (by decide +kernel) (by decide +kernel), TBi 230 (by decide +kernel) (by decide +kernel), TBi 3 (by decide +kernel) (by decide +kernel), by decide +kernel⟩, TBi 228 (by decide +kernel) (by decide +kernel), TBi 229 (by decide +kernel) (by decide +kernel)⟩
theorem mf_V_82 : MF R_V 82 y_V_hasBlock b_V_hasBlock 2 (some .boolean) 2 ∧ Cond.static y_V_hasBlock ∈ TB := ⟨⟨TBi 231 (by decide +kernel) (by decide +kernel), TBi 233 (by decide +kernel) (by decide +kernel), TBi 1 (by decide +kernel) (by decide +kernel), by decide +kernel⟩, TBi 232 (by decide +kernel) (by decide +kernel)⟩
theorem mf_V_86 : MF R_V 86 y_N_epochOfNextWrite b_N_epochOfNextWrite 2 (some .int) 1 ∧ Cond.instanceMethod y_N_epochOfNextWrite ∈ TB ∧ Cond.selects y_N_epochOfNextWrite.cls y_N_epochOfNextWrite y_N_epochOfNextWrite ∈ TB := ⟨⟨TBi 234 (by decide +kernel) (by decide +kernel), TBi 237 (by decide +kernel) (by decide +kernel), TBi 2 (by decide +kernel) (by decide +kernel), by decide +kernel⟩, TBi 235 (by decide +kernel) (by decide +kernel), TBi 236 (by decide +kernel) (by decide +kernel)⟩
theorem mf_V_90 : MF R_V 90 y_T_accept b_T_accept 5 (some .int) 4 ∧ Cond.instanceMethod y_T_accept ∈ TB ∧ Cond.selects y_T_accept.cls y_T_accept y_T_accept ∈ TB := ⟨⟨TBi 238 (by decide +kernel) (by decide +kernel), TBi 241 (by decide +kernel) (by decide +kernel), TBi 6 (by decide +kernel) (by decide +kernel), by decide +kernel⟩, TBi 239 (by decide +kernel) (by decide +kernel), TBi 240 (by decide +kernel) (by decide +kernel)⟩
theorem mf_T_31 : MF R_T 31 y_T_isFull b_T_isFull 1 (some .boolean) 0 ∧ Cond.instanceMethod y_T_isFull ∈ TB ∧ Cond.selects y_T_isFull.cls y_T_isFull y_T_isFull ∈ TB := ⟨⟨TBi 242 (by decide +kernel) (by decide +kernel), TBi 207 (by decide +kernel) (by decide +kernel), TBi 6 (by decide +kernel) (by decide +kernel), by decide +kernel⟩, TBi 205 (by decide +kernel) (by decide +kernel), TBi 206 (by decide +kernel) (by decide +kernel)⟩
theorem mf_V_98 : MF R_V 98 y_O_send b_O_send 5 none 3 ∧ Cond.instanceMethod y_O_send ∈ TB ∧ Cond.selects y_O_send.cls y_O_send y_O_send ∈ TB := ⟨⟨TBi 243 (by decide +kernel) (by decide +kernel), TBi 246 (by decide +kernel) (by decide +kernel), TBi 4 (by decide +kernel) (by decide +kernel), by decide +kernel⟩, TBi 244 (by decide +kernel) (by decide +kernel), TBi 245 (by decide +kernel) (by decide +kernel)⟩
theorem mf_V_104 : MF R_V 104 y_V_endUpAlone b_V_endUpAlone 3 none 1 ∧ Cond.instanceMethod y_V_endUpAlone ∈ TB ∧ Cond.selects y_V_endUpAlone.cls y_V_endUpAlone y_V_endUpAlone ∈ TB := ⟨⟨TBi 247 (by decide +kernel) (by decide +kernel), TBi 250 (by decide +kernel) (by decide +kernel), TBi 1 (by decide +kernel) (by decide +kernel), by decide +kernel⟩, TBi 249 (by decide +kernel) (by decide +kernel), TBs 2 (by decide +kernel) (by decide +kernel)⟩
theorem mf_W_18 : MF R_W 18 y_V_barrier b_V_barrier 3 (some .boolean) 1 ∧ Cond.instanceMethod y_V_barrier ∈ TB ∧ Cond.selects y_V_barrier.cls y_V_barrier y_V_barrier ∈ TB := ⟨⟨TBi 251 (by decide +kernel) (by decide +kernel), TBi 254 (by decide +kernel) (by decide +kernel), TBi 1 (by decide +kernel) (by decide +kernel), by decide +kernel⟩, TBi 252 (by decide +kernel) (by decide +kernel), TBi 253 (by decide +kernel) (by decide +kernel)⟩
theorem mf_W_23 : MF R_W 23 y_V_deliver b_V_deliver 6 (some .int) 1 ∧ Cond.instanceMethod y_V_deliver ∈ TB ∧ Cond.selects y_V_deliver.cls y_V_deliver y_V_deliver ∈ TB := ⟨⟨TBi 255 (by decide +kernel) (by decide +kernel), TBi 258 (by decide +kernel) (by decide +kernel), TBi 1 (by decide +kernel) (by decide +kernel), by decide +kernel⟩, TBi 256 (by decide +kernel) (by decide +kernel), TBi 257 (by decide +kernel) (by decide +kernel)⟩
theorem mf_V_113 : MF R_V 113 y_O_kindOfFirst b_O_kindOfFirst 1 (some .int) 0 ∧ Cond.instanceMethod y_O_kindOfFirst ∈ TB ∧ Cond.selects y_O_kindOfFirst.cls y_O_kindOfFirst y_O_kindOfFirst ∈ TB := ⟨⟨TBi 259 (by decide +kernel) (by decide +kernel), TBi 262 (by decide +kernel) (by decide +kernel), TBi 4 (by decide +kernel) (by decide +kernel), by decide +kernel⟩, TBi 260 (by decide +kernel) (by decide +kernel), TBi 261 (by decide +kernel) (by decide +kernel)⟩
theorem mf_V_117 : MF R_V 117 y_O_subjectOfFirst b_O_subjectOfFirst 1 (some .int) 0 ∧ Cond.instanceMethod y_O_subjectOfFirst ∈ TB ∧ Cond.selects y_O_subjectOfFirst.cls y_O_subjectOfFirst y_O_subjectOfFirst ∈ TB := ⟨⟨TBi 263 (by decide +kernel) (by decide +kernel), TBi 266 (by decide +kernel) (by decide +kernel), TBi 4 (by decide +kernel) (by decide +kernel), by decide +kernel⟩, TBi 264 (by decide +kernel) (by decide +kernel), TBi 265 (by decide +kernel) (by decide +kernel)⟩
theorem mf_V_120 : MF R_V 120 y_O_valueOfFirst b_O_valueOfFirst 1 (some .int) 0 ∧ Cond.instanceMethod y_O_valueOfFirst ∈ TB ∧ Cond.selects y_O_valueOfFirst.cls y_O_valueOfFirst y_O_valueOfFirst ∈ TB := ⟨⟨TBi 267 (by decide +kernel) (by decide +kernel), TBi 270 (by decide +kernel) (by decide +kernel), TBi 4 (by decide +kernel) (by decide +kernel), by decide +kernel⟩, TBi 268 (by decide +kernel) (by decide +kernel), TBi 269 (by decide +kernel) (by decide +kernel)⟩
theorem mf_V_123 : MF R_V 123 y_O_dropFirst b_O_dropFirst 1 none 0 ∧ Cond.instanceMethod y_O_dropFirst ∈ TB ∧ Cond.selects y_O_dropFirst.cls y_O_dropFirst y_O_dropFirst ∈ TB := ⟨⟨TBi 271 (by decide +kernel) (by decide +kernel), TBi 274 (by decide +kernel) (by decide +kernel), TBi 4 (by decide +kernel) (by decide +kernel), by decide +kernel⟩, TBi 272 (by decide +kernel) (by decide +kernel), TBi 273 (by decide +kernel) (by decide +kernel)⟩
theorem mf_V_126 : MF R_V 126 y_V_peerOf b_V_peerOf 2 (some (.object "TwinVolume$Node")) 1 ∧ Cond.instanceMethod y_V_peerOf ∈ TB ∧ Cond.selects y_V_peerOf.cls y_V_peerOf y_V_peerOf ∈ TB := ⟨⟨TBi 275 (by decide +kernel) (by decide +kernel), TBi 278 (by decide +kernel) (by decide +kernel), TBi 1 (by decide +kernel) (by decide +kernel), by decide +kernel⟩, TBi 277 (by decide +kernel) (by decide +kernel), TBs 3 (by decide +kernel) (by decide +kernel)⟩
theorem mf_V_129 : MF R_V 129 y_V_arrive b_V_arrive 5 none 4 ∧ Cond.instanceMethod y_V_arrive ∈ TB ∧ Cond.selects y_V_arrive.cls y_V_arrive y_V_arrive ∈ TB := ⟨⟨TBi 279 (by decide +kernel) (by decide +kernel), TBi 282 (by decide +kernel) (by decide +kernel), TBi 1 (by decide +kernel) (by decide +kernel), by decide +kernel⟩, TBi 281 (by decide +kernel) (by decide +kernel), TBs 4 (by decide +kernel) (by decide +kernel)⟩
theorem mf_V_215 : MF R_V 215 y_L_add b_L_add 2 none 1 ∧ Cond.instanceMethod y_L_add ∈ TB ∧ Cond.selects y_L_add.cls y_L_add y_L_add ∈ TB := ⟨⟨TBi 283 (by decide +kernel) (by decide +kernel), TBi 286 (by decide +kernel) (by decide +kernel), TBi 5 (by decide +kernel) (by decide +kernel), by decide +kernel⟩, TBi 284 (by decide +kernel) (by decide +kernel), TBi 285 (by decide +kernel) (by decide +kernel)⟩
theorem mf_V_218 : MF R_V 218 y_V_takeAck b_V_takeAck 3 none 2 ∧ Cond.instanceMethod y_V_takeAck ∈ TB ∧ Cond.selects y_V_takeAck.cls y_V_takeAck y_V_takeAck ∈ TB := ⟨⟨TBi 287 (by decide +kernel) (by decide +kernel), TBi 290 (by decide +kernel) (by decide +kernel), TBi 1 (by decide +kernel) (by decide +kernel), by decide +kernel⟩, TBi 289 (by decide +kernel) (by decide +kernel), TBs 5 (by decide +kernel) (by decide +kernel)⟩
theorem mf_V_222 : MF R_V 222 y_V_takeFromMap b_V_takeFromMap 3 none 2 ∧ Cond.instanceMethod y_V_takeFromMap ∈ TB ∧ Cond.selects y_V_takeFromMap.cls y_V_takeFromMap y_V_takeFromMap ∈ TB := ⟨⟨TBi 291 (by decide +kernel) (by decide +kernel), TBi 294 (by decide +kernel) (by decide +kernel), TBi 1 (by decide +kernel) (by decide +kernel), by decide +kernel⟩, TBi 293 (by decide +kernel) (by decide +kernel), TBs 6 (by decide +kernel) (by decide +kernel)⟩
theorem mf_V_228 : MF R_V 228 y_V_end b_V_end 2 none 1 ∧ Cond.instanceMethod y_V_end ∈ TB ∧ Cond.selects y_V_end.cls y_V_end y_V_end ∈ TB := ⟨⟨TBi 295 (by decide +kernel) (by decide +kernel), TBi 298 (by decide +kernel) (by decide +kernel), TBi 1 (by decide +kernel) (by decide +kernel), by decide +kernel⟩, TBi 297 (by decide +kernel) (by decide +kernel), TBs 7 (by decide +kernel) (by decide +kernel)⟩
theorem mf_V_185 : MF R_V 185 y_T_changeFates b_T_changeFates 5 none 3 ∧ Cond.instanceMethod y_T_changeFates ∈ TB ∧ Cond.selects y_T_changeFates.cls y_T_changeFates y_T_changeFates ∈ TB := ⟨⟨TBi 299 (by decide +kernel) (by decide +kernel), TBi 302 (by decide +kernel) (by decide +kernel), TBi 6 (by decide +kernel) (by decide +kernel), by decide +kernel⟩, TBi 300 (by decide +kernel) (by decide +kernel), TBi 301 (by decide +kernel) (by decide +kernel)⟩
theorem mf_V_225 : MF R_V 225 y_N_takeFinish b_N_takeFinish 2 none 1 ∧ Cond.instanceMethod y_N_takeFinish ∈ TB ∧ Cond.selects y_N_takeFinish.cls y_N_takeFinish y_N_takeFinish ∈ TB := ⟨⟨TBi 303 (by decide +kernel) (by decide +kernel), TBi 306 (by decide +kernel) (by decide +kernel), TBi 2 (by decide +kernel) (by decide +kernel), by decide +kernel⟩, TBi 304 (by decide +kernel) (by decide +kernel), TBi 305 (by decide +kernel) (by decide +kernel)⟩
theorem mf_W_28 : MF R_W 28 y_V_store b_V_store 6 (some .int) 2 ∧ Cond.instanceMethod y_V_store ∈ TB ∧ Cond.selects y_V_store.cls y_V_store y_V_store ∈ TB := ⟨⟨TBi 307 (by decide +kernel) (by decide +kernel), TBi 310 (by decide +kernel) (by decide +kernel), TBi 1 (by decide +kernel) (by decide +kernel), by decide +kernel⟩, TBi 308 (by decide +kernel) (by decide +kernel), TBi 309 (by decide +kernel) (by decide +kernel)⟩
theorem mf_V_140 : MF R_V 140 y_L_numberAt b_L_numberAt 2 (some .int) 1 ∧ Cond.instanceMethod y_L_numberAt ∈ TB ∧ Cond.selects y_L_numberAt.cls y_L_numberAt y_L_numberAt ∈ TB := ⟨⟨TBi 311 (by decide +kernel) (by decide +kernel), TBi 314 (by decide +kernel) (by decide +kernel), TBi 5 (by decide +kernel) (by decide +kernel), by decide +kernel⟩, TBi 312 (by decide +kernel) (by decide +kernel), TBi 313 (by decide +kernel) (by decide +kernel)⟩
theorem mf_V_146 : MF R_V 146 y_L_remove b_L_remove 3 none 1 ∧ Cond.instanceMethod y_L_remove ∈ TB ∧ Cond.selects y_L_remove.cls y_L_remove y_L_remove ∈ TB := ⟨⟨TBi 315 (by decide +kernel) (by decide +kernel), TBi 318 (by decide +kernel) (by decide +kernel), TBi 5 (by decide +kernel) (by decide +kernel), by decide +kernel⟩, TBi 316 (by decide +kernel) (by decide +kernel), TBi 317 (by decide +kernel) (by decide +kernel)⟩
theorem mf_W_33 : MF R_W 33 y_V_copy b_V_copy 4 (some .int) 1 ∧ Cond.instanceMethod y_V_copy ∈ TB ∧ Cond.selects y_V_copy.cls y_V_copy y_V_copy ∈ TB := ⟨⟨TBi 319 (by decide +kernel) (by decide +kernel), TBi 322 (by decide +kernel) (by decide +kernel), TBi 1 (by decide +kernel) (by decide +kernel), by decide +kernel⟩, TBi 320 (by decide +kernel) (by decide +kernel), TBi 321 (by decide +kernel) (by decide +kernel)⟩
theorem mf_V_161 : MF R_V 161 y_I_bitCount b_I_bitCount 1 (some .int) 1 ∧ Cond.static y_I_bitCount ∈ TB := ⟨⟨TBi 323 (by decide +kernel) (by decide +kernel), TBi 325 (by decide +kernel) (by decide +kernel), TBi 8 (by decide +kernel) (by decide +kernel), by decide +kernel⟩, TBi 324 (by decide +kernel) (by decide +kernel)⟩
theorem kc_I_265 : Cond.constant R_I 265 1431655765 ∈ TB := TBi 326 (by decide +kernel) (by decide +kernel)
theorem kc_I_266 : Cond.constant R_I 266 858993459 ∈ TB := TBi 327 (by decide +kernel) (by decide +kernel)
theorem kc_I_267 : Cond.constant R_I 267 252645135 ∈ TB := TBi 328 (by decide +kernel) (by decide +kernel)
theorem mf_V_169 : MF R_V 169 y_V_leastBlock b_V_leastBlock 2 (some .int) 1 ∧ Cond.static y_V_leastBlock ∈ TB := ⟨⟨TBi 329 (by decide +kernel) (by decide +kernel), TBi 331 (by decide +kernel) (by decide +kernel), TBi 1 (by decide +kernel) (by decide +kernel), by decide +kernel⟩, TBi 330 (by decide +kernel) (by decide +kernel)⟩
theorem mf_W_37 : MF R_W 37 y_V_connect b_V_connect 2 (some .int) 0 ∧ Cond.instanceMethod y_V_connect ∈ TB ∧ Cond.selects y_V_connect.cls y_V_connect y_V_connect ∈ TB := ⟨⟨TBi 332 (by decide +kernel) (by decide +kernel), TBi 335 (by decide +kernel) (by decide +kernel), TBi 1 (by decide +kernel) (by decide +kernel), by decide +kernel⟩, TBi 333 (by decide +kernel) (by decide +kernel), TBi 334 (by decide +kernel) (by decide +kernel)⟩
theorem mf_V_172 : MF R_V 172 y_V_wentDifferentWays b_V_wentDifferentWays 1 (some .boolean) 0 ∧ Cond.instanceMethod y_V_wentDifferentWays ∈ TB ∧ Cond.selects y_V_wentDifferentWays.cls y_V_wentDifferentWays y_V_wentDifferentWays ∈ TB := ⟨⟨TBi 336 (by decide +kernel) (by decide +kernel), TBi 339 (by decide +kernel) (by decide +kernel), TBi 1 (by decide +kernel) (by decide +kernel), by decide +kernel⟩, TBi 338 (by decide +kernel) (by decide +kernel), TBs 8 (by decide +kernel) (by decide +kernel)⟩
theorem mf_V_175 : MF R_V 175 y_V_chooseSource b_V_chooseSource 1 (some .int) 0 ∧ Cond.instanceMethod y_V_chooseSource ∈ TB ∧ Cond.selects y_V_chooseSource.cls y_V_chooseSource y_V_chooseSource ∈ TB := ⟨⟨TBi 340 (by decide +kernel) (by decide +kernel), TBi 343 (by decide +kernel) (by decide +kernel), TBi 1 (by decide +kernel) (by decide +kernel), by decide +kernel⟩, TBi 342 (by decide +kernel) (by decide +kernel), TBs 9 (by decide +kernel) (by decide +kernel)⟩
theorem mf_V_178 : MF R_V 178 y_V_beginUpdate b_V_beginUpdate 4 none 2 ∧ Cond.instanceMethod y_V_beginUpdate ∈ TB ∧ Cond.selects y_V_beginUpdate.cls y_V_beginUpdate y_V_beginUpdate ∈ TB := ⟨⟨TBi 344 (by decide +kernel) (by decide +kernel), TBi 347 (by decide +kernel) (by decide +kernel), TBi 1 (by decide +kernel) (by decide +kernel), by decide +kernel⟩, TBi 346 (by decide +kernel) (by decide +kernel), TBs 10 (by decide +kernel) (by decide +kernel)⟩
theorem mf_W_42 : MF R_W 42 y_V_cut b_V_cut 1 (some .boolean) 0 ∧ Cond.instanceMethod y_V_cut ∈ TB ∧ Cond.selects y_V_cut.cls y_V_cut y_V_cut ∈ TB := ⟨⟨TBi 348 (by decide +kernel) (by decide +kernel), TBi 351 (by decide +kernel) (by decide +kernel), TBi 1 (by decide +kernel) (by decide +kernel), by decide +kernel⟩, TBi 349 (by decide +kernel) (by decide +kernel), TBi 350 (by decide +kernel) (by decide +kernel)⟩
theorem mf_V_182 : MF R_V 182 y_V_breakLink b_V_breakLink 2 none 0 ∧ Cond.instanceMethod y_V_breakLink ∈ TB ∧ Cond.selects y_V_breakLink.cls y_V_breakLink y_V_breakLink ∈ TB := ⟨⟨TBi 352 (by decide +kernel) (by decide +kernel), TBi 355 (by decide +kernel) (by decide +kernel), TBi 1 (by decide +kernel) (by decide +kernel), by decide +kernel⟩, TBi 354 (by decide +kernel) (by decide +kernel), TBs 11 (by decide +kernel) (by decide +kernel)⟩
theorem mf_V_238 : MF R_V 238 y_N_leaveLink b_N_leaveLink 1 none 0 ∧ Cond.instanceMethod y_N_leaveLink ∈ TB ∧ Cond.selects y_N_leaveLink.cls y_N_leaveLink y_N_leaveLink ∈ TB := ⟨⟨TBi 356 (by decide +kernel) (by decide +kernel), TBi 359 (by decide +kernel) (by decide +kernel), TBi 2 (by decide +kernel) (by decide +kernel), by decide +kernel⟩, TBi 357 (by decide +kernel) (by decide +kernel), TBi 358 (by decide +kernel) (by decide +kernel)⟩
theorem mf_W_47 : MF R_W 47 y_V_crash b_V_crash 3 (some .boolean) 1 ∧ Cond.instanceMethod y_V_crash ∈ TB ∧ Cond.selects y_V_crash.cls y_V_crash y_V_crash ∈ TB := ⟨⟨TBi 360 (by decide +kernel) (by decide +kernel), TBi 363 (by decide +kernel) (by decide +kernel), TBi 1 (by decide +kernel) (by decide +kernel), by decide +kernel⟩, TBi 361 (by decide +kernel) (by decide +kernel), TBi 362 (by decide +kernel) (by decide +kernel)⟩
theorem mf_W_51 : MF R_W 51 y_V_restart b_V_restart 3 (some .boolean) 1 ∧ Cond.instanceMethod y_V_restart ∈ TB ∧ Cond.selects y_V_restart.cls y_V_restart y_V_restart ∈ TB := ⟨⟨TBi 364 (by decide +kernel) (by decide +kernel), TBi 367 (by decide +kernel) (by decide +kernel), TBi 1 (by decide +kernel) (by decide +kernel), by decide +kernel⟩, TBi 365 (by decide +kernel) (by decide +kernel), TBi 366 (by decide +kernel) (by decide +kernel)⟩
theorem mf_V_191 : MF R_V 191 y_E_allBlocks b_E_allBlocks 3 (some .int) 0 ∧ Cond.instanceMethod y_E_allBlocks ∈ TB ∧ Cond.selects y_E_allBlocks.cls y_E_allBlocks y_E_allBlocks ∈ TB := ⟨⟨TBi 368 (by decide +kernel) (by decide +kernel), TBi 371 (by decide +kernel) (by decide +kernel), TBi 3 (by decide +kernel) (by decide +kernel), by decide +kernel⟩, TBi 369 (by decide +kernel) (by decide +kernel), TBi 370 (by decide +kernel) (by decide +kernel)⟩
theorem mf_W_55 : MF R_W 55 y_V_promote b_V_promote 3 (some .int) 1 ∧ Cond.instanceMethod y_V_promote ∈ TB ∧ Cond.selects y_V_promote.cls y_V_promote y_V_promote ∈ TB := ⟨⟨TBi 372 (by decide +kernel) (by decide +kernel), TBi 375 (by decide +kernel) (by decide +kernel), TBi 1 (by decide +kernel) (by decide +kernel), by decide +kernel⟩, TBi 373 (by decide +kernel) (by decide +kernel), TBi 374 (by decide +kernel) (by decide +kernel)⟩
theorem mf_W_59 : MF R_W 59 y_V_demote b_V_demote 3 (some .int) 1 ∧ Cond.instanceMethod y_V_demote ∈ TB ∧ Cond.selects y_V_demote.cls y_V_demote y_V_demote ∈ TB := ⟨⟨TBi 376 (by decide +kernel) (by decide +kernel), TBi 379 (by decide +kernel) (by decide +kernel), TBi 1 (by decide +kernel) (by decide +kernel), by decide +kernel⟩, TBi 377 (by decide +kernel) (by decide +kernel), TBi 378 (by decide +kernel) (by decide +kernel)⟩
theorem mf_W_63 : MF R_W 63 y_V_discard b_V_discard 3 (some .boolean) 1 ∧ Cond.instanceMethod y_V_discard ∈ TB ∧ Cond.selects y_V_discard.cls y_V_discard y_V_discard ∈ TB := ⟨⟨TBi 380 (by decide +kernel) (by decide +kernel), TBi 383 (by decide +kernel) (by decide +kernel), TBi 1 (by decide +kernel) (by decide +kernel), by decide +kernel⟩, TBi 381 (by decide +kernel) (by decide +kernel), TBi 382 (by decide +kernel) (by decide +kernel)⟩
theorem mf_W_67 : MF R_W 67 y_V_disk b_V_disk 3 (some .int) 2 ∧ Cond.instanceMethod y_V_disk ∈ TB ∧ Cond.selects y_V_disk.cls y_V_disk y_V_disk ∈ TB := ⟨⟨TBi 384 (by decide +kernel) (by decide +kernel), TBi 387 (by decide +kernel) (by decide +kernel), TBi 1 (by decide +kernel) (by decide +kernel), by decide +kernel⟩, TBi 385 (by decide +kernel) (by decide +kernel), TBi 386 (by decide +kernel) (by decide +kernel)⟩
theorem mf_W_71 : MF R_W 71 y_V_fate b_V_fate 2 (some .int) 1 ∧ Cond.instanceMethod y_V_fate ∈ TB ∧ Cond.selects y_V_fate.cls y_V_fate y_V_fate ∈ TB := ⟨⟨TBi 388 (by decide +kernel) (by decide +kernel), TBi 391 (by decide +kernel) (by decide +kernel), TBi 1 (by decide +kernel) (by decide +kernel), by decide +kernel⟩, TBi 389 (by decide +kernel) (by decide +kernel), TBi 390 (by decide +kernel) (by decide +kernel)⟩
theorem mf_V_203 : MF R_V 203 y_T_has b_T_has 2 (some .boolean) 1 ∧ Cond.instanceMethod y_T_has ∈ TB ∧ Cond.selects y_T_has.cls y_T_has y_T_has ∈ TB := ⟨⟨TBi 392 (by decide +kernel) (by decide +kernel), TBi 395 (by decide +kernel) (by decide +kernel), TBi 6 (by decide +kernel) (by decide +kernel), by decide +kernel⟩, TBi 393 (by decide +kernel) (by decide +kernel), TBi 394 (by decide +kernel) (by decide +kernel)⟩
theorem mf_W_75 : MF R_W 75 y_V_state b_V_state 4 (some .int) 1 ∧ Cond.instanceMethod y_V_state ∈ TB ∧ Cond.selects y_V_state.cls y_V_state y_V_state ∈ TB := ⟨⟨TBi 396 (by decide +kernel) (by decide +kernel), TBi 399 (by decide +kernel) (by decide +kernel), TBi 1 (by decide +kernel) (by decide +kernel), by decide +kernel⟩, TBi 397 (by decide +kernel) (by decide +kernel), TBi 398 (by decide +kernel) (by decide +kernel)⟩
theorem mf_W_79 : MF R_W 79 y_V_generation b_V_generation 2 (some .long) 1 ∧ Cond.instanceMethod y_V_generation ∈ TB ∧ Cond.selects y_V_generation.cls y_V_generation y_V_generation ∈ TB := ⟨⟨TBi 400 (by decide +kernel) (by decide +kernel), TBi 403 (by decide +kernel) (by decide +kernel), TBi 1 (by decide +kernel) (by decide +kernel), by decide +kernel⟩, TBi 401 (by decide +kernel) (by decide +kernel), TBi 402 (by decide +kernel) (by decide +kernel)⟩
theorem mf_W_84 : MF R_W 84 y_V_map b_V_map 2 (some .int) 1 ∧ Cond.instanceMethod y_V_map ∈ TB ∧ Cond.selects y_V_map.cls y_V_map y_V_map ∈ TB := ⟨⟨TBi 404 (by decide +kernel) (by decide +kernel), TBi 407 (by decide +kernel) (by decide +kernel), TBi 1 (by decide +kernel) (by decide +kernel), by decide +kernel⟩, TBi 405 (by decide +kernel) (by decide +kernel), TBi 406 (by decide +kernel) (by decide +kernel)⟩
theorem mf_W_88 : MF R_W 88 y_V_log b_V_log 3 (some .int) 2 ∧ Cond.instanceMethod y_V_log ∈ TB ∧ Cond.selects y_V_log.cls y_V_log y_V_log ∈ TB := ⟨⟨TBi 408 (by decide +kernel) (by decide +kernel), TBi 411 (by decide +kernel) (by decide +kernel), TBi 1 (by decide +kernel) (by decide +kernel), by decide +kernel⟩, TBi 409 (by decide +kernel) (by decide +kernel), TBi 410 (by decide +kernel) (by decide +kernel)⟩
theorem mf_V_212 : MF R_V 212 y_E_extentAt b_E_extentAt 2 (some .int) 1 ∧ Cond.instanceMethod y_E_extentAt ∈ TB ∧ Cond.selects y_E_extentAt.cls y_E_extentAt y_E_extentAt ∈ TB := ⟨⟨TBi 412 (by decide +kernel) (by decide +kernel), TBi 415 (by decide +kernel) (by decide +kernel), TBi 3 (by decide +kernel) (by decide +kernel), by decide +kernel⟩, TBi 413 (by decide +kernel) (by decide +kernel), TBi 414 (by decide +kernel) (by decide +kernel)⟩
theorem mf_W_92 : MF R_W 92 y_V_traffic b_V_traffic 3 (some .int) 1 ∧ Cond.instanceMethod y_V_traffic ∈ TB ∧ Cond.selects y_V_traffic.cls y_V_traffic y_V_traffic ∈ TB := ⟨⟨TBi 416 (by decide +kernel) (by decide +kernel), TBi 419 (by decide +kernel) (by decide +kernel), TBi 1 (by decide +kernel) (by decide +kernel), by decide +kernel⟩, TBi 417 (by decide +kernel) (by decide +kernel), TBi 418 (by decide +kernel) (by decide +kernel)⟩
theorem nf_W_10 : NF R_W 10 6 28 [0, 1, 1, 1, 1, 1, 1, 1, 1, 1, 1, 0, 1, 1, 0, 1, 1, 1, 1, 1, 1, 1, 1, 0, 1, 1, 1, 1] := ⟨R_M, T_M, ty_M, rfl, inT_M, tyok_M, TBi 420 (by decide +kernel) (by decide +kernel), TBi 421 (by decide +kernel) (by decide +kernel), TBi 7 (by decide +kernel) (by decide +kernel), by decide +kernel⟩
theorem mf_W_12 : MF R_W 12 y_M_init b_M_init 2 none 0 ∧ y_M_init.name = "<init>" ∧ Cond.instanceMethod y_M_init ∈ TB := ⟨⟨TBi 422 (by decide +kernel) (by decide +kernel), TBi 424 (by decide +kernel) (by decide +kernel), TBi 7 (by decide +kernel) (by decide +kernel), by decide +kernel⟩, rfl, TBi 423 (by decide +kernel) (by decide +kernel)⟩
theorem fg_M_87 : FG R_M 87 6 0 := ⟨R_M, T_M, 28, rfl, by decide, inT_M, TBi 426 (by decide +kernel) (by decide +kernel)⟩
theorem fp_M_87 : FP R_M 87 6 0 .int := ⟨R_M, T_M, 28, ty_M, rfl, by decide, inT_M, TBi 426 (by decide +kernel) (by decide +kernel), tyok_M, nm_M, rfl, by decide +kernel⟩
theorem fg_M_7 : FG R_M 7 6 1 := ⟨R_M, T_M, 28, rfl, by decide, inT_M, TBi 427 (by decide +kernel) (by decide +kernel)⟩
theorem fr_M_7 : FR R_M 7 6 1 (.array .int) := ⟨R_M, T_M, 28, ty_M, rfl, by decide, inT_M, TBi 427 (by decide +kernel) (by decide +kernel), tyok_M, nm_M, rfl, rfl, by decide +kernel⟩
theorem fg_M_13 : FG R_M 13 6 2 := ⟨R_M, T_M, 28, rfl, by decide, inT_M, TBi 428 (by decide +kernel) (by decide +kernel)⟩
theorem fr_M_13 : FR R_M 13 6 2 (.array .int) := ⟨R_M, T_M, 28, ty_M, rfl, by decide, inT_M, TBi 428 (by decide +kernel) (by decide +kernel), tyok_M, nm_M, rfl, rfl, by decide +kernel⟩
theorem fg_M_16 : FG R_M 16 6 3 := ⟨R_M, T_M, 28, rfl, by decide, inT_M, TBi 429 (by decide +kernel) (by decide +kernel)⟩
theorem fr_M_16 : FR R_M 16 6 3 (.array .int) := ⟨R_M, T_M, 28, ty_M, rfl, by decide, inT_M, TBi 429 (by decide +kernel) (by decide +kernel), tyok_M, nm_M, rfl, rfl, by decide +kernel⟩
theorem fg_M_19 : FG R_M 19 6 4 := ⟨R_M, T_M, 28, rfl, by decide, inT_M, TBi 430 (by decide +kernel) (by decide +kernel)⟩
theorem fr_M_19 : FR R_M 19 6 4 (.array .int) := ⟨R_M, T_M, 28, ty_M, rfl, by decide, inT_M, TBi 430 (by decide +kernel) (by decide +kernel), tyok_M, nm_M, rfl, rfl, by decide +kernel⟩
theorem fg_M_22 : FG R_M 22 6 5 := ⟨R_M, T_M, 28, rfl, by decide, inT_M, TBi 431 (by decide +kernel) (by decide +kernel)⟩
theorem fr_M_22 : FR R_M 22 6 5 (.array .int) := ⟨R_M, T_M, 28, ty_M, rfl, by decide, inT_M, TBi 431 (by decide +kernel) (by decide +kernel), tyok_M, nm_M, rfl, rfl, by decide +kernel⟩
theorem fg_M_25 : FG R_M 25 6 6 := ⟨R_M, T_M, 28, rfl, by decide, inT_M, TBi 432 (by decide +kernel) (by decide +kernel)⟩
theorem fr_M_25 : FR R_M 25 6 6 (.array .boolean) := ⟨R_M, T_M, 28, ty_M, rfl, by decide, inT_M, TBi 432 (by decide +kernel) (by decide +kernel), tyok_M, nm_M, rfl, rfl, by decide +kernel⟩
theorem fg_M_29 : FG R_M 29 6 7 := ⟨R_M, T_M, 28, rfl, by decide, inT_M, TBi 433 (by decide +kernel) (by decide +kernel)⟩
theorem fr_M_29 : FR R_M 29 6 7 (.array .int) := ⟨R_M, T_M, 28, ty_M, rfl, by decide, inT_M, TBi 433 (by decide +kernel) (by decide +kernel), tyok_M, nm_M, rfl, rfl, by decide +kernel⟩
theorem fg_M_32 : FG R_M 32 6 8 := ⟨R_M, T_M, 28, rfl, by decide, inT_M, TBi 434 (by decide +kernel) (by decide +kernel)⟩
theorem fr_M_32 : FR R_M 32 6 8 (.array .boolean) := ⟨R_M, T_M, 28, ty_M, rfl, by decide, inT_M, TBi 434 (by decide +kernel) (by decide +kernel), tyok_M, nm_M, rfl, rfl, by decide +kernel⟩
theorem fg_M_35 : FG R_M 35 6 9 := ⟨R_M, T_M, 28, rfl, by decide, inT_M, TBi 435 (by decide +kernel) (by decide +kernel)⟩
theorem fr_M_35 : FR R_M 35 6 9 (.array .boolean) := ⟨R_M, T_M, 28, ty_M, rfl, by decide, inT_M, TBi 435 (by decide +kernel) (by decide +kernel), tyok_M, nm_M, rfl, rfl, by decide +kernel⟩
theorem fg_M_38 : FG R_M 38 6 10 := ⟨R_M, T_M, 28, rfl, by decide, inT_M, TBi 436 (by decide +kernel) (by decide +kernel)⟩
theorem fr_M_38 : FR R_M 38 6 10 (.array .int) := ⟨R_M, T_M, 28, ty_M, rfl, by decide, inT_M, TBi 436 (by decide +kernel) (by decide +kernel), tyok_M, nm_M, rfl, rfl, by decide +kernel⟩
theorem fg_M_130 : FG R_M 130 6 11 := ⟨R_M, T_M, 28, rfl, by decide, inT_M, TBi 437 (by decide +kernel) (by decide +kernel)⟩
theorem fp_M_130 : FP R_M 130 6 11 .int := ⟨R_M, T_M, 28, ty_M, rfl, by decide, inT_M, TBi 437 (by decide +kernel) (by decide +kernel), tyok_M, nm_M, rfl, by decide +kernel⟩
theorem fg_M_41 : FG R_M 41 6 12 := ⟨R_M, T_M, 28, rfl, by decide, inT_M, TBi 438 (by decide +kernel) (by decide +kernel)⟩
theorem fr_M_41 : FR R_M 41 6 12 (.array .int) := ⟨R_M, T_M, 28, ty_M, rfl, by decide, inT_M, TBi 438 (by decide +kernel) (by decide +kernel), tyok_M, nm_M, rfl, rfl, by decide +kernel⟩
theorem fg_M_44 : FG R_M 44 6 13 := ⟨R_M, T_M, 28, rfl, by decide, inT_M, TBi 439 (by decide +kernel) (by decide +kernel)⟩
theorem fr_M_44 : FR R_M 44 6 13 (.array .int) := ⟨R_M, T_M, 28, ty_M, rfl, by decide, inT_M, TBi 439 (by decide +kernel) (by decide +kernel), tyok_M, nm_M, rfl, rfl, by decide +kernel⟩
theorem fg_M_47 : FG R_M 47 6 14 := ⟨R_M, T_M, 28, rfl, by decide, inT_M, TBi 440 (by decide +kernel) (by decide +kernel)⟩
theorem fp_M_47 : FP R_M 47 6 14 .int := ⟨R_M, T_M, 28, ty_M, rfl, by decide, inT_M, TBi 440 (by decide +kernel) (by decide +kernel), tyok_M, nm_M, rfl, by decide +kernel⟩
theorem fg_M_51 : FG R_M 51 6 15 := ⟨R_M, T_M, 28, rfl, by decide, inT_M, TBi 441 (by decide +kernel) (by decide +kernel)⟩
theorem fr_M_51 : FR R_M 51 6 15 (.array .boolean) := ⟨R_M, T_M, 28, ty_M, rfl, by decide, inT_M, TBi 441 (by decide +kernel) (by decide +kernel), tyok_M, nm_M, rfl, rfl, by decide +kernel⟩
theorem fg_M_54 : FG R_M 54 6 16 := ⟨R_M, T_M, 28, rfl, by decide, inT_M, TBi 442 (by decide +kernel) (by decide +kernel)⟩
theorem fr_M_54 : FR R_M 54 6 16 (.array .boolean) := ⟨R_M, T_M, 28, ty_M, rfl, by decide, inT_M, TBi 442 (by decide +kernel) (by decide +kernel), tyok_M, nm_M, rfl, rfl, by decide +kernel⟩
theorem fg_M_57 : FG R_M 57 6 17 := ⟨R_M, T_M, 28, rfl, by decide, inT_M, TBi 443 (by decide +kernel) (by decide +kernel)⟩
theorem fr_M_57 : FR R_M 57 6 17 (.array .boolean) := ⟨R_M, T_M, 28, ty_M, rfl, by decide, inT_M, TBi 443 (by decide +kernel) (by decide +kernel), tyok_M, nm_M, rfl, rfl, by decide +kernel⟩
theorem fg_M_60 : FG R_M 60 6 18 := ⟨R_M, T_M, 28, rfl, by decide, inT_M, TBi 444 (by decide +kernel) (by decide +kernel)⟩
theorem fr_M_60 : FR R_M 60 6 18 (.array .boolean) := ⟨R_M, T_M, 28, ty_M, rfl, by decide, inT_M, TBi 444 (by decide +kernel) (by decide +kernel), tyok_M, nm_M, rfl, rfl, by decide +kernel⟩
theorem fg_M_63 : FG R_M 63 6 19 := ⟨R_M, T_M, 28, rfl, by decide, inT_M, TBi 445 (by decide +kernel) (by decide +kernel)⟩
theorem fr_M_63 : FR R_M 63 6 19 (.array .boolean) := ⟨R_M, T_M, 28, ty_M, rfl, by decide, inT_M, TBi 445 (by decide +kernel) (by decide +kernel), tyok_M, nm_M, rfl, rfl, by decide +kernel⟩
theorem fg_M_66 : FG R_M 66 6 20 := ⟨R_M, T_M, 28, rfl, by decide, inT_M, TBi 446 (by decide +kernel) (by decide +kernel)⟩
theorem fr_M_66 : FR R_M 66 6 20 (.array .boolean) := ⟨R_M, T_M, 28, ty_M, rfl, by decide, inT_M, TBi 446 (by decide +kernel) (by decide +kernel), tyok_M, nm_M, rfl, rfl, by decide +kernel⟩
theorem fg_M_69 : FG R_M 69 6 21 := ⟨R_M, T_M, 28, rfl, by decide, inT_M, TBi 447 (by decide +kernel) (by decide +kernel)⟩
theorem fr_M_69 : FR R_M 69 6 21 (.array .boolean) := ⟨R_M, T_M, 28, ty_M, rfl, by decide, inT_M, TBi 447 (by decide +kernel) (by decide +kernel), tyok_M, nm_M, rfl, rfl, by decide +kernel⟩
theorem fg_M_72 : FG R_M 72 6 22 := ⟨R_M, T_M, 28, rfl, by decide, inT_M, TBi 448 (by decide +kernel) (by decide +kernel)⟩
theorem fr_M_72 : FR R_M 72 6 22 (.array .int) := ⟨R_M, T_M, 28, ty_M, rfl, by decide, inT_M, TBi 448 (by decide +kernel) (by decide +kernel), tyok_M, nm_M, rfl, rfl, by decide +kernel⟩
theorem fg_M_109 : FG R_M 109 6 23 := ⟨R_M, T_M, 28, rfl, by decide, inT_M, TBi 449 (by decide +kernel) (by decide +kernel)⟩
theorem fp_M_109 : FP R_M 109 6 23 .boolean := ⟨R_M, T_M, 28, ty_M, rfl, by decide, inT_M, TBi 449 (by decide +kernel) (by decide +kernel), tyok_M, nm_M, rfl, by decide +kernel⟩
theorem fg_M_75 : FG R_M 75 6 24 := ⟨R_M, T_M, 28, rfl, by decide, inT_M, TBi 450 (by decide +kernel) (by decide +kernel)⟩
theorem fr_M_75 : FR R_M 75 6 24 (.array .int) := ⟨R_M, T_M, 28, ty_M, rfl, by decide, inT_M, TBi 450 (by decide +kernel) (by decide +kernel), tyok_M, nm_M, rfl, rfl, by decide +kernel⟩
theorem fg_M_78 : FG R_M 78 6 25 := ⟨R_M, T_M, 28, rfl, by decide, inT_M, TBi 451 (by decide +kernel) (by decide +kernel)⟩
theorem fr_M_78 : FR R_M 78 6 25 (.array .int) := ⟨R_M, T_M, 28, ty_M, rfl, by decide, inT_M, TBi 451 (by decide +kernel) (by decide +kernel), tyok_M, nm_M, rfl, rfl, by decide +kernel⟩
theorem fg_M_81 : FG R_M 81 6 26 := ⟨R_M, T_M, 28, rfl, by decide, inT_M, TBi 452 (by decide +kernel) (by decide +kernel)⟩
theorem fr_M_81 : FR R_M 81 6 26 (.array .int) := ⟨R_M, T_M, 28, ty_M, rfl, by decide, inT_M, TBi 452 (by decide +kernel) (by decide +kernel), tyok_M, nm_M, rfl, rfl, by decide +kernel⟩
theorem fg_M_84 : FG R_M 84 6 27 := ⟨R_M, T_M, 28, rfl, by decide, inT_M, TBi 453 (by decide +kernel) (by decide +kernel)⟩
theorem fr_M_84 : FR R_M 84 6 27 (.array .int) := ⟨R_M, T_M, 28, ty_M, rfl, by decide, inT_M, TBi 453 (by decide +kernel) (by decide +kernel), tyok_M, nm_M, rfl, rfl, by decide +kernel⟩
theorem ka_boolean : Cond.arrayClass .boolean ∈ TB := TBi 511 (by decide +kernel) (by decide +kernel)
theorem mf_W_17 : MF R_W 17 y_M_write b_M_write 7 (some .int) 3 ∧ Cond.instanceMethod y_M_write ∈ TB ∧ Cond.selects y_M_write.cls y_M_write y_M_write ∈ TB := ⟨⟨TBi 512 (by decide +kernel) (by decide +kernel), TBi 515 (by decide +kernel) (by decide +kernel), TBi 7 (by decide +kernel) (by decide +kernel), by decide +kernel⟩, TBi 513 (by decide +kernel) (by decide +kernel), TBi 514 (by decide +kernel) (by decide +kernel)⟩
theorem mf_M_117 : MF R_M 117 y_M_isNode b_M_isNode 1 (some .boolean) 1 ∧ Cond.static y_M_isNode ∈ TB := ⟨⟨TBi 516 (by decide +kernel) (by decide +kernel), TBi 518 (by decide +kernel) (by decide +kernel), TBi 7 (by decide +kernel) (by decide +kernel), by decide +kernel⟩, TBi 517 (by decide +kernel) (by decide +kernel)⟩
theorem mf_M_120 : MF R_M 120 y_M_isBlock b_M_isBlock 1 (some .boolean) 1 ∧ Cond.static y_M_isBlock ∈ TB := ⟨⟨TBi 519 (by decide +kernel) (by decide +kernel), TBi 521 (by decide +kernel) (by decide +kernel), TBi 7 (by decide +kernel) (by decide +kernel), by decide +kernel⟩, TBi 520 (by decide +kernel) (by decide +kernel)⟩
theorem mf_M_90 : MF R_M 90 y_M_pending b_M_pending 6 (some .int) 3 ∧ Cond.instanceMethod y_M_pending ∈ TB ∧ Cond.selects y_M_pending.cls y_M_pending y_M_pending ∈ TB := ⟨⟨TBi 522 (by decide +kernel) (by decide +kernel), TBi 525 (by decide +kernel) (by decide +kernel), TBi 7 (by decide +kernel) (by decide +kernel), by decide +kernel⟩, TBi 524 (by decide +kernel) (by decide +kernel), TBs 12 (by decide +kernel) (by decide +kernel)⟩
theorem mf_M_123 : MF R_M 123 y_M_inLog b_M_inLog 4 (some .int) 1 ∧ Cond.instanceMethod y_M_inLog ∈ TB ∧ Cond.selects y_M_inLog.cls y_M_inLog y_M_inLog ∈ TB := ⟨⟨TBi 526 (by decide +kernel) (by decide +kernel), TBi 529 (by decide +kernel) (by decide +kernel), TBi 7 (by decide +kernel) (by decide +kernel), by decide +kernel⟩, TBi 528 (by decide +kernel) (by decide +kernel), TBs 13 (by decide +kernel) (by decide +kernel)⟩
theorem mf_M_127 : MF R_M 127 y_M_idle b_M_idle 4 (some .int) 1 ∧ Cond.instanceMethod y_M_idle ∈ TB ∧ Cond.selects y_M_idle.cls y_M_idle y_M_idle ∈ TB := ⟨⟨TBi 530 (by decide +kernel) (by decide +kernel), TBi 533 (by decide +kernel) (by decide +kernel), TBi 7 (by decide +kernel) (by decide +kernel), by decide +kernel⟩, TBi 532 (by decide +kernel) (by decide +kernel), TBs 14 (by decide +kernel) (by decide +kernel)⟩
theorem mf_M_105 : MF R_M 105 y_M_send b_M_send 6 none 4 ∧ Cond.instanceMethod y_M_send ∈ TB ∧ Cond.selects y_M_send.cls y_M_send y_M_send ∈ TB := ⟨⟨TBi 534 (by decide +kernel) (by decide +kernel), TBi 537 (by decide +kernel) (by decide +kernel), TBi 7 (by decide +kernel) (by decide +kernel), by decide +kernel⟩, TBi 536 (by decide +kernel) (by decide +kernel), TBs 15 (by decide +kernel) (by decide +kernel)⟩
theorem mf_M_113 : MF R_M 113 y_M_alone b_M_alone 3 none 1 ∧ Cond.instanceMethod y_M_alone ∈ TB ∧ Cond.selects y_M_alone.cls y_M_alone y_M_alone ∈ TB := ⟨⟨TBi 538 (by decide +kernel) (by decide +kernel), TBi 541 (by decide +kernel) (by decide +kernel), TBi 7 (by decide +kernel) (by decide +kernel), by decide +kernel⟩, TBi 540 (by decide +kernel) (by decide +kernel), TBs 16 (by decide +kernel) (by decide +kernel)⟩
theorem mf_W_22 : MF R_W 22 y_M_barrier b_M_barrier 2 (some .boolean) 1 ∧ Cond.instanceMethod y_M_barrier ∈ TB ∧ Cond.selects y_M_barrier.cls y_M_barrier y_M_barrier ∈ TB := ⟨⟨TBi 542 (by decide +kernel) (by decide +kernel), TBi 545 (by decide +kernel) (by decide +kernel), TBi 7 (by decide +kernel) (by decide +kernel), by decide +kernel⟩, TBi 543 (by decide +kernel) (by decide +kernel), TBi 544 (by decide +kernel) (by decide +kernel)⟩
theorem mf_W_27 : MF R_W 27 y_M_deliver b_M_deliver 7 (some .int) 1 ∧ Cond.instanceMethod y_M_deliver ∈ TB ∧ Cond.selects y_M_deliver.cls y_M_deliver y_M_deliver ∈ TB := ⟨⟨TBi 546 (by decide +kernel) (by decide +kernel), TBi 549 (by decide +kernel) (by decide +kernel), TBi 7 (by decide +kernel) (by decide +kernel), by decide +kernel⟩, TBi 547 (by decide +kernel) (by decide +kernel), TBi 548 (by decide +kernel) (by decide +kernel)⟩
theorem mf_M_133 : MF R_M 133 y_M_arrive b_M_arrive 6 none 4 ∧ Cond.instanceMethod y_M_arrive ∈ TB ∧ Cond.selects y_M_arrive.cls y_M_arrive y_M_arrive ∈ TB := ⟨⟨TBi 550 (by decide +kernel) (by decide +kernel), TBi 553 (by decide +kernel) (by decide +kernel), TBi 7 (by decide +kernel) (by decide +kernel), by decide +kernel⟩, TBi 552 (by decide +kernel) (by decide +kernel), TBs 17 (by decide +kernel) (by decide +kernel)⟩
theorem mf_M_136 : MF R_M 136 y_M_endIfEmpty b_M_endIfEmpty 2 none 1 ∧ Cond.instanceMethod y_M_endIfEmpty ∈ TB ∧ Cond.selects y_M_endIfEmpty.cls y_M_endIfEmpty y_M_endIfEmpty ∈ TB := ⟨⟨TBi 554 (by decide +kernel) (by decide +kernel), TBi 557 (by decide +kernel) (by decide +kernel), TBi 7 (by decide +kernel) (by decide +kernel), by decide +kernel⟩, TBi 556 (by decide +kernel) (by decide +kernel), TBs 18 (by decide +kernel) (by decide +kernel)⟩
theorem mf_M_97 : MF R_M 97 y_M_nothingInMap b_M_nothingInMap 4 (some .boolean) 1 ∧ Cond.instanceMethod y_M_nothingInMap ∈ TB ∧ Cond.selects y_M_nothingInMap.cls y_M_nothingInMap y_M_nothingInMap ∈ TB := ⟨⟨TBi 558 (by decide +kernel) (by decide +kernel), TBi 561 (by decide +kernel) (by decide +kernel), TBi 7 (by decide +kernel) (by decide +kernel), by decide +kernel⟩, TBi 560 (by decide +kernel) (by decide +kernel), TBs 19 (by decide +kernel) (by decide +kernel)⟩
theorem mf_M_101 : MF R_M 101 y_M_turnInto b_M_turnInto 5 none 3 ∧ Cond.instanceMethod y_M_turnInto ∈ TB ∧ Cond.selects y_M_turnInto.cls y_M_turnInto y_M_turnInto ∈ TB := ⟨⟨TBi 562 (by decide +kernel) (by decide +kernel), TBi 565 (by decide +kernel) (by decide +kernel), TBi 7 (by decide +kernel) (by decide +kernel), by decide +kernel⟩, TBi 564 (by decide +kernel) (by decide +kernel), TBs 20 (by decide +kernel) (by decide +kernel)⟩
theorem mf_W_32 : MF R_W 32 y_M_store b_M_store 6 (some .int) 2 ∧ Cond.instanceMethod y_M_store ∈ TB ∧ Cond.selects y_M_store.cls y_M_store y_M_store ∈ TB := ⟨⟨TBi 566 (by decide +kernel) (by decide +kernel), TBi 569 (by decide +kernel) (by decide +kernel), TBi 7 (by decide +kernel) (by decide +kernel), by decide +kernel⟩, TBi 567 (by decide +kernel) (by decide +kernel), TBi 568 (by decide +kernel) (by decide +kernel)⟩
theorem mf_W_36 : MF R_W 36 y_M_copy b_M_copy 3 (some .int) 1 ∧ Cond.instanceMethod y_M_copy ∈ TB ∧ Cond.selects y_M_copy.cls y_M_copy y_M_copy ∈ TB := ⟨⟨TBi 570 (by decide +kernel) (by decide +kernel), TBi 573 (by decide +kernel) (by decide +kernel), TBi 7 (by decide +kernel) (by decide +kernel), by decide +kernel⟩, TBi 571 (by decide +kernel) (by decide +kernel), TBi 572 (by decide +kernel) (by decide +kernel)⟩
theorem mf_M_139 : MF R_M 139 y_M_underWay b_M_underWay 3 (some .int) 2 ∧ Cond.instanceMethod y_M_underWay ∈ TB ∧ Cond.selects y_M_underWay.cls y_M_underWay y_M_underWay ∈ TB := ⟨⟨TBi 574 (by decide +kernel) (by decide +kernel), TBi 577 (by decide +kernel) (by decide +kernel), TBi 7 (by decide +kernel) (by decide +kernel), by decide +kernel⟩, TBi 576 (by decide +kernel) (by decide +kernel), TBs 21 (by decide +kernel) (by decide +kernel)⟩
theorem mf_M_94 : MF R_M 94 y_M_onTheWay b_M_onTheWay 6 (some .int) 3 ∧ Cond.instanceMethod y_M_onTheWay ∈ TB ∧ Cond.selects y_M_onTheWay.cls y_M_onTheWay y_M_onTheWay ∈ TB := ⟨⟨TBi 578 (by decide +kernel) (by decide +kernel), TBi 581 (by decide +kernel) (by decide +kernel), TBi 7 (by decide +kernel) (by decide +kernel), by decide +kernel⟩, TBi 580 (by decide +kernel) (by decide +kernel), TBs 22 (by decide +kernel) (by decide +kernel)⟩
theorem mf_W_41 : MF R_W 41 y_M_connect b_M_connect 5 (some .int) 0 ∧ Cond.instanceMethod y_M_connect ∈ TB ∧ Cond.selects y_M_connect.cls y_M_connect y_M_connect ∈ TB := ⟨⟨TBi 582 (by decide +kernel) (by decide +kernel), TBi 585 (by decide +kernel) (by decide +kernel), TBi 7 (by decide +kernel) (by decide +kernel), by decide +kernel⟩, TBi 583 (by decide +kernel) (by decide +kernel), TBi 584 (by decide +kernel) (by decide +kernel)⟩
theorem mf_M_143 : MF R_M 143 y_M_chosen b_M_chosen 1 (some .int) 0 ∧ Cond.instanceMethod y_M_chosen ∈ TB ∧ Cond.selects y_M_chosen.cls y_M_chosen y_M_chosen ∈ TB := ⟨⟨TBi 586 (by decide +kernel) (by decide +kernel), TBi 589 (by decide +kernel) (by decide +kernel), TBi 7 (by decide +kernel) (by decide +kernel), by decide +kernel⟩, TBi 588 (by decide +kernel) (by decide +kernel), TBs 23 (by decide +kernel) (by decide +kernel)⟩
theorem mf_W_46 : MF R_W 46 y_M_cut b_M_cut 1 (some .boolean) 0 ∧ Cond.instanceMethod y_M_cut ∈ TB ∧ Cond.selects y_M_cut.cls y_M_cut y_M_cut ∈ TB := ⟨⟨TBi 590 (by decide +kernel) (by decide +kernel), TBi 593 (by decide +kernel) (by decide +kernel), TBi 7 (by decide +kernel) (by decide +kernel), by decide +kernel⟩, TBi 591 (by decide +kernel) (by decide +kernel), TBi 592 (by decide +kernel) (by decide +kernel)⟩
theorem mf_M_147 : MF R_M 147 y_M_breakLink b_M_breakLink 2 none 0 ∧ Cond.instanceMethod y_M_breakLink ∈ TB ∧ Cond.selects y_M_breakLink.cls y_M_breakLink y_M_breakLink ∈ TB := ⟨⟨TBi 594 (by decide +kernel) (by decide +kernel), TBi 597 (by decide +kernel) (by decide +kernel), TBi 7 (by decide +kernel) (by decide +kernel), by decide +kernel⟩, TBi 596 (by decide +kernel) (by decide +kernel), TBs 24 (by decide +kernel) (by decide +kernel)⟩
theorem mf_W_50 : MF R_W 50 y_M_crash b_M_crash 2 (some .boolean) 1 ∧ Cond.instanceMethod y_M_crash ∈ TB ∧ Cond.selects y_M_crash.cls y_M_crash y_M_crash ∈ TB := ⟨⟨TBi 598 (by decide +kernel) (by decide +kernel), TBi 601 (by decide +kernel) (by decide +kernel), TBi 7 (by decide +kernel) (by decide +kernel), by decide +kernel⟩, TBi 599 (by decide +kernel) (by decide +kernel), TBi 600 (by decide +kernel) (by decide +kernel)⟩
theorem mf_W_54 : MF R_W 54 y_M_restart b_M_restart 3 (some .boolean) 1 ∧ Cond.instanceMethod y_M_restart ∈ TB ∧ Cond.selects y_M_restart.cls y_M_restart y_M_restart ∈ TB := ⟨⟨TBi 602 (by decide +kernel) (by decide +kernel), TBi 605 (by decide +kernel) (by decide +kernel), TBi 7 (by decide +kernel) (by decide +kernel), by decide +kernel⟩, TBi 603 (by decide +kernel) (by decide +kernel), TBi 604 (by decide +kernel) (by decide +kernel)⟩
theorem mf_W_58 : MF R_W 58 y_M_promote b_M_promote 2 (some .int) 1 ∧ Cond.instanceMethod y_M_promote ∈ TB ∧ Cond.selects y_M_promote.cls y_M_promote y_M_promote ∈ TB := ⟨⟨TBi 606 (by decide +kernel) (by decide +kernel), TBi 609 (by decide +kernel) (by decide +kernel), TBi 7 (by decide +kernel) (by decide +kernel), by decide +kernel⟩, TBi 607 (by decide +kernel) (by decide +kernel), TBi 608 (by decide +kernel) (by decide +kernel)⟩
theorem mf_W_62 : MF R_W 62 y_M_demote b_M_demote 2 (some .int) 1 ∧ Cond.instanceMethod y_M_demote ∈ TB ∧ Cond.selects y_M_demote.cls y_M_demote y_M_demote ∈ TB := ⟨⟨TBi 610 (by decide +kernel) (by decide +kernel), TBi 613 (by decide +kernel) (by decide +kernel), TBi 7 (by decide +kernel) (by decide +kernel), by decide +kernel⟩, TBi 611 (by decide +kernel) (by decide +kernel), TBi 612 (by decide +kernel) (by decide +kernel)⟩
theorem mf_W_66 : MF R_W 66 y_M_discard b_M_discard 3 (some .boolean) 1 ∧ Cond.instanceMethod y_M_discard ∈ TB ∧ Cond.selects y_M_discard.cls y_M_discard y_M_discard ∈ TB := ⟨⟨TBi 614 (by decide +kernel) (by decide +kernel), TBi 617 (by decide +kernel) (by decide +kernel), TBi 7 (by decide +kernel) (by decide +kernel), by decide +kernel⟩, TBi 615 (by decide +kernel) (by decide +kernel), TBi 616 (by decide +kernel) (by decide +kernel)⟩
theorem mf_W_70 : MF R_W 70 y_M_disk b_M_disk 3 (some .int) 2 ∧ Cond.instanceMethod y_M_disk ∈ TB ∧ Cond.selects y_M_disk.cls y_M_disk y_M_disk ∈ TB := ⟨⟨TBi 618 (by decide +kernel) (by decide +kernel), TBi 621 (by decide +kernel) (by decide +kernel), TBi 7 (by decide +kernel) (by decide +kernel), by decide +kernel⟩, TBi 619 (by decide +kernel) (by decide +kernel), TBi 620 (by decide +kernel) (by decide +kernel)⟩
theorem mf_W_74 : MF R_W 74 y_M_fate b_M_fate 2 (some .int) 1 ∧ Cond.instanceMethod y_M_fate ∈ TB ∧ Cond.selects y_M_fate.cls y_M_fate y_M_fate ∈ TB := ⟨⟨TBi 622 (by decide +kernel) (by decide +kernel), TBi 625 (by decide +kernel) (by decide +kernel), TBi 7 (by decide +kernel) (by decide +kernel), by decide +kernel⟩, TBi 623 (by decide +kernel) (by decide +kernel), TBi 624 (by decide +kernel) (by decide +kernel)⟩
theorem mf_W_78 : MF R_W 78 y_M_state b_M_state 3 (some .int) 1 ∧ Cond.instanceMethod y_M_state ∈ TB ∧ Cond.selects y_M_state.cls y_M_state y_M_state ∈ TB := ⟨⟨TBi 626 (by decide +kernel) (by decide +kernel), TBi 629 (by decide +kernel) (by decide +kernel), TBi 7 (by decide +kernel) (by decide +kernel), by decide +kernel⟩, TBi 627 (by decide +kernel) (by decide +kernel), TBi 628 (by decide +kernel) (by decide +kernel)⟩
theorem mf_W_83 : MF R_W 83 y_M_generation b_M_generation 2 (some .long) 1 ∧ Cond.instanceMethod y_M_generation ∈ TB ∧ Cond.selects y_M_generation.cls y_M_generation y_M_generation ∈ TB := ⟨⟨TBi 630 (by decide +kernel) (by decide +kernel), TBi 633 (by decide +kernel) (by decide +kernel), TBi 7 (by decide +kernel) (by decide +kernel), by decide +kernel⟩, TBi 631 (by decide +kernel) (by decide +kernel), TBi 632 (by decide +kernel) (by decide +kernel)⟩
theorem kc_M_150 : Cond.constantLong R_M 150 4294967296 ∈ TB := TBi 634 (by decide +kernel) (by decide +kernel)
theorem mf_W_87 : MF R_W 87 y_M_map b_M_map 4 (some .int) 1 ∧ Cond.instanceMethod y_M_map ∈ TB ∧ Cond.selects y_M_map.cls y_M_map y_M_map ∈ TB := ⟨⟨TBi 635 (by decide +kernel) (by decide +kernel), TBi 638 (by decide +kernel) (by decide +kernel), TBi 7 (by decide +kernel) (by decide +kernel), by decide +kernel⟩, TBi 636 (by decide +kernel) (by decide +kernel), TBi 637 (by decide +kernel) (by decide +kernel)⟩
theorem mf_W_91 : MF R_W 91 y_M_log b_M_log 6 (some .int) 2 ∧ Cond.instanceMethod y_M_log ∈ TB ∧ Cond.selects y_M_log.cls y_M_log y_M_log ∈ TB := ⟨⟨TBi 639 (by decide +kernel) (by decide +kernel), TBi 642 (by decide +kernel) (by decide +kernel), TBi 7 (by decide +kernel) (by decide +kernel), by decide +kernel⟩, TBi 640 (by decide +kernel) (by decide +kernel), TBi 641 (by decide +kernel) (by decide +kernel)⟩
theorem mf_W_95 : MF R_W 95 y_M_traffic b_M_traffic 4 (some .int) 1 ∧ Cond.instanceMethod y_M_traffic ∈ TB ∧ Cond.selects y_M_traffic.cls y_M_traffic y_M_traffic ∈ TB := ⟨⟨TBi 643 (by decide +kernel) (by decide +kernel), TBi 646 (by decide +kernel) (by decide +kernel), TBi 7 (by decide +kernel) (by decide +kernel), by decide +kernel⟩, TBi 644 (by decide +kernel) (by decide +kernel), TBi 645 (by decide +kernel) (by decide +kernel)⟩
end
section
def B_V_isNode (fz : Nat) (x0 : Int32) (h : HH) : Int32 := if x0 = 0 then ((1 : Int32)) else (if x0 = (1 : Int32) then ((1 : Int32)) else ((0 : Int32)))
def P_V_isNode (fz : Nat) (x0 : Int32) (h : HH) : Prop := (x0 = 0 → (True)) ∧ (¬ x0 = 0 → ((x0 = (1 : Int32) → (True)) ∧ (¬ x0 = (1 : Int32) → (True))))
def B_V_isBlock (fz : Nat) (x0 : Int32) (h : HH) : Int32 := if x0 < 0 then ((0 : Int32)) else (if (32 : Int32) ≤ x0 then ((0 : Int32)) else ((1 : Int32)))
def P_V_isBlock (fz : Nat) (x0 : Int32) (h : HH) : Prop := (x0 < 0 → (True)) ∧ (¬ x0 < 0 → (((32 : Int32) ≤ x0 → (True)) ∧ (¬ (32 : Int32) ≤ x0 → (True))))
def B_V_nodeOf (fz : Nat) (x1 : Int32) (h : HH) : Nat := if x1 = 0 then (1) else (11)
def P_V_nodeOf (fz : Nat) (x1 : Int32) (h : HH) : Prop := (x1 = 0 → (True)) ∧ (¬ x1 = 0 → (True))
def B_T_isFull (fz : Nat)  (h : HH) : Int32 := if (h 21 5) < (300 : Int32) then ((0 : Int32)) else ((1 : Int32))
def P_T_isFull (fz : Nat)  (h : HH) : Prop := ((h 21 5) < (300 : Int32) → (True)) ∧ (¬ (h 21 5) < (300 : Int32) → (True))
def B_T_isPendingOf (fz : Nat) (x1 : Int32) (x2 : Int32) (h : HH) : Int32 := if (h 22 (ix x2)) = x1 then (if (h 26 (ix x2)) = (1 : Int32) then ((1 : Int32)) else ((0 : Int32))) else ((0 : Int32))
def P_T_isPendingOf (fz : Nat) (x1 : Int32) (x2 : Int32) (h : HH) : Prop := vp_in x2 301 ∧ (((h 22 (ix x2)) = x1 → (vp_in x2 301 ∧ (((h 26 (ix x2)) = (1 : Int32) → (True)) ∧ (¬ (h 26 (ix x2)) = (1 : Int32) → (True))))) ∧ (¬ (h 22 (ix x2)) = x1 → (True)))
def B_T_countPending_4 (fz : Nat) : Nat → Int32 → Int32 → Int32 → HH → Int32
  | 0, _, _, _, _ => 0
  | fu + 1, x1, x2, x3, h => if (h 21 5) < x3 then (x2) else (if (B_T_isPendingOf fz x1 x3 h) = 0 then (B_T_countPending_4 fz fu x1 x2 (x3 + 1) h) else (B_T_countPending_4 fz fu x1 (x2 + 1) (x3 + 1) h))
def P_T_countPending_4 (fz : Nat) : Nat → Int32 → Int32 → Int32 → HH → Prop
  | 0, _, _, _, _ => False
  | fu + 1, x1, x2, x3, h => ((h 21 5) < x3 → (True)) ∧ (¬ (h 21 5) < x3 → (P_T_isPendingOf fz x1 x3 h ∧ (((B_T_isPendingOf fz x1 x3 h) = 0 → (P_T_countPending_4 fz fu x1 x2 (x3 + 1) h)) ∧ (¬ (B_T_isPendingOf fz x1 x3 h) = 0 → (P_T_countPending_4 fz fu x1 (x2 + 1) (x3 + 1) h)))))
def B_T_countPending (fz : Nat) (x1 : Int32) (h : HH) : Int32 := B_T_countPending_4 fz fz x1 (0 : Int32) (1 : Int32) h
def P_T_countPending (fz : Nat) (x1 : Int32) (h : HH) : Prop := P_T_countPending_4 fz fz x1 (0 : Int32) (1 : Int32) h
def B_T_pendingBlocks_4 (fz : Nat) : Nat → Int32 → Int32 → Int32 → HH → Int32
  | 0, _, _, _, _ => 0
  | fu + 1, x1, x2, x3, h => if (h 21 5) < x3 then (x2) else (if (B_T_isPendingOf fz x1 x3 h) = 0 then (B_T_pendingBlocks_4 fz fu x1 x2 (x3 + 1) h) else (B_T_pendingBlocks_4 fz fu x1 (x2 ||| ((1 : Int32) <<< ((h 23 (ix x3)) &&& 31))) (x3 + 1) h))
def P_T_pendingBlocks_4 (fz : Nat) : Nat → Int32 → Int32 → Int32 → HH → Prop
  | 0, _, _, _, _ => False
  | fu + 1, x1, x2, x3, h => ((h 21 5) < x3 → (True)) ∧ (¬ (h 21 5) < x3 → (P_T_isPendingOf fz x1 x3 h ∧ (((B_T_isPendingOf fz x1 x3 h) = 0 → (P_T_pendingBlocks_4 fz fu x1 x2 (x3 + 1) h)) ∧ (¬ (B_T_isPendingOf fz x1 x3 h) = 0 → (vp_in x3 301 ∧ (P_T_pendingBlocks_4 fz fu x1 (x2 ||| ((1 : Int32) <<< ((h 23 (ix x3)) &&& 31))) (x3 + 1) h))))))
def B_T_pendingBlocks (fz : Nat) (x1 : Int32) (h : HH) : Int32 := B_T_pendingBlocks_4 fz fz x1 (0 : Int32) (1 : Int32) h
def P_T_pendingBlocks (fz : Nat) (x1 : Int32) (h : HH) : Prop := P_T_pendingBlocks_4 fz fz x1 (0 : Int32) (1 : Int32) h
def B_V_blocksOfExtent (fz : Nat) (x0 : Int32) (h : HH) : Int32 := ((15 : Int32) <<< ((x0 * (4 : Int32)) &&& 31))
def P_V_blocksOfExtent (fz : Nat) (x0 : Int32) (h : HH) : Prop := True
def B_E_placeFor_48 (fz : Nat) : Nat → Nat → Int32 → Int32 → HH → Int32
  | 0, _, _, _, _ => 0
  | fu + 1, i0, x2, x3, h => if x3 < 0 then ((-1 : Int32)) else (if ((B_V_blocksOfExtent fz (h (i0 + 3) (ix x3)) h) &&& x2) = 0 then (x3) else (B_E_placeFor_48 fz fu i0 x2 (x3 + (-1)) h))
def P_E_placeFor_48 (fz : Nat) : Nat → Nat → Int32 → Int32 → HH → Prop
  | 0, _, _, _, _ => False
  | fu + 1, i0, x2, x3, h => (x3 < 0 → (True)) ∧ (¬ x3 < 0 → (vp_in x3 3 ∧ (P_V_blocksOfExtent fz (h (i0 + 3) (ix x3)) h ∧ ((((B_V_blocksOfExtent fz (h (i0 + 3) (ix x3)) h) &&& x2) = 0 → (True)) ∧ (¬ ((B_V_blocksOfExtent fz (h (i0 + 3) (ix x3)) h) &&& x2) = 0 → (P_E_placeFor_48 fz fu i0 x2 (x3 + (-1)) h))))))
def B_E_placeFor_2 (fz : Nat) : Nat → Nat → Int32 → Int32 → Int32 → HH → Int32
  | 0, _, _, _, _, _ => 0
  | fu + 1, i0, x1, x2, x3, h => if (h (i0 + 2) 1) ≤ x3 then (if (3 : Int32) ≤ (h (i0 + 2) 1) then (B_E_placeFor_48 fz fz i0 x2 ((h (i0 + 2) 1) - (1 : Int32)) h) else ((h (i0 + 2) 1))) else (if (h (i0 + 3) (ix x3)) = x1 then (x3) else (B_E_placeFor_2 fz fu i0 x1 x2 (x3 + 1) h))
def P_E_placeFor_2 (fz : Nat) : Nat → Nat → Int32 → Int32 → Int32 → HH → Prop
  | 0, _, _, _, _, _ => False
  | fu + 1, i0, x1, x2, x3, h => ((h (i0 + 2) 1) ≤ x3 → (((3 : Int32) ≤ (h (i0 + 2) 1) → (P_E_placeFor_48 fz fz i0 x2 ((h (i0 + 2) 1) - (1 : Int32)) h)) ∧ (¬ (3 : Int32) ≤ (h (i0 + 2) 1) → (True)))) ∧ (¬ (h (i0 + 2) 1) ≤ x3 → (vp_in x3 3 ∧ (((h (i0 + 3) (ix x3)) = x1 → (True)) ∧ (¬ (h (i0 + 3) (ix x3)) = x1 → (P_E_placeFor_2 fz fu i0 x1 x2 (x3 + 1) h)))))
def B_E_placeFor (fz : Nat) (i0 : Nat) (x1 : Int32) (x2 : Int32) (h : HH) : Int32 := B_E_placeFor_2 fz fz i0 x1 x2 (0 : Int32) h
def P_E_placeFor (fz : Nat) (i0 : Nat) (x1 : Int32) (x2 : Int32) (h : HH) : Prop := P_E_placeFor_2 fz fz i0 x1 x2 (0 : Int32) h
def B_E_putInFront_43 (fz : Nat) (i0 : Nat) (x2 : Int32) (h : HH) : HH := if x2 = (h (i0 + 2) 1) then ((u2 h (i0 + 2) 1 ((h (i0 + 2) 1) + (1 : Int32)))) else (h)
def P_E_putInFront_43 (fz : Nat) (i0 : Nat) (x2 : Int32) (h : HH) : Prop := (x2 = (h (i0 + 2) 1) → (True)) ∧ (¬ x2 = (h (i0 + 2) 1) → (True))
def B_E_putInFront_12 (fz : Nat) : Nat → Nat → Int32 → Int32 → Int32 → HH → HH
  | 0, _, _, _, _, h => h
  | fu + 1, i0, x1, x2, x3, h => if x3 ≤ 0 then (B_E_putInFront_43 fz i0 x2 (u2 h (i0 + 3) (ix (0 : Int32)) x1)) else (B_E_putInFront_12 fz fu i0 x1 x2 (x3 + (-1)) (u2 h (i0 + 3) (ix x3) (h (i0 + 3) (ix (x3 - (1 : Int32))))))
def P_E_putInFront_12 (fz : Nat) : Nat → Nat → Int32 → Int32 → Int32 → HH → Prop
  | 0, _, _, _, _, _ => False
  | fu + 1, i0, x1, x2, x3, h => (x3 ≤ 0 → (vp_in (0 : Int32) 3 ∧ (P_E_putInFront_43 fz i0 x2 (u2 h (i0 + 3) (ix (0 : Int32)) x1)))) ∧ (¬ x3 ≤ 0 → (vp_in (x3 - (1 : Int32)) 3 ∧ (vp_in x3 3 ∧ (P_E_putInFront_12 fz fu i0 x1 x2 (x3 + (-1)) (u2 h (i0 + 3) (ix x3) (h (i0 + 3) (ix (x3 - (1 : Int32)))))))))
def B_E_putInFront (fz : Nat) (i0 : Nat) (x1 : Int32) (x2 : Int32) (h : HH) : HH := if x2 < 0 then (h) else (if x2 < (3 : Int32) then (B_E_putInFront_12 fz fz i0 x1 x2 x2 h) else (h))
def P_E_putInFront (fz : Nat) (i0 : Nat) (x1 : Int32) (x2 : Int32) (h : HH) : Prop := (x2 < 0 → (True)) ∧ (¬ x2 < 0 → ((x2 < (3 : Int32) → (P_E_putInFront_12 fz fz i0 x1 x2 x2 h)) ∧ (¬ x2 < (3 : Int32) → (True))))
def B_V_hasBlock (fz : Nat) (x0 : Int32) (x1 : Int32) (h : HH) : Int32 := if ((((x0).toUInt32 >>> ((x1).toUInt32 &&& Int32.toUInt32 31)).toInt32) &&& (1 : Int32)) = 0 then ((0 : Int32)) else ((1 : Int32))
def P_V_hasBlock (fz : Nat) (x0 : Int32) (x1 : Int32) (h : HH) : Prop := (((((x0).toUInt32 >>> ((x1).toUInt32 &&& Int32.toUInt32 31)).toInt32) &&& (1 : Int32)) = 0 → (True)) ∧ (¬ ((((x0).toUInt32 >>> ((x1).toUInt32 &&& Int32.toUInt32 31)).toInt32) &&& (1 : Int32)) = 0 → (True))
def B_N_epochOfNextWrite_26 (fz : Nat) (i0 : Nat) (h : HH) : Int32 × HH := ((h i0 15), h)
def P_N_epochOfNextWrite_26 (fz : Nat) (i0 : Nat) (h : HH) : Prop := True
def B_N_epochOfNextWrite_21 (fz : Nat) (i0 : Nat) (h : HH) : Int32 × HH := B_N_epochOfNextWrite_26 fz i0 (u2 h i0 16 (0 : Int32))
def P_N_epochOfNextWrite_21 (fz : Nat) (i0 : Nat) (h : HH) : Prop := P_N_epochOfNextWrite_26 fz i0 (u2 h i0 16 (0 : Int32))
def B_N_epochOfNextWrite_11 (fz : Nat) (i0 : Nat) (h : HH) : Int32 × HH := B_N_epochOfNextWrite_21 fz i0 (u2 h i0 15 ((h i0 15) + (1 : Int32)))
def P_N_epochOfNextWrite_11 (fz : Nat) (i0 : Nat) (h : HH) : Prop := P_N_epochOfNextWrite_21 fz i0 (u2 h i0 15 ((h i0 15) + (1 : Int32)))
def B_N_epochOfNextWrite (fz : Nat) (i0 : Nat) (x1 : Int32) (h : HH) : Int32 × HH := if (h i0 16) = 0 then (if x1 = 0 then (B_N_epochOfNextWrite_21 fz i0 h) else (B_N_epochOfNextWrite_11 fz i0 h)) else (B_N_epochOfNextWrite_11 fz i0 h)
def P_N_epochOfNextWrite (fz : Nat) (i0 : Nat) (x1 : Int32) (h : HH) : Prop := ((h i0 16) = 0 → ((x1 = 0 → (P_N_epochOfNextWrite_21 fz i0 h)) ∧ (¬ x1 = 0 → (P_N_epochOfNextWrite_11 fz i0 h)))) ∧ (¬ (h i0 16) = 0 → (P_N_epochOfNextWrite_11 fz i0 h))
def B_T_accept_70 (fz : Nat)  (h : HH) : Int32 × HH := ((h 21 5), h)
def P_T_accept_70 (fz : Nat)  (h : HH) : Prop := True
def B_T_accept_60 (fz : Nat)  (h : HH) : Int32 × HH := B_T_accept_70 fz  (u2 h 26 (ix (h 21 5)) (1 : Int32))
def P_T_accept_60 (fz : Nat)  (h : HH) : Prop := vp_in (h 21 5) 301 ∧ (P_T_accept_70 fz  (u2 h 26 (ix (h 21 5)) (1 : Int32)))
def B_T_accept_49 (fz : Nat) (x4 : Int32) (h : HH) : Int32 × HH := B_T_accept_60 fz  (u2 h 25 (ix (h 21 5)) x4)
def P_T_accept_49 (fz : Nat) (x4 : Int32) (h : HH) : Prop := vp_in (h 21 5) 301 ∧ (P_T_accept_60 fz  (u2 h 25 (ix (h 21 5)) x4))
def B_T_accept_39 (fz : Nat) (x3 : Int32) (x4 : Int32) (h : HH) : Int32 × HH := B_T_accept_49 fz x4 (u2 h 24 (ix (h 21 5)) x3)
def P_T_accept_39 (fz : Nat) (x3 : Int32) (x4 : Int32) (h : HH) : Prop := vp_in (h 21 5) 301 ∧ (P_T_accept_49 fz x4 (u2 h 24 (ix (h 21 5)) x3))
def B_T_accept_29 (fz : Nat) (x2 : Int32) (x3 : Int32) (x4 : Int32) (h : HH) : Int32 × HH := B_T_accept_39 fz x3 x4 (u2 h 23 (ix (h 21 5)) x2)
def P_T_accept_29 (fz : Nat) (x2 : Int32) (x3 : Int32) (x4 : Int32) (h : HH) : Prop := vp_in (h 21 5) 301 ∧ (P_T_accept_39 fz x3 x4 (u2 h 23 (ix (h 21 5)) x2))
def B_T_accept_19 (fz : Nat) (x1 : Int32) (x2 : Int32) (x3 : Int32) (x4 : Int32) (h : HH) : Int32 × HH := B_T_accept_29 fz x2 x3 x4 (u2 h 22 (ix (h 21 5)) x1)
def P_T_accept_19 (fz : Nat) (x1 : Int32) (x2 : Int32) (x3 : Int32) (x4 : Int32) (h : HH) : Prop := vp_in (h 21 5) 301 ∧ (P_T_accept_29 fz x2 x3 x4 (u2 h 22 (ix (h 21 5)) x1))
def B_T_accept (fz : Nat) (x1 : Int32) (x2 : Int32) (x3 : Int32) (x4 : Int32) (h : HH) : Int32 × HH := if (B_T_isFull fz  h) = 0 then (B_T_accept_19 fz x1 x2 x3 x4 (u2 h 21 5 ((h 21 5) + (1 : Int32)))) else (((0 : Int32), h))
def P_T_accept (fz : Nat) (x1 : Int32) (x2 : Int32) (x3 : Int32) (x4 : Int32) (h : HH) : Prop := P_T_isFull fz  h ∧ (((B_T_isFull fz  h) = 0 → (P_T_accept_19 fz x1 x2 x3 x4 (u2 h 21 5 ((h 21 5) + (1 : Int32))))) ∧ (¬ (B_T_isFull fz  h) = 0 → (True)))
def B_O_send_48 (fz : Nat) (i0 : Nat) (h : HH) : HH := (u2 h (i0 + 4) 4 ((h (i0 + 4) 4) + (1 : Int32)))
def P_O_send_48 (fz : Nat) (i0 : Nat) (h : HH) : Prop := True
def B_O_send (fz : Nat) (i0 : Nat) (x1 : Int32) (x2 : Int32) (x3 : Int32) (h : HH) : HH := if (h (i0 + 4) 4) < (25 : Int32) then (B_O_send_48 fz i0 (u2 (u2 (u2 h (i0 + 5) (ix (((h (i0 + 4) 3) + (h (i0 + 4) 4)) - ((h (i0 + 4) 3) + (h (i0 + 4) 4)) / (25 : Int32) * (25 : Int32))) x1) (i0 + 6) (ix (((h (i0 + 4) 3) + (h (i0 + 4) 4)) - ((h (i0 + 4) 3) + (h (i0 + 4) 4)) / (25 : Int32) * (25 : Int32))) x2) (i0 + 7) (ix (((h (i0 + 4) 3) + (h (i0 + 4) 4)) - ((h (i0 + 4) 3) + (h (i0 + 4) 4)) / (25 : Int32) * (25 : Int32))) x3)) else (h)
def P_O_send (fz : Nat) (i0 : Nat) (x1 : Int32) (x2 : Int32) (x3 : Int32) (h : HH) : Prop := ((h (i0 + 4) 4) < (25 : Int32) → (vp_in (((h (i0 + 4) 3) + (h (i0 + 4) 4)) - ((h (i0 + 4) 3) + (h (i0 + 4) 4)) / (25 : Int32) * (25 : Int32)) 25 ∧ (vp_in (((h (i0 + 4) 3) + (h (i0 + 4) 4)) - ((h (i0 + 4) 3) + (h (i0 + 4) 4)) / (25 : Int32) * (25 : Int32)) 25 ∧ (vp_in (((h (i0 + 4) 3) + (h (i0 + 4) 4)) - ((h (i0 + 4) 3) + (h (i0 + 4) 4)) / (25 : Int32) * (25 : Int32)) 25 ∧ (P_O_send_48 fz i0 (u2 (u2 (u2 h (i0 + 5) (ix (((h (i0 + 4) 3) + (h (i0 + 4) 4)) - ((h (i0 + 4) 3) + (h (i0 + 4) 4)) / (25 : Int32) * (25 : Int32))) x1) (i0 + 6) (ix (((h (i0 + 4) 3) + (h (i0 + 4) 4)) - ((h (i0 + 4) 3) + (h (i0 + 4) 4)) / (25 : Int32) * (25 : Int32))) x2) (i0 + 7) (ix (((h (i0 + 4) 3) + (h (i0 + 4) 4)) - ((h (i0 + 4) 3) + (h (i0 + 4) 4)) / (25 : Int32) * (25 : Int32))) x3)))))) ∧ (¬ (h (i0 + 4) 4) < (25 : Int32) → (True))
def B_V_endUpAlone_69 (fz : Nat) (i2 : Nat) (h : HH) : HH := (u2 h i2 6 (h 0 4))
def P_V_endUpAlone_69 (fz : Nat) (i2 : Nat) (h : HH) : Prop := True
def B_V_endUpAlone_59 (fz : Nat) (i2 : Nat) (h : HH) : HH := B_V_endUpAlone_69 fz i2 (u2 h 0 4 ((h 0 4) + (1 : Int32)))
def P_V_endUpAlone_59 (fz : Nat) (i2 : Nat) (h : HH) : Prop := P_V_endUpAlone_69 fz i2 (u2 h 0 4 ((h 0 4) + (1 : Int32)))
def B_V_endUpAlone_44 (fz : Nat) (i2 : Nat) (h : HH) : HH := if (h i2 7) = 0 then (B_V_endUpAlone_59 fz i2 (u2 h i2 7 (h i2 6))) else (h)
def P_V_endUpAlone_44 (fz : Nat) (i2 : Nat) (h : HH) : Prop := ((h i2 7) = 0 → (P_V_endUpAlone_59 fz i2 (u2 h i2 7 (h i2 6)))) ∧ (¬ (h i2 7) = 0 → (True))
def B_V_endUpAlone_10 (fz : Nat) (x1 : Int32) (h : HH) : HH := B_V_endUpAlone_44 fz (B_V_nodeOf fz (h 22 (ix x1)) h) (u2 h (B_V_nodeOf fz (h 22 (ix x1)) h) 5 ((h (B_V_nodeOf fz (h 22 (ix x1)) h) 5) ||| ((1 : Int32) <<< ((h 23 (ix x1)) &&& 31))))
def P_V_endUpAlone_10 (fz : Nat) (x1 : Int32) (h : HH) : Prop := vp_in x1 301 ∧ (P_V_nodeOf fz (h 22 (ix x1)) h ∧ (vp_in x1 301 ∧ (P_V_endUpAlone_44 fz (B_V_nodeOf fz (h 22 (ix x1)) h) (u2 h (B_V_nodeOf fz (h 22 (ix x1)) h) 5 ((h (B_V_nodeOf fz (h 22 (ix x1)) h) 5) ||| ((1 : Int32) <<< ((h 23 (ix x1)) &&& 31)))))))
def B_V_endUpAlone (fz : Nat) (x1 : Int32) (h : HH) : HH := B_V_endUpAlone_10 fz x1 (u2 h 26 (ix x1) (3 : Int32))
def P_V_endUpAlone (fz : Nat) (x1 : Int32) (h : HH) : Prop := vp_in x1 301 ∧ (P_V_endUpAlone_10 fz x1 (u2 h 26 (ix x1) (3 : Int32)))
def B_V_write_154 (fz : Nat) (i4 : Nat) (y0 : Int32) (h : HH) : Int32 × HH := if (h 0 3) = 0 then ((y0, (B_V_endUpAlone fz y0 h))) else ((y0, (B_O_send fz i4 (1 : Int32) y0 (0 : Int32) h)))
def P_V_write_154 (fz : Nat) (i4 : Nat) (y0 : Int32) (h : HH) : Prop := ((h 0 3) = 0 → (P_V_endUpAlone fz y0 h ∧ (True))) ∧ (¬ (h 0 3) = 0 → (P_O_send fz i4 (1 : Int32) y0 (0 : Int32) h ∧ (True)))
def B_V_write_140 (fz : Nat) (x1 : Int32) (x2 : Int32) (x3 : Int32) (i4 : Nat) (y0 : Int32) (h : HH) : Int32 × HH := B_V_write_154 fz i4 (B_T_accept fz x1 x2 x3 y0 h).1 (B_T_accept fz x1 x2 x3 y0 h).2
def P_V_write_140 (fz : Nat) (x1 : Int32) (x2 : Int32) (x3 : Int32) (i4 : Nat) (y0 : Int32) (h : HH) : Prop := P_T_accept fz x1 x2 x3 y0 h ∧ (P_V_write_154 fz i4 (B_T_accept fz x1 x2 x3 y0 h).1 (B_T_accept fz x1 x2 x3 y0 h).2)
def B_V_write_129 (fz : Nat) (x1 : Int32) (x2 : Int32) (x3 : Int32) (i4 : Nat) (x6 : Int32) (h : HH) : Int32 × HH := B_V_write_140 fz x1 x2 x3 i4 (B_N_epochOfNextWrite fz i4 (B_V_hasBlock fz x6 x2 h) h).1 (B_N_epochOfNextWrite fz i4 (B_V_hasBlock fz x6 x2 h) h).2
def P_V_write_129 (fz : Nat) (x1 : Int32) (x2 : Int32) (x3 : Int32) (i4 : Nat) (x6 : Int32) (h : HH) : Prop := P_V_hasBlock fz x6 x2 h ∧ (P_N_epochOfNextWrite fz i4 (B_V_hasBlock fz x6 x2 h) h ∧ (P_V_write_140 fz x1 x2 x3 i4 (B_N_epochOfNextWrite fz i4 (B_V_hasBlock fz x6 x2 h) h).1 (B_N_epochOfNextWrite fz i4 (B_V_hasBlock fz x6 x2 h) h).2))
def B_V_write (fz : Nat) (x1 : Int32) (x2 : Int32) (x3 : Int32) (h : HH) : Int32 × HH := if (B_V_isNode fz x1 h) = 0 then (((-1 : Int32), h)) else (if (B_V_isBlock fz x2 h) = 0 then (((-1 : Int32), h)) else (if (h (B_V_nodeOf fz x1 h) 10) = 0 then (((-2 : Int32), h)) else (if (h (B_V_nodeOf fz x1 h) 11) = 0 then (((-3 : Int32), h)) else (if (B_T_isFull fz  h) = 0 then (if (B_T_countPending fz x1 h) < (8 : Int32) then (if (B_E_placeFor fz (B_V_nodeOf fz x1 h) (x2 / (4 : Int32)) (B_T_pendingBlocks fz x1 h) h) = (-1 : Int32) then (((-5 : Int32), h)) else (B_V_write_129 fz x1 x2 x3 (B_V_nodeOf fz x1 h) (B_T_pendingBlocks fz x1 h) (u2 (B_E_putInFront fz (B_V_nodeOf fz x1 h) (x2 / (4 : Int32)) (B_E_placeFor fz (B_V_nodeOf fz x1 h) (x2 / (4 : Int32)) (B_T_pendingBlocks fz x1 h) h) h) ((B_V_nodeOf fz x1 h) + 1) (ix x2) x3))) else (((-4 : Int32), h))) else (((-4 : Int32), h))))))
def P_V_write (fz : Nat) (x1 : Int32) (x2 : Int32) (x3 : Int32) (h : HH) : Prop := P_V_isNode fz x1 h ∧ (((B_V_isNode fz x1 h) = 0 → (True)) ∧ (¬ (B_V_isNode fz x1 h) = 0 → (P_V_isBlock fz x2 h ∧ (((B_V_isBlock fz x2 h) = 0 → (True)) ∧ (¬ (B_V_isBlock fz x2 h) = 0 → (P_V_nodeOf fz x1 h ∧ (((h (B_V_nodeOf fz x1 h) 10) = 0 → (True)) ∧ (¬ (h (B_V_nodeOf fz x1 h) 10) = 0 → (((h (B_V_nodeOf fz x1 h) 11) = 0 → (True)) ∧ (¬ (h (B_V_nodeOf fz x1 h) 11) = 0 → (P_T_isFull fz  h ∧ (((B_T_isFull fz  h) = 0 → (P_T_countPending fz x1 h ∧ (((B_T_countPending fz x1 h) < (8 : Int32) → (P_T_pendingBlocks fz x1 h ∧ (P_E_placeFor fz (B_V_nodeOf fz x1 h) (x2 / (4 : Int32)) (B_T_pendingBlocks fz x1 h) h ∧ (((B_E_placeFor fz (B_V_nodeOf fz x1 h) (x2 / (4 : Int32)) (B_T_pendingBlocks fz x1 h) h) = (-1 : Int32) → (True)) ∧ (¬ (B_E_placeFor fz (B_V_nodeOf fz x1 h) (x2 / (4 : Int32)) (B_T_pendingBlocks fz x1 h) h) = (-1 : Int32) → (P_E_putInFront fz (B_V_nodeOf fz x1 h) (x2 / (4 : Int32)) (B_E_placeFor fz (B_V_nodeOf fz x1 h) (x2 / (4 : Int32)) (B_T_pendingBlocks fz x1 h) h) h ∧ (vp_in x2 32 ∧ (P_V_write_129 fz x1 x2 x3 (B_V_nodeOf fz x1 h) (B_T_pendingBlocks fz x1 h) (u2 (B_E_putInFront fz (B_V_nodeOf fz x1 h) (x2 / (4 : Int32)) (B_E_placeFor fz (B_V_nodeOf fz x1 h) (x2 / (4 : Int32)) (B_T_pendingBlocks fz x1 h) h) h) ((B_V_nodeOf fz x1 h) + 1) (ix x2) x3))))))))) ∧ (¬ (B_T_countPending fz x1 h) < (8 : Int32) → (True))))) ∧ (¬ (B_T_isFull fz  h) = 0 → (True))))))))))))))
def B_V_barrier (fz : Nat) (x1 : Int32) (h : HH) : Int32 × HH := if (B_V_isNode fz x1 h) = 0 then (((0 : Int32), h)) else (if (h (B_V_nodeOf fz x1 h) 10) = 0 then (((0 : Int32), h)) else (if (h (B_V_nodeOf fz x1 h) 11) = 0 then (((0 : Int32), h)) else (((1 : Int32), (u2 h (B_V_nodeOf fz x1 h) 16 (1 : Int32))))))
def P_V_barrier (fz : Nat) (x1 : Int32) (h : HH) : Prop := P_V_isNode fz x1 h ∧ (((B_V_isNode fz x1 h) = 0 → (True)) ∧ (¬ (B_V_isNode fz x1 h) = 0 → (P_V_nodeOf fz x1 h ∧ (((h (B_V_nodeOf fz x1 h) 10) = 0 → (True)) ∧ (¬ (h (B_V_nodeOf fz x1 h) 10) = 0 → (((h (B_V_nodeOf fz x1 h) 11) = 0 → (True)) ∧ (¬ (h (B_V_nodeOf fz x1 h) 11) = 0 → (True))))))))
def B_O_kindOfFirst (fz : Nat) (i0 : Nat) (h : HH) : Int32 := (h (i0 + 5) (ix (h (i0 + 4) 3)))
def P_O_kindOfFirst (fz : Nat) (i0 : Nat) (h : HH) : Prop := vp_in (h (i0 + 4) 3) 25 ∧ (True)
def B_O_subjectOfFirst (fz : Nat) (i0 : Nat) (h : HH) : Int32 := (h (i0 + 6) (ix (h (i0 + 4) 3)))
def P_O_subjectOfFirst (fz : Nat) (i0 : Nat) (h : HH) : Prop := vp_in (h (i0 + 4) 3) 25 ∧ (True)
def B_O_valueOfFirst (fz : Nat) (i0 : Nat) (h : HH) : Int32 := (h (i0 + 7) (ix (h (i0 + 4) 3)))
def P_O_valueOfFirst (fz : Nat) (i0 : Nat) (h : HH) : Prop := vp_in (h (i0 + 4) 3) 25 ∧ (True)
def B_O_dropFirst_20 (fz : Nat) (i0 : Nat) (h : HH) : HH := (u2 h (i0 + 4) 4 ((h (i0 + 4) 4) - (1 : Int32)))
def P_O_dropFirst_20 (fz : Nat) (i0 : Nat) (h : HH) : Prop := True
def B_O_dropFirst (fz : Nat) (i0 : Nat) (h : HH) : HH := if (h (i0 + 4) 4) ≤ 0 then (h) else (B_O_dropFirst_20 fz i0 (u2 h (i0 + 4) 3 (((h (i0 + 4) 3) + (1 : Int32)) - ((h (i0 + 4) 3) + (1 : Int32)) / (25 : Int32) * (25 : Int32))))
def P_O_dropFirst (fz : Nat) (i0 : Nat) (h : HH) : Prop := ((h (i0 + 4) 4) ≤ 0 → (True)) ∧ (¬ (h (i0 + 4) 4) ≤ 0 → (P_O_dropFirst_20 fz i0 (u2 h (i0 + 4) 3 (((h (i0 + 4) 3) + (1 : Int32)) - ((h (i0 + 4) 3) + (1 : Int32)) / (25 : Int32) * (25 : Int32)))))
def B_V_peerOf (fz : Nat) (x1 : Int32) (h : HH) : Nat := if x1 = 0 then (11) else (1)
def P_V_peerOf (fz : Nat) (x1 : Int32) (h : HH) : Prop := (x1 = 0 → (True)) ∧ (¬ x1 = 0 → (True))
def B_L_add_19 (fz : Nat) (i0 : Nat) (h : HH) : HH := (u2 h (i0 + 8) 1 ((h (i0 + 8) 1) + (1 : Int32)))
def P_L_add_19 (fz : Nat) (i0 : Nat) (h : HH) : Prop := True
def B_L_add (fz : Nat) (i0 : Nat) (x1 : Int32) (h : HH) : HH := if (8 : Int32) ≤ (h (i0 + 8) 1) then (h) else (B_L_add_19 fz i0 (u2 h (i0 + 9) (ix (h (i0 + 8) 1)) x1))
def P_L_add (fz : Nat) (i0 : Nat) (x1 : Int32) (h : HH) : Prop := ((8 : Int32) ≤ (h (i0 + 8) 1) → (True)) ∧ (¬ (8 : Int32) ≤ (h (i0 + 8) 1) → (vp_in (h (i0 + 8) 1) 8 ∧ (P_L_add_19 fz i0 (u2 h (i0 + 9) (ix (h (i0 + 8) 1)) x1))))
def B_T_changeFates_3 (fz : Nat) : Nat → Int32 → Int32 → Int32 → Int32 → HH → HH
  | 0, _, _, _, _, h => h
  | fu + 1, x1, x2, x3, x4, h => if (h 21 5) < x4 then (h) else (if (h 22 (ix x4)) = x1 then (if (h 26 (ix x4)) = x2 then (B_T_changeFates_3 fz fu x1 x2 x3 (x4 + 1) (u2 h 26 (ix x4) x3)) else (B_T_changeFates_3 fz fu x1 x2 x3 (x4 + 1) h)) else (B_T_changeFates_3 fz fu x1 x2 x3 (x4 + 1) h))
def P_T_changeFates_3 (fz : Nat) : Nat → Int32 → Int32 → Int32 → Int32 → HH → Prop
  | 0, _, _, _, _, _ => False
  | fu + 1, x1, x2, x3, x4, h => ((h 21 5) < x4 → (True)) ∧ (¬ (h 21 5) < x4 → (vp_in x4 301 ∧ (((h 22 (ix x4)) = x1 → (vp_in x4 301 ∧ (((h 26 (ix x4)) = x2 → (vp_in x4 301 ∧ (P_T_changeFates_3 fz fu x1 x2 x3 (x4 + 1) (u2 h 26 (ix x4) x3)))) ∧ (¬ (h 26 (ix x4)) = x2 → (P_T_changeFates_3 fz fu x1 x2 x3 (x4 + 1) h))))) ∧ (¬ (h 22 (ix x4)) = x1 → (P_T_changeFates_3 fz fu x1 x2 x3 (x4 + 1) h)))))
def B_T_changeFates (fz : Nat) (x1 : Int32) (x2 : Int32) (x3 : Int32) (h : HH) : HH := B_T_changeFates_3 fz fz x1 x2 x3 (1 : Int32) h
def P_T_changeFates (fz : Nat) (x1 : Int32) (x2 : Int32) (x3 : Int32) (h : HH) : Prop := P_T_changeFates_3 fz fz x1 x2 x3 (1 : Int32) h
def B_V_end_28 (fz : Nat) (i1 : Nat) (h : HH) : HH := (B_O_send fz i1 (5 : Int32) (h i1 6) (0 : Int32) h)
def P_V_end_28 (fz : Nat) (i1 : Nat) (h : HH) : Prop := P_O_send fz i1 (5 : Int32) (h i1 6) (0 : Int32) h ∧ (True)
def B_V_end_15 (fz : Nat) (i1 : Nat) (h : HH) : HH := B_V_end_28 fz i1 (B_T_changeFates fz (h i1 0) (3 : Int32) (2 : Int32) h)
def P_V_end_15 (fz : Nat) (i1 : Nat) (h : HH) : Prop := P_T_changeFates fz (h i1 0) (3 : Int32) (2 : Int32) h ∧ (P_V_end_28 fz i1 (B_T_changeFates fz (h i1 0) (3 : Int32) (2 : Int32) h))
def B_V_end (fz : Nat) (i1 : Nat) (h : HH) : HH := B_V_end_15 fz i1 (u2 (u2 (u2 h i1 12 (0 : Int32)) i1 9 (0 : Int32)) i1 7 (0 : Int32))
def P_V_end (fz : Nat) (i1 : Nat) (h : HH) : Prop := P_V_end_15 fz i1 (u2 (u2 (u2 h i1 12 (0 : Int32)) i1 9 (0 : Int32)) i1 7 (0 : Int32))
def B_V_takeFromMap_14 (fz : Nat) (i1 : Nat) (h : HH) : HH := if (h i1 5) = 0 then ((B_V_end fz i1 h)) else (h)
def P_V_takeFromMap_14 (fz : Nat) (i1 : Nat) (h : HH) : Prop := ((h i1 5) = 0 → (P_V_end fz i1 h ∧ (True))) ∧ (¬ (h i1 5) = 0 → (True))
def B_V_takeFromMap (fz : Nat) (i1 : Nat) (x2 : Int32) (h : HH) : HH := B_V_takeFromMap_14 fz i1 (u2 h i1 5 ((h i1 5) &&& (((1 : Int32) <<< (x2 &&& 31)) ^^^ (-1 : Int32))))
def P_V_takeFromMap (fz : Nat) (i1 : Nat) (x2 : Int32) (h : HH) : Prop := P_V_takeFromMap_14 fz i1 (u2 h i1 5 ((h i1 5) &&& (((1 : Int32) <<< (x2 &&& 31)) ^^^ (-1 : Int32))))
def B_V_takeAck_10 (fz : Nat) (i1 : Nat) (x2 : Int32) (h : HH) : HH := if (h i1 12) = 0 then (h) else ((B_V_takeFromMap fz i1 (h 23 (ix x2)) h))
def P_V_takeAck_10 (fz : Nat) (i1 : Nat) (x2 : Int32) (h : HH) : Prop := ((h i1 12) = 0 → (True)) ∧ (¬ (h i1 12) = 0 → (vp_in x2 301 ∧ (P_V_takeFromMap fz i1 (h 23 (ix x2)) h ∧ (True))))
def B_V_takeAck (fz : Nat) (i1 : Nat) (x2 : Int32) (h : HH) : HH := B_V_takeAck_10 fz i1 x2 (u2 h 26 (ix x2) (2 : Int32))
def P_V_takeAck (fz : Nat) (i1 : Nat) (x2 : Int32) (h : HH) : Prop := vp_in x2 301 ∧ (P_V_takeAck_10 fz i1 x2 (u2 h 26 (ix x2) (2 : Int32)))
def B_N_takeFinish (fz : Nat) (i0 : Nat) (x1 : Int32) (h : HH) : HH := (u2 (u2 (u2 (u2 (u2 (u2 h i0 13 (0 : Int32)) i0 8 (0 : Int32)) i0 9 (0 : Int32)) i0 5 (0 : Int32)) i0 6 x1) i0 7 (0 : Int32))
def P_N_takeFinish (fz : Nat) (i0 : Nat) (x1 : Int32) (h : HH) : Prop := True
def B_V_arrive_64 (fz : Nat) (i1 : Nat) (x3 : Int32) (h : HH) : HH := (B_O_send fz i1 (4 : Int32) x3 (0 : Int32) h)
def P_V_arrive_64 (fz : Nat) (i1 : Nat) (x3 : Int32) (h : HH) : Prop := P_O_send fz i1 (4 : Int32) x3 (0 : Int32) h ∧ (True)
def B_V_arrive_91 (fz : Nat) (i1 : Nat) (x3 : Int32) (h : HH) : HH := (B_V_takeFromMap fz i1 x3 h)
def P_V_arrive_91 (fz : Nat) (i1 : Nat) (x3 : Int32) (h : HH) : Prop := P_V_takeFromMap fz i1 x3 h ∧ (True)
def B_V_arrive (fz : Nat) (i1 : Nat) (x2 : Int32) (x3 : Int32) (x4 : Int32) (h : HH) : HH := if x2 = (1 : Int32) then ((B_L_add fz i1 x3 h)) else (if x2 = (2 : Int32) then ((B_V_takeAck fz i1 x3 h)) else (if x2 = (3 : Int32) then (B_V_arrive_64 fz i1 x3 (u2 h (i1 + 1) (ix x3) x4)) else (if x2 = (4 : Int32) then (B_V_arrive_91 fz i1 x3 (u2 h i1 14 ((h i1 14) &&& (((1 : Int32) <<< (x3 &&& 31)) ^^^ (-1 : Int32))))) else (if x2 = (5 : Int32) then ((B_N_takeFinish fz i1 x3 h)) else (h)))))
def P_V_arrive (fz : Nat) (i1 : Nat) (x2 : Int32) (x3 : Int32) (x4 : Int32) (h : HH) : Prop := (x2 = (1 : Int32) → (P_L_add fz i1 x3 h ∧ (True))) ∧ (¬ x2 = (1 : Int32) → ((x2 = (2 : Int32) → (P_V_takeAck fz i1 x3 h ∧ (True))) ∧ (¬ x2 = (2 : Int32) → ((x2 = (3 : Int32) → (vp_in x3 32 ∧ (P_V_arrive_64 fz i1 x3 (u2 h (i1 + 1) (ix x3) x4)))) ∧ (¬ x2 = (3 : Int32) → ((x2 = (4 : Int32) → (P_V_arrive_91 fz i1 x3 (u2 h i1 14 ((h i1 14) &&& (((1 : Int32) <<< (x3 &&& 31)) ^^^ (-1 : Int32)))))) ∧ (¬ x2 = (4 : Int32) → ((x2 = (5 : Int32) → (P_N_takeFinish fz i1 x3 h ∧ (True))) ∧ (¬ x2 = (5 : Int32) → (True))))))))))
def B_V_deliver_48 (fz : Nat) (x1 : Int32) (x3 : Int32) (x4 : Int32) (x5 : Int32) (h : HH) : Int32 × HH := (x3, (B_V_arrive fz (B_V_peerOf fz x1 h) x3 x4 x5 h))
def P_V_deliver_48 (fz : Nat) (x1 : Int32) (x3 : Int32) (x4 : Int32) (x5 : Int32) (h : HH) : Prop := P_V_peerOf fz x1 h ∧ (P_V_arrive fz (B_V_peerOf fz x1 h) x3 x4 x5 h ∧ (True))
def B_V_deliver (fz : Nat) (x1 : Int32) (h : HH) : Int32 × HH := if (B_V_isNode fz x1 h) = 0 then (((0 : Int32), h)) else (if (h ((B_V_nodeOf fz x1 h) + 4) 4) = 0 then (((0 : Int32), h)) else (B_V_deliver_48 fz x1 (B_O_kindOfFirst fz (B_V_nodeOf fz x1 h) h) (B_O_subjectOfFirst fz (B_V_nodeOf fz x1 h) h) (B_O_valueOfFirst fz (B_V_nodeOf fz x1 h) h) (B_O_dropFirst fz (B_V_nodeOf fz x1 h) h)))
def P_V_deliver (fz : Nat) (x1 : Int32) (h : HH) : Prop := P_V_isNode fz x1 h ∧ (((B_V_isNode fz x1 h) = 0 → (True)) ∧ (¬ (B_V_isNode fz x1 h) = 0 → (P_V_nodeOf fz x1 h ∧ (((h ((B_V_nodeOf fz x1 h) + 4) 4) = 0 → (True)) ∧ (¬ (h ((B_V_nodeOf fz x1 h) + 4) 4) = 0 → (P_O_kindOfFirst fz (B_V_nodeOf fz x1 h) h ∧ (P_O_subjectOfFirst fz (B_V_nodeOf fz x1 h) h ∧ (P_O_valueOfFirst fz (B_V_nodeOf fz x1 h) h ∧ (P_O_dropFirst fz (B_V_nodeOf fz x1 h) h ∧ (P_V_deliver_48 fz x1 (B_O_kindOfFirst fz (B_V_nodeOf fz x1 h) h) (B_O_subjectOfFirst fz (B_V_nodeOf fz x1 h) h) (B_O_valueOfFirst fz (B_V_nodeOf fz x1 h) h) (B_O_dropFirst fz (B_V_nodeOf fz x1 h) h)))))))))))
def B_L_numberAt (fz : Nat) (i0 : Nat) (x1 : Int32) (h : HH) : Int32 := if x1 < 0 then ((0 : Int32)) else (if (h (i0 + 8) 1) ≤ x1 then ((0 : Int32)) else ((h (i0 + 9) (ix x1))))
def P_L_numberAt (fz : Nat) (i0 : Nat) (x1 : Int32) (h : HH) : Prop := (x1 < 0 → (True)) ∧ (¬ x1 < 0 → (((h (i0 + 8) 1) ≤ x1 → (True)) ∧ (¬ (h (i0 + 8) 1) ≤ x1 → (vp_in x1 8 ∧ (True)))))
def B_L_remove_15 (fz : Nat) : Nat → Nat → Int32 → HH → HH
  | 0, _, _, h => h
  | fu + 1, i0, x2, h => if ((h (i0 + 8) 1) - (1 : Int32)) ≤ x2 then ((u2 h (i0 + 8) 1 ((h (i0 + 8) 1) - (1 : Int32)))) else (B_L_remove_15 fz fu i0 (x2 + 1) (u2 h (i0 + 9) (ix x2) (h (i0 + 9) (ix (x2 + (1 : Int32))))))
def P_L_remove_15 (fz : Nat) : Nat → Nat → Int32 → HH → Prop
  | 0, _, _, _ => False
  | fu + 1, i0, x2, h => (((h (i0 + 8) 1) - (1 : Int32)) ≤ x2 → (True)) ∧ (¬ ((h (i0 + 8) 1) - (1 : Int32)) ≤ x2 → (vp_in (x2 + (1 : Int32)) 8 ∧ (vp_in x2 8 ∧ (P_L_remove_15 fz fu i0 (x2 + 1) (u2 h (i0 + 9) (ix x2) (h (i0 + 9) (ix (x2 + (1 : Int32)))))))))
def B_L_remove (fz : Nat) (i0 : Nat) (x1 : Int32) (h : HH) : HH := if x1 < 0 then (h) else (if x1 < (h (i0 + 8) 1) then (B_L_remove_15 fz fz i0 x1 h) else (h))
def P_L_remove (fz : Nat) (i0 : Nat) (x1 : Int32) (h : HH) : Prop := (x1 < 0 → (True)) ∧ (¬ x1 < 0 → ((x1 < (h (i0 + 8) 1) → (P_L_remove_15 fz fz i0 x1 h)) ∧ (¬ x1 < (h (i0 + 8) 1) → (True))))
def B_V_store_104 (fz : Nat) (i3 : Nat) (x5 : Int32) (h : HH) : Int32 × HH := (x5, (B_O_send fz i3 (2 : Int32) x5 (0 : Int32) h))
def P_V_store_104 (fz : Nat) (i3 : Nat) (x5 : Int32) (h : HH) : Prop := P_O_send fz i3 (2 : Int32) x5 (0 : Int32) h ∧ (True)
def B_V_store_79 (fz : Nat) (i3 : Nat) (x5 : Int32) (h : HH) : Int32 × HH := B_V_store_104 fz i3 x5 (u2 h (i3 + 1) (ix (h 23 (ix x5))) (h 24 (ix x5)))
def P_V_store_79 (fz : Nat) (i3 : Nat) (x5 : Int32) (h : HH) : Prop := vp_in x5 301 ∧ (vp_in x5 301 ∧ (vp_in (h 23 (ix x5)) 32 ∧ (P_V_store_104 fz i3 x5 (u2 h (i3 + 1) (ix (h 23 (ix x5))) (h 24 (ix x5))))))
def B_V_store (fz : Nat) (x1 : Int32) (x2 : Int32) (h : HH) : Int32 × HH := if (B_V_isNode fz x1 h) = 0 then (((0 : Int32), h)) else (if x2 < 0 then (((0 : Int32), h)) else (if x2 < (h ((B_V_nodeOf fz x1 h) + 8) 1) then (if (h 25 (ix (B_L_numberAt fz (B_V_nodeOf fz x1 h) x2 h))) = (h 25 (ix (B_L_numberAt fz (B_V_nodeOf fz x1 h) (0 : Int32) h))) then (B_V_store_79 fz (B_V_nodeOf fz x1 h) (B_L_numberAt fz (B_V_nodeOf fz x1 h) x2 h) (B_L_remove fz (B_V_nodeOf fz x1 h) x2 h)) else (((0 : Int32), h))) else (((0 : Int32), h))))
def P_V_store (fz : Nat) (x1 : Int32) (x2 : Int32) (h : HH) : Prop := P_V_isNode fz x1 h ∧ (((B_V_isNode fz x1 h) = 0 → (True)) ∧ (¬ (B_V_isNode fz x1 h) = 0 → (P_V_nodeOf fz x1 h ∧ ((x2 < 0 → (True)) ∧ (¬ x2 < 0 → ((x2 < (h ((B_V_nodeOf fz x1 h) + 8) 1) → (P_L_numberAt fz (B_V_nodeOf fz x1 h) x2 h ∧ (vp_in (B_L_numberAt fz (B_V_nodeOf fz x1 h) x2 h) 301 ∧ (P_L_numberAt fz (B_V_nodeOf fz x1 h) (0 : Int32) h ∧ (vp_in (B_L_numberAt fz (B_V_nodeOf fz x1 h) (0 : Int32) h) 301 ∧ (((h 25 (ix (B_L_numberAt fz (B_V_nodeOf fz x1 h) x2 h))) = (h 25 (ix (B_L_numberAt fz (B_V_nodeOf fz x1 h) (0 : Int32) h))) → (P_L_remove fz (B_V_nodeOf fz x1 h) x2 h ∧ (P_V_store_79 fz (B_V_nodeOf fz x1 h) (B_L_numberAt fz (B_V_nodeOf fz x1 h) x2 h) (B_L_remove fz (B_V_nodeOf fz x1 h) x2 h)))) ∧ (¬ (h 25 (ix (B_L_numberAt fz (B_V_nodeOf fz x1 h) x2 h))) = (h 25 (ix (B_L_numberAt fz (B_V_nodeOf fz x1 h) (0 : Int32) h))) → (True)))))))) ∧ (¬ x2 < (h ((B_V_nodeOf fz x1 h) + 8) 1) → (True))))))))
def B_I_bitCount (fz : Nat) (x0 : Int32) (h : HH) : Int32 := ((((((((x0 - ((((x0).toUInt32 >>> (((1 : Int32)).toUInt32 &&& Int32.toUInt32 31)).toInt32) &&& (1431655765 : Int32))) &&& (858993459 : Int32)) + (((((x0 - ((((x0).toUInt32 >>> (((1 : Int32)).toUInt32 &&& Int32.toUInt32 31)).toInt32) &&& (1431655765 : Int32)))).toUInt32 >>> (((2 : Int32)).toUInt32 &&& Int32.toUInt32 31)).toInt32) &&& (858993459 : Int32))) + ((((((x0 - ((((x0).toUInt32 >>> (((1 : Int32)).toUInt32 &&& Int32.toUInt32 31)).toInt32) &&& (1431655765 : Int32))) &&& (858993459 : Int32)) + (((((x0 - ((((x0).toUInt32 >>> (((1 : Int32)).toUInt32 &&& Int32.toUInt32 31)).toInt32) &&& (1431655765 : Int32)))).toUInt32 >>> (((2 : Int32)).toUInt32 &&& Int32.toUInt32 31)).toInt32) &&& (858993459 : Int32)))).toUInt32 >>> (((4 : Int32)).toUInt32 &&& Int32.toUInt32 31)).toInt32)) &&& (252645135 : Int32)) + ((((((((x0 - ((((x0).toUInt32 >>> (((1 : Int32)).toUInt32 &&& Int32.toUInt32 31)).toInt32) &&& (1431655765 : Int32))) &&& (858993459 : Int32)) + (((((x0 - ((((x0).toUInt32 >>> (((1 : Int32)).toUInt32 &&& Int32.toUInt32 31)).toInt32) &&& (1431655765 : Int32)))).toUInt32 >>> (((2 : Int32)).toUInt32 &&& Int32.toUInt32 31)).toInt32) &&& (858993459 : Int32))) + ((((((x0 - ((((x0).toUInt32 >>> (((1 : Int32)).toUInt32 &&& Int32.toUInt32 31)).toInt32) &&& (1431655765 : Int32))) &&& (858993459 : Int32)) + (((((x0 - ((((x0).toUInt32 >>> (((1 : Int32)).toUInt32 &&& Int32.toUInt32 31)).toInt32) &&& (1431655765 : Int32)))).toUInt32 >>> (((2 : Int32)).toUInt32 &&& Int32.toUInt32 31)).toInt32) &&& (858993459 : Int32)))).toUInt32 >>> (((4 : Int32)).toUInt32 &&& Int32.toUInt32 31)).toInt32)) &&& (252645135 : Int32))).toUInt32 >>> (((8 : Int32)).toUInt32 &&& Int32.toUInt32 31)).toInt32)) + (((((((((x0 - ((((x0).toUInt32 >>> (((1 : Int32)).toUInt32 &&& Int32.toUInt32 31)).toInt32) &&& (1431655765 : Int32))) &&& (858993459 : Int32)) + (((((x0 - ((((x0).toUInt32 >>> (((1 : Int32)).toUInt32 &&& Int32.toUInt32 31)).toInt32) &&& (1431655765 : Int32)))).toUInt32 >>> (((2 : Int32)).toUInt32 &&& Int32.toUInt32 31)).toInt32) &&& (858993459 : Int32))) + ((((((x0 - ((((x0).toUInt32 >>> (((1 : Int32)).toUInt32 &&& Int32.toUInt32 31)).toInt32) &&& (1431655765 : Int32))) &&& (858993459 : Int32)) + (((((x0 - ((((x0).toUInt32 >>> (((1 : Int32)).toUInt32 &&& Int32.toUInt32 31)).toInt32) &&& (1431655765 : Int32)))).toUInt32 >>> (((2 : Int32)).toUInt32 &&& Int32.toUInt32 31)).toInt32) &&& (858993459 : Int32)))).toUInt32 >>> (((4 : Int32)).toUInt32 &&& Int32.toUInt32 31)).toInt32)) &&& (252645135 : Int32)) + ((((((((x0 - ((((x0).toUInt32 >>> (((1 : Int32)).toUInt32 &&& Int32.toUInt32 31)).toInt32) &&& (1431655765 : Int32))) &&& (858993459 : Int32)) + (((((x0 - ((((x0).toUInt32 >>> (((1 : Int32)).toUInt32 &&& Int32.toUInt32 31)).toInt32) &&& (1431655765 : Int32)))).toUInt32 >>> (((2 : Int32)).toUInt32 &&& Int32.toUInt32 31)).toInt32) &&& (858993459 : Int32))) + ((((((x0 - ((((x0).toUInt32 >>> (((1 : Int32)).toUInt32 &&& Int32.toUInt32 31)).toInt32) &&& (1431655765 : Int32))) &&& (858993459 : Int32)) + (((((x0 - ((((x0).toUInt32 >>> (((1 : Int32)).toUInt32 &&& Int32.toUInt32 31)).toInt32) &&& (1431655765 : Int32)))).toUInt32 >>> (((2 : Int32)).toUInt32 &&& Int32.toUInt32 31)).toInt32) &&& (858993459 : Int32)))).toUInt32 >>> (((4 : Int32)).toUInt32 &&& Int32.toUInt32 31)).toInt32)) &&& (252645135 : Int32))).toUInt32 >>> (((8 : Int32)).toUInt32 &&& Int32.toUInt32 31)).toInt32))).toUInt32 >>> (((16 : Int32)).toUInt32 &&& Int32.toUInt32 31)).toInt32)) &&& (63 : Int32))
def P_I_bitCount (fz : Nat) (x0 : Int32) (h : HH) : Prop := True
def B_V_leastBlock_2 (fz : Nat) : Nat → Int32 → Int32 → HH → Int32
  | 0, _, _, _ => 0
  | fu + 1, x0, x1, h => if (32 : Int32) ≤ x1 then ((-1 : Int32)) else (if (B_V_hasBlock fz x0 x1 h) = 0 then (B_V_leastBlock_2 fz fu x0 (x1 + 1) h) else (x1))
def P_V_leastBlock_2 (fz : Nat) : Nat → Int32 → Int32 → HH → Prop
  | 0, _, _, _ => False
  | fu + 1, x0, x1, h => ((32 : Int32) ≤ x1 → (True)) ∧ (¬ (32 : Int32) ≤ x1 → (P_V_hasBlock fz x0 x1 h ∧ (((B_V_hasBlock fz x0 x1 h) = 0 → (P_V_leastBlock_2 fz fu x0 (x1 + 1) h)) ∧ (¬ (B_V_hasBlock fz x0 x1 h) = 0 → (True)))))
def B_V_leastBlock (fz : Nat) (x0 : Int32) (h : HH) : Int32 := B_V_leastBlock_2 fz fz x0 (0 : Int32) h
def P_V_leastBlock (fz : Nat) (x0 : Int32) (h : HH) : Prop := P_V_leastBlock_2 fz fz x0 (0 : Int32) h
def B_V_copy_80 (fz : Nat) (i2 : Nat) (x3 : Int32) (h : HH) : Int32 × HH := (x3, (B_O_send fz i2 (3 : Int32) x3 (h (i2 + 1) (ix x3)) h))
def P_V_copy_80 (fz : Nat) (i2 : Nat) (x3 : Int32) (h : HH) : Prop := vp_in x3 32 ∧ (P_O_send fz i2 (3 : Int32) x3 (h (i2 + 1) (ix x3)) h ∧ (True))
def B_V_copy (fz : Nat) (x1 : Int32) (h : HH) : Int32 × HH := if (B_V_isNode fz x1 h) = 0 then (((-1 : Int32), h)) else (if (h (B_V_nodeOf fz x1 h) 12) = 0 then (((-1 : Int32), h)) else (if (B_I_bitCount fz (h (B_V_nodeOf fz x1 h) 14) h) < (4 : Int32) then (if (B_V_leastBlock fz (((h (B_V_nodeOf fz x1 h) 5) &&& ((h (B_V_nodeOf fz x1 h) 14) ^^^ (-1 : Int32))) &&& ((B_T_pendingBlocks fz x1 h) ^^^ (-1 : Int32))) h) = (-1 : Int32) then (((-1 : Int32), h)) else (B_V_copy_80 fz (B_V_nodeOf fz x1 h) (B_V_leastBlock fz (((h (B_V_nodeOf fz x1 h) 5) &&& ((h (B_V_nodeOf fz x1 h) 14) ^^^ (-1 : Int32))) &&& ((B_T_pendingBlocks fz x1 h) ^^^ (-1 : Int32))) h) (u2 h (B_V_nodeOf fz x1 h) 14 ((h (B_V_nodeOf fz x1 h) 14) ||| ((1 : Int32) <<< ((B_V_leastBlock fz (((h (B_V_nodeOf fz x1 h) 5) &&& ((h (B_V_nodeOf fz x1 h) 14) ^^^ (-1 : Int32))) &&& ((B_T_pendingBlocks fz x1 h) ^^^ (-1 : Int32))) h) &&& 31)))))) else (((-1 : Int32), h))))
def P_V_copy (fz : Nat) (x1 : Int32) (h : HH) : Prop := P_V_isNode fz x1 h ∧ (((B_V_isNode fz x1 h) = 0 → (True)) ∧ (¬ (B_V_isNode fz x1 h) = 0 → (P_V_nodeOf fz x1 h ∧ (((h (B_V_nodeOf fz x1 h) 12) = 0 → (True)) ∧ (¬ (h (B_V_nodeOf fz x1 h) 12) = 0 → (P_I_bitCount fz (h (B_V_nodeOf fz x1 h) 14) h ∧ (((B_I_bitCount fz (h (B_V_nodeOf fz x1 h) 14) h) < (4 : Int32) → (P_T_pendingBlocks fz x1 h ∧ (P_V_leastBlock fz (((h (B_V_nodeOf fz x1 h) 5) &&& ((h (B_V_nodeOf fz x1 h) 14) ^^^ (-1 : Int32))) &&& ((B_T_pendingBlocks fz x1 h) ^^^ (-1 : Int32))) h ∧ (((B_V_leastBlock fz (((h (B_V_nodeOf fz x1 h) 5) &&& ((h (B_V_nodeOf fz x1 h) 14) ^^^ (-1 : Int32))) &&& ((B_T_pendingBlocks fz x1 h) ^^^ (-1 : Int32))) h) = (-1 : Int32) → (True)) ∧ (¬ (B_V_leastBlock fz (((h (B_V_nodeOf fz x1 h) 5) &&& ((h (B_V_nodeOf fz x1 h) 14) ^^^ (-1 : Int32))) &&& ((B_T_pendingBlocks fz x1 h) ^^^ (-1 : Int32))) h) = (-1 : Int32) → (P_V_copy_80 fz (B_V_nodeOf fz x1 h) (B_V_leastBlock fz (((h (B_V_nodeOf fz x1 h) 5) &&& ((h (B_V_nodeOf fz x1 h) 14) ^^^ (-1 : Int32))) &&& ((B_T_pendingBlocks fz x1 h) ^^^ (-1 : Int32))) h) (u2 h (B_V_nodeOf fz x1 h) 14 ((h (B_V_nodeOf fz x1 h) 14) ||| ((1 : Int32) <<< ((B_V_leastBlock fz (((h (B_V_nodeOf fz x1 h) 5) &&& ((h (B_V_nodeOf fz x1 h) 14) ^^^ (-1 : Int32))) &&& ((B_T_pendingBlocks fz x1 h) ^^^ (-1 : Int32))) h) &&& 31)))))))))) ∧ (¬ (B_I_bitCount fz (h (B_V_nodeOf fz x1 h) 14) h) < (4 : Int32) → (True)))))))))
def B_V_wentDifferentWays (fz : Nat)  (h : HH) : Int32 := if (h 1 8) = 0 then (if (h 11 8) = 0 then (if (h 1 6) = (h 11 6) then ((0 : Int32)) else (if (h 1 7) = (h 11 6) then ((0 : Int32)) else (if (h 11 7) = (h 1 6) then ((0 : Int32)) else ((1 : Int32))))) else ((0 : Int32))) else ((0 : Int32))
def P_V_wentDifferentWays (fz : Nat)  (h : HH) : Prop := ((h 1 8) = 0 → (((h 11 8) = 0 → (((h 1 6) = (h 11 6) → (True)) ∧ (¬ (h 1 6) = (h 11 6) → (((h 1 7) = (h 11 6) → (True)) ∧ (¬ (h 1 7) = (h 11 6) → (((h 11 7) = (h 1 6) → (True)) ∧ (¬ (h 11 7) = (h 1 6) → (True)))))))) ∧ (¬ (h 11 8) = 0 → (True)))) ∧ (¬ (h 1 8) = 0 → (True))
def B_V_chooseSource_20 (fz : Nat)  (h : HH) : Int32 := if (h 11 8) = 0 then ((1 : Int32)) else ((0 : Int32))
def P_V_chooseSource_20 (fz : Nat)  (h : HH) : Prop := ((h 11 8) = 0 → (True)) ∧ (¬ (h 11 8) = 0 → (True))
def B_V_chooseSource_98 (fz : Nat)  (h : HH) : Int32 := if (h 1 11) = (h 11 11) then (if (h 1 9) = 0 then ((1 : Int32)) else ((0 : Int32))) else (if (h 1 11) = 0 then ((1 : Int32)) else ((0 : Int32)))
def P_V_chooseSource_98 (fz : Nat)  (h : HH) : Prop := ((h 1 11) = (h 11 11) → (((h 1 9) = 0 → (True)) ∧ (¬ (h 1 9) = 0 → (True)))) ∧ (¬ (h 1 11) = (h 11 11) → (((h 1 11) = 0 → (True)) ∧ (¬ (h 1 11) = 0 → (True))))
def B_V_chooseSource (fz : Nat)  (h : HH) : Int32 := if (h 1 8) = 0 then (if (h 11 8) = 0 then (if (h 1 6) = (h 11 6) then (if (h 1 9) = 0 then (if (h 11 9) = 0 then ((-1 : Int32)) else (B_V_chooseSource_98 fz  h)) else (B_V_chooseSource_98 fz  h)) else (if (h 1 7) = (h 11 6) then ((0 : Int32)) else ((1 : Int32)))) else (B_V_chooseSource_20 fz  h)) else (B_V_chooseSource_20 fz  h)
def P_V_chooseSource (fz : Nat)  (h : HH) : Prop := ((h 1 8) = 0 → (((h 11 8) = 0 → (((h 1 6) = (h 11 6) → (((h 1 9) = 0 → (((h 11 9) = 0 → (True)) ∧ (¬ (h 11 9) = 0 → (P_V_chooseSource_98 fz  h)))) ∧ (¬ (h 1 9) = 0 → (P_V_chooseSource_98 fz  h)))) ∧ (¬ (h 1 6) = (h 11 6) → (((h 1 7) = (h 11 6) → (True)) ∧ (¬ (h 1 7) = (h 11 6) → (True)))))) ∧ (¬ (h 11 8) = 0 → (P_V_chooseSource_20 fz  h)))) ∧ (¬ (h 1 8) = 0 → (P_V_chooseSource_20 fz  h))
def B_V_beginUpdate_71 (fz : Nat) (i1 : Nat) (h : HH) : HH := if (h i1 5) = 0 then ((B_V_end fz i1 h)) else (h)
def P_V_beginUpdate_71 (fz : Nat) (i1 : Nat) (h : HH) : Prop := ((h i1 5) = 0 → (P_V_end fz i1 h ∧ (True))) ∧ (¬ (h i1 5) = 0 → (True))
def B_V_beginUpdate_53 (fz : Nat) (i1 : Nat) (i2 : Nat) (j0 : Nat) (y1 : Int32) (h : HH) : HH := B_V_beginUpdate_71 fz i1 (u2 (u2 (u2 (u2 h j0 5 y1) i1 12 (1 : Int32)) i2 13 (1 : Int32)) i2 8 (1 : Int32))
def P_V_beginUpdate_53 (fz : Nat) (i1 : Nat) (i2 : Nat) (j0 : Nat) (y1 : Int32) (h : HH) : Prop := P_V_beginUpdate_71 fz i1 (u2 (u2 (u2 (u2 h j0 5 y1) i1 12 (1 : Int32)) i2 13 (1 : Int32)) i2 8 (1 : Int32))
def B_V_beginUpdate_34 (fz : Nat) (i1 : Nat) (i2 : Nat) (y0 : Int32) (h : HH) : HH := if y0 = 0 then (B_V_beginUpdate_53 fz i1 i2 i1 (-1 : Int32) h) else (B_V_beginUpdate_53 fz i1 i2 i1 ((h i1 5) ||| (h i2 5)) h)
def P_V_beginUpdate_34 (fz : Nat) (i1 : Nat) (i2 : Nat) (y0 : Int32) (h : HH) : Prop := (y0 = 0 → (P_V_beginUpdate_53 fz i1 i2 i1 (-1 : Int32) h)) ∧ (¬ y0 = 0 → (P_V_beginUpdate_53 fz i1 i2 i1 ((h i1 5) ||| (h i2 5)) h))
def B_V_beginUpdate_33 (fz : Nat) (i1 : Nat) (i2 : Nat) (h : HH) : HH := B_V_beginUpdate_34 fz i1 i2 (0 : Int32) h
def P_V_beginUpdate_33 (fz : Nat) (i1 : Nat) (i2 : Nat) (h : HH) : Prop := P_V_beginUpdate_34 fz i1 i2 (0 : Int32) h
def B_V_beginUpdate_29 (fz : Nat) (i1 : Nat) (i2 : Nat) (h : HH) : HH := B_V_beginUpdate_34 fz i1 i2 (1 : Int32) h
def P_V_beginUpdate_29 (fz : Nat) (i1 : Nat) (i2 : Nat) (h : HH) : Prop := P_V_beginUpdate_34 fz i1 i2 (1 : Int32) h
def B_V_beginUpdate (fz : Nat) (i1 : Nat) (i2 : Nat) (h : HH) : HH := if (h i2 6) = 0 then (B_V_beginUpdate_33 fz i1 i2 h) else (if (h i2 6) = (h i1 6) then (B_V_beginUpdate_29 fz i1 i2 h) else (if (h i2 6) = (h i1 7) then (B_V_beginUpdate_29 fz i1 i2 h) else (B_V_beginUpdate_33 fz i1 i2 h)))
def P_V_beginUpdate (fz : Nat) (i1 : Nat) (i2 : Nat) (h : HH) : Prop := ((h i2 6) = 0 → (P_V_beginUpdate_33 fz i1 i2 h)) ∧ (¬ (h i2 6) = 0 → (((h i2 6) = (h i1 6) → (P_V_beginUpdate_29 fz i1 i2 h)) ∧ (¬ (h i2 6) = (h i1 6) → (((h i2 6) = (h i1 7) → (P_V_beginUpdate_29 fz i1 i2 h)) ∧ (¬ (h i2 6) = (h i1 7) → (P_V_beginUpdate_33 fz i1 i2 h))))))
def B_V_connect_102 (fz : Nat) (x1 : Int32) (h : HH) : Int32 × HH := (((1 : Int32) + x1), (B_V_beginUpdate fz (B_V_nodeOf fz x1 h) (B_V_peerOf fz x1 h) h))
def P_V_connect_102 (fz : Nat) (x1 : Int32) (h : HH) : Prop := P_V_nodeOf fz x1 h ∧ (P_V_peerOf fz x1 h ∧ (P_V_beginUpdate fz (B_V_nodeOf fz x1 h) (B_V_peerOf fz x1 h) h ∧ (True)))
def B_V_connect_56 (fz : Nat)  (h : HH) : Int32 × HH := if (B_V_wentDifferentWays fz  h) = 0 then (if (B_V_chooseSource fz  h) = (-1 : Int32) then (((0 : Int32), (u2 h 0 3 (1 : Int32)))) else (if (h (B_V_peerOf fz (B_V_chooseSource fz  h) h) 11) = 0 then (B_V_connect_102 fz (B_V_chooseSource fz  h) (u2 h 0 3 (1 : Int32))) else (((-10 : Int32), h)))) else (((-8 : Int32), h))
def P_V_connect_56 (fz : Nat)  (h : HH) : Prop := P_V_wentDifferentWays fz  h ∧ (((B_V_wentDifferentWays fz  h) = 0 → (P_V_chooseSource fz  h ∧ (((B_V_chooseSource fz  h) = (-1 : Int32) → (True)) ∧ (¬ (B_V_chooseSource fz  h) = (-1 : Int32) → (P_V_peerOf fz (B_V_chooseSource fz  h) h ∧ (((h (B_V_peerOf fz (B_V_chooseSource fz  h) h) 11) = 0 → (P_V_connect_102 fz (B_V_chooseSource fz  h) (u2 h 0 3 (1 : Int32)))) ∧ (¬ (h (B_V_peerOf fz (B_V_chooseSource fz  h) h) 11) = 0 → (True)))))))) ∧ (¬ (B_V_wentDifferentWays fz  h) = 0 → (True)))
def B_V_connect (fz : Nat)  (h : HH) : Int32 × HH := if (h 1 10) = 0 then (((-2 : Int32), h)) else (if (h 11 10) = 0 then (((-2 : Int32), h)) else (if (h 0 3) = 0 then (if (h 1 11) = 0 then (B_V_connect_56 fz  h) else (if (h 11 11) = 0 then (B_V_connect_56 fz  h) else (((-7 : Int32), h)))) else (((-9 : Int32), h))))
def P_V_connect (fz : Nat)  (h : HH) : Prop := ((h 1 10) = 0 → (True)) ∧ (¬ (h 1 10) = 0 → (((h 11 10) = 0 → (True)) ∧ (¬ (h 11 10) = 0 → (((h 0 3) = 0 → (((h 1 11) = 0 → (P_V_connect_56 fz  h)) ∧ (¬ (h 1 11) = 0 → (((h 11 11) = 0 → (P_V_connect_56 fz  h)) ∧ (¬ (h 11 11) = 0 → (True)))))) ∧ (¬ (h 0 3) = 0 → (True))))))
def B_N_leaveLink (fz : Nat) (i0 : Nat) (h : HH) : HH := (u2 (u2 (u2 (u2 (u2 h (i0 + 4) 4 (0 : Int32)) (i0 + 8) 1 (0 : Int32)) i0 14 (0 : Int32)) i0 12 (0 : Int32)) i0 13 (0 : Int32))
def P_N_leaveLink (fz : Nat) (i0 : Nat) (h : HH) : Prop := True
def B_V_breakLink_21 (fz : Nat) : Nat → Int32 → HH → HH
  | 0, _, h => h
  | fu + 1, x1, h => if (h 21 5) < x1 then (h) else (if (h 26 (ix x1)) = (1 : Int32) then (B_V_breakLink_21 fz fu (x1 + 1) (B_V_endUpAlone fz x1 h)) else (B_V_breakLink_21 fz fu (x1 + 1) h))
def P_V_breakLink_21 (fz : Nat) : Nat → Int32 → HH → Prop
  | 0, _, _ => False
  | fu + 1, x1, h => ((h 21 5) < x1 → (True)) ∧ (¬ (h 21 5) < x1 → (vp_in x1 301 ∧ (((h 26 (ix x1)) = (1 : Int32) → (P_V_endUpAlone fz x1 h ∧ (P_V_breakLink_21 fz fu (x1 + 1) (B_V_endUpAlone fz x1 h)))) ∧ (¬ (h 26 (ix x1)) = (1 : Int32) → (P_V_breakLink_21 fz fu (x1 + 1) h)))))
def B_V_breakLink_19 (fz : Nat)  (h : HH) : HH := B_V_breakLink_21 fz fz (1 : Int32) h
def P_V_breakLink_19 (fz : Nat)  (h : HH) : Prop := P_V_breakLink_21 fz fz (1 : Int32) h
def B_V_breakLink_12 (fz : Nat)  (h : HH) : HH := B_V_breakLink_19 fz  (B_N_leaveLink fz 11 h)
def P_V_breakLink_12 (fz : Nat)  (h : HH) : Prop := P_N_leaveLink fz 11 h ∧ (P_V_breakLink_19 fz  (B_N_leaveLink fz 11 h))
def B_V_breakLink_5 (fz : Nat)  (h : HH) : HH := B_V_breakLink_12 fz  (B_N_leaveLink fz 1 h)
def P_V_breakLink_5 (fz : Nat)  (h : HH) : Prop := P_N_leaveLink fz 1 h ∧ (P_V_breakLink_12 fz  (B_N_leaveLink fz 1 h))
def B_V_breakLink (fz : Nat)  (h : HH) : HH := B_V_breakLink_5 fz  (u2 h 0 3 (0 : Int32))
def P_V_breakLink (fz : Nat)  (h : HH) : Prop := P_V_breakLink_5 fz  (u2 h 0 3 (0 : Int32))
def B_V_cut (fz : Nat)  (h : HH) : Int32 × HH := if (h 0 3) = 0 then (((0 : Int32), h)) else (((1 : Int32), (B_V_breakLink fz  h)))
def P_V_cut (fz : Nat)  (h : HH) : Prop := ((h 0 3) = 0 → (True)) ∧ (¬ (h 0 3) = 0 → (P_V_breakLink fz  h ∧ (True)))
def B_V_crash_68 (fz : Nat)  (h : HH) : Int32 × HH := if (h 0 3) = 0 then (((1 : Int32), h)) else (((1 : Int32), (B_V_breakLink fz  h)))
def P_V_crash_68 (fz : Nat)  (h : HH) : Prop := ((h 0 3) = 0 → (True)) ∧ (¬ (h 0 3) = 0 → (P_V_breakLink fz  h ∧ (True)))
def B_V_crash_51 (fz : Nat) (i2 : Nat) (h : HH) : Int32 × HH := if (h i2 11) = 0 then (B_V_crash_68 fz  h) else (B_V_crash_68 fz  (u2 (u2 h i2 9 (1 : Int32)) i2 11 (0 : Int32)))
def P_V_crash_51 (fz : Nat) (i2 : Nat) (h : HH) : Prop := ((h i2 11) = 0 → (P_V_crash_68 fz  h)) ∧ (¬ (h i2 11) = 0 → (P_V_crash_68 fz  (u2 (u2 h i2 9 (1 : Int32)) i2 11 (0 : Int32))))
def B_V_crash_41 (fz : Nat) (x1 : Int32) (i2 : Nat) (h : HH) : Int32 × HH := B_V_crash_51 fz i2 (B_T_changeFates fz x1 (3 : Int32) (4 : Int32) h)
def P_V_crash_41 (fz : Nat) (x1 : Int32) (i2 : Nat) (h : HH) : Prop := P_T_changeFates fz x1 (3 : Int32) (4 : Int32) h ∧ (P_V_crash_51 fz i2 (B_T_changeFates fz x1 (3 : Int32) (4 : Int32) h))
def B_V_crash_31 (fz : Nat) (x1 : Int32) (i2 : Nat) (h : HH) : Int32 × HH := B_V_crash_41 fz x1 i2 (B_T_changeFates fz x1 (1 : Int32) (4 : Int32) h)
def P_V_crash_31 (fz : Nat) (x1 : Int32) (i2 : Nat) (h : HH) : Prop := P_T_changeFates fz x1 (1 : Int32) (4 : Int32) h ∧ (P_V_crash_41 fz x1 i2 (B_T_changeFates fz x1 (1 : Int32) (4 : Int32) h))
def B_V_crash (fz : Nat) (x1 : Int32) (h : HH) : Int32 × HH := if (B_V_isNode fz x1 h) = 0 then (((0 : Int32), h)) else (if (h (B_V_nodeOf fz x1 h) 10) = 0 then (((0 : Int32), h)) else (B_V_crash_31 fz x1 (B_V_nodeOf fz x1 h) (u2 h (B_V_nodeOf fz x1 h) 10 (0 : Int32))))
def P_V_crash (fz : Nat) (x1 : Int32) (h : HH) : Prop := P_V_isNode fz x1 h ∧ (((B_V_isNode fz x1 h) = 0 → (True)) ∧ (¬ (B_V_isNode fz x1 h) = 0 → (P_V_nodeOf fz x1 h ∧ (((h (B_V_nodeOf fz x1 h) 10) = 0 → (True)) ∧ (¬ (h (B_V_nodeOf fz x1 h) 10) = 0 → (P_V_nodeOf fz x1 h ∧ (P_V_crash_31 fz x1 (B_V_nodeOf fz x1 h) (u2 h (B_V_nodeOf fz x1 h) 10 (0 : Int32)))))))))
def B_E_allBlocks_4 (fz : Nat) : Nat → Nat → Int32 → Int32 → HH → Int32
  | 0, _, _, _, _ => 0
  | fu + 1, i0, x1, x2, h => if (h (i0 + 2) 1) ≤ x2 then (x1) else (B_E_allBlocks_4 fz fu i0 (x1 ||| (B_V_blocksOfExtent fz (h (i0 + 3) (ix x2)) h)) (x2 + 1) h)
def P_E_allBlocks_4 (fz : Nat) : Nat → Nat → Int32 → Int32 → HH → Prop
  | 0, _, _, _, _ => False
  | fu + 1, i0, x1, x2, h => ((h (i0 + 2) 1) ≤ x2 → (True)) ∧ (¬ (h (i0 + 2) 1) ≤ x2 → (vp_in x2 3 ∧ (P_V_blocksOfExtent fz (h (i0 + 3) (ix x2)) h ∧ (P_E_allBlocks_4 fz fu i0 (x1 ||| (B_V_blocksOfExtent fz (h (i0 + 3) (ix x2)) h)) (x2 + 1) h))))
def B_E_allBlocks (fz : Nat) (i0 : Nat) (h : HH) : Int32 := B_E_allBlocks_4 fz fz i0 (0 : Int32) (0 : Int32) h
def P_E_allBlocks (fz : Nat) (i0 : Nat) (h : HH) : Prop := P_E_allBlocks_4 fz fz i0 (0 : Int32) (0 : Int32) h
def B_V_restart_31 (fz : Nat) (i2 : Nat) (h : HH) : Int32 × HH := if (h i2 9) = 0 then (((1 : Int32), h)) else (((1 : Int32), (u2 h i2 5 ((h i2 5) ||| (B_E_allBlocks fz i2 h)))))
def P_V_restart_31 (fz : Nat) (i2 : Nat) (h : HH) : Prop := ((h i2 9) = 0 → (True)) ∧ (¬ (h i2 9) = 0 → (P_E_allBlocks fz i2 h ∧ (True)))
def B_V_restart (fz : Nat) (x1 : Int32) (h : HH) : Int32 × HH := if (B_V_isNode fz x1 h) = 0 then (((0 : Int32), h)) else (if (h (B_V_nodeOf fz x1 h) 10) = 0 then (B_V_restart_31 fz (B_V_nodeOf fz x1 h) (u2 h (B_V_nodeOf fz x1 h) 10 (1 : Int32))) else (((0 : Int32), h)))
def P_V_restart (fz : Nat) (x1 : Int32) (h : HH) : Prop := P_V_isNode fz x1 h ∧ (((B_V_isNode fz x1 h) = 0 → (True)) ∧ (¬ (B_V_isNode fz x1 h) = 0 → (P_V_nodeOf fz x1 h ∧ (((h (B_V_nodeOf fz x1 h) 10) = 0 → (P_V_nodeOf fz x1 h ∧ (P_V_restart_31 fz (B_V_nodeOf fz x1 h) (u2 h (B_V_nodeOf fz x1 h) 10 (1 : Int32))))) ∧ (¬ (h (B_V_nodeOf fz x1 h) 10) = 0 → (True))))))
def B_V_promote_56 (fz : Nat) (i2 : Nat) (h : HH) : Int32 × HH := ((0 : Int32), (u2 h i2 11 (1 : Int32)))
def P_V_promote_56 (fz : Nat) (i2 : Nat) (h : HH) : Prop := True
def B_V_promote (fz : Nat) (x1 : Int32) (h : HH) : Int32 × HH := if (B_V_isNode fz x1 h) = 0 then (((-1 : Int32), h)) else (if (h (B_V_nodeOf fz x1 h) 10) = 0 then (((-2 : Int32), h)) else (if (h (B_V_nodeOf fz x1 h) 8) = 0 then (if (h 0 3) = 0 then (B_V_promote_56 fz (B_V_nodeOf fz x1 h) h) else (if (h (B_V_peerOf fz x1 h) 11) = 0 then (B_V_promote_56 fz (B_V_nodeOf fz x1 h) h) else (((-7 : Int32), h)))) else (((-6 : Int32), h))))
def P_V_promote (fz : Nat) (x1 : Int32) (h : HH) : Prop := P_V_isNode fz x1 h ∧ (((B_V_isNode fz x1 h) = 0 → (True)) ∧ (¬ (B_V_isNode fz x1 h) = 0 → (P_V_nodeOf fz x1 h ∧ (((h (B_V_nodeOf fz x1 h) 10) = 0 → (True)) ∧ (¬ (h (B_V_nodeOf fz x1 h) 10) = 0 → (((h (B_V_nodeOf fz x1 h) 8) = 0 → (((h 0 3) = 0 → (P_V_promote_56 fz (B_V_nodeOf fz x1 h) h)) ∧ (¬ (h 0 3) = 0 → (P_V_peerOf fz x1 h ∧ (((h (B_V_peerOf fz x1 h) 11) = 0 → (P_V_promote_56 fz (B_V_nodeOf fz x1 h) h)) ∧ (¬ (h (B_V_peerOf fz x1 h) 11) = 0 → (True))))))) ∧ (¬ (h (B_V_nodeOf fz x1 h) 8) = 0 → (True))))))))
def B_V_demote (fz : Nat) (x1 : Int32) (h : HH) : Int32 × HH := if (B_V_isNode fz x1 h) = 0 then (((-1 : Int32), h)) else (if (h (B_V_nodeOf fz x1 h) 10) = 0 then (((-2 : Int32), h)) else (if (h (B_V_nodeOf fz x1 h) 11) = 0 then (((-3 : Int32), h)) else (if (B_T_countPending fz x1 h) ≤ 0 then (((0 : Int32), (u2 h (B_V_nodeOf fz x1 h) 11 (0 : Int32)))) else (((-5 : Int32), h)))))
def P_V_demote (fz : Nat) (x1 : Int32) (h : HH) : Prop := P_V_isNode fz x1 h ∧ (((B_V_isNode fz x1 h) = 0 → (True)) ∧ (¬ (B_V_isNode fz x1 h) = 0 → (P_V_nodeOf fz x1 h ∧ (((h (B_V_nodeOf fz x1 h) 10) = 0 → (True)) ∧ (¬ (h (B_V_nodeOf fz x1 h) 10) = 0 → (((h (B_V_nodeOf fz x1 h) 11) = 0 → (True)) ∧ (¬ (h (B_V_nodeOf fz x1 h) 11) = 0 → (P_T_countPending fz x1 h ∧ (((B_T_countPending fz x1 h) ≤ 0 → (True)) ∧ (¬ (B_T_countPending fz x1 h) ≤ 0 → (True)))))))))))
def B_V_discard_74 (fz : Nat) (x1 : Int32) (h : HH) : Int32 × HH := ((1 : Int32), (B_T_changeFates fz x1 (3 : Int32) (4 : Int32) h))
def P_V_discard_74 (fz : Nat) (x1 : Int32) (h : HH) : Prop := P_T_changeFates fz x1 (3 : Int32) (4 : Int32) h ∧ (True)
def B_V_discard (fz : Nat) (x1 : Int32) (h : HH) : Int32 × HH := if (B_V_isNode fz x1 h) = 0 then (((0 : Int32), h)) else (if (h 0 3) = 0 then (if (h (B_V_nodeOf fz x1 h) 10) = 0 then (((0 : Int32), h)) else (if (h (B_V_nodeOf fz x1 h) 11) = 0 then (if (h (B_V_peerOf fz x1 h) 8) = 0 then (B_V_discard_74 fz x1 (u2 (u2 (u2 (u2 (u2 h (B_V_nodeOf fz x1 h) 8 (1 : Int32)) (B_V_nodeOf fz x1 h) 9 (0 : Int32)) (B_V_nodeOf fz x1 h) 6 (0 : Int32)) (B_V_nodeOf fz x1 h) 7 (0 : Int32)) (B_V_nodeOf fz x1 h) 5 (0 : Int32))) else (((0 : Int32), h))) else (((0 : Int32), h)))) else (((0 : Int32), h)))
def P_V_discard (fz : Nat) (x1 : Int32) (h : HH) : Prop := P_V_isNode fz x1 h ∧ (((B_V_isNode fz x1 h) = 0 → (True)) ∧ (¬ (B_V_isNode fz x1 h) = 0 → (((h 0 3) = 0 → (P_V_nodeOf fz x1 h ∧ (((h (B_V_nodeOf fz x1 h) 10) = 0 → (True)) ∧ (¬ (h (B_V_nodeOf fz x1 h) 10) = 0 → (((h (B_V_nodeOf fz x1 h) 11) = 0 → (P_V_peerOf fz x1 h ∧ (((h (B_V_peerOf fz x1 h) 8) = 0 → (P_V_discard_74 fz x1 (u2 (u2 (u2 (u2 (u2 h (B_V_nodeOf fz x1 h) 8 (1 : Int32)) (B_V_nodeOf fz x1 h) 9 (0 : Int32)) (B_V_nodeOf fz x1 h) 6 (0 : Int32)) (B_V_nodeOf fz x1 h) 7 (0 : Int32)) (B_V_nodeOf fz x1 h) 5 (0 : Int32)))) ∧ (¬ (h (B_V_peerOf fz x1 h) 8) = 0 → (True))))) ∧ (¬ (h (B_V_nodeOf fz x1 h) 11) = 0 → (True))))))) ∧ (¬ (h 0 3) = 0 → (True)))))
def B_V_disk (fz : Nat) (x1 : Int32) (x2 : Int32) (h : HH) : Int32 := if (B_V_isNode fz x1 h) = 0 then ((0 : Int32)) else (if (B_V_isBlock fz x2 h) = 0 then ((0 : Int32)) else ((h ((B_V_nodeOf fz x1 h) + 1) (ix x2))))
def P_V_disk (fz : Nat) (x1 : Int32) (x2 : Int32) (h : HH) : Prop := P_V_isNode fz x1 h ∧ (((B_V_isNode fz x1 h) = 0 → (True)) ∧ (¬ (B_V_isNode fz x1 h) = 0 → (P_V_isBlock fz x2 h ∧ (((B_V_isBlock fz x2 h) = 0 → (True)) ∧ (¬ (B_V_isBlock fz x2 h) = 0 → (P_V_nodeOf fz x1 h ∧ (vp_in x2 32 ∧ (True))))))))
def B_T_has (fz : Nat) (x1 : Int32) (h : HH) : Int32 := if x1 < (1 : Int32) then ((0 : Int32)) else (if (h 21 5) < x1 then ((0 : Int32)) else ((1 : Int32)))
def P_T_has (fz : Nat) (x1 : Int32) (h : HH) : Prop := (x1 < (1 : Int32) → (True)) ∧ (¬ x1 < (1 : Int32) → (((h 21 5) < x1 → (True)) ∧ (¬ (h 21 5) < x1 → (True))))
def B_V_fate (fz : Nat) (x1 : Int32) (h : HH) : Int32 := if (B_T_has fz x1 h) = 0 then ((0 : Int32)) else ((h 26 (ix x1)))
def P_V_fate (fz : Nat) (x1 : Int32) (h : HH) : Prop := P_T_has fz x1 h ∧ (((B_T_has fz x1 h) = 0 → (True)) ∧ (¬ (B_T_has fz x1 h) = 0 → (vp_in x1 301 ∧ (True))))
def B_V_state_120 (fz : Nat) (y0 : Int32) (y1 : Int32) (h : HH) : Int32 := (y0 + y1)
def P_V_state_120 (fz : Nat) (y0 : Int32) (y1 : Int32) (h : HH) : Prop := True
def B_V_state_104 (fz : Nat) (i2 : Nat) (y0 : Int32) (y1 : Int32) (h : HH) : Int32 := if (h i2 13) = 0 then (B_V_state_120 fz (y0 + y1) (0 : Int32) h) else (B_V_state_120 fz (y0 + y1) (64 : Int32) h)
def P_V_state_104 (fz : Nat) (i2 : Nat) (y0 : Int32) (y1 : Int32) (h : HH) : Prop := ((h i2 13) = 0 → (P_V_state_120 fz (y0 + y1) (0 : Int32) h)) ∧ (¬ (h i2 13) = 0 → (P_V_state_120 fz (y0 + y1) (64 : Int32) h))
def B_V_state_88 (fz : Nat) (i2 : Nat) (y0 : Int32) (y1 : Int32) (h : HH) : Int32 := if (h i2 12) = 0 then (B_V_state_104 fz i2 (y0 + y1) (0 : Int32) h) else (B_V_state_104 fz i2 (y0 + y1) (32 : Int32) h)
def P_V_state_88 (fz : Nat) (i2 : Nat) (y0 : Int32) (y1 : Int32) (h : HH) : Prop := ((h i2 12) = 0 → (P_V_state_104 fz i2 (y0 + y1) (0 : Int32) h)) ∧ (¬ (h i2 12) = 0 → (P_V_state_104 fz i2 (y0 + y1) (32 : Int32) h))
def B_V_state_72 (fz : Nat) (i2 : Nat) (y0 : Int32) (y1 : Int32) (h : HH) : Int32 := if (h 0 3) = 0 then (B_V_state_88 fz i2 (y0 + y1) (0 : Int32) h) else (B_V_state_88 fz i2 (y0 + y1) (16 : Int32) h)
def P_V_state_72 (fz : Nat) (i2 : Nat) (y0 : Int32) (y1 : Int32) (h : HH) : Prop := ((h 0 3) = 0 → (P_V_state_88 fz i2 (y0 + y1) (0 : Int32) h)) ∧ (¬ (h 0 3) = 0 → (P_V_state_88 fz i2 (y0 + y1) (16 : Int32) h))
def B_V_state_56 (fz : Nat) (i2 : Nat) (y0 : Int32) (y1 : Int32) (h : HH) : Int32 := if (h i2 9) = 0 then (B_V_state_72 fz i2 (y0 + y1) (0 : Int32) h) else (B_V_state_72 fz i2 (y0 + y1) (8 : Int32) h)
def P_V_state_56 (fz : Nat) (i2 : Nat) (y0 : Int32) (y1 : Int32) (h : HH) : Prop := ((h i2 9) = 0 → (P_V_state_72 fz i2 (y0 + y1) (0 : Int32) h)) ∧ (¬ (h i2 9) = 0 → (P_V_state_72 fz i2 (y0 + y1) (8 : Int32) h))
def B_V_state_41 (fz : Nat) (i2 : Nat) (y0 : Int32) (y1 : Int32) (h : HH) : Int32 := if (h i2 8) = 0 then (B_V_state_56 fz i2 (y0 + y1) (0 : Int32) h) else (B_V_state_56 fz i2 (y0 + y1) (4 : Int32) h)
def P_V_state_41 (fz : Nat) (i2 : Nat) (y0 : Int32) (y1 : Int32) (h : HH) : Prop := ((h i2 8) = 0 → (P_V_state_56 fz i2 (y0 + y1) (0 : Int32) h)) ∧ (¬ (h i2 8) = 0 → (P_V_state_56 fz i2 (y0 + y1) (4 : Int32) h))
def B_V_state_27 (fz : Nat) (i2 : Nat) (y0 : Int32) (h : HH) : Int32 := if (h i2 11) = 0 then (B_V_state_41 fz i2 y0 (0 : Int32) h) else (B_V_state_41 fz i2 y0 (2 : Int32) h)
def P_V_state_27 (fz : Nat) (i2 : Nat) (y0 : Int32) (h : HH) : Prop := ((h i2 11) = 0 → (P_V_state_41 fz i2 y0 (0 : Int32) h)) ∧ (¬ (h i2 11) = 0 → (P_V_state_41 fz i2 y0 (2 : Int32) h))
def B_V_state (fz : Nat) (x1 : Int32) (h : HH) : Int32 := if (B_V_isNode fz x1 h) = 0 then ((-1 : Int32)) else (if (h (B_V_nodeOf fz x1 h) 10) = 0 then (B_V_state_27 fz (B_V_nodeOf fz x1 h) (0 : Int32) h) else (B_V_state_27 fz (B_V_nodeOf fz x1 h) (1 : Int32) h))
def P_V_state (fz : Nat) (x1 : Int32) (h : HH) : Prop := P_V_isNode fz x1 h ∧ (((B_V_isNode fz x1 h) = 0 → (True)) ∧ (¬ (B_V_isNode fz x1 h) = 0 → (P_V_nodeOf fz x1 h ∧ (((h (B_V_nodeOf fz x1 h) 10) = 0 → (P_V_state_27 fz (B_V_nodeOf fz x1 h) (0 : Int32) h)) ∧ (¬ (h (B_V_nodeOf fz x1 h) 10) = 0 → (P_V_state_27 fz (B_V_nodeOf fz x1 h) (1 : Int32) h))))))
def B_V_generation (fz : Nat) (x1 : Int32) (h : HH) : Int64 := if (B_V_isNode fz x1 h) = 0 then ((0 : Int64)) else ((((((h (B_V_nodeOf fz x1 h) 6)).toInt64) <<< (((32 : Int32)).toInt64 &&& 63)) + (((h (B_V_nodeOf fz x1 h) 7)).toInt64)))
def P_V_generation (fz : Nat) (x1 : Int32) (h : HH) : Prop := P_V_isNode fz x1 h ∧ (((B_V_isNode fz x1 h) = 0 → (True)) ∧ (¬ (B_V_isNode fz x1 h) = 0 → (P_V_nodeOf fz x1 h ∧ (P_V_nodeOf fz x1 h ∧ (True)))))
def B_V_map (fz : Nat) (x1 : Int32) (h : HH) : Int32 := if (B_V_isNode fz x1 h) = 0 then ((0 : Int32)) else ((h (B_V_nodeOf fz x1 h) 5))
def P_V_map (fz : Nat) (x1 : Int32) (h : HH) : Prop := P_V_isNode fz x1 h ∧ (((B_V_isNode fz x1 h) = 0 → (True)) ∧ (¬ (B_V_isNode fz x1 h) = 0 → (P_V_nodeOf fz x1 h ∧ (True))))
def B_E_extentAt (fz : Nat) (i0 : Nat) (x1 : Int32) (h : HH) : Int32 := if x1 < 0 then ((-1 : Int32)) else (if (h (i0 + 2) 1) ≤ x1 then ((-1 : Int32)) else ((h (i0 + 3) (ix x1))))
def P_E_extentAt (fz : Nat) (i0 : Nat) (x1 : Int32) (h : HH) : Prop := (x1 < 0 → (True)) ∧ (¬ x1 < 0 → (((h (i0 + 2) 1) ≤ x1 → (True)) ∧ (¬ (h (i0 + 2) 1) ≤ x1 → (vp_in x1 3 ∧ (True)))))
def B_V_log (fz : Nat) (x1 : Int32) (x2 : Int32) (h : HH) : Int32 := if (B_V_isNode fz x1 h) = 0 then ((-1 : Int32)) else ((B_E_extentAt fz (B_V_nodeOf fz x1 h) x2 h))
def P_V_log (fz : Nat) (x1 : Int32) (x2 : Int32) (h : HH) : Prop := P_V_isNode fz x1 h ∧ (((B_V_isNode fz x1 h) = 0 → (True)) ∧ (¬ (B_V_isNode fz x1 h) = 0 → (P_V_nodeOf fz x1 h ∧ (P_E_extentAt fz (B_V_nodeOf fz x1 h) x2 h ∧ (True)))))
def B_V_traffic (fz : Nat) (x1 : Int32) (h : HH) : Int32 := if (B_V_isNode fz x1 h) = 0 then ((0 : Int32)) else ((((h ((B_V_nodeOf fz x1 h) + 4) 4) + ((100 : Int32) * (h ((B_V_nodeOf fz x1 h) + 8) 1))) + ((10000 : Int32) * (B_I_bitCount fz (h (B_V_nodeOf fz x1 h) 14) h))))
def P_V_traffic (fz : Nat) (x1 : Int32) (h : HH) : Prop := P_V_isNode fz x1 h ∧ (((B_V_isNode fz x1 h) = 0 → (True)) ∧ (¬ (B_V_isNode fz x1 h) = 0 → (P_V_nodeOf fz x1 h ∧ (P_I_bitCount fz (h (B_V_nodeOf fz x1 h) 14) h ∧ (True)))))
def B_M_isNode (fz : Nat) (x0 : Int32) (h : HH) : Int32 := if x0 = 0 then ((1 : Int32)) else (if x0 = (1 : Int32) then ((1 : Int32)) else ((0 : Int32)))
def P_M_isNode (fz : Nat) (x0 : Int32) (h : HH) : Prop := (x0 = 0 → (True)) ∧ (¬ x0 = 0 → ((x0 = (1 : Int32) → (True)) ∧ (¬ x0 = (1 : Int32) → (True))))
def B_M_isBlock (fz : Nat) (x0 : Int32) (h : HH) : Int32 := if x0 < 0 then ((0 : Int32)) else (if (31 : Int32) < x0 then ((0 : Int32)) else ((1 : Int32)))
def P_M_isBlock (fz : Nat) (x0 : Int32) (h : HH) : Prop := (x0 < 0 → (True)) ∧ (¬ x0 < 0 → (((31 : Int32) < x0 → (True)) ∧ (¬ (31 : Int32) < x0 → (True))))
def B_M_pending_6 (fz : Nat) : Nat → Int32 → Int32 → Int32 → Int32 → Int32 → HH → Int32
  | 0, _, _, _, _, _, _ => 0
  | fu + 1, x1, x2, x3, x4, x5, h => if (h 27 0) < x5 then (x4) else (if (h 32 (ix x5)) = (1 : Int32) then (if (h 28 (ix x5)) = x1 then (if (h 29 (ix x5)) < x2 then (B_M_pending_6 fz fu x1 x2 x3 x4 (x5 + 1) h) else (if x3 < (h 29 (ix x5)) then (B_M_pending_6 fz fu x1 x2 x3 x4 (x5 + 1) h) else (B_M_pending_6 fz fu x1 x2 x3 (x4 + 1) (x5 + 1) h))) else (B_M_pending_6 fz fu x1 x2 x3 x4 (x5 + 1) h)) else (B_M_pending_6 fz fu x1 x2 x3 x4 (x5 + 1) h))
def P_M_pending_6 (fz : Nat) : Nat → Int32 → Int32 → Int32 → Int32 → Int32 → HH → Prop
  | 0, _, _, _, _, _, _ => False
  | fu + 1, x1, x2, x3, x4, x5, h => ((h 27 0) < x5 → (True)) ∧ (¬ (h 27 0) < x5 → (vp_in x5 301 ∧ (((h 32 (ix x5)) = (1 : Int32) → (vp_in x5 301 ∧ (((h 28 (ix x5)) = x1 → (vp_in x5 301 ∧ (((h 29 (ix x5)) < x2 → (P_M_pending_6 fz fu x1 x2 x3 x4 (x5 + 1) h)) ∧ (¬ (h 29 (ix x5)) < x2 → (vp_in x5 301 ∧ ((x3 < (h 29 (ix x5)) → (P_M_pending_6 fz fu x1 x2 x3 x4 (x5 + 1) h)) ∧ (¬ x3 < (h 29 (ix x5)) → (P_M_pending_6 fz fu x1 x2 x3 (x4 + 1) (x5 + 1) h)))))))) ∧ (¬ (h 28 (ix x5)) = x1 → (P_M_pending_6 fz fu x1 x2 x3 x4 (x5 + 1) h))))) ∧ (¬ (h 32 (ix x5)) = (1 : Int32) → (P_M_pending_6 fz fu x1 x2 x3 x4 (x5 + 1) h)))))
def B_M_pending (fz : Nat) (x1 : Int32) (x2 : Int32) (x3 : Int32) (h : HH) : Int32 := B_M_pending_6 fz fz x1 x2 x3 (0 : Int32) (1 : Int32) h
def P_M_pending (fz : Nat) (x1 : Int32) (x2 : Int32) (x3 : Int32) (h : HH) : Prop := P_M_pending_6 fz fz x1 x2 x3 (0 : Int32) (1 : Int32) h
def B_M_inLog_4 (fz : Nat) : Nat → Int32 → Int32 → Int32 → HH → Int32
  | 0, _, _, _, _ => 0
  | fu + 1, x1, x2, x3, h => if (8 : Int32) ≤ x3 then (x2) else (if (h 36 (ix (((8 : Int32) * x1) + x3))) = 0 then (B_M_inLog_4 fz fu x1 x2 (x3 + 1) h) else (B_M_inLog_4 fz fu x1 (x2 + (1 : Int32)) (x3 + 1) h))
def P_M_inLog_4 (fz : Nat) : Nat → Int32 → Int32 → Int32 → HH → Prop
  | 0, _, _, _, _ => False
  | fu + 1, x1, x2, x3, h => ((8 : Int32) ≤ x3 → (True)) ∧ (¬ (8 : Int32) ≤ x3 → (vp_in (((8 : Int32) * x1) + x3) 16 ∧ (((h 36 (ix (((8 : Int32) * x1) + x3))) = 0 → (P_M_inLog_4 fz fu x1 x2 (x3 + 1) h)) ∧ (¬ (h 36 (ix (((8 : Int32) * x1) + x3))) = 0 → (P_M_inLog_4 fz fu x1 (x2 + (1 : Int32)) (x3 + 1) h)))))
def B_M_inLog (fz : Nat) (x1 : Int32) (h : HH) : Int32 := B_M_inLog_4 fz fz x1 (0 : Int32) (0 : Int32) h
def P_M_inLog (fz : Nat) (x1 : Int32) (h : HH) : Prop := P_M_inLog_4 fz fz x1 (0 : Int32) (0 : Int32) h
def B_M_idle_4 (fz : Nat) : Nat → Int32 → Int32 → Int32 → HH → Int32
  | 0, _, _, _, _ => 0
  | fu + 1, x1, x2, x3, h => if (8 : Int32) ≤ x3 then (x2) else (if (h 36 (ix (((8 : Int32) * x1) + x3))) = 0 then (B_M_idle_4 fz fu x1 x2 (x3 + 1) h) else (if (B_M_pending fz x1 ((4 : Int32) * x3) (((4 : Int32) * x3) + (3 : Int32)) h) = 0 then (if x2 < 0 then (B_M_idle_4 fz fu x1 x3 (x3 + 1) h) else (if (h 37 (ix (((8 : Int32) * x1) + x2))) ≤ (h 37 (ix (((8 : Int32) * x1) + x3))) then (B_M_idle_4 fz fu x1 x2 (x3 + 1) h) else (B_M_idle_4 fz fu x1 x3 (x3 + 1) h))) else (B_M_idle_4 fz fu x1 x2 (x3 + 1) h)))
def P_M_idle_4 (fz : Nat) : Nat → Int32 → Int32 → Int32 → HH → Prop
  | 0, _, _, _, _ => False
  | fu + 1, x1, x2, x3, h => ((8 : Int32) ≤ x3 → (True)) ∧ (¬ (8 : Int32) ≤ x3 → (vp_in (((8 : Int32) * x1) + x3) 16 ∧ (((h 36 (ix (((8 : Int32) * x1) + x3))) = 0 → (P_M_idle_4 fz fu x1 x2 (x3 + 1) h)) ∧ (¬ (h 36 (ix (((8 : Int32) * x1) + x3))) = 0 → (P_M_pending fz x1 ((4 : Int32) * x3) (((4 : Int32) * x3) + (3 : Int32)) h ∧ (((B_M_pending fz x1 ((4 : Int32) * x3) (((4 : Int32) * x3) + (3 : Int32)) h) = 0 → ((x2 < 0 → (P_M_idle_4 fz fu x1 x3 (x3 + 1) h)) ∧ (¬ x2 < 0 → (vp_in (((8 : Int32) * x1) + x3) 16 ∧ (vp_in (((8 : Int32) * x1) + x2) 16 ∧ (((h 37 (ix (((8 : Int32) * x1) + x2))) ≤ (h 37 (ix (((8 : Int32) * x1) + x3))) → (P_M_idle_4 fz fu x1 x2 (x3 + 1) h)) ∧ (¬ (h 37 (ix (((8 : Int32) * x1) + x2))) ≤ (h 37 (ix (((8 : Int32) * x1) + x3))) → (P_M_idle_4 fz fu x1 x3 (x3 + 1) h)))))))) ∧ (¬ (B_M_pending fz x1 ((4 : Int32) * x3) (((4 : Int32) * x3) + (3 : Int32)) h) = 0 → (P_M_idle_4 fz fu x1 x2 (x3 + 1) h))))))))
def B_M_idle (fz : Nat) (x1 : Int32) (h : HH) : Int32 := B_M_idle_4 fz fz x1 (-1 : Int32) (0 : Int32) h
def P_M_idle (fz : Nat) (x1 : Int32) (h : HH) : Prop := P_M_idle_4 fz fz x1 (-1 : Int32) (0 : Int32) h
def B_M_nothingInMap_4 (fz : Nat) : Nat → Int32 → Int32 → Int32 → HH → Int32
  | 0, _, _, _, _ => 0
  | fu + 1, x1, x2, x3, h => if (32 : Int32) ≤ x3 then (x2) else (if x2 = 0 then (B_M_nothingInMap_4 fz fu x1 (0 : Int32) (x3 + 1) h) else (if (h 35 (ix (((32 : Int32) * x1) + x3))) = 0 then (B_M_nothingInMap_4 fz fu x1 (1 : Int32) (x3 + 1) h) else (B_M_nothingInMap_4 fz fu x1 (0 : Int32) (x3 + 1) h)))
def P_M_nothingInMap_4 (fz : Nat) : Nat → Int32 → Int32 → Int32 → HH → Prop
  | 0, _, _, _, _ => False
  | fu + 1, x1, x2, x3, h => ((32 : Int32) ≤ x3 → (narrow .boolean (.int x2) = .int x2)) ∧ (¬ (32 : Int32) ≤ x3 → ((x2 = 0 → (P_M_nothingInMap_4 fz fu x1 (0 : Int32) (x3 + 1) h)) ∧ (¬ x2 = 0 → (vp_in (((32 : Int32) * x1) + x3) 64 ∧ (((h 35 (ix (((32 : Int32) * x1) + x3))) = 0 → (P_M_nothingInMap_4 fz fu x1 (1 : Int32) (x3 + 1) h)) ∧ (¬ (h 35 (ix (((32 : Int32) * x1) + x3))) = 0 → (P_M_nothingInMap_4 fz fu x1 (0 : Int32) (x3 + 1) h)))))))
def B_M_nothingInMap (fz : Nat) (x1 : Int32) (h : HH) : Int32 := B_M_nothingInMap_4 fz fz x1 (1 : Int32) (0 : Int32) h
def P_M_nothingInMap (fz : Nat) (x1 : Int32) (h : HH) : Prop := P_M_nothingInMap_4 fz fz x1 (1 : Int32) (0 : Int32) h
def B_M_onTheWay_9 (fz : Nat) : Nat → Int32 → Int32 → Int32 → Int32 → Int32 → HH → Int32
  | 0, _, _, _, _, _, _ => 0
  | fu + 1, x1, x2, x3, x4, x5, h => if (((64 : Int32) * x1) + (h 51 (ix x1))) ≤ x5 then (x4) else (if (h 48 (ix x5)) = x2 then (if x3 < 0 then (B_M_onTheWay_9 fz fu x1 x2 x3 (x4 + 1) (x5 + 1) h) else (if (h 49 (ix x5)) = x3 then (B_M_onTheWay_9 fz fu x1 x2 x3 (x4 + 1) (x5 + 1) h) else (B_M_onTheWay_9 fz fu x1 x2 x3 x4 (x5 + 1) h))) else (B_M_onTheWay_9 fz fu x1 x2 x3 x4 (x5 + 1) h))
def P_M_onTheWay_9 (fz : Nat) : Nat → Int32 → Int32 → Int32 → Int32 → Int32 → HH → Prop
  | 0, _, _, _, _, _, _ => False
  | fu + 1, x1, x2, x3, x4, x5, h => vp_in x1 2 ∧ (((((64 : Int32) * x1) + (h 51 (ix x1))) ≤ x5 → (True)) ∧ (¬ (((64 : Int32) * x1) + (h 51 (ix x1))) ≤ x5 → (vp_in x5 128 ∧ (((h 48 (ix x5)) = x2 → ((x3 < 0 → (P_M_onTheWay_9 fz fu x1 x2 x3 (x4 + 1) (x5 + 1) h)) ∧ (¬ x3 < 0 → (vp_in x5 128 ∧ (((h 49 (ix x5)) = x3 → (P_M_onTheWay_9 fz fu x1 x2 x3 (x4 + 1) (x5 + 1) h)) ∧ (¬ (h 49 (ix x5)) = x3 → (P_M_onTheWay_9 fz fu x1 x2 x3 x4 (x5 + 1) h))))))) ∧ (¬ (h 48 (ix x5)) = x2 → (P_M_onTheWay_9 fz fu x1 x2 x3 x4 (x5 + 1) h))))))
def B_M_onTheWay (fz : Nat) (x1 : Int32) (x2 : Int32) (x3 : Int32) (h : HH) : Int32 := B_M_onTheWay_9 fz fz x1 x2 x3 (0 : Int32) ((64 : Int32) * x1) h
def P_M_onTheWay (fz : Nat) (x1 : Int32) (x2 : Int32) (x3 : Int32) (h : HH) : Prop := P_M_onTheWay_9 fz fz x1 x2 x3 (0 : Int32) ((64 : Int32) * x1) h
def B_M_underWay (fz : Nat) (x1 : Int32) (x2 : Int32) (h : HH) : Int32 := ((B_M_onTheWay fz x1 (3 : Int32) x2 h) + (B_M_onTheWay fz ((1 : Int32) - x1) (4 : Int32) x2 h))
def P_M_underWay (fz : Nat) (x1 : Int32) (x2 : Int32) (h : HH) : Prop := P_M_onTheWay fz x1 (3 : Int32) x2 h ∧ (P_M_onTheWay fz ((1 : Int32) - x1) (4 : Int32) x2 h ∧ (True))
def B_M_send_38 (fz : Nat) (x1 : Int32) (h : HH) : HH := (u2 h 51 (ix x1) ((h 51 (ix x1)) + (1 : Int32)))
def P_M_send_38 (fz : Nat) (x1 : Int32) (h : HH) : Prop := vp_in x1 2 ∧ (vp_in x1 2 ∧ (True))
def B_M_send (fz : Nat) (x1 : Int32) (x2 : Int32) (x3 : Int32) (x4 : Int32) (h : HH) : HH := B_M_send_38 fz x1 (u2 (u2 (u2 h 48 (ix (((64 : Int32) * x1) + (h 51 (ix x1)))) x2) 49 (ix (((64 : Int32) * x1) + (h 51 (ix x1)))) x3) 50 (ix (((64 : Int32) * x1) + (h 51 (ix x1)))) x4)
def P_M_send (fz : Nat) (x1 : Int32) (x2 : Int32) (x3 : Int32) (x4 : Int32) (h : HH) : Prop := vp_in x1 2 ∧ (vp_in (((64 : Int32) * x1) + (h 51 (ix x1))) 128 ∧ (vp_in (((64 : Int32) * x1) + (h 51 (ix x1))) 128 ∧ (vp_in (((64 : Int32) * x1) + (h 51 (ix x1))) 128 ∧ (P_M_send_38 fz x1 (u2 (u2 (u2 h 48 (ix (((64 : Int32) * x1) + (h 51 (ix x1)))) x2) 49 (ix (((64 : Int32) * x1) + (h 51 (ix x1)))) x3) 50 (ix (((64 : Int32) * x1) + (h 51 (ix x1)))) x4)))))
def B_M_alone_62 (fz : Nat) (x2 : Int32) (h : HH) : HH := (u2 h 38 (ix x2) (h 27 14))
def P_M_alone_62 (fz : Nat) (x2 : Int32) (h : HH) : Prop := vp_in x2 2 ∧ (True)
def B_M_alone_52 (fz : Nat) (x2 : Int32) (h : HH) : HH := B_M_alone_62 fz x2 (u2 h 27 14 ((h 27 14) + (1 : Int32)))
def P_M_alone_52 (fz : Nat) (x2 : Int32) (h : HH) : Prop := P_M_alone_62 fz x2 (u2 h 27 14 ((h 27 14) + (1 : Int32)))
def B_M_alone_31 (fz : Nat) (x2 : Int32) (h : HH) : HH := if (h 39 (ix x2)) = 0 then (B_M_alone_52 fz x2 (u2 h 39 (ix x2) (h 38 (ix x2)))) else (h)
def P_M_alone_31 (fz : Nat) (x2 : Int32) (h : HH) : Prop := vp_in x2 2 ∧ (((h 39 (ix x2)) = 0 → (vp_in x2 2 ∧ (vp_in x2 2 ∧ (P_M_alone_52 fz x2 (u2 h 39 (ix x2) (h 38 (ix x2))))))) ∧ (¬ (h 39 (ix x2)) = 0 → (True)))
def B_M_alone_14 (fz : Nat) (x1 : Int32) (x2 : Int32) (h : HH) : HH := B_M_alone_31 fz x2 (u2 h 35 (ix (((32 : Int32) * x2) + (h 29 (ix x1)))) (1 : Int32))
def P_M_alone_14 (fz : Nat) (x1 : Int32) (x2 : Int32) (h : HH) : Prop := vp_in x1 301 ∧ (vp_in (((32 : Int32) * x2) + (h 29 (ix x1))) 64 ∧ (P_M_alone_31 fz x2 (u2 h 35 (ix (((32 : Int32) * x2) + (h 29 (ix x1)))) (1 : Int32))))
def B_M_alone (fz : Nat) (x1 : Int32) (h : HH) : HH := B_M_alone_14 fz x1 (h 28 (ix x1)) (u2 h 32 (ix x1) (3 : Int32))
def P_M_alone (fz : Nat) (x1 : Int32) (h : HH) : Prop := vp_in x1 301 ∧ (vp_in x1 301 ∧ (P_M_alone_14 fz x1 (h 28 (ix x1)) (u2 h 32 (ix x1) (3 : Int32))))
def B_M_turnInto_3 (fz : Nat) : Nat → Int32 → Int32 → Int32 → Int32 → HH → HH
  | 0, _, _, _, _, h => h
  | fu + 1, x1, x2, x3, x4, h => if (h 27 0) < x4 then (h) else (if (h 28 (ix x4)) = x1 then (if (h 32 (ix x4)) = x2 then (B_M_turnInto_3 fz fu x1 x2 x3 (x4 + 1) (u2 h 32 (ix x4) x3)) else (B_M_turnInto_3 fz fu x1 x2 x3 (x4 + 1) h)) else (B_M_turnInto_3 fz fu x1 x2 x3 (x4 + 1) h))
def P_M_turnInto_3 (fz : Nat) : Nat → Int32 → Int32 → Int32 → Int32 → HH → Prop
  | 0, _, _, _, _, _ => False
  | fu + 1, x1, x2, x3, x4, h => ((h 27 0) < x4 → (True)) ∧ (¬ (h 27 0) < x4 → (vp_in x4 301 ∧ (((h 28 (ix x4)) = x1 → (vp_in x4 301 ∧ (((h 32 (ix x4)) = x2 → (vp_in x4 301 ∧ (P_M_turnInto_3 fz fu x1 x2 x3 (x4 + 1) (u2 h 32 (ix x4) x3)))) ∧ (¬ (h 32 (ix x4)) = x2 → (P_M_turnInto_3 fz fu x1 x2 x3 (x4 + 1) h))))) ∧ (¬ (h 28 (ix x4)) = x1 → (P_M_turnInto_3 fz fu x1 x2 x3 (x4 + 1) h)))))
def B_M_turnInto (fz : Nat) (x1 : Int32) (x2 : Int32) (x3 : Int32) (h : HH) : HH := B_M_turnInto_3 fz fz x1 x2 x3 (1 : Int32) h
def P_M_turnInto (fz : Nat) (x1 : Int32) (x2 : Int32) (x3 : Int32) (h : HH) : Prop := P_M_turnInto_3 fz fz x1 x2 x3 (1 : Int32) h
def B_M_endIfEmpty_37 (fz : Nat) (x1 : Int32) (h : HH) : HH := (B_M_send fz x1 (5 : Int32) (h 38 (ix x1)) (0 : Int32) h)
def P_M_endIfEmpty_37 (fz : Nat) (x1 : Int32) (h : HH) : Prop := vp_in x1 2 ∧ (P_M_send fz x1 (5 : Int32) (h 38 (ix x1)) (0 : Int32) h ∧ (True))
def B_M_endIfEmpty_30 (fz : Nat) (x1 : Int32) (h : HH) : HH := B_M_endIfEmpty_37 fz x1 (B_M_turnInto fz x1 (3 : Int32) (2 : Int32) h)
def P_M_endIfEmpty_30 (fz : Nat) (x1 : Int32) (h : HH) : Prop := P_M_turnInto fz x1 (3 : Int32) (2 : Int32) h ∧ (P_M_endIfEmpty_37 fz x1 (B_M_turnInto fz x1 (3 : Int32) (2 : Int32) h))
def B_M_endIfEmpty (fz : Nat) (x1 : Int32) (h : HH) : HH := if (B_M_nothingInMap fz x1 h) = 0 then (h) else (B_M_endIfEmpty_30 fz x1 (u2 (u2 (u2 h 44 (ix x1) (0 : Int32)) 41 (ix x1) (0 : Int32)) 39 (ix x1) (0 : Int32)))
def P_M_endIfEmpty (fz : Nat) (x1 : Int32) (h : HH) : Prop := P_M_nothingInMap fz x1 h ∧ (((B_M_nothingInMap fz x1 h) = 0 → (True)) ∧ (¬ (B_M_nothingInMap fz x1 h) = 0 → (vp_in x1 2 ∧ (vp_in x1 2 ∧ (vp_in x1 2 ∧ (P_M_endIfEmpty_30 fz x1 (u2 (u2 (u2 h 44 (ix x1) (0 : Int32)) 41 (ix x1) (0 : Int32)) 39 (ix x1) (0 : Int32))))))))
def B_M_breakLink_41 (fz : Nat) : Nat → Int32 → HH → HH
  | 0, _, h => h
  | fu + 1, x1, h => if (h 27 0) < x1 then (h) else (if ((u2 h 33 (ix x1) (0 : Int32)) 32 (ix x1)) = (1 : Int32) then (B_M_breakLink_41 fz fu (x1 + 1) (B_M_alone fz x1 (u2 h 33 (ix x1) (0 : Int32)))) else (B_M_breakLink_41 fz fu (x1 + 1) (u2 h 33 (ix x1) (0 : Int32))))
def P_M_breakLink_41 (fz : Nat) : Nat → Int32 → HH → Prop
  | 0, _, _ => False
  | fu + 1, x1, h => ((h 27 0) < x1 → (True)) ∧ (¬ (h 27 0) < x1 → (vp_in x1 301 ∧ (vp_in x1 301 ∧ ((((u2 h 33 (ix x1) (0 : Int32)) 32 (ix x1)) = (1 : Int32) → (P_M_alone fz x1 (u2 h 33 (ix x1) (0 : Int32)) ∧ (P_M_breakLink_41 fz fu (x1 + 1) (B_M_alone fz x1 (u2 h 33 (ix x1) (0 : Int32)))))) ∧ (¬ ((u2 h 33 (ix x1) (0 : Int32)) 32 (ix x1)) = (1 : Int32) → (P_M_breakLink_41 fz fu (x1 + 1) (u2 h 33 (ix x1) (0 : Int32))))))))
def B_M_breakLink_7 (fz : Nat) : Nat → Int32 → HH → HH
  | 0, _, h => h
  | fu + 1, x1, h => if (2 : Int32) ≤ x1 then (B_M_breakLink_41 fz fz (1 : Int32) h) else (B_M_breakLink_7 fz fu (x1 + 1) (u2 (u2 (u2 h 51 (ix x1) (0 : Int32)) 44 (ix x1) (0 : Int32)) 45 (ix x1) (0 : Int32)))
def P_M_breakLink_7 (fz : Nat) : Nat → Int32 → HH → Prop
  | 0, _, _ => False
  | fu + 1, x1, h => ((2 : Int32) ≤ x1 → (P_M_breakLink_41 fz fz (1 : Int32) h)) ∧ (¬ (2 : Int32) ≤ x1 → (vp_in x1 2 ∧ (vp_in x1 2 ∧ (vp_in x1 2 ∧ (P_M_breakLink_7 fz fu (x1 + 1) (u2 (u2 (u2 h 51 (ix x1) (0 : Int32)) 44 (ix x1) (0 : Int32)) 45 (ix x1) (0 : Int32)))))))
def B_M_breakLink (fz : Nat)  (h : HH) : HH := B_M_breakLink_7 fz fz (0 : Int32) (u2 h 27 23 (0 : Int32))
def P_M_breakLink (fz : Nat)  (h : HH) : Prop := P_M_breakLink_7 fz fz (0 : Int32) (u2 h 27 23 (0 : Int32))
def B_M_write_298 (fz : Nat) (x1 : Int32) (x6 : Int32) (h : HH) : Int32 × HH := (x6, (B_M_send fz x1 (1 : Int32) x6 (0 : Int32) h))
def P_M_write_298 (fz : Nat) (x1 : Int32) (x6 : Int32) (h : HH) : Prop := P_M_send fz x1 (1 : Int32) x6 (0 : Int32) h ∧ (True)
def B_M_write_283 (fz : Nat) (x1 : Int32) (x6 : Int32) (h : HH) : Int32 × HH := if (h 27 23) = 0 then ((x6, (B_M_alone fz x6 h))) else (B_M_write_298 fz x1 x6 (u2 h 32 (ix x6) (1 : Int32)))
def P_M_write_283 (fz : Nat) (x1 : Int32) (x6 : Int32) (h : HH) : Prop := ((h 27 23) = 0 → (P_M_alone fz x6 h ∧ (True))) ∧ (¬ (h 27 23) = 0 → (vp_in x6 301 ∧ (P_M_write_298 fz x1 x6 (u2 h 32 (ix x6) (1 : Int32)))))
def B_M_write_254 (fz : Nat) (x1 : Int32) (x2 : Int32) (x3 : Int32) (x6 : Int32) (y1 : Int32) (y2 : Int32) (y3 : Int32) (h : HH) : Int32 × HH := B_M_write_283 fz x1 x6 (u2 (u2 (u2 (u2 h 31 (ix y1) (y2 + y3)) 47 (ix x1) x6) 46 (ix x1) (0 : Int32)) 34 (ix (((32 : Int32) * x1) + x2)) x3)
def P_M_write_254 (fz : Nat) (x1 : Int32) (x2 : Int32) (x3 : Int32) (x6 : Int32) (y1 : Int32) (y2 : Int32) (y3 : Int32) (h : HH) : Prop := vp_in y1 301 ∧ (vp_in x1 2 ∧ (vp_in x1 2 ∧ (vp_in (((32 : Int32) * x1) + x2) 64 ∧ (P_M_write_283 fz x1 x6 (u2 (u2 (u2 (u2 h 31 (ix y1) (y2 + y3)) 47 (ix x1) x6) 46 (ix x1) (0 : Int32)) 34 (ix (((32 : Int32) * x1) + x2)) x3)))))
def B_M_write_227 (fz : Nat) (x1 : Int32) (x2 : Int32) (x3 : Int32) (x5 : Int32) (x6 : Int32) (h : HH) : Int32 × HH := if x5 = 0 then (B_M_write_254 fz x1 x2 x3 x6 x6 (h 31 (ix (h 47 (ix x1)))) (0 : Int32) h) else (B_M_write_254 fz x1 x2 x3 x6 x6 (h 31 (ix (h 47 (ix x1)))) (1 : Int32) h)
def P_M_write_227 (fz : Nat) (x1 : Int32) (x2 : Int32) (x3 : Int32) (x5 : Int32) (x6 : Int32) (h : HH) : Prop := vp_in x1 2 ∧ (vp_in (h 47 (ix x1)) 301 ∧ ((x5 = 0 → (P_M_write_254 fz x1 x2 x3 x6 x6 (h 31 (ix (h 47 (ix x1)))) (0 : Int32) h)) ∧ (¬ x5 = 0 → (P_M_write_254 fz x1 x2 x3 x6 x6 (h 31 (ix (h 47 (ix x1)))) (1 : Int32) h))))
def B_M_write_197 (fz : Nat) (x1 : Int32) (x2 : Int32) (x3 : Int32) (x5 : Int32) (h : HH) : Int32 × HH := B_M_write_227 fz x1 x2 x3 x5 (h 27 0) (u2 (u2 (u2 h 28 (ix (h 27 0)) x1) 29 (ix (h 27 0)) x2) 30 (ix (h 27 0)) x3)
def P_M_write_197 (fz : Nat) (x1 : Int32) (x2 : Int32) (x3 : Int32) (x5 : Int32) (h : HH) : Prop := vp_in (h 27 0) 301 ∧ (vp_in (h 27 0) 301 ∧ (vp_in (h 27 0) 301 ∧ (P_M_write_227 fz x1 x2 x3 x5 (h 27 0) (u2 (u2 (u2 h 28 (ix (h 27 0)) x1) 29 (ix (h 27 0)) x2) 30 (ix (h 27 0)) x3))))
def B_M_write_185 (fz : Nat) (x1 : Int32) (x2 : Int32) (x3 : Int32) (y0 : Int32) (h : HH) : Int32 × HH := B_M_write_197 fz x1 x2 x3 y0 (u2 h 27 0 ((h 27 0) + (1 : Int32)))
def P_M_write_185 (fz : Nat) (x1 : Int32) (x2 : Int32) (x3 : Int32) (y0 : Int32) (h : HH) : Prop := P_M_write_197 fz x1 x2 x3 y0 (u2 h 27 0 ((h 27 0) + (1 : Int32)))
def B_M_write_180 (fz : Nat) (x1 : Int32) (x2 : Int32) (x3 : Int32) (h : HH) : Int32 × HH := B_M_write_185 fz x1 x2 x3 (1 : Int32) h
def P_M_write_180 (fz : Nat) (x1 : Int32) (x2 : Int32) (x3 : Int32) (h : HH) : Prop := P_M_write_185 fz x1 x2 x3 (1 : Int32) h
def B_M_write_152 (fz : Nat) (x1 : Int32) (x2 : Int32) (x3 : Int32) (h : HH) : Int32 × HH := if (h 47 (ix x1)) = 0 then (B_M_write_180 fz x1 x2 x3 h) else (if (h 46 (ix x1)) = 0 then (if (B_M_pending fz x1 x2 x2 h) ≤ 0 then (B_M_write_185 fz x1 x2 x3 (0 : Int32) h) else (B_M_write_180 fz x1 x2 x3 h)) else (B_M_write_180 fz x1 x2 x3 h))
def P_M_write_152 (fz : Nat) (x1 : Int32) (x2 : Int32) (x3 : Int32) (h : HH) : Prop := vp_in x1 2 ∧ (((h 47 (ix x1)) = 0 → (P_M_write_180 fz x1 x2 x3 h)) ∧ (¬ (h 47 (ix x1)) = 0 → (vp_in x1 2 ∧ (((h 46 (ix x1)) = 0 → (P_M_pending fz x1 x2 x2 h ∧ (((B_M_pending fz x1 x2 x2 h) ≤ 0 → (P_M_write_185 fz x1 x2 x3 (0 : Int32) h)) ∧ (¬ (B_M_pending fz x1 x2 x2 h) ≤ 0 → (P_M_write_180 fz x1 x2 x3 h))))) ∧ (¬ (h 46 (ix x1)) = 0 → (P_M_write_180 fz x1 x2 x3 h))))))
def B_M_write_141 (fz : Nat) (x1 : Int32) (x2 : Int32) (x3 : Int32) (x4 : Int32) (h : HH) : Int32 × HH := B_M_write_152 fz x1 x2 x3 (u2 h 37 (ix x4) (h 27 11))
def P_M_write_141 (fz : Nat) (x1 : Int32) (x2 : Int32) (x3 : Int32) (x4 : Int32) (h : HH) : Prop := vp_in x4 16 ∧ (P_M_write_152 fz x1 x2 x3 (u2 h 37 (ix x4) (h 27 11)))
def B_M_write_131 (fz : Nat) (x1 : Int32) (x2 : Int32) (x3 : Int32) (x4 : Int32) (h : HH) : Int32 × HH := B_M_write_141 fz x1 x2 x3 x4 (u2 h 27 11 ((h 27 11) + (1 : Int32)))
def P_M_write_131 (fz : Nat) (x1 : Int32) (x2 : Int32) (x3 : Int32) (x4 : Int32) (h : HH) : Prop := P_M_write_141 fz x1 x2 x3 x4 (u2 h 27 11 ((h 27 11) + (1 : Int32)))
def B_M_write_123 (fz : Nat) (x1 : Int32) (x2 : Int32) (x3 : Int32) (x4 : Int32) (h : HH) : Int32 × HH := B_M_write_131 fz x1 x2 x3 x4 (u2 h 36 (ix x4) (1 : Int32))
def P_M_write_123 (fz : Nat) (x1 : Int32) (x2 : Int32) (x3 : Int32) (x4 : Int32) (h : HH) : Prop := vp_in x4 16 ∧ (P_M_write_131 fz x1 x2 x3 x4 (u2 h 36 (ix x4) (1 : Int32)))
def B_M_write (fz : Nat) (x1 : Int32) (x2 : Int32) (x3 : Int32) (h : HH) : Int32 × HH := if (B_M_isNode fz x1 h) = 0 then (((-1 : Int32), h)) else (if (B_M_isBlock fz x2 h) = 0 then (((-1 : Int32), h)) else (if (h 42 (ix x1)) = 0 then (((-2 : Int32), h)) else (if (h 43 (ix x1)) = 0 then (((-3 : Int32), h)) else (if (h 27 0) = (300 : Int32) then (((-4 : Int32), h)) else (if (B_M_pending fz x1 (0 : Int32) (31 : Int32) h) < (8 : Int32) then (if (h 36 (ix (((8 : Int32) * x1) + (x2 / (4 : Int32))))) = 0 then (if (B_M_inLog fz x1 h) = (3 : Int32) then (if 0 ≤ (B_M_idle fz x1 h) then (B_M_write_123 fz x1 x2 x3 (((8 : Int32) * x1) + (x2 / (4 : Int32))) (u2 h 36 (ix (((8 : Int32) * x1) + (B_M_idle fz x1 h))) (0 : Int32))) else (((-5 : Int32), h))) else (B_M_write_123 fz x1 x2 x3 (((8 : Int32) * x1) + (x2 / (4 : Int32))) h)) else (B_M_write_123 fz x1 x2 x3 (((8 : Int32) * x1) + (x2 / (4 : Int32))) h)) else (((-4 : Int32), h)))))))
def P_M_write (fz : Nat) (x1 : Int32) (x2 : Int32) (x3 : Int32) (h : HH) : Prop := P_M_isNode fz x1 h ∧ (((B_M_isNode fz x1 h) = 0 → (True)) ∧ (¬ (B_M_isNode fz x1 h) = 0 → (P_M_isBlock fz x2 h ∧ (((B_M_isBlock fz x2 h) = 0 → (True)) ∧ (¬ (B_M_isBlock fz x2 h) = 0 → (vp_in x1 2 ∧ (((h 42 (ix x1)) = 0 → (True)) ∧ (¬ (h 42 (ix x1)) = 0 → (vp_in x1 2 ∧ (((h 43 (ix x1)) = 0 → (True)) ∧ (¬ (h 43 (ix x1)) = 0 → (((h 27 0) = (300 : Int32) → (True)) ∧ (¬ (h 27 0) = (300 : Int32) → (P_M_pending fz x1 (0 : Int32) (31 : Int32) h ∧ (((B_M_pending fz x1 (0 : Int32) (31 : Int32) h) < (8 : Int32) → (vp_in (((8 : Int32) * x1) + (x2 / (4 : Int32))) 16 ∧ (((h 36 (ix (((8 : Int32) * x1) + (x2 / (4 : Int32))))) = 0 → (P_M_inLog fz x1 h ∧ (((B_M_inLog fz x1 h) = (3 : Int32) → (P_M_idle fz x1 h ∧ ((0 ≤ (B_M_idle fz x1 h) → (vp_in (((8 : Int32) * x1) + (B_M_idle fz x1 h)) 16 ∧ (P_M_write_123 fz x1 x2 x3 (((8 : Int32) * x1) + (x2 / (4 : Int32))) (u2 h 36 (ix (((8 : Int32) * x1) + (B_M_idle fz x1 h))) (0 : Int32))))) ∧ (¬ 0 ≤ (B_M_idle fz x1 h) → (True))))) ∧ (¬ (B_M_inLog fz x1 h) = (3 : Int32) → (P_M_write_123 fz x1 x2 x3 (((8 : Int32) * x1) + (x2 / (4 : Int32))) h))))) ∧ (¬ (h 36 (ix (((8 : Int32) * x1) + (x2 / (4 : Int32))))) = 0 → (P_M_write_123 fz x1 x2 x3 (((8 : Int32) * x1) + (x2 / (4 : Int32))) h))))) ∧ (¬ (B_M_pending fz x1 (0 : Int32) (31 : Int32) h) < (8 : Int32) → (True)))))))))))))))))
def B_M_barrier (fz : Nat) (x1 : Int32) (h : HH) : Int32 × HH := if (B_M_isNode fz x1 h) = 0 then (((0 : Int32), h)) else (if (h 42 (ix x1)) = 0 then (((0 : Int32), h)) else (if (h 43 (ix x1)) = 0 then (((0 : Int32), h)) else (((1 : Int32), (u2 h 46 (ix x1) (1 : Int32))))))
def P_M_barrier (fz : Nat) (x1 : Int32) (h : HH) : Prop := P_M_isNode fz x1 h ∧ (((B_M_isNode fz x1 h) = 0 → (True)) ∧ (¬ (B_M_isNode fz x1 h) = 0 → (vp_in x1 2 ∧ (((h 42 (ix x1)) = 0 → (True)) ∧ (¬ (h 42 (ix x1)) = 0 → (vp_in x1 2 ∧ (((h 43 (ix x1)) = 0 → (True)) ∧ (¬ (h 43 (ix x1)) = 0 → (vp_in x1 2 ∧ (True))))))))))
def B_M_arrive_139 (fz : Nat) : Nat → Int32 → Int32 → Int32 → HH → HH
  | 0, _, _, _, h => h
  | fu + 1, x1, x3, x5, h => if (32 : Int32) ≤ x5 then ((u2 (u2 h 38 (ix x1) x3) 39 (ix x1) (0 : Int32))) else (B_M_arrive_139 fz fu x1 x3 (x5 + 1) (u2 h 35 (ix (((32 : Int32) * x1) + x5)) (0 : Int32)))
def P_M_arrive_139 (fz : Nat) : Nat → Int32 → Int32 → Int32 → HH → Prop
  | 0, _, _, _, _ => False
  | fu + 1, x1, x3, x5, h => ((32 : Int32) ≤ x5 → (vp_in x1 2 ∧ (vp_in x1 2 ∧ (True)))) ∧ (¬ (32 : Int32) ≤ x5 → (vp_in (((32 : Int32) * x1) + x5) 64 ∧ (P_M_arrive_139 fz fu x1 x3 (x5 + 1) (u2 h 35 (ix (((32 : Int32) * x1) + x5)) (0 : Int32)))))
def B_M_arrive_107 (fz : Nat) (x1 : Int32) (h : HH) : HH := (B_M_endIfEmpty fz x1 h)
def P_M_arrive_107 (fz : Nat) (x1 : Int32) (h : HH) : Prop := P_M_endIfEmpty fz x1 h ∧ (True)
def B_M_arrive_79 (fz : Nat) (x1 : Int32) (x3 : Int32) (h : HH) : HH := (B_M_send fz x1 (4 : Int32) x3 (0 : Int32) h)
def P_M_arrive_79 (fz : Nat) (x1 : Int32) (x3 : Int32) (h : HH) : Prop := P_M_send fz x1 (4 : Int32) x3 (0 : Int32) h ∧ (True)
def B_M_arrive_53 (fz : Nat) (x1 : Int32) (h : HH) : HH := (B_M_endIfEmpty fz x1 h)
def P_M_arrive_53 (fz : Nat) (x1 : Int32) (h : HH) : Prop := P_M_endIfEmpty fz x1 h ∧ (True)
def B_M_arrive_27 (fz : Nat) (x1 : Int32) (x3 : Int32) (h : HH) : HH := if (h 44 (ix x1)) = 0 then (h) else (B_M_arrive_53 fz x1 (u2 h 35 (ix (((32 : Int32) * x1) + (h 29 (ix x3)))) (0 : Int32)))
def P_M_arrive_27 (fz : Nat) (x1 : Int32) (x3 : Int32) (h : HH) : Prop := vp_in x1 2 ∧ (((h 44 (ix x1)) = 0 → (True)) ∧ (¬ (h 44 (ix x1)) = 0 → (vp_in x3 301 ∧ (vp_in (((32 : Int32) * x1) + (h 29 (ix x3))) 64 ∧ (P_M_arrive_53 fz x1 (u2 h 35 (ix (((32 : Int32) * x1) + (h 29 (ix x3)))) (0 : Int32)))))))
def B_M_arrive (fz : Nat) (x1 : Int32) (x2 : Int32) (x3 : Int32) (x4 : Int32) (h : HH) : HH := if x2 = (1 : Int32) then ((u2 h 33 (ix x3) (1 : Int32))) else (if x2 = (2 : Int32) then (B_M_arrive_27 fz x1 x3 (u2 h 32 (ix x3) (2 : Int32))) else (if x2 = (3 : Int32) then (B_M_arrive_79 fz x1 x3 (u2 h 34 (ix (((32 : Int32) * x1) + x3)) x4)) else (if x2 = (4 : Int32) then (B_M_arrive_107 fz x1 (u2 h 35 (ix (((32 : Int32) * x1) + x3)) (0 : Int32))) else (B_M_arrive_139 fz fz x1 x3 (0 : Int32) (u2 (u2 (u2 h 45 (ix x1) (0 : Int32)) 40 (ix x1) (0 : Int32)) 41 (ix x1) (0 : Int32))))))
def P_M_arrive (fz : Nat) (x1 : Int32) (x2 : Int32) (x3 : Int32) (x4 : Int32) (h : HH) : Prop := (x2 = (1 : Int32) → (vp_in x3 301 ∧ (True))) ∧ (¬ x2 = (1 : Int32) → ((x2 = (2 : Int32) → (vp_in x3 301 ∧ (P_M_arrive_27 fz x1 x3 (u2 h 32 (ix x3) (2 : Int32))))) ∧ (¬ x2 = (2 : Int32) → ((x2 = (3 : Int32) → (vp_in (((32 : Int32) * x1) + x3) 64 ∧ (P_M_arrive_79 fz x1 x3 (u2 h 34 (ix (((32 : Int32) * x1) + x3)) x4)))) ∧ (¬ x2 = (3 : Int32) → ((x2 = (4 : Int32) → (vp_in (((32 : Int32) * x1) + x3) 64 ∧ (P_M_arrive_107 fz x1 (u2 h 35 (ix (((32 : Int32) * x1) + x3)) (0 : Int32))))) ∧ (¬ x2 = (4 : Int32) → (vp_in x1 2 ∧ (vp_in x1 2 ∧ (vp_in x1 2 ∧ (P_M_arrive_139 fz fz x1 x3 (0 : Int32) (u2 (u2 (u2 h 45 (ix x1) (0 : Int32)) 40 (ix x1) (0 : Int32)) 41 (ix x1) (0 : Int32)))))))))))))
def B_M_deliver_59 (fz : Nat) : Nat → Int32 → Int32 → Int32 → Int32 → Int32 → Int32 → HH → Int32 × HH
  | 0, _, _, _, _, _, _, h => (0, h)
  | fu + 1, x1, x2, x3, x4, x5, x6, h => if (x2 + (h 51 (ix x1))) ≤ x6 then ((x3, (B_M_arrive fz ((1 : Int32) - x1) x3 x4 x5 h))) else (B_M_deliver_59 fz fu x1 x2 x3 x4 x5 (x6 + 1) (u2 (u2 (u2 h 48 (ix x6) (h 48 (ix (x6 + (1 : Int32))))) 49 (ix x6) ((u2 h 48 (ix x6) (h 48 (ix (x6 + (1 : Int32))))) 49 (ix (x6 + (1 : Int32))))) 50 (ix x6) ((u2 (u2 h 48 (ix x6) (h 48 (ix (x6 + (1 : Int32))))) 49 (ix x6) ((u2 h 48 (ix x6) (h 48 (ix (x6 + (1 : Int32))))) 49 (ix (x6 + (1 : Int32))))) 50 (ix (x6 + (1 : Int32))))))
def P_M_deliver_59 (fz : Nat) : Nat → Int32 → Int32 → Int32 → Int32 → Int32 → Int32 → HH → Prop
  | 0, _, _, _, _, _, _, _ => False
  | fu + 1, x1, x2, x3, x4, x5, x6, h => vp_in x1 2 ∧ (((x2 + (h 51 (ix x1))) ≤ x6 → (P_M_arrive fz ((1 : Int32) - x1) x3 x4 x5 h ∧ (True))) ∧ (¬ (x2 + (h 51 (ix x1))) ≤ x6 → (vp_in (x6 + (1 : Int32)) 128 ∧ (vp_in x6 128 ∧ (vp_in (x6 + (1 : Int32)) 128 ∧ (vp_in x6 128 ∧ (vp_in (x6 + (1 : Int32)) 128 ∧ (vp_in x6 128 ∧ (P_M_deliver_59 fz fu x1 x2 x3 x4 x5 (x6 + 1) (u2 (u2 (u2 h 48 (ix x6) (h 48 (ix (x6 + (1 : Int32))))) 49 (ix x6) ((u2 h 48 (ix x6) (h 48 (ix (x6 + (1 : Int32))))) 49 (ix (x6 + (1 : Int32))))) 50 (ix x6) ((u2 (u2 h 48 (ix x6) (h 48 (ix (x6 + (1 : Int32))))) 49 (ix x6) ((u2 h 48 (ix x6) (h 48 (ix (x6 + (1 : Int32))))) 49 (ix (x6 + (1 : Int32))))) 50 (ix (x6 + (1 : Int32))))))))))))))
def B_M_deliver_56 (fz : Nat) (x1 : Int32) (x2 : Int32) (x3 : Int32) (x4 : Int32) (x5 : Int32) (h : HH) : Int32 × HH := B_M_deliver_59 fz fz x1 x2 x3 x4 x5 x2 h
def P_M_deliver_56 (fz : Nat) (x1 : Int32) (x2 : Int32) (x3 : Int32) (x4 : Int32) (x5 : Int32) (h : HH) : Prop := P_M_deliver_59 fz fz x1 x2 x3 x4 x5 x2 h
def B_M_deliver (fz : Nat) (x1 : Int32) (h : HH) : Int32 × HH := if (B_M_isNode fz x1 h) = 0 then (((0 : Int32), h)) else (if (h 51 (ix x1)) = 0 then (((0 : Int32), h)) else (B_M_deliver_56 fz x1 ((64 : Int32) * x1) (h 48 (ix ((64 : Int32) * x1))) (h 49 (ix ((64 : Int32) * x1))) (h 50 (ix ((64 : Int32) * x1))) (u2 h 51 (ix x1) ((h 51 (ix x1)) - (1 : Int32)))))
def P_M_deliver (fz : Nat) (x1 : Int32) (h : HH) : Prop := P_M_isNode fz x1 h ∧ (((B_M_isNode fz x1 h) = 0 → (True)) ∧ (¬ (B_M_isNode fz x1 h) = 0 → (vp_in x1 2 ∧ (((h 51 (ix x1)) = 0 → (True)) ∧ (¬ (h 51 (ix x1)) = 0 → (vp_in ((64 : Int32) * x1) 128 ∧ (vp_in ((64 : Int32) * x1) 128 ∧ (vp_in ((64 : Int32) * x1) 128 ∧ (vp_in x1 2 ∧ (vp_in x1 2 ∧ (P_M_deliver_56 fz x1 ((64 : Int32) * x1) (h 48 (ix ((64 : Int32) * x1))) (h 49 (ix ((64 : Int32) * x1))) (h 50 (ix ((64 : Int32) * x1))) (u2 h 51 (ix x1) ((h 51 (ix x1)) - (1 : Int32))))))))))))))
def B_M_store_114 (fz : Nat) (x1 : Int32) (x5 : Int32) (h : HH) : Int32 × HH := (x5, (B_M_send fz x1 (2 : Int32) x5 (0 : Int32) h))
def P_M_store_114 (fz : Nat) (x1 : Int32) (x5 : Int32) (h : HH) : Prop := P_M_send fz x1 (2 : Int32) x5 (0 : Int32) h ∧ (True)
def B_M_store_90 (fz : Nat) (x1 : Int32) (x5 : Int32) (h : HH) : Int32 × HH := B_M_store_114 fz x1 x5 (u2 h 34 (ix (((32 : Int32) * x1) + (h 29 (ix x5)))) (h 30 (ix x5)))
def P_M_store_90 (fz : Nat) (x1 : Int32) (x5 : Int32) (h : HH) : Prop := vp_in x5 301 ∧ (vp_in x5 301 ∧ (vp_in (((32 : Int32) * x1) + (h 29 (ix x5))) 64 ∧ (P_M_store_114 fz x1 x5 (u2 h 34 (ix (((32 : Int32) * x1) + (h 29 (ix x5)))) (h 30 (ix x5))))))
def B_M_store_21 (fz : Nat) : Nat → Int32 → Int32 → Int32 → Int32 → Int32 → HH → Int32 × HH
  | 0, _, _, _, _, _, h => (0, h)
  | fu + 1, x1, x2, x3, x4, x5, h => if (h 27 0) < x5 then (((0 : Int32), h)) else (if (h 33 (ix x5)) = 0 then (B_M_store_21 fz fu x1 x2 x3 x4 (x5 + 1) h) else (if (h 28 (ix x5)) = ((1 : Int32) - x1) then (if x3 = 0 then (if (h 31 (ix x5)) = (h 31 (ix x5)) then (if x4 = x2 then (B_M_store_90 fz x1 x5 (u2 h 33 (ix x5) (0 : Int32))) else (B_M_store_21 fz fu x1 x2 x5 (x4 + 1) (x5 + 1) h)) else (B_M_store_21 fz fu x1 x2 x5 x4 (x5 + 1) h)) else (if (h 31 (ix x5)) = (h 31 (ix x3)) then (if x4 = x2 then (B_M_store_90 fz x1 x5 (u2 h 33 (ix x5) (0 : Int32))) else (B_M_store_21 fz fu x1 x2 x3 (x4 + 1) (x5 + 1) h)) else (B_M_store_21 fz fu x1 x2 x3 x4 (x5 + 1) h))) else (B_M_store_21 fz fu x1 x2 x3 x4 (x5 + 1) h)))
def P_M_store_21 (fz : Nat) : Nat → Int32 → Int32 → Int32 → Int32 → Int32 → HH → Prop
  | 0, _, _, _, _, _, _ => False
  | fu + 1, x1, x2, x3, x4, x5, h => ((h 27 0) < x5 → (True)) ∧ (¬ (h 27 0) < x5 → (vp_in x5 301 ∧ (((h 33 (ix x5)) = 0 → (P_M_store_21 fz fu x1 x2 x3 x4 (x5 + 1) h)) ∧ (¬ (h 33 (ix x5)) = 0 → (vp_in x5 301 ∧ (((h 28 (ix x5)) = ((1 : Int32) - x1) → ((x3 = 0 → (vp_in x5 301 ∧ (vp_in x5 301 ∧ (((h 31 (ix x5)) = (h 31 (ix x5)) → ((x4 = x2 → (vp_in x5 301 ∧ (P_M_store_90 fz x1 x5 (u2 h 33 (ix x5) (0 : Int32))))) ∧ (¬ x4 = x2 → (P_M_store_21 fz fu x1 x2 x5 (x4 + 1) (x5 + 1) h)))) ∧ (¬ (h 31 (ix x5)) = (h 31 (ix x5)) → (P_M_store_21 fz fu x1 x2 x5 x4 (x5 + 1) h)))))) ∧ (¬ x3 = 0 → (vp_in x5 301 ∧ (vp_in x3 301 ∧ (((h 31 (ix x5)) = (h 31 (ix x3)) → ((x4 = x2 → (vp_in x5 301 ∧ (P_M_store_90 fz x1 x5 (u2 h 33 (ix x5) (0 : Int32))))) ∧ (¬ x4 = x2 → (P_M_store_21 fz fu x1 x2 x3 (x4 + 1) (x5 + 1) h)))) ∧ (¬ (h 31 (ix x5)) = (h 31 (ix x3)) → (P_M_store_21 fz fu x1 x2 x3 x4 (x5 + 1) h)))))))) ∧ (¬ (h 28 (ix x5)) = ((1 : Int32) - x1) → (P_M_store_21 fz fu x1 x2 x3 x4 (x5 + 1) h))))))))
def B_M_store (fz : Nat) (x1 : Int32) (x2 : Int32) (h : HH) : Int32 × HH := if (B_M_isNode fz x1 h) = 0 then (((0 : Int32), h)) else (if 0 ≤ x2 then (B_M_store_21 fz fz x1 x2 (0 : Int32) (0 : Int32) (1 : Int32) h) else (((0 : Int32), h)))
def P_M_store (fz : Nat) (x1 : Int32) (x2 : Int32) (h : HH) : Prop := P_M_isNode fz x1 h ∧ (((B_M_isNode fz x1 h) = 0 → (True)) ∧ (¬ (B_M_isNode fz x1 h) = 0 → ((0 ≤ x2 → (P_M_store_21 fz fz x1 x2 (0 : Int32) (0 : Int32) (1 : Int32) h)) ∧ (¬ 0 ≤ x2 → (True)))))
def B_M_copy_30 (fz : Nat) : Nat → Int32 → Int32 → HH → Int32 × HH
  | 0, _, _, h => (0, h)
  | fu + 1, x1, x2, h => if (32 : Int32) ≤ x2 then (((-1 : Int32), h)) else (if (h 35 (ix (((32 : Int32) * x1) + x2))) = 0 then (B_M_copy_30 fz fu x1 (x2 + 1) h) else (if (B_M_underWay fz x1 x2 h) = 0 then (if (B_M_pending fz x1 x2 x2 h) = 0 then ((x2, (B_M_send fz x1 (3 : Int32) x2 (h 34 (ix (((32 : Int32) * x1) + x2))) h))) else (B_M_copy_30 fz fu x1 (x2 + 1) h)) else (B_M_copy_30 fz fu x1 (x2 + 1) h)))
def P_M_copy_30 (fz : Nat) : Nat → Int32 → Int32 → HH → Prop
  | 0, _, _, _ => False
  | fu + 1, x1, x2, h => ((32 : Int32) ≤ x2 → (True)) ∧ (¬ (32 : Int32) ≤ x2 → (vp_in (((32 : Int32) * x1) + x2) 64 ∧ (((h 35 (ix (((32 : Int32) * x1) + x2))) = 0 → (P_M_copy_30 fz fu x1 (x2 + 1) h)) ∧ (¬ (h 35 (ix (((32 : Int32) * x1) + x2))) = 0 → (P_M_underWay fz x1 x2 h ∧ (((B_M_underWay fz x1 x2 h) = 0 → (P_M_pending fz x1 x2 x2 h ∧ (((B_M_pending fz x1 x2 x2 h) = 0 → (vp_in (((32 : Int32) * x1) + x2) 64 ∧ (P_M_send fz x1 (3 : Int32) x2 (h 34 (ix (((32 : Int32) * x1) + x2))) h ∧ (True)))) ∧ (¬ (B_M_pending fz x1 x2 x2 h) = 0 → (P_M_copy_30 fz fu x1 (x2 + 1) h))))) ∧ (¬ (B_M_underWay fz x1 x2 h) = 0 → (P_M_copy_30 fz fu x1 (x2 + 1) h))))))))
def B_M_copy (fz : Nat) (x1 : Int32) (h : HH) : Int32 × HH := if (B_M_isNode fz x1 h) = 0 then (((-1 : Int32), h)) else (if (h 44 (ix x1)) = 0 then (((-1 : Int32), h)) else (if (B_M_underWay fz x1 (-1 : Int32) h) < (4 : Int32) then (B_M_copy_30 fz fz x1 (0 : Int32) h) else (((-1 : Int32), h))))
def P_M_copy (fz : Nat) (x1 : Int32) (h : HH) : Prop := P_M_isNode fz x1 h ∧ (((B_M_isNode fz x1 h) = 0 → (True)) ∧ (¬ (B_M_isNode fz x1 h) = 0 → (vp_in x1 2 ∧ (((h 44 (ix x1)) = 0 → (True)) ∧ (¬ (h 44 (ix x1)) = 0 → (P_M_underWay fz x1 (-1 : Int32) h ∧ (((B_M_underWay fz x1 (-1 : Int32) h) < (4 : Int32) → (P_M_copy_30 fz fz x1 (0 : Int32) h)) ∧ (¬ (B_M_underWay fz x1 (-1 : Int32) h) < (4 : Int32) → (True)))))))))
def B_M_chosen_18 (fz : Nat)  (h : HH) : Int32 := if (h 40 (ix (0 : Int32))) = 0 then ((0 : Int32)) else ((1 : Int32))
def P_M_chosen_18 (fz : Nat)  (h : HH) : Prop := vp_in (0 : Int32) 2 ∧ (((h 40 (ix (0 : Int32))) = 0 → (True)) ∧ (¬ (h 40 (ix (0 : Int32))) = 0 → (True)))
def B_M_chosen_125 (fz : Nat)  (h : HH) : Int32 := if (h 43 (ix (0 : Int32))) = (h 43 (ix (1 : Int32))) then (if (h 41 (ix (0 : Int32))) = 0 then ((1 : Int32)) else ((0 : Int32))) else (if (h 43 (ix (0 : Int32))) = 0 then ((1 : Int32)) else ((0 : Int32)))
def P_M_chosen_125 (fz : Nat)  (h : HH) : Prop := vp_in (0 : Int32) 2 ∧ (vp_in (1 : Int32) 2 ∧ (((h 43 (ix (0 : Int32))) = (h 43 (ix (1 : Int32))) → (vp_in (0 : Int32) 2 ∧ (((h 41 (ix (0 : Int32))) = 0 → (True)) ∧ (¬ (h 41 (ix (0 : Int32))) = 0 → (True))))) ∧ (¬ (h 43 (ix (0 : Int32))) = (h 43 (ix (1 : Int32))) → (vp_in (0 : Int32) 2 ∧ (((h 43 (ix (0 : Int32))) = 0 → (True)) ∧ (¬ (h 43 (ix (0 : Int32))) = 0 → (True)))))))
def B_M_chosen_74 (fz : Nat)  (h : HH) : Int32 := if (h 39 (ix (1 : Int32))) = 0 then ((-8 : Int32)) else (if (h 39 (ix (1 : Int32))) = (h 38 (ix (0 : Int32))) then ((1 : Int32)) else ((-8 : Int32)))
def P_M_chosen_74 (fz : Nat)  (h : HH) : Prop := vp_in (1 : Int32) 2 ∧ (((h 39 (ix (1 : Int32))) = 0 → (True)) ∧ (¬ (h 39 (ix (1 : Int32))) = 0 → (vp_in (1 : Int32) 2 ∧ (vp_in (0 : Int32) 2 ∧ (((h 39 (ix (1 : Int32))) = (h 38 (ix (0 : Int32))) → (True)) ∧ (¬ (h 39 (ix (1 : Int32))) = (h 38 (ix (0 : Int32))) → (True)))))))
def B_M_chosen (fz : Nat)  (h : HH) : Int32 := if (h 40 (ix (0 : Int32))) = 0 then (if (h 40 (ix (1 : Int32))) = 0 then (if (h 38 (ix (0 : Int32))) = (h 38 (ix (1 : Int32))) then (if (h 41 (ix (0 : Int32))) = 0 then (if (h 41 (ix (1 : Int32))) = 0 then ((-1 : Int32)) else (B_M_chosen_125 fz  h)) else (B_M_chosen_125 fz  h)) else (if (h 39 (ix (0 : Int32))) = 0 then (B_M_chosen_74 fz  h) else (if (h 39 (ix (0 : Int32))) = (h 38 (ix (1 : Int32))) then ((0 : Int32)) else (B_M_chosen_74 fz  h)))) else (B_M_chosen_18 fz  h)) else (B_M_chosen_18 fz  h)
def P_M_chosen (fz : Nat)  (h : HH) : Prop := vp_in (0 : Int32) 2 ∧ (((h 40 (ix (0 : Int32))) = 0 → (vp_in (1 : Int32) 2 ∧ (((h 40 (ix (1 : Int32))) = 0 → (vp_in (0 : Int32) 2 ∧ (vp_in (1 : Int32) 2 ∧ (((h 38 (ix (0 : Int32))) = (h 38 (ix (1 : Int32))) → (vp_in (0 : Int32) 2 ∧ (((h 41 (ix (0 : Int32))) = 0 → (vp_in (1 : Int32) 2 ∧ (((h 41 (ix (1 : Int32))) = 0 → (True)) ∧ (¬ (h 41 (ix (1 : Int32))) = 0 → (P_M_chosen_125 fz  h))))) ∧ (¬ (h 41 (ix (0 : Int32))) = 0 → (P_M_chosen_125 fz  h))))) ∧ (¬ (h 38 (ix (0 : Int32))) = (h 38 (ix (1 : Int32))) → (vp_in (0 : Int32) 2 ∧ (((h 39 (ix (0 : Int32))) = 0 → (P_M_chosen_74 fz  h)) ∧ (¬ (h 39 (ix (0 : Int32))) = 0 → (vp_in (0 : Int32) 2 ∧ (vp_in (1 : Int32) 2 ∧ (((h 39 (ix (0 : Int32))) = (h 38 (ix (1 : Int32))) → (True)) ∧ (¬ (h 39 (ix (0 : Int32))) = (h 38 (ix (1 : Int32))) → (P_M_chosen_74 fz  h))))))))))))) ∧ (¬ (h 40 (ix (1 : Int32))) = 0 → (P_M_chosen_18 fz  h))))) ∧ (¬ (h 40 (ix (0 : Int32))) = 0 → (P_M_chosen_18 fz  h)))
def B_M_connect_232 (fz : Nat) (x1 : Int32) (h : HH) : Int32 × HH := (((1 : Int32) + x1), (B_M_endIfEmpty fz x1 h))
def P_M_connect_232 (fz : Nat) (x1 : Int32) (h : HH) : Prop := P_M_endIfEmpty fz x1 h ∧ (True)
def B_M_connect_147 (fz : Nat) : Nat → Int32 → Int32 → Int32 → Int32 → HH → Int32 × HH
  | 0, _, _, _, _, h => (0, h)
  | fu + 1, x1, x2, x3, x4, h => if (32 : Int32) ≤ x4 then (B_M_connect_232 fz x1 (u2 (u2 (u2 h 44 (ix x1) (1 : Int32)) 45 (ix x2) (1 : Int32)) 40 (ix x2) (1 : Int32))) else (if x3 = 0 then (if (h 35 (ix (((32 : Int32) * x1) + x4))) = 0 then (if (h 35 (ix (((32 : Int32) * x2) + x4))) = 0 then (B_M_connect_147 fz fu x1 x2 x3 (x4 + 1) (u2 h 35 (ix (((32 : Int32) * x1) + x4)) (0 : Int32))) else (B_M_connect_147 fz fu x1 x2 x3 (x4 + 1) (u2 h 35 (ix (((32 : Int32) * x1) + x4)) (1 : Int32)))) else (B_M_connect_147 fz fu x1 x2 x3 (x4 + 1) (u2 h 35 (ix (((32 : Int32) * x1) + x4)) (1 : Int32)))) else (B_M_connect_147 fz fu x1 x2 x3 (x4 + 1) (u2 h 35 (ix (((32 : Int32) * x1) + x4)) (1 : Int32))))
def P_M_connect_147 (fz : Nat) : Nat → Int32 → Int32 → Int32 → Int32 → HH → Prop
  | 0, _, _, _, _, _ => False
  | fu + 1, x1, x2, x3, x4, h => ((32 : Int32) ≤ x4 → (vp_in x1 2 ∧ (vp_in x2 2 ∧ (vp_in x2 2 ∧ (P_M_connect_232 fz x1 (u2 (u2 (u2 h 44 (ix x1) (1 : Int32)) 45 (ix x2) (1 : Int32)) 40 (ix x2) (1 : Int32))))))) ∧ (¬ (32 : Int32) ≤ x4 → ((x3 = 0 → (vp_in (((32 : Int32) * x1) + x4) 64 ∧ (((h 35 (ix (((32 : Int32) * x1) + x4))) = 0 → (vp_in (((32 : Int32) * x2) + x4) 64 ∧ (((h 35 (ix (((32 : Int32) * x2) + x4))) = 0 → (vp_in (((32 : Int32) * x1) + x4) 64 ∧ (P_M_connect_147 fz fu x1 x2 x3 (x4 + 1) (u2 h 35 (ix (((32 : Int32) * x1) + x4)) (0 : Int32))))) ∧ (¬ (h 35 (ix (((32 : Int32) * x2) + x4))) = 0 → (vp_in (((32 : Int32) * x1) + x4) 64 ∧ (P_M_connect_147 fz fu x1 x2 x3 (x4 + 1) (u2 h 35 (ix (((32 : Int32) * x1) + x4)) (1 : Int32)))))))) ∧ (¬ (h 35 (ix (((32 : Int32) * x1) + x4))) = 0 → (vp_in (((32 : Int32) * x1) + x4) 64 ∧ (P_M_connect_147 fz fu x1 x2 x3 (x4 + 1) (u2 h 35 (ix (((32 : Int32) * x1) + x4)) (1 : Int32)))))))) ∧ (¬ x3 = 0 → (vp_in (((32 : Int32) * x1) + x4) 64 ∧ (P_M_connect_147 fz fu x1 x2 x3 (x4 + 1) (u2 h 35 (ix (((32 : Int32) * x1) + x4)) (1 : Int32)))))))
def B_M_connect_143 (fz : Nat) (x1 : Int32) (x2 : Int32) (y0 : Int32) (h : HH) : Int32 × HH := B_M_connect_147 fz fz x1 x2 y0 (0 : Int32) h
def P_M_connect_143 (fz : Nat) (x1 : Int32) (x2 : Int32) (y0 : Int32) (h : HH) : Prop := P_M_connect_147 fz fz x1 x2 y0 (0 : Int32) h
def B_M_connect_138 (fz : Nat) (x1 : Int32) (x2 : Int32) (h : HH) : Int32 × HH := B_M_connect_143 fz x1 x2 (1 : Int32) h
def P_M_connect_138 (fz : Nat) (x1 : Int32) (x2 : Int32) (h : HH) : Prop := P_M_connect_143 fz x1 x2 (1 : Int32) h
def B_M_connect_142 (fz : Nat) (x1 : Int32) (x2 : Int32) (h : HH) : Int32 × HH := B_M_connect_143 fz x1 x2 (0 : Int32) h
def P_M_connect_142 (fz : Nat) (x1 : Int32) (x2 : Int32) (h : HH) : Prop := P_M_connect_143 fz x1 x2 (0 : Int32) h
def B_M_connect_95 (fz : Nat) (x1 : Int32) (h : HH) : Int32 × HH := if (h 38 (ix ((1 : Int32) - x1))) = 0 then (B_M_connect_138 fz x1 ((1 : Int32) - x1) h) else (if (h 38 (ix ((1 : Int32) - x1))) = (h 38 (ix x1)) then (B_M_connect_142 fz x1 ((1 : Int32) - x1) h) else (if (h 38 (ix ((1 : Int32) - x1))) = (h 39 (ix x1)) then (B_M_connect_142 fz x1 ((1 : Int32) - x1) h) else (B_M_connect_138 fz x1 ((1 : Int32) - x1) h)))
def P_M_connect_95 (fz : Nat) (x1 : Int32) (h : HH) : Prop := vp_in ((1 : Int32) - x1) 2 ∧ (((h 38 (ix ((1 : Int32) - x1))) = 0 → (P_M_connect_138 fz x1 ((1 : Int32) - x1) h)) ∧ (¬ (h 38 (ix ((1 : Int32) - x1))) = 0 → (vp_in ((1 : Int32) - x1) 2 ∧ (vp_in x1 2 ∧ (((h 38 (ix ((1 : Int32) - x1))) = (h 38 (ix x1)) → (P_M_connect_142 fz x1 ((1 : Int32) - x1) h)) ∧ (¬ (h 38 (ix ((1 : Int32) - x1))) = (h 38 (ix x1)) → (vp_in ((1 : Int32) - x1) 2 ∧ (vp_in x1 2 ∧ (((h 38 (ix ((1 : Int32) - x1))) = (h 39 (ix x1)) → (P_M_connect_142 fz x1 ((1 : Int32) - x1) h)) ∧ (¬ (h 38 (ix ((1 : Int32) - x1))) = (h 39 (ix x1)) → (P_M_connect_138 fz x1 ((1 : Int32) - x1) h)))))))))))
def B_M_connect_84 (fz : Nat) (x1 : Int32) (h : HH) : Int32 × HH := if 0 ≤ x1 then (B_M_connect_95 fz x1 (u2 h 27 23 (1 : Int32))) else (((0 : Int32), (u2 h 27 23 (1 : Int32))))
def P_M_connect_84 (fz : Nat) (x1 : Int32) (h : HH) : Prop := (0 ≤ x1 → (P_M_connect_95 fz x1 (u2 h 27 23 (1 : Int32)))) ∧ (¬ 0 ≤ x1 → (True))
def B_M_connect_52 (fz : Nat)  (h : HH) : Int32 × HH := if (B_M_chosen fz  h) = (-8 : Int32) then (((-8 : Int32), h)) else (if (B_M_chosen fz  h) < 0 then (B_M_connect_84 fz (B_M_chosen fz  h) h) else (if (h 43 (ix ((1 : Int32) - (B_M_chosen fz  h)))) = 0 then (B_M_connect_84 fz (B_M_chosen fz  h) h) else (((-10 : Int32), h))))
def P_M_connect_52 (fz : Nat)  (h : HH) : Prop := P_M_chosen fz  h ∧ (((B_M_chosen fz  h) = (-8 : Int32) → (True)) ∧ (¬ (B_M_chosen fz  h) = (-8 : Int32) → (((B_M_chosen fz  h) < 0 → (P_M_connect_84 fz (B_M_chosen fz  h) h)) ∧ (¬ (B_M_chosen fz  h) < 0 → (vp_in ((1 : Int32) - (B_M_chosen fz  h)) 2 ∧ (((h 43 (ix ((1 : Int32) - (B_M_chosen fz  h)))) = 0 → (P_M_connect_84 fz (B_M_chosen fz  h) h)) ∧ (¬ (h 43 (ix ((1 : Int32) - (B_M_chosen fz  h)))) = 0 → (True))))))))
def B_M_connect (fz : Nat)  (h : HH) : Int32 × HH := if (h 42 (ix (0 : Int32))) = 0 then (((-2 : Int32), h)) else (if (h 42 (ix (1 : Int32))) = 0 then (((-2 : Int32), h)) else (if (h 27 23) = 0 then (if (h 43 (ix (0 : Int32))) = 0 then (B_M_connect_52 fz  h) else (if (h 43 (ix (1 : Int32))) = 0 then (B_M_connect_52 fz  h) else (((-7 : Int32), h)))) else (((-9 : Int32), h))))
def P_M_connect (fz : Nat)  (h : HH) : Prop := vp_in (0 : Int32) 2 ∧ (((h 42 (ix (0 : Int32))) = 0 → (True)) ∧ (¬ (h 42 (ix (0 : Int32))) = 0 → (vp_in (1 : Int32) 2 ∧ (((h 42 (ix (1 : Int32))) = 0 → (True)) ∧ (¬ (h 42 (ix (1 : Int32))) = 0 → (((h 27 23) = 0 → (vp_in (0 : Int32) 2 ∧ (((h 43 (ix (0 : Int32))) = 0 → (P_M_connect_52 fz  h)) ∧ (¬ (h 43 (ix (0 : Int32))) = 0 → (vp_in (1 : Int32) 2 ∧ (((h 43 (ix (1 : Int32))) = 0 → (P_M_connect_52 fz  h)) ∧ (¬ (h 43 (ix (1 : Int32))) = 0 → (True)))))))) ∧ (¬ (h 27 23) = 0 → (True))))))))
def B_M_cut (fz : Nat)  (h : HH) : Int32 × HH := if (h 27 23) = 0 then (((0 : Int32), h)) else (((1 : Int32), (B_M_breakLink fz  h)))
def P_M_cut (fz : Nat)  (h : HH) : Prop := ((h 27 23) = 0 → (True)) ∧ (¬ (h 27 23) = 0 → (P_M_breakLink fz  h ∧ (True)))
def B_M_crash_75 (fz : Nat)  (h : HH) : Int32 × HH := if (h 27 23) = 0 then (((1 : Int32), h)) else (((1 : Int32), (B_M_breakLink fz  h)))
def P_M_crash_75 (fz : Nat)  (h : HH) : Prop := ((h 27 23) = 0 → (True)) ∧ (¬ (h 27 23) = 0 → (P_M_breakLink fz  h ∧ (True)))
def B_M_crash_62 (fz : Nat) (x1 : Int32) (y1 : Int32) (h : HH) : Int32 × HH := B_M_crash_75 fz  (u2 (u2 h 41 (ix y1) (1 : Int32)) 43 (ix x1) (0 : Int32))
def P_M_crash_62 (fz : Nat) (x1 : Int32) (y1 : Int32) (h : HH) : Prop := vp_in y1 2 ∧ (vp_in x1 2 ∧ (P_M_crash_75 fz  (u2 (u2 h 41 (ix y1) (1 : Int32)) 43 (ix x1) (0 : Int32))))
def B_M_crash_39 (fz : Nat) (x1 : Int32) (h : HH) : Int32 × HH := if (h 41 (ix x1)) = 0 then (if (h 43 (ix x1)) = 0 then (B_M_crash_75 fz  (u2 (u2 h 41 (ix x1) (0 : Int32)) 43 (ix x1) (0 : Int32))) else (B_M_crash_62 fz x1 x1 h)) else (B_M_crash_62 fz x1 x1 h)
def P_M_crash_39 (fz : Nat) (x1 : Int32) (h : HH) : Prop := vp_in x1 2 ∧ (((h 41 (ix x1)) = 0 → (vp_in x1 2 ∧ (((h 43 (ix x1)) = 0 → (vp_in x1 2 ∧ (vp_in x1 2 ∧ (P_M_crash_75 fz  (u2 (u2 h 41 (ix x1) (0 : Int32)) 43 (ix x1) (0 : Int32)))))) ∧ (¬ (h 43 (ix x1)) = 0 → (P_M_crash_62 fz x1 x1 h))))) ∧ (¬ (h 41 (ix x1)) = 0 → (P_M_crash_62 fz x1 x1 h)))
def B_M_crash_32 (fz : Nat) (x1 : Int32) (h : HH) : Int32 × HH := B_M_crash_39 fz x1 (B_M_turnInto fz x1 (3 : Int32) (4 : Int32) h)
def P_M_crash_32 (fz : Nat) (x1 : Int32) (h : HH) : Prop := P_M_turnInto fz x1 (3 : Int32) (4 : Int32) h ∧ (P_M_crash_39 fz x1 (B_M_turnInto fz x1 (3 : Int32) (4 : Int32) h))
def B_M_crash_25 (fz : Nat) (x1 : Int32) (h : HH) : Int32 × HH := B_M_crash_32 fz x1 (B_M_turnInto fz x1 (1 : Int32) (4 : Int32) h)
def P_M_crash_25 (fz : Nat) (x1 : Int32) (h : HH) : Prop := P_M_turnInto fz x1 (1 : Int32) (4 : Int32) h ∧ (P_M_crash_32 fz x1 (B_M_turnInto fz x1 (1 : Int32) (4 : Int32) h))
def B_M_crash (fz : Nat) (x1 : Int32) (h : HH) : Int32 × HH := if (B_M_isNode fz x1 h) = 0 then (((0 : Int32), h)) else (if (h 42 (ix x1)) = 0 then (((0 : Int32), h)) else (B_M_crash_25 fz x1 (u2 h 42 (ix x1) (0 : Int32))))
def P_M_crash (fz : Nat) (x1 : Int32) (h : HH) : Prop := P_M_isNode fz x1 h ∧ (((B_M_isNode fz x1 h) = 0 → (True)) ∧ (¬ (B_M_isNode fz x1 h) = 0 → (vp_in x1 2 ∧ (((h 42 (ix x1)) = 0 → (True)) ∧ (¬ (h 42 (ix x1)) = 0 → (vp_in x1 2 ∧ (P_M_crash_25 fz x1 (u2 h 42 (ix x1) (0 : Int32)))))))))
def B_M_restart_27 (fz : Nat) : Nat → Int32 → Int32 → HH → Int32 × HH
  | 0, _, _, h => (0, h)
  | fu + 1, x1, x2, h => if (32 : Int32) ≤ x2 then (((1 : Int32), h)) else (if (h 41 (ix x1)) = 0 then (B_M_restart_27 fz fu x1 (x2 + 1) h) else (if (h 36 (ix (((8 : Int32) * x1) + (x2 / (4 : Int32))))) = 0 then (B_M_restart_27 fz fu x1 (x2 + 1) h) else (B_M_restart_27 fz fu x1 (x2 + 1) (u2 h 35 (ix (((32 : Int32) * x1) + x2)) (1 : Int32)))))
def P_M_restart_27 (fz : Nat) : Nat → Int32 → Int32 → HH → Prop
  | 0, _, _, _ => False
  | fu + 1, x1, x2, h => ((32 : Int32) ≤ x2 → (True)) ∧ (¬ (32 : Int32) ≤ x2 → (vp_in x1 2 ∧ (((h 41 (ix x1)) = 0 → (P_M_restart_27 fz fu x1 (x2 + 1) h)) ∧ (¬ (h 41 (ix x1)) = 0 → (vp_in (((8 : Int32) * x1) + (x2 / (4 : Int32))) 16 ∧ (((h 36 (ix (((8 : Int32) * x1) + (x2 / (4 : Int32))))) = 0 → (P_M_restart_27 fz fu x1 (x2 + 1) h)) ∧ (¬ (h 36 (ix (((8 : Int32) * x1) + (x2 / (4 : Int32))))) = 0 → (vp_in (((32 : Int32) * x1) + x2) 64 ∧ (P_M_restart_27 fz fu x1 (x2 + 1) (u2 h 35 (ix (((32 : Int32) * x1) + x2)) (1 : Int32)))))))))))
def B_M_restart (fz : Nat) (x1 : Int32) (h : HH) : Int32 × HH := if (B_M_isNode fz x1 h) = 0 then (((0 : Int32), h)) else (if (h 42 (ix x1)) = 0 then (B_M_restart_27 fz fz x1 (0 : Int32) (u2 h 42 (ix x1) (1 : Int32))) else (((0 : Int32), h)))
def P_M_restart (fz : Nat) (x1 : Int32) (h : HH) : Prop := P_M_isNode fz x1 h ∧ (((B_M_isNode fz x1 h) = 0 → (True)) ∧ (¬ (B_M_isNode fz x1 h) = 0 → (vp_in x1 2 ∧ (((h 42 (ix x1)) = 0 → (vp_in x1 2 ∧ (P_M_restart_27 fz fz x1 (0 : Int32) (u2 h 42 (ix x1) (1 : Int32))))) ∧ (¬ (h 42 (ix x1)) = 0 → (True))))))
def B_M_promote_54 (fz : Nat) (x1 : Int32) (h : HH) : Int32 × HH := ((0 : Int32), (u2 h 43 (ix x1) (1 : Int32)))
def P_M_promote_54 (fz : Nat) (x1 : Int32) (h : HH) : Prop := vp_in x1 2 ∧ (True)
def B_M_promote (fz : Nat) (x1 : Int32) (h : HH) : Int32 × HH := if (B_M_isNode fz x1 h) = 0 then (((-1 : Int32), h)) else (if (h 42 (ix x1)) = 0 then (((-2 : Int32), h)) else (if (h 40 (ix x1)) = 0 then (if (h 27 23) = 0 then (B_M_promote_54 fz x1 h) else (if (h 43 (ix ((1 : Int32) - x1))) = 0 then (B_M_promote_54 fz x1 h) else (((-7 : Int32), h)))) else (((-6 : Int32), h))))
def P_M_promote (fz : Nat) (x1 : Int32) (h : HH) : Prop := P_M_isNode fz x1 h ∧ (((B_M_isNode fz x1 h) = 0 → (True)) ∧ (¬ (B_M_isNode fz x1 h) = 0 → (vp_in x1 2 ∧ (((h 42 (ix x1)) = 0 → (True)) ∧ (¬ (h 42 (ix x1)) = 0 → (vp_in x1 2 ∧ (((h 40 (ix x1)) = 0 → (((h 27 23) = 0 → (P_M_promote_54 fz x1 h)) ∧ (¬ (h 27 23) = 0 → (vp_in ((1 : Int32) - x1) 2 ∧ (((h 43 (ix ((1 : Int32) - x1))) = 0 → (P_M_promote_54 fz x1 h)) ∧ (¬ (h 43 (ix ((1 : Int32) - x1))) = 0 → (True))))))) ∧ (¬ (h 40 (ix x1)) = 0 → (True)))))))))
def B_M_demote (fz : Nat) (x1 : Int32) (h : HH) : Int32 × HH := if (B_M_isNode fz x1 h) = 0 then (((-1 : Int32), h)) else (if (h 42 (ix x1)) = 0 then (((-2 : Int32), h)) else (if (h 43 (ix x1)) = 0 then (((-3 : Int32), h)) else (if (B_M_pending fz x1 (0 : Int32) (31 : Int32) h) ≤ 0 then (((0 : Int32), (u2 h 43 (ix x1) (0 : Int32)))) else (((-5 : Int32), h)))))
def P_M_demote (fz : Nat) (x1 : Int32) (h : HH) : Prop := P_M_isNode fz x1 h ∧ (((B_M_isNode fz x1 h) = 0 → (True)) ∧ (¬ (B_M_isNode fz x1 h) = 0 → (vp_in x1 2 ∧ (((h 42 (ix x1)) = 0 → (True)) ∧ (¬ (h 42 (ix x1)) = 0 → (vp_in x1 2 ∧ (((h 43 (ix x1)) = 0 → (True)) ∧ (¬ (h 43 (ix x1)) = 0 → (P_M_pending fz x1 (0 : Int32) (31 : Int32) h ∧ (((B_M_pending fz x1 (0 : Int32) (31 : Int32) h) ≤ 0 → (vp_in x1 2 ∧ (True))) ∧ (¬ (B_M_pending fz x1 (0 : Int32) (31 : Int32) h) ≤ 0 → (True))))))))))))
def B_M_discard_75 (fz : Nat) : Nat → Int32 → Int32 → HH → Int32 × HH
  | 0, _, _, h => (0, h)
  | fu + 1, x1, x2, h => if (32 : Int32) ≤ x2 then (((1 : Int32), (B_M_turnInto fz x1 (3 : Int32) (4 : Int32) h))) else (B_M_discard_75 fz fu x1 (x2 + 1) (u2 h 35 (ix (((32 : Int32) * x1) + x2)) (0 : Int32)))
def P_M_discard_75 (fz : Nat) : Nat → Int32 → Int32 → HH → Prop
  | 0, _, _, _ => False
  | fu + 1, x1, x2, h => ((32 : Int32) ≤ x2 → (P_M_turnInto fz x1 (3 : Int32) (4 : Int32) h ∧ (True))) ∧ (¬ (32 : Int32) ≤ x2 → (vp_in (((32 : Int32) * x1) + x2) 64 ∧ (P_M_discard_75 fz fu x1 (x2 + 1) (u2 h 35 (ix (((32 : Int32) * x1) + x2)) (0 : Int32)))))
def B_M_discard (fz : Nat) (x1 : Int32) (h : HH) : Int32 × HH := if (B_M_isNode fz x1 h) = 0 then (((0 : Int32), h)) else (if (h 42 (ix x1)) = 0 then (((0 : Int32), h)) else (if (h 43 (ix x1)) = 0 then (if (h 27 23) = 0 then (if (h 40 (ix ((1 : Int32) - x1))) = 0 then (B_M_discard_75 fz fz x1 (0 : Int32) (u2 (u2 (u2 (u2 h 40 (ix x1) (1 : Int32)) 41 (ix x1) (0 : Int32)) 38 (ix x1) (0 : Int32)) 39 (ix x1) (0 : Int32))) else (((0 : Int32), h))) else (((0 : Int32), h))) else (((0 : Int32), h))))
def P_M_discard (fz : Nat) (x1 : Int32) (h : HH) : Prop := P_M_isNode fz x1 h ∧ (((B_M_isNode fz x1 h) = 0 → (True)) ∧ (¬ (B_M_isNode fz x1 h) = 0 → (vp_in x1 2 ∧ (((h 42 (ix x1)) = 0 → (True)) ∧ (¬ (h 42 (ix x1)) = 0 → (vp_in x1 2 ∧ (((h 43 (ix x1)) = 0 → (((h 27 23) = 0 → (vp_in ((1 : Int32) - x1) 2 ∧ (((h 40 (ix ((1 : Int32) - x1))) = 0 → (vp_in x1 2 ∧ (vp_in x1 2 ∧ (vp_in x1 2 ∧ (vp_in x1 2 ∧ (P_M_discard_75 fz fz x1 (0 : Int32) (u2 (u2 (u2 (u2 h 40 (ix x1) (1 : Int32)) 41 (ix x1) (0 : Int32)) 38 (ix x1) (0 : Int32)) 39 (ix x1) (0 : Int32)))))))) ∧ (¬ (h 40 (ix ((1 : Int32) - x1))) = 0 → (True))))) ∧ (¬ (h 27 23) = 0 → (True)))) ∧ (¬ (h 43 (ix x1)) = 0 → (True)))))))))
def B_M_disk (fz : Nat) (x1 : Int32) (x2 : Int32) (h : HH) : Int32 := if (B_M_isNode fz x1 h) = 0 then ((0 : Int32)) else (if (B_M_isBlock fz x2 h) = 0 then ((0 : Int32)) else ((h 34 (ix (((32 : Int32) * x1) + x2)))))
def P_M_disk (fz : Nat) (x1 : Int32) (x2 : Int32) (h : HH) : Prop := P_M_isNode fz x1 h ∧ (((B_M_isNode fz x1 h) = 0 → (True)) ∧ (¬ (B_M_isNode fz x1 h) = 0 → (P_M_isBlock fz x2 h ∧ (((B_M_isBlock fz x2 h) = 0 → (True)) ∧ (¬ (B_M_isBlock fz x2 h) = 0 → (vp_in (((32 : Int32) * x1) + x2) 64 ∧ (True)))))))
def B_M_fate (fz : Nat) (x1 : Int32) (h : HH) : Int32 := if x1 < (1 : Int32) then ((0 : Int32)) else (if (h 27 0) < x1 then ((0 : Int32)) else ((h 32 (ix x1))))
def P_M_fate (fz : Nat) (x1 : Int32) (h : HH) : Prop := (x1 < (1 : Int32) → (True)) ∧ (¬ x1 < (1 : Int32) → (((h 27 0) < x1 → (True)) ∧ (¬ (h 27 0) < x1 → (vp_in x1 301 ∧ (True)))))
def B_M_state_116 (fz : Nat) (y0 : Int32) (y1 : Int32) (h : HH) : Int32 := (y0 + y1)
def P_M_state_116 (fz : Nat) (y0 : Int32) (y1 : Int32) (h : HH) : Prop := True
def B_M_state_100 (fz : Nat) (x1 : Int32) (y0 : Int32) (y1 : Int32) (h : HH) : Int32 := if (h 45 (ix x1)) = 0 then (B_M_state_116 fz (y0 + y1) (0 : Int32) h) else (B_M_state_116 fz (y0 + y1) (64 : Int32) h)
def P_M_state_100 (fz : Nat) (x1 : Int32) (y0 : Int32) (y1 : Int32) (h : HH) : Prop := vp_in x1 2 ∧ (((h 45 (ix x1)) = 0 → (P_M_state_116 fz (y0 + y1) (0 : Int32) h)) ∧ (¬ (h 45 (ix x1)) = 0 → (P_M_state_116 fz (y0 + y1) (64 : Int32) h)))
def B_M_state_84 (fz : Nat) (x1 : Int32) (y0 : Int32) (y1 : Int32) (h : HH) : Int32 := if (h 44 (ix x1)) = 0 then (B_M_state_100 fz x1 (y0 + y1) (0 : Int32) h) else (B_M_state_100 fz x1 (y0 + y1) (32 : Int32) h)
def P_M_state_84 (fz : Nat) (x1 : Int32) (y0 : Int32) (y1 : Int32) (h : HH) : Prop := vp_in x1 2 ∧ (((h 44 (ix x1)) = 0 → (P_M_state_100 fz x1 (y0 + y1) (0 : Int32) h)) ∧ (¬ (h 44 (ix x1)) = 0 → (P_M_state_100 fz x1 (y0 + y1) (32 : Int32) h)))
def B_M_state_68 (fz : Nat) (x1 : Int32) (y0 : Int32) (y1 : Int32) (h : HH) : Int32 := if (h 27 23) = 0 then (B_M_state_84 fz x1 (y0 + y1) (0 : Int32) h) else (B_M_state_84 fz x1 (y0 + y1) (16 : Int32) h)
def P_M_state_68 (fz : Nat) (x1 : Int32) (y0 : Int32) (y1 : Int32) (h : HH) : Prop := ((h 27 23) = 0 → (P_M_state_84 fz x1 (y0 + y1) (0 : Int32) h)) ∧ (¬ (h 27 23) = 0 → (P_M_state_84 fz x1 (y0 + y1) (16 : Int32) h))
def B_M_state_52 (fz : Nat) (x1 : Int32) (y0 : Int32) (y1 : Int32) (h : HH) : Int32 := if (h 41 (ix x1)) = 0 then (B_M_state_68 fz x1 (y0 + y1) (0 : Int32) h) else (B_M_state_68 fz x1 (y0 + y1) (8 : Int32) h)
def P_M_state_52 (fz : Nat) (x1 : Int32) (y0 : Int32) (y1 : Int32) (h : HH) : Prop := vp_in x1 2 ∧ (((h 41 (ix x1)) = 0 → (P_M_state_68 fz x1 (y0 + y1) (0 : Int32) h)) ∧ (¬ (h 41 (ix x1)) = 0 → (P_M_state_68 fz x1 (y0 + y1) (8 : Int32) h)))
def B_M_state_37 (fz : Nat) (x1 : Int32) (y0 : Int32) (y1 : Int32) (h : HH) : Int32 := if (h 40 (ix x1)) = 0 then (B_M_state_52 fz x1 (y0 + y1) (0 : Int32) h) else (B_M_state_52 fz x1 (y0 + y1) (4 : Int32) h)
def P_M_state_37 (fz : Nat) (x1 : Int32) (y0 : Int32) (y1 : Int32) (h : HH) : Prop := vp_in x1 2 ∧ (((h 40 (ix x1)) = 0 → (P_M_state_52 fz x1 (y0 + y1) (0 : Int32) h)) ∧ (¬ (h 40 (ix x1)) = 0 → (P_M_state_52 fz x1 (y0 + y1) (4 : Int32) h)))
def B_M_state_23 (fz : Nat) (x1 : Int32) (y0 : Int32) (h : HH) : Int32 := if (h 43 (ix x1)) = 0 then (B_M_state_37 fz x1 y0 (0 : Int32) h) else (B_M_state_37 fz x1 y0 (2 : Int32) h)
def P_M_state_23 (fz : Nat) (x1 : Int32) (y0 : Int32) (h : HH) : Prop := vp_in x1 2 ∧ (((h 43 (ix x1)) = 0 → (P_M_state_37 fz x1 y0 (0 : Int32) h)) ∧ (¬ (h 43 (ix x1)) = 0 → (P_M_state_37 fz x1 y0 (2 : Int32) h)))
def B_M_state (fz : Nat) (x1 : Int32) (h : HH) : Int32 := if (B_M_isNode fz x1 h) = 0 then ((-1 : Int32)) else (if (h 42 (ix x1)) = 0 then (B_M_state_23 fz x1 (0 : Int32) h) else (B_M_state_23 fz x1 (1 : Int32) h))
def P_M_state (fz : Nat) (x1 : Int32) (h : HH) : Prop := P_M_isNode fz x1 h ∧ (((B_M_isNode fz x1 h) = 0 → (True)) ∧ (¬ (B_M_isNode fz x1 h) = 0 → (vp_in x1 2 ∧ (((h 42 (ix x1)) = 0 → (P_M_state_23 fz x1 (0 : Int32) h)) ∧ (¬ (h 42 (ix x1)) = 0 → (P_M_state_23 fz x1 (1 : Int32) h))))))
def B_M_generation (fz : Nat) (x1 : Int32) (h : HH) : Int64 := if (B_M_isNode fz x1 h) = 0 then ((0 : Int64)) else ((((4294967296 : Int64) * (((h 38 (ix x1))).toInt64)) + (((h 39 (ix x1))).toInt64)))
def P_M_generation (fz : Nat) (x1 : Int32) (h : HH) : Prop := P_M_isNode fz x1 h ∧ (((B_M_isNode fz x1 h) = 0 → (True)) ∧ (¬ (B_M_isNode fz x1 h) = 0 → (vp_in x1 2 ∧ (vp_in x1 2 ∧ (True)))))
def B_M_map_13 (fz : Nat) : Nat → Int32 → Int32 → Int32 → HH → Int32
  | 0, _, _, _, _ => 0
  | fu + 1, x1, x2, x3, h => if (32 : Int32) ≤ x3 then (x2) else (if (h 35 (ix (((32 : Int32) * x1) + x3))) = 0 then (B_M_map_13 fz fu x1 x2 (x3 + 1) h) else (B_M_map_13 fz fu x1 (x2 ||| ((1 : Int32) <<< (x3 &&& 31))) (x3 + 1) h))
def P_M_map_13 (fz : Nat) : Nat → Int32 → Int32 → Int32 → HH → Prop
  | 0, _, _, _, _ => False
  | fu + 1, x1, x2, x3, h => ((32 : Int32) ≤ x3 → (True)) ∧ (¬ (32 : Int32) ≤ x3 → (vp_in (((32 : Int32) * x1) + x3) 64 ∧ (((h 35 (ix (((32 : Int32) * x1) + x3))) = 0 → (P_M_map_13 fz fu x1 x2 (x3 + 1) h)) ∧ (¬ (h 35 (ix (((32 : Int32) * x1) + x3))) = 0 → (P_M_map_13 fz fu x1 (x2 ||| ((1 : Int32) <<< (x3 &&& 31))) (x3 + 1) h)))))
def B_M_map (fz : Nat) (x1 : Int32) (h : HH) : Int32 := if (B_M_isNode fz x1 h) = 0 then ((0 : Int32)) else (B_M_map_13 fz fz x1 (0 : Int32) (0 : Int32) h)
def P_M_map (fz : Nat) (x1 : Int32) (h : HH) : Prop := P_M_isNode fz x1 h ∧ (((B_M_isNode fz x1 h) = 0 → (True)) ∧ (¬ (B_M_isNode fz x1 h) = 0 → (P_M_map_13 fz fz x1 (0 : Int32) (0 : Int32) h)))
def B_M_log_23 (fz : Nat) : Nat → Int32 → Int32 → Int32 → Int32 → Int32 → HH → Int32 × Int32
  | 0, _, _, _, _, _, _ => (0, 0)
  | fu + 1, x1, x2, x3, x4, x5, h => if (8 : Int32) ≤ x5 then ((x4, x5)) else (if (h 36 (ix (((8 : Int32) * x1) + x5))) = 0 then (B_M_log_23 fz fu x1 x2 x3 x4 (x5 + 1) h) else (if (h 37 (ix (((8 : Int32) * x1) + x5))) ≤ (h 37 (ix (((8 : Int32) * x1) + x3))) then (B_M_log_23 fz fu x1 x2 x3 x4 (x5 + 1) h) else (B_M_log_23 fz fu x1 x2 x3 (x4 + 1) (x5 + 1) h)))
def P_M_log_23 (fz : Nat) : Nat → Int32 → Int32 → Int32 → Int32 → Int32 → HH → Prop
  | 0, _, _, _, _, _, _ => False
  | fu + 1, x1, x2, x3, x4, x5, h => ((8 : Int32) ≤ x5 → (True)) ∧ (¬ (8 : Int32) ≤ x5 → (vp_in (((8 : Int32) * x1) + x5) 16 ∧ (((h 36 (ix (((8 : Int32) * x1) + x5))) = 0 → (P_M_log_23 fz fu x1 x2 x3 x4 (x5 + 1) h)) ∧ (¬ (h 36 (ix (((8 : Int32) * x1) + x5))) = 0 → (vp_in (((8 : Int32) * x1) + x5) 16 ∧ (vp_in (((8 : Int32) * x1) + x3) 16 ∧ (((h 37 (ix (((8 : Int32) * x1) + x5))) ≤ (h 37 (ix (((8 : Int32) * x1) + x3))) → (P_M_log_23 fz fu x1 x2 x3 x4 (x5 + 1) h)) ∧ (¬ (h 37 (ix (((8 : Int32) * x1) + x5))) ≤ (h 37 (ix (((8 : Int32) * x1) + x3))) → (P_M_log_23 fz fu x1 x2 x3 (x4 + 1) (x5 + 1) h)))))))))
def B_M_log_11 (fz : Nat) : Nat → Int32 → Int32 → Int32 → HH → Int32
  | 0, _, _, _, _ => 0
  | fu + 1, x1, x2, x3, h => if (8 : Int32) ≤ x3 then ((-1 : Int32)) else (if (h 36 (ix (((8 : Int32) * x1) + x3))) = 0 then (B_M_log_11 fz fu x1 x2 (x3 + 1) h) else (if (B_M_log_23 fz fz x1 x2 x3 (0 : Int32) (0 : Int32) h).1 = x2 then (x3) else (B_M_log_11 fz fu x1 x2 (x3 + 1) h)))
def P_M_log_11 (fz : Nat) : Nat → Int32 → Int32 → Int32 → HH → Prop
  | 0, _, _, _, _ => False
  | fu + 1, x1, x2, x3, h => ((8 : Int32) ≤ x3 → (True)) ∧ (¬ (8 : Int32) ≤ x3 → (P_M_log_23 fz fz x1 x2 x3 (0 : Int32) (0 : Int32) h ∧ (vp_in (((8 : Int32) * x1) + x3) 16 ∧ (((h 36 (ix (((8 : Int32) * x1) + x3))) = 0 → (P_M_log_11 fz fu x1 x2 (x3 + 1) h)) ∧ (¬ (h 36 (ix (((8 : Int32) * x1) + x3))) = 0 → (((B_M_log_23 fz fz x1 x2 x3 (0 : Int32) (0 : Int32) h).1 = x2 → (True)) ∧ (¬ (B_M_log_23 fz fz x1 x2 x3 (0 : Int32) (0 : Int32) h).1 = x2 → (P_M_log_11 fz fu x1 x2 (x3 + 1) h))))))))
def B_M_log (fz : Nat) (x1 : Int32) (x2 : Int32) (h : HH) : Int32 := if (B_M_isNode fz x1 h) = 0 then ((-1 : Int32)) else (B_M_log_11 fz fz x1 x2 (0 : Int32) h)
def P_M_log (fz : Nat) (x1 : Int32) (x2 : Int32) (h : HH) : Prop := P_M_isNode fz x1 h ∧ (((B_M_isNode fz x1 h) = 0 → (True)) ∧ (¬ (B_M_isNode fz x1 h) = 0 → (P_M_log_11 fz fz x1 x2 (0 : Int32) h)))
def B_M_traffic_13 (fz : Nat) : Nat → Int32 → Int32 → Int32 → HH → Int32
  | 0, _, _, _, _ => 0
  | fu + 1, x1, x2, x3, h => if (h 27 0) < x3 then ((((h 51 (ix x1)) + ((100 : Int32) * x2)) + ((10000 : Int32) * (B_M_underWay fz x1 (-1 : Int32) h)))) else (if (h 33 (ix x3)) = 0 then (B_M_traffic_13 fz fu x1 x2 (x3 + 1) h) else (if (h 28 (ix x3)) = ((1 : Int32) - x1) then (B_M_traffic_13 fz fu x1 (x2 + (1 : Int32)) (x3 + 1) h) else (B_M_traffic_13 fz fu x1 x2 (x3 + 1) h)))
def P_M_traffic_13 (fz : Nat) : Nat → Int32 → Int32 → Int32 → HH → Prop
  | 0, _, _, _, _ => False
  | fu + 1, x1, x2, x3, h => ((h 27 0) < x3 → (vp_in x1 2 ∧ (P_M_underWay fz x1 (-1 : Int32) h ∧ (True)))) ∧ (¬ (h 27 0) < x3 → (vp_in x3 301 ∧ (((h 33 (ix x3)) = 0 → (P_M_traffic_13 fz fu x1 x2 (x3 + 1) h)) ∧ (¬ (h 33 (ix x3)) = 0 → (vp_in x3 301 ∧ (((h 28 (ix x3)) = ((1 : Int32) - x1) → (P_M_traffic_13 fz fu x1 (x2 + (1 : Int32)) (x3 + 1) h)) ∧ (¬ (h 28 (ix x3)) = ((1 : Int32) - x1) → (P_M_traffic_13 fz fu x1 x2 (x3 + 1) h))))))))
def B_M_traffic (fz : Nat) (x1 : Int32) (h : HH) : Int32 := if (B_M_isNode fz x1 h) = 0 then ((0 : Int32)) else (B_M_traffic_13 fz fz x1 (0 : Int32) (1 : Int32) h)
def P_M_traffic (fz : Nat) (x1 : Int32) (h : HH) : Prop := P_M_isNode fz x1 h ∧ (((B_M_isNode fz x1 h) = 0 → (True)) ∧ (¬ (B_M_isNode fz x1 h) = 0 → (P_M_traffic_13 fz fz x1 (0 : Int32) (1 : Int32) h)))
end
section
section WALK
variable {p : Program} {l : Launch} {e : Env} {s : State} {m : MethodId} {args : Array Value} {below : List Frame} {meth : Method} {c : Code} {D : va_G} {cI cZ : ClassId} {base : Nat} {ad : Nat → Nat} {R : Room} {Q : State → Prop} {cells slots : Nat}
set_option maxHeartbeats 4000000 in
set_option maxRecDepth 100000 in
theorem w_V_isNode (fz : Nat) (x0 : Int32) (h : HH) (ρ : Int32) (hρ : B_V_isNode fz x0 h = ρ) (hp : P_V_isNode fz x0 h) (X : CallFix p m c b_V_isNode 1 s args TB R_V) (K : KK D cI cZ s) (hr : meth.sig.returnType = (some .boolean)) (hk : meth.locks = false) {ls : Array Slot} {H : Heap} {locs : List Loc} (hl : Lc ls 1 [some (.int x0)]) (hw : Hw D cI cZ base ad s shape h H locs) : W p l e (rmD 0 0) s m args below meth c H locs 0 0 (MQ below (Qw D cI cZ base ad (pI h ρ)) args s 0 0 (fun q => base ≤ q)) (F0 m 0 ls []) := by
  unfold B_V_isNode at hρ
  unfold P_V_isNode at hp
  refine lv_iload_n X.1 X.2.1 d_V_isNode_0 rfl (hl.at 0 rfl) ?_
  refine lv_if_eq (tgt := 9) X.1 X.2.1 d_V_isNode_1 (by decide) (fun g => ?_) (fun g => ?_)
  · rw [if_pos g] at hρ
    have hp := hp.1 g
    refine lv_iconst (v := (1 : Int32)) X.1 X.2.1 d_V_isNode_9 (by decide) ?_
    refine lv_goto (tgt := 14) X.1 X.2.1 d_V_isNode_10 (by decide) ?_
    exact r_zret X hr hk hw (by decide) ⟨congrArg (fun z => some (Value.int z)) hρ, rfl⟩ d_V_isNode_14
  · rw [if_neg g] at hρ
    have hp := hp.2 g
    refine lv_iload_n X.1 X.2.1 d_V_isNode_4 rfl (hl.at 0 rfl) ?_
    refine lv_iconst (v := (1 : Int32)) X.1 X.2.1 d_V_isNode_5 (by decide) ?_
    refine lv_icmp_ne (tgt := 13) X.1 X.2.1 d_V_isNode_6 (by decide) (fun g => ?_) (fun g => ?_)
    · rw [if_neg g] at hρ
      have hp := hp.2 g
      refine lv_iconst (v := (0 : Int32)) X.1 X.2.1 d_V_isNode_13 (by decide) ?_
      exact r_zret X hr hk hw (by decide) ⟨congrArg (fun z => some (Value.int z)) hρ, rfl⟩ d_V_isNode_14
    · rw [if_pos g] at hρ
      have hp := hp.1 g
      refine lv_iconst (v := (1 : Int32)) X.1 X.2.1 d_V_isNode_9 (by decide) ?_
      refine lv_goto (tgt := 14) X.1 X.2.1 d_V_isNode_10 (by decide) ?_
      exact r_zret X hr hk hw (by decide) ⟨congrArg (fun z => some (Value.int z)) hρ, rfl⟩ d_V_isNode_14
set_option maxRecDepth 100000 in
theorem c_V_isNode (l : Launch) (D : va_G) (cI cZ : ClassId) (base : Nat) (ad : Nat → Nat) (fz : Nat) (x0 : Int32) (h : HH) (hp : P_V_isNode fz x0 h) : Ct l D cI cZ base ad y_V_isNode b_V_isNode 1 (some .boolean) 0 0 [.int x0] h (pI h (B_V_isNode fz x0 h)) := by
  refine Ct.of (by decide) (Nat.le_of_ble_eq_true rfl) (cat_ok rfl) ?_
  intro p e s m args below meth c ls X K hr hk hl hw
  exact w_V_isNode fz x0 h _ rfl hp X K hr hk hl hw
set_option maxHeartbeats 4000000 in
set_option maxRecDepth 100000 in
theorem w_V_isBlock (fz : Nat) (x0 : Int32) (h : HH) (ρ : Int32) (hρ : B_V_isBlock fz x0 h = ρ) (hp : P_V_isBlock fz x0 h) (X : CallFix p m c b_V_isBlock 1 s args TB R_V) (K : KK D cI cZ s) (hr : meth.sig.returnType = (some .boolean)) (hk : meth.locks = false) {ls : Array Slot} {H : Heap} {locs : List Loc} (hl : Lc ls 1 [some (.int x0)]) (hw : Hw D cI cZ base ad s shape h H locs) : W p l e (rmD 0 0) s m args below meth c H locs 0 0 (MQ below (Qw D cI cZ base ad (pI h ρ)) args s 0 0 (fun q => base ≤ q)) (F0 m 0 ls []) := by
  unfold B_V_isBlock at hρ
  unfold P_V_isBlock at hp
  refine lv_iload_n X.1 X.2.1 d_V_isBlock_0 rfl (hl.at 0 rfl) ?_
  refine lv_if_lt (tgt := 14) X.1 X.2.1 d_V_isBlock_1 (by decide) (fun g => ?_) (fun g => ?_)
  · rw [if_pos g] at hρ
    have hp := hp.1 g
    refine lv_iconst (v := (0 : Int32)) X.1 X.2.1 d_V_isBlock_14 (by decide) ?_
    exact r_zret X hr hk hw (by decide) ⟨congrArg (fun z => some (Value.int z)) hρ, rfl⟩ d_V_isBlock_15
  · rw [if_neg g] at hρ
    have hp := hp.2 g
    refine lv_iload_n X.1 X.2.1 d_V_isBlock_4 rfl (hl.at 0 rfl) ?_
    refine lv_bipush (v := (32 : Int32)) X.1 X.2.1 d_V_isBlock_5 (by decide) ?_
    refine lv_icmp_ge (tgt := 14) X.1 X.2.1 d_V_isBlock_7 (by decide) (fun g => ?_) (fun g => ?_)
    · rw [if_pos g] at hρ
      have hp := hp.1 g
      refine lv_iconst (v := (0 : Int32)) X.1 X.2.1 d_V_isBlock_14 (by decide) ?_
      exact r_zret X hr hk hw (by decide) ⟨congrArg (fun z => some (Value.int z)) hρ, rfl⟩ d_V_isBlock_15
    · rw [if_neg g] at hρ
      have hp := hp.2 g
      refine lv_iconst (v := (1 : Int32)) X.1 X.2.1 d_V_isBlock_10 (by decide) ?_
      refine lv_goto (tgt := 15) X.1 X.2.1 d_V_isBlock_11 (by decide) ?_
      exact r_zret X hr hk hw (by decide) ⟨congrArg (fun z => some (Value.int z)) hρ, rfl⟩ d_V_isBlock_15
set_option maxRecDepth 100000 in
theorem c_V_isBlock (l : Launch) (D : va_G) (cI cZ : ClassId) (base : Nat) (ad : Nat → Nat) (fz : Nat) (x0 : Int32) (h : HH) (hp : P_V_isBlock fz x0 h) : Ct l D cI cZ base ad y_V_isBlock b_V_isBlock 1 (some .boolean) 0 0 [.int x0] h (pI h (B_V_isBlock fz x0 h)) := by
  refine Ct.of (by decide) (Nat.le_of_ble_eq_true rfl) (cat_ok rfl) ?_
  intro p e s m args below meth c ls X K hr hk hl hw
  exact w_V_isBlock fz x0 h _ rfl hp X K hr hk hl hw
set_option maxHeartbeats 4000000 in
set_option maxRecDepth 100000 in
theorem w_V_nodeOf (fz : Nat) (x1 : Int32) (h : HH) (ρ : Nat) (hρ : B_V_nodeOf fz x1 h = ρ) (hp : P_V_nodeOf fz x1 h) (X : CallFix p m c b_V_nodeOf 2 s args TB R_V) (K : KK D cI cZ s) (hr : meth.sig.returnType = (some (.object "TwinVolume$Node"))) (hk : meth.locks = false) {ls : Array Slot} {H : Heap} {locs : List Loc} (hl : Lc ls 2 [some (.ref (ad 0)), some (.int x1)]) (hw : Hw D cI cZ base ad s shape h H locs) : W p l e (rmD 0 0) s m args below meth c H locs 0 0 (MQ below (Qw D cI cZ base ad (pR ad h ρ)) args s 0 0 (fun q => base ≤ q)) (F0 m 0 ls []) := by
  unfold B_V_nodeOf at hρ
  unfold P_V_nodeOf at hp
  refine lv_iload_n X.1 X.2.1 d_V_nodeOf_0 rfl (hl.at 1 rfl) ?_
  refine lv_if_ne (tgt := 11) X.1 X.2.1 d_V_nodeOf_1 (by decide) (fun g => ?_) (fun g => ?_)
  · rw [if_neg g] at hρ
    have hp := hp.2 g
    refine lv_aload_n X.1 X.2.1 d_V_nodeOf_11 rfl (hl.at 0 rfl) ?_
    refine r_getr (j := 11) X K hw fg_V_18 rfl rfl d_V_nodeOf_12 ?_
    exact r_aret X hr (Or.inl ⟨_, rfl⟩) hk hw ⟨congrArg (fun z => some (Value.ref (ad z))) hρ, rfl⟩ d_V_nodeOf_15
  · rw [if_pos g] at hρ
    have hp := hp.1 g
    refine lv_aload_n X.1 X.2.1 d_V_nodeOf_4 rfl (hl.at 0 rfl) ?_
    refine r_getr (j := 1) X K hw fg_V_12 rfl rfl d_V_nodeOf_5 ?_
    refine lv_goto (tgt := 15) X.1 X.2.1 d_V_nodeOf_8 (by decide) ?_
    exact r_aret X hr (Or.inl ⟨_, rfl⟩) hk hw ⟨congrArg (fun z => some (Value.ref (ad z))) hρ, rfl⟩ d_V_nodeOf_15
set_option maxRecDepth 100000 in
theorem c_V_nodeOf (l : Launch) (D : va_G) (cI cZ : ClassId) (base : Nat) (ad : Nat → Nat) (fz : Nat) (x1 : Int32) (h : HH) (hp : P_V_nodeOf fz x1 h) : Ct l D cI cZ base ad y_V_nodeOf b_V_nodeOf 2 (some (.object "TwinVolume$Node")) 0 0 [.ref (ad 0), .int x1] h (pR ad h (B_V_nodeOf fz x1 h)) := by
  refine Ct.of (by decide) (Nat.le_of_ble_eq_true rfl) (cat_ok rfl) ?_
  intro p e s m args below meth c ls X K hr hk hl hw
  exact w_V_nodeOf fz x1 h _ rfl hp X K hr hk hl hw
theorem isN_V_nodeOf (fz : Nat) (x1 : Int32) (h : HH) : isN (B_V_nodeOf fz x1 h) := by
  unfold B_V_nodeOf
  split
  · exact Or.inl rfl
  · exact Or.inr rfl
set_option maxHeartbeats 4000000 in
set_option maxRecDepth 100000 in
theorem w_T_isFull (fz : Nat)  (h : HH) (ρ : Int32) (hρ : B_T_isFull fz  h = ρ) (hp : P_T_isFull fz  h) (X : CallFix p m c b_T_isFull 1 s args TB R_T) (K : KK D cI cZ s) (hr : meth.sig.returnType = (some .boolean)) (hk : meth.locks = false) {ls : Array Slot} {H : Heap} {locs : List Loc} (hl : Lc ls 1 [some (.ref (ad 21))]) (hw : Hw D cI cZ base ad s shape h H locs) : W p l e (rmD 0 0) s m args below meth c H locs 0 0 (MQ below (Qw D cI cZ base ad (pI h ρ)) args s 0 0 (fun q => base ≤ q)) (F0 m 0 ls []) := by
  unfold B_T_isFull at hρ
  unfold P_T_isFull at hp
  refine lv_aload_n X.1 X.2.1 d_T_isFull_0 rfl (hl.at 0 rfl) ?_
  refine r_geti X K hw fg_T_27 rfl rfl d_T_isFull_1 ?_
  refine lv_sipush (v := (300 : Int32)) X.1 X.2.1 d_T_isFull_4 (by decide) ?_
  refine lv_icmp_lt (tgt := 14) X.1 X.2.1 d_T_isFull_7 (by decide) (fun g => ?_) (fun g => ?_)
  · rw [if_pos g] at hρ
    have hp := hp.1 g
    refine lv_iconst (v := (0 : Int32)) X.1 X.2.1 d_T_isFull_14 (by decide) ?_
    exact r_zret X hr hk hw (by decide) ⟨congrArg (fun z => some (Value.int z)) hρ, rfl⟩ d_T_isFull_15
  · rw [if_neg g] at hρ
    have hp := hp.2 g
    refine lv_iconst (v := (1 : Int32)) X.1 X.2.1 d_T_isFull_10 (by decide) ?_
    refine lv_goto (tgt := 15) X.1 X.2.1 d_T_isFull_11 (by decide) ?_
    exact r_zret X hr hk hw (by decide) ⟨congrArg (fun z => some (Value.int z)) hρ, rfl⟩ d_T_isFull_15
set_option maxRecDepth 100000 in
theorem c_T_isFull (l : Launch) (D : va_G) (cI cZ : ClassId) (base : Nat) (ad : Nat → Nat) (fz : Nat)  (h : HH) (hp : P_T_isFull fz  h) : Ct l D cI cZ base ad y_T_isFull b_T_isFull 1 (some .boolean) 0 0 [.ref (ad 21)] h (pI h (B_T_isFull fz  h)) := by
  refine Ct.of (by decide) (Nat.le_of_ble_eq_true rfl) (cat_ok rfl) ?_
  intro p e s m args below meth c ls X K hr hk hl hw
  exact w_T_isFull fz  h _ rfl hp X K hr hk hl hw
set_option maxHeartbeats 4000000 in
set_option maxRecDepth 100000 in
theorem w_T_isPendingOf (fz : Nat) (x1 : Int32) (x2 : Int32) (h : HH) (ρ : Int32) (hρ : B_T_isPendingOf fz x1 x2 h = ρ) (hp : P_T_isPendingOf fz x1 x2 h) (X : CallFix p m c b_T_isPendingOf 3 s args TB R_T) (K : KK D cI cZ s) (hr : meth.sig.returnType = (some .boolean)) (hk : meth.locks = false) {ls : Array Slot} {H : Heap} {locs : List Loc} (hl : Lc ls 3 [some (.ref (ad 21)), some (.int x1), some (.int x2)]) (hw : Hw D cI cZ base ad s shape h H locs) : W p l e (rmD 0 0) s m args below meth c H locs 0 0 (MQ below (Qw D cI cZ base ad (pI h ρ)) args s 0 0 (fun q => base ≤ q)) (F0 m 0 ls []) := by
  unfold B_T_isPendingOf at hρ
  unfold P_T_isPendingOf at hp
  refine lv_aload_n X.1 X.2.1 d_T_isPendingOf_0 rfl (hl.at 0 rfl) ?_
  refine r_getr (j := 22) X K hw fg_T_9 rfl rfl d_T_isPendingOf_1 ?_
  refine lv_iload_n X.1 X.2.1 d_T_isPendingOf_4 rfl (hl.at 2 rfl) ?_
  refine r_ald X K hw rfl hp.1 d_T_isPendingOf_5 ?_
  have hp := hp.2
  refine lv_iload_n X.1 X.2.1 d_T_isPendingOf_6 rfl (hl.at 1 rfl) ?_
  refine lv_icmp_ne (tgt := 24) X.1 X.2.1 d_T_isPendingOf_7 (by decide) (fun g => ?_) (fun g => ?_)
  · rw [if_neg g] at hρ
    have hp := hp.2 g
    refine lv_iconst (v := (0 : Int32)) X.1 X.2.1 d_T_isPendingOf_24 (by decide) ?_
    exact r_zret X hr hk hw (by decide) ⟨congrArg (fun z => some (Value.int z)) hρ, rfl⟩ d_T_isPendingOf_25
  · rw [if_pos g] at hρ
    have hp := hp.1 g
    refine lv_aload_n X.1 X.2.1 d_T_isPendingOf_10 rfl (hl.at 0 rfl) ?_
    refine r_getr (j := 26) X K hw fg_T_24 rfl rfl d_T_isPendingOf_11 ?_
    refine lv_iload_n X.1 X.2.1 d_T_isPendingOf_14 rfl (hl.at 2 rfl) ?_
    refine r_ald X K hw rfl hp.1 d_T_isPendingOf_15 ?_
    have hp := hp.2
    refine lv_iconst (v := (1 : Int32)) X.1 X.2.1 d_T_isPendingOf_16 (by decide) ?_
    refine lv_icmp_ne (tgt := 24) X.1 X.2.1 d_T_isPendingOf_17 (by decide) (fun g => ?_) (fun g => ?_)
    · rw [if_neg g] at hρ
      have hp := hp.2 g
      refine lv_iconst (v := (0 : Int32)) X.1 X.2.1 d_T_isPendingOf_24 (by decide) ?_
      exact r_zret X hr hk hw (by decide) ⟨congrArg (fun z => some (Value.int z)) hρ, rfl⟩ d_T_isPendingOf_25
    · rw [if_pos g] at hρ
      have hp := hp.1 g
      refine lv_iconst (v := (1 : Int32)) X.1 X.2.1 d_T_isPendingOf_20 (by decide) ?_
      refine lv_goto (tgt := 25) X.1 X.2.1 d_T_isPendingOf_21 (by decide) ?_
      exact r_zret X hr hk hw (by decide) ⟨congrArg (fun z => some (Value.int z)) hρ, rfl⟩ d_T_isPendingOf_25
set_option maxRecDepth 100000 in
theorem c_T_isPendingOf (l : Launch) (D : va_G) (cI cZ : ClassId) (base : Nat) (ad : Nat → Nat) (fz : Nat) (x1 : Int32) (x2 : Int32) (h : HH) (hp : P_T_isPendingOf fz x1 x2 h) : Ct l D cI cZ base ad y_T_isPendingOf b_T_isPendingOf 3 (some .boolean) 0 0 [.ref (ad 21), .int x1, .int x2] h (pI h (B_T_isPendingOf fz x1 x2 h)) := by
  refine Ct.of (by decide) (Nat.le_of_ble_eq_true rfl) (cat_ok rfl) ?_
  intro p e s m args below meth c ls X K hr hk hl hw
  exact w_T_isPendingOf fz x1 x2 h _ rfl hp X K hr hk hl hw
set_option maxHeartbeats 4000000 in
set_option maxRecDepth 100000 in
theorem w_T_countPending_4 (X : CallFix p m c b_T_countPending 4 s args TB R_T) (K : KK D cI cZ s) (hr : meth.sig.returnType = (some .int)) (hk : meth.locks = false) (fz : Nat) : ∀ (fu : Nat) (x1 : Int32) (x2 : Int32) (x3 : Int32) (h : HH) (ρ : Int32) (_ : B_T_countPending_4 fz fu x1 x2 x3 h = ρ) (_ : P_T_countPending_4 fz fu x1 x2 x3 h) {ls : Array Slot} {H : Heap} {locs : List Loc} (_ : Lc ls 4 [some (.ref (ad 21)), some (.int x1), some (.int x2), some (.int x3)]) (_ : Hw D cI cZ base ad s shape h H locs), W p l e (rmD 1 22) s m args below meth c H locs 0 0 (MQ below (Qw D cI cZ base ad (pI h ρ)) args s 0 0 (fun q => base ≤ q)) (F0 m 4 ls []) := by
  intro fu
  induction fu with
  | zero =>
    intro x1 x2 x3 h ρ hρ hp ls H locs hl hw
    exact hp.elim
  | succ fu ih =>
    intro x1 x2 x3 h ρ hρ hp ls H locs hl hw
    rw [B_T_countPending_4] at hρ
    rw [P_T_countPending_4] at hp
    refine lv_iload_n X.1 X.2.1 d_T_countPending_4 rfl (hl.at 3 rfl) ?_
    refine lv_aload_n X.1 X.2.1 d_T_countPending_5 rfl (hl.at 0 rfl) ?_
    refine r_geti X K hw fg_T_27 rfl rfl d_T_countPending_6 ?_
    refine lv_icmp_gt (tgt := 30) X.1 X.2.1 d_T_countPending_9 (by decide) (fun g => ?_) (fun g => ?_)
    · rw [if_pos g] at hρ
      have hp := hp.1 g
      refine lv_iload_n X.1 X.2.1 d_T_countPending_30 rfl (hl.at 2 rfl) ?_
      exact r_iret X hr hk hw ⟨congrArg (fun z => some (Value.int z)) hρ, rfl⟩ d_T_countPending_31
    · rw [if_neg g] at hρ
      have hp := hp.2 g
      refine lv_aload_n X.1 X.2.1 d_T_countPending_12 rfl (hl.at 0 rfl) ?_
      refine lv_iload_n X.1 X.2.1 d_T_countPending_13 rfl (hl.at 1 rfl) ?_
      refine lv_iload_n X.1 X.2.1 d_T_countPending_14 rfl (hl.at 3 rfl) ?_
      refine r_callV (rest := []) X K hw hl.1 mf_T_35 rfl rfl rfl (c_T_isPendingOf l D cI cZ base ad fz x1 x3 h hp.1) (by decide) ⟨Nat.le_refl _, Nat.le_refl _⟩ rfl rfl (Nat.le_of_ble_eq_true rfl) d_T_countPending_15 (fun v h' H locs q hw => ?_)
      obtain ⟨rfl, rfl⟩ := q
      have hp := hp.2
      refine lv_if_eq (tgt := 24) X.1 X.2.1 d_T_countPending_18 (by decide) (fun g => ?_) (fun g => ?_)
      · rw [if_pos g] at hρ
        have hp := hp.1 g
        refine lv_iincL X.1 X.2.1 hl (v := (x3 + 1)) d_T_countPending_24 rfl (congrArg (fun z => x3 + z) (by decide)) (by decide) (fun ls hl => ?_)
        have hl : Lc ls 4 [some (.ref (ad 21)), some (.int x1), some (.int x2), some (.int (x3 + 1))] := hl
        refine lv_goto (tgt := 4) X.1 X.2.1 d_T_countPending_27 (by decide) ?_
        exact ih x1 x2 (x3 + 1) h ρ hρ hp hl hw
      · rw [if_neg g] at hρ
        have hp := hp.2 g
        refine lv_iincL X.1 X.2.1 hl (v := (x2 + 1)) d_T_countPending_21 rfl (congrArg (fun z => x2 + z) (by decide)) (by decide) (fun ls hl => ?_)
        have hl : Lc ls 4 [some (.ref (ad 21)), some (.int x1), some (.int (x2 + 1)), some (.int x3)] := hl
        refine lv_iincL X.1 X.2.1 hl (v := (x3 + 1)) d_T_countPending_24 rfl (congrArg (fun z => x3 + z) (by decide)) (by decide) (fun ls hl => ?_)
        have hl : Lc ls 4 [some (.ref (ad 21)), some (.int x1), some (.int (x2 + 1)), some (.int (x3 + 1))] := hl
        refine lv_goto (tgt := 4) X.1 X.2.1 d_T_countPending_27 (by decide) ?_
        exact ih x1 (x2 + 1) (x3 + 1) h ρ hρ hp hl hw
set_option maxHeartbeats 4000000 in
set_option maxRecDepth 100000 in
theorem w_T_countPending (fz : Nat) (x1 : Int32) (h : HH) (ρ : Int32) (hρ : B_T_countPending fz x1 h = ρ) (hp : P_T_countPending fz x1 h) (X : CallFix p m c b_T_countPending 4 s args TB R_T) (K : KK D cI cZ s) (hr : meth.sig.returnType = (some .int)) (hk : meth.locks = false) {ls : Array Slot} {H : Heap} {locs : List Loc} (hl : Lc ls 4 [some (.ref (ad 21)), some (.int x1), none, none]) (hw : Hw D cI cZ base ad s shape h H locs) : W p l e (rmD 1 22) s m args below meth c H locs 0 0 (MQ below (Qw D cI cZ base ad (pI h ρ)) args s 0 0 (fun q => base ≤ q)) (F0 m 0 ls []) := by
  unfold B_T_countPending at hρ
  unfold P_T_countPending at hp
  refine lv_iconst (v := (0 : Int32)) X.1 X.2.1 d_T_countPending_0 (by decide) ?_
  refine r_istore_n X hl d_T_countPending_1 rfl (by decide) (fun ls hl => ?_)
  have hl : Lc ls 4 [some (.ref (ad 21)), some (.int x1), some (.int (0 : Int32)), none] := hl
  refine lv_iconst (v := (1 : Int32)) X.1 X.2.1 d_T_countPending_2 (by decide) ?_
  refine r_istore_n X hl d_T_countPending_3 rfl (by decide) (fun ls hl => ?_)
  have hl : Lc ls 4 [some (.ref (ad 21)), some (.int x1), some (.int (0 : Int32)), some (.int (1 : Int32))] := hl
  exact w_T_countPending_4 X K hr hk fz fz x1 (0 : Int32) (1 : Int32) h ρ hρ hp hl hw
set_option maxRecDepth 100000 in
theorem c_T_countPending (l : Launch) (D : va_G) (cI cZ : ClassId) (base : Nat) (ad : Nat → Nat) (fz : Nat) (x1 : Int32) (h : HH) (hp : P_T_countPending fz x1 h) : Ct l D cI cZ base ad y_T_countPending b_T_countPending 4 (some .int) 1 22 [.ref (ad 21), .int x1] h (pI h (B_T_countPending fz x1 h)) := by
  refine Ct.of (by decide) (Nat.le_of_ble_eq_true rfl) (cat_ok rfl) ?_
  intro p e s m args below meth c ls X K hr hk hl hw
  exact w_T_countPending fz x1 h _ rfl hp X K hr hk hl hw
set_option maxHeartbeats 4000000 in
set_option maxRecDepth 100000 in
theorem w_T_pendingBlocks_4 (X : CallFix p m c b_T_pendingBlocks 4 s args TB R_T) (K : KK D cI cZ s) (hr : meth.sig.returnType = (some .int)) (hk : meth.locks = false) (fz : Nat) : ∀ (fu : Nat) (x1 : Int32) (x2 : Int32) (x3 : Int32) (h : HH) (ρ : Int32) (_ : B_T_pendingBlocks_4 fz fu x1 x2 x3 h = ρ) (_ : P_T_pendingBlocks_4 fz fu x1 x2 x3 h) {ls : Array Slot} {H : Heap} {locs : List Loc} (_ : Lc ls 4 [some (.ref (ad 21)), some (.int x1), some (.int x2), some (.int x3)]) (_ : Hw D cI cZ base ad s shape h H locs), W p l e (rmD 1 22) s m args below meth c H locs 0 0 (MQ below (Qw D cI cZ base ad (pI h ρ)) args s 0 0 (fun q => base ≤ q)) (F0 m 4 ls []) := by
  intro fu
  induction fu with
  | zero =>
    intro x1 x2 x3 h ρ hρ hp ls H locs hl hw
    exact hp.elim
  | succ fu ih =>
    intro x1 x2 x3 h ρ hρ hp ls H locs hl hw
    rw [B_T_pendingBlocks_4] at hρ
    rw [P_T_pendingBlocks_4] at hp
    refine lv_iload_n X.1 X.2.1 d_T_pendingBlocks_4 rfl (hl.at 3 rfl) ?_
    refine lv_aload_n X.1 X.2.1 d_T_pendingBlocks_5 rfl (hl.at 0 rfl) ?_
    refine r_geti X K hw fg_T_27 rfl rfl d_T_pendingBlocks_6 ?_
    refine lv_icmp_gt (tgt := 38) X.1 X.2.1 d_T_pendingBlocks_9 (by decide) (fun g => ?_) (fun g => ?_)
    · rw [if_pos g] at hρ
      have hp := hp.1 g
      refine lv_iload_n X.1 X.2.1 d_T_pendingBlocks_38 rfl (hl.at 2 rfl) ?_
      exact r_iret X hr hk hw ⟨congrArg (fun z => some (Value.int z)) hρ, rfl⟩ d_T_pendingBlocks_39
    · rw [if_neg g] at hρ
      have hp := hp.2 g
      refine lv_aload_n X.1 X.2.1 d_T_pendingBlocks_12 rfl (hl.at 0 rfl) ?_
      refine lv_iload_n X.1 X.2.1 d_T_pendingBlocks_13 rfl (hl.at 1 rfl) ?_
      refine lv_iload_n X.1 X.2.1 d_T_pendingBlocks_14 rfl (hl.at 3 rfl) ?_
      refine r_callV (rest := []) X K hw hl.1 mf_T_35 rfl rfl rfl (c_T_isPendingOf l D cI cZ base ad fz x1 x3 h hp.1) (by decide) ⟨Nat.le_refl _, Nat.le_refl _⟩ rfl rfl (Nat.le_of_ble_eq_true rfl) d_T_pendingBlocks_15 (fun v h' H locs q hw => ?_)
      obtain ⟨rfl, rfl⟩ := q
      have hp := hp.2
      refine lv_if_eq (tgt := 32) X.1 X.2.1 d_T_pendingBlocks_18 (by decide) (fun g => ?_) (fun g => ?_)
      · rw [if_pos g] at hρ
        have hp := hp.1 g
        refine lv_iincL X.1 X.2.1 hl (v := (x3 + 1)) d_T_pendingBlocks_32 rfl (congrArg (fun z => x3 + z) (by decide)) (by decide) (fun ls hl => ?_)
        have hl : Lc ls 4 [some (.ref (ad 21)), some (.int x1), some (.int x2), some (.int (x3 + 1))] := hl
        refine lv_goto (tgt := 4) X.1 X.2.1 d_T_pendingBlocks_35 (by decide) ?_
        exact ih x1 x2 (x3 + 1) h ρ hρ hp hl hw
      · rw [if_neg g] at hρ
        have hp := hp.2 g
        refine lv_iload_n X.1 X.2.1 d_T_pendingBlocks_21 rfl (hl.at 2 rfl) ?_
        refine lv_iconst (v := (1 : Int32)) X.1 X.2.1 d_T_pendingBlocks_22 (by decide) ?_
        refine lv_aload_n X.1 X.2.1 d_T_pendingBlocks_23 rfl (hl.at 0 rfl) ?_
        refine r_getr (j := 23) X K hw fg_T_15 rfl rfl d_T_pendingBlocks_24 ?_
        refine lv_iload_n X.1 X.2.1 d_T_pendingBlocks_27 rfl (hl.at 3 rfl) ?_
        refine r_ald X K hw rfl hp.1 d_T_pendingBlocks_28 ?_
        have hp := hp.2
        refine lv_ishl X.1 X.2.1 d_T_pendingBlocks_29 ?_
        refine lv_ior X.1 X.2.1 d_T_pendingBlocks_30 ?_
        refine r_istore_n X hl d_T_pendingBlocks_31 rfl (by decide) (fun ls hl => ?_)
        have hl : Lc ls 4 [some (.ref (ad 21)), some (.int x1), some (.int (x2 ||| ((1 : Int32) <<< ((h 23 (ix x3)) &&& 31)))), some (.int x3)] := hl
        refine lv_iincL X.1 X.2.1 hl (v := (x3 + 1)) d_T_pendingBlocks_32 rfl (congrArg (fun z => x3 + z) (by decide)) (by decide) (fun ls hl => ?_)
        have hl : Lc ls 4 [some (.ref (ad 21)), some (.int x1), some (.int (x2 ||| ((1 : Int32) <<< ((h 23 (ix x3)) &&& 31)))), some (.int (x3 + 1))] := hl
        refine lv_goto (tgt := 4) X.1 X.2.1 d_T_pendingBlocks_35 (by decide) ?_
        exact ih x1 (x2 ||| ((1 : Int32) <<< ((h 23 (ix x3)) &&& 31))) (x3 + 1) h ρ hρ hp hl hw
set_option maxHeartbeats 4000000 in
set_option maxRecDepth 100000 in
theorem w_T_pendingBlocks (fz : Nat) (x1 : Int32) (h : HH) (ρ : Int32) (hρ : B_T_pendingBlocks fz x1 h = ρ) (hp : P_T_pendingBlocks fz x1 h) (X : CallFix p m c b_T_pendingBlocks 4 s args TB R_T) (K : KK D cI cZ s) (hr : meth.sig.returnType = (some .int)) (hk : meth.locks = false) {ls : Array Slot} {H : Heap} {locs : List Loc} (hl : Lc ls 4 [some (.ref (ad 21)), some (.int x1), none, none]) (hw : Hw D cI cZ base ad s shape h H locs) : W p l e (rmD 1 22) s m args below meth c H locs 0 0 (MQ below (Qw D cI cZ base ad (pI h ρ)) args s 0 0 (fun q => base ≤ q)) (F0 m 0 ls []) := by
  unfold B_T_pendingBlocks at hρ
  unfold P_T_pendingBlocks at hp
  refine lv_iconst (v := (0 : Int32)) X.1 X.2.1 d_T_pendingBlocks_0 (by decide) ?_
  refine r_istore_n X hl d_T_pendingBlocks_1 rfl (by decide) (fun ls hl => ?_)
  have hl : Lc ls 4 [some (.ref (ad 21)), some (.int x1), some (.int (0 : Int32)), none] := hl
  refine lv_iconst (v := (1 : Int32)) X.1 X.2.1 d_T_pendingBlocks_2 (by decide) ?_
  refine r_istore_n X hl d_T_pendingBlocks_3 rfl (by decide) (fun ls hl => ?_)
  have hl : Lc ls 4 [some (.ref (ad 21)), some (.int x1), some (.int (0 : Int32)), some (.int (1 : Int32))] := hl
  exact w_T_pendingBlocks_4 X K hr hk fz fz x1 (0 : Int32) (1 : Int32) h ρ hρ hp hl hw
set_option maxRecDepth 100000 in
theorem c_T_pendingBlocks (l : Launch) (D : va_G) (cI cZ : ClassId) (base : Nat) (ad : Nat → Nat) (fz : Nat) (x1 : Int32) (h : HH) (hp : P_T_pendingBlocks fz x1 h) : Ct l D cI cZ base ad y_T_pendingBlocks b_T_pendingBlocks 4 (some .int) 1 22 [.ref (ad 21), .int x1] h (pI h (B_T_pendingBlocks fz x1 h)) := by
  refine Ct.of (by decide) (Nat.le_of_ble_eq_true rfl) (cat_ok rfl) ?_
  intro p e s m args below meth c ls X K hr hk hl hw
  exact w_T_pendingBlocks fz x1 h _ rfl hp X K hr hk hl hw
set_option maxHeartbeats 4000000 in
set_option maxRecDepth 100000 in
theorem w_V_blocksOfExtent (fz : Nat) (x0 : Int32) (h : HH) (ρ : Int32) (hρ : B_V_blocksOfExtent fz x0 h = ρ) (hp : P_V_blocksOfExtent fz x0 h) (X : CallFix p m c b_V_blocksOfExtent 1 s args TB R_V) (K : KK D cI cZ s) (hr : meth.sig.returnType = (some .int)) (hk : meth.locks = false) {ls : Array Slot} {H : Heap} {locs : List Loc} (hl : Lc ls 1 [some (.int x0)]) (hw : Hw D cI cZ base ad s shape h H locs) : W p l e (rmD 0 0) s m args below meth c H locs 0 0 (MQ below (Qw D cI cZ base ad (pI h ρ)) args s 0 0 (fun q => base ≤ q)) (F0 m 0 ls []) := by
  unfold B_V_blocksOfExtent at hρ
  unfold P_V_blocksOfExtent at hp
  refine lv_bipush (v := (15 : Int32)) X.1 X.2.1 d_V_blocksOfExtent_0 (by decide) ?_
  refine lv_iload_n X.1 X.2.1 d_V_blocksOfExtent_2 rfl (hl.at 0 rfl) ?_
  refine lv_iconst (v := (4 : Int32)) X.1 X.2.1 d_V_blocksOfExtent_3 (by decide) ?_
  refine lv_imul X.1 X.2.1 d_V_blocksOfExtent_4 ?_
  refine lv_ishl X.1 X.2.1 d_V_blocksOfExtent_5 ?_
  exact r_iret X hr hk hw ⟨congrArg (fun z => some (Value.int z)) hρ, rfl⟩ d_V_blocksOfExtent_6
set_option maxRecDepth 100000 in
theorem c_V_blocksOfExtent (l : Launch) (D : va_G) (cI cZ : ClassId) (base : Nat) (ad : Nat → Nat) (fz : Nat) (x0 : Int32) (h : HH) (hp : P_V_blocksOfExtent fz x0 h) : Ct l D cI cZ base ad y_V_blocksOfExtent b_V_blocksOfExtent 1 (some .int) 0 0 [.int x0] h (pI h (B_V_blocksOfExtent fz x0 h)) := by
  refine Ct.of (by decide) (Nat.le_of_ble_eq_true rfl) (cat_ok rfl) ?_
  intro p e s m args below meth c ls X K hr hk hl hw
  exact w_V_blocksOfExtent fz x0 h _ rfl hp X K hr hk hl hw
set_option maxHeartbeats 4000000 in
set_option maxRecDepth 100000 in
theorem w_E_placeFor_48 (X : CallFix p m c b_E_placeFor 4 s args TB R_E) (K : KK D cI cZ s) (hr : meth.sig.returnType = (some .int)) (hk : meth.locks = false) (fz : Nat) : ∀ (fu : Nat) (i0 : Nat) (n0 : isN i0) (x2 : Int32) (x3 : Int32) (h : HH) (ρ : Int32) (_ : B_E_placeFor_48 fz fu i0 x2 x3 h = ρ) (_ : P_E_placeFor_48 fz fu i0 x2 x3 h) {ls : Array Slot} {H : Heap} {locs : List Loc} (_ : Lc ls 4 [some (.ref (ad (i0 + 2))), none, some (.int x2), some (.int x3)]) (_ : Hw D cI cZ base ad s shape h H locs), W p l e (rmD 1 20) s m args below meth c H locs 0 0 (MQ below (Qw D cI cZ base ad (pI h ρ)) args s 0 0 (fun q => base ≤ q)) (F0 m 48 ls []) := by
  intro fu
  induction fu with
  | zero =>
    intro i0 n0 x2 x3 h ρ hρ hp ls H locs hl hw
    exact hp.elim
  | succ fu ih =>
    intro i0 n0 x2 x3 h ρ hρ hp ls H locs hl hw
    rw [B_E_placeFor_48] at hρ
    rw [P_E_placeFor_48] at hp
    refine lv_iload_n X.1 X.2.1 d_E_placeFor_48 rfl (hl.at 3 rfl) ?_
    refine lv_if_lt (tgt := 74) X.1 X.2.1 d_E_placeFor_49 (by decide) (fun g => ?_) (fun g => ?_)
    · rw [if_pos g] at hρ
      have hp := hp.1 g
      refine lv_iconst (v := (-1 : Int32)) X.1 X.2.1 d_E_placeFor_74 (by decide) ?_
      exact r_iret X hr hk hw ⟨congrArg (fun z => some (Value.int z)) hρ, rfl⟩ d_E_placeFor_75
    · rw [if_neg g] at hρ
      have hp := hp.2 g
      refine lv_aload_n X.1 X.2.1 d_E_placeFor_52 rfl (hl.at 0 rfl) ?_
      refine r_getr (j := (i0 + 3)) X K hw fg_E_9 (shp_E n0) rfl d_E_placeFor_53 ?_
      refine lv_iload_n X.1 X.2.1 d_E_placeFor_56 rfl (hl.at 3 rfl) ?_
      refine r_ald X K hw (sha_3 n0) hp.1 d_E_placeFor_57 ?_
      have hp := hp.2
      refine r_callSN (rest := []) X K hw hl.1 K.2 mf_E_19 (c_V_blocksOfExtent l D cI cZ base ad fz (h (i0 + 3) (ix x3)) h hp.1) (by decide) ⟨Nat.le_refl _, Nat.le_refl _⟩ rfl rfl (Nat.le_of_ble_eq_true rfl) d_E_placeFor_58 (fun v h' H locs q hw => ?_)
      obtain ⟨rfl, rfl⟩ := q
      have hp := hp.2
      refine lv_iload_n X.1 X.2.1 d_E_placeFor_61 rfl (hl.at 2 rfl) ?_
      refine lv_iand X.1 X.2.1 d_E_placeFor_62 ?_
      refine lv_if_ne (tgt := 68) X.1 X.2.1 d_E_placeFor_63 (by decide) (fun g => ?_) (fun g => ?_)
      · rw [if_neg g] at hρ
        have hp := hp.2 g
        refine lv_iincL X.1 X.2.1 hl (v := (x3 + (-1))) d_E_placeFor_68 rfl (congrArg (fun z => x3 + z) (by decide)) (by decide) (fun ls hl => ?_)
        have hl : Lc ls 4 [some (.ref (ad (i0 + 2))), none, some (.int x2), some (.int (x3 + (-1)))] := hl
        refine lv_goto (tgt := 48) X.1 X.2.1 d_E_placeFor_71 (by decide) ?_
        exact ih i0 n0 x2 (x3 + (-1)) h ρ hρ hp hl hw
      · rw [if_pos g] at hρ
        have hp := hp.1 g
        refine lv_iload_n X.1 X.2.1 d_E_placeFor_66 rfl (hl.at 3 rfl) ?_
        exact r_iret X hr hk hw ⟨congrArg (fun z => some (Value.int z)) hρ, rfl⟩ d_E_placeFor_67
set_option maxHeartbeats 4000000 in
set_option maxRecDepth 100000 in
theorem w_E_placeFor_2 (X : CallFix p m c b_E_placeFor 4 s args TB R_E) (K : KK D cI cZ s) (hr : meth.sig.returnType = (some .int)) (hk : meth.locks = false) (fz : Nat) : ∀ (fu : Nat) (i0 : Nat) (n0 : isN i0) (x1 : Int32) (x2 : Int32) (x3 : Int32) (h : HH) (ρ : Int32) (_ : B_E_placeFor_2 fz fu i0 x1 x2 x3 h = ρ) (_ : P_E_placeFor_2 fz fu i0 x1 x2 x3 h) {ls : Array Slot} {H : Heap} {locs : List Loc} (_ : Lc ls 4 [some (.ref (ad (i0 + 2))), some (.int x1), some (.int x2), some (.int x3)]) (_ : Hw D cI cZ base ad s shape h H locs), W p l e (rmD 1 20) s m args below meth c H locs 0 0 (MQ below (Qw D cI cZ base ad (pI h ρ)) args s 0 0 (fun q => base ≤ q)) (F0 m 2 ls []) := by
  intro fu
  induction fu with
  | zero =>
    intro i0 n0 x1 x2 x3 h ρ hρ hp ls H locs hl hw
    exact hp.elim
  | succ fu ih =>
    intro i0 n0 x1 x2 x3 h ρ hρ hp ls H locs hl hw
    rw [B_E_placeFor_2] at hρ
    rw [P_E_placeFor_2] at hp
    refine lv_iload_n X.1 X.2.1 d_E_placeFor_2 rfl (hl.at 3 rfl) ?_
    refine lv_aload_n X.1 X.2.1 d_E_placeFor_3 rfl (hl.at 0 rfl) ?_
    refine r_geti X K hw fg_E_15 (shp_E n0) rfl d_E_placeFor_4 ?_
    refine lv_icmp_ge (tgt := 28) X.1 X.2.1 d_E_placeFor_7 (by decide) (fun g => ?_) (fun g => ?_)
    · rw [if_pos g] at hρ
      have hp := hp.1 g
      refine lv_aload_n X.1 X.2.1 d_E_placeFor_28 rfl (hl.at 0 rfl) ?_
      refine r_geti X K hw fg_E_15 (shp_E n0) rfl d_E_placeFor_29 ?_
      refine lv_iconst (v := (3 : Int32)) X.1 X.2.1 d_E_placeFor_32 (by decide) ?_
      refine lv_icmp_ge (tgt := 41) X.1 X.2.1 d_E_placeFor_33 (by decide) (fun g => ?_) (fun g => ?_)
      · rw [if_pos g] at hρ
        have hp := hp.1 g
        refine lv_aload_n X.1 X.2.1 d_E_placeFor_41 rfl (hl.at 0 rfl) ?_
        refine r_geti X K hw fg_E_15 (shp_E n0) rfl d_E_placeFor_42 ?_
        refine lv_iconst (v := (1 : Int32)) X.1 X.2.1 d_E_placeFor_45 (by decide) ?_
        refine lv_isub X.1 X.2.1 d_E_placeFor_46 ?_
        refine r_istore_n X hl d_E_placeFor_47 rfl (by decide) (fun ls hl => ?_)
        have hl : Lc ls 4 [some (.ref (ad (i0 + 2))), some (.int x1), some (.int x2), some (.int ((h (i0 + 2) 1) - (1 : Int32)))] := hl
        have hl : Lc ls 4 [some (.ref (ad (i0 + 2))), none, some (.int x2), some (.int ((h (i0 + 2) 1) - (1 : Int32)))] := hl.mask [true, false, true, true]
        exact w_E_placeFor_48 X K hr hk fz fz i0 n0 x2 ((h (i0 + 2) 1) - (1 : Int32)) h ρ hρ hp hl hw
      · rw [if_neg g] at hρ
        have hp := hp.2 g
        refine lv_aload_n X.1 X.2.1 d_E_placeFor_36 rfl (hl.at 0 rfl) ?_
        refine r_geti X K hw fg_E_15 (shp_E n0) rfl d_E_placeFor_37 ?_
        exact r_iret X hr hk hw ⟨congrArg (fun z => some (Value.int z)) hρ, rfl⟩ d_E_placeFor_40
    · rw [if_neg g] at hρ
      have hp := hp.2 g
      refine lv_aload_n X.1 X.2.1 d_E_placeFor_10 rfl (hl.at 0 rfl) ?_
      refine r_getr (j := (i0 + 3)) X K hw fg_E_9 (shp_E n0) rfl d_E_placeFor_11 ?_
      refine lv_iload_n X.1 X.2.1 d_E_placeFor_14 rfl (hl.at 3 rfl) ?_
      refine r_ald X K hw (sha_3 n0) hp.1 d_E_placeFor_15 ?_
      have hp := hp.2
      refine lv_iload_n X.1 X.2.1 d_E_placeFor_16 rfl (hl.at 1 rfl) ?_
      refine lv_icmp_ne (tgt := 22) X.1 X.2.1 d_E_placeFor_17 (by decide) (fun g => ?_) (fun g => ?_)
      · rw [if_neg g] at hρ
        have hp := hp.2 g
        refine lv_iincL X.1 X.2.1 hl (v := (x3 + 1)) d_E_placeFor_22 rfl (congrArg (fun z => x3 + z) (by decide)) (by decide) (fun ls hl => ?_)
        have hl : Lc ls 4 [some (.ref (ad (i0 + 2))), some (.int x1), some (.int x2), some (.int (x3 + 1))] := hl
        refine lv_goto (tgt := 2) X.1 X.2.1 d_E_placeFor_25 (by decide) ?_
        exact ih i0 n0 x1 x2 (x3 + 1) h ρ hρ hp hl hw
      · rw [if_pos g] at hρ
        have hp := hp.1 g
        refine lv_iload_n X.1 X.2.1 d_E_placeFor_20 rfl (hl.at 3 rfl) ?_
        exact r_iret X hr hk hw ⟨congrArg (fun z => some (Value.int z)) hρ, rfl⟩ d_E_placeFor_21
set_option maxHeartbeats 4000000 in
set_option maxRecDepth 100000 in
theorem w_E_placeFor (fz : Nat) (i0 : Nat) (n0 : isN i0) (x1 : Int32) (x2 : Int32) (h : HH) (ρ : Int32) (hρ : B_E_placeFor fz i0 x1 x2 h = ρ) (hp : P_E_placeFor fz i0 x1 x2 h) (X : CallFix p m c b_E_placeFor 4 s args TB R_E) (K : KK D cI cZ s) (hr : meth.sig.returnType = (some .int)) (hk : meth.locks = false) {ls : Array Slot} {H : Heap} {locs : List Loc} (hl : Lc ls 4 [some (.ref (ad (i0 + 2))), some (.int x1), some (.int x2), none]) (hw : Hw D cI cZ base ad s shape h H locs) : W p l e (rmD 1 20) s m args below meth c H locs 0 0 (MQ below (Qw D cI cZ base ad (pI h ρ)) args s 0 0 (fun q => base ≤ q)) (F0 m 0 ls []) := by
  unfold B_E_placeFor at hρ
  unfold P_E_placeFor at hp
  refine lv_iconst (v := (0 : Int32)) X.1 X.2.1 d_E_placeFor_0 (by decide) ?_
  refine r_istore_n X hl d_E_placeFor_1 rfl (by decide) (fun ls hl => ?_)
  have hl : Lc ls 4 [some (.ref (ad (i0 + 2))), some (.int x1), some (.int x2), some (.int (0 : Int32))] := hl
  exact w_E_placeFor_2 X K hr hk fz fz i0 n0 x1 x2 (0 : Int32) h ρ hρ hp hl hw
set_option maxRecDepth 100000 in
theorem c_E_placeFor (l : Launch) (D : va_G) (cI cZ : ClassId) (base : Nat) (ad : Nat → Nat) (fz : Nat) (i0 : Nat) (n0 : isN i0) (x1 : Int32) (x2 : Int32) (h : HH) (hp : P_E_placeFor fz i0 x1 x2 h) : Ct l D cI cZ base ad y_E_placeFor b_E_placeFor 4 (some .int) 1 20 [.ref (ad (i0 + 2)), .int x1, .int x2] h (pI h (B_E_placeFor fz i0 x1 x2 h)) := by
  refine Ct.of (by decide) (Nat.le_of_ble_eq_true rfl) (cat_ok rfl) ?_
  intro p e s m args below meth c ls X K hr hk hl hw
  exact w_E_placeFor fz i0 n0 x1 x2 h _ rfl hp X K hr hk hl hw
set_option maxHeartbeats 4000000 in
set_option maxRecDepth 100000 in
theorem w_E_putInFront_43 (fz : Nat) (i0 : Nat) (n0 : isN i0) (x2 : Int32) (h : HH) (ρ : HH) (hρ : B_E_putInFront_43 fz i0 x2 h = ρ) (hp : P_E_putInFront_43 fz i0 x2 h) (X : CallFix p m c b_E_putInFront 4 s args TB R_E) (K : KK D cI cZ s) (hr : meth.sig.returnType = none) (hk : meth.locks = false) {ls : Array Slot} {H : Heap} {locs : List Loc} (hl : Lc ls 4 [some (.ref (ad (i0 + 2))), none, some (.int x2), none]) (hw : Hw D cI cZ base ad s shape h H locs) : W p l e (rmD 0 0) s m args below meth c H locs 0 0 (MQ below (Qw D cI cZ base ad (pH ρ)) args s 0 0 (fun q => base ≤ q)) (F0 m 43 ls []) := by
  unfold B_E_putInFront_43 at hρ
  unfold P_E_putInFront_43 at hp
  refine lv_iload_n X.1 X.2.1 d_E_putInFront_43 rfl (hl.at 2 rfl) ?_
  refine lv_aload_n X.1 X.2.1 d_E_putInFront_44 rfl (hl.at 0 rfl) ?_
  refine r_geti X K hw fg_E_15 (shp_E n0) rfl d_E_putInFront_45 ?_
  refine lv_icmp_ne (tgt := 61) X.1 X.2.1 d_E_putInFront_48 (by decide) (fun g => ?_) (fun g => ?_)
  · rw [if_neg g] at hρ
    have hp := hp.2 g
    exact r_vret X hr hk hw ⟨rfl, hρ.symm⟩ d_E_putInFront_61
  · rw [if_pos g] at hρ
    have hp := hp.1 g
    refine lv_aload_n X.1 X.2.1 d_E_putInFront_51 rfl (hl.at 0 rfl) ?_
    refine lv_dup X.1 X.2.1 d_E_putInFront_52 rfl ?_
    refine r_geti X K hw fg_E_15 (shp_E n0) rfl d_E_putInFront_53 ?_
    refine lv_iconst (v := (1 : Int32)) X.1 X.2.1 d_E_putInFront_56 (by decide) ?_
    refine lv_iadd X.1 X.2.1 d_E_putInFront_57 ?_
    refine r_put X K hw fp_E_15 (shp_E n0) rfl rfl rfl d_E_putInFront_58 (fun H locs hw => ?_)
    exact r_vret X hr hk hw ⟨rfl, hρ.symm⟩ d_E_putInFront_61
set_option maxHeartbeats 4000000 in
set_option maxRecDepth 100000 in
theorem w_E_putInFront_12 (X : CallFix p m c b_E_putInFront 4 s args TB R_E) (K : KK D cI cZ s) (hr : meth.sig.returnType = none) (hk : meth.locks = false) (fz : Nat) : ∀ (fu : Nat) (i0 : Nat) (n0 : isN i0) (x1 : Int32) (x2 : Int32) (x3 : Int32) (h : HH) (ρ : HH) (_ : B_E_putInFront_12 fz fu i0 x1 x2 x3 h = ρ) (_ : P_E_putInFront_12 fz fu i0 x1 x2 x3 h) {ls : Array Slot} {H : Heap} {locs : List Loc} (_ : Lc ls 4 [some (.ref (ad (i0 + 2))), some (.int x1), some (.int x2), some (.int x3)]) (_ : Hw D cI cZ base ad s shape h H locs), W p l e (rmD 0 0) s m args below meth c H locs 0 0 (MQ below (Qw D cI cZ base ad (pH ρ)) args s 0 0 (fun q => base ≤ q)) (F0 m 12 ls []) := by
  intro fu
  induction fu with
  | zero =>
    intro i0 n0 x1 x2 x3 h ρ hρ hp ls H locs hl hw
    exact hp.elim
  | succ fu ih =>
    intro i0 n0 x1 x2 x3 h ρ hρ hp ls H locs hl hw
    rw [B_E_putInFront_12] at hρ
    rw [P_E_putInFront_12] at hp
    refine lv_iload_n X.1 X.2.1 d_E_putInFront_12 rfl (hl.at 3 rfl) ?_
    refine lv_if_le (tgt := 36) X.1 X.2.1 d_E_putInFront_13 (by decide) (fun g => ?_) (fun g => ?_)
    · rw [if_pos g] at hρ
      have hp := hp.1 g
      refine lv_aload_n X.1 X.2.1 d_E_putInFront_36 rfl (hl.at 0 rfl) ?_
      refine r_getr (j := (i0 + 3)) X K hw fg_E_9 (shp_E n0) rfl d_E_putInFront_37 ?_
      refine lv_iconst (v := (0 : Int32)) X.1 X.2.1 d_E_putInFront_40 (by decide) ?_
      refine lv_iload_n X.1 X.2.1 d_E_putInFront_41 rfl (hl.at 1 rfl) ?_
      refine r_ast X K hw (sha_3 n0) hp.1 d_E_putInFront_42 (fun H locs hw => ?_)
      have hp := hp.2
      have hl : Lc ls 4 [some (.ref (ad (i0 + 2))), none, some (.int x2), none] := hl.mask [true, false, true, false]
      exact w_E_putInFront_43 fz i0 n0 x2 (u2 h (i0 + 3) (ix (0 : Int32)) x1) ρ hρ hp X K hr hk hl hw
    · rw [if_neg g] at hρ
      have hp := hp.2 g
      refine lv_aload_n X.1 X.2.1 d_E_putInFront_16 rfl (hl.at 0 rfl) ?_
      refine r_getr (j := (i0 + 3)) X K hw fg_E_9 (shp_E n0) rfl d_E_putInFront_17 ?_
      refine lv_iload_n X.1 X.2.1 d_E_putInFront_20 rfl (hl.at 3 rfl) ?_
      refine lv_aload_n X.1 X.2.1 d_E_putInFront_21 rfl (hl.at 0 rfl) ?_
      refine r_getr (j := (i0 + 3)) X K hw fg_E_9 (shp_E n0) rfl d_E_putInFront_22 ?_
      refine lv_iload_n X.1 X.2.1 d_E_putInFront_25 rfl (hl.at 3 rfl) ?_
      refine lv_iconst (v := (1 : Int32)) X.1 X.2.1 d_E_putInFront_26 (by decide) ?_
      refine lv_isub X.1 X.2.1 d_E_putInFront_27 ?_
      refine r_ald X K hw (sha_3 n0) hp.1 d_E_putInFront_28 ?_
      have hp := hp.2
      refine r_ast X K hw (sha_3 n0) hp.1 d_E_putInFront_29 (fun H locs hw => ?_)
      have hp := hp.2
      refine lv_iincL X.1 X.2.1 hl (v := (x3 + (-1))) d_E_putInFront_30 rfl (congrArg (fun z => x3 + z) (by decide)) (by decide) (fun ls hl => ?_)
      have hl : Lc ls 4 [some (.ref (ad (i0 + 2))), some (.int x1), some (.int x2), some (.int (x3 + (-1)))] := hl
      refine lv_goto (tgt := 12) X.1 X.2.1 d_E_putInFront_33 (by decide) ?_
      exact ih i0 n0 x1 x2 (x3 + (-1)) (u2 h (i0 + 3) (ix x3) (h (i0 + 3) (ix (x3 - (1 : Int32))))) ρ hρ hp hl hw
set_option maxHeartbeats 4000000 in
set_option maxRecDepth 100000 in
theorem w_E_putInFront (fz : Nat) (i0 : Nat) (n0 : isN i0) (x1 : Int32) (x2 : Int32) (h : HH) (ρ : HH) (hρ : B_E_putInFront fz i0 x1 x2 h = ρ) (hp : P_E_putInFront fz i0 x1 x2 h) (X : CallFix p m c b_E_putInFront 4 s args TB R_E) (K : KK D cI cZ s) (hr : meth.sig.returnType = none) (hk : meth.locks = false) {ls : Array Slot} {H : Heap} {locs : List Loc} (hl : Lc ls 4 [some (.ref (ad (i0 + 2))), some (.int x1), some (.int x2), none]) (hw : Hw D cI cZ base ad s shape h H locs) : W p l e (rmD 0 0) s m args below meth c H locs 0 0 (MQ below (Qw D cI cZ base ad (pH ρ)) args s 0 0 (fun q => base ≤ q)) (F0 m 0 ls []) := by
  unfold B_E_putInFront at hρ
  unfold P_E_putInFront at hp
  refine lv_iload_n X.1 X.2.1 d_E_putInFront_0 rfl (hl.at 2 rfl) ?_
  refine lv_if_lt (tgt := 9) X.1 X.2.1 d_E_putInFront_1 (by decide) (fun g => ?_) (fun g => ?_)
  · rw [if_pos g] at hρ
    have hp := hp.1 g
    exact r_vret X hr hk hw ⟨rfl, hρ.symm⟩ d_E_putInFront_9
  · rw [if_neg g] at hρ
    have hp := hp.2 g
    refine lv_iload_n X.1 X.2.1 d_E_putInFront_4 rfl (hl.at 2 rfl) ?_
    refine lv_iconst (v := (3 : Int32)) X.1 X.2.1 d_E_putInFront_5 (by decide) ?_
    refine lv_icmp_lt (tgt := 10) X.1 X.2.1 d_E_putInFront_6 (by decide) (fun g => ?_) (fun g => ?_)
    · rw [if_pos g] at hρ
      have hp := hp.1 g
      refine lv_iload_n X.1 X.2.1 d_E_putInFront_10 rfl (hl.at 2 rfl) ?_
      refine r_istore_n X hl d_E_putInFront_11 rfl (by decide) (fun ls hl => ?_)
      have hl : Lc ls 4 [some (.ref (ad (i0 + 2))), some (.int x1), some (.int x2), some (.int x2)] := hl
      exact w_E_putInFront_12 X K hr hk fz fz i0 n0 x1 x2 x2 h ρ hρ hp hl hw
    · rw [if_neg g] at hρ
      have hp := hp.2 g
      exact r_vret X hr hk hw ⟨rfl, hρ.symm⟩ d_E_putInFront_9
set_option maxRecDepth 100000 in
theorem c_E_putInFront (l : Launch) (D : va_G) (cI cZ : ClassId) (base : Nat) (ad : Nat → Nat) (fz : Nat) (i0 : Nat) (n0 : isN i0) (x1 : Int32) (x2 : Int32) (h : HH) (hp : P_E_putInFront fz i0 x1 x2 h) : Ct l D cI cZ base ad y_E_putInFront b_E_putInFront 4 none 0 0 [.ref (ad (i0 + 2)), .int x1, .int x2] h (pH (B_E_putInFront fz i0 x1 x2 h)) := by
  refine Ct.of (by decide) (Nat.le_of_ble_eq_true rfl) (cat_ok rfl) ?_
  intro p e s m args below meth c ls X K hr hk hl hw
  exact w_E_putInFront fz i0 n0 x1 x2 h _ rfl hp X K hr hk hl hw
set_option maxHeartbeats 4000000 in
set_option maxRecDepth 100000 in
theorem w_V_hasBlock (fz : Nat) (x0 : Int32) (x1 : Int32) (h : HH) (ρ : Int32) (hρ : B_V_hasBlock fz x0 x1 h = ρ) (hp : P_V_hasBlock fz x0 x1 h) (X : CallFix p m c b_V_hasBlock 2 s args TB R_V) (K : KK D cI cZ s) (hr : meth.sig.returnType = (some .boolean)) (hk : meth.locks = false) {ls : Array Slot} {H : Heap} {locs : List Loc} (hl : Lc ls 2 [some (.int x0), some (.int x1)]) (hw : Hw D cI cZ base ad s shape h H locs) : W p l e (rmD 0 0) s m args below meth c H locs 0 0 (MQ below (Qw D cI cZ base ad (pI h ρ)) args s 0 0 (fun q => base ≤ q)) (F0 m 0 ls []) := by
  unfold B_V_hasBlock at hρ
  unfold P_V_hasBlock at hp
  refine lv_iload_n X.1 X.2.1 d_V_hasBlock_0 rfl (hl.at 0 rfl) ?_
  refine lv_iload_n X.1 X.2.1 d_V_hasBlock_1 rfl (hl.at 1 rfl) ?_
  refine lv_iushr X.1 X.2.1 d_V_hasBlock_2 rfl ?_
  refine lv_iconst (v := (1 : Int32)) X.1 X.2.1 d_V_hasBlock_3 (by decide) ?_
  refine lv_iand X.1 X.2.1 d_V_hasBlock_4 ?_
  refine lv_if_eq (tgt := 12) X.1 X.2.1 d_V_hasBlock_5 (by decide) (fun g => ?_) (fun g => ?_)
  · rw [if_pos g] at hρ
    have hp := hp.1 g
    refine lv_iconst (v := (0 : Int32)) X.1 X.2.1 d_V_hasBlock_12 (by decide) ?_
    exact r_zret X hr hk hw (by decide) ⟨congrArg (fun z => some (Value.int z)) hρ, rfl⟩ d_V_hasBlock_13
  · rw [if_neg g] at hρ
    have hp := hp.2 g
    refine lv_iconst (v := (1 : Int32)) X.1 X.2.1 d_V_hasBlock_8 (by decide) ?_
    refine lv_goto (tgt := 13) X.1 X.2.1 d_V_hasBlock_9 (by decide) ?_
    exact r_zret X hr hk hw (by decide) ⟨congrArg (fun z => some (Value.int z)) hρ, rfl⟩ d_V_hasBlock_13
set_option maxRecDepth 100000 in
theorem c_V_hasBlock (l : Launch) (D : va_G) (cI cZ : ClassId) (base : Nat) (ad : Nat → Nat) (fz : Nat) (x0 : Int32) (x1 : Int32) (h : HH) (hp : P_V_hasBlock fz x0 x1 h) : Ct l D cI cZ base ad y_V_hasBlock b_V_hasBlock 2 (some .boolean) 0 0 [.int x0, .int x1] h (pI h (B_V_hasBlock fz x0 x1 h)) := by
  refine Ct.of (by decide) (Nat.le_of_ble_eq_true rfl) (cat_ok rfl) ?_
  intro p e s m args below meth c ls X K hr hk hl hw
  exact w_V_hasBlock fz x0 x1 h _ rfl hp X K hr hk hl hw
set_option maxHeartbeats 4000000 in
set_option maxRecDepth 100000 in
theorem w_N_epochOfNextWrite_26 (fz : Nat) (i0 : Nat) (n0 : isN i0) (h : HH) (ρ : Int32 × HH) (hρ : B_N_epochOfNextWrite_26 fz i0 h = ρ) (hp : P_N_epochOfNextWrite_26 fz i0 h) (X : CallFix p m c b_N_epochOfNextWrite 2 s args TB R_N) (K : KK D cI cZ s) (hr : meth.sig.returnType = (some .int)) (hk : meth.locks = false) {ls : Array Slot} {H : Heap} {locs : List Loc} (hl : Lc ls 2 [some (.ref (ad i0)), none]) (hw : Hw D cI cZ base ad s shape h H locs) : W p l e (rmD 0 0) s m args below meth c H locs 0 0 (MQ below (Qw D cI cZ base ad (pIH ρ)) args s 0 0 (fun q => base ≤ q)) (F0 m 26 ls []) := by
  unfold B_N_epochOfNextWrite_26 at hρ
  unfold P_N_epochOfNextWrite_26 at hp
  refine lv_aload_n X.1 X.2.1 d_N_epochOfNextWrite_26 rfl (hl.at 0 rfl) ?_
  refine r_geti X K hw fg_N_50 (shp_N n0) rfl d_N_epochOfNextWrite_27 ?_
  exact r_iret X hr hk hw ⟨congrArg (fun z => some (Value.int z.1)) hρ, (congrArg Prod.snd hρ).symm⟩ d_N_epochOfNextWrite_30
set_option maxHeartbeats 4000000 in
set_option maxRecDepth 100000 in
theorem w_N_epochOfNextWrite_21 (fz : Nat) (i0 : Nat) (n0 : isN i0) (h : HH) (ρ : Int32 × HH) (hρ : B_N_epochOfNextWrite_21 fz i0 h = ρ) (hp : P_N_epochOfNextWrite_21 fz i0 h) (X : CallFix p m c b_N_epochOfNextWrite 2 s args TB R_N) (K : KK D cI cZ s) (hr : meth.sig.returnType = (some .int)) (hk : meth.locks = false) {ls : Array Slot} {H : Heap} {locs : List Loc} (hl : Lc ls 2 [some (.ref (ad i0)), none]) (hw : Hw D cI cZ base ad s shape h H locs) : W p l e (rmD 0 0) s m args below meth c H locs 0 0 (MQ below (Qw D cI cZ base ad (pIH ρ)) args s 0 0 (fun q => base ≤ q)) (F0 m 21 ls []) := by
  unfold B_N_epochOfNextWrite_21 at hρ
  unfold P_N_epochOfNextWrite_21 at hp
  refine lv_aload_n X.1 X.2.1 d_N_epochOfNextWrite_21 rfl (hl.at 0 rfl) ?_
  refine lv_iconst (v := (0 : Int32)) X.1 X.2.1 d_N_epochOfNextWrite_22 (by decide) ?_
  refine r_put X K hw fp_N_47 (shp_N n0) rfl (by decide) (by decide) d_N_epochOfNextWrite_23 (fun H locs hw => ?_)
  exact w_N_epochOfNextWrite_26 fz i0 n0 (u2 h i0 16 (0 : Int32)) ρ hρ hp X K hr hk hl hw
set_option maxHeartbeats 4000000 in
set_option maxRecDepth 100000 in
theorem w_N_epochOfNextWrite_11 (fz : Nat) (i0 : Nat) (n0 : isN i0) (h : HH) (ρ : Int32 × HH) (hρ : B_N_epochOfNextWrite_11 fz i0 h = ρ) (hp : P_N_epochOfNextWrite_11 fz i0 h) (X : CallFix p m c b_N_epochOfNextWrite 2 s args TB R_N) (K : KK D cI cZ s) (hr : meth.sig.returnType = (some .int)) (hk : meth.locks = false) {ls : Array Slot} {H : Heap} {locs : List Loc} (hl : Lc ls 2 [some (.ref (ad i0)), none]) (hw : Hw D cI cZ base ad s shape h H locs) : W p l e (rmD 0 0) s m args below meth c H locs 0 0 (MQ below (Qw D cI cZ base ad (pIH ρ)) args s 0 0 (fun q => base ≤ q)) (F0 m 11 ls []) := by
  unfold B_N_epochOfNextWrite_11 at hρ
  unfold P_N_epochOfNextWrite_11 at hp
  refine lv_aload_n X.1 X.2.1 d_N_epochOfNextWrite_11 rfl (hl.at 0 rfl) ?_
  refine lv_dup X.1 X.2.1 d_N_epochOfNextWrite_12 rfl ?_
  refine r_geti X K hw fg_N_50 (shp_N n0) rfl d_N_epochOfNextWrite_13 ?_
  refine lv_iconst (v := (1 : Int32)) X.1 X.2.1 d_N_epochOfNextWrite_16 (by decide) ?_
  refine lv_iadd X.1 X.2.1 d_N_epochOfNextWrite_17 ?_
  refine r_put X K hw fp_N_50 (shp_N n0) rfl rfl rfl d_N_epochOfNextWrite_18 (fun H locs hw => ?_)
  exact w_N_epochOfNextWrite_21 fz i0 n0 (u2 h i0 15 ((h i0 15) + (1 : Int32))) ρ hρ hp X K hr hk hl hw
set_option maxHeartbeats 4000000 in
set_option maxRecDepth 100000 in
theorem w_N_epochOfNextWrite (fz : Nat) (i0 : Nat) (n0 : isN i0) (x1 : Int32) (h : HH) (ρ : Int32 × HH) (hρ : B_N_epochOfNextWrite fz i0 x1 h = ρ) (hp : P_N_epochOfNextWrite fz i0 x1 h) (X : CallFix p m c b_N_epochOfNextWrite 2 s args TB R_N) (K : KK D cI cZ s) (hr : meth.sig.returnType = (some .int)) (hk : meth.locks = false) {ls : Array Slot} {H : Heap} {locs : List Loc} (hl : Lc ls 2 [some (.ref (ad i0)), some (.int x1)]) (hw : Hw D cI cZ base ad s shape h H locs) : W p l e (rmD 0 0) s m args below meth c H locs 0 0 (MQ below (Qw D cI cZ base ad (pIH ρ)) args s 0 0 (fun q => base ≤ q)) (F0 m 0 ls []) := by
  unfold B_N_epochOfNextWrite at hρ
  unfold P_N_epochOfNextWrite at hp
  refine lv_aload_n X.1 X.2.1 d_N_epochOfNextWrite_0 rfl (hl.at 0 rfl) ?_
  refine r_geti X K hw fg_N_47 (shp_N n0) rfl d_N_epochOfNextWrite_1 ?_
  refine lv_if_ne (tgt := 11) X.1 X.2.1 d_N_epochOfNextWrite_4 (by decide) (fun g => ?_) (fun g => ?_)
  · rw [if_neg g] at hρ
    have hp := hp.2 g
    have hl : Lc ls 2 [some (.ref (ad i0)), none] := hl.mask [true, false]
    exact w_N_epochOfNextWrite_11 fz i0 n0 h ρ hρ hp X K hr hk hl hw
  · rw [if_pos g] at hρ
    have hp := hp.1 g
    refine lv_iload_n X.1 X.2.1 d_N_epochOfNextWrite_7 rfl (hl.at 1 rfl) ?_
    refine lv_if_eq (tgt := 21) X.1 X.2.1 d_N_epochOfNextWrite_8 (by decide) (fun g => ?_) (fun g => ?_)
    · rw [if_pos g] at hρ
      have hp := hp.1 g
      have hl : Lc ls 2 [some (.ref (ad i0)), none] := hl.mask [true, false]
      exact w_N_epochOfNextWrite_21 fz i0 n0 h ρ hρ hp X K hr hk hl hw
    · rw [if_neg g] at hρ
      have hp := hp.2 g
      have hl : Lc ls 2 [some (.ref (ad i0)), none] := hl.mask [true, false]
      exact w_N_epochOfNextWrite_11 fz i0 n0 h ρ hρ hp X K hr hk hl hw
set_option maxRecDepth 100000 in
theorem c_N_epochOfNextWrite (l : Launch) (D : va_G) (cI cZ : ClassId) (base : Nat) (ad : Nat → Nat) (fz : Nat) (i0 : Nat) (n0 : isN i0) (x1 : Int32) (h : HH) (hp : P_N_epochOfNextWrite fz i0 x1 h) : Ct l D cI cZ base ad y_N_epochOfNextWrite b_N_epochOfNextWrite 2 (some .int) 0 0 [.ref (ad i0), .int x1] h (pIH (B_N_epochOfNextWrite fz i0 x1 h)) := by
  refine Ct.of (by decide) (Nat.le_of_ble_eq_true rfl) (cat_ok rfl) ?_
  intro p e s m args below meth c ls X K hr hk hl hw
  exact w_N_epochOfNextWrite fz i0 n0 x1 h _ rfl hp X K hr hk hl hw
set_option maxHeartbeats 4000000 in
set_option maxRecDepth 100000 in
theorem w_T_accept_70 (fz : Nat)  (h : HH) (ρ : Int32 × HH) (hρ : B_T_accept_70 fz  h = ρ) (hp : P_T_accept_70 fz  h) (X : CallFix p m c b_T_accept 5 s args TB R_T) (K : KK D cI cZ s) (hr : meth.sig.returnType = (some .int)) (hk : meth.locks = false) {ls : Array Slot} {H : Heap} {locs : List Loc} (hl : Lc ls 5 [some (.ref (ad 21)), none, none, none, none]) (hw : Hw D cI cZ base ad s shape h H locs) : W p l e (rmD 1 20) s m args below meth c H locs 0 0 (MQ below (Qw D cI cZ base ad (pIH ρ)) args s 0 0 (fun q => base ≤ q)) (F0 m 70 ls []) := by
  unfold B_T_accept_70 at hρ
  unfold P_T_accept_70 at hp
  refine lv_aload_n X.1 X.2.1 d_T_accept_70 rfl (hl.at 0 rfl) ?_
  refine r_geti X K hw fg_T_27 rfl rfl d_T_accept_71 ?_
  exact r_iret X hr hk hw ⟨congrArg (fun z => some (Value.int z.1)) hρ, (congrArg Prod.snd hρ).symm⟩ d_T_accept_74
set_option maxHeartbeats 4000000 in
set_option maxRecDepth 100000 in
theorem w_T_accept_60 (fz : Nat)  (h : HH) (ρ : Int32 × HH) (hρ : B_T_accept_60 fz  h = ρ) (hp : P_T_accept_60 fz  h) (X : CallFix p m c b_T_accept 5 s args TB R_T) (K : KK D cI cZ s) (hr : meth.sig.returnType = (some .int)) (hk : meth.locks = false) {ls : Array Slot} {H : Heap} {locs : List Loc} (hl : Lc ls 5 [some (.ref (ad 21)), none, none, none, none]) (hw : Hw D cI cZ base ad s shape h H locs) : W p l e (rmD 1 20) s m args below meth c H locs 0 0 (MQ below (Qw D cI cZ base ad (pIH ρ)) args s 0 0 (fun q => base ≤ q)) (F0 m 60 ls []) := by
  unfold B_T_accept_60 at hρ
  unfold P_T_accept_60 at hp
  refine lv_aload_n X.1 X.2.1 d_T_accept_60 rfl (hl.at 0 rfl) ?_
  refine r_getr (j := 26) X K hw fg_T_24 rfl rfl d_T_accept_61 ?_
  refine lv_aload_n X.1 X.2.1 d_T_accept_64 rfl (hl.at 0 rfl) ?_
  refine r_geti X K hw fg_T_27 rfl rfl d_T_accept_65 ?_
  refine lv_iconst (v := (1 : Int32)) X.1 X.2.1 d_T_accept_68 (by decide) ?_
  refine r_ast X K hw rfl hp.1 d_T_accept_69 (fun H locs hw => ?_)
  have hp := hp.2
  exact w_T_accept_70 fz  (u2 h 26 (ix (h 21 5)) (1 : Int32)) ρ hρ hp X K hr hk hl hw
set_option maxHeartbeats 4000000 in
set_option maxRecDepth 100000 in
theorem w_T_accept_49 (fz : Nat) (x4 : Int32) (h : HH) (ρ : Int32 × HH) (hρ : B_T_accept_49 fz x4 h = ρ) (hp : P_T_accept_49 fz x4 h) (X : CallFix p m c b_T_accept 5 s args TB R_T) (K : KK D cI cZ s) (hr : meth.sig.returnType = (some .int)) (hk : meth.locks = false) {ls : Array Slot} {H : Heap} {locs : List Loc} (hl : Lc ls 5 [some (.ref (ad 21)), none, none, none, some (.int x4)]) (hw : Hw D cI cZ base ad s shape h H locs) : W p l e (rmD 1 20) s m args below meth c H locs 0 0 (MQ below (Qw D cI cZ base ad (pIH ρ)) args s 0 0 (fun q => base ≤ q)) (F0 m 49 ls []) := by
  unfold B_T_accept_49 at hρ
  unfold P_T_accept_49 at hp
  refine lv_aload_n X.1 X.2.1 d_T_accept_49 rfl (hl.at 0 rfl) ?_
  refine r_getr (j := 25) X K hw fg_T_21 rfl rfl d_T_accept_50 ?_
  refine lv_aload_n X.1 X.2.1 d_T_accept_53 rfl (hl.at 0 rfl) ?_
  refine r_geti X K hw fg_T_27 rfl rfl d_T_accept_54 ?_
  refine lv_iload X.1 X.2.1 d_T_accept_57 (hl.at 4 rfl) ?_
  refine r_ast X K hw rfl hp.1 d_T_accept_59 (fun H locs hw => ?_)
  have hp := hp.2
  have hl : Lc ls 5 [some (.ref (ad 21)), none, none, none, none] := hl.mask [true, false, false, false, false]
  exact w_T_accept_60 fz  (u2 h 25 (ix (h 21 5)) x4) ρ hρ hp X K hr hk hl hw
set_option maxHeartbeats 4000000 in
set_option maxRecDepth 100000 in
theorem w_T_accept_39 (fz : Nat) (x3 : Int32) (x4 : Int32) (h : HH) (ρ : Int32 × HH) (hρ : B_T_accept_39 fz x3 x4 h = ρ) (hp : P_T_accept_39 fz x3 x4 h) (X : CallFix p m c b_T_accept 5 s args TB R_T) (K : KK D cI cZ s) (hr : meth.sig.returnType = (some .int)) (hk : meth.locks = false) {ls : Array Slot} {H : Heap} {locs : List Loc} (hl : Lc ls 5 [some (.ref (ad 21)), none, none, some (.int x3), some (.int x4)]) (hw : Hw D cI cZ base ad s shape h H locs) : W p l e (rmD 1 20) s m args below meth c H locs 0 0 (MQ below (Qw D cI cZ base ad (pIH ρ)) args s 0 0 (fun q => base ≤ q)) (F0 m 39 ls []) := by
  unfold B_T_accept_39 at hρ
  unfold P_T_accept_39 at hp
  refine lv_aload_n X.1 X.2.1 d_T_accept_39 rfl (hl.at 0 rfl) ?_
  refine r_getr (j := 24) X K hw fg_T_18 rfl rfl d_T_accept_40 ?_
  refine lv_aload_n X.1 X.2.1 d_T_accept_43 rfl (hl.at 0 rfl) ?_
  refine r_geti X K hw fg_T_27 rfl rfl d_T_accept_44 ?_
  refine lv_iload_n X.1 X.2.1 d_T_accept_47 rfl (hl.at 3 rfl) ?_
  refine r_ast X K hw rfl hp.1 d_T_accept_48 (fun H locs hw => ?_)
  have hp := hp.2
  have hl : Lc ls 5 [some (.ref (ad 21)), none, none, none, some (.int x4)] := hl.mask [true, false, false, false, true]
  exact w_T_accept_49 fz x4 (u2 h 24 (ix (h 21 5)) x3) ρ hρ hp X K hr hk hl hw
set_option maxHeartbeats 4000000 in
set_option maxRecDepth 100000 in
theorem w_T_accept_29 (fz : Nat) (x2 : Int32) (x3 : Int32) (x4 : Int32) (h : HH) (ρ : Int32 × HH) (hρ : B_T_accept_29 fz x2 x3 x4 h = ρ) (hp : P_T_accept_29 fz x2 x3 x4 h) (X : CallFix p m c b_T_accept 5 s args TB R_T) (K : KK D cI cZ s) (hr : meth.sig.returnType = (some .int)) (hk : meth.locks = false) {ls : Array Slot} {H : Heap} {locs : List Loc} (hl : Lc ls 5 [some (.ref (ad 21)), none, some (.int x2), some (.int x3), some (.int x4)]) (hw : Hw D cI cZ base ad s shape h H locs) : W p l e (rmD 1 20) s m args below meth c H locs 0 0 (MQ below (Qw D cI cZ base ad (pIH ρ)) args s 0 0 (fun q => base ≤ q)) (F0 m 29 ls []) := by
  unfold B_T_accept_29 at hρ
  unfold P_T_accept_29 at hp
  refine lv_aload_n X.1 X.2.1 d_T_accept_29 rfl (hl.at 0 rfl) ?_
  refine r_getr (j := 23) X K hw fg_T_15 rfl rfl d_T_accept_30 ?_
  refine lv_aload_n X.1 X.2.1 d_T_accept_33 rfl (hl.at 0 rfl) ?_
  refine r_geti X K hw fg_T_27 rfl rfl d_T_accept_34 ?_
  refine lv_iload_n X.1 X.2.1 d_T_accept_37 rfl (hl.at 2 rfl) ?_
  refine r_ast X K hw rfl hp.1 d_T_accept_38 (fun H locs hw => ?_)
  have hp := hp.2
  have hl : Lc ls 5 [some (.ref (ad 21)), none, none, some (.int x3), some (.int x4)] := hl.mask [true, false, false, true, true]
  exact w_T_accept_39 fz x3 x4 (u2 h 23 (ix (h 21 5)) x2) ρ hρ hp X K hr hk hl hw
set_option maxHeartbeats 4000000 in
set_option maxRecDepth 100000 in
theorem w_T_accept_19 (fz : Nat) (x1 : Int32) (x2 : Int32) (x3 : Int32) (x4 : Int32) (h : HH) (ρ : Int32 × HH) (hρ : B_T_accept_19 fz x1 x2 x3 x4 h = ρ) (hp : P_T_accept_19 fz x1 x2 x3 x4 h) (X : CallFix p m c b_T_accept 5 s args TB R_T) (K : KK D cI cZ s) (hr : meth.sig.returnType = (some .int)) (hk : meth.locks = false) {ls : Array Slot} {H : Heap} {locs : List Loc} (hl : Lc ls 5 [some (.ref (ad 21)), some (.int x1), some (.int x2), some (.int x3), some (.int x4)]) (hw : Hw D cI cZ base ad s shape h H locs) : W p l e (rmD 1 20) s m args below meth c H locs 0 0 (MQ below (Qw D cI cZ base ad (pIH ρ)) args s 0 0 (fun q => base ≤ q)) (F0 m 19 ls []) := by
  unfold B_T_accept_19 at hρ
  unfold P_T_accept_19 at hp
  refine lv_aload_n X.1 X.2.1 d_T_accept_19 rfl (hl.at 0 rfl) ?_
  refine r_getr (j := 22) X K hw fg_T_9 rfl rfl d_T_accept_20 ?_
  refine lv_aload_n X.1 X.2.1 d_T_accept_23 rfl (hl.at 0 rfl) ?_
  refine r_geti X K hw fg_T_27 rfl rfl d_T_accept_24 ?_
  refine lv_iload_n X.1 X.2.1 d_T_accept_27 rfl (hl.at 1 rfl) ?_
  refine r_ast X K hw rfl hp.1 d_T_accept_28 (fun H locs hw => ?_)
  have hp := hp.2
  have hl : Lc ls 5 [some (.ref (ad 21)), none, some (.int x2), some (.int x3), some (.int x4)] := hl.mask [true, false, true, true, true]
  exact w_T_accept_29 fz x2 x3 x4 (u2 h 22 (ix (h 21 5)) x1) ρ hρ hp X K hr hk hl hw
set_option maxHeartbeats 4000000 in
set_option maxRecDepth 100000 in
theorem w_T_accept (fz : Nat) (x1 : Int32) (x2 : Int32) (x3 : Int32) (x4 : Int32) (h : HH) (ρ : Int32 × HH) (hρ : B_T_accept fz x1 x2 x3 x4 h = ρ) (hp : P_T_accept fz x1 x2 x3 x4 h) (X : CallFix p m c b_T_accept 5 s args TB R_T) (K : KK D cI cZ s) (hr : meth.sig.returnType = (some .int)) (hk : meth.locks = false) {ls : Array Slot} {H : Heap} {locs : List Loc} (hl : Lc ls 5 [some (.ref (ad 21)), some (.int x1), some (.int x2), some (.int x3), some (.int x4)]) (hw : Hw D cI cZ base ad s shape h H locs) : W p l e (rmD 1 20) s m args below meth c H locs 0 0 (MQ below (Qw D cI cZ base ad (pIH ρ)) args s 0 0 (fun q => base ≤ q)) (F0 m 0 ls []) := by
  unfold B_T_accept at hρ
  unfold P_T_accept at hp
  refine lv_aload_n X.1 X.2.1 d_T_accept_0 rfl (hl.at 0 rfl) ?_
  refine r_callV (rest := []) X K hw hl.1 mf_T_31 rfl rfl rfl (c_T_isFull l D cI cZ base ad fz  h hp.1) (by decide) ⟨Nat.le_refl _, Nat.le_refl _⟩ rfl rfl (Nat.le_of_ble_eq_true rfl) d_T_accept_1 (fun v h' H locs q hw => ?_)
  obtain ⟨rfl, rfl⟩ := q
  have hp := hp.2
  refine lv_if_eq (tgt := 9) X.1 X.2.1 d_T_accept_4 (by decide) (fun g => ?_) (fun g => ?_)
  · rw [if_pos g] at hρ
    have hp := hp.1 g
    refine lv_aload_n X.1 X.2.1 d_T_accept_9 rfl (hl.at 0 rfl) ?_
    refine lv_dup X.1 X.2.1 d_T_accept_10 rfl ?_
    refine r_geti X K hw fg_T_27 rfl rfl d_T_accept_11 ?_
    refine lv_iconst (v := (1 : Int32)) X.1 X.2.1 d_T_accept_14 (by decide) ?_
    refine lv_iadd X.1 X.2.1 d_T_accept_15 ?_
    refine r_put X K hw fp_T_27 rfl rfl rfl rfl d_T_accept_16 (fun H locs hw => ?_)
    exact w_T_accept_19 fz x1 x2 x3 x4 (u2 h 21 5 ((h 21 5) + (1 : Int32))) ρ hρ hp X K hr hk hl hw
  · rw [if_neg g] at hρ
    have hp := hp.2 g
    refine lv_iconst (v := (0 : Int32)) X.1 X.2.1 d_T_accept_7 (by decide) ?_
    exact r_iret X hr hk hw ⟨congrArg (fun z => some (Value.int z.1)) hρ, (congrArg Prod.snd hρ).symm⟩ d_T_accept_8
set_option maxRecDepth 100000 in
theorem c_T_accept (l : Launch) (D : va_G) (cI cZ : ClassId) (base : Nat) (ad : Nat → Nat) (fz : Nat) (x1 : Int32) (x2 : Int32) (x3 : Int32) (x4 : Int32) (h : HH) (hp : P_T_accept fz x1 x2 x3 x4 h) : Ct l D cI cZ base ad y_T_accept b_T_accept 5 (some .int) 1 20 [.ref (ad 21), .int x1, .int x2, .int x3, .int x4] h (pIH (B_T_accept fz x1 x2 x3 x4 h)) := by
  refine Ct.of (by decide) (Nat.le_of_ble_eq_true rfl) (cat_ok rfl) ?_
  intro p e s m args below meth c ls X K hr hk hl hw
  exact w_T_accept fz x1 x2 x3 x4 h _ rfl hp X K hr hk hl hw
set_option maxHeartbeats 4000000 in
set_option maxRecDepth 100000 in
theorem w_O_send_48 (fz : Nat) (i0 : Nat) (n0 : isN i0) (h : HH) (ρ : HH) (hρ : B_O_send_48 fz i0 h = ρ) (hp : P_O_send_48 fz i0 h) (X : CallFix p m c b_O_send 5 s args TB R_O) (K : KK D cI cZ s) (hr : meth.sig.returnType = none) (hk : meth.locks = false) {ls : Array Slot} {H : Heap} {locs : List Loc} (hl : Lc ls 5 [some (.ref (ad (i0 + 4))), none, none, none, none]) (hw : Hw D cI cZ base ad s shape h H locs) : W p l e (rmD 0 0) s m args below meth c H locs 0 0 (MQ below (Qw D cI cZ base ad (pH ρ)) args s 0 0 (fun q => base ≤ q)) (F0 m 48 ls []) := by
  unfold B_O_send_48 at hρ
  unfold P_O_send_48 at hp
  refine lv_aload_n X.1 X.2.1 d_O_send_48 rfl (hl.at 0 rfl) ?_
  refine lv_dup X.1 X.2.1 d_O_send_49 rfl ?_
  refine r_geti X K hw fg_O_21 (shp_O n0) rfl d_O_send_50 ?_
  refine lv_iconst (v := (1 : Int32)) X.1 X.2.1 d_O_send_53 (by decide) ?_
  refine lv_iadd X.1 X.2.1 d_O_send_54 ?_
  refine r_put X K hw fp_O_21 (shp_O n0) rfl rfl rfl d_O_send_55 (fun H locs hw => ?_)
  exact r_vret X hr hk hw ⟨rfl, hρ.symm⟩ d_O_send_58
set_option maxHeartbeats 4000000 in
set_option maxRecDepth 100000 in
theorem w_O_send (fz : Nat) (i0 : Nat) (n0 : isN i0) (x1 : Int32) (x2 : Int32) (x3 : Int32) (h : HH) (ρ : HH) (hρ : B_O_send fz i0 x1 x2 x3 h = ρ) (hp : P_O_send fz i0 x1 x2 x3 h) (X : CallFix p m c b_O_send 5 s args TB R_O) (K : KK D cI cZ s) (hr : meth.sig.returnType = none) (hk : meth.locks = false) {ls : Array Slot} {H : Heap} {locs : List Loc} (hl : Lc ls 5 [some (.ref (ad (i0 + 4))), some (.int x1), some (.int x2), some (.int x3), none]) (hw : Hw D cI cZ base ad s shape h H locs) : W p l e (rmD 0 0) s m args below meth c H locs 0 0 (MQ below (Qw D cI cZ base ad (pH ρ)) args s 0 0 (fun q => base ≤ q)) (F0 m 0 ls []) := by
  unfold B_O_send at hρ
  unfold P_O_send at hp
  refine lv_aload_n X.1 X.2.1 d_O_send_0 rfl (hl.at 0 rfl) ?_
  refine r_geti X K hw fg_O_21 (shp_O n0) rfl d_O_send_1 ?_
  refine lv_bipush (v := (25 : Int32)) X.1 X.2.1 d_O_send_4 (by decide) ?_
  refine lv_icmp_lt (tgt := 10) X.1 X.2.1 d_O_send_6 (by decide) (fun g => ?_) (fun g => ?_)
  · rw [if_pos g] at hρ
    have hp := hp.1 g
    refine lv_aload_n X.1 X.2.1 d_O_send_10 rfl (hl.at 0 rfl) ?_
    refine r_geti X K hw fg_O_25 (shp_O n0) rfl d_O_send_11 ?_
    refine lv_aload_n X.1 X.2.1 d_O_send_14 rfl (hl.at 0 rfl) ?_
    refine r_geti X K hw fg_O_21 (shp_O n0) rfl d_O_send_15 ?_
    refine lv_iadd X.1 X.2.1 d_O_send_18 ?_
    refine lv_bipush (v := (25 : Int32)) X.1 X.2.1 d_O_send_19 (by decide) ?_
    refine lv_irem X.1 X.2.1 d_O_send_21 (by decide) ?_
    refine r_istore X hl d_O_send_22 (by decide) (fun ls hl => ?_)
    have hl : Lc ls 5 [some (.ref (ad (i0 + 4))), some (.int x1), some (.int x2), some (.int x3), some (.int (((h (i0 + 4) 3) + (h (i0 + 4) 4)) - ((h (i0 + 4) 3) + (h (i0 + 4) 4)) / (25 : Int32) * (25 : Int32)))] := hl
    refine lv_aload_n X.1 X.2.1 d_O_send_24 rfl (hl.at 0 rfl) ?_
    refine r_getr (j := (i0 + 5)) X K hw fg_O_9 (shp_O n0) rfl d_O_send_25 ?_
    refine lv_iload X.1 X.2.1 d_O_send_28 (hl.at 4 rfl) ?_
    refine lv_iload_n X.1 X.2.1 d_O_send_30 rfl (hl.at 1 rfl) ?_
    refine r_ast X K hw (sha_5 n0) hp.1 d_O_send_31 (fun H locs hw => ?_)
    have hp := hp.2
    refine lv_aload_n X.1 X.2.1 d_O_send_32 rfl (hl.at 0 rfl) ?_
    refine r_getr (j := (i0 + 6)) X K hw fg_O_15 (shp_O n0) rfl d_O_send_33 ?_
    refine lv_iload X.1 X.2.1 d_O_send_36 (hl.at 4 rfl) ?_
    refine lv_iload_n X.1 X.2.1 d_O_send_38 rfl (hl.at 2 rfl) ?_
    refine r_ast X K hw (sha_6 n0) hp.1 d_O_send_39 (fun H locs hw => ?_)
    have hp := hp.2
    refine lv_aload_n X.1 X.2.1 d_O_send_40 rfl (hl.at 0 rfl) ?_
    refine r_getr (j := (i0 + 7)) X K hw fg_O_18 (shp_O n0) rfl d_O_send_41 ?_
    refine lv_iload X.1 X.2.1 d_O_send_44 (hl.at 4 rfl) ?_
    refine lv_iload_n X.1 X.2.1 d_O_send_46 rfl (hl.at 3 rfl) ?_
    refine r_ast X K hw (sha_7 n0) hp.1 d_O_send_47 (fun H locs hw => ?_)
    have hp := hp.2
    have hl : Lc ls 5 [some (.ref (ad (i0 + 4))), none, none, none, none] := hl.mask [true, false, false, false, false]
    exact w_O_send_48 fz i0 n0 (u2 (u2 (u2 h (i0 + 5) (ix (((h (i0 + 4) 3) + (h (i0 + 4) 4)) - ((h (i0 + 4) 3) + (h (i0 + 4) 4)) / (25 : Int32) * (25 : Int32))) x1) (i0 + 6) (ix (((h (i0 + 4) 3) + (h (i0 + 4) 4)) - ((h (i0 + 4) 3) + (h (i0 + 4) 4)) / (25 : Int32) * (25 : Int32))) x2) (i0 + 7) (ix (((h (i0 + 4) 3) + (h (i0 + 4) 4)) - ((h (i0 + 4) 3) + (h (i0 + 4) 4)) / (25 : Int32) * (25 : Int32))) x3) ρ hρ hp X K hr hk hl hw
  · rw [if_neg g] at hρ
    have hp := hp.2 g
    exact r_vret X hr hk hw ⟨rfl, hρ.symm⟩ d_O_send_9
set_option maxRecDepth 100000 in
theorem c_O_send (l : Launch) (D : va_G) (cI cZ : ClassId) (base : Nat) (ad : Nat → Nat) (fz : Nat) (i0 : Nat) (n0 : isN i0) (x1 : Int32) (x2 : Int32) (x3 : Int32) (h : HH) (hp : P_O_send fz i0 x1 x2 x3 h) : Ct l D cI cZ base ad y_O_send b_O_send 5 none 0 0 [.ref (ad (i0 + 4)), .int x1, .int x2, .int x3] h (pH (B_O_send fz i0 x1 x2 x3 h)) := by
  refine Ct.of (by decide) (Nat.le_of_ble_eq_true rfl) (cat_ok rfl) ?_
  intro p e s m args below meth c ls X K hr hk hl hw
  exact w_O_send fz i0 n0 x1 x2 x3 h _ rfl hp X K hr hk hl hw
end WALK
end
