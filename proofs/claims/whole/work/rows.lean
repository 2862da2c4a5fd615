section
-- ===== PART A: goes FIRST, ahead of the names: the tables' words, and 'selects' of the private methods out of them =====
/-- a private method of a class that the tables say can be made, by its rows of tables_1 -/
def lw_okq (q : MethodName × Nat) : Prop := (q.1.cls ≠ "java/lang/invoke/MethodHandle" ∧ q.1.cls ≠ "java/lang/invoke/VarHandle") ∧ Cond.instantiable q.1.cls q.2 ∈ tables_1 ∧ Cond.privateMethod q.1 ∈ tables_1 ∧ Cond.instanceMethod q.1 ∈ tables_1
theorem lw_p0 : lw_okq (⟨"TwinVolume", "nodeOf", "(I)LTwinVolume$Node;"⟩, 5) := ⟨⟨by decide +kernel, by decide +kernel⟩, List.mem_of_getElem? (i := 10) (by decide +kernel), List.mem_of_getElem? (i := 201) (by decide +kernel), List.mem_of_getElem? (i := 202) (by decide +kernel)⟩
theorem lw_p1 : lw_okq (⟨"TwinVolume$WriteTable", "isPendingOf", "(II)Z"⟩, 6) := ⟨⟨by decide +kernel, by decide +kernel⟩, List.mem_of_getElem? (i := 144) (by decide +kernel), List.mem_of_getElem? (i := 213) (by decide +kernel), List.mem_of_getElem? (i := 214) (by decide +kernel)⟩
theorem lw_p2 : lw_okq (⟨"TwinVolume", "endUpAlone", "(I)V"⟩, 5) := ⟨⟨by decide +kernel, by decide +kernel⟩, List.mem_of_getElem? (i := 10) (by decide +kernel), List.mem_of_getElem? (i := 248) (by decide +kernel), List.mem_of_getElem? (i := 249) (by decide +kernel)⟩
theorem lw_p3 : lw_okq (⟨"TwinVolume", "peerOf", "(I)LTwinVolume$Node;"⟩, 5) := ⟨⟨by decide +kernel, by decide +kernel⟩, List.mem_of_getElem? (i := 10) (by decide +kernel), List.mem_of_getElem? (i := 276) (by decide +kernel), List.mem_of_getElem? (i := 277) (by decide +kernel)⟩
theorem lw_p4 : lw_okq (⟨"TwinVolume", "arrive", "(LTwinVolume$Node;III)V"⟩, 5) := ⟨⟨by decide +kernel, by decide +kernel⟩, List.mem_of_getElem? (i := 10) (by decide +kernel), List.mem_of_getElem? (i := 280) (by decide +kernel), List.mem_of_getElem? (i := 281) (by decide +kernel)⟩
theorem lw_p5 : lw_okq (⟨"TwinVolume", "takeAck", "(LTwinVolume$Node;I)V"⟩, 5) := ⟨⟨by decide +kernel, by decide +kernel⟩, List.mem_of_getElem? (i := 10) (by decide +kernel), List.mem_of_getElem? (i := 288) (by decide +kernel), List.mem_of_getElem? (i := 289) (by decide +kernel)⟩
theorem lw_p6 : lw_okq (⟨"TwinVolume", "takeFromMap", "(LTwinVolume$Node;I)V"⟩, 5) := ⟨⟨by decide +kernel, by decide +kernel⟩, List.mem_of_getElem? (i := 10) (by decide +kernel), List.mem_of_getElem? (i := 292) (by decide +kernel), List.mem_of_getElem? (i := 293) (by decide +kernel)⟩
theorem lw_p7 : lw_okq (⟨"TwinVolume", "end", "(LTwinVolume$Node;)V"⟩, 5) := ⟨⟨by decide +kernel, by decide +kernel⟩, List.mem_of_getElem? (i := 10) (by decide +kernel), List.mem_of_getElem? (i := 296) (by decide +kernel), List.mem_of_getElem? (i := 297) (by decide +kernel)⟩
theorem lw_p8 : lw_okq (⟨"TwinVolume", "wentDifferentWays", "()Z"⟩, 5) := ⟨⟨by decide +kernel, by decide +kernel⟩, List.mem_of_getElem? (i := 10) (by decide +kernel), List.mem_of_getElem? (i := 337) (by decide +kernel), List.mem_of_getElem? (i := 338) (by decide +kernel)⟩
theorem lw_p9 : lw_okq (⟨"TwinVolume", "chooseSource", "()I"⟩, 5) := ⟨⟨by decide +kernel, by decide +kernel⟩, List.mem_of_getElem? (i := 10) (by decide +kernel), List.mem_of_getElem? (i := 341) (by decide +kernel), List.mem_of_getElem? (i := 342) (by decide +kernel)⟩
theorem lw_p10 : lw_okq (⟨"TwinVolume", "beginUpdate", "(LTwinVolume$Node;LTwinVolume$Node;)V"⟩, 5) := ⟨⟨by decide +kernel, by decide +kernel⟩, List.mem_of_getElem? (i := 10) (by decide +kernel), List.mem_of_getElem? (i := 345) (by decide +kernel), List.mem_of_getElem? (i := 346) (by decide +kernel)⟩
theorem lw_p11 : lw_okq (⟨"TwinVolume", "breakLink", "()V"⟩, 5) := ⟨⟨by decide +kernel, by decide +kernel⟩, List.mem_of_getElem? (i := 10) (by decide +kernel), List.mem_of_getElem? (i := 353) (by decide +kernel), List.mem_of_getElem? (i := 354) (by decide +kernel)⟩
theorem lw_p12 : lw_okq (⟨"TwinVolumeModel", "pending", "(III)I"⟩, 28) := ⟨⟨by decide +kernel, by decide +kernel⟩, List.mem_of_getElem? (i := 421) (by decide +kernel), List.mem_of_getElem? (i := 523) (by decide +kernel), List.mem_of_getElem? (i := 524) (by decide +kernel)⟩
theorem lw_p13 : lw_okq (⟨"TwinVolumeModel", "inLog", "(I)I"⟩, 28) := ⟨⟨by decide +kernel, by decide +kernel⟩, List.mem_of_getElem? (i := 421) (by decide +kernel), List.mem_of_getElem? (i := 527) (by decide +kernel), List.mem_of_getElem? (i := 528) (by decide +kernel)⟩
theorem lw_p14 : lw_okq (⟨"TwinVolumeModel", "idle", "(I)I"⟩, 28) := ⟨⟨by decide +kernel, by decide +kernel⟩, List.mem_of_getElem? (i := 421) (by decide +kernel), List.mem_of_getElem? (i := 531) (by decide +kernel), List.mem_of_getElem? (i := 532) (by decide +kernel)⟩
theorem lw_p15 : lw_okq (⟨"TwinVolumeModel", "send", "(IIII)V"⟩, 28) := ⟨⟨by decide +kernel, by decide +kernel⟩, List.mem_of_getElem? (i := 421) (by decide +kernel), List.mem_of_getElem? (i := 535) (by decide +kernel), List.mem_of_getElem? (i := 536) (by decide +kernel)⟩
def lw_privs_1 : List (MethodName × Nat) := [(⟨"TwinVolume", "nodeOf", "(I)LTwinVolume$Node;"⟩, 5), (⟨"TwinVolume$WriteTable", "isPendingOf", "(II)Z"⟩, 6), (⟨"TwinVolume", "endUpAlone", "(I)V"⟩, 5), (⟨"TwinVolume", "peerOf", "(I)LTwinVolume$Node;"⟩, 5), (⟨"TwinVolume", "arrive", "(LTwinVolume$Node;III)V"⟩, 5), (⟨"TwinVolume", "takeAck", "(LTwinVolume$Node;I)V"⟩, 5), (⟨"TwinVolume", "takeFromMap", "(LTwinVolume$Node;I)V"⟩, 5), (⟨"TwinVolume", "end", "(LTwinVolume$Node;)V"⟩, 5), (⟨"TwinVolume", "wentDifferentWays", "()Z"⟩, 5), (⟨"TwinVolume", "chooseSource", "()I"⟩, 5), (⟨"TwinVolume", "beginUpdate", "(LTwinVolume$Node;LTwinVolume$Node;)V"⟩, 5), (⟨"TwinVolume", "breakLink", "()V"⟩, 5), (⟨"TwinVolumeModel", "pending", "(III)I"⟩, 28), (⟨"TwinVolumeModel", "inLog", "(I)I"⟩, 28), (⟨"TwinVolumeModel", "idle", "(I)I"⟩, 28), (⟨"TwinVolumeModel", "send", "(IIII)V"⟩, 28)]
theorem lw_r1 : ∀ q ∈ lw_privs_1, lw_okq q := List.forall_mem_cons.mpr ⟨lw_p0, List.forall_mem_cons.mpr ⟨lw_p1, List.forall_mem_cons.mpr ⟨lw_p2, List.forall_mem_cons.mpr ⟨lw_p3, List.forall_mem_cons.mpr ⟨lw_p4, List.forall_mem_cons.mpr ⟨lw_p5, List.forall_mem_cons.mpr ⟨lw_p6, List.forall_mem_cons.mpr ⟨lw_p7, List.forall_mem_cons.mpr ⟨lw_p8, List.forall_mem_cons.mpr ⟨lw_p9, List.forall_mem_cons.mpr ⟨lw_p10, List.forall_mem_cons.mpr ⟨lw_p11, List.forall_mem_cons.mpr ⟨lw_p12, List.forall_mem_cons.mpr ⟨lw_p13, List.forall_mem_cons.mpr ⟨lw_p14, List.forall_mem_cons.mpr ⟨lw_p15, fun _ h => absurd h List.not_mem_nil⟩⟩⟩⟩⟩⟩⟩⟩⟩⟩⟩⟩⟩⟩⟩⟩
theorem lw_p16 : lw_okq (⟨"TwinVolumeModel", "alone", "(I)V"⟩, 28) := ⟨⟨by decide +kernel, by decide +kernel⟩, List.mem_of_getElem? (i := 421) (by decide +kernel), List.mem_of_getElem? (i := 539) (by decide +kernel), List.mem_of_getElem? (i := 540) (by decide +kernel)⟩
theorem lw_p17 : lw_okq (⟨"TwinVolumeModel", "arrive", "(IIII)V"⟩, 28) := ⟨⟨by decide +kernel, by decide +kernel⟩, List.mem_of_getElem? (i := 421) (by decide +kernel), List.mem_of_getElem? (i := 551) (by decide +kernel), List.mem_of_getElem? (i := 552) (by decide +kernel)⟩
theorem lw_p18 : lw_okq (⟨"TwinVolumeModel", "endIfEmpty", "(I)V"⟩, 28) := ⟨⟨by decide +kernel, by decide +kernel⟩, List.mem_of_getElem? (i := 421) (by decide +kernel), List.mem_of_getElem? (i := 555) (by decide +kernel), List.mem_of_getElem? (i := 556) (by decide +kernel)⟩
theorem lw_p19 : lw_okq (⟨"TwinVolumeModel", "nothingInMap", "(I)Z"⟩, 28) := ⟨⟨by decide +kernel, by decide +kernel⟩, List.mem_of_getElem? (i := 421) (by decide +kernel), List.mem_of_getElem? (i := 559) (by decide +kernel), List.mem_of_getElem? (i := 560) (by decide +kernel)⟩
theorem lw_p20 : lw_okq (⟨"TwinVolumeModel", "turnInto", "(III)V"⟩, 28) := ⟨⟨by decide +kernel, by decide +kernel⟩, List.mem_of_getElem? (i := 421) (by decide +kernel), List.mem_of_getElem? (i := 563) (by decide +kernel), List.mem_of_getElem? (i := 564) (by decide +kernel)⟩
theorem lw_p21 : lw_okq (⟨"TwinVolumeModel", "underWay", "(II)I"⟩, 28) := ⟨⟨by decide +kernel, by decide +kernel⟩, List.mem_of_getElem? (i := 421) (by decide +kernel), List.mem_of_getElem? (i := 575) (by decide +kernel), List.mem_of_getElem? (i := 576) (by decide +kernel)⟩
theorem lw_p22 : lw_okq (⟨"TwinVolumeModel", "onTheWay", "(III)I"⟩, 28) := ⟨⟨by decide +kernel, by decide +kernel⟩, List.mem_of_getElem? (i := 421) (by decide +kernel), List.mem_of_getElem? (i := 579) (by decide +kernel), List.mem_of_getElem? (i := 580) (by decide +kernel)⟩
theorem lw_p23 : lw_okq (⟨"TwinVolumeModel", "chosen", "()I"⟩, 28) := ⟨⟨by decide +kernel, by decide +kernel⟩, List.mem_of_getElem? (i := 421) (by decide +kernel), List.mem_of_getElem? (i := 587) (by decide +kernel), List.mem_of_getElem? (i := 588) (by decide +kernel)⟩
theorem lw_p24 : lw_okq (⟨"TwinVolumeModel", "breakLink", "()V"⟩, 28) := ⟨⟨by decide +kernel, by decide +kernel⟩, List.mem_of_getElem? (i := 421) (by decide +kernel), List.mem_of_getElem? (i := 595) (by decide +kernel), List.mem_of_getElem? (i := 596) (by decide +kernel)⟩
def lw_privs_2 : List (MethodName × Nat) := [(⟨"TwinVolumeModel", "alone", "(I)V"⟩, 28), (⟨"TwinVolumeModel", "arrive", "(IIII)V"⟩, 28), (⟨"TwinVolumeModel", "endIfEmpty", "(I)V"⟩, 28), (⟨"TwinVolumeModel", "nothingInMap", "(I)Z"⟩, 28), (⟨"TwinVolumeModel", "turnInto", "(III)V"⟩, 28), (⟨"TwinVolumeModel", "underWay", "(II)I"⟩, 28), (⟨"TwinVolumeModel", "onTheWay", "(III)I"⟩, 28), (⟨"TwinVolumeModel", "chosen", "()I"⟩, 28), (⟨"TwinVolumeModel", "breakLink", "()V"⟩, 28)]
theorem lw_r2 : ∀ q ∈ lw_privs_2, lw_okq q := List.forall_mem_cons.mpr ⟨lw_p16, List.forall_mem_cons.mpr ⟨lw_p17, List.forall_mem_cons.mpr ⟨lw_p18, List.forall_mem_cons.mpr ⟨lw_p19, List.forall_mem_cons.mpr ⟨lw_p20, List.forall_mem_cons.mpr ⟨lw_p21, List.forall_mem_cons.mpr ⟨lw_p22, List.forall_mem_cons.mpr ⟨lw_p23, List.forall_mem_cons.mpr ⟨lw_p24, fun _ h => absurd h List.not_mem_nil⟩⟩⟩⟩⟩⟩⟩⟩⟩
def lw_privs : List (MethodName × Nat) := lw_privs_1 ++ (lw_privs_2)
def lw_tbl : List Cond := k2_sels lw_privs ++ tables_1
theorem lw_privs_ok : ∀ q ∈ lw_privs, lw_okq q := by
  show ∀ q ∈ lw_privs_1 ++ (lw_privs_2), lw_okq q
  exact List.forall_mem_append.mpr ⟨lw_r1, lw_r2⟩
end
section
def R_V : String := "TwinVolume"
def R_N : String := "TwinVolume$Node"
def R_E : String := "TwinVolume$ExtentLog"
def R_O : String := "TwinVolume$Outbox"
def R_L : String := "TwinVolume$WaitingList"
def R_T : String := "TwinVolume$WriteTable"
def R_M : String := "TwinVolumeModel"
def R_W : String := "TwinVolumeLaw"
def R_I : String := "java/lang/Integer"
def T_V : u_T := fun k => match k with
  | 0 => ("TwinVolume", "zero", "LTwinVolume$Node;", true)
  | 1 => ("TwinVolume", "one", "LTwinVolume$Node;", true)
  | 2 => ("TwinVolume", "writes", "LTwinVolume$WriteTable;", true)
  | 3 => ("TwinVolume", "linked", "Z", false)
  | _ => ("TwinVolume", "greatestGeneration", "I", false)
def ty_V : Nat → FieldType := fun k => match k with
  | 0 => .object "TwinVolume$Node"
  | 1 => .object "TwinVolume$Node"
  | 2 => .object "TwinVolume$WriteTable"
  | 3 => .boolean
  | _ => .int
theorem nm_V : ∀ a, a < 5 → ∀ b, b < 5 → a ≠ b → (T_V a).2.1 ≠ (T_V b).2.1 := by decide +kernel
theorem tyok_V : ∀ k, k < 5 → parseFieldDescriptor (T_V k).2.2.1 = some (ty_V k) := by decide +kernel
def T_N : u_T := fun k => match k with
  | 0 => ("TwinVolume$Node", "id", "I", true)
  | 1 => ("TwinVolume$Node", "disk", "[I", true)
  | 2 => ("TwinVolume$Node", "extents", "LTwinVolume$ExtentLog;", true)
  | 3 => ("TwinVolume$Node", "outbox", "LTwinVolume$Outbox;", true)
  | 4 => ("TwinVolume$Node", "waiting", "LTwinVolume$WaitingList;", true)
  | 5 => ("TwinVolume$Node", "map", "I", false)
  | 6 => ("TwinVolume$Node", "current", "I", false)
  | 7 => ("TwinVolume$Node", "base", "I", false)
  | 8 => ("TwinVolume$Node", "torn", "Z", false)
  | 9 => ("TwinVolume$Node", "crashed", "Z", false)
  | 10 => ("TwinVolume$Node", "up", "Z", false)
  | 11 => ("TwinVolume$Node", "primary", "Z", false)
  | 12 => ("TwinVolume$Node", "source", "Z", false)
  | 13 => ("TwinVolume$Node", "target", "Z", false)
  | 14 => ("TwinVolume$Node", "underWay", "I", false)
  | 15 => ("TwinVolume$Node", "epoch", "I", false)
  | _ => ("TwinVolume$Node", "epochIsOver", "Z", false)
def ty_N : Nat → FieldType := fun k => match k with
  | 0 => .int
  | 1 => .array .int
  | 2 => .object "TwinVolume$ExtentLog"
  | 3 => .object "TwinVolume$Outbox"
  | 4 => .object "TwinVolume$WaitingList"
  | 5 => .int
  | 6 => .int
  | 7 => .int
  | 8 => .boolean
  | 9 => .boolean
  | 10 => .boolean
  | 11 => .boolean
  | 12 => .boolean
  | 13 => .boolean
  | 14 => .int
  | 15 => .int
  | _ => .boolean
theorem nm_N : ∀ a, a < 17 → ∀ b, b < 17 → a ≠ b → (T_N a).2.1 ≠ (T_N b).2.1 := by decide +kernel
theorem tyok_N : ∀ k, k < 17 → parseFieldDescriptor (T_N k).2.2.1 = some (ty_N k) := by decide +kernel
def T_E : u_T := fun k => match k with
  | 0 => ("TwinVolume$ExtentLog", "extents", "[I", true)
  | _ => ("TwinVolume$ExtentLog", "size", "I", false)
def ty_E : Nat → FieldType := fun k => match k with
  | 0 => .array .int
  | _ => .int
theorem nm_E : ∀ a, a < 2 → ∀ b, b < 2 → a ≠ b → (T_E a).2.1 ≠ (T_E b).2.1 := by decide +kernel
theorem tyok_E : ∀ k, k < 2 → parseFieldDescriptor (T_E k).2.2.1 = some (ty_E k) := by decide +kernel
def T_O : u_T := fun k => match k with
  | 0 => ("TwinVolume$Outbox", "kinds", "[I", true)
  | 1 => ("TwinVolume$Outbox", "subjects", "[I", true)
  | 2 => ("TwinVolume$Outbox", "values", "[I", true)
  | 3 => ("TwinVolume$Outbox", "first", "I", false)
  | _ => ("TwinVolume$Outbox", "size", "I", false)
def ty_O : Nat → FieldType := fun k => match k with
  | 0 => .array .int
  | 1 => .array .int
  | 2 => .array .int
  | 3 => .int
  | _ => .int
theorem nm_O : ∀ a, a < 5 → ∀ b, b < 5 → a ≠ b → (T_O a).2.1 ≠ (T_O b).2.1 := by decide +kernel
theorem tyok_O : ∀ k, k < 5 → parseFieldDescriptor (T_O k).2.2.1 = some (ty_O k) := by decide +kernel
def T_L : u_T := fun k => match k with
  | 0 => ("TwinVolume$WaitingList", "numbers", "[I", true)
  | _ => ("TwinVolume$WaitingList", "size", "I", false)
def ty_L : Nat → FieldType := fun k => match k with
  | 0 => .array .int
  | _ => .int
theorem nm_L : ∀ a, a < 2 → ∀ b, b < 2 → a ≠ b → (T_L a).2.1 ≠ (T_L b).2.1 := by decide +kernel
theorem tyok_L : ∀ k, k < 2 → parseFieldDescriptor (T_L k).2.2.1 = some (ty_L k) := by decide +kernel
def T_T : u_T := fun k => match k with
  | 0 => ("TwinVolume$WriteTable", "owners", "[I", true)
  | 1 => ("TwinVolume$WriteTable", "blocks", "[I", true)
  | 2 => ("TwinVolume$WriteTable", "values", "[I", true)
  | 3 => ("TwinVolume$WriteTable", "epochs", "[I", true)
  | 4 => ("TwinVolume$WriteTable", "fates", "[I", true)
  | _ => ("TwinVolume$WriteTable", "count", "I", false)
def ty_T : Nat → FieldType := fun k => match k with
  | 0 => .array .int
  | 1 => .array .int
  | 2 => .array .int
  | 3 => .array .int
  | 4 => .array .int
  | _ => .int
theorem nm_T : ∀ a, a < 6 → ∀ b, b < 6 → a ≠ b → (T_T a).2.1 ≠ (T_T b).2.1 := by decide +kernel
theorem tyok_T : ∀ k, k < 6 → parseFieldDescriptor (T_T k).2.2.1 = some (ty_T k) := by decide +kernel
def T_M : u_T := fun k => match k with
  | 0 => ("TwinVolumeModel", "writes", "I", false)
  | 1 => ("TwinVolumeModel", "by", "[I", true)
  | 2 => ("TwinVolumeModel", "at", "[I", true)
  | 3 => ("TwinVolumeModel", "value", "[I", true)
  | 4 => ("TwinVolumeModel", "epoch", "[I", true)
  | 5 => ("TwinVolumeModel", "fate", "[I", true)
  | 6 => ("TwinVolumeModel", "waits", "[Z", true)
  | 7 => ("TwinVolumeModel", "disk", "[I", true)
  | 8 => ("TwinVolumeModel", "map", "[Z", true)
  | 9 => ("TwinVolumeModel", "member", "[Z", true)
  | 10 => ("TwinVolumeModel", "used", "[I", true)
  | 11 => ("TwinVolumeModel", "clock", "I", false)
  | 12 => ("TwinVolumeModel", "current", "[I", true)
  | 13 => ("TwinVolumeModel", "base", "[I", true)
  | 14 => ("TwinVolumeModel", "greatest", "I", false)
  | 15 => ("TwinVolumeModel", "torn", "[Z", true)
  | 16 => ("TwinVolumeModel", "crashed", "[Z", true)
  | 17 => ("TwinVolumeModel", "up", "[Z", true)
  | 18 => ("TwinVolumeModel", "primary", "[Z", true)
  | 19 => ("TwinVolumeModel", "source", "[Z", true)
  | 20 => ("TwinVolumeModel", "target", "[Z", true)
  | 21 => ("TwinVolumeModel", "barred", "[Z", true)
  | 22 => ("TwinVolumeModel", "previous", "[I", true)
  | 23 => ("TwinVolumeModel", "linked", "Z", false)
  | 24 => ("TwinVolumeModel", "kind", "[I", true)
  | 25 => ("TwinVolumeModel", "what", "[I", true)
  | 26 => ("TwinVolumeModel", "holds", "[I", true)
  | _ => ("TwinVolumeModel", "count", "[I", true)
def ty_M : Nat → FieldType := fun k => match k with
  | 0 => .int
  | 1 => .array .int
  | 2 => .array .int
  | 3 => .array .int
  | 4 => .array .int
  | 5 => .array .int
  | 6 => .array .boolean
  | 7 => .array .int
  | 8 => .array .boolean
  | 9 => .array .boolean
  | 10 => .array .int
  | 11 => .int
  | 12 => .array .int
  | 13 => .array .int
  | 14 => .int
  | 15 => .array .boolean
  | 16 => .array .boolean
  | 17 => .array .boolean
  | 18 => .array .boolean
  | 19 => .array .boolean
  | 20 => .array .boolean
  | 21 => .array .boolean
  | 22 => .array .int
  | 23 => .boolean
  | 24 => .array .int
  | 25 => .array .int
  | 26 => .array .int
  | _ => .array .int
theorem nm_M : ∀ a, a < 28 → ∀ b, b < 28 → a ≠ b → (T_M a).2.1 ≠ (T_M b).2.1 := by decide +kernel
theorem tyok_M : ∀ k, k < 28 → parseFieldDescriptor (T_M k).2.2.1 = some (ty_M k) := by decide +kernel
abbrev vwCl : List vw_C := [(R_V, T_V, 5), (R_N, T_N, 17), (R_E, T_E, 2), (R_O, T_O, 5), (R_L, T_L, 2), (R_T, T_T, 6), (R_M, T_M, 28)]
abbrev b_V_init : ByteArray := prog_1_method_1_code
def y_V_init : MethodName := ⟨R_V, "<init>", "()V"⟩
abbrev b_V_write : ByteArray := prog_1_method_2_code
def y_V_write : MethodName := ⟨R_V, "write", "(III)I"⟩
abbrev b_V_barrier : ByteArray := prog_1_method_3_code
def y_V_barrier : MethodName := ⟨R_V, "barrier", "(I)Z"⟩
abbrev b_V_deliver : ByteArray := prog_1_method_4_code
def y_V_deliver : MethodName := ⟨R_V, "deliver", "(I)I"⟩
abbrev b_V_store : ByteArray := prog_1_method_5_code
def y_V_store : MethodName := ⟨R_V, "store", "(II)I"⟩
abbrev b_V_copy : ByteArray := prog_1_method_6_code
def y_V_copy : MethodName := ⟨R_V, "copy", "(I)I"⟩
abbrev b_V_connect : ByteArray := prog_1_method_7_code
def y_V_connect : MethodName := ⟨R_V, "connect", "()I"⟩
abbrev b_V_cut : ByteArray := prog_1_method_8_code
def y_V_cut : MethodName := ⟨R_V, "cut", "()Z"⟩
abbrev b_V_crash : ByteArray := prog_1_method_9_code
def y_V_crash : MethodName := ⟨R_V, "crash", "(I)Z"⟩
abbrev b_V_restart : ByteArray := prog_1_method_10_code
def y_V_restart : MethodName := ⟨R_V, "restart", "(I)Z"⟩
abbrev b_V_promote : ByteArray := prog_1_method_11_code
def y_V_promote : MethodName := ⟨R_V, "promote", "(I)I"⟩
abbrev b_V_demote : ByteArray := prog_1_method_12_code
def y_V_demote : MethodName := ⟨R_V, "demote", "(I)I"⟩
abbrev b_V_discard : ByteArray := prog_1_method_13_code
def y_V_discard : MethodName := ⟨R_V, "discard", "(I)Z"⟩
abbrev b_V_disk : ByteArray := prog_1_method_14_code
def y_V_disk : MethodName := ⟨R_V, "disk", "(II)I"⟩
abbrev b_V_fate : ByteArray := prog_1_method_15_code
def y_V_fate : MethodName := ⟨R_V, "fate", "(I)I"⟩
abbrev b_V_state : ByteArray := prog_1_method_16_code
def y_V_state : MethodName := ⟨R_V, "state", "(I)I"⟩
abbrev b_V_generation : ByteArray := prog_1_method_17_code
def y_V_generation : MethodName := ⟨R_V, "generation", "(I)J"⟩
abbrev b_V_map : ByteArray := prog_1_method_18_code
def y_V_map : MethodName := ⟨R_V, "map", "(I)I"⟩
abbrev b_V_log : ByteArray := prog_1_method_19_code
def y_V_log : MethodName := ⟨R_V, "log", "(II)I"⟩
abbrev b_V_traffic : ByteArray := prog_1_method_20_code
def y_V_traffic : MethodName := ⟨R_V, "traffic", "(I)I"⟩
abbrev b_V_isNode : ByteArray := prog_1_method_21_code
def y_V_isNode : MethodName := ⟨R_V, "isNode", "(I)Z"⟩
abbrev b_V_isBlock : ByteArray := prog_1_method_22_code
def y_V_isBlock : MethodName := ⟨R_V, "isBlock", "(I)Z"⟩
abbrev b_V_hasBlock : ByteArray := prog_1_method_23_code
def y_V_hasBlock : MethodName := ⟨R_V, "hasBlock", "(II)Z"⟩
abbrev b_V_leastBlock : ByteArray := prog_1_method_24_code
def y_V_leastBlock : MethodName := ⟨R_V, "leastBlock", "(I)I"⟩
abbrev b_V_blocksOfExtent : ByteArray := prog_1_method_25_code
def y_V_blocksOfExtent : MethodName := ⟨R_V, "blocksOfExtent", "(I)I"⟩
abbrev b_V_nodeOf : ByteArray := prog_1_method_26_code
def y_V_nodeOf : MethodName := ⟨R_V, "nodeOf", "(I)LTwinVolume$Node;"⟩
abbrev b_V_peerOf : ByteArray := prog_1_method_27_code
def y_V_peerOf : MethodName := ⟨R_V, "peerOf", "(I)LTwinVolume$Node;"⟩
abbrev b_V_arrive : ByteArray := prog_1_method_28_code
def y_V_arrive : MethodName := ⟨R_V, "arrive", "(LTwinVolume$Node;III)V"⟩
abbrev b_V_takeAck : ByteArray := prog_1_method_29_code
def y_V_takeAck : MethodName := ⟨R_V, "takeAck", "(LTwinVolume$Node;I)V"⟩
abbrev b_V_takeFromMap : ByteArray := prog_1_method_30_code
def y_V_takeFromMap : MethodName := ⟨R_V, "takeFromMap", "(LTwinVolume$Node;I)V"⟩
abbrev b_V_end : ByteArray := prog_1_method_31_code
def y_V_end : MethodName := ⟨R_V, "end", "(LTwinVolume$Node;)V"⟩
abbrev b_V_endUpAlone : ByteArray := prog_1_method_32_code
def y_V_endUpAlone : MethodName := ⟨R_V, "endUpAlone", "(I)V"⟩
abbrev b_V_breakLink : ByteArray := prog_1_method_33_code
def y_V_breakLink : MethodName := ⟨R_V, "breakLink", "()V"⟩
abbrev b_V_wentDifferentWays : ByteArray := prog_1_method_34_code
def y_V_wentDifferentWays : MethodName := ⟨R_V, "wentDifferentWays", "()Z"⟩
abbrev b_V_chooseSource : ByteArray := prog_1_method_35_code
def y_V_chooseSource : MethodName := ⟨R_V, "chooseSource", "()I"⟩
abbrev b_V_beginUpdate : ByteArray := prog_1_method_36_code
def y_V_beginUpdate : MethodName := ⟨R_V, "beginUpdate", "(LTwinVolume$Node;LTwinVolume$Node;)V"⟩
abbrev b_M_init : ByteArray := prog_8_method_1_code
def y_M_init : MethodName := ⟨R_M, "<init>", "()V"⟩
abbrev b_M_isNode : ByteArray := prog_8_method_2_code
def y_M_isNode : MethodName := ⟨R_M, "isNode", "(I)Z"⟩
abbrev b_M_isBlock : ByteArray := prog_8_method_3_code
def y_M_isBlock : MethodName := ⟨R_M, "isBlock", "(I)Z"⟩
abbrev b_M_pending : ByteArray := prog_8_method_4_code
def y_M_pending : MethodName := ⟨R_M, "pending", "(III)I"⟩
abbrev b_M_inLog : ByteArray := prog_8_method_5_code
def y_M_inLog : MethodName := ⟨R_M, "inLog", "(I)I"⟩
abbrev b_M_idle : ByteArray := prog_8_method_6_code
def y_M_idle : MethodName := ⟨R_M, "idle", "(I)I"⟩
abbrev b_M_nothingInMap : ByteArray := prog_8_method_7_code
def y_M_nothingInMap : MethodName := ⟨R_M, "nothingInMap", "(I)Z"⟩
abbrev b_M_onTheWay : ByteArray := prog_8_method_8_code
def y_M_onTheWay : MethodName := ⟨R_M, "onTheWay", "(III)I"⟩
abbrev b_M_underWay : ByteArray := prog_8_method_9_code
def y_M_underWay : MethodName := ⟨R_M, "underWay", "(II)I"⟩
abbrev b_M_send : ByteArray := prog_8_method_10_code
def y_M_send : MethodName := ⟨R_M, "send", "(IIII)V"⟩
abbrev b_M_alone : ByteArray := prog_8_method_11_code
def y_M_alone : MethodName := ⟨R_M, "alone", "(I)V"⟩
abbrev b_M_turnInto : ByteArray := prog_8_method_12_code
def y_M_turnInto : MethodName := ⟨R_M, "turnInto", "(III)V"⟩
abbrev b_M_endIfEmpty : ByteArray := prog_8_method_13_code
def y_M_endIfEmpty : MethodName := ⟨R_M, "endIfEmpty", "(I)V"⟩
abbrev b_M_breakLink : ByteArray := prog_8_method_14_code
def y_M_breakLink : MethodName := ⟨R_M, "breakLink", "()V"⟩
abbrev b_M_write : ByteArray := prog_8_method_15_code
def y_M_write : MethodName := ⟨R_M, "write", "(III)I"⟩
abbrev b_M_barrier : ByteArray := prog_8_method_16_code
def y_M_barrier : MethodName := ⟨R_M, "barrier", "(I)Z"⟩
abbrev b_M_deliver : ByteArray := prog_8_method_17_code
def y_M_deliver : MethodName := ⟨R_M, "deliver", "(I)I"⟩
abbrev b_M_arrive : ByteArray := prog_8_method_18_code
def y_M_arrive : MethodName := ⟨R_M, "arrive", "(IIII)V"⟩
abbrev b_M_store : ByteArray := prog_8_method_19_code
def y_M_store : MethodName := ⟨R_M, "store", "(II)I"⟩
abbrev b_M_copy : ByteArray := prog_8_method_20_code
def y_M_copy : MethodName := ⟨R_M, "copy", "(I)I"⟩
abbrev b_M_chosen : ByteArray := prog_8_method_21_code
def y_M_chosen : MethodName := ⟨R_M, "chosen", "()I"⟩
abbrev b_M_connect : ByteArray := prog_8_method_22_code
def y_M_connect : MethodName := ⟨R_M, "connect", "()I"⟩
abbrev b_M_cut : ByteArray := prog_8_method_23_code
def y_M_cut : MethodName := ⟨R_M, "cut", "()Z"⟩
abbrev b_M_crash : ByteArray := prog_8_method_24_code
def y_M_crash : MethodName := ⟨R_M, "crash", "(I)Z"⟩
abbrev b_M_restart : ByteArray := prog_8_method_25_code
def y_M_restart : MethodName := ⟨R_M, "restart", "(I)Z"⟩
abbrev b_M_promote : ByteArray := prog_8_method_26_code
def y_M_promote : MethodName := ⟨R_M, "promote", "(I)I"⟩
abbrev b_M_demote : ByteArray := prog_8_method_27_code
def y_M_demote : MethodName := ⟨R_M, "demote", "(I)I"⟩
abbrev b_M_discard : ByteArray := prog_8_method_28_code
def y_M_discard : MethodName := ⟨R_M, "discard", "(I)Z"⟩
abbrev b_M_disk : ByteArray := prog_8_method_29_code
def y_M_disk : MethodName := ⟨R_M, "disk", "(II)I"⟩
abbrev b_M_fate : ByteArray := prog_8_method_30_code
def y_M_fate : MethodName := ⟨R_M, "fate", "(I)I"⟩
abbrev b_M_state : ByteArray := prog_8_method_31_code
def y_M_state : MethodName := ⟨R_M, "state", "(I)I"⟩
abbrev b_M_generation : ByteArray := prog_8_method_32_code
def y_M_generation : MethodName := ⟨R_M, "generation", "(I)J"⟩
abbrev b_M_map : ByteArray := prog_8_method_33_code
def y_M_map : MethodName := ⟨R_M, "map", "(I)I"⟩
abbrev b_M_log : ByteArray := prog_8_method_34_code
def y_M_log : MethodName := ⟨R_M, "log", "(II)I"⟩
abbrev b_M_traffic : ByteArray := prog_8_method_35_code
def y_M_traffic : MethodName := ⟨R_M, "traffic", "(I)I"⟩
abbrev b_E_init : ByteArray := prog_2_method_1_code
def y_E_init : MethodName := ⟨R_E, "<init>", "()V"⟩
abbrev b_E_extentAt : ByteArray := prog_2_method_2_code
def y_E_extentAt : MethodName := ⟨R_E, "extentAt", "(I)I"⟩
abbrev b_E_placeFor : ByteArray := prog_2_method_3_code
def y_E_placeFor : MethodName := ⟨R_E, "placeFor", "(II)I"⟩
abbrev b_E_putInFront : ByteArray := prog_2_method_4_code
def y_E_putInFront : MethodName := ⟨R_E, "putInFront", "(II)V"⟩
abbrev b_E_allBlocks : ByteArray := prog_2_method_5_code
def y_E_allBlocks : MethodName := ⟨R_E, "allBlocks", "()I"⟩
abbrev b_N_init : ByteArray := prog_3_method_1_code
def y_N_init : MethodName := ⟨R_N, "<init>", "(I)V"⟩
abbrev b_N_epochOfNextWrite : ByteArray := prog_3_method_2_code
def y_N_epochOfNextWrite : MethodName := ⟨R_N, "epochOfNextWrite", "(Z)I"⟩
abbrev b_N_takeFinish : ByteArray := prog_3_method_3_code
def y_N_takeFinish : MethodName := ⟨R_N, "takeFinish", "(I)V"⟩
abbrev b_N_leaveLink : ByteArray := prog_3_method_4_code
def y_N_leaveLink : MethodName := ⟨R_N, "leaveLink", "()V"⟩
abbrev b_O_init : ByteArray := prog_4_method_1_code
def y_O_init : MethodName := ⟨R_O, "<init>", "()V"⟩
abbrev b_O_send : ByteArray := prog_4_method_2_code
def y_O_send : MethodName := ⟨R_O, "send", "(III)V"⟩
abbrev b_O_kindOfFirst : ByteArray := prog_4_method_3_code
def y_O_kindOfFirst : MethodName := ⟨R_O, "kindOfFirst", "()I"⟩
abbrev b_O_subjectOfFirst : ByteArray := prog_4_method_4_code
def y_O_subjectOfFirst : MethodName := ⟨R_O, "subjectOfFirst", "()I"⟩
abbrev b_O_valueOfFirst : ByteArray := prog_4_method_5_code
def y_O_valueOfFirst : MethodName := ⟨R_O, "valueOfFirst", "()I"⟩
abbrev b_O_dropFirst : ByteArray := prog_4_method_6_code
def y_O_dropFirst : MethodName := ⟨R_O, "dropFirst", "()V"⟩
abbrev b_L_init : ByteArray := prog_5_method_1_code
def y_L_init : MethodName := ⟨R_L, "<init>", "()V"⟩
abbrev b_L_add : ByteArray := prog_5_method_2_code
def y_L_add : MethodName := ⟨R_L, "add", "(I)V"⟩
abbrev b_L_numberAt : ByteArray := prog_5_method_3_code
def y_L_numberAt : MethodName := ⟨R_L, "numberAt", "(I)I"⟩
abbrev b_L_remove : ByteArray := prog_5_method_4_code
def y_L_remove : MethodName := ⟨R_L, "remove", "(I)V"⟩
abbrev b_T_init : ByteArray := prog_6_method_1_code
def y_T_init : MethodName := ⟨R_T, "<init>", "()V"⟩
abbrev b_T_isFull : ByteArray := prog_6_method_2_code
def y_T_isFull : MethodName := ⟨R_T, "isFull", "()Z"⟩
abbrev b_T_has : ByteArray := prog_6_method_3_code
def y_T_has : MethodName := ⟨R_T, "has", "(I)Z"⟩
abbrev b_T_accept : ByteArray := prog_6_method_4_code
def y_T_accept : MethodName := ⟨R_T, "accept", "(IIII)I"⟩
abbrev b_T_countPending : ByteArray := prog_6_method_5_code
def y_T_countPending : MethodName := ⟨R_T, "countPending", "(I)I"⟩
abbrev b_T_pendingBlocks : ByteArray := prog_6_method_6_code
def y_T_pendingBlocks : MethodName := ⟨R_T, "pendingBlocks", "(I)I"⟩
abbrev b_T_changeFates : ByteArray := prog_6_method_7_code
def y_T_changeFates : MethodName := ⟨R_T, "changeFates", "(III)V"⟩
abbrev b_T_isPendingOf : ByteArray := prog_6_method_8_code
def y_T_isPendingOf : MethodName := ⟨R_T, "isPendingOf", "(II)Z"⟩
abbrev b_W_law : ByteArray := code
def y_W_law : MethodName := ⟨R_W, "law", "([I)Z"⟩
abbrev b_I_bitCount : ByteArray := prog_9_method_49_code
def y_I_bitCount : MethodName := ⟨R_I, "bitCount", "(I)I"⟩
def TB : List Cond := lw_tbl.filter goodWord
theorem good_TB : ∀ w ∈ TB, (w.onTables && w.keeps) = true ∨ ∃ ty, w = .arrayClass ty := fun w h => good_of_word (List.mem_filter.mp h).2
theorem TBi {w : Cond} (i : Nat) (h : tables_1[i]? = some w) (g : goodWord w = true) : w ∈ TB := List.mem_filter.mpr ⟨List.mem_append_right _ (List.mem_of_getElem? h), g⟩
theorem TBs {w : Cond} (i : Nat) (h : (k2_sels lw_privs)[i]? = some w) (g : goodWord w = true) : w ∈ TB := List.mem_filter.mpr ⟨List.mem_append_left _ (List.mem_of_getElem? h), g⟩
theorem inTB (ws : List Cond) (ps : List Nat) (hp : ws = ps.filterMap (fun i => tables_1[i]?)) (hg : ws.all goodWord = true) : ∀ w ∈ ws, w ∈ TB := by
  intro w hw
  have h1 := List.all_eq_true.mp hg w hw
  rw [hp] at hw
  obtain ⟨i, -, hi⟩ := List.mem_filterMap.mp hw
  exact TBi i hi h1
theorem inT_V : ∀ w ∈ u_ws R_V T_V 5, w ∈ TB := inTB _ [179, 181, 183, 185, 187] (by decide +kernel) (by decide +kernel)
theorem inT_N : ∀ w ∈ u_ws R_N T_N 17, w ∈ TB := inTB _ [108, 110, 112, 114, 116, 118, 120, 122, 124, 126, 128, 130, 132, 134, 136, 138, 140] (by decide +kernel) (by decide +kernel)
theorem inT_E : ∀ w ∈ u_ws R_E T_E 2, w ∈ TB := inTB _ [31, 33] (by decide +kernel) (by decide +kernel)
theorem inT_O : ∀ w ∈ u_ws R_O T_O 5, w ∈ TB := inTB _ [50, 52, 54, 56, 58] (by decide +kernel) (by decide +kernel)
theorem inT_L : ∀ w ∈ u_ws R_L T_L 2, w ∈ TB := inTB _ [71, 73] (by decide +kernel) (by decide +kernel)
theorem inT_T : ∀ w ∈ u_ws R_T T_T 6, w ∈ TB := inTB _ [161, 163, 165, 167, 169, 171] (by decide +kernel) (by decide +kernel)
theorem inT_M : ∀ w ∈ u_ws R_M T_M 28, w ∈ TB := inTB _ [454, 456, 458, 460, 462, 464, 466, 468, 470, 472, 474, 476, 478, 480, 482, 484, 486, 488, 490, 492, 494, 496, 498, 500, 502, 504, 506, 508] (by decide +kernel) (by decide +kernel)
end
section
abbrev HH : Type := Nat → Nat → Int32
def u2 (h : HH) (i k : Nat) (v : Int32) : HH := fun a b => if a = i ∧ b = k then v else h a b
theorem u2_s (h : HH) (i k : Nat) (v : Int32) : u2 h i k v i k = v := by simp [u2]
theorem u2_i (h : HH) {i a : Nat} (k : Nat) (v : Int32) (ha : a ≠ i) : u2 h i k v a = h a := by funext b; simp [u2, ha]
theorem u2_k (h : HH) {i k b : Nat} (v : Int32) (a : Nat) (hb : b ≠ k) : u2 h i k v a b = h a b := by simp [u2, hb]
abbrev ix (x : Int32) : Nat := x.toNatClampNeg
abbrev sh_E : Type := (Nat × Bool) ⊕ (Nat × List Nat)
def mk_f (ad : Nat → Nat) (h : HH) (i : Nat) (k : Nat) (o : Nat) : Value := match o with
  | 0 => .int (h i k)
  | 1 => .null
  | j + 2 => .ref (ad j)
def mk_v (cI cZ : ClassId) (ad : Nat → Nat) (h : HH) (i : Nat) (e : sh_E) : va_E := match e with
  | .inl a => .inl (cond a.2 cZ cI, a.1, .inl (h i))
  | .inr o => .inr (o.1, o.2.mapIdx (mk_f ad h i))
def mk_e (cI cZ : ClassId) (ad : Nat → Nat) (h : HH) (i : Nat) (e : sh_E) : Nat × va_E := (ad i, mk_v cI cZ ad h i e)
def wld (S : List sh_E) (cI cZ : ClassId) (ad : Nat → Nat) (h : HH) : va_W := S.mapIdx (mk_e cI cZ ad h)
def AdOk (base : Nat) (ad : Nat → Nat) (n : Nat) : Prop := (∀ i j, i < n → j < n → ad i = ad j → i = j) ∧ ∀ i, i < n → base ≤ ad i
section WLD
variable {S : List sh_E} {cI cZ : ClassId} {base : Nat} {ad : Nat → Nat} {h : HH}
theorem wld_at {i : Nat} {e : sh_E} (hs : S[i]? = some e) : (wld S cI cZ ad h)[i]? = some (ad i, mk_v cI cZ ad h i e) := by
  unfold wld
  rw [List.getElem?_mapIdx, hs]
  rfl
theorem wld_key {k : Nat} {q : Nat × va_E} (hk : (wld S cI cZ ad h)[k]? = some q) : k < S.length ∧ q.1 = ad k := by
  unfold wld at hk
  rw [List.getElem?_mapIdx] at hk
  cases hs : S[k]? with
  | none => rw [hs] at hk; cases hk
  | some e =>
    rw [hs] at hk
    cases hk
    exact ⟨(List.getElem?_eq_some_iff.mp hs).1, rfl⟩
theorem wld_D (hA : AdOk base ad S.length) : va_D (fun q => base ≤ q) (wld S cI cZ ad h) := by
  refine ⟨fun i j p q hi hj hpq => ?_, fun k q hk => ?_⟩
  · obtain ⟨l1, h1⟩ := wld_key hi
    obtain ⟨l2, h2⟩ := wld_key hj
    exact hA.1 i j l1 l2 (h1.symm.trans (hpq.trans h2))
  · obtain ⟨l1, h1⟩ := wld_key hk
    show base ≤ q.1
    rw [h1]
    exact hA.2 k l1
theorem mk_v_ne {i j k : Nat} {v : Int32} (e : sh_E) (hj : j ≠ i) : mk_v cI cZ ad (u2 h i k v) j e = mk_v cI cZ ad h j e := by
  have h1 : u2 h i k v j = h j := u2_i h k v hj
  have h2 : mk_f ad (u2 h i k v) j = mk_f ad h j := by
    funext a o
    match o with
    | 0 => simp [mk_f, h1]
    | 1 => rfl
    | x + 2 => rfl
  cases e with
  | inl a => simp [mk_v, h1]
  | inr o => simp [mk_v, h2]
theorem mk_put {i k : Nat} {ks : List Nat} (hk : ks[k]? = some 0) (v : Int32) : (ks.mapIdx (mk_f ad h i)).set k (.int v) = ks.mapIdx (mk_f ad (u2 h i k v) i) := by
  have hl : k < ks.length := (List.getElem?_eq_some_iff.mp hk).1
  apply List.ext_getElem?
  intro j
  rw [List.getElem?_mapIdx]
  by_cases hj : k = j
  · subst hj
    rw [List.getElem?_set_self (by rw [List.length_mapIdx]; exact hl), hk]
    simp [mk_f, u2]
  · rw [List.getElem?_set_ne hj, List.getElem?_mapIdx]
    cases ks[j]? with
    | none => rfl
    | some o =>
      match o with
      | 0 => simp [mk_f, u2_k h v i (Ne.symm hj)]
      | 1 => rfl
      | x + 2 => rfl
theorem wld_set {i k : Nat} {v : Int32} {e : sh_E} {w : va_E} (hs : S[i]? = some e) (hw : w = mk_v cI cZ ad (u2 h i k v) i e) : (wld S cI cZ ad h).set i (ad i, w) = wld S cI cZ ad (u2 h i k v) := by
  have hl : i < (wld S cI cZ ad h).length := (List.getElem?_eq_some_iff.mp (wld_at hs)).1
  apply List.ext_getElem?
  intro j
  by_cases hj : i = j
  · subst hj
    rw [List.getElem?_set_self hl, wld_at hs, hw]
  · rw [List.getElem?_set_ne hj]
    cases hsj : S[j]? with
    | none =>
      unfold wld
      rw [List.getElem?_mapIdx, List.getElem?_mapIdx, hsj]
      rfl
    | some e' => rw [wld_at hsj, wld_at hsj, mk_v_ne e' (Ne.symm hj)]
end WLD
def Lc (ls : Array Slot) (nL : Nat) (vs : List (Option Value)) : Prop := ls.size = nL ∧ lv_wf ls ∧ (∀ (i : Nat) (v : Value), vs[i]? = some (some v) → ls[i]? = some (.val v) ∧ v.category = 1)
theorem Lc.at {ls : Array Slot} {nL : Nat} {vs : List (Option Value)} (h : Lc ls nL vs) (i : Nat) {v : Value} (hv : vs[i]? = some (some v)) : ls[i]? = some (.val v) := (h.2.2 i v hv).1
def Lm (vs : List (Option Value)) (ms : List Bool) : List (Option Value) := vs.zipWith (fun v b => cond b v none) ms
theorem Lc.mask {ls : Array Slot} {nL : Nat} {vs : List (Option Value)} (h : Lc ls nL vs) (ms : List Bool) : Lc ls nL (Lm vs ms) := by
  refine ⟨h.1, h.2.1, fun i v hv => ?_⟩
  unfold Lm at hv
  rw [List.getElem?_zipWith] at hv
  cases h1 : vs[i]? with
  | none => rw [h1] at hv; cases hv
  | some a =>
    cases h2 : ms[i]? with
    | none => rw [h1, h2] at hv; cases hv
    | some b =>
      rw [h1, h2] at hv
      cases b with
      | false => cases hv
      | true =>
        have ha : a = some v := Option.some.inj hv
        subst ha
        exact h.2.2 i v h1
def Lx : Nat → List (Option Value) → List (Nat × Value)
  | _, [] => []
  | n, none :: l => Lx (n + 1) l
  | n, some v :: l => (n, v) :: Lx (n + 1) l
theorem Lx_in : ∀ (l : List (Option Value)) (n : Nat) (q : Nat × Value), q ∈ Lx n l → ∃ i, q.1 = n + i ∧ l[i]? = some (some q.2)
  | [], n, q, h => by simp [Lx] at h
  | none :: l, n, q, h => by
    obtain ⟨i, h1, h2⟩ := Lx_in l (n + 1) q h
    exact ⟨i + 1, by omega, by simpa using h2⟩
  | some v :: l, n, q, h => by
    rcases List.mem_cons.mp h with rfl | h
    · exact ⟨0, rfl, rfl⟩
    · obtain ⟨i, h1, h2⟩ := Lx_in l (n + 1) q h
      exact ⟨i + 1, by omega, by simpa using h2⟩
theorem Lx_mem : ∀ (l : List (Option Value)) (n i : Nat) (v : Value), l[i]? = some (some v) → (n + i, v) ∈ Lx n l
  | [], n, i, v, h => by simp at h
  | none :: l, n, i, v, h => by
    cases i with
    | zero => simp at h
    | succ i =>
      have := Lx_mem l (n + 1) i v (by simpa using h)
      rw [show n + (i + 1) = n + 1 + i by omega]
      exact this
  | some w :: l, n, i, v, h => by
    cases i with
    | zero =>
      have : w = v := by simpa using h
      subst this
      exact List.mem_cons_self
    | succ i =>
      have := Lx_mem l (n + 1) i v (by simpa using h)
      rw [show n + (i + 1) = n + 1 + i by omega]
      exact List.mem_cons_of_mem _ this
theorem Lc.has {ls : Array Slot} {nL : Nat} {vs : List (Option Value)} (h : Lc ls nL vs) : lv_has ls nL (Lx 0 vs) := by
  refine ⟨h.1, h.2.1, fun q hq => ?_⟩
  obtain ⟨i, h1, h2⟩ := Lx_in vs 0 q hq
  rw [h1, Nat.zero_add]
  exact (h.2.2 i q.2 h2).1
theorem Lc.put {ls ls' : Array Slot} {nL i : Nat} {vs : List (Option Value)} {v : Value} (h : Lc ls nL vs) (hv : v.category = 1) (h' : lv_has ls' nL ((i, v) :: (Lx 0 vs).filter (fun q => !(q.1 == i) && !(q.1 + 1 == i && q.2.category == 2)))) : Lc ls' nL (vs.set i (some v)) := by
  refine ⟨h'.1, h'.2.1, fun j w hw => ?_⟩
  by_cases hij : i = j
  · subst hij
    have hl : i < (vs.set i (some v)).length := (List.getElem?_eq_some_iff.mp hw).1
    rw [List.length_set] at hl
    rw [List.getElem?_set_self hl] at hw
    have : v = w := by simpa using hw
    subst this
    exact ⟨h'.2.2 (i, v) List.mem_cons_self, hv⟩
  · rw [List.getElem?_set_ne hij] at hw
    have hc := (h.2.2 j w hw).2
    have hm := Lx_mem vs 0 j w hw
    rw [Nat.zero_add] at hm
    refine ⟨h'.2.2 (j, w) (List.mem_cons_of_mem _ (List.mem_filter.mpr ⟨hm, ?_⟩)), hc⟩
    have h1 : ¬ j = i := fun q => hij q.symm
    simp [h1, hc]
theorem lv_args_at : ∀ (vs : List Value) (i j : Nat) (v : Value), (∀ w ∈ vs, w.category = 1) → vs[j]? = some v → (i + j, v) ∈ lv_args i vs
  | [], i, j, v, _, h => by simp at h
  | w :: vs, i, j, v, hc, h => by
    have h1 : w.category = 1 := hc w List.mem_cons_self
    have e : lv_args i (w :: vs) = (i, w) :: lv_args (i + 1) vs := by simp [lv_args, h1]
    rw [e]
    cases j with
    | zero =>
      have : w = v := by simpa using h
      subst this
      exact List.mem_cons_self
    | succ j =>
      have := lv_args_at vs (i + 1) j v (fun q hq => hc q (List.mem_cons_of_mem _ hq)) (by simpa using h)
      rw [show i + (j + 1) = i + 1 + j by omega]
      exact List.mem_cons_of_mem _ this
theorem Lc_entry {ls : Array Slot} {n : Nat} {avs : List Value} (hcat : ∀ v ∈ avs, v.category = 1) (hl : lv_has ls n (lv_args 0 avs)) : Lc ls n (avs.map some ++ List.replicate (n - avs.length) none) := by
  refine ⟨hl.1, hl.2.1, fun i v hv => ?_⟩
  by_cases hi : i < avs.length
  · rw [List.getElem?_append_left (by simpa using hi), List.getElem?_map] at hv
    cases hx : avs[i]? with
    | none => rw [hx] at hv; cases hv
    | some w =>
      rw [hx] at hv
      have : w = v := by simpa using hv
      subst this
      have h2 := hl.2.2 (0 + i, w) (lv_args_at avs 0 i w hcat hx)
      refine ⟨by simpa using h2, hcat w (List.mem_of_getElem? hx)⟩
  · rw [List.getElem?_append_right (by simpa using hi)] at hv
    have h1 := List.mem_of_getElem? hv
    have h2 := List.eq_of_mem_replicate h1
    cases h2
def catOk (vs : List Value) : Bool := vs.all (fun v => v.category == 1)
theorem cat_ok {vs : List Value} (h : catOk vs = true) : ∀ v ∈ vs, v.category = 1 := by
  intro v hv
  have := List.all_eq_true.mp h v hv
  simpa using this
end
section
def n9_own : String := R_E
def n9_idx : Nat := 19
def n9_y : MethodName := y_V_blocksOfExtent
def n9_host : String := "TwinVolume"
abbrev isN (i : Nat) : Prop := i = 1 ∨ i = 11
def shape : List sh_E := [.inr (0, [3, 13, 23, 0, 0]), .inr (1, [0, 4, 5, 7, 11, 0, 0, 0, 0, 0, 0, 0, 0, 0, 0, 0, 0]), .inl (32, false), .inr (2, [6, 0]), .inl (3, false), .inr (3, [8, 9, 10, 0, 0]), .inl (25, false), .inl (25, false), .inl (25, false), .inr (4, [12, 0]), .inl (8, false), .inr (1, [0, 14, 15, 17, 21, 0, 0, 0, 0, 0, 0, 0, 0, 0, 0, 0, 0]), .inl (32, false), .inr (2, [16, 0]), .inl (3, false), .inr (3, [18, 19, 20, 0, 0]), .inl (25, false), .inl (25, false), .inl (25, false), .inr (4, [22, 0]), .inl (8, false), .inr (5, [24, 25, 26, 27, 28, 0]), .inl (301, false), .inl (301, false), .inl (301, false), .inl (301, false), .inl (301, false), .inr (6, [0, 30, 31, 32, 33, 34, 35, 36, 37, 38, 39, 0, 40, 41, 0, 42, 43, 44, 45, 46, 47, 48, 49, 0, 50, 51, 52, 53]), .inl (301, false), .inl (301, false), .inl (301, false), .inl (301, false), .inl (301, false), .inl (301, true), .inl (64, false), .inl (64, true), .inl (16, true), .inl (16, false), .inl (2, false), .inl (2, false), .inl (2, true), .inl (2, true), .inl (2, true), .inl (2, true), .inl (2, true), .inl (2, true), .inl (2, true), .inl (2, false), .inl (128, false), .inl (128, false), .inl (128, false), .inl (2, false)]
theorem shp_N {i : Nat} (hi : isN i) : shape[i]? = some (.inr (1, [0, i + 1 + 2, i + 2 + 2, i + 4 + 2, i + 8 + 2, 0, 0, 0, 0, 0, 0, 0, 0, 0, 0, 0, 0])) := by
  rcases hi with rfl | rfl <;> rfl
theorem shp_E {i : Nat} (hi : isN i) : shape[i + 2]? = some (.inr (2, [i + 3 + 2, 0])) := by
  rcases hi with rfl | rfl <;> rfl
theorem shp_O {i : Nat} (hi : isN i) : shape[i + 4]? = some (.inr (3, [i + 5 + 2, i + 6 + 2, i + 7 + 2, 0, 0])) := by
  rcases hi with rfl | rfl <;> rfl
theorem shp_L {i : Nat} (hi : isN i) : shape[i + 8]? = some (.inr (4, [i + 9 + 2, 0])) := by
  rcases hi with rfl | rfl <;> rfl
theorem sha_1 {i : Nat} (hi : isN i) : shape[i + 1]? = some (.inl (32, false)) := by
  rcases hi with rfl | rfl <;> rfl
theorem sha_3 {i : Nat} (hi : isN i) : shape[i + 3]? = some (.inl (3, false)) := by
  rcases hi with rfl | rfl <;> rfl
theorem sha_5 {i : Nat} (hi : isN i) : shape[i + 5]? = some (.inl (25, false)) := by
  rcases hi with rfl | rfl <;> rfl
theorem sha_6 {i : Nat} (hi : isN i) : shape[i + 6]? = some (.inl (25, false)) := by
  rcases hi with rfl | rfl <;> rfl
theorem sha_7 {i : Nat} (hi : isN i) : shape[i + 7]? = some (.inl (25, false)) := by
  rcases hi with rfl | rfl <;> rfl
theorem sha_9 {i : Nat} (hi : isN i) : shape[i + 9]? = some (.inl (8, false)) := by
  rcases hi with rfl | rfl <;> rfl
abbrev tyz (cI cZ : ClassId) : List (ClassId × FieldType) := [(cI, .int), (cZ, .boolean)]
def NW (U : State) : Prop := va_Nw (.methodLinkNest n9_own n9_idx n9_y n9_host) U
def KK (D : va_G) (cI cZ : ClassId) (U : State) : Prop := va_K D vwCl (tyz cI cZ) U ∧ NW U
theorem KK.moved {D : va_G} {cI cZ : ClassId} {u U : State} (hW : u.WarmedH U.vm) (h : KK D cI cZ u) : KK D cI cZ U := ⟨va_K.moved hW.alike h.1, va_Nw.warmM hW h.2⟩
def Hw (D : va_G) (cI cZ : ClassId) (base : Nat) (ad : Nat → Nat) (s : State) (S : List sh_E) (h : HH) (H : Heap) (locs : List Loc) : Prop := va_P D vwCl (wld S cI cZ ad h) H ∧ va_S (fun q => base ≤ q) s.heap H locs ∧ AdOk base ad S.length
abbrev FG (own : String) (idx ci k : Nat) : Prop := ∃ (C : String) (T : u_T) (N : Nat), vwCl[ci]? = some (C, T, N) ∧ k < N ∧ (∀ w ∈ u_ws C T N, w ∈ TB) ∧ Cond.fieldLink own idx (T k).1 (T k).2.1 (T k).2.2.1 ∈ TB
abbrev FP (own : String) (idx ci k : Nat) (ty : FieldType) : Prop := ∃ (C : String) (T : u_T) (N : Nat) (tf : Nat → FieldType), vwCl[ci]? = some (C, T, N) ∧ k < N ∧ (∀ w ∈ u_ws C T N, w ∈ TB) ∧ Cond.fieldLink own idx (T k).1 (T k).2.1 (T k).2.2.1 ∈ TB ∧ (∀ k, k < N → parseFieldDescriptor (T k).2.2.1 = some (tf k)) ∧ (∀ a, a < N → ∀ b, b < N → a ≠ b → (T a).2.1 ≠ (T b).2.1) ∧ (T k).2.2.2 = false ∧ parseFieldDescriptor (T k).2.2.1 = some ty
abbrev MF (own : String) (idx : Nat) (y : MethodName) (bytes : ByteArray) (maxL : Nat) (ret : Option FieldType) (n : Nat) : Prop := Cond.methodLink own idx y ∈ TB ∧ Cond.code y bytes maxL ret ∈ TB ∧ Cond.initialized y.cls ∈ TB ∧ (y.cls ≠ "java/lang/invoke/MethodHandle" ∧ y.cls ≠ "java/lang/invoke/VarHandle" ∧ (parseMethodDescriptor y.desc).map (fun d => d.parameters.length) = some n)
abbrev MN (y : MethodName) (bytes : ByteArray) (maxL : Nat) (ret : Option FieldType) (n : Nat) : Prop := Cond.code y bytes maxL ret ∈ TB ∧ Cond.initialized y.cls ∈ TB ∧ (y.cls ≠ "java/lang/invoke/MethodHandle" ∧ y.cls ≠ "java/lang/invoke/VarHandle" ∧ (parseMethodDescriptor y.desc).map (fun d => d.parameters.length) = some n)
abbrev rmD (d lw : Nat) : Room := { frames := d, cells := 0, slots := 0, locals := lw }
def Pw (D : va_G) (cI cZ : ClassId) (base : Nat) (ad : Nat → Nat) (avs : List Value) (h : HH) : Array Value → State → Prop := va_Pc avs (fun U => va_P D vwCl (wld shape cI cZ ad h) U.heap ∧ KK D cI cZ U ∧ AdOk base ad shape.length)
def Qw (D : va_G) (cI cZ : ClassId) (base : Nat) (ad : Nat → Nat) (post : Option Value → HH → Prop) : Array Value → State → Outcome → State → Prop := fun _ st oc t => (∃ (v : Option Value) (h' : HH), oc = .returned v ∧ post v h' ∧ va_P D vwCl (wld shape cI cZ ad h') t.heap) ∧ va_F (fun q => base ≤ q) st t
def Ct (l : Launch) (D : va_G) (cI cZ : ClassId) (base : Nat) (ad : Nat → Nat) (y : MethodName) (bytes : ByteArray) (maxL : Nat) (ret : Option FieldType) (d lw : Nat) (avs : List Value) (h : HH) (post : Option Value → HH → Prop) : Prop :=
  Met l y (Cond.code y bytes maxL ret :: TB) (rmD d lw) (Pw D cI cZ base ad avs h) (Qw D cI cZ base ad post) 0 0 (fun q => base ≤ q)
section ROWS
variable {p : Program} {l : Launch} {e : Env} {R : Room} {s : State} {m : MethodId} {args : Array Value} {below : List Frame} {meth : Method} {c : Code} {H : Heap} {locs : List Loc} {cells slots : Nat} {Q : State → Prop}
variable {cc : ByteArray} {pc nL : Nat} {ls : Array Slot} {rest : List Value} {D : va_G} {cI cZ : ClassId} {base : Nat} {ad : Nat → Nat} {S : List sh_E} {h : HH} {own : String}
theorem r_geti (X : CallFix p m c cc nL s args TB own) (K : KK D cI cZ s) (hw : Hw D cI cZ base ad s S h H locs) {idx ci k : Nat} (F : FG own idx ci k) {i : Nat} {ks : List Nat} (hs : S[i]? = some (.inr (ci, ks))) (hk : ks[k]? = some 0) (hdg : decode cc pc = .ok (.getfield idx, 3))
    (kk : W p l e R s m args below meth c H locs cells slots Q (F0 m (pc + 3) ls (.int (h i k) :: rest))) : W p l e R s m args below meth c H locs cells slots Q (F0 m pc ls (.ref (ad i) :: rest)) := by
  obtain ⟨C, T, N, h1, h2, h3, h4⟩ := F
  refine va_get (D := D) (own := own) (ref := (T k).1) X.1 X.2.1 X.2.2.2.2 h3 X.2.2.2.1 K.1 hw.1 i (wld_at hs) h1 k h2 (X.2.2.2.2 _ h4) (fun _ h9 => h9) (v := .int (h i k)) ?_ hdg kk
  rw [List.getElem?_mapIdx, hk]
  rfl
theorem r_getr (X : CallFix p m c cc nL s args TB own) (K : KK D cI cZ s) (hw : Hw D cI cZ base ad s S h H locs) {idx ci k : Nat} (F : FG own idx ci k) {i j : Nat} {ks : List Nat} (hs : S[i]? = some (.inr (ci, ks))) (hk : ks[k]? = some (j + 2)) (hdg : decode cc pc = .ok (.getfield idx, 3))
    (kk : W p l e R s m args below meth c H locs cells slots Q (F0 m (pc + 3) ls (.ref (ad j) :: rest))) : W p l e R s m args below meth c H locs cells slots Q (F0 m pc ls (.ref (ad i) :: rest)) := by
  obtain ⟨C, T, N, h1, h2, h3, h4⟩ := F
  refine va_get (D := D) (own := own) (ref := (T k).1) X.1 X.2.1 X.2.2.2.2 h3 X.2.2.2.1 K.1 hw.1 i (wld_at hs) h1 k h2 (X.2.2.2.2 _ h4) (fun _ h9 => h9) (v := .ref (ad j)) ?_ hdg kk
  rw [List.getElem?_mapIdx, hk]
  rfl
theorem r_put (X : CallFix p m c cc nL s args TB own) (K : KK D cI cZ s) (hw : Hw D cI cZ base ad s S h H locs) {idx ci k : Nat} {ty : FieldType} (F : FP own idx ci k ty) {i : Nat} {ks : List Nat} (hs : S[i]? = some (.inr (ci, ks))) (hk : ks[k]? = some 0) {v : Int32} (hn : narrow ty (.int v) = .int v) (hf : fits ty (.int v) = true) (hdg : decode cc pc = .ok (.putfield idx, 3))
    (kk : ∀ (H1 : Heap) (locs1 : List Loc), Hw D cI cZ base ad s S (u2 h i k v) H1 locs1 → W p l e R s m args below meth c H1 locs1 cells slots Q (F0 m (pc + 3) ls rest)) : W p l e R s m args below meth c H locs cells slots Q (F0 m pc ls (.int v :: .ref (ad i) :: rest)) := by
  obtain ⟨C, T, N, tf, h1, h2, h3, h4, h5, h6, h7, h8⟩ := F
  have hl : k < (ks.mapIdx (mk_f ad h i)).length := by
    rw [List.length_mapIdx]
    exact (List.getElem?_eq_some_iff.mp hk).1
  refine va_put (D := D) (own := own) (ref := (T k).1) X.1 X.2.1 X.2.2.2.2 h3 tf h5 h6 X.2.2.2.1 K.1 hw.1 (wld_D hw.2.2) hw.2.1 i (wld_at hs) h1 k h2 (X.2.2.2.2 _ h4) (fun _ h9 => h9) h7 h8 hn hf hl hdg (fun H1 locs1 hP hD hS => kk H1 locs1 ⟨?_, hS, hw.2.2⟩)
  rw [wld_set (k := k) (v := v) hs (show (.inr (ci, (ks.mapIdx (mk_f ad h i)).set k (.int v)) : va_E) = mk_v cI cZ ad (u2 h i k v) i (.inr (ci, ks)) by rw [mk_put hk v]; rfl)] at hP
  exact hP
theorem r_ald (X : CallFix p m c cc nL s args TB own) (K : KK D cI cZ s) (hw : Hw D cI cZ base ad s S h H locs) {i n : Nat} (hs : S[i]? = some (.inl (n, false))) {j : Int32} (hin : vp_in j n) (hdg : decode cc pc = .ok (.iaload, 1))
    (kk : W p l e R s m args below meth c H locs cells slots Q (F0 m (pc + 1) ls (.int (h i (ix j)) :: rest))) : W p l e R s m args below meth c H locs cells slots Q (F0 m pc ls (.int j :: .ref (ad i) :: rest)) :=
  va_iald X.1 X.2.1 K.1 hw.1 i 0 (wld_at hs) rfl hin hdg kk
theorem r_aldz (X : CallFix p m c cc nL s args TB own) (K : KK D cI cZ s) (hw : Hw D cI cZ base ad s S h H locs) {i n : Nat} (hs : S[i]? = some (.inl (n, true))) {j : Int32} (hin : vp_in j n) (hdg : decode cc pc = .ok (.baload, 1))
    (kk : W p l e R s m args below meth c H locs cells slots Q (F0 m (pc + 1) ls (.int (h i (ix j)) :: rest))) : W p l e R s m args below meth c H locs cells slots Q (F0 m pc ls (.int j :: .ref (ad i) :: rest)) :=
  va_zald X.1 X.2.1 K.1 hw.1 i 1 (wld_at hs) rfl hin hdg kk
theorem upd_row (h : HH) (i k : Nat) (v : Int32) : upd (h i) k v = u2 h i k v i := by
  funext b
  by_cases hb : b = k
  · subst hb; simp [upd, u2]
  · simp [upd, u2, hb]
theorem r_ast (X : CallFix p m c cc nL s args TB own) (K : KK D cI cZ s) (hw : Hw D cI cZ base ad s S h H locs) {i n : Nat} (hs : S[i]? = some (.inl (n, false))) {j v : Int32} (hin : vp_in j n) (hdg : decode cc pc = .ok (.iastore, 1))
    (kk : ∀ (H1 : Heap) (locs1 : List Loc), Hw D cI cZ base ad s S (u2 h i (ix j) v) H1 locs1 → W p l e R s m args below meth c H1 locs1 cells slots Q (F0 m (pc + 1) ls rest)) : W p l e R s m args below meth c H locs cells slots Q (F0 m pc ls (.int v :: .int j :: .ref (ad i) :: rest)) := by
  refine va_iast X.1 X.2.1 K.1 hw.1 (wld_D hw.2.2) hw.2.1 i 0 (wld_at hs) rfl hin hdg (fun H1 locs1 hP hD hS => kk H1 locs1 ⟨?_, hS, hw.2.2⟩)
  rw [upd_row] at hP
  have hP2 : va_P D vwCl ((wld S cI cZ ad h).set i (ad i, .inl (cI, n, .inl (u2 h i (ix j) v i)))) H1 := hP
  rw [wld_set (k := ix j) (v := v) (w := .inl (cI, n, .inl (u2 h i (ix j) v i))) hs rfl] at hP2
  exact hP2
theorem r_astz (X : CallFix p m c cc nL s args TB own) (K : KK D cI cZ s) (hw : Hw D cI cZ base ad s S h H locs) {i n : Nat} (hs : S[i]? = some (.inl (n, true))) {j v : Int32} (hin : vp_in j n) (hv : vp_nar .boolean v = v) (hdg : decode cc pc = .ok (.bastore, 1))
    (kk : ∀ (H1 : Heap) (locs1 : List Loc), Hw D cI cZ base ad s S (u2 h i (ix j) v) H1 locs1 → W p l e R s m args below meth c H1 locs1 cells slots Q (F0 m (pc + 1) ls rest)) : W p l e R s m args below meth c H locs cells slots Q (F0 m pc ls (.int v :: .int j :: .ref (ad i) :: rest)) := by
  refine va_zast X.1 X.2.1 K.1 hw.1 (wld_D hw.2.2) hw.2.1 i 1 (wld_at hs) rfl hin hdg (fun H1 locs1 hP hD hS => kk H1 locs1 ⟨?_, hS, hw.2.2⟩)
  rw [hv, upd_row] at hP
  have hP2 : va_P D vwCl ((wld S cI cZ ad h).set i (ad i, .inl (cZ, n, .inl (u2 h i (ix j) v i)))) H1 := hP
  rw [wld_set (k := ix j) (v := v) (w := .inl (cZ, n, .inl (u2 h i (ix j) v i))) hs rfl] at hP2
  exact hP2
theorem r_istore_n (X : CallFix p m c cc nL s args TB own) {vs : List (Option Value)} (hl : Lc ls nL vs) {k : Fin 4} {i : Nat} {x : Int32} (hdg : decode cc pc = .ok (.istore_n k, 1)) (hi : (k : Nat) = i) (hn : i < nL)
    (kk : ∀ ls' : Array Slot, Lc ls' nL (vs.set i (some (.int x))) → W p l e R s m args below meth c H locs cells slots Q (F0 m (pc + 1) ls' rest)) : W p l e R s m args below meth c H locs cells slots Q (F0 m pc ls (.int x :: rest)) :=
  lv_istore_n X.1 X.2.1 hdg hi hl.has hn rfl (fun ls' h' => kk ls' (hl.put rfl h'))
theorem r_istore (X : CallFix p m c cc nL s args TB own) {vs : List (Option Value)} (hl : Lc ls nL vs) {i : Nat} {x : Int32} (hdg : decode cc pc = .ok (.istore i, 2)) (hn : i < nL)
    (kk : ∀ ls' : Array Slot, Lc ls' nL (vs.set i (some (.int x))) → W p l e R s m args below meth c H locs cells slots Q (F0 m (pc + 2) ls' rest)) : W p l e R s m args below meth c H locs cells slots Q (F0 m pc ls (.int x :: rest)) :=
  lv_istore X.1 X.2.1 hdg hl.has hn rfl (fun ls' h' => kk ls' (hl.put rfl h'))
theorem r_astore_n (X : CallFix p m c cc nL s args TB own) {vs : List (Option Value)} (hl : Lc ls nL vs) {k : Fin 4} {i : Nat} {x : Nat} (hdg : decode cc pc = .ok (.astore_n k, 1)) (hi : (k : Nat) = i) (hn : i < nL)
    (kk : ∀ ls' : Array Slot, Lc ls' nL (vs.set i (some (.ref x))) → W p l e R s m args below meth c H locs cells slots Q (F0 m (pc + 1) ls' rest)) : W p l e R s m args below meth c H locs cells slots Q (F0 m pc ls (.ref x :: rest)) :=
  lv_astore_n X.1 X.2.1 hdg hi hl.has hn rfl (fun ls' h' => kk ls' (hl.put rfl h'))
theorem r_astore (X : CallFix p m c cc nL s args TB own) {vs : List (Option Value)} (hl : Lc ls nL vs) {i : Nat} {x : Nat} (hdg : decode cc pc = .ok (.astore i, 2)) (hn : i < nL)
    (kk : ∀ ls' : Array Slot, Lc ls' nL (vs.set i (some (.ref x))) → W p l e R s m args below meth c H locs cells slots Q (F0 m (pc + 2) ls' rest)) : W p l e R s m args below meth c H locs cells slots Q (F0 m pc ls (.ref x :: rest)) :=
  lv_astore X.1 X.2.1 hdg hl.has hn rfl (fun ls' h' => kk ls' (hl.put rfl h'))
theorem lv_iincL (hexec : p.tables.exec = Jvm.exec) (hb : c.code = cc) {vs : List (Option Value)} (hl : Lc ls nL vs) {i : Nat} {n : Int} {x v : Int32} (hdg : decode cc pc = .ok (.iinc i n, 3)) (hk : vs[i]? = some (some (.int x))) (hv : x + Int32.ofInt n = v) (hn : i < nL)
    (kk : ∀ ls' : Array Slot, Lc ls' nL (vs.set i (some (.int v))) → W p l e R s m args below meth c H locs cells slots Q (F0 m (pc + 3) ls' rest)) : W p l e R s m args below meth c H locs cells slots Q (F0 m pc ls rest) := by
  have hm := Lx_mem vs 0 i (.int x) hk
  rw [Nat.zero_add] at hm
  obtain ⟨k, hk'⟩ := List.getElem?_of_mem hm
  exact lv_iinc hexec hb (k := k) hdg hl.has hk' hv hn rfl (fun ls' h' => kk ls' (hl.put rfl h'))
theorem good_code {y : MethodName} {bytes : ByteArray} {maxL : Nat} {ret : Option FieldType} (hc : Cond.code y bytes maxL ret ∈ TB) : GoodIn TB (Cond.code y bytes maxL ret :: TB) := by
  intro w hw
  rcases List.mem_cons.mp hw with rfl | hw
  · exact ⟨hc, good_TB _ hc⟩
  · exact ⟨hw, good_TB _ hw⟩
theorem Pw_blind {avs : List Value} : FrameBlind (Pw D cI cZ base ad avs h) := fun a U g mk q => ⟨q.1, q.2.1, ⟨va_K.moved (u := U) (U := U.calling g mk a) (Vm.Alike.refl U.vm) q.2.2.1.1, va_Nw.same rfl rfl q.2.2.1.2⟩, q.2.2.2⟩
theorem r_run {post : Option Value → HH → Prop} {a : Array Value} {st0 : List Value} (hw : Hw D cI cZ base ad s shape h H locs) (hr : va_Run p l e R s m args below meth c H locs cells slots 0 0 (F0 m pc ls st0) rest (Qw D cI cZ base ad post a) (fun q => base ≤ q))
    (kk : ∀ (v : Option Value) (h' : HH) (H1 : Heap) (locs1 : List Loc), post v h' → Hw D cI cZ base ad s shape h' H1 locs1 → W p l e R s m args below meth c H1 locs1 cells slots Q (F0 m (pc + 3) ls (v.toList ++ rest))) : W p l e R s m args below meth c H locs cells slots Q (F0 m pc ls st0) := by
  intro T hT X
  obtain ⟨v, st₀, t, T', L, h0, X', hL, e1, e2, ⟨⟨v', h', hv, hp, hb⟩, hz, hk⟩, st⟩ := hr T hT X
  cases hv
  rw [h0] at hz hk
  obtain ⟨t2, a1, b1⟩ := kk v h' T'.heap (locs ++ L) hp ⟨by rw [e1]; exact hb, ⟨Nat.le_trans hw.2.1.1 (by rw [e1]; exact hz), fun q h1 h2 => by rw [e1, hk q (Nat.lt_of_lt_of_le h1 hw.2.1.1) h2]; exact hw.2.1.2.1 q h1 h2, fun q hq => by
      rcases List.mem_append.mp hq with h | h
      · exact hw.2.1.2.2 q h
      · exact hL q h⟩, hw.2.2⟩ T' rfl X'
  exact ⟨t2, st t2 a1, b1⟩
theorem r_callS (X : CallFix p m c cc nL s args TB own) (K : KK D cI cZ s) (hw : Hw D cI cZ base ad s shape h H locs) (hl : ls.size = nL) {idx : Nat} {y : MethodName} {bytes : ByteArray} {maxL n d lw : Nat} {ret : Option FieldType} (M : MF own idx y bytes maxL ret n ∧ Cond.static y ∈ TB) {avs : List Value} {post : Option Value → HH → Prop} (hC : Ct l D cI cZ base ad y bytes maxL ret d lw avs h post)
    (hR : d + 1 ≤ R.frames ∧ 8 + (maxL + 11) + lw ≤ R.locals) (hcs : cells ≤ R.cells ∧ slots ≤ R.slots) (hn : avs.length = n) {st0 : List Value} (hst : st0 = avs.reverse ++ rest) (hrm : (rest.map fun v => v.category).sum ≤ 8) (hdg : decode cc pc = .ok (.invokestatic idx, 3))
    (kk : ∀ (v : Option Value) (h' : HH) (H1 : Heap) (locs1 : List Loc), post v h' → Hw D cI cZ base ad s shape h' H1 locs1 → W p l e R s m args below meth c H1 locs1 cells slots Q (F0 m (pc + 3) ls (v.toList ++ rest))) : W p l e R s m args below meth c H locs cells slots Q (F0 m pc ls st0) := by
  obtain ⟨⟨m1, m2, m3, m4⟩, m5⟩ := M
  have hts := X.2.2.2.2
  exact r_run hw (va_runS X hC ⟨callB_of n hts (good_code m2) rfl rfl rfl (hts _ m3) (hts _ m1) m4 hR, hts _ m5⟩ ⟨Pw_blind, fun U hU hW => ⟨rfl, by rw [hU]; exact hw.1, KK.moved hW K, hw.2.2⟩⟩ rfl hn hl hst (lv_room hrm) hdg hcs) kk
theorem r_callSN (X : CallFix p m c cc nL s args TB own) (K : KK D cI cZ s) (hw : Hw D cI cZ base ad s shape h H locs) (hl : ls.size = nL) {idx : Nat} {y : MethodName} {host : String} {bytes : ByteArray} {maxL n d lw : Nat} {ret : Option FieldType} (hN : va_Nw (.methodLinkNest own idx y host) s) (M : MN y bytes maxL ret n ∧ Cond.static y ∈ TB) {avs : List Value} {post : Option Value → HH → Prop} (hC : Ct l D cI cZ base ad y bytes maxL ret d lw avs h post)
    (hR : d + 1 ≤ R.frames ∧ 8 + (maxL + 11) + lw ≤ R.locals) (hcs : cells ≤ R.cells ∧ slots ≤ R.slots) (hn : avs.length = n) {st0 : List Value} (hst : st0 = avs.reverse ++ rest) (hrm : (rest.map fun v => v.category).sum ≤ 8) (hdg : decode cc pc = .ok (.invokestatic idx, 3))
    (kk : ∀ (v : Option Value) (h' : HH) (H1 : Heap) (locs1 : List Loc), post v h' → Hw D cI cZ base ad s shape h' H1 locs1 → W p l e R s m args below meth c H1 locs1 cells slots Q (F0 m (pc + 3) ls (v.toList ++ rest))) : W p l e R s m args below meth c H locs cells slots Q (F0 m pc ls st0) := by
  obtain ⟨⟨m2, m3, m4⟩, m5⟩ := M
  have hts := X.2.2.2.2
  exact r_run hw (va_runSN X hC ⟨va_cnB n hts (good_code m2) rfl rfl rfl hN (hts _ m3) m4 hR, hts _ m5, trivial⟩ ⟨Pw_blind, fun U hU hW => ⟨rfl, by rw [hU]; exact hw.1, KK.moved hW K, hw.2.2⟩⟩ rfl hn hl hst (lv_room hrm) hdg hcs) kk
theorem r_callV (X : CallFix p m c cc nL s args TB own) (K : KK D cI cZ s) (hw : Hw D cI cZ base ad s shape h H locs) (hl : ls.size = nL) {idx : Nat} {y : MethodName} {bytes : ByteArray} {maxL n d lw : Nat} {ret : Option FieldType} (M : MF own idx y bytes maxL ret n ∧ Cond.instanceMethod y ∈ TB ∧ Cond.selects y.cls y y ∈ TB) {i ci : Nat} {ks : List Nat} {q : vw_C} (hs : shape[i]? = some (.inr (ci, ks))) (hc : vwCl[ci]? = some q) (hq : q.1 = y.cls) {As : List Value} {post : Option Value → HH → Prop} (hC : Ct l D cI cZ base ad y bytes maxL ret d lw (.ref (ad i) :: As) h post)
    (hR : d + 1 ≤ R.frames ∧ 8 + (maxL + 11) + lw ≤ R.locals) (hcs : cells ≤ R.cells ∧ slots ≤ R.slots) (hn : As.length = n) {st0 : List Value} (hst : st0 = As.reverse ++ .ref (ad i) :: rest) (hrm : (rest.map fun v => v.category).sum ≤ 8) (hdg : decode cc pc = .ok (.invokevirtual idx, 3))
    (kk : ∀ (v : Option Value) (h' : HH) (H1 : Heap) (locs1 : List Loc), post v h' → Hw D cI cZ base ad s shape h' H1 locs1 → W p l e R s m args below meth c H1 locs1 cells slots Q (F0 m (pc + 3) ls (v.toList ++ rest))) : W p l e R s m args below meth c H locs cells slots Q (F0 m pc ls st0) := by
  obtain ⟨⟨m1, m2, m3, m4⟩, m5, m6⟩ := M
  have hts := X.2.2.2.2
  have hrecv := va_recv K.1 hw.1 hc (wld_at hs)
  rw [hq] at hrecv
  exact r_run hw (va_runV (C := y.cls) X hC ⟨callB_of n hts (good_code m2) rfl rfl rfl (hts _ m3) (hts _ m1) m4 hR, hts _ m5, hts _ m6⟩ ⟨Pw_blind, hrecv, fun U hU hW => ⟨rfl, by rw [hU]; exact hw.1, KK.moved hW K, hw.2.2⟩⟩ rfl hn hl hst (lv_room hrm) hdg hcs) kk
theorem r_iret {post : Option Value → HH → Prop} {v : Int32} (X : CallFix p m c cc nL s args TB own) (hr : meth.sig.returnType = some .int) (hk : meth.locks = false) (hw : Hw D cI cZ base ad s shape h H locs) (hp : post (some (.int v)) h) (hdg : decode cc pc = .ok (.ireturn, 1)) : W p l e R s m args below meth c H locs cells slots (MQ below (Qw D cI cZ base ad post) args s cells slots (fun q => base ≤ q)) (F0 m pc ls [.int v]) :=
  W.iret X.1 X.2.1 hr (fun t ht hW => ⟨⟨_, h, rfl, hp, by rw [ht]; exact hw.1⟩, hw.2.1.F ht⟩) hw.2.1.2.2 hdg hk
theorem r_zret {post : Option Value → HH → Prop} {v : Int32} (X : CallFix p m c cc nL s args TB own) (hr : meth.sig.returnType = some .boolean) (hk : meth.locks = false) (hw : Hw D cI cZ base ad s shape h H locs) (hn : narrow .boolean (.int v) = .int v) (hp : post (some (.int v)) h) (hdg : decode cc pc = .ok (.ireturn, 1)) : W p l e R s m args below meth c H locs cells slots (MQ below (Qw D cI cZ base ad post) args s cells slots (fun q => base ≤ q)) (F0 m pc ls [.int v]) :=
  W.zret X.1 X.2.1 hr hn (fun t ht hW => ⟨⟨_, h, rfl, hp, by rw [ht]; exact hw.1⟩, hw.2.1.F ht⟩) hw.2.1.2.2 hdg hk
theorem r_lret {post : Option Value → HH → Prop} {v : Int64} (X : CallFix p m c cc nL s args TB own) (hr : meth.sig.returnType = some .long) (hk : meth.locks = false) (hw : Hw D cI cZ base ad s shape h H locs) (hp : post (some (.long v)) h) (hdg : decode cc pc = .ok (.lreturn, 1)) : W p l e R s m args below meth c H locs cells slots (MQ below (Qw D cI cZ base ad post) args s cells slots (fun q => base ≤ q)) (F0 m pc ls [.long v]) :=
  W.lret X.1 X.2.1 hr (fun t ht hW => ⟨⟨_, h, rfl, hp, by rw [ht]; exact hw.1⟩, hw.2.1.F ht⟩) hw.2.1.2.2 hdg hk
theorem r_vret {post : Option Value → HH → Prop} (X : CallFix p m c cc nL s args TB own) (hr : meth.sig.returnType = none) (hk : meth.locks = false) (hw : Hw D cI cZ base ad s shape h H locs) (hp : post none h) (hdg : decode cc pc = .ok (.return_, 1)) : W p l e R s m args below meth c H locs cells slots (MQ below (Qw D cI cZ base ad post) args s cells slots (fun q => base ≤ q)) (F0 m pc ls []) :=
  W.vret X.1 X.2.1 hr (fun t ht hW => ⟨⟨_, h, rfl, hp, by rw [ht]; exact hw.1⟩, hw.2.1.F ht⟩) hw.2.1.2.2 hdg hk
theorem r_aret {post : Option Value → HH → Prop} {x : Nat} {rt : FieldType} (X : CallFix p m c cc nL s args TB own) (hr : meth.sig.returnType = some rt) (hrt : (∃ n, rt = .object n) ∨ ∃ t, rt = .array t) (hk : meth.locks = false) (hw : Hw D cI cZ base ad s shape h H locs) (hp : post (some (.ref x)) h) (hdg : decode cc pc = .ok (.areturn, 1)) : W p l e R s m args below meth c H locs cells slots (MQ below (Qw D cI cZ base ad post) args s cells slots (fun q => base ≤ q)) (F0 m pc ls [.ref x]) :=
  W.aret X.1 X.2.1 hr hrt (Or.inr ⟨x, rfl⟩) (fun t ht hW => ⟨⟨_, h, rfl, hp, by rw [ht]; exact hw.1⟩, hw.2.1.F ht⟩) hw.2.1.2.2 hdg hk
theorem Ct.of {l : Launch} {y : MethodName} {bytes : ByteArray} {maxL d lw : Nat} {ret : Option FieldType} {avs : List Value} {post : Option Value → HH → Prop} (hy : plainName y.cls = true) (hav : (lg_sl avs).length ≤ maxL) (hcat : ∀ v ∈ avs, v.category = 1)
    (body : ∀ (p : Program) (e : Env) (s : State) (m : MethodId) (args : Array Value) (below : List Frame) (meth : Method) (c : Code) (ls : Array Slot), CallFix p m c bytes maxL s args TB y.cls → KK D cI cZ s → meth.sig.returnType = ret → meth.locks = false → Lc ls maxL (avs.map some ++ List.replicate (maxL - avs.length) none) → Hw D cI cZ base ad s shape h s.heap [] →
      W p l e (rmD d lw) s m args below meth c s.heap [] 0 0 (MQ below (Qw D cI cZ base ad post) args s 0 0 (fun q => base ≤ q)) (F0 m 0 ls [])) : Ct l D cI cZ base ad y bytes maxL ret d lw avs h post := by
  refine Met.ofW (cc := bytes) (maxL := maxL) (ret := ret) hy rfl ?_
  intro p e s m args below meth c s₁ B hml hv
  obtain ⟨rfl, hP, hK, hA⟩ := hv
  have hts := atoms_spec (ws := Cond.code y bytes maxL ret :: TB) B.pre
  have hl := lv_entry avs (n := maxL) hav
  rw [lg_entry_eq]
  generalize (lg_sl avs ++ List.replicate (maxL - (lg_sl avs).length) Slot.unset).toArray = ls at hl ⊢
  refine body p e s m _ below meth c ls ⟨B.exec, B.bytes, hml, findClass_of_methodNamed B.named, fun w hw => hts w (List.mem_cons_of_mem _ hw)⟩ hK B.returns B.notSynchronized (Lc_entry hcat hl) ⟨hP, va_S.rf, hA⟩
end ROWS
def pI (h0 : HH) (ρ : Int32) : Option Value → HH → Prop := fun v h' => v = some (.int ρ) ∧ h' = h0
def pIH (ρ : Int32 × HH) : Option Value → HH → Prop := fun v h' => v = some (.int ρ.1) ∧ h' = ρ.2
def pH (ρ : HH) : Option Value → HH → Prop := fun v h' => v = none ∧ h' = ρ
def pJ (h0 : HH) (ρ : Int64) : Option Value → HH → Prop := fun v h' => v = some (.long ρ) ∧ h' = h0
def pR (ad : Nat → Nat) (h0 : HH) (ρ : Nat) : Option Value → HH → Prop := fun v h' => v = some (.ref (ad ρ)) ∧ h' = h0
end
section
def ext (ad : Nat → Nat) (n : Nat) (f : Nat → Nat) : Nat → Nat := fun j => if j < n then ad j else f j
def shOk (n : Nat) (S : List sh_E) : Bool := S.all (fun e => match e with
  | .inl _ => true
  | .inr o => o.2.all (fun c => decide (c < n + 2)))
def dfl (c : Nat) : Value := match c with
  | 0 => .int 0
  | _ + 1 => .null
def Zr (n : Nat) (h : HH) : Prop := ∀ j, n ≤ j → ∀ k, h j k = 0
theorem Zr.mono {n n' : Nat} {h : HH} (z : Zr n h) (hn : n ≤ n') : Zr n' h := fun j hj k => z j (Nat.le_trans hn hj) k
theorem Zr.put {n i k : Nat} {h : HH} {v : Int32} (z : Zr n h) (hi : i < n) : Zr n (u2 h i k v) := fun j hj k' => by
  rw [u2_i h k v (by omega)]
  exact z j hj k'
section GROW
variable {S : List sh_E} {cI cZ : ClassId} {base : Nat} {ad : Nat → Nat} {h : HH}
theorem mk_f_ext {n i k c : Nat} {f : Nat → Nat} (hc : c < n + 2) : mk_f (ext ad n f) h i k c = mk_f ad h i k c := by
  match c with
  | 0 => rfl
  | 1 => rfl
  | x + 2 =>
    have hx : x < n := by omega
    simp [mk_f, ext, hx]
theorem mk_v_ext {n i : Nat} {f : Nat → Nat} {e : sh_E} (he : shOk n [e] = true) : mk_v cI cZ (ext ad n f) h i e = mk_v cI cZ ad h i e := by
  cases e with
  | inl a => rfl
  | inr o =>
    have ho : ∀ c ∈ o.2, c < n + 2 := by
      intro c hc
      have h1 : o.2.all (fun c => decide (c < n + 2)) = true := by simpa [shOk] using he
      simpa using List.all_eq_true.mp h1 c hc
    have hm : o.2.mapIdx (mk_f (ext ad n f) h i) = o.2.mapIdx (mk_f ad h i) := by
      apply List.ext_getElem?
      intro j
      rw [List.getElem?_mapIdx, List.getElem?_mapIdx]
      cases hj : o.2[j]? with
      | none => rfl
      | some c =>
        have := mk_f_ext (ad := ad) (h := h) (i := i) (k := j) (f := f) (ho c (List.mem_of_getElem? hj))
        simp [this]
    simp [mk_v, hm]
theorem shOk_at {n i : Nat} {e : sh_E} (hS : shOk n S = true) (hi : S[i]? = some e) : shOk n [e] = true := by
  have := List.all_eq_true.mp hS e (List.mem_of_getElem? hi)
  simpa [shOk] using this
theorem wld_ext {f : Nat → Nat} (hS : shOk S.length S = true) : wld S cI cZ (ext ad S.length f) h = wld S cI cZ ad h := by
  apply List.ext_getElem?
  intro j
  cases hj : S[j]? with
  | none =>
    unfold wld
    rw [List.getElem?_mapIdx, List.getElem?_mapIdx, hj]
    rfl
  | some e =>
    have hl : j < S.length := (List.getElem?_eq_some_iff.mp hj).1
    have h1 : ext ad S.length f j = ad j := by simp [ext, hl]
    rw [wld_at hj, wld_at hj, h1, mk_v_ext (shOk_at hS hj)]
theorem wld_push {e : sh_E} {w : va_E} {q : Nat} (hS : shOk S.length S = true) (hw : w = mk_v cI cZ (ext ad S.length (fun _ => q)) h S.length e) : wld S cI cZ ad h ++ [(q, w)] = wld (S ++ [e]) cI cZ (ext ad S.length (fun _ => q)) h := by
  have hlen : (wld S cI cZ ad h).length = S.length := by simp [wld]
  apply List.ext_getElem?
  intro j
  by_cases hj : j < S.length
  · rw [List.getElem?_append_left (by rw [hlen]; exact hj), ← wld_ext (f := fun _ => q) hS]
    have hs : S[j]? = some S[j] := List.getElem?_eq_getElem hj
    rw [wld_at hs, wld_at (S := S ++ [e]) (e := S[j]) (by rw [List.getElem?_append_left hj]; exact hs)]
  · rw [List.getElem?_append_right (by rw [hlen]; omega), hlen]
    by_cases hj2 : j = S.length
    · subst hj2
      rw [Nat.sub_self, wld_at (S := S ++ [e]) (e := e) (by rw [List.getElem?_append_right (Nat.le_refl _), Nat.sub_self]; rfl), hw]
      simp [ext]
    · have h1 : (S ++ [e])[j]? = none := by
        rw [List.getElem?_eq_none_iff]
        simp
        omega
      unfold wld
      rw [List.getElem?_mapIdx, h1]
      have : ¬ j - S.length = 0 := by omega
      simp [this]
theorem AdOk.ofD {D : va_G} {A : Nat → Prop} (hA : ∀ q, A q → base ≤ q) (hD : va_D A (wld S cI cZ ad h)) : AdOk base ad S.length := by
  have key : ∀ i, i < S.length → ∃ e, (wld S cI cZ ad h)[i]? = some (ad i, e) := fun i hi => ⟨_, wld_at (List.getElem?_eq_getElem hi)⟩
  refine ⟨fun i j hi hj hij => ?_, fun i hi => ?_⟩
  · obtain ⟨e1, h1⟩ := key i hi
    obtain ⟨e2, h2⟩ := key j hj
    exact hD.1 i j _ _ h1 h2 hij
  · obtain ⟨e1, h1⟩ := key i hi
    exact hA _ (hD.2 i _ h1)
theorem mk_setr {i k j : Nat} {ks : List Nat} (hk : k < ks.length) : (ks.mapIdx (mk_f ad h i)).set k (.ref (ad j)) = (ks.set k (j + 2)).mapIdx (mk_f ad h i) := by
  apply List.ext_getElem?
  intro x
  rw [List.getElem?_mapIdx]
  by_cases hx : k = x
  · subst hx
    rw [List.getElem?_set_self (by rw [List.length_mapIdx]; exact hk), List.getElem?_set_self hk]
    rfl
  · rw [List.getElem?_set_ne hx, List.getElem?_set_ne hx, List.getElem?_mapIdx]
theorem wld_setr {i k j ci : Nat} {ks : List Nat} (hs : S[i]? = some (.inr (ci, ks))) (hk : k < ks.length) : (wld S cI cZ ad h).set i (ad i, .inr (ci, (ks.mapIdx (mk_f ad h i)).set k (.ref (ad j)))) = wld (S.set i (.inr (ci, ks.set k (j + 2)))) cI cZ ad h := by
  have hl : i < S.length := (List.getElem?_eq_some_iff.mp hs).1
  have hl2 : i < (wld S cI cZ ad h).length := (List.getElem?_eq_some_iff.mp (wld_at hs)).1
  apply List.ext_getElem?
  intro x
  by_cases hx : i = x
  · subst hx
    rw [List.getElem?_set_self hl2, wld_at (S := S.set i (.inr (ci, ks.set k (j + 2)))) (e := .inr (ci, ks.set k (j + 2))) (by rw [List.getElem?_set_self hl]), mk_setr hk]
    rfl
  · rw [List.getElem?_set_ne hx]
    unfold wld
    rw [List.getElem?_mapIdx, List.getElem?_mapIdx, List.getElem?_set_ne hx]
end GROW
abbrev NF (own : String) (idx ci N : Nat) (ks : List Nat) : Prop := ∃ (C : String) (T : u_T) (ty : Nat → FieldType), vwCl[ci]? = some (C, T, N) ∧ (∀ w ∈ u_ws C T N, w ∈ TB) ∧ (∀ k, k < N → parseFieldDescriptor (T k).2.2.1 = some (ty k)) ∧ Cond.classLink own idx C ∈ TB ∧ Cond.instantiable C N ∈ TB ∧ Cond.initialized C ∈ TB ∧ (∀ j, j < N → defaultValue (ty j) = vp_V (ks.map dfl) j)
abbrev FR (own : String) (idx ci k : Nat) (ty : FieldType) : Prop := ∃ (C : String) (T : u_T) (N : Nat) (tf : Nat → FieldType), vwCl[ci]? = some (C, T, N) ∧ k < N ∧ (∀ w ∈ u_ws C T N, w ∈ TB) ∧ Cond.fieldLink own idx (T k).1 (T k).2.1 (T k).2.2.1 ∈ TB ∧ (∀ k, k < N → parseFieldDescriptor (T k).2.2.1 = some (tf k)) ∧ (∀ a, a < N → ∀ b, b < N → a ≠ b → (T a).2.1 ≠ (T b).2.1) ∧ (T k).2.2.2 = true ∧ (T k).1 = own ∧ parseFieldDescriptor (T k).2.2.1 = some ty
def Cn (l : Launch) (D : va_G) (cI cZ : ClassId) (base : Nat) (y : MethodName) (bytes : ByteArray) (maxL d lw mc ms : Nat) (avs : List Value) (ad : Nat → Nat) (S : List sh_E) (h : HH) (S' : List sh_E) (h' : HH) : Prop :=
  Met l y (Cond.code y bytes maxL none :: TB) { frames := d, cells := mc, slots := ms, locals := lw }
    (va_Pc avs (fun U => va_P D vwCl (wld S cI cZ ad h) U.heap ∧ KK D cI cZ U ∧ AdOk base ad S.length ∧ base ≤ U.heap.size))
    (fun _ st oc t => (∃ f : Nat → Nat, oc = .returned none ∧ va_P D vwCl (wld S' cI cZ (ext ad S.length f) h') t.heap ∧ AdOk base (ext ad S.length f) S'.length) ∧ va_F (fun q => base ≤ q) st t) mc ms (fun q => base ≤ q)
section CROWS
variable {p : Program} {l : Launch} {e : Env} {R : Room} {s : State} {m : MethodId} {args : Array Value} {below : List Frame} {meth : Method} {c : Code} {H : Heap} {locs : List Loc} {cells slots : Nat} {Q : State → Prop}
variable {cc : ByteArray} {pc nL : Nat} {ls : Array Slot} {rest : List Value} {D : va_G} {cI cZ : ClassId} {base : Nat} {ad : Nat → Nat} {S : List sh_E} {h : HH} {own : String}
theorem k_new (X : CallFix p m c cc nL s args TB own) (K : KK D cI cZ s) (hw : Hw D cI cZ base ad s S h H locs) (hb : base ≤ s.heap.size) {idx ci N : Nat} {ks : List Nat} (F : NF own idx ci N ks) (hz : Zr S.length h) (hS : shOk S.length S = true) (hc1 : cells + 1 ≤ R.cells) (hc2 : slots + N ≤ R.slots) (hk01 : ∀ c ∈ ks, c ≤ 1) (hdg : decode cc pc = .ok (.new idx, 3))
    (kk : ∀ (q : Nat) (H1 : Heap), Hw D cI cZ base (ext ad S.length (fun _ => q)) s (S ++ [.inr (ci, ks)]) h H1 locs → W p l e R s m args below meth c H1 locs (cells + 1) (slots + N) Q (F0 m (pc + 3) ls (.ref q :: rest))) : W p l e R s m args below meth c H locs cells slots Q (F0 m pc ls rest) := by
  obtain ⟨C, T, ty, h1, h2, h3, h4, h5, h6, h7⟩ := F
  have hts := X.2.2.2.2
  refine va_new (D := D) (ci := ci) (fs := ks.map dfl) X.1 X.2.1 hts h2 ty h3 X.2.2.2.1 (hts _ h4) (hts _ h5) (hts _ h6) K.1 hw.1 (wld_D hw.2.2) hw.2.1 (fun q hq => Nat.le_trans hb hq) h1 h7 hc1 hc2 hdg (fun q H1 hP hD hS1 => kk q H1 ?_)
  have hv : (.inr (ci, ks.map dfl) : va_E) = mk_v cI cZ (ext ad S.length (fun _ => q)) h S.length (.inr (ci, ks)) := by
    have : ks.map dfl = ks.mapIdx (mk_f (ext ad S.length (fun _ => q)) h S.length) := by
      apply List.ext_getElem?
      intro j
      rw [List.getElem?_map, List.getElem?_mapIdx]
      cases hj : ks[j]? with
      | none => rfl
      | some c =>
        have hc := hk01 c (List.mem_of_getElem? hj)
        match c, hc with
        | 0, _ => simp [dfl, mk_f, hz S.length (Nat.le_refl _) j]
        | 1, _ => rfl
    simp [mk_v, this]
  rw [wld_push hS hv] at hP hD
  exact ⟨hP, hS1, AdOk.ofD (D := D) (fun q h => h) hD⟩
theorem ty_int {cA : ClassId} (hK : va_K D vwCl (tyz cI cZ ++ [(cA, .int)]) s) : cA = cI := Option.some.inj ((show s.vm.findClass _ = some cA from (hK.2 2 _ rfl).2).symm.trans (show s.vm.findClass _ = some cI from (hK.2 0 _ rfl).2))
theorem ty_bool {cA : ClassId} (hK : va_K D vwCl (tyz cI cZ ++ [(cA, .boolean)]) s) : cA = cZ := Option.some.inj ((show s.vm.findClass _ = some cA from (hK.2 2 _ rfl).2).symm.trans (show s.vm.findClass _ = some cZ from (hK.2 1 _ rfl).2))
theorem k_newi (X : CallFix p m c cc nL s args TB own) (K : KK D cI cZ s) (hw : Hw D cI cZ base ad s S h H locs) (hb : base ≤ s.heap.size) (hW : Cond.arrayClass .int ∈ TB) {n : Int32} {N : Nat} (hn : ¬ n < 0) (hN : n.toNatClampNeg = N) (hN2 : N * componentBytes .int ≤ 536870912) (hz : Zr S.length h) (hS : shOk S.length S = true) (hc1 : cells + 1 ≤ R.cells) (hc2 : slots + N ≤ R.slots) (hdg : decode cc pc = .ok (.newarray .int, 2))
    (kk : ∀ (q : Nat) (H1 : Heap), Hw D cI cZ base (ext ad S.length (fun _ => q)) s (S ++ [.inl (N, false)]) h H1 locs → W p l e R s m args below meth c H1 locs (cells + 1) (slots + N) Q (F0 m (pc + 2) ls (.ref q :: rest))) : W p l e R s m args below meth c H locs cells slots Q (F0 m pc ls (.int n :: rest)) := by
  refine va_newa (atype := .int) (ty := .int) (a0 := (N, .inl (fun _ => 0))) X.1 X.2.1 (X.2.2.2.2 _ hW) rfl K.1 hw.1 (wld_D hw.2.2) hw.2.1 (fun q hq => Nat.le_trans hb hq) (fun _ => rfl) hn hN hN2 hc1 hc2 hdg (fun q cA H1 hK hP hD hS1 => kk q H1 ?_)
  have hcA := ty_int hK
  subst hcA
  have hv : (.inl (cA, N, .inl (fun _ => 0)) : va_E) = mk_v cA cZ (ext ad S.length (fun _ => q)) h S.length (.inl (N, false)) := by
    have : h S.length = fun _ => 0 := by funext k; exact hz S.length (Nat.le_refl _) k
    simp [mk_v, this]
  rw [wld_push hS hv] at hP hD
  exact ⟨hP, hS1, AdOk.ofD (D := D) (fun q h => h) hD⟩
theorem k_newz (X : CallFix p m c cc nL s args TB own) (K : KK D cI cZ s) (hw : Hw D cI cZ base ad s S h H locs) (hb : base ≤ s.heap.size) (hW : Cond.arrayClass .boolean ∈ TB) {n : Int32} {N : Nat} (hn : ¬ n < 0) (hN : n.toNatClampNeg = N) (hN2 : N * componentBytes .boolean ≤ 536870912) (hz : Zr S.length h) (hS : shOk S.length S = true) (hc1 : cells + 1 ≤ R.cells) (hc2 : slots + N ≤ R.slots) (hdg : decode cc pc = .ok (.newarray .boolean, 2))
    (kk : ∀ (q : Nat) (H1 : Heap), Hw D cI cZ base (ext ad S.length (fun _ => q)) s (S ++ [.inl (N, true)]) h H1 locs → W p l e R s m args below meth c H1 locs (cells + 1) (slots + N) Q (F0 m (pc + 2) ls (.ref q :: rest))) : W p l e R s m args below meth c H locs cells slots Q (F0 m pc ls (.int n :: rest)) := by
  refine va_newa (atype := .boolean) (ty := .boolean) (a0 := (N, .inl (fun _ => 0))) X.1 X.2.1 (X.2.2.2.2 _ hW) rfl K.1 hw.1 (wld_D hw.2.2) hw.2.1 (fun q hq => Nat.le_trans hb hq) (fun _ => rfl) hn hN hN2 hc1 hc2 hdg (fun q cA H1 hK hP hD hS1 => kk q H1 ?_)
  have hcA := ty_bool hK
  subst hcA
  have hv : (.inl (cA, N, .inl (fun _ => 0)) : va_E) = mk_v cI cA (ext ad S.length (fun _ => q)) h S.length (.inl (N, true)) := by
    have : h S.length = fun _ => 0 := by funext k; exact hz S.length (Nat.le_refl _) k
    simp [mk_v, this]
  rw [wld_push hS hv] at hP hD
  exact ⟨hP, hS1, AdOk.ofD (D := D) (fun q h => h) hD⟩
theorem k_putr (X : CallFix p m c cc nL s args TB own) (K : KK D cI cZ s) (hw : Hw D cI cZ base ad s S h H locs) (hin : meth.name = "<init>") {idx ci k : Nat} {ty : FieldType} (F : FR own idx ci k ty) {i j : Nat} {ks : List Nat} (hs : S[i]? = some (.inr (ci, ks))) (hk : k < ks.length) {a b : Nat} (ha : a = ad i) (hb : b = ad j) (hn : ∀ x : Nat, narrow ty (.ref x) = .ref x) (hf : ∀ x : Nat, fits ty (.ref x) = true) (hdg : decode cc pc = .ok (.putfield idx, 3))
    (kk : ∀ (H1 : Heap) (locs1 : List Loc), Hw D cI cZ base ad s (S.set i (.inr (ci, ks.set k (j + 2)))) h H1 locs1 → W p l e R s m args below meth c H1 locs1 cells slots Q (F0 m (pc + 3) ls rest)) : W p l e R s m args below meth c H locs cells slots Q (F0 m pc ls (.ref b :: .ref a :: rest)) := by
  obtain ⟨C, T, N, tf, h1, h2, h3, h4, h5, h6, h7, h8, h9⟩ := F
  subst ha
  subst hb
  refine va_putF (D := D) (own := own) (ref := (T k).1) X.1 X.2.1 X.2.2.2.2 h3 tf h5 h6 X.2.2.2.1 K.1 hw.1 (wld_D hw.2.2) hw.2.1 i (wld_at hs) h1 k h2 (X.2.2.2.2 _ h4) (fun _ h9 => h9) h7 hin h8 h9 (hn _) (hf _) (by rw [List.length_mapIdx]; exact hk) hdg (fun H1 locs1 hP hD hS => kk H1 locs1 ⟨?_, hS, ?_⟩)
  · rw [wld_setr hs hk] at hP
    exact hP
  · rw [List.length_set]
    exact hw.2.2
theorem k_puti (X : CallFix p m c cc nL s args TB own) (K : KK D cI cZ s) (hw : Hw D cI cZ base ad s S h H locs) (hin : meth.name = "<init>") {idx ci k : Nat} {ty : FieldType} (F : FR own idx ci k ty) {i : Nat} {ks : List Nat} (hs : S[i]? = some (.inr (ci, ks))) (hk : ks[k]? = some 0) {a : Nat} (ha : a = ad i) {v : Int32} (hn : narrow ty (.int v) = .int v) (hf : fits ty (.int v) = true) (hdg : decode cc pc = .ok (.putfield idx, 3))
    (kk : ∀ (H1 : Heap) (locs1 : List Loc), Hw D cI cZ base ad s S (u2 h i k v) H1 locs1 → W p l e R s m args below meth c H1 locs1 cells slots Q (F0 m (pc + 3) ls rest)) : W p l e R s m args below meth c H locs cells slots Q (F0 m pc ls (.int v :: .ref a :: rest)) := by
  obtain ⟨C, T, N, tf, h1, h2, h3, h4, h5, h6, h7, h8, h9⟩ := F
  subst ha
  have hl : k < (ks.mapIdx (mk_f ad h i)).length := by
    rw [List.length_mapIdx]
    exact (List.getElem?_eq_some_iff.mp hk).1
  refine va_putF (D := D) (own := own) (ref := (T k).1) X.1 X.2.1 X.2.2.2.2 h3 tf h5 h6 X.2.2.2.1 K.1 hw.1 (wld_D hw.2.2) hw.2.1 i (wld_at hs) h1 k h2 (X.2.2.2.2 _ h4) (fun _ h9 => h9) h7 hin h8 h9 hn hf hl hdg (fun H1 locs1 hP hD hS => kk H1 locs1 ⟨?_, hS, hw.2.2⟩)
  rw [wld_set (k := k) (v := v) hs (show (.inr (ci, (ks.mapIdx (mk_f ad h i)).set k (.int v)) : va_E) = mk_v cI cZ ad (u2 h i k v) i (.inr (ci, ks)) by rw [mk_put hk v]; rfl)] at hP
  exact hP
theorem k_ret {S' : List sh_E} {ad' : Nat → Nat} {h' : HH} {n : Nat} {f : Nat → Nat} (X : CallFix p m c cc nL s args TB own) (hr : meth.sig.returnType = none) (hk : meth.locks = false) (hw : Hw D cI cZ base ad' s S' h' H locs) (he : ad' = ext ad n f) (hdg : decode cc pc = .ok (.return_, 1)) : W p l e R s m args below meth c H locs cells slots (MQ below (fun _ st oc t => (∃ f : Nat → Nat, oc = .returned none ∧ va_P D vwCl (wld S' cI cZ (ext ad n f) h') t.heap ∧ AdOk base (ext ad n f) S'.length) ∧ va_F (fun q => base ≤ q) st t) args s cells slots (fun q => base ≤ q)) (F0 m pc ls []) := by
  subst he
  exact W.vret X.1 X.2.1 hr (fun t ht hW => ⟨⟨f, rfl, by rw [ht]; exact hw.1, hw.2.2⟩, hw.2.1.F ht⟩) hw.2.1.2.2 hdg hk
theorem ext_ext (ad : Nat → Nat) {n n' : Nat} (hn : n ≤ n') (f g : Nat → Nat) : ext (ext ad n f) n' g = ext ad n (ext f n' g) := by
  funext j
  unfold ext
  by_cases h1 : j < n
  · have : j < n' := by omega
    simp [h1, this]
  · by_cases h2 : j < n' <;> simp [h1, h2]
theorem Cn.of {l : Launch} {y : MethodName} {bytes : ByteArray} {maxL d lw mc ms : Nat} {avs : List Value} {S' : List sh_E} {h' : HH} (hy : plainName y.cls = true) (hn : y.name = "<init>") (hav : (lg_sl avs).length ≤ maxL) (hcat : ∀ v ∈ avs, v.category = 1)
    (body : ∀ (p : Program) (e : Env) (s : State) (m : MethodId) (args : Array Value) (below : List Frame) (meth : Method) (c : Code) (ls : Array Slot), CallFix p m c bytes maxL s args TB y.cls → KK D cI cZ s → meth.sig.returnType = none → meth.locks = false → meth.name = "<init>" → base ≤ s.heap.size → Lc ls maxL (avs.map some ++ List.replicate (maxL - avs.length) none) → Hw D cI cZ base ad s S h s.heap [] →
      W p l e { frames := d, cells := mc, slots := ms, locals := lw } s m args below meth c s.heap [] 0 0 (MQ below (fun _ st oc t => (∃ f : Nat → Nat, oc = .returned none ∧ va_P D vwCl (wld S' cI cZ (ext ad S.length f) h') t.heap ∧ AdOk base (ext ad S.length f) S'.length) ∧ va_F (fun q => base ≤ q) st t) args s mc ms (fun q => base ≤ q)) (F0 m 0 ls [])) : Cn l D cI cZ base y bytes maxL d lw mc ms avs ad S h S' h' := by
  refine Met.ofW (cc := bytes) (maxL := maxL) (ret := none) hy rfl ?_
  intro p e s m args below meth c s₁ B hml hv
  obtain ⟨rfl, hP, hK, hA, hB⟩ := hv
  have hts := atoms_spec (ws := Cond.code y bytes maxL none :: TB) B.pre
  have hl := lv_entry avs (n := maxL) hav
  rw [lg_entry_eq]
  generalize (lg_sl avs ++ List.replicate (maxL - (lg_sl avs).length) Slot.unset).toArray = ls at hl ⊢
  refine body p e s m _ below meth c ls ⟨B.exec, B.bytes, hml, findClass_of_methodNamed B.named, fun w hw => hts w (List.mem_cons_of_mem _ hw)⟩ hK B.returns B.notSynchronized ?_ hB (Lc_entry hcat hl) ⟨hP, va_S.rf, hA⟩
  rw [← hn]
  exact (name_of_methodNamed B.named B.method).1
theorem k_ctor (X : CallFix p m c cc nL s args TB own) (K : KK D cI cZ s) (hw : Hw D cI cZ base ad s S h H locs) (hb : base ≤ s.heap.size) (hl : ls.size = nL) {idx : Nat} {y : MethodName} {bytes : ByteArray} {maxL n d lw mc ms : Nat} (M : MF own idx y bytes maxL none n ∧ y.name = "<init>" ∧ Cond.instanceMethod y ∈ TB) {b : Nat} {As : List Value} {S' : List sh_E} {h' : HH} (hC : Cn l D cI cZ base y bytes maxL d lw mc ms (.ref b :: As) ad S h S' h')
    (hR : d + 1 ≤ R.frames ∧ 8 + (maxL + 11) + lw ≤ R.locals) (hcs : cells + mc ≤ R.cells ∧ slots + ms ≤ R.slots) (hn : As.length = n) {st0 : List Value} (hst : st0 = As.reverse ++ .ref b :: rest) (hrm : (rest.map fun v => v.category).sum ≤ 8) (hdg : decode cc pc = .ok (.invokespecial idx, 3))
    (kk : ∀ (f : Nat → Nat) (H1 : Heap) (locs1 : List Loc), Hw D cI cZ base (ext ad S.length f) s S' h' H1 locs1 → W p l e R s m args below meth c H1 locs1 (cells + mc) (slots + ms) Q (F0 m (pc + 3) ls rest)) : W p l e R s m args below meth c H locs cells slots Q (F0 m pc ls st0) := by
  obtain ⟨⟨m1, m2, m3, m4⟩, m5, m6⟩ := M
  have hts := X.2.2.2.2
  have hr := va_runI (cells := cells) (slots := slots) (locs := locs) (below := below) (meth := meth) (e := e) (R := R) (b := b) (As := As) (rest := rest) (g := F0 m pc ls st0) X hC ⟨callB_of n hts (good_code m2) rfl rfl rfl (hts _ m3) (hts _ m1) m4 hR, m5, hts _ m6⟩ ⟨fun a U g mk q => ⟨q.1, q.2.1, ⟨va_K.moved (u := U) (U := U.calling g mk a) (Vm.Alike.refl U.vm) q.2.2.1.1, va_Nw.same rfl rfl q.2.2.1.2⟩, q.2.2.2⟩, fun U hU hW => ⟨rfl, by rw [hU]; exact hw.1, KK.moved hW K, hw.2.2, by rw [hU]; exact Nat.le_trans hb hw.2.1.1⟩⟩ rfl hn hl hst (lv_room hrm) hdg hcs
  intro T hT X1
  obtain ⟨v, st₀, t, T', L, h0, X', hL, e1, e2, ⟨⟨f, hv, hP1, hA1⟩, hz, hk⟩, st⟩ := hr T hT X1
  cases hv
  rw [h0] at hz hk
  obtain ⟨t2, a1, b1⟩ := kk f T'.heap (locs ++ L) ⟨by rw [e1]; exact hP1, ⟨Nat.le_trans hw.2.1.1 (by rw [e1]; exact hz), fun q h1 h2 => by rw [e1, hk q (Nat.lt_of_lt_of_le h1 hw.2.1.1) h2]; exact hw.2.1.2.1 q h1 h2, fun q hq => by
      rcases List.mem_append.mp hq with h | h
      · exact hw.2.1.2.2 q h
      · exact hL q h⟩, hA1⟩ T' rfl X'
  exact ⟨t2, st t2 a1, b1⟩
end CROWS
end
section
theorem nf_W_7 : NF R_W 7 0 5 [1, 1, 1, 0, 0] := ⟨R_V, T_V, ty_V, rfl, inT_V, tyok_V, TBi 9 (by decide +kernel) (by decide +kernel), TBi 10 (by decide +kernel) (by decide +kernel), TBi 1 (by decide +kernel) (by decide +kernel), by decide +kernel⟩
theorem mf_W_9 : MF R_W 9 y_V_init b_V_init 1 none 0 ∧ y_V_init.name = "<init>" ∧ Cond.instanceMethod y_V_init ∈ TB := ⟨⟨TBi 11 (by decide +kernel) (by decide +kernel), TBi 13 (by decide +kernel) (by decide +kernel), TBi 1 (by decide +kernel) (by decide +kernel), by decide +kernel⟩, rfl, TBi 12 (by decide +kernel) (by decide +kernel)⟩
theorem nf_V_7 : NF R_V 7 1 17 [0, 1, 1, 1, 1, 0, 0, 0, 0, 0, 0, 0, 0, 0, 0, 0, 0] := ⟨R_N, T_N, ty_N, rfl, inT_N, tyok_N, TBi 17 (by decide +kernel) (by decide +kernel), TBi 18 (by decide +kernel) (by decide +kernel), TBi 2 (by decide +kernel) (by decide +kernel), by decide +kernel⟩
theorem mf_V_9 : MF R_V 9 y_N_init b_N_init 2 none 1 ∧ y_N_init.name = "<init>" ∧ Cond.instanceMethod y_N_init ∈ TB := ⟨⟨TBi 19 (by decide +kernel) (by decide +kernel), TBi 21 (by decide +kernel) (by decide +kernel), TBi 2 (by decide +kernel) (by decide +kernel), by decide +kernel⟩, rfl, TBi 20 (by decide +kernel) (by decide +kernel)⟩
theorem nf_N_19 : NF R_N 19 2 2 [1, 0] := ⟨R_E, T_E, ty_E, rfl, inT_E, tyok_E, TBi 23 (by decide +kernel) (by decide +kernel), TBi 24 (by decide +kernel) (by decide +kernel), TBi 3 (by decide +kernel) (by decide +kernel), by decide +kernel⟩
theorem mf_N_21 : MF R_N 21 y_E_init b_E_init 1 none 0 ∧ y_E_init.name = "<init>" ∧ Cond.instanceMethod y_E_init ∈ TB := ⟨⟨TBi 25 (by decide +kernel) (by decide +kernel), TBi 27 (by decide +kernel) (by decide +kernel), TBi 3 (by decide +kernel) (by decide +kernel), by decide +kernel⟩, rfl, TBi 26 (by decide +kernel) (by decide +kernel)⟩
theorem fg_E_9 : FG R_E 9 2 0 := ⟨R_E, T_E, 2, rfl, by decide, inT_E, TBi 29 (by decide +kernel) (by decide +kernel)⟩
theorem fr_E_9 : FR R_E 9 2 0 (.array .int) := ⟨R_E, T_E, 2, ty_E, rfl, by decide, inT_E, TBi 29 (by decide +kernel) (by decide +kernel), tyok_E, nm_E, rfl, rfl, by decide +kernel⟩
theorem fg_E_15 : FG R_E 15 2 1 := ⟨R_E, T_E, 2, rfl, by decide, inT_E, TBi 30 (by decide +kernel) (by decide +kernel)⟩
theorem fp_E_15 : FP R_E 15 2 1 .int := ⟨R_E, T_E, 2, ty_E, rfl, by decide, inT_E, TBi 30 (by decide +kernel) (by decide +kernel), tyok_E, nm_E, rfl, by decide +kernel⟩
theorem ka_int : Cond.arrayClass .int ∈ TB := TBi 36 (by decide +kernel) (by decide +kernel)
theorem nf_N_26 : NF R_N 26 3 5 [1, 1, 1, 0, 0] := ⟨R_O, T_O, ty_O, rfl, inT_O, tyok_O, TBi 37 (by decide +kernel) (by decide +kernel), TBi 38 (by decide +kernel) (by decide +kernel), TBi 4 (by decide +kernel) (by decide +kernel), by decide +kernel⟩
theorem mf_N_28 : MF R_N 28 y_O_init b_O_init 1 none 0 ∧ y_O_init.name = "<init>" ∧ Cond.instanceMethod y_O_init ∈ TB := ⟨⟨TBi 39 (by decide +kernel) (by decide +kernel), TBi 41 (by decide +kernel) (by decide +kernel), TBi 4 (by decide +kernel) (by decide +kernel), by decide +kernel⟩, rfl, TBi 40 (by decide +kernel) (by decide +kernel)⟩
theorem fg_O_9 : FG R_O 9 3 0 := ⟨R_O, T_O, 5, rfl, by decide, inT_O, TBi 43 (by decide +kernel) (by decide +kernel)⟩
theorem fr_O_9 : FR R_O 9 3 0 (.array .int) := ⟨R_O, T_O, 5, ty_O, rfl, by decide, inT_O, TBi 43 (by decide +kernel) (by decide +kernel), tyok_O, nm_O, rfl, rfl, by decide +kernel⟩
theorem fg_O_15 : FG R_O 15 3 1 := ⟨R_O, T_O, 5, rfl, by decide, inT_O, TBi 44 (by decide +kernel) (by decide +kernel)⟩
theorem fr_O_15 : FR R_O 15 3 1 (.array .int) := ⟨R_O, T_O, 5, ty_O, rfl, by decide, inT_O, TBi 44 (by decide +kernel) (by decide +kernel), tyok_O, nm_O, rfl, rfl, by decide +kernel⟩
theorem fg_O_18 : FG R_O 18 3 2 := ⟨R_O, T_O, 5, rfl, by decide, inT_O, TBi 45 (by decide +kernel) (by decide +kernel)⟩
theorem fr_O_18 : FR R_O 18 3 2 (.array .int) := ⟨R_O, T_O, 5, ty_O, rfl, by decide, inT_O, TBi 45 (by decide +kernel) (by decide +kernel), tyok_O, nm_O, rfl, rfl, by decide +kernel⟩
theorem fg_O_25 : FG R_O 25 3 3 := ⟨R_O, T_O, 5, rfl, by decide, inT_O, TBi 46 (by decide +kernel) (by decide +kernel)⟩
theorem fp_O_25 : FP R_O 25 3 3 .int := ⟨R_O, T_O, 5, ty_O, rfl, by decide, inT_O, TBi 46 (by decide +kernel) (by decide +kernel), tyok_O, nm_O, rfl, by decide +kernel⟩
theorem fg_O_21 : FG R_O 21 3 4 := ⟨R_O, T_O, 5, rfl, by decide, inT_O, TBi 47 (by decide +kernel) (by decide +kernel)⟩
theorem fp_O_21 : FP R_O 21 3 4 .int := ⟨R_O, T_O, 5, ty_O, rfl, by decide, inT_O, TBi 47 (by decide +kernel) (by decide +kernel), tyok_O, nm_O, rfl, by decide +kernel⟩
theorem fg_N_68 : FG R_N 68 3 4 := ⟨R_O, T_O, 5, rfl, by decide, inT_O, TBi 48 (by decide +kernel) (by decide +kernel)⟩
theorem fp_N_68 : FP R_N 68 3 4 .int := ⟨R_O, T_O, 5, ty_O, rfl, by decide, inT_O, TBi 48 (by decide +kernel) (by decide +kernel), tyok_O, nm_O, rfl, by decide +kernel⟩
theorem fg_V_110 : FG R_V 110 3 4 := ⟨R_O, T_O, 5, rfl, by decide, inT_O, TBi 49 (by decide +kernel) (by decide +kernel)⟩
theorem fp_V_110 : FP R_V 110 3 4 .int := ⟨R_O, T_O, 5, ty_O, rfl, by decide, inT_O, TBi 49 (by decide +kernel) (by decide +kernel), tyok_O, nm_O, rfl, by decide +kernel⟩
theorem nf_N_33 : NF R_N 33 4 2 [1, 0] := ⟨R_L, T_L, ty_L, rfl, inT_L, tyok_L, TBi 61 (by decide +kernel) (by decide +kernel), TBi 62 (by decide +kernel) (by decide +kernel), TBi 5 (by decide +kernel) (by decide +kernel), by decide +kernel⟩
theorem mf_N_35 : MF R_N 35 y_L_init b_L_init 1 none 0 ∧ y_L_init.name = "<init>" ∧ Cond.instanceMethod y_L_init ∈ TB := ⟨⟨TBi 63 (by decide +kernel) (by decide +kernel), TBi 65 (by decide +kernel) (by decide +kernel), TBi 5 (by decide +kernel) (by decide +kernel), by decide +kernel⟩, rfl, TBi 64 (by decide +kernel) (by decide +kernel)⟩
theorem fg_L_9 : FG R_L 9 4 0 := ⟨R_L, T_L, 2, rfl, by decide, inT_L, TBi 67 (by decide +kernel) (by decide +kernel)⟩
theorem fr_L_9 : FR R_L 9 4 0 (.array .int) := ⟨R_L, T_L, 2, ty_L, rfl, by decide, inT_L, TBi 67 (by decide +kernel) (by decide +kernel), tyok_L, nm_L, rfl, rfl, by decide +kernel⟩
theorem fg_L_15 : FG R_L 15 4 1 := ⟨R_L, T_L, 2, rfl, by decide, inT_L, TBi 68 (by decide +kernel) (by decide +kernel)⟩
theorem fp_L_15 : FP R_L 15 4 1 .int := ⟨R_L, T_L, 2, ty_L, rfl, by decide, inT_L, TBi 68 (by decide +kernel) (by decide +kernel), tyok_L, nm_L, rfl, by decide +kernel⟩
theorem fg_N_71 : FG R_N 71 4 1 := ⟨R_L, T_L, 2, rfl, by decide, inT_L, TBi 69 (by decide +kernel) (by decide +kernel)⟩
theorem fp_N_71 : FP R_N 71 4 1 .int := ⟨R_L, T_L, 2, ty_L, rfl, by decide, inT_L, TBi 69 (by decide +kernel) (by decide +kernel), tyok_L, nm_L, rfl, by decide +kernel⟩
theorem fg_V_137 : FG R_V 137 4 1 := ⟨R_L, T_L, 2, rfl, by decide, inT_L, TBi 70 (by decide +kernel) (by decide +kernel)⟩
theorem fp_V_137 : FP R_V 137 4 1 .int := ⟨R_L, T_L, 2, ty_L, rfl, by decide, inT_L, TBi 70 (by decide +kernel) (by decide +kernel), tyok_L, nm_L, rfl, by decide +kernel⟩
theorem fg_N_9 : FG R_N 9 1 0 := ⟨R_N, T_N, 17, rfl, by decide, inT_N, TBi 76 (by decide +kernel) (by decide +kernel)⟩
theorem fr_N_9 : FR R_N 9 1 0 (.int) := ⟨R_N, T_N, 17, ty_N, rfl, by decide, inT_N, TBi 76 (by decide +kernel) (by decide +kernel), tyok_N, nm_N, rfl, rfl, by decide +kernel⟩
theorem fg_V_232 : FG R_V 232 1 0 := ⟨R_N, T_N, 17, rfl, by decide, inT_N, TBi 77 (by decide +kernel) (by decide +kernel)⟩
theorem fg_N_15 : FG R_N 15 1 1 := ⟨R_N, T_N, 17, rfl, by decide, inT_N, TBi 78 (by decide +kernel) (by decide +kernel)⟩
theorem fr_N_15 : FR R_N 15 1 1 (.array .int) := ⟨R_N, T_N, 17, ty_N, rfl, by decide, inT_N, TBi 78 (by decide +kernel) (by decide +kernel), tyok_N, nm_N, rfl, rfl, by decide +kernel⟩
theorem fg_V_78 : FG R_V 78 1 1 := ⟨R_N, T_N, 17, rfl, by decide, inT_N, TBi 79 (by decide +kernel) (by decide +kernel)⟩
theorem fg_N_22 : FG R_N 22 1 2 := ⟨R_N, T_N, 17, rfl, by decide, inT_N, TBi 80 (by decide +kernel) (by decide +kernel)⟩
theorem fr_N_22 : FR R_N 22 1 2 (.object "TwinVolume$ExtentLog") := ⟨R_N, T_N, 17, ty_N, rfl, by decide, inT_N, TBi 80 (by decide +kernel) (by decide +kernel), tyok_N, nm_N, rfl, rfl, by decide +kernel⟩
theorem fg_V_64 : FG R_V 64 1 2 := ⟨R_N, T_N, 17, rfl, by decide, inT_N, TBi 81 (by decide +kernel) (by decide +kernel)⟩
theorem fg_N_29 : FG R_N 29 1 3 := ⟨R_N, T_N, 17, rfl, by decide, inT_N, TBi 82 (by decide +kernel) (by decide +kernel)⟩
theorem fr_N_29 : FR R_N 29 1 3 (.object "TwinVolume$Outbox") := ⟨R_N, T_N, 17, ty_N, rfl, by decide, inT_N, TBi 82 (by decide +kernel) (by decide +kernel), tyok_N, nm_N, rfl, rfl, by decide +kernel⟩
theorem fg_V_94 : FG R_V 94 1 3 := ⟨R_N, T_N, 17, rfl, by decide, inT_N, TBi 83 (by decide +kernel) (by decide +kernel)⟩
theorem fg_N_36 : FG R_N 36 1 4 := ⟨R_N, T_N, 17, rfl, by decide, inT_N, TBi 84 (by decide +kernel) (by decide +kernel)⟩
theorem fr_N_36 : FR R_N 36 1 4 (.object "TwinVolume$WaitingList") := ⟨R_N, T_N, 17, ty_N, rfl, by decide, inT_N, TBi 84 (by decide +kernel) (by decide +kernel), tyok_N, nm_N, rfl, rfl, by decide +kernel⟩
theorem fg_V_133 : FG R_V 133 1 4 := ⟨R_N, T_N, 17, rfl, by decide, inT_N, TBi 85 (by decide +kernel) (by decide +kernel)⟩
theorem fg_N_62 : FG R_N 62 1 5 := ⟨R_N, T_N, 17, rfl, by decide, inT_N, TBi 86 (by decide +kernel) (by decide +kernel)⟩
theorem fp_N_62 : FP R_N 62 1 5 .int := ⟨R_N, T_N, 17, ty_N, rfl, by decide, inT_N, TBi 86 (by decide +kernel) (by decide +kernel), tyok_N, nm_N, rfl, by decide +kernel⟩
theorem fg_V_166 : FG R_V 166 1 5 := ⟨R_N, T_N, 17, rfl, by decide, inT_N, TBi 87 (by decide +kernel) (by decide +kernel)⟩
theorem fp_V_166 : FP R_V 166 1 5 .int := ⟨R_N, T_N, 17, ty_N, rfl, by decide, inT_N, TBi 87 (by decide +kernel) (by decide +kernel), tyok_N, nm_N, rfl, by decide +kernel⟩
theorem fg_N_40 : FG R_N 40 1 6 := ⟨R_N, T_N, 17, rfl, by decide, inT_N, TBi 88 (by decide +kernel) (by decide +kernel)⟩
theorem fp_N_40 : FP R_N 40 1 6 .int := ⟨R_N, T_N, 17, ty_N, rfl, by decide, inT_N, TBi 88 (by decide +kernel) (by decide +kernel), tyok_N, nm_N, rfl, by decide +kernel⟩
theorem fg_V_197 : FG R_V 197 1 6 := ⟨R_N, T_N, 17, rfl, by decide, inT_N, TBi 89 (by decide +kernel) (by decide +kernel)⟩
theorem fp_V_197 : FP R_V 197 1 6 .int := ⟨R_N, T_N, 17, ty_N, rfl, by decide, inT_N, TBi 89 (by decide +kernel) (by decide +kernel), tyok_N, nm_N, rfl, by decide +kernel⟩
theorem fg_N_65 : FG R_N 65 1 7 := ⟨R_N, T_N, 17, rfl, by decide, inT_N, TBi 90 (by decide +kernel) (by decide +kernel)⟩
theorem fp_N_65 : FP R_N 65 1 7 .int := ⟨R_N, T_N, 17, ty_N, rfl, by decide, inT_N, TBi 90 (by decide +kernel) (by decide +kernel), tyok_N, nm_N, rfl, by decide +kernel⟩
theorem fg_V_200 : FG R_V 200 1 7 := ⟨R_N, T_N, 17, rfl, by decide, inT_N, TBi 91 (by decide +kernel) (by decide +kernel)⟩
theorem fp_V_200 : FP R_V 200 1 7 .int := ⟨R_N, T_N, 17, ty_N, rfl, by decide, inT_N, TBi 91 (by decide +kernel) (by decide +kernel), tyok_N, nm_N, rfl, by decide +kernel⟩
theorem fg_N_56 : FG R_N 56 1 8 := ⟨R_N, T_N, 17, rfl, by decide, inT_N, TBi 92 (by decide +kernel) (by decide +kernel)⟩
theorem fp_N_56 : FP R_N 56 1 8 .boolean := ⟨R_N, T_N, 17, ty_N, rfl, by decide, inT_N, TBi 92 (by decide +kernel) (by decide +kernel), tyok_N, nm_N, rfl, by decide +kernel⟩
theorem fg_V_194 : FG R_V 194 1 8 := ⟨R_N, T_N, 17, rfl, by decide, inT_N, TBi 93 (by decide +kernel) (by decide +kernel)⟩
theorem fp_V_194 : FP R_V 194 1 8 .boolean := ⟨R_N, T_N, 17, ty_N, rfl, by decide, inT_N, TBi 93 (by decide +kernel) (by decide +kernel), tyok_N, nm_N, rfl, by decide +kernel⟩
theorem fg_N_59 : FG R_N 59 1 9 := ⟨R_N, T_N, 17, rfl, by decide, inT_N, TBi 94 (by decide +kernel) (by decide +kernel)⟩
theorem fp_N_59 : FP R_N 59 1 9 .boolean := ⟨R_N, T_N, 17, ty_N, rfl, by decide, inT_N, TBi 94 (by decide +kernel) (by decide +kernel), tyok_N, nm_N, rfl, by decide +kernel⟩
theorem fg_V_188 : FG R_V 188 1 9 := ⟨R_N, T_N, 17, rfl, by decide, inT_N, TBi 95 (by decide +kernel) (by decide +kernel)⟩
theorem fp_V_188 : FP R_V 188 1 9 .boolean := ⟨R_N, T_N, 17, ty_N, rfl, by decide, inT_N, TBi 95 (by decide +kernel) (by decide +kernel), tyok_N, nm_N, rfl, by decide +kernel⟩
theorem fg_N_43 : FG R_N 43 1 10 := ⟨R_N, T_N, 17, rfl, by decide, inT_N, TBi 96 (by decide +kernel) (by decide +kernel)⟩
theorem fp_N_43 : FP R_N 43 1 10 .boolean := ⟨R_N, T_N, 17, ty_N, rfl, by decide, inT_N, TBi 96 (by decide +kernel) (by decide +kernel), tyok_N, nm_N, rfl, by decide +kernel⟩
theorem fg_V_47 : FG R_V 47 1 10 := ⟨R_N, T_N, 17, rfl, by decide, inT_N, TBi 97 (by decide +kernel) (by decide +kernel)⟩
theorem fp_V_47 : FP R_V 47 1 10 .boolean := ⟨R_N, T_N, 17, ty_N, rfl, by decide, inT_N, TBi 97 (by decide +kernel) (by decide +kernel), tyok_N, nm_N, rfl, by decide +kernel⟩
theorem fg_V_50 : FG R_V 50 1 11 := ⟨R_N, T_N, 17, rfl, by decide, inT_N, TBi 98 (by decide +kernel) (by decide +kernel)⟩
theorem fp_V_50 : FP R_V 50 1 11 .boolean := ⟨R_N, T_N, 17, ty_N, rfl, by decide, inT_N, TBi 98 (by decide +kernel) (by decide +kernel), tyok_N, nm_N, rfl, by decide +kernel⟩
theorem fg_N_75 : FG R_N 75 1 12 := ⟨R_N, T_N, 17, rfl, by decide, inT_N, TBi 99 (by decide +kernel) (by decide +kernel)⟩
theorem fp_N_75 : FP R_N 75 1 12 .boolean := ⟨R_N, T_N, 17, ty_N, rfl, by decide, inT_N, TBi 99 (by decide +kernel) (by decide +kernel), tyok_N, nm_N, rfl, by decide +kernel⟩
theorem fg_V_155 : FG R_V 155 1 12 := ⟨R_N, T_N, 17, rfl, by decide, inT_N, TBi 100 (by decide +kernel) (by decide +kernel)⟩
theorem fp_V_155 : FP R_V 155 1 12 .boolean := ⟨R_N, T_N, 17, ty_N, rfl, by decide, inT_N, TBi 100 (by decide +kernel) (by decide +kernel), tyok_N, nm_N, rfl, by decide +kernel⟩
theorem fg_N_53 : FG R_N 53 1 13 := ⟨R_N, T_N, 17, rfl, by decide, inT_N, TBi 101 (by decide +kernel) (by decide +kernel)⟩
theorem fp_N_53 : FP R_N 53 1 13 .boolean := ⟨R_N, T_N, 17, ty_N, rfl, by decide, inT_N, TBi 101 (by decide +kernel) (by decide +kernel), tyok_N, nm_N, rfl, by decide +kernel⟩
theorem fg_V_209 : FG R_V 209 1 13 := ⟨R_N, T_N, 17, rfl, by decide, inT_N, TBi 102 (by decide +kernel) (by decide +kernel)⟩
theorem fp_V_209 : FP R_V 209 1 13 .boolean := ⟨R_N, T_N, 17, ty_N, rfl, by decide, inT_N, TBi 102 (by decide +kernel) (by decide +kernel), tyok_N, nm_N, rfl, by decide +kernel⟩
theorem fg_N_72 : FG R_N 72 1 14 := ⟨R_N, T_N, 17, rfl, by decide, inT_N, TBi 103 (by decide +kernel) (by decide +kernel)⟩
theorem fp_N_72 : FP R_N 72 1 14 .int := ⟨R_N, T_N, 17, ty_N, rfl, by decide, inT_N, TBi 103 (by decide +kernel) (by decide +kernel), tyok_N, nm_N, rfl, by decide +kernel⟩
theorem fg_V_158 : FG R_V 158 1 14 := ⟨R_N, T_N, 17, rfl, by decide, inT_N, TBi 104 (by decide +kernel) (by decide +kernel)⟩
theorem fp_V_158 : FP R_V 158 1 14 .int := ⟨R_N, T_N, 17, ty_N, rfl, by decide, inT_N, TBi 104 (by decide +kernel) (by decide +kernel), tyok_N, nm_N, rfl, by decide +kernel⟩
theorem fg_N_50 : FG R_N 50 1 15 := ⟨R_N, T_N, 17, rfl, by decide, inT_N, TBi 105 (by decide +kernel) (by decide +kernel)⟩
theorem fp_N_50 : FP R_N 50 1 15 .int := ⟨R_N, T_N, 17, ty_N, rfl, by decide, inT_N, TBi 105 (by decide +kernel) (by decide +kernel), tyok_N, nm_N, rfl, by decide +kernel⟩
theorem fg_N_47 : FG R_N 47 1 16 := ⟨R_N, T_N, 17, rfl, by decide, inT_N, TBi 106 (by decide +kernel) (by decide +kernel)⟩
theorem fp_N_47 : FP R_N 47 1 16 .boolean := ⟨R_N, T_N, 17, ty_N, rfl, by decide, inT_N, TBi 106 (by decide +kernel) (by decide +kernel), tyok_N, nm_N, rfl, by decide +kernel⟩
theorem fg_V_107 : FG R_V 107 1 16 := ⟨R_N, T_N, 17, rfl, by decide, inT_N, TBi 107 (by decide +kernel) (by decide +kernel)⟩
theorem fp_V_107 : FP R_V 107 1 16 .boolean := ⟨R_N, T_N, 17, ty_N, rfl, by decide, inT_N, TBi 107 (by decide +kernel) (by decide +kernel), tyok_N, nm_N, rfl, by decide +kernel⟩
theorem nf_V_21 : NF R_V 21 5 6 [1, 1, 1, 1, 1, 0] := ⟨R_T, T_T, ty_T, rfl, inT_T, tyok_T, TBi 143 (by decide +kernel) (by decide +kernel), TBi 144 (by decide +kernel) (by decide +kernel), TBi 6 (by decide +kernel) (by decide +kernel), by decide +kernel⟩
theorem mf_V_23 : MF R_V 23 y_T_init b_T_init 1 none 0 ∧ y_T_init.name = "<init>" ∧ Cond.instanceMethod y_T_init ∈ TB := ⟨⟨TBi 145 (by decide +kernel) (by decide +kernel), TBi 147 (by decide +kernel) (by decide +kernel), TBi 6 (by decide +kernel) (by decide +kernel), by decide +kernel⟩, rfl, TBi 146 (by decide +kernel) (by decide +kernel)⟩
theorem fg_T_9 : FG R_T 9 5 0 := ⟨R_T, T_T, 6, rfl, by decide, inT_T, TBi 149 (by decide +kernel) (by decide +kernel)⟩
theorem fr_T_9 : FR R_T 9 5 0 (.array .int) := ⟨R_T, T_T, 6, ty_T, rfl, by decide, inT_T, TBi 149 (by decide +kernel) (by decide +kernel), tyok_T, nm_T, rfl, rfl, by decide +kernel⟩
theorem fg_V_235 : FG R_V 235 5 0 := ⟨R_T, T_T, 6, rfl, by decide, inT_T, TBi 150 (by decide +kernel) (by decide +kernel)⟩
theorem fg_T_15 : FG R_T 15 5 1 := ⟨R_T, T_T, 6, rfl, by decide, inT_T, TBi 151 (by decide +kernel) (by decide +kernel)⟩
theorem fr_T_15 : FR R_T 15 5 1 (.array .int) := ⟨R_T, T_T, 6, ty_T, rfl, by decide, inT_T, TBi 151 (by decide +kernel) (by decide +kernel), tyok_T, nm_T, rfl, rfl, by decide +kernel⟩
theorem fg_V_149 : FG R_V 149 5 1 := ⟨R_T, T_T, 6, rfl, by decide, inT_T, TBi 152 (by decide +kernel) (by decide +kernel)⟩
theorem fg_T_18 : FG R_T 18 5 2 := ⟨R_T, T_T, 6, rfl, by decide, inT_T, TBi 153 (by decide +kernel) (by decide +kernel)⟩
theorem fr_T_18 : FR R_T 18 5 2 (.array .int) := ⟨R_T, T_T, 6, ty_T, rfl, by decide, inT_T, TBi 153 (by decide +kernel) (by decide +kernel), tyok_T, nm_T, rfl, rfl, by decide +kernel⟩
theorem fg_V_152 : FG R_V 152 5 2 := ⟨R_T, T_T, 6, rfl, by decide, inT_T, TBi 154 (by decide +kernel) (by decide +kernel)⟩
theorem fg_T_21 : FG R_T 21 5 3 := ⟨R_T, T_T, 6, rfl, by decide, inT_T, TBi 155 (by decide +kernel) (by decide +kernel)⟩
theorem fr_T_21 : FR R_T 21 5 3 (.array .int) := ⟨R_T, T_T, 6, ty_T, rfl, by decide, inT_T, TBi 155 (by decide +kernel) (by decide +kernel), tyok_T, nm_T, rfl, rfl, by decide +kernel⟩
theorem fg_V_143 : FG R_V 143 5 3 := ⟨R_T, T_T, 6, rfl, by decide, inT_T, TBi 156 (by decide +kernel) (by decide +kernel)⟩
theorem fg_T_24 : FG R_T 24 5 4 := ⟨R_T, T_T, 6, rfl, by decide, inT_T, TBi 157 (by decide +kernel) (by decide +kernel)⟩
theorem fr_T_24 : FR R_T 24 5 4 (.array .int) := ⟨R_T, T_T, 6, ty_T, rfl, by decide, inT_T, TBi 157 (by decide +kernel) (by decide +kernel), tyok_T, nm_T, rfl, rfl, by decide +kernel⟩
theorem fg_V_206 : FG R_V 206 5 4 := ⟨R_T, T_T, 6, rfl, by decide, inT_T, TBi 158 (by decide +kernel) (by decide +kernel)⟩
theorem fg_T_27 : FG R_T 27 5 5 := ⟨R_T, T_T, 6, rfl, by decide, inT_T, TBi 159 (by decide +kernel) (by decide +kernel)⟩
theorem fp_T_27 : FP R_T 27 5 5 .int := ⟨R_T, T_T, 6, ty_T, rfl, by decide, inT_T, TBi 159 (by decide +kernel) (by decide +kernel), tyok_T, nm_T, rfl, by decide +kernel⟩
theorem fg_V_241 : FG R_V 241 5 5 := ⟨R_T, T_T, 6, rfl, by decide, inT_T, TBi 160 (by decide +kernel) (by decide +kernel)⟩
theorem fp_V_241 : FP R_V 241 5 5 .int := ⟨R_T, T_T, 6, ty_T, rfl, by decide, inT_T, TBi 160 (by decide +kernel) (by decide +kernel), tyok_T, nm_T, rfl, by decide +kernel⟩
theorem fg_V_12 : FG R_V 12 0 0 := ⟨R_V, T_V, 5, rfl, by decide, inT_V, TBi 174 (by decide +kernel) (by decide +kernel)⟩
theorem fr_V_12 : FR R_V 12 0 0 (.object "TwinVolume$Node") := ⟨R_V, T_V, 5, ty_V, rfl, by decide, inT_V, TBi 174 (by decide +kernel) (by decide +kernel), tyok_V, nm_V, rfl, rfl, by decide +kernel⟩
theorem fg_V_18 : FG R_V 18 0 1 := ⟨R_V, T_V, 5, rfl, by decide, inT_V, TBi 175 (by decide +kernel) (by decide +kernel)⟩
theorem fr_V_18 : FR R_V 18 0 1 (.object "TwinVolume$Node") := ⟨R_V, T_V, 5, ty_V, rfl, by decide, inT_V, TBi 175 (by decide +kernel) (by decide +kernel), tyok_V, nm_V, rfl, rfl, by decide +kernel⟩
theorem fg_V_24 : FG R_V 24 0 2 := ⟨R_V, T_V, 5, rfl, by decide, inT_V, TBi 176 (by decide +kernel) (by decide +kernel)⟩
theorem fr_V_24 : FR R_V 24 0 2 (.object "TwinVolume$WriteTable") := ⟨R_V, T_V, 5, ty_V, rfl, by decide, inT_V, TBi 176 (by decide +kernel) (by decide +kernel), tyok_V, nm_V, rfl, rfl, by decide +kernel⟩
theorem fg_V_28 : FG R_V 28 0 3 := ⟨R_V, T_V, 5, rfl, by decide, inT_V, TBi 177 (by decide +kernel) (by decide +kernel)⟩
theorem fp_V_28 : FP R_V 28 0 3 .boolean := ⟨R_V, T_V, 5, ty_V, rfl, by decide, inT_V, TBi 177 (by decide +kernel) (by decide +kernel), tyok_V, nm_V, rfl, by decide +kernel⟩
theorem fg_V_32 : FG R_V 32 0 4 := ⟨R_V, T_V, 5, rfl, by decide, inT_V, TBi 178 (by decide +kernel) (by decide +kernel)⟩
theorem fp_V_32 : FP R_V 32 0 4 .int := ⟨R_V, T_V, 5, ty_V, rfl, by decide, inT_V, TBi 178 (by decide +kernel) (by decide +kernel), tyok_V, nm_V, rfl, by decide +kernel⟩
theorem mf_W_13 : MF R_W 13 y_V_write b_V_write 10 (some .int) 3 ∧ Cond.instanceMethod y_V_write ∈ TB ∧ Cond.selects y_V_write.cls y_V_write y_V_write ∈ TB := ⟨⟨TBi 190 (by decide +kernel) (by decide +kernel), TBi 193 (by decide +kernel) (by decide +kernel), TBi 1 (by decide +kernel) (by decide +kernel), by decide +kernel⟩, TBi 191 (by decide +kernel) (by decide +kernel), TBi 192 (by decide +kernel) (by decide +kernel)⟩
theorem mf_V_36 : MF R_V 36 y_V_isNode b_V_isNode 1 (some .boolean) 1 ∧ Cond.static y_V_isNode ∈ TB := ⟨⟨TBi 194 (by decide +kernel) (by decide +kernel), TBi 196 (by decide +kernel) (by decide +kernel), TBi 1 (by decide +kernel) (by decide +kernel), by decide +kernel⟩, TBi 195 (by decide +kernel) (by decide +kernel)⟩
theorem mf_V_40 : MF R_V 40 y_V_isBlock b_V_isBlock 1 (some .boolean) 1 ∧ Cond.static y_V_isBlock ∈ TB := ⟨⟨TBi 197 (by decide +kernel) (by decide +kernel), TBi 199 (by decide +kernel) (by decide +kernel), TBi 1 (by decide +kernel) (by decide +kernel), by decide +kernel⟩, TBi 198 (by decide +kernel) (by decide +kernel)⟩
theorem mf_V_43 : MF R_V 43 y_V_nodeOf b_V_nodeOf 2 (some (.object "TwinVolume$Node")) 1 ∧ Cond.instanceMethod y_V_nodeOf ∈ TB ∧ Cond.selects y_V_nodeOf.cls y_V_nodeOf y_V_nodeOf ∈ TB := ⟨⟨TBi 200 (by decide +kernel) (by decide +kernel), TBi 203 (by decide +kernel) (by decide +kernel), TBi 1 (by decide +kernel) (by decide +kernel), by decide +kernel⟩, TBi 202 (by decide +kernel) (by decide +kernel), TBs 0 (by decide +kernel) (by decide +kernel)⟩
theorem mf_V_53 : MF R_V 53 y_T_isFull b_T_isFull 1 (some .boolean) 0 ∧ Cond.instanceMethod y_T_isFull ∈ TB ∧ Cond.selects y_T_isFull.cls y_T_isFull y_T_isFull ∈ TB := ⟨⟨TBi 204 (by decide +kernel) (by decide +kernel), TBi 207 (by decide +kernel) (by decide +kernel), TBi 6 (by decide +kernel) (by decide +kernel), by decide +kernel⟩, TBi 205 (by decide +kernel) (by decide +kernel), TBi 206 (by decide +kernel) (by decide +kernel)⟩
theorem mf_V_57 : MF R_V 57 y_T_countPending b_T_countPending 4 (some .int) 1 ∧ Cond.instanceMethod y_T_countPending ∈ TB ∧ Cond.selects y_T_countPending.cls y_T_countPending y_T_countPending ∈ TB := ⟨⟨TBi 208 (by decide +kernel) (by decide +kernel), TBi 211 (by decide +kernel) (by decide +kernel), TBi 6 (by decide +kernel) (by decide +kernel), by decide +kernel⟩, TBi 209 (by decide +kernel) (by decide +kernel), TBi 210 (by decide +kernel) (by decide +kernel)⟩
theorem mf_T_35 : MF R_T 35 y_T_isPendingOf b_T_isPendingOf 3 (some .boolean) 2 ∧ Cond.instanceMethod y_T_isPendingOf ∈ TB ∧ Cond.selects y_T_isPendingOf.cls y_T_isPendingOf y_T_isPendingOf ∈ TB := ⟨⟨TBi 212 (by decide +kernel) (by decide +kernel), TBi 215 (by decide +kernel) (by decide +kernel), TBi 6 (by decide +kernel) (by decide +kernel), by decide +kernel⟩, TBi 214 (by decide +kernel) (by decide +kernel), TBs 1 (by decide +kernel) (by decide +kernel)⟩
theorem mf_V_61 : MF R_V 61 y_T_pendingBlocks b_T_pendingBlocks 4 (some .int) 1 ∧ Cond.instanceMethod y_T_pendingBlocks ∈ TB ∧ Cond.selects y_T_pendingBlocks.cls y_T_pendingBlocks y_T_pendingBlocks ∈ TB := ⟨⟨TBi 216 (by decide +kernel) (by decide +kernel), TBi 219 (by decide +kernel) (by decide +kernel), TBi 6 (by decide +kernel) (by decide +kernel), by decide +kernel⟩, TBi 217 (by decide +kernel) (by decide +kernel), TBi 218 (by decide +kernel) (by decide +kernel)⟩
theorem mf_V_68 : MF R_V 68 y_E_placeFor b_E_placeFor 4 (some .int) 2 ∧ Cond.instanceMethod y_E_placeFor ∈ TB ∧ Cond.selects y_E_placeFor.cls y_E_placeFor y_E_placeFor ∈ TB := ⟨⟨TBi 220 (by decide +kernel) (by decide +kernel), TBi 223 (by decide +kernel) (by decide +kernel), TBi 3 (by decide +kernel) (by decide +kernel), by decide +kernel⟩, TBi 221 (by decide +kernel) (by decide +kernel), TBi 222 (by decide +kernel) (by decide +kernel)⟩
theorem mf_E_19 : MN y_V_blocksOfExtent b_V_blocksOfExtent 1 (some .int) 1 ∧ Cond.static y_V_blocksOfExtent ∈ TB := ⟨⟨TBi 226 (by decide +kernel) (by decide +kernel), TBi 1 (by decide +kernel) (by decide +kernel), by decide +kernel⟩, TBi 225 (by decide +kernel) (by decide +kernel)⟩
theorem mf_V_74 : MF R_V 74 y_E_putInFront b_E_putInFront 4 none 2 ∧ Cond.instanceMethod y_E_putInFront ∈ TB ∧ Cond.selects y_E_putInFront.cls y_E_putInFront y_E_putInFront ∈ TB := ⟨⟨TBi 227 (by decide +kernel) (by decide +kernel), TBi 230 (by decide +kernel) (by decide +kernel), TBi 3 (by decide +kernel) (by decide +kernel), by decide +kernel⟩, TBi 228 (by decide +kernel) (by decide +kernel), TBi 229 (by decide +kernel) (by decide +kernel)⟩
theorem mf_V_82 : MF R_V 82 y_V_hasBlock b_V_hasBlock 2 (some .boolean) 2 ∧ Cond.static y_V_hasBlock ∈ TB := ⟨⟨TBi 231 (by decide +kernel) (by decide +kernel), TBi 233 (by decide +kernel) (by decide +kernel), TBi 1 (by decide +kernel) (by decide +kernel), by decide +kernel⟩, TBi 232 (by decide +kernel) (by decide +kernel)⟩
theorem mf_V_86 : MF R_V 86 y_N_epochOfNextWrite b_N_epochOfNextWrite 2 (some .int) 1 ∧ Cond.instanceMethod y_N_epochOfNextWrite ∈ TB ∧ Cond.selects y_N_epochOfNextWrite.cls y_N_epochOfNextWrite y_N_epochOfNextWrite ∈ TB := ⟨⟨TBi 234 (by decide +kernel) (by decide +kernel), TBi 237 (by decide +kernel) (by decide +kernel), TBi 2 (by decide +kernel) (by decide +kernel), by decide +kernel⟩, TBi 235 (by decide +kernel) (by decide +kernel), TBi 236 (by decide +kernel) (by decide +kernel)⟩
theorem mf_V_90 : MF R_V 90 y_T_accept b_T_accept 5 (some .int) 4 ∧ Cond.instanceMethod y_T_accept ∈ TB ∧ Cond.selects y_T_accept.cls y_T_accept y_T_accept ∈ TB := ⟨⟨TBi 238 (by decide +kernel) (by decide +kernel), TBi 241 (by decide +kernel) (by decide +kernel), TBi 6 (by decide +kernel) (by decide +kernel), by decide +kernel⟩, TBi 239 (by decide +kernel) (by decide +kernel), TBi 240 (by decide +kernel) (by decide +kernel)⟩
theorem mf_T_31 : MF R_T 31 y_T_isFull b_T_isFull 1 (some .boolean) 0 ∧ Cond.instanceMethod y_T_isFull ∈ TB ∧ Cond.selects y_T_isFull.cls y_T_isFull y_T_isFull ∈ TB := ⟨⟨TBi 242 (by decide +kernel) (by decide +kernel), TBi 207 (by decide +kernel) (by decide +kernel), TBi 6 (by decide +kernel) (by decide +kernel), by decide +kernel⟩, TBi 205 (by decide +kernel) (by decide +kernel), TBi 206 (by decide +kernel) (by decide +kernel)⟩
theorem mf_V_98 : MF R_V 98 y_O_send b_O_send 5 none 3 ∧ Cond.instanceMethod y_O_send ∈ TB ∧ Cond.selects y_O_send.cls y_O_send y_O_send ∈ TB := ⟨⟨TBi 243 (by decide +kernel) (by decide +kernel), TBi 246 (by decide +kernel) (by decide +kernel), TBi 4 (by decide +kernel) (by decide +kernel), by decide +kernel⟩, TBi 244 (by decide +kernel) (by decide +kernel), TBi 245 (by decide +kernel) (by decide +kernel)⟩
theorem mf_V_104 : MF R_V 104 y_V_endUpAlone b_V_endUpAlone 3 none 1 ∧ Cond.instanceMethod y_V_endUpAlone ∈ TB ∧ Cond.selects y_V_endUpAlone.cls y_V_endUpAlone y_V_endUpAlone ∈ TB := ⟨⟨TBi 247 (by decide +kernel) (by decide +kernel), TBi 250 (by decide +kernel) (by decide +kernel), TBi 1 (by decide +kernel) (by decide +kernel), by decide +kernel⟩, TBi 249 (by decide +kernel) (by decide +kernel), TBs 2 (by decide +kernel) (by decide +kernel)⟩
theorem mf_W_18 : MF R_W 18 y_V_barrier b_V_barrier 3 (some .boolean) 1 ∧ Cond.instanceMethod y_V_barrier ∈ TB ∧ Cond.selects y_V_barrier.cls y_V_barrier y_V_barrier ∈ TB := ⟨⟨TBi 251 (by decide +kernel) (by decide +kernel), TBi 254 (by decide +kernel) (by decide +kernel), TBi 1 (by decide +kernel) (by decide +kernel), by decide +kernel⟩, TBi 252 (by decide +kernel) (by decide +kernel), TBi 253 (by decide +kernel) (by decide +kernel)⟩
theorem mf_W_23 : MF R_W 23 y_V_deliver b_V_deliver 6 (some .int) 1 ∧ Cond.instanceMethod y_V_deliver ∈ TB ∧ Cond.selects y_V_deliver.cls y_V_deliver y_V_deliver ∈ TB := ⟨⟨TBi 255 (by decide +kernel) (by decide +kernel), TBi 258 (by decide +kernel) (by decide +kernel), TBi 1 (by decide +kernel) (by decide +kernel), by decide +kernel⟩, TBi 256 (by decide +kernel) (by decide +kernel), TBi 257 (by decide +kernel) (by decide +kernel)⟩
theorem mf_V_113 : MF R_V 113 y_O_kindOfFirst b_O_kindOfFirst 1 (some .int) 0 ∧ Cond.instanceMethod y_O_kindOfFirst ∈ TB ∧ Cond.selects y_O_kindOfFirst.cls y_O_kindOfFirst y_O_kindOfFirst ∈ TB := ⟨⟨TBi 259 (by decide +kernel) (by decide +kernel), TBi 262 (by decide +kernel) (by decide +kernel), TBi 4 (by decide +kernel) (by decide +kernel), by decide +kernel⟩, TBi 260 (by decide +kernel) (by decide +kernel), TBi 261 (by decide +kernel) (by decide +kernel)⟩
theorem mf_V_117 : MF R_V 117 y_O_subjectOfFirst b_O_subjectOfFirst 1 (some .int) 0 ∧ Cond.instanceMethod y_O_subjectOfFirst ∈ TB ∧ Cond.selects y_O_subjectOfFirst.cls y_O_subjectOfFirst y_O_subjectOfFirst ∈ TB := ⟨⟨TBi 263 (by decide +kernel) (by decide +kernel), TBi 266 (by decide +kernel) (by decide +kernel), TBi 4 (by decide +kernel) (by decide +kernel), by decide +kernel⟩, TBi 264 (by decide +kernel) (by decide +kernel), TBi 265 (by decide +kernel) (by decide +kernel)⟩
theorem mf_V_120 : MF R_V 120 y_O_valueOfFirst b_O_valueOfFirst 1 (some .int) 0 ∧ Cond.instanceMethod y_O_valueOfFirst ∈ TB ∧ Cond.selects y_O_valueOfFirst.cls y_O_valueOfFirst y_O_valueOfFirst ∈ TB := ⟨⟨TBi 267 (by decide +kernel) (by decide +kernel), TBi 270 (by decide +kernel) (by decide +kernel), TBi 4 (by decide +kernel) (by decide +kernel), by decide +kernel⟩, TBi 268 (by decide +kernel) (by decide +kernel), TBi 269 (by decide +kernel) (by decide +kernel)⟩
theorem mf_V_123 : MF R_V 123 y_O_dropFirst b_O_dropFirst 1 none 0 ∧ Cond.instanceMethod y_O_dropFirst ∈ TB ∧ Cond.selects y_O_dropFirst.cls y_O_dropFirst y_O_dropFirst ∈ TB := ⟨⟨TBi 271 (by decide +kernel) (by decide +kernel), TBi 274 (by decide +kernel) (by decide +kernel), TBi 4 (by decide +kernel) (by decide +kernel), by decide +kernel⟩, TBi 272 (by decide +kernel) (by decide +kernel), TBi 273 (by decide +kernel) (by decide +kernel)⟩
theorem mf_V_126 : MF R_V 126 y_V_peerOf b_V_peerOf 2 (some (.object "TwinVolume$Node")) 1 ∧ Cond.instanceMethod y_V_peerOf ∈ TB ∧ Cond.selects y_V_peerOf.cls y_V_peerOf y_V_peerOf ∈ TB := ⟨⟨TBi 275 (by decide +kernel) (by decide +kernel), TBi 278 (by decide +kernel) (by decide +kernel), TBi 1 (by decide +kernel) (by decide +kernel), by decide +kernel⟩, TBi 277 (by decide +kernel) (by decide +kernel), TBs 3 (by decide +kernel) (by decide +kernel)⟩
theorem mf_V_129 : MF R_V 129 y_V_arrive b_V_arrive 5 none 4 ∧ Cond.instanceMethod y_V_arrive ∈ TB ∧ Cond.selects y_V_arrive.cls y_V_arrive y_V_arrive ∈ TB := ⟨⟨TBi 279 (by decide +kernel) (by decide +kernel), TBi 282 (by decide +kernel) (by decide +kernel), TBi 1 (by decide +kernel) (by decide +kernel), by decide +kernel⟩, TBi 281 (by decide +kernel) (by decide +kernel), TBs 4 (by decide +kernel) (by decide +kernel)⟩
theorem mf_V_215 : MF R_V 215 y_L_add b_L_add 2 none 1 ∧ Cond.instanceMethod y_L_add ∈ TB ∧ Cond.selects y_L_add.cls y_L_add y_L_add ∈ TB := ⟨⟨TBi 283 (by decide +kernel) (by decide +kernel), TBi 286 (by decide +kernel) (by decide +kernel), TBi 5 (by decide +kernel) (by decide +kernel), by decide +kernel⟩, TBi 284 (by decide +kernel) (by decide +kernel), TBi 285 (by decide +kernel) (by decide +kernel)⟩
theorem mf_V_218 : MF R_V 218 y_V_takeAck b_V_takeAck 3 none 2 ∧ Cond.instanceMethod y_V_takeAck ∈ TB ∧ Cond.selects y_V_takeAck.cls y_V_takeAck y_V_takeAck ∈ TB := ⟨⟨TBi 287 (by decide +kernel) (by decide +kernel), TBi 290 (by decide +kernel) (by decide +kernel), TBi 1 (by decide +kernel) (by decide +kernel), by decide +kernel⟩, TBi 289 (by decide +kernel) (by decide +kernel), TBs 5 (by decide +kernel) (by decide +kernel)⟩
theorem mf_V_222 : MF R_V 222 y_V_takeFromMap b_V_takeFromMap 3 none 2 ∧ Cond.instanceMethod y_V_takeFromMap ∈ TB ∧ Cond.selects y_V_takeFromMap.cls y_V_takeFromMap y_V_takeFromMap ∈ TB := ⟨⟨TBi 291 (by decide +kernel) (by decide +kernel), TBi 294 (by decide +kernel) (by decide +kernel), TBi 1 (by decide +kernel) (by decide +kernel), by decide +kernel⟩, TBi 293 (by decide +kernel) (by decide +kernel), TBs 6 (by decide +kernel) (by decide +kernel)⟩
theorem mf_V_228 : MF R_V 228 y_V_end b_V_end 2 none 1 ∧ Cond.instanceMethod y_V_end ∈ TB ∧ Cond.selects y_V_end.cls y_V_end y_V_end ∈ TB := ⟨⟨TBi 295 (by decide +kernel) (by decide +kernel), TBi 298 (by decide +kernel) (by decide +kernel), TBi 1 (by decide +kernel) (by decide +kernel), by decide +kernel⟩, TBi 297 (by decide +kernel) (by decide +kernel), TBs 7 (by decide +kernel) (by decide +kernel)⟩
theorem mf_V_185 : MF R_V 185 y_T_changeFates b_T_changeFates 5 none 3 ∧ Cond.instanceMethod y_T_changeFates ∈ TB ∧ Cond.selects y_T_changeFates.cls y_T_changeFates y_T_changeFates ∈ TB := ⟨⟨TBi 299 (by decide +kernel) (by decide +kernel), TBi 302 (by decide +kernel) (by decide +kernel), TBi 6 (by decide +kernel) (by decide +kernel), by decide +kernel⟩, TBi 300 (by decide +kernel) (by decide +kernel), TBi 301 (by decide +kernel) (by decide +kernel)⟩
theorem mf_V_225 : MF R_V 225 y_N_takeFinish b_N_takeFinish 2 none 1 ∧ Cond.instanceMethod y_N_takeFinish ∈ TB ∧ Cond.selects y_N_takeFinish.cls y_N_takeFinish y_N_takeFinish ∈ TB := ⟨⟨TBi 303 (by decide +kernel) (by decide +kernel), TBi 306 (by decide +kernel) (by decide +kernel), TBi 2 (by decide +kernel) (by decide +kernel), by decide +kernel⟩, TBi 304 (by decide +kernel) (by decide +kernel), TBi 305 (by decide +kernel) (by decide +kernel)⟩
theorem mf_W_28 : MF R_W 28 y_V_store b_V_store 6 (some .int) 2 ∧ Cond.instanceMethod y_V_store ∈ TB ∧ Cond.selects y_V_store.cls y_V_store y_V_store ∈ TB := ⟨⟨TBi 307 (by decide +kernel) (by decide +kernel), TBi 310 (by decide +kernel) (by decide +kernel), TBi 1 (by decide +kernel) (by decide +kernel), by decide +kernel⟩, TBi 308 (by decide +kernel) (by decide +kernel), TBi 309 (by decide +kernel) (by decide +kernel)⟩
theorem mf_V_140 : MF R_V 140 y_L_numberAt b_L_numberAt 2 (some .int) 1 ∧ Cond.instanceMethod y_L_numberAt ∈ TB ∧ Cond.selects y_L_numberAt.cls y_L_numberAt y_L_numberAt ∈ TB := ⟨⟨TBi 311 (by decide +kernel) (by decide +kernel), TBi 314 (by decide +kernel) (by decide +kernel), TBi 5 (by decide +kernel) (by decide +kernel), by decide +kernel⟩, TBi 312 (by decide +kernel) (by decide +kernel), TBi 313 (by decide +kernel) (by decide +kernel)⟩
theorem mf_V_146 : MF R_V 146 y_L_remove b_L_remove 3 none 1 ∧ Cond.instanceMethod y_L_remove ∈ TB ∧ Cond.selects y_L_remove.cls y_L_remove y_L_remove ∈ TB := ⟨⟨TBi 315 (by decide +kernel) (by decide +kernel), TBi 318 (by decide +kernel) (by decide +kernel), TBi 5 (by decide +kernel) (by decide +kernel), by decide +kernel⟩, TBi 316 (by decide +kernel) (by decide +kernel), TBi 317 (by decide +kernel) (by decide +kernel)⟩
theorem mf_W_33 : MF R_W 33 y_V_copy b_V_copy 4 (some .int) 1 ∧ Cond.instanceMethod y_V_copy ∈ TB ∧ Cond.selects y_V_copy.cls y_V_copy y_V_copy ∈ TB := ⟨⟨TBi 319 (by decide +kernel) (by decide +kernel), TBi 322 (by decide +kernel) (by decide +kernel), TBi 1 (by decide +kernel) (by decide +kernel), by decide +kernel⟩, TBi 320 (by decide +kernel) (by decide +kernel), TBi 321 (by decide +kernel) (by decide +kernel)⟩
theorem mf_V_161 : MF R_V 161 y_I_bitCount b_I_bitCount 1 (some .int) 1 ∧ Cond.static y_I_bitCount ∈ TB := ⟨⟨TBi 323 (by decide +kernel) (by decide +kernel), TBi 325 (by decide +kernel) (by decide +kernel), TBi 8 (by decide +kernel) (by decide +kernel), by decide +kernel⟩, TBi 324 (by decide +kernel) (by decide +kernel)⟩
theorem kc_I_265 : Cond.constant R_I 265 1431655765 ∈ TB := TBi 326 (by decide +kernel) (by decide +kernel)
theorem kc_I_266 : Cond.constant R_I 266 858993459 ∈ TB := TBi 327 (by decide +kernel) (by decide +kernel)
theorem kc_I_267 : Cond.constant R_I 267 252645135 ∈ TB := TBi 328 (by decide +kernel) (by decide +kernel)
theorem mf_V_169 : MF R_V 169 y_V_leastBlock b_V_leastBlock 2 (some .int) 1 ∧ Cond.static y_V_leastBlock ∈ TB := ⟨⟨TBi 329 (by decide +kernel) (by decide +kernel), TBi 331 (by decide +kernel) (by decide +kernel), TBi 1 (by decide +kernel) (by decide +kernel), by decide +kernel⟩, TBi 330 (by decide +kernel) (by decide +kernel)⟩
theorem mf_W_37 : MF R_W 37 y_V_connect b_V_connect 2 (some .int) 0 ∧ Cond.instanceMethod y_V_connect ∈ TB ∧ Cond.selects y_V_connect.cls y_V_connect y_V_connect ∈ TB := ⟨⟨TBi 332 (by decide +kernel) (by decide +kernel), TBi 335 (by decide +kernel) (by decide +kernel), TBi 1 (by decide +kernel) (by decide +kernel), by decide +kernel⟩, TBi 333 (by decide +kernel) (by decide +kernel), TBi 334 (by decide +kernel) (by decide +kernel)⟩
theorem mf_V_172 : MF R_V 172 y_V_wentDifferentWays b_V_wentDifferentWays 1 (some .boolean) 0 ∧ Cond.instanceMethod y_V_wentDifferentWays ∈ TB ∧ Cond.selects y_V_wentDifferentWays.cls y_V_wentDifferentWays y_V_wentDifferentWays ∈ TB := ⟨⟨TBi 336 (by decide +kernel) (by decide +kernel), TBi 339 (by decide +kernel) (by decide +kernel), TBi 1 (by decide +kernel) (by decide +kernel), by decide +kernel⟩, TBi 338 (by decide +kernel) (by decide +kernel), TBs 8 (by decide +kernel) (by decide +kernel)⟩
theorem mf_V_175 : MF R_V 175 y_V_chooseSource b_V_chooseSource 1 (some .int) 0 ∧ Cond.instanceMethod y_V_chooseSource ∈ TB ∧ Cond.selects y_V_chooseSource.cls y_V_chooseSource y_V_chooseSource ∈ TB := ⟨⟨TBi 340 (by decide +kernel) (by decide +kernel), TBi 343 (by decide +kernel) (by decide +kernel), TBi 1 (by decide +kernel) (by decide +kernel), by decide +kernel⟩, TBi 342 (by decide +kernel) (by decide +kernel), TBs 9 (by decide +kernel) (by decide +kernel)⟩
theorem mf_V_178 : MF R_V 178 y_V_beginUpdate b_V_beginUpdate 4 none 2 ∧ Cond.instanceMethod y_V_beginUpdate ∈ TB ∧ Cond.selects y_V_beginUpdate.cls y_V_beginUpdate y_V_beginUpdate ∈ TB := ⟨⟨TBi 344 (by decide +kernel) (by decide +kernel), TBi 347 (by decide +kernel) (by decide +kernel), TBi 1 (by decide +kernel) (by decide +kernel), by decide +kernel⟩, TBi 346 (by decide +kernel) (by decide +kernel), TBs 10 (by decide +kernel) (by decide +kernel)⟩
theorem mf_W_42 : MF R_W 42 y_V_cut b_V_cut 1 (some .boolean) 0 ∧ Cond.instanceMethod y_V_cut ∈ TB ∧ Cond.selects y_V_cut.cls y_V_cut y_V_cut ∈ TB := ⟨⟨TBi 348 (by decide +kernel) (by decide +kernel), TBi 351 (by decide +kernel) (by decide +kernel), TBi 1 (by decide +kernel) (by decide +kernel), by decide +kernel⟩, TBi 349 (by decide +kernel) (by decide +kernel), TBi 350 (by decide +kernel) (by decide +kernel)⟩
theorem mf_V_182 : MF R_V 182 y_V_breakLink b_V_breakLink 2 none 0 ∧ Cond.instanceMethod y_V_breakLink ∈ TB ∧ Cond.selects y_V_breakLink.cls y_V_breakLink y_V_breakLink ∈ TB := ⟨⟨TBi 352 (by decide +kernel) (by decide +kernel), TBi 355 (by decide +kernel) (by decide +kernel), TBi 1 (by decide +kernel) (by decide +kernel), by decide +kernel⟩, TBi 354 (by decide +kernel) (by decide +kernel), TBs 11 (by decide +kernel) (by decide +kernel)⟩
theorem mf_V_238 : MF R_V 238 y_N_leaveLink b_N_leaveLink 1 none 0 ∧ Cond.instanceMethod y_N_leaveLink ∈ TB ∧ Cond.selects y_N_leaveLink.cls y_N_leaveLink y_N_leaveLink ∈ TB := ⟨⟨TBi 356 (by decide +kernel) (by decide +kernel), TBi 359 (by decide +kernel) (by decide +kernel), TBi 2 (by decide +kernel) (by decide +kernel), by decide +kernel⟩, TBi 357 (by decide +kernel) (by decide +kernel), TBi 358 (by decide +kernel) (by decide +kernel)⟩
theorem mf_W_47 : MF R_W 47 y_V_crash b_V_crash 3 (some .boolean) 1 ∧ Cond.instanceMethod y_V_crash ∈ TB ∧ Cond.selects y_V_crash.cls y_V_crash y_V_crash ∈ TB := ⟨⟨TBi 360 (by decide +kernel) (by decide +kernel), TBi 363 (by decide +kernel) (by decide +kernel), TBi 1 (by decide +kernel) (by decide +kernel), by decide +kernel⟩, TBi 361 (by decide +kernel) (by decide +kernel), TBi 362 (by decide +kernel) (by decide +kernel)⟩
theorem mf_W_51 : MF R_W 51 y_V_restart b_V_restart 3 (some .boolean) 1 ∧ Cond.instanceMethod y_V_restart ∈ TB ∧ Cond.selects y_V_restart.cls y_V_restart y_V_restart ∈ TB := ⟨⟨TBi 364 (by decide +kernel) (by decide +kernel), TBi 367 (by decide +kernel) (by decide +kernel), TBi 1 (by decide +kernel) (by decide +kernel), by decide +kernel⟩, TBi 365 (by decide +kernel) (by decide +kernel), TBi 366 (by decide +kernel) (by decide +kernel)⟩
theorem mf_V_191 : MF R_V 191 y_E_allBlocks b_E_allBlocks 3 (some .int) 0 ∧ Cond.instanceMethod y_E_allBlocks ∈ TB ∧ Cond.selects y_E_allBlocks.cls y_E_allBlocks y_E_allBlocks ∈ TB := ⟨⟨TBi 368 (by decide +kernel) (by decide +kernel), TBi 371 (by decide +kernel) (by decide +kernel), TBi 3 (by decide +kernel) (by decide +kernel), by decide +kernel⟩, TBi 369 (by decide +kernel) (by decide +kernel), TBi 370 (by decide +kernel) (by decide +kernel)⟩
theorem mf_W_55 : MF R_W 55 y_V_promote b_V_promote 3 (some .int) 1 ∧ Cond.instanceMethod y_V_promote ∈ TB ∧ Cond.selects y_V_promote.cls y_V_promote y_V_promote ∈ TB := ⟨⟨TBi 372 (by decide +kernel) (by decide +kernel), TBi 375 (by decide +kernel) (by decide +kernel), TBi 1 (by decide +kernel) (by decide +kernel), by decide +kernel⟩, TBi 373 (by decide +kernel) (by decide +kernel), TBi 374 (by decide +kernel) (by decide +kernel)⟩
theorem mf_W_59 : MF R_W 59 y_V_demote b_V_demote 3 (some .int) 1 ∧ Cond.instanceMethod y_V_demote ∈ TB ∧ Cond.selects y_V_demote.cls y_V_demote y_V_demote ∈ TB := ⟨⟨TBi 376 (by decide +kernel) (by decide +kernel), TBi 379 (by decide +kernel) (by decide +kernel), TBi 1 (by decide +kernel) (by decide +kernel), by decide +kernel⟩, TBi 377 (by decide +kernel) (by decide +kernel), TBi 378 (by decide +kernel) (by decide +kernel)⟩
theorem mf_W_63 : MF R_W 63 y_V_discard b_V_discard 3 (some .boolean) 1 ∧ Cond.instanceMethod y_V_discard ∈ TB ∧ Cond.selects y_V_discard.cls y_V_discard y_V_discard ∈ TB := ⟨⟨TBi 380 (by decide +kernel) (by decide +kernel), TBi 383 (by decide +kernel) (by decide +kernel), TBi 1 (by decide +kernel) (by decide +kernel), by decide +kernel⟩, TBi 381 (by decide +kernel) (by decide +kernel), TBi 382 (by decide +kernel) (by decide +kernel)⟩
theorem mf_W_67 : MF R_W 67 y_V_disk b_V_disk 3 (some .int) 2 ∧ Cond.instanceMethod y_V_disk ∈ TB ∧ Cond.selects y_V_disk.cls y_V_disk y_V_disk ∈ TB := ⟨⟨TBi 384 (by decide +kernel) (by decide +kernel), TBi 387 (by decide +kernel) (by decide +kernel), TBi 1 (by decide +kernel) (by decide +kernel), by decide +kernel⟩, TBi 385 (by decide +kernel) (by decide +kernel), TBi 386 (by decide +kernel) (by decide +kernel)⟩
theorem mf_W_71 : MF R_W 71 y_V_fate b_V_fate 2 (some .int) 1 ∧ Cond.instanceMethod y_V_fate ∈ TB ∧ Cond.selects y_V_fate.cls y_V_fate y_V_fate ∈ TB := ⟨⟨TBi 388 (by decide +kernel) (by decide +kernel), TBi 391 (by decide +kernel) (by decide +kernel), TBi 1 (by decide +kernel) (by decide +kernel), by decide +kernel⟩, TBi 389 (by decide +kernel) (by decide +kernel), TBi 390 (by decide +kernel) (by decide +kernel)⟩
theorem mf_V_203 : MF R_V 203 y_T_has b_T_has 2 (some .boolean) 1 ∧ Cond.instanceMethod y_T_has ∈ TB ∧ Cond.selects y_T_has.cls y_T_has y_T_has ∈ TB := ⟨⟨TBi 392 (by decide +kernel) (by decide +kernel), TBi 395 (by decide +kernel) (by decide +kernel), TBi 6 (by decide +kernel) (by decide +kernel), by decide +kernel⟩, TBi 393 (by decide +kernel) (by decide +kernel), TBi 394 (by decide +kernel) (by decide +kernel)⟩
theorem mf_W_75 : MF R_W 75 y_V_state b_V_state 4 (some .int) 1 ∧ Cond.instanceMethod y_V_state ∈ TB ∧ Cond.selects y_V_state.cls y_V_state y_V_state ∈ TB := ⟨⟨TBi 396 (by decide +kernel) (by decide +kernel), TBi 399 (by decide +kernel) (by decide +kernel), TBi 1 (by decide +kernel) (by decide +kernel), by decide +kernel⟩, TBi 397 (by decide +kernel) (by decide +kernel), TBi 398 (by decide +kernel) (by decide +kernel)⟩
theorem mf_W_79 : MF R_W 79 y_V_generation b_V_generation 2 (some .long) 1 ∧ Cond.instanceMethod y_V_generation ∈ TB ∧ Cond.selects y_V_generation.cls y_V_generation y_V_generation ∈ TB := ⟨⟨TBi 400 (by decide +kernel) (by decide +kernel), TBi 403 (by decide +kernel) (by decide +kernel), TBi 1 (by decide +kernel) (by decide +kernel), by decide +kernel⟩, TBi 401 (by decide +kernel) (by decide +kernel), TBi 402 (by decide +kernel) (by decide +kernel)⟩
theorem mf_W_84 : MF R_W 84 y_V_map b_V_map 2 (some .int) 1 ∧ Cond.instanceMethod y_V_map ∈ TB ∧ Cond.selects y_V_map.cls y_V_map y_V_map ∈ TB := ⟨⟨TBi 404 (by decide +kernel) (by decide +kernel), TBi 407 (by decide +kernel) (by decide +kernel), TBi 1 (by decide +kernel) (by decide +kernel), by decide +kernel⟩, TBi 405 (by decide +kernel) (by decide +kernel), TBi 406 (by decide +kernel) (by decide +kernel)⟩
theorem mf_W_88 : MF R_W 88 y_V_log b_V_log 3 (some .int) 2 ∧ Cond.instanceMethod y_V_log ∈ TB ∧ Cond.selects y_V_log.cls y_V_log y_V_log ∈ TB := ⟨⟨TBi 408 (by decide +kernel) (by decide +kernel), TBi 411 (by decide +kernel) (by decide +kernel), TBi 1 (by decide +kernel) (by decide +kernel), by decide +kernel⟩, TBi 409 (by decide +kernel) (by decide +kernel), TBi 410 (by decide +kernel) (by decide +kernel)⟩
theorem mf_V_212 : MF R_V 212 y_E_extentAt b_E_extentAt 2 (some .int) 1 ∧ Cond.instanceMethod y_E_extentAt ∈ TB ∧ Cond.selects y_E_extentAt.cls y_E_extentAt y_E_extentAt ∈ TB := ⟨⟨TBi 412 (by decide +kernel) (by decide +kernel), TBi 415 (by decide +kernel) (by decide +kernel), TBi 3 (by decide +kernel) (by decide +kernel), by decide +kernel⟩, TBi 413 (by decide +kernel) (by decide +kernel), TBi 414 (by decide +kernel) (by decide +kernel)⟩
theorem mf_W_92 : MF R_W 92 y_V_traffic b_V_traffic 3 (some .int) 1 ∧ Cond.instanceMethod y_V_traffic ∈ TB ∧ Cond.selects y_V_traffic.cls y_V_traffic y_V_traffic ∈ TB := ⟨⟨TBi 416 (by decide +kernel) (by decide +kernel), TBi 419 (by decide +kernel) (by decide +kernel), TBi 1 (by decide +kernel) (by decide +kernel), by decide +kernel⟩, TBi 417 (by decide +kernel) (by decide +kernel), TBi 418 (by decide +kernel) (by decide +kernel)⟩
theorem nf_W_10 : NF R_W 10 6 28 [0, 1, 1, 1, 1, 1, 1, 1, 1, 1, 1, 0, 1, 1, 0, 1, 1, 1, 1, 1, 1, 1, 1, 0, 1, 1, 1, 1] := ⟨R_M, T_M, ty_M, rfl, inT_M, tyok_M, TBi 420 (by decide +kernel) (by decide +kernel), TBi 421 (by decide +kernel) (by decide +kernel), TBi 7 (by decide +kernel) (by decide +kernel), by decide +kernel⟩
theorem mf_W_12 : MF R_W 12 y_M_init b_M_init 2 none 0 ∧ y_M_init.name = "<init>" ∧ Cond.instanceMethod y_M_init ∈ TB := ⟨⟨TBi 422 (by decide +kernel) (by decide +kernel), TBi 424 (by decide +kernel) (by decide +kernel), TBi 7 (by decide +kernel) (by decide +kernel), by decide +kernel⟩, rfl, TBi 423 (by decide +kernel) (by decide +kernel)⟩
theorem fg_M_87 : FG R_M 87 6 0 := ⟨R_M, T_M, 28, rfl, by decide, inT_M, TBi 426 (by decide +kernel) (by decide +kernel)⟩
theorem fp_M_87 : FP R_M 87 6 0 .int := ⟨R_M, T_M, 28, ty_M, rfl, by decide, inT_M, TBi 426 (by decide +kernel) (by decide +kernel), tyok_M, nm_M, rfl, by decide +kernel⟩
theorem fg_M_7 : FG R_M 7 6 1 := ⟨R_M, T_M, 28, rfl, by decide, inT_M, TBi 427 (by decide +kernel) (by decide +kernel)⟩
theorem fr_M_7 : FR R_M 7 6 1 (.array .int) := ⟨R_M, T_M, 28, ty_M, rfl, by decide, inT_M, TBi 427 (by decide +kernel) (by decide +kernel), tyok_M, nm_M, rfl, rfl, by decide +kernel⟩
theorem fg_M_13 : FG R_M 13 6 2 := ⟨R_M, T_M, 28, rfl, by decide, inT_M, TBi 428 (by decide +kernel) (by decide +kernel)⟩
theorem fr_M_13 : FR R_M 13 6 2 (.array .int) := ⟨R_M, T_M, 28, ty_M, rfl, by decide, inT_M, TBi 428 (by decide +kernel) (by decide +kernel), tyok_M, nm_M, rfl, rfl, by decide +kernel⟩
theorem fg_M_16 : FG R_M 16 6 3 := ⟨R_M, T_M, 28, rfl, by decide, inT_M, TBi 429 (by decide +kernel) (by decide +kernel)⟩
theorem fr_M_16 : FR R_M 16 6 3 (.array .int) := ⟨R_M, T_M, 28, ty_M, rfl, by decide, inT_M, TBi 429 (by decide +kernel) (by decide +kernel), tyok_M, nm_M, rfl, rfl, by decide +kernel⟩
theorem fg_M_19 : FG R_M 19 6 4 := ⟨R_M, T_M, 28, rfl, by decide, inT_M, TBi 430 (by decide +kernel) (by decide +kernel)⟩
theorem fr_M_19 : FR R_M 19 6 4 (.array .int) := ⟨R_M, T_M, 28, ty_M, rfl, by decide, inT_M, TBi 430 (by decide +kernel) (by decide +kernel), tyok_M, nm_M, rfl, rfl, by decide +kernel⟩
theorem fg_M_22 : FG R_M 22 6 5 := ⟨R_M, T_M, 28, rfl, by decide, inT_M, TBi 431 (by decide +kernel) (by decide +kernel)⟩
theorem fr_M_22 : FR R_M 22 6 5 (.array .int) := ⟨R_M, T_M, 28, ty_M, rfl, by decide, inT_M, TBi 431 (by decide +kernel) (by decide +kernel), tyok_M, nm_M, rfl, rfl, by decide +kernel⟩
theorem fg_M_25 : FG R_M 25 6 6 := ⟨R_M, T_M, 28, rfl, by decide, inT_M, TBi 432 (by decide +kernel) (by decide +kernel)⟩
theorem fr_M_25 : FR R_M 25 6 6 (.array .boolean) := ⟨R_M, T_M, 28, ty_M, rfl, by decide, inT_M, TBi 432 (by decide +kernel) (by decide +kernel), tyok_M, nm_M, rfl, rfl, by decide +kernel⟩
theorem fg_M_29 : FG R_M 29 6 7 := ⟨R_M, T_M, 28, rfl, by decide, inT_M, TBi 433 (by decide +kernel) (by decide +kernel)⟩
theorem fr_M_29 : FR R_M 29 6 7 (.array .int) := ⟨R_M, T_M, 28, ty_M, rfl, by decide, inT_M, TBi 433 (by decide +kernel) (by decide +kernel), tyok_M, nm_M, rfl, rfl, by decide +kernel⟩
theorem fg_M_32 : FG R_M 32 6 8 := ⟨R_M, T_M, 28, rfl, by decide, inT_M, TBi 434 (by decide +kernel) (by decide +kernel)⟩
theorem fr_M_32 : FR R_M 32 6 8 (.array .boolean) := ⟨R_M, T_M, 28, ty_M, rfl, by decide, inT_M, TBi 434 (by decide +kernel) (by decide +kernel), tyok_M, nm_M, rfl, rfl, by decide +kernel⟩
theorem fg_M_35 : FG R_M 35 6 9 := ⟨R_M, T_M, 28, rfl, by decide, inT_M, TBi 435 (by decide +kernel) (by decide +kernel)⟩
theorem fr_M_35 : FR R_M 35 6 9 (.array .boolean) := ⟨R_M, T_M, 28, ty_M, rfl, by decide, inT_M, TBi 435 (by decide +kernel) (by decide +kernel), tyok_M, nm_M, rfl, rfl, by decide +kernel⟩
theorem fg_M_38 : FG R_M 38 6 10 := ⟨R_M, T_M, 28, rfl, by decide, inT_M, TBi 436 (by decide +kernel) (by decide +kernel)⟩
theorem fr_M_38 : FR R_M 38 6 10 (.array .int) := ⟨R_M, T_M, 28, ty_M, rfl, by decide, inT_M, TBi 436 (by decide +kernel) (by decide +kernel), tyok_M, nm_M, rfl, rfl, by decide +kernel⟩
theorem fg_M_130 : FG R_M 130 6 11 := ⟨R_M, T_M, 28, rfl, by decide, inT_M, TBi 437 (by decide +kernel) (by decide +kernel)⟩
theorem fp_M_130 : FP R_M 130 6 11 .int := ⟨R_M, T_M, 28, ty_M, rfl, by decide, inT_M, TBi 437 (by decide +kernel) (by decide +kernel), tyok_M, nm_M, rfl, by decide +kernel⟩
theorem fg_M_41 : FG R_M 41 6 12 := ⟨R_M, T_M, 28, rfl, by decide, inT_M, TBi 438 (by decide +kernel) (by decide +kernel)⟩
theorem fr_M_41 : FR R_M 41 6 12 (.array .int) := ⟨R_M, T_M, 28, ty_M, rfl, by decide, inT_M, TBi 438 (by decide +kernel) (by decide +kernel), tyok_M, nm_M, rfl, rfl, by decide +kernel⟩
theorem fg_M_44 : FG R_M 44 6 13 := ⟨R_M, T_M, 28, rfl, by decide, inT_M, TBi 439 (by decide +kernel) (by decide +kernel)⟩
theorem fr_M_44 : FR R_M 44 6 13 (.array .int) := ⟨R_M, T_M, 28, ty_M, rfl, by decide, inT_M, TBi 439 (by decide +kernel) (by decide +kernel), tyok_M, nm_M, rfl, rfl, by decide +kernel⟩
theorem fg_M_47 : FG R_M 47 6 14 := ⟨R_M, T_M, 28, rfl, by decide, inT_M, TBi 440 (by decide +kernel) (by decide +kernel)⟩
theorem fp_M_47 : FP R_M 47 6 14 .int := ⟨R_M, T_M, 28, ty_M, rfl, by decide, inT_M, TBi 440 (by decide +kernel) (by decide +kernel), tyok_M, nm_M, rfl, by decide +kernel⟩
theorem fg_M_51 : FG R_M 51 6 15 := ⟨R_M, T_M, 28, rfl, by decide, inT_M, TBi 441 (by decide +kernel) (by decide +kernel)⟩
theorem fr_M_51 : FR R_M 51 6 15 (.array .boolean) := ⟨R_M, T_M, 28, ty_M, rfl, by decide, inT_M, TBi 441 (by decide +kernel) (by decide +kernel), tyok_M, nm_M, rfl, rfl, by decide +kernel⟩
theorem fg_M_54 : FG R_M 54 6 16 := ⟨R_M, T_M, 28, rfl, by decide, inT_M, TBi 442 (by decide +kernel) (by decide +kernel)⟩
theorem fr_M_54 : FR R_M 54 6 16 (.array .boolean) := ⟨R_M, T_M, 28, ty_M, rfl, by decide, inT_M, TBi 442 (by decide +kernel) (by decide +kernel), tyok_M, nm_M, rfl, rfl, by decide +kernel⟩
theorem fg_M_57 : FG R_M 57 6 17 := ⟨R_M, T_M, 28, rfl, by decide, inT_M, TBi 443 (by decide +kernel) (by decide +kernel)⟩
theorem fr_M_57 : FR R_M 57 6 17 (.array .boolean) := ⟨R_M, T_M, 28, ty_M, rfl, by decide, inT_M, TBi 443 (by decide +kernel) (by decide +kernel), tyok_M, nm_M, rfl, rfl, by decide +kernel⟩
theorem fg_M_60 : FG R_M 60 6 18 := ⟨R_M, T_M, 28, rfl, by decide, inT_M, TBi 444 (by decide +kernel) (by decide +kernel)⟩
theorem fr_M_60 : FR R_M 60 6 18 (.array .boolean) := ⟨R_M, T_M, 28, ty_M, rfl, by decide, inT_M, TBi 444 (by decide +kernel) (by decide +kernel), tyok_M, nm_M, rfl, rfl, by decide +kernel⟩
theorem fg_M_63 : FG R_M 63 6 19 := ⟨R_M, T_M, 28, rfl, by decide, inT_M, TBi 445 (by decide +kernel) (by decide +kernel)⟩
theorem fr_M_63 : FR R_M 63 6 19 (.array .boolean) := ⟨R_M, T_M, 28, ty_M, rfl, by decide, inT_M, TBi 445 (by decide +kernel) (by decide +kernel), tyok_M, nm_M, rfl, rfl, by decide +kernel⟩
theorem fg_M_66 : FG R_M 66 6 20 := ⟨R_M, T_M, 28, rfl, by decide, inT_M, TBi 446 (by decide +kernel) (by decide +kernel)⟩
theorem fr_M_66 : FR R_M 66 6 20 (.array .boolean) := ⟨R_M, T_M, 28, ty_M, rfl, by decide, inT_M, TBi 446 (by decide +kernel) (by decide +kernel), tyok_M, nm_M, rfl, rfl, by decide +kernel⟩
theorem fg_M_69 : FG R_M 69 6 21 := ⟨R_M, T_M, 28, rfl, by decide, inT_M, TBi 447 (by decide +kernel) (by decide +kernel)⟩
theorem fr_M_69 : FR R_M 69 6 21 (.array .boolean) := ⟨R_M, T_M, 28, ty_M, rfl, by decide, inT_M, TBi 447 (by decide +kernel) (by decide +kernel), tyok_M, nm_M, rfl, rfl, by decide +kernel⟩
theorem fg_M_72 : FG R_M 72 6 22 := ⟨R_M, T_M, 28, rfl, by decide, inT_M, TBi 448 (by decide +kernel) (by decide +kernel)⟩
theorem fr_M_72 : FR R_M 72 6 22 (.array .int) := ⟨R_M, T_M, 28, ty_M, rfl, by decide, inT_M, TBi 448 (by decide +kernel) (by decide +kernel), tyok_M, nm_M, rfl, rfl, by decide +kernel⟩
theorem fg_M_109 : FG R_M 109 6 23 := ⟨R_M, T_M, 28, rfl, by decide, inT_M, TBi 449 (by decide +kernel) (by decide +kernel)⟩
theorem fp_M_109 : FP R_M 109 6 23 .boolean := ⟨R_M, T_M, 28, ty_M, rfl, by decide, inT_M, TBi 449 (by decide +kernel) (by decide +kernel), tyok_M, nm_M, rfl, by decide +kernel⟩
theorem fg_M_75 : FG R_M 75 6 24 := ⟨R_M, T_M, 28, rfl, by decide, inT_M, TBi 450 (by decide +kernel) (by decide +kernel)⟩
theorem fr_M_75 : FR R_M 75 6 24 (.array .int) := ⟨R_M, T_M, 28, ty_M, rfl, by decide, inT_M, TBi 450 (by decide +kernel) (by decide +kernel), tyok_M, nm_M, rfl, rfl, by decide +kernel⟩
theorem fg_M_78 : FG R_M 78 6 25 := ⟨R_M, T_M, 28, rfl, by decide, inT_M, TBi 451 (by decide +kernel) (by decide +kernel)⟩
theorem fr_M_78 : FR R_M 78 6 25 (.array .int) := ⟨R_M, T_M, 28, ty_M, rfl, by decide, inT_M, TBi 451 (by decide +kernel) (by decide +kernel), tyok_M, nm_M, rfl, rfl, by decide +kernel⟩
theorem fg_M_81 : FG R_M 81 6 26 := ⟨R_M, T_M, 28, rfl, by decide, inT_M, TBi 452 (by decide +kernel) (by decide +kernel)⟩
theorem fr_M_81 : FR R_M 81 6 26 (.array .int) := ⟨R_M, T_M, 28, ty_M, rfl, by decide, inT_M, TBi 452 (by decide +kernel) (by decide +kernel), tyok_M, nm_M, rfl, rfl, by decide +kernel⟩
theorem fg_M_84 : FG R_M 84 6 27 := ⟨R_M, T_M, 28, rfl, by decide, inT_M, TBi 453 (by decide +kernel) (by decide +kernel)⟩
theorem fr_M_84 : FR R_M 84 6 27 (.array .int) := ⟨R_M, T_M, 28, ty_M, rfl, by decide, inT_M, TBi 453 (by decide +kernel) (by decide +kernel), tyok_M, nm_M, rfl, rfl, by decide +kernel⟩
theorem ka_boolean : Cond.arrayClass .boolean ∈ TB := TBi 511 (by decide +kernel) (by decide +kernel)
theorem mf_W_17 : MF R_W 17 y_M_write b_M_write 7 (some .int) 3 ∧ Cond.instanceMethod y_M_write ∈ TB ∧ Cond.selects y_M_write.cls y_M_write y_M_write ∈ TB := ⟨⟨TBi 512 (by decide +kernel) (by decide +kernel), TBi 515 (by decide +kernel) (by decide +kernel), TBi 7 (by decide +kernel) (by decide +kernel), by decide +kernel⟩, TBi 513 (by decide +kernel) (by decide +kernel), TBi 514 (by decide +kernel) (by decide +kernel)⟩
theorem mf_M_117 : MF R_M 117 y_M_isNode b_M_isNode 1 (some .boolean) 1 ∧ Cond.static y_M_isNode ∈ TB := ⟨⟨TBi 516 (by decide +kernel) (by decide +kernel), TBi 518 (by decide +kernel) (by decide +kernel), TBi 7 (by decide +kernel) (by decide +kernel), by decide +kernel⟩, TBi 517 (by decide +kernel) (by decide +kernel)⟩
theorem mf_M_120 : MF R_M 120 y_M_isBlock b_M_isBlock 1 (some .boolean) 1 ∧ Cond.static y_M_isBlock ∈ TB := ⟨⟨TBi 519 (by decide +kernel) (by decide +kernel), TBi 521 (by decide +kernel) (by decide +kernel), TBi 7 (by decide +kernel) (by decide +kernel), by decide +kernel⟩, TBi 520 (by decide +kernel) (by decide +kernel)⟩
theorem mf_M_90 : MF R_M 90 y_M_pending b_M_pending 6 (some .int) 3 ∧ Cond.instanceMethod y_M_pending ∈ TB ∧ Cond.selects y_M_pending.cls y_M_pending y_M_pending ∈ TB := ⟨⟨TBi 522 (by decide +kernel) (by decide +kernel), TBi 525 (by decide +kernel) (by decide +kernel), TBi 7 (by decide +kernel) (by decide +kernel), by decide +kernel⟩, TBi 524 (by decide +kernel) (by decide +kernel), TBs 12 (by decide +kernel) (by decide +kernel)⟩
theorem mf_M_123 : MF R_M 123 y_M_inLog b_M_inLog 4 (some .int) 1 ∧ Cond.instanceMethod y_M_inLog ∈ TB ∧ Cond.selects y_M_inLog.cls y_M_inLog y_M_inLog ∈ TB := ⟨⟨TBi 526 (by decide +kernel) (by decide +kernel), TBi 529 (by decide +kernel) (by decide +kernel), TBi 7 (by decide +kernel) (by decide +kernel), by decide +kernel⟩, TBi 528 (by decide +kernel) (by decide +kernel), TBs 13 (by decide +kernel) (by decide +kernel)⟩
theorem mf_M_127 : MF R_M 127 y_M_idle b_M_idle 4 (some .int) 1 ∧ Cond.instanceMethod y_M_idle ∈ TB ∧ Cond.selects y_M_idle.cls y_M_idle y_M_idle ∈ TB := ⟨⟨TBi 530 (by decide +kernel) (by decide +kernel), TBi 533 (by decide +kernel) (by decide +kernel), TBi 7 (by decide +kernel) (by decide +kernel), by decide +kernel⟩, TBi 532 (by decide +kernel) (by decide +kernel), TBs 14 (by decide +kernel) (by decide +kernel)⟩
theorem mf_M_105 : MF R_M 105 y_M_send b_M_send 6 none 4 ∧ Cond.instanceMethod y_M_send ∈ TB ∧ Cond.selects y_M_send.cls y_M_send y_M_send ∈ TB := ⟨⟨TBi 534 (by decide +kernel) (by decide +kernel), TBi 537 (by decide +kernel) (by decide +kernel), TBi 7 (by decide +kernel) (by decide +kernel), by decide +kernel⟩, TBi 536 (by decide +kernel) (by decide +kernel), TBs 15 (by decide +kernel) (by decide +kernel)⟩
theorem mf_M_113 : MF R_M 113 y_M_alone b_M_alone 3 none 1 ∧ Cond.instanceMethod y_M_alone ∈ TB ∧ Cond.selects y_M_alone.cls y_M_alone y_M_alone ∈ TB := ⟨⟨TBi 538 (by decide +kernel) (by decide +kernel), TBi 541 (by decide +kernel) (by decide +kernel), TBi 7 (by decide +kernel) (by decide +kernel), by decide +kernel⟩, TBi 540 (by decide +kernel) (by decide +kernel), TBs 16 (by decide +kernel) (by decide +kernel)⟩
theorem mf_W_22 : MF R_W 22 y_M_barrier b_M_barrier 2 (some .boolean) 1 ∧ Cond.instanceMethod y_M_barrier ∈ TB ∧ Cond.selects y_M_barrier.cls y_M_barrier y_M_barrier ∈ TB := ⟨⟨TBi 542 (by decide +kernel) (by decide +kernel), TBi 545 (by decide +kernel) (by decide +kernel), TBi 7 (by decide +kernel) (by decide +kernel), by decide +kernel⟩, TBi 543 (by decide +kernel) (by decide +kernel), TBi 544 (by decide +kernel) (by decide +kernel)⟩
theorem mf_W_27 : MF R_W 27 y_M_deliver b_M_deliver 7 (some .int) 1 ∧ Cond.instanceMethod y_M_deliver ∈ TB ∧ Cond.selects y_M_deliver.cls y_M_deliver y_M_deliver ∈ TB := ⟨⟨TBi 546 (by decide +kernel) (by decide +kernel), TBi 549 (by decide +kernel) (by decide +kernel), TBi 7 (by decide +kernel) (by decide +kernel), by decide +kernel⟩, TBi 547 (by decide +kernel) (by decide +kernel), TBi 548 (by decide +kernel) (by decide +kernel)⟩
theorem mf_M_133 : MF R_M 133 y_M_arrive b_M_arrive 6 none 4 ∧ Cond.instanceMethod y_M_arrive ∈ TB ∧ Cond.selects y_M_arrive.cls y_M_arrive y_M_arrive ∈ TB := ⟨⟨TBi 550 (by decide +kernel) (by decide +kernel), TBi 553 (by decide +kernel) (by decide +kernel), TBi 7 (by decide +kernel) (by decide +kernel), by decide +kernel⟩, TBi 552 (by decide +kernel) (by decide +kernel), TBs 17 (by decide +kernel) (by decide +kernel)⟩
theorem mf_M_136 : MF R_M 136 y_M_endIfEmpty b_M_endIfEmpty 2 none 1 ∧ Cond.instanceMethod y_M_endIfEmpty ∈ TB ∧ Cond.selects y_M_endIfEmpty.cls y_M_endIfEmpty y_M_endIfEmpty ∈ TB := ⟨⟨TBi 554 (by decide +kernel) (by decide +kernel), TBi 557 (by decide +kernel) (by decide +kernel), TBi 7 (by decide +kernel) (by decide +kernel), by decide +kernel⟩, TBi 556 (by decide +kernel) (by decide +kernel), TBs 18 (by decide +kernel) (by decide +kernel)⟩
theorem mf_M_97 : MF R_M 97 y_M_nothingInMap b_M_nothingInMap 4 (some .boolean) 1 ∧ Cond.instanceMethod y_M_nothingInMap ∈ TB ∧ Cond.selects y_M_nothingInMap.cls y_M_nothingInMap y_M_nothingInMap ∈ TB := ⟨⟨TBi 558 (by decide +kernel) (by decide +kernel), TBi 561 (by decide +kernel) (by decide +kernel), TBi 7 (by decide +kernel) (by decide +kernel), by decide +kernel⟩, TBi 560 (by decide +kernel) (by decide +kernel), TBs 19 (by decide +kernel) (by decide +kernel)⟩
theorem mf_M_101 : MF R_M 101 y_M_turnInto b_M_turnInto 5 none 3 ∧ Cond.instanceMethod y_M_turnInto ∈ TB ∧ Cond.selects y_M_turnInto.cls y_M_turnInto y_M_turnInto ∈ TB := ⟨⟨TBi 562 (by decide +kernel) (by decide +kernel), TBi 565 (by decide +kernel) (by decide +kernel), TBi 7 (by decide +kernel) (by decide +kernel), by decide +kernel⟩, TBi 564 (by decide +kernel) (by decide +kernel), TBs 20 (by decide +kernel) (by decide +kernel)⟩
theorem mf_W_32 : MF R_W 32 y_M_store b_M_store 6 (some .int) 2 ∧ Cond.instanceMethod y_M_store ∈ TB ∧ Cond.selects y_M_store.cls y_M_store y_M_store ∈ TB := ⟨⟨TBi 566 (by decide +kernel) (by decide +kernel), TBi 569 (by decide +kernel) (by decide +kernel), TBi 7 (by decide +kernel) (by decide +kernel), by decide +kernel⟩, TBi 567 (by decide +kernel) (by decide +kernel), TBi 568 (by decide +kernel) (by decide +kernel)⟩
theorem mf_W_36 : MF R_W 36 y_M_copy b_M_copy 3 (some .int) 1 ∧ Cond.instanceMethod y_M_copy ∈ TB ∧ Cond.selects y_M_copy.cls y_M_copy y_M_copy ∈ TB := ⟨⟨TBi 570 (by decide +kernel) (by decide +kernel), TBi 573 (by decide +kernel) (by decide +kernel), TBi 7 (by decide +kernel) (by decide +kernel), by decide +kernel⟩, TBi 571 (by decide +kernel) (by decide +kernel), TBi 572 (by decide +kernel) (by decide +kernel)⟩
theorem mf_M_139 : MF R_M 139 y_M_underWay b_M_underWay 3 (some .int) 2 ∧ Cond.instanceMethod y_M_underWay ∈ TB ∧ Cond.selects y_M_underWay.cls y_M_underWay y_M_underWay ∈ TB := ⟨⟨TBi 574 (by decide +kernel) (by decide +kernel), TBi 577 (by decide +kernel) (by decide +kernel), TBi 7 (by decide +kernel) (by decide +kernel), by decide +kernel⟩, TBi 576 (by decide +kernel) (by decide +kernel), TBs 21 (by decide +kernel) (by decide +kernel)⟩
theorem mf_M_94 : MF R_M 94 y_M_onTheWay b_M_onTheWay 6 (some .int) 3 ∧ Cond.instanceMethod y_M_onTheWay ∈ TB ∧ Cond.selects y_M_onTheWay.cls y_M_onTheWay y_M_onTheWay ∈ TB := ⟨⟨TBi 578 (by decide +kernel) (by decide +kernel), TBi 581 (by decide +kernel) (by decide +kernel), TBi 7 (by decide +kernel) (by decide +kernel), by decide +kernel⟩, TBi 580 (by decide +kernel) (by decide +kernel), TBs 22 (by decide +kernel) (by decide +kernel)⟩
theorem mf_W_41 : MF R_W 41 y_M_connect b_M_connect 5 (some .int) 0 ∧ Cond.instanceMethod y_M_connect ∈ TB ∧ Cond.selects y_M_connect.cls y_M_connect y_M_connect ∈ TB := ⟨⟨TBi 582 (by decide +kernel) (by decide +kernel), TBi 585 (by decide +kernel) (by decide +kernel), TBi 7 (by decide +kernel) (by decide +kernel), by decide +kernel⟩, TBi 583 (by decide +kernel) (by decide +kernel), TBi 584 (by decide +kernel) (by decide +kernel)⟩
theorem mf_M_143 : MF R_M 143 y_M_chosen b_M_chosen 1 (some .int) 0 ∧ Cond.instanceMethod y_M_chosen ∈ TB ∧ Cond.selects y_M_chosen.cls y_M_chosen y_M_chosen ∈ TB := ⟨⟨TBi 586 (by decide +kernel) (by decide +kernel), TBi 589 (by decide +kernel) (by decide +kernel), TBi 7 (by decide +kernel) (by decide +kernel), by decide +kernel⟩, TBi 588 (by decide +kernel) (by decide +kernel), TBs 23 (by decide +kernel) (by decide +kernel)⟩
theorem mf_W_46 : MF R_W 46 y_M_cut b_M_cut 1 (some .boolean) 0 ∧ Cond.instanceMethod y_M_cut ∈ TB ∧ Cond.selects y_M_cut.cls y_M_cut y_M_cut ∈ TB := ⟨⟨TBi 590 (by decide +kernel) (by decide +kernel), TBi 593 (by decide +kernel) (by decide +kernel), TBi 7 (by decide +kernel) (by decide +kernel), by decide +kernel⟩, TBi 591 (by decide +kernel) (by decide +kernel), TBi 592 (by decide +kernel) (by decide +kernel)⟩
theorem mf_M_147 : MF R_M 147 y_M_breakLink b_M_breakLink 2 none 0 ∧ Cond.instanceMethod y_M_breakLink ∈ TB ∧ Cond.selects y_M_breakLink.cls y_M_breakLink y_M_breakLink ∈ TB := ⟨⟨TBi 594 (by decide +kernel) (by decide +kernel), TBi 597 (by decide +kernel) (by decide +kernel), TBi 7 (by decide +kernel) (by decide +kernel), by decide +kernel⟩, TBi 596 (by decide +kernel) (by decide +kernel), TBs 24 (by decide +kernel) (by decide +kernel)⟩
theorem mf_W_50 : MF R_W 50 y_M_crash b_M_crash 2 (some .boolean) 1 ∧ Cond.instanceMethod y_M_crash ∈ TB ∧ Cond.selects y_M_crash.cls y_M_crash y_M_crash ∈ TB := ⟨⟨TBi 598 (by decide +kernel) (by decide +kernel), TBi 601 (by decide +kernel) (by decide +kernel), TBi 7 (by decide +kernel) (by decide +kernel), by decide +kernel⟩, TBi 599 (by decide +kernel) (by decide +kernel), TBi 600 (by decide +kernel) (by decide +kernel)⟩
theorem mf_W_54 : MF R_W 54 y_M_restart b_M_restart 3 (some .boolean) 1 ∧ Cond.instanceMethod y_M_restart ∈ TB ∧ Cond.selects y_M_restart.cls y_M_restart y_M_restart ∈ TB := ⟨⟨TBi 602 (by decide +kernel) (by decide +kernel), TBi 605 (by decide +kernel) (by decide +kernel), TBi 7 (by decide +kernel) (by decide +kernel), by decide +kernel⟩, TBi 603 (by decide +kernel) (by decide +kernel), TBi 604 (by decide +kernel) (by decide +kernel)⟩
theorem mf_W_58 : MF R_W 58 y_M_promote b_M_promote 2 (some .int) 1 ∧ Cond.instanceMethod y_M_promote ∈ TB ∧ Cond.selects y_M_promote.cls y_M_promote y_M_promote ∈ TB := ⟨⟨TBi 606 (by decide +kernel) (by decide +kernel), TBi 609 (by decide +kernel) (by decide +kernel), TBi 7 (by decide +kernel) (by decide +kernel), by decide +kernel⟩, TBi 607 (by decide +kernel) (by decide +kernel), TBi 608 (by decide +kernel) (by decide +kernel)⟩
theorem mf_W_62 : MF R_W 62 y_M_demote b_M_demote 2 (some .int) 1 ∧ Cond.instanceMethod y_M_demote ∈ TB ∧ Cond.selects y_M_demote.cls y_M_demote y_M_demote ∈ TB := ⟨⟨TBi 610 (by decide +kernel) (by decide +kernel), TBi 613 (by decide +kernel) (by decide +kernel), TBi 7 (by decide +kernel) (by decide +kernel), by decide +kernel⟩, TBi 611 (by decide +kernel) (by decide +kernel), TBi 612 (by decide +kernel) (by decide +kernel)⟩
theorem mf_W_66 : MF R_W 66 y_M_discard b_M_discard 3 (some .boolean) 1 ∧ Cond.instanceMethod y_M_discard ∈ TB ∧ Cond.selects y_M_discard.cls y_M_discard y_M_discard ∈ TB := ⟨⟨TBi 614 (by decide +kernel) (by decide +kernel), TBi 617 (by decide +kernel) (by decide +kernel), TBi 7 (by decide +kernel) (by decide +kernel), by decide +kernel⟩, TBi 615 (by decide +kernel) (by decide +kernel), TBi 616 (by decide +kernel) (by decide +kernel)⟩
theorem mf_W_70 : MF R_W 70 y_M_disk b_M_disk 3 (some .int) 2 ∧ Cond.instanceMethod y_M_disk ∈ TB ∧ Cond.selects y_M_disk.cls y_M_disk y_M_disk ∈ TB := ⟨⟨TBi 618 (by decide +kernel) (by decide +kernel), TBi 621 (by decide +kernel) (by decide +kernel), TBi 7 (by decide +kernel) (by decide +kernel), by decide +kernel⟩, TBi 619 (by decide +kernel) (by decide +kernel), TBi 620 (by decide +kernel) (by decide +kernel)⟩
theorem mf_W_74 : MF R_W 74 y_M_fate b_M_fate 2 (some .int) 1 ∧ Cond.instanceMethod y_M_fate ∈ TB ∧ Cond.selects y_M_fate.cls y_M_fate y_M_fate ∈ TB := ⟨⟨TBi 622 (by decide +kernel) (by decide +kernel), TBi 625 (by decide +kernel) (by decide +kernel), TBi 7 (by decide +kernel) (by decide +kernel), by decide +kernel⟩, TBi 623 (by decide +kernel) (by decide +kernel), TBi 624 (by decide +kernel) (by decide +kernel)⟩
theorem mf_W_78 : MF R_W 78 y_M_state b_M_state 3 (some .int) 1 ∧ Cond.instanceMethod y_M_state ∈ TB ∧ Cond.selects y_M_state.cls y_M_state y_M_state ∈ TB := ⟨⟨TBi 626 (by decide +kernel) (by decide +kernel), TBi 629 (by decide +kernel) (by decide +kernel), TBi 7 (by decide +kernel) (by decide +kernel), by decide +kernel⟩, TBi 627 (by decide +kernel) (by decide +kernel), TBi 628 (by decide +kernel) (by decide +kernel)⟩
theorem mf_W_83 : MF R_W 83 y_M_generation b_M_generation 2 (some .long) 1 ∧ Cond.instanceMethod y_M_generation ∈ TB ∧ Cond.selects y_M_generation.cls y_M_generation y_M_generation ∈ TB := ⟨⟨TBi 630 (by decide +kernel) (by decide +kernel), TBi 633 (by decide +kernel) (by decide +kernel), TBi 7 (by decide +kernel) (by decide +kernel), by decide +kernel⟩, TBi 631 (by decide +kernel) (by decide +kernel), TBi 632 (by decide +kernel) (by decide +kernel)⟩
theorem kc_M_150 : Cond.constantLong R_M 150 4294967296 ∈ TB := TBi 634 (by decide +kernel) (by decide +kernel)
theorem mf_W_87 : MF R_W 87 y_M_map b_M_map 4 (some .int) 1 ∧ Cond.instanceMethod y_M_map ∈ TB ∧ Cond.selects y_M_map.cls y_M_map y_M_map ∈ TB := ⟨⟨TBi 635 (by decide +kernel) (by decide +kernel), TBi 638 (by decide +kernel) (by decide +kernel), TBi 7 (by decide +kernel) (by decide +kernel), by decide +kernel⟩, TBi 636 (by decide +kernel) (by decide +kernel), TBi 637 (by decide +kernel) (by decide +kernel)⟩
theorem mf_W_91 : MF R_W 91 y_M_log b_M_log 6 (some .int) 2 ∧ Cond.instanceMethod y_M_log ∈ TB ∧ Cond.selects y_M_log.cls y_M_log y_M_log ∈ TB := ⟨⟨TBi 639 (by decide +kernel) (by decide +kernel), TBi 642 (by decide +kernel) (by decide +kernel), TBi 7 (by decide +kernel) (by decide +kernel), by decide +kernel⟩, TBi 640 (by decide +kernel) (by decide +kernel), TBi 641 (by decide +kernel) (by decide +kernel)⟩
theorem mf_W_95 : MF R_W 95 y_M_traffic b_M_traffic 4 (some .int) 1 ∧ Cond.instanceMethod y_M_traffic ∈ TB ∧ Cond.selects y_M_traffic.cls y_M_traffic y_M_traffic ∈ TB := ⟨⟨TBi 643 (by decide +kernel) (by decide +kernel), TBi 646 (by decide +kernel) (by decide +kernel), TBi 7 (by decide +kernel) (by decide +kernel), by decide +kernel⟩, TBi 644 (by decide +kernel) (by decide +kernel), TBi 645 (by decide +kernel) (by decide +kernel)⟩
end
