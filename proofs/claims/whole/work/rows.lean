section
/-- a private method of a class that the tables say can be made, by its rows of tables_1 -/
def lw_okq (q : MethodName × Nat) : Prop := (q.1.cls ≠ "java/lang/invoke/MethodHandle" ∧ q.1.cls ≠ "java/lang/invoke/VarHandle") ∧ Cond.instantiable q.1.cls q.2 ∈ tables_1 ∧ Cond.privateMethod q.1 ∈ tables_1 ∧ Cond.instanceMethod q.1 ∈ tables_1
theorem lw_p0 : lw_okq (⟨"DaySwaps$Day", "isVehicle", "(I)Z"⟩, 17) := ⟨⟨by decide +kernel, by decide +kernel⟩, List.mem_of_getElem? (i := 19) (by decide +kernel), List.mem_of_getElem? (i := 162) (by decide +kernel), List.mem_of_getElem? (i := 163) (by decide +kernel)⟩
theorem lw_p1 : lw_okq (⟨"DaySwaps$Day", "tell", "(III)I"⟩, 17) := ⟨⟨by decide +kernel, by decide +kernel⟩, List.mem_of_getElem? (i := 19) (by decide +kernel), List.mem_of_getElem? (i := 170) (by decide +kernel), List.mem_of_getElem? (i := 171) (by decide +kernel)⟩
theorem lw_p2 : lw_okq (⟨"DaySwaps$Day", "append", "(II)V"⟩, 17) := ⟨⟨by decide +kernel, by decide +kernel⟩, List.mem_of_getElem? (i := 19) (by decide +kernel), List.mem_of_getElem? (i := 174) (by decide +kernel), List.mem_of_getElem? (i := 175) (by decide +kernel)⟩
theorem lw_p3 : lw_okq (⟨"DaySwaps$Day", "isStop", "(I)Z"⟩, 17) := ⟨⟨by decide +kernel, by decide +kernel⟩, List.mem_of_getElem? (i := 19) (by decide +kernel), List.mem_of_getElem? (i := 182) (by decide +kernel), List.mem_of_getElem? (i := 183) (by decide +kernel)⟩
theorem lw_p4 : lw_okq (⟨"DaySwaps$Search", "least", "()J"⟩, 3) := ⟨⟨by decide +kernel, by decide +kernel⟩, List.mem_of_getElem? (i := 99) (by decide +kernel), List.mem_of_getElem? (i := 211) (by decide +kernel), List.mem_of_getElem? (i := 212) (by decide +kernel)⟩
theorem lw_p5 : lw_okq (⟨"DaySwaps$Search", "weightOf", "(II)J"⟩, 3) := ⟨⟨by decide +kernel, by decide +kernel⟩, List.mem_of_getElem? (i := 99) (by decide +kernel), List.mem_of_getElem? (i := 215) (by decide +kernel), List.mem_of_getElem? (i := 216) (by decide +kernel)⟩
theorem lw_p6 : lw_okq (⟨"DaySwaps$Day", "mayHave", "(II)Z"⟩, 17) := ⟨⟨by decide +kernel, by decide +kernel⟩, List.mem_of_getElem? (i := 19) (by decide +kernel), List.mem_of_getElem? (i := 222) (by decide +kernel), List.mem_of_getElem? (i := 223) (by decide +kernel)⟩
theorem lw_p7 : lw_okq (⟨"DaySwaps$Day", "canDo", "(II)Z"⟩, 17) := ⟨⟨by decide +kernel, by decide +kernel⟩, List.mem_of_getElem? (i := 19) (by decide +kernel), List.mem_of_getElem? (i := 226) (by decide +kernel), List.mem_of_getElem? (i := 227) (by decide +kernel)⟩
theorem lw_p8 : lw_okq (⟨"DaySwaps$Day", "timeOf", "(II)I"⟩, 17) := ⟨⟨by decide +kernel, by decide +kernel⟩, List.mem_of_getElem? (i := 19) (by decide +kernel), List.mem_of_getElem? (i := 235) (by decide +kernel), List.mem_of_getElem? (i := 236) (by decide +kernel)⟩
theorem lw_p9 : lw_okq (⟨"DaySwaps$Day", "addRound", "(II[II)I"⟩, 17) := ⟨⟨by decide +kernel, by decide +kernel⟩, List.mem_of_getElem? (i := 19) (by decide +kernel), List.mem_of_getElem? (i := 239) (by decide +kernel), List.mem_of_getElem? (i := 240) (by decide +kernel)⟩
theorem lw_p10 : lw_okq (⟨"DaySwaps$Day", "overHours", "(II)I"⟩, 17) := ⟨⟨by decide +kernel, by decide +kernel⟩, List.mem_of_getElem? (i := 19) (by decide +kernel), List.mem_of_getElem? (i := 244) (by decide +kernel), List.mem_of_getElem? (i := 245) (by decide +kernel)⟩
theorem lw_p11 : lw_okq (⟨"DaySwaps$Search", "join", "(I)V"⟩, 3) := ⟨⟨by decide +kernel, by decide +kernel⟩, List.mem_of_getElem? (i := 99) (by decide +kernel), List.mem_of_getElem? (i := 251) (by decide +kernel), List.mem_of_getElem? (i := 252) (by decide +kernel)⟩
theorem lw_p12 : lw_okq (⟨"DaySwaps", "whyNoPlan", "()I"⟩, 7) := ⟨⟨by decide +kernel, by decide +kernel⟩, List.mem_of_getElem? (i := 11) (by decide +kernel), List.mem_of_getElem? (i := 259) (by decide +kernel), List.mem_of_getElem? (i := 260) (by decide +kernel)⟩
theorem lw_p13 : lw_okq (⟨"DaySwaps$Shelf", "putLatest", "([II)V"⟩, 3) := ⟨⟨by decide +kernel, by decide +kernel⟩, List.mem_of_getElem? (i := 116) (by decide +kernel), List.mem_of_getElem? (i := 264) (by decide +kernel), List.mem_of_getElem? (i := 265) (by decide +kernel)⟩
theorem lw_p14 : lw_okq (⟨"DaySwaps", "movedSet", "()I"⟩, 7) := ⟨⟨by decide +kernel, by decide +kernel⟩, List.mem_of_getElem? (i := 11) (by decide +kernel), List.mem_of_getElem? (i := 274) (by decide +kernel), List.mem_of_getElem? (i := 275) (by decide +kernel)⟩
theorem lw_p15 : lw_okq (⟨"DaySwaps", "setOf", "(I)I"⟩, 7) := ⟨⟨by decide +kernel, by decide +kernel⟩, List.mem_of_getElem? (i := 11) (by decide +kernel), List.mem_of_getElem? (i := 292) (by decide +kernel), List.mem_of_getElem? (i := 293) (by decide +kernel)⟩
def lw_privs_1 : List (MethodName × Nat) := [(⟨"DaySwaps$Day", "isVehicle", "(I)Z"⟩, 17), (⟨"DaySwaps$Day", "tell", "(III)I"⟩, 17), (⟨"DaySwaps$Day", "append", "(II)V"⟩, 17), (⟨"DaySwaps$Day", "isStop", "(I)Z"⟩, 17), (⟨"DaySwaps$Search", "least", "()J"⟩, 3), (⟨"DaySwaps$Search", "weightOf", "(II)J"⟩, 3), (⟨"DaySwaps$Day", "mayHave", "(II)Z"⟩, 17), (⟨"DaySwaps$Day", "canDo", "(II)Z"⟩, 17), (⟨"DaySwaps$Day", "timeOf", "(II)I"⟩, 17), (⟨"DaySwaps$Day", "addRound", "(II[II)I"⟩, 17), (⟨"DaySwaps$Day", "overHours", "(II)I"⟩, 17), (⟨"DaySwaps$Search", "join", "(I)V"⟩, 3), (⟨"DaySwaps", "whyNoPlan", "()I"⟩, 7), (⟨"DaySwaps$Shelf", "putLatest", "([II)V"⟩, 3), (⟨"DaySwaps", "movedSet", "()I"⟩, 7), (⟨"DaySwaps", "setOf", "(I)I"⟩, 7)]
theorem lw_r1 : ∀ q ∈ lw_privs_1, lw_okq q := List.forall_mem_cons.mpr ⟨lw_p0, List.forall_mem_cons.mpr ⟨lw_p1, List.forall_mem_cons.mpr ⟨lw_p2, List.forall_mem_cons.mpr ⟨lw_p3, List.forall_mem_cons.mpr ⟨lw_p4, List.forall_mem_cons.mpr ⟨lw_p5, List.forall_mem_cons.mpr ⟨lw_p6, List.forall_mem_cons.mpr ⟨lw_p7, List.forall_mem_cons.mpr ⟨lw_p8, List.forall_mem_cons.mpr ⟨lw_p9, List.forall_mem_cons.mpr ⟨lw_p10, List.forall_mem_cons.mpr ⟨lw_p11, List.forall_mem_cons.mpr ⟨lw_p12, List.forall_mem_cons.mpr ⟨lw_p13, List.forall_mem_cons.mpr ⟨lw_p14, List.forall_mem_cons.mpr ⟨lw_p15, fun _ h => absurd h List.not_mem_nil⟩⟩⟩⟩⟩⟩⟩⟩⟩⟩⟩⟩⟩⟩⟩⟩
theorem lw_p16 : lw_okq (⟨"DaySwaps$Day", "placeInRound", "(III)I"⟩, 17) := ⟨⟨by decide +kernel, by decide +kernel⟩, List.mem_of_getElem? (i := 19) (by decide +kernel), List.mem_of_getElem? (i := 296) (by decide +kernel), List.mem_of_getElem? (i := 297) (by decide +kernel)⟩
theorem lw_p17 : lw_okq (⟨"DaySwaps$Day", "prepareRow", "(III)V"⟩, 17) := ⟨⟨by decide +kernel, by decide +kernel⟩, List.mem_of_getElem? (i := 19) (by decide +kernel), List.mem_of_getElem? (i := 346) (by decide +kernel), List.mem_of_getElem? (i := 347) (by decide +kernel)⟩
theorem lw_p18 : lw_okq (⟨"DaySwaps$Day", "turn", "()V"⟩, 17) := ⟨⟨by decide +kernel, by decide +kernel⟩, List.mem_of_getElem? (i := 19) (by decide +kernel), List.mem_of_getElem? (i := 350) (by decide +kernel), List.mem_of_getElem? (i := 351) (by decide +kernel)⟩
theorem lw_p19 : lw_okq (⟨"DaySwapsModel", "isVehicle", "(I)Z"⟩, 28) := ⟨⟨by decide +kernel, by decide +kernel⟩, List.mem_of_getElem? (i := 357) (by decide +kernel), List.mem_of_getElem? (i := 452) (by decide +kernel), List.mem_of_getElem? (i := 453) (by decide +kernel)⟩
theorem lw_p20 : lw_okq (⟨"DaySwapsModel", "isStop", "(I)Z"⟩, 28) := ⟨⟨by decide +kernel, by decide +kernel⟩, List.mem_of_getElem? (i := 357) (by decide +kernel), List.mem_of_getElem? (i := 465) (by decide +kernel), List.mem_of_getElem? (i := 466) (by decide +kernel)⟩
theorem lw_p21 : lw_okq (⟨"DaySwapsModel", "costOf", "([I)J"⟩, 28) := ⟨⟨by decide +kernel, by decide +kernel⟩, List.mem_of_getElem? (i := 357) (by decide +kernel), List.mem_of_getElem? (i := 495) (by decide +kernel), List.mem_of_getElem? (i := 496) (by decide +kernel)⟩
theorem lw_p22 : lw_okq (⟨"DaySwapsModel", "timeOf", "([II)I"⟩, 28) := ⟨⟨by decide +kernel, by decide +kernel⟩, List.mem_of_getElem? (i := 357) (by decide +kernel), List.mem_of_getElem? (i := 499) (by decide +kernel), List.mem_of_getElem? (i := 500) (by decide +kernel)⟩
theorem lw_p23 : lw_okq (⟨"DaySwapsModel", "go", "([II)V"⟩, 28) := ⟨⟨by decide +kernel, by decide +kernel⟩, List.mem_of_getElem? (i := 357) (by decide +kernel), List.mem_of_getElem? (i := 503) (by decide +kernel), List.mem_of_getElem? (i := 504) (by decide +kernel)⟩
theorem lw_p24 : lw_okq (⟨"DaySwapsModel", "overtimeOf", "([II)I"⟩, 28) := ⟨⟨by decide +kernel, by decide +kernel⟩, List.mem_of_getElem? (i := 357) (by decide +kernel), List.mem_of_getElem? (i := 507) (by decide +kernel), List.mem_of_getElem? (i := 508) (by decide +kernel)⟩
theorem lw_p25 : lw_okq (⟨"DaySwapsModel", "movedBy", "([I)I"⟩, 28) := ⟨⟨by decide +kernel, by decide +kernel⟩, List.mem_of_getElem? (i := 357) (by decide +kernel), List.mem_of_getElem? (i := 519) (by decide +kernel), List.mem_of_getElem? (i := 520) (by decide +kernel)⟩
theorem lw_p26 : lw_okq (⟨"DaySwapsModel", "holdsApart", "()Z"⟩, 28) := ⟨⟨by decide +kernel, by decide +kernel⟩, List.mem_of_getElem? (i := 357) (by decide +kernel), List.mem_of_getElem? (i := 523) (by decide +kernel), List.mem_of_getElem? (i := 524) (by decide +kernel)⟩
theorem lw_p27 : lw_okq (⟨"DaySwapsModel", "can", "(II)Z"⟩, 28) := ⟨⟨by decide +kernel, by decide +kernel⟩, List.mem_of_getElem? (i := 357) (by decide +kernel), List.mem_of_getElem? (i := 527) (by decide +kernel), List.mem_of_getElem? (i := 528) (by decide +kernel)⟩
theorem lw_p28 : lw_okq (⟨"DaySwapsModel", "holdsOvertime", "()Z"⟩, 28) := ⟨⟨by decide +kernel, by decide +kernel⟩, List.mem_of_getElem? (i := 357) (by decide +kernel), List.mem_of_getElem? (i := 531) (by decide +kernel), List.mem_of_getElem? (i := 532) (by decide +kernel)⟩
theorem lw_p29 : lw_okq (⟨"DaySwapsModel", "turn", "()Z"⟩, 28) := ⟨⟨by decide +kernel, by decide +kernel⟩, List.mem_of_getElem? (i := 357) (by decide +kernel), List.mem_of_getElem? (i := 535) (by decide +kernel), List.mem_of_getElem? (i := 536) (by decide +kernel)⟩
theorem lw_p30 : lw_okq (⟨"DaySwapsModel", "why", "()I"⟩, 28) := ⟨⟨by decide +kernel, by decide +kernel⟩, List.mem_of_getElem? (i := 357) (by decide +kernel), List.mem_of_getElem? (i := 539) (by decide +kernel), List.mem_of_getElem? (i := 540) (by decide +kernel)⟩
theorem lw_p31 : lw_okq (⟨"DaySwapsModel", "keep", "()V"⟩, 28) := ⟨⟨by decide +kernel, by decide +kernel⟩, List.mem_of_getElem? (i := 357) (by decide +kernel), List.mem_of_getElem? (i := 543) (by decide +kernel), List.mem_of_getElem? (i := 544) (by decide +kernel)⟩
def lw_privs_2 : List (MethodName × Nat) := [(⟨"DaySwaps$Day", "placeInRound", "(III)I"⟩, 17), (⟨"DaySwaps$Day", "prepareRow", "(III)V"⟩, 17), (⟨"DaySwaps$Day", "turn", "()V"⟩, 17), (⟨"DaySwapsModel", "isVehicle", "(I)Z"⟩, 28), (⟨"DaySwapsModel", "isStop", "(I)Z"⟩, 28), (⟨"DaySwapsModel", "costOf", "([I)J"⟩, 28), (⟨"DaySwapsModel", "timeOf", "([II)I"⟩, 28), (⟨"DaySwapsModel", "go", "([II)V"⟩, 28), (⟨"DaySwapsModel", "overtimeOf", "([II)I"⟩, 28), (⟨"DaySwapsModel", "movedBy", "([I)I"⟩, 28), (⟨"DaySwapsModel", "holdsApart", "()Z"⟩, 28), (⟨"DaySwapsModel", "can", "(II)Z"⟩, 28), (⟨"DaySwapsModel", "holdsOvertime", "()Z"⟩, 28), (⟨"DaySwapsModel", "turn", "()Z"⟩, 28), (⟨"DaySwapsModel", "why", "()I"⟩, 28), (⟨"DaySwapsModel", "keep", "()V"⟩, 28)]
theorem lw_r2 : ∀ q ∈ lw_privs_2, lw_okq q := List.forall_mem_cons.mpr ⟨lw_p16, List.forall_mem_cons.mpr ⟨lw_p17, List.forall_mem_cons.mpr ⟨lw_p18, List.forall_mem_cons.mpr ⟨lw_p19, List.forall_mem_cons.mpr ⟨lw_p20, List.forall_mem_cons.mpr ⟨lw_p21, List.forall_mem_cons.mpr ⟨lw_p22, List.forall_mem_cons.mpr ⟨lw_p23, List.forall_mem_cons.mpr ⟨lw_p24, List.forall_mem_cons.mpr ⟨lw_p25, List.forall_mem_cons.mpr ⟨lw_p26, List.forall_mem_cons.mpr ⟨lw_p27, List.forall_mem_cons.mpr ⟨lw_p28, List.forall_mem_cons.mpr ⟨lw_p29, List.forall_mem_cons.mpr ⟨lw_p30, List.forall_mem_cons.mpr ⟨lw_p31, fun _ h => absurd h List.not_mem_nil⟩⟩⟩⟩⟩⟩⟩⟩⟩⟩⟩⟩⟩⟩⟩⟩
def lw_privs : List (MethodName × Nat) := lw_privs_1 ++ (lw_privs_2)
def lw_tbl : List Cond := k2_sels lw_privs ++ tables_1
theorem lw_privs_ok : ∀ q ∈ lw_privs, lw_okq q := by
  show ∀ q ∈ lw_privs_1 ++ (lw_privs_2), lw_okq q
  exact List.forall_mem_append.mpr ⟨lw_r1, lw_r2⟩
end
section
/-! names: classes, fields, methods -/
def R_DS : String := "DaySwaps"
def F_DS : u_T := fun k => match k with
  | 0 => ("DaySwaps", "day", "LDaySwaps$Day;", true)
  | 1 => ("DaySwaps", "search", "LDaySwaps$Search;", true)
  | 2 => ("DaySwaps", "kept", "LDaySwaps$Shelf;", true)
  | 3 => ("DaySwaps", "beside", "LDaySwaps$Shelf;", true)
  | 4 => ("DaySwaps", "plan", "[I", true)
  | 5 => ("DaySwaps", "noticed", "[I", true)
  | _ => ("DaySwaps", "notices", "[I", true)
def t_DS : Nat → FieldType := fun k => match k with
  | 0 => .object "DaySwaps$Day"
  | 1 => .object "DaySwaps$Search"
  | 2 => .object "DaySwaps$Shelf"
  | 3 => .object "DaySwaps$Shelf"
  | 4 => .array .int
  | 5 => .array .int
  | _ => .array .int
theorem n_DS : ∀ a, a < 7 → ∀ b, b < 7 → a ≠ b → (F_DS a).2.1 ≠ (F_DS b).2.1 := by decide +kernel
theorem t_DS_ok : ∀ k, k < 7 → parseFieldDescriptor (F_DS k).2.2.1 = some (t_DS k) := by decide +kernel
theorem i0_DS : ∀ w ∈ u_ws R_DS F_DS 7, w ∈ lw_tbl := by decide +kernel
def R_Day : String := "DaySwaps$Day"
def F_Day : u_T := fun k => match k with
  | 0 => ("DaySwaps$Day", "vehicles", "I", true)
  | 1 => ("DaySwaps$Day", "stops", "I", false)
  | 2 => ("DaySwaps$Day", "placeOf", "[I", true)
  | 3 => ("DaySwaps$Day", "serviceOf", "[I", true)
  | 4 => ("DaySwaps$Day", "rowOf", "[I", true)
  | 5 => ("DaySwaps$Day", "rankOf", "[I", true)
  | 6 => ("DaySwaps$Day", "frozen", "[Z", true)
  | 7 => ("DaySwaps$Day", "blocked", "[Z", true)
  | 8 => ("DaySwaps$Day", "rows", "[[I", true)
  | 9 => ("DaySwaps$Day", "lengthOf", "[I", true)
  | 10 => ("DaySwaps$Day", "newRows", "[[I", true)
  | 11 => ("DaySwaps$Day", "newLengthOf", "[I", true)
  | 12 => ("DaySwaps$Day", "outFrom", "[I", true)
  | 13 => ("DaySwaps$Day", "hoursOf", "[I", true)
  | 14 => ("DaySwaps$Day", "ways", "[[I", true)
  | 15 => ("DaySwaps$Day", "round", "[I", true)
  | _ => ("DaySwaps$Day", "mostOver", "I", false)
def t_Day : Nat → FieldType := fun k => match k with
  | 0 => .int
  | 1 => .int
  | 2 => .array .int
  | 3 => .array .int
  | 4 => .array .int
  | 5 => .array .int
  | 6 => .array .boolean
  | 7 => .array .boolean
  | 8 => .array (.array .int)
  | 9 => .array .int
  | 10 => .array (.array .int)
  | 11 => .array .int
  | 12 => .array .int
  | 13 => .array .int
  | 14 => .array (.array .int)
  | 15 => .array .int
  | _ => .int
theorem n_Day : ∀ a, a < 17 → ∀ b, b < 17 → a ≠ b → (F_Day a).2.1 ≠ (F_Day b).2.1 := by decide +kernel
theorem t_Day_ok : ∀ k, k < 17 → parseFieldDescriptor (F_Day k).2.2.1 = some (t_Day k) := by decide +kernel
theorem i0_Day : ∀ w ∈ u_ws R_Day F_Day 17, w ∈ lw_tbl := by decide +kernel
def R_Se : String := "DaySwaps$Search"
def F_Se : u_T := fun k => match k with
  | 0 => ("DaySwaps$Search", "day", "LDaySwaps$Day;", true)
  | 1 => ("DaySwaps$Search", "weights", "[J", true)
  | _ => ("DaySwaps$Search", "best", "[J", true)
def t_Se : Nat → FieldType := fun k => match k with
  | 0 => .object "DaySwaps$Day"
  | 1 => .array .long
  | _ => .array .long
theorem n_Se : ∀ a, a < 3 → ∀ b, b < 3 → a ≠ b → (F_Se a).2.1 ≠ (F_Se b).2.1 := by decide +kernel
theorem t_Se_ok : ∀ k, k < 3 → parseFieldDescriptor (F_Se k).2.2.1 = some (t_Se k) := by decide +kernel
theorem i0_Se : ∀ w ∈ u_ws R_Se F_Se 3, w ∈ lw_tbl := by decide +kernel
def R_Sh : String := "DaySwaps$Shelf"
def F_Sh : u_T := fun k => match k with
  | 0 => ("DaySwaps$Shelf", "plans", "[[I", true)
  | 1 => ("DaySwaps$Shelf", "stopsOf", "[I", true)
  | _ => ("DaySwaps$Shelf", "size", "I", false)
def t_Sh : Nat → FieldType := fun k => match k with
  | 0 => .array (.array .int)
  | 1 => .array .int
  | _ => .int
theorem n_Sh : ∀ a, a < 3 → ∀ b, b < 3 → a ≠ b → (F_Sh a).2.1 ≠ (F_Sh b).2.1 := by decide +kernel
theorem t_Sh_ok : ∀ k, k < 3 → parseFieldDescriptor (F_Sh k).2.2.1 = some (t_Sh k) := by decide +kernel
theorem i0_Sh : ∀ w ∈ u_ws R_Sh F_Sh 3, w ∈ lw_tbl := by decide +kernel
def R_Mo : String := "DaySwapsModel"
def F_Mo : u_T := fun k => match k with
  | 0 => ("DaySwapsModel", "vehicles", "I", true)
  | 1 => ("DaySwapsModel", "stops", "I", false)
  | 2 => ("DaySwapsModel", "places", "[I", true)
  | 3 => ("DaySwapsModel", "services", "[I", true)
  | 4 => ("DaySwapsModel", "homes", "[I", true)
  | 5 => ("DaySwapsModel", "positions", "[I", true)
  | 6 => ("DaySwapsModel", "rowSizes", "[I", true)
  | 7 => ("DaySwapsModel", "frozen", "[Z", true)
  | 8 => ("DaySwapsModel", "blocked", "[Z", true)
  | 9 => ("DaySwapsModel", "outs", "[I", true)
  | 10 => ("DaySwapsModel", "hours", "[I", true)
  | 11 => ("DaySwapsModel", "ways", "[I", true)
  | 12 => ("DaySwapsModel", "extra", "I", false)
  | 13 => ("DaySwapsModel", "plan", "[I", true)
  | 14 => ("DaySwapsModel", "trying", "[I", true)
  | 15 => ("DaySwapsModel", "best", "[I", true)
  | 16 => ("DaySwapsModel", "kept", "I", false)
  | 17 => ("DaySwapsModel", "keptPlans", "[I", true)
  | 18 => ("DaySwapsModel", "keptStops", "[I", true)
  | 19 => ("DaySwapsModel", "copies", "I", false)
  | 20 => ("DaySwapsModel", "copyPlans", "[I", true)
  | 21 => ("DaySwapsModel", "copyStops", "[I", true)
  | 22 => ("DaySwapsModel", "noticed", "[I", true)
  | 23 => ("DaySwapsModel", "notices", "[I", true)
  | 24 => ("DaySwapsModel", "round", "[I", true)
  | 25 => ("DaySwapsModel", "roundSize", "I", false)
  | 26 => ("DaySwapsModel", "newHomes", "[I", true)
  | _ => ("DaySwapsModel", "newPositions", "[I", true)
def t_Mo : Nat → FieldType := fun k => match k with
  | 0 => .int
  | 1 => .int
  | 2 => .array .int
  | 3 => .array .int
  | 4 => .array .int
  | 5 => .array .int
  | 6 => .array .int
  | 7 => .array .boolean
  | 8 => .array .boolean
  | 9 => .array .int
  | 10 => .array .int
  | 11 => .array .int
  | 12 => .int
  | 13 => .array .int
  | 14 => .array .int
  | 15 => .array .int
  | 16 => .int
  | 17 => .array .int
  | 18 => .array .int
  | 19 => .int
  | 20 => .array .int
  | 21 => .array .int
  | 22 => .array .int
  | 23 => .array .int
  | 24 => .array .int
  | 25 => .int
  | 26 => .array .int
  | _ => .array .int
theorem n_Mo : ∀ a, a < 28 → ∀ b, b < 28 → a ≠ b → (F_Mo a).2.1 ≠ (F_Mo b).2.1 := by decide +kernel
theorem t_Mo_ok : ∀ k, k < 28 → parseFieldDescriptor (F_Mo k).2.2.1 = some (t_Mo k) := by decide +kernel
theorem i0_Mo : ∀ w ∈ u_ws R_Mo F_Mo 28, w ∈ lw_tbl := by decide +kernel
abbrev classes : List vw_C := [(R_DS, F_DS, 7), (R_Day, F_Day, 17), (R_Se, F_Se, 3), (R_Sh, F_Sh, 3), (R_Mo, F_Mo, 28)]
abbrev b_DS_init : ByteArray := prog_1_method_1_code
def y_DS_init : MethodName := ⟨R_DS, "<init>", "(I)V"⟩
abbrev b_DS_isWithin : ByteArray := prog_1_method_28_code
def y_DS_isWithin : MethodName := ⟨R_DS, "isWithin", "(III)Z"⟩
abbrev b_Day_init : ByteArray := prog_2_method_1_code
def y_Day_init : MethodName := ⟨R_Day, "<init>", "(I)V"⟩
abbrev b_Ar_fill : ByteArray := prog_10_method_103_code
def y_Ar_fill : MethodName := ⟨"java/util/Arrays", "fill", "([II)V"⟩
abbrev b_Se_init : ByteArray := prog_3_method_1_code
def y_Se_init : MethodName := ⟨R_Se, "<init>", "(LDaySwaps$Day;)V"⟩
abbrev b_Sh_init : ByteArray := prog_4_method_1_code
def y_Sh_init : MethodName := ⟨R_Sh, "<init>", "(I)V"⟩
abbrev b_DS_stop : ByteArray := prog_1_method_2_code
def y_DS_stop : MethodName := ⟨R_DS, "stop", "(III)I"⟩
abbrev b_Day_isVehicle : ByteArray := prog_2_method_2_code
def y_Day_isVehicle : MethodName := ⟨R_Day, "isVehicle", "(I)Z"⟩
abbrev b_DS_isPlace : ByteArray := prog_1_method_27_code
def y_DS_isPlace : MethodName := ⟨R_DS, "isPlace", "(I)Z"⟩
abbrev b_Day_tell : ByteArray := prog_2_method_4_code
def y_Day_tell : MethodName := ⟨R_Day, "tell", "(III)I"⟩
abbrev b_Day_append : ByteArray := prog_2_method_5_code
def y_Day_append : MethodName := ⟨R_Day, "append", "(II)V"⟩
abbrev b_DS_freeze : ByteArray := prog_1_method_3_code
def y_DS_freeze : MethodName := ⟨R_DS, "freeze", "(IZ)Z"⟩
abbrev b_Day_isStop : ByteArray := prog_2_method_3_code
def y_Day_isStop : MethodName := ⟨R_Day, "isStop", "(I)Z"⟩
abbrev b_DS_block : ByteArray := prog_1_method_4_code
def y_DS_block : MethodName := ⟨R_DS, "block", "(IZ)Z"⟩
abbrev b_DS_out : ByteArray := prog_1_method_5_code
def y_DS_out : MethodName := ⟨R_DS, "out", "(II)Z"⟩
abbrev b_DS_way : ByteArray := prog_1_method_6_code
def y_DS_way : MethodName := ⟨R_DS, "way", "(III)Z"⟩
abbrev b_DS_hours : ByteArray := prog_1_method_7_code
def y_DS_hours : MethodName := ⟨R_DS, "hours", "(II)Z"⟩
abbrev b_DS_extra : ByteArray := prog_1_method_8_code
def y_DS_extra : MethodName := ⟨R_DS, "extra", "(I)Z"⟩
abbrev b_DS_run : ByteArray := prog_1_method_9_code
def y_DS_run : MethodName := ⟨R_DS, "run", "()I"⟩
abbrev b_Se_least : ByteArray := prog_3_method_2_code
def y_Se_least : MethodName := ⟨R_Se, "least", "()J"⟩
abbrev b_Se_weightOf : ByteArray := prog_3_method_4_code
def y_Se_weightOf : MethodName := ⟨R_Se, "weightOf", "(II)J"⟩
abbrev b_DS_isIn : ByteArray := prog_1_method_26_code
def y_DS_isIn : MethodName := ⟨R_DS, "isIn", "(II)Z"⟩
abbrev b_Day_mayHave : ByteArray := prog_2_method_7_code
def y_Day_mayHave : MethodName := ⟨R_Day, "mayHave", "(II)Z"⟩
abbrev b_Day_canDo : ByteArray := prog_2_method_6_code
def y_Day_canDo : MethodName := ⟨R_Day, "canDo", "(II)Z"⟩
abbrev b_Se_digitShift : ByteArray := prog_3_method_6_code
def y_Se_digitShift : MethodName := ⟨R_Se, "digitShift", "(I)I"⟩
abbrev b_Day_timeOf : ByteArray := prog_2_method_10_code
def y_Day_timeOf : MethodName := ⟨R_Day, "timeOf", "(II)I"⟩
abbrev b_Day_addRound : ByteArray := prog_2_method_8_code
def y_Day_addRound : MethodName := ⟨R_Day, "addRound", "(II[II)I"⟩
abbrev b_Day_overHours : ByteArray := prog_2_method_11_code
def y_Day_overHours : MethodName := ⟨R_Day, "overHours", "(II)I"⟩
abbrev b_Se_join : ByteArray := prog_3_method_3_code
def y_Se_join : MethodName := ⟨R_Se, "join", "(I)V"⟩
abbrev b_DS_whyNoPlan : ByteArray := prog_1_method_22_code
def y_DS_whyNoPlan : MethodName := ⟨R_DS, "whyNoPlan", "()I"⟩
abbrev b_Sh_putLatest : ByteArray := prog_4_method_2_code
def y_Sh_putLatest : MethodName := ⟨R_Sh, "putLatest", "([II)V"⟩
abbrev b_Se_vehicleIn : ByteArray := prog_3_method_5_code
def y_Se_vehicleIn : MethodName := ⟨R_Se, "vehicleIn", "(JI)I"⟩
abbrev b_DS_movedSet : ByteArray := prog_1_method_24_code
def y_DS_movedSet : MethodName := ⟨R_DS, "movedSet", "()I"⟩
abbrev b_In_bitCount : ByteArray := prog_7_method_49_code
def y_In_bitCount : MethodName := ⟨"java/lang/Integer", "bitCount", "(I)I"⟩
abbrev b_DS_vehicleOf : ByteArray := prog_1_method_10_code
def y_DS_vehicleOf : MethodName := ⟨R_DS, "vehicleOf", "(I)I"⟩
abbrev b_DS_place : ByteArray := prog_1_method_11_code
def y_DS_place : MethodName := ⟨R_DS, "place", "(I)I"⟩
abbrev b_DS_setOf : ByteArray := prog_1_method_23_code
def y_DS_setOf : MethodName := ⟨R_DS, "setOf", "(I)I"⟩
abbrev b_Day_placeInRound : ByteArray := prog_2_method_9_code
def y_Day_placeInRound : MethodName := ⟨R_Day, "placeInRound", "(III)I"⟩
abbrev b_DS_moved : ByteArray := prog_1_method_12_code
def y_DS_moved : MethodName := ⟨R_DS, "moved", "(I)I"⟩
abbrev b_DS_stopAt : ByteArray := prog_1_method_25_code
def y_DS_stopAt : MethodName := ⟨R_DS, "stopAt", "(II)I"⟩
abbrev b_DS_carried : ByteArray := prog_1_method_13_code
def y_DS_carried : MethodName := ⟨R_DS, "carried", "(I)I"⟩
abbrev b_DS_send : ByteArray := prog_1_method_14_code
def y_DS_send : MethodName := ⟨R_DS, "send", "()I"⟩
abbrev b_DS_sent : ByteArray := prog_1_method_15_code
def y_DS_sent : MethodName := ⟨R_DS, "sent", "(I)I"⟩
abbrev b_DS_undo : ByteArray := prog_1_method_16_code
def y_DS_undo : MethodName := ⟨R_DS, "undo", "()Z"⟩
abbrev b_DS_copy : ByteArray := prog_1_method_17_code
def y_DS_copy : MethodName := ⟨R_DS, "copy", "()I"⟩
abbrev b_DS_compare : ByteArray := prog_1_method_18_code
def y_DS_compare : MethodName := ⟨R_DS, "compare", "(II)I"⟩
abbrev b_DS_cost : ByteArray := prog_1_method_19_code
def y_DS_cost : MethodName := ⟨R_DS, "cost", "()J"⟩
abbrev b_DS_overtime : ByteArray := prog_1_method_20_code
def y_DS_overtime : MethodName := ⟨R_DS, "overtime", "(I)I"⟩
abbrev b_DS_next : ByteArray := prog_1_method_21_code
def y_DS_next : MethodName := ⟨R_DS, "next", "()I"⟩
abbrev b_Day_prepareRow : ByteArray := prog_2_method_12_code
def y_Day_prepareRow : MethodName := ⟨R_Day, "prepareRow", "(III)V"⟩
abbrev b_Day_turn : ByteArray := prog_2_method_13_code
def y_Day_turn : MethodName := ⟨R_Day, "turn", "()V"⟩
abbrev b_La_cell : ByteArray := method_2_code
def y_La_cell : MethodName := ⟨"DaySwapsLaw", "cell", "([II)I"⟩
abbrev b_Mo_init : ByteArray := prog_6_method_1_code
def y_Mo_init : MethodName := ⟨R_Mo, "<init>", "(I)V"⟩
abbrev b_Mo_stop : ByteArray := prog_6_method_6_code
def y_Mo_stop : MethodName := ⟨R_Mo, "stop", "(III)I"⟩
abbrev b_Mo_isVehicle : ByteArray := prog_6_method_4_code
def y_Mo_isVehicle : MethodName := ⟨R_Mo, "isVehicle", "(I)Z"⟩
abbrev b_Mo_isIn : ByteArray := prog_6_method_3_code
def y_Mo_isIn : MethodName := ⟨R_Mo, "isIn", "(JJJ)Z"⟩
abbrev b_Mo_freeze : ByteArray := prog_6_method_7_code
def y_Mo_freeze : MethodName := ⟨R_Mo, "freeze", "(IZ)Z"⟩
abbrev b_Mo_isStop : ByteArray := prog_6_method_5_code
def y_Mo_isStop : MethodName := ⟨R_Mo, "isStop", "(I)Z"⟩
abbrev b_Mo_block : ByteArray := prog_6_method_8_code
def y_Mo_block : MethodName := ⟨R_Mo, "block", "(IZ)Z"⟩
abbrev b_Mo_out : ByteArray := prog_6_method_9_code
def y_Mo_out : MethodName := ⟨R_Mo, "out", "(II)Z"⟩
abbrev b_Mo_way : ByteArray := prog_6_method_10_code
def y_Mo_way : MethodName := ⟨R_Mo, "way", "(III)Z"⟩
abbrev b_Mo_hours : ByteArray := prog_6_method_11_code
def y_Mo_hours : MethodName := ⟨R_Mo, "hours", "(II)Z"⟩
abbrev b_Mo_extra : ByteArray := prog_6_method_12_code
def y_Mo_extra : MethodName := ⟨R_Mo, "extra", "(I)Z"⟩
abbrev b_Mo_cost : ByteArray := prog_6_method_17_code
def y_Mo_cost : MethodName := ⟨R_Mo, "cost", "()J"⟩
abbrev b_Mo_costOf : ByteArray := prog_6_method_16_code
def y_Mo_costOf : MethodName := ⟨R_Mo, "costOf", "([I)J"⟩
abbrev b_Mo_timeOf : ByteArray := prog_6_method_14_code
def y_Mo_timeOf : MethodName := ⟨R_Mo, "timeOf", "([II)I"⟩
abbrev b_Mo_go : ByteArray := prog_6_method_13_code
def y_Mo_go : MethodName := ⟨R_Mo, "go", "([II)V"⟩
abbrev b_Mo_overtimeOf : ByteArray := prog_6_method_15_code
def y_Mo_overtimeOf : MethodName := ⟨R_Mo, "overtimeOf", "([II)I"⟩
abbrev b_Mo_overtime : ByteArray := prog_6_method_18_code
def y_Mo_overtime : MethodName := ⟨R_Mo, "overtime", "(I)I"⟩
abbrev b_Mo_run : ByteArray := prog_6_method_25_code
def y_Mo_run : MethodName := ⟨R_Mo, "run", "()I"⟩
abbrev b_Mo_movedBy : ByteArray := prog_6_method_22_code
def y_Mo_movedBy : MethodName := ⟨R_Mo, "movedBy", "([I)I"⟩
abbrev b_Mo_holdsApart : ByteArray := prog_6_method_20_code
def y_Mo_holdsApart : MethodName := ⟨R_Mo, "holdsApart", "()Z"⟩
abbrev b_Mo_can : ByteArray := prog_6_method_19_code
def y_Mo_can : MethodName := ⟨R_Mo, "can", "(II)Z"⟩
abbrev b_Mo_holdsOvertime : ByteArray := prog_6_method_21_code
def y_Mo_holdsOvertime : MethodName := ⟨R_Mo, "holdsOvertime", "()Z"⟩
abbrev b_Mo_turn : ByteArray := prog_6_method_23_code
def y_Mo_turn : MethodName := ⟨R_Mo, "turn", "()Z"⟩
abbrev b_Mo_why : ByteArray := prog_6_method_24_code
def y_Mo_why : MethodName := ⟨R_Mo, "why", "()I"⟩
abbrev b_Mo_keep : ByteArray := prog_6_method_26_code
def y_Mo_keep : MethodName := ⟨R_Mo, "keep", "()V"⟩
abbrev b_Mo_undo : ByteArray := prog_6_method_27_code
def y_Mo_undo : MethodName := ⟨R_Mo, "undo", "()Z"⟩
abbrev b_Mo_vehicleOf : ByteArray := prog_6_method_28_code
def y_Mo_vehicleOf : MethodName := ⟨R_Mo, "vehicleOf", "(I)I"⟩
abbrev b_Mo_place : ByteArray := prog_6_method_29_code
def y_Mo_place : MethodName := ⟨R_Mo, "place", "(I)I"⟩
abbrev b_Mo_moved : ByteArray := prog_6_method_30_code
def y_Mo_moved : MethodName := ⟨R_Mo, "moved", "(I)I"⟩
abbrev b_Mo_carried : ByteArray := prog_6_method_31_code
def y_Mo_carried : MethodName := ⟨R_Mo, "carried", "(I)I"⟩
abbrev b_Mo_send : ByteArray := prog_6_method_32_code
def y_Mo_send : MethodName := ⟨R_Mo, "send", "()I"⟩
abbrev b_Mo_sent : ByteArray := prog_6_method_33_code
def y_Mo_sent : MethodName := ⟨R_Mo, "sent", "(I)I"⟩
abbrev b_Mo_copy : ByteArray := prog_6_method_34_code
def y_Mo_copy : MethodName := ⟨R_Mo, "copy", "()I"⟩
abbrev b_Mo_compare : ByteArray := prog_6_method_35_code
def y_Mo_compare : MethodName := ⟨R_Mo, "compare", "(II)I"⟩
abbrev b_Mo_next : ByteArray := prog_6_method_36_code
def y_Mo_next : MethodName := ⟨R_Mo, "next", "()I"⟩
end
section
/-! the words that are used, by their places in the tables -/
def ds_T : List Cond := lw_tbl.filter goodWord
theorem ds_mem {w : Cond} (h : w ∈ lw_tbl) (hg : goodWord w = true) : w ∈ ds_T := List.mem_filter.mpr ⟨h, hg⟩
theorem ds_good : GoodIn ds_T ds_T := fun w hw => ⟨hw, good_of_word (List.mem_filter.mp hw).2⟩
theorem i_DS : ∀ w ∈ u_ws R_DS F_DS 7, w ∈ ds_T := fun w hw => ds_mem (i0_DS w hw) (List.all_eq_true.mp (show (u_ws R_DS F_DS 7).all goodWord = true by decide +kernel) w hw)
theorem i_Day : ∀ w ∈ u_ws R_Day F_Day 17, w ∈ ds_T := fun w hw => ds_mem (i0_Day w hw) (List.all_eq_true.mp (show (u_ws R_Day F_Day 17).all goodWord = true by decide +kernel) w hw)
theorem i_Se : ∀ w ∈ u_ws R_Se F_Se 3, w ∈ ds_T := fun w hw => ds_mem (i0_Se w hw) (List.all_eq_true.mp (show (u_ws R_Se F_Se 3).all goodWord = true by decide +kernel) w hw)
theorem i_Sh : ∀ w ∈ u_ws R_Sh F_Sh 3, w ∈ ds_T := fun w hw => ds_mem (i0_Sh w hw) (List.all_eq_true.mp (show (u_ws R_Sh F_Sh 3).all goodWord = true by decide +kernel) w hw)
theorem i_Mo : ∀ w ∈ u_ws R_Mo F_Mo 28, w ∈ ds_T := fun w hw => ds_mem (i0_Mo w hw) (List.all_eq_true.mp (show (u_ws R_Mo F_Mo 28).all goodWord = true by decide +kernel) w hw)
theorem wd_0 : Cond.initialized "DaySwapsLaw" ∈ ds_T := ds_mem (List.mem_append_right _ (List.mem_of_getElem? (i := 0) (by decide +kernel))) rfl
theorem wd_1 : Cond.initialized "DaySwaps" ∈ ds_T := ds_mem (List.mem_append_right _ (List.mem_of_getElem? (i := 1) (by decide +kernel))) rfl
theorem wd_2 : Cond.initialized "DaySwaps$Day" ∈ ds_T := ds_mem (List.mem_append_right _ (List.mem_of_getElem? (i := 2) (by decide +kernel))) rfl
theorem wd_3 : Cond.initialized "java/util/Arrays" ∈ ds_T := ds_mem (List.mem_append_right _ (List.mem_of_getElem? (i := 3) (by decide +kernel))) rfl
theorem wd_4 : Cond.initialized "DaySwaps$Search" ∈ ds_T := ds_mem (List.mem_append_right _ (List.mem_of_getElem? (i := 4) (by decide +kernel))) rfl
theorem wd_5 : Cond.initialized "DaySwaps$Shelf" ∈ ds_T := ds_mem (List.mem_append_right _ (List.mem_of_getElem? (i := 5) (by decide +kernel))) rfl
theorem wd_6 : Cond.initialized "DaySwapsModel" ∈ ds_T := ds_mem (List.mem_append_right _ (List.mem_of_getElem? (i := 6) (by decide +kernel))) rfl
theorem wd_7 : Cond.initialized "java/lang/Math" ∈ ds_T := ds_mem (List.mem_append_right _ (List.mem_of_getElem? (i := 7) (by decide +kernel))) rfl
theorem wd_8 : Cond.initialized "java/lang/System" ∈ ds_T := ds_mem (List.mem_append_right _ (List.mem_of_getElem? (i := 8) (by decide +kernel))) rfl
theorem wd_9 : Cond.initialized "java/lang/Integer" ∈ ds_T := ds_mem (List.mem_append_right _ (List.mem_of_getElem? (i := 9) (by decide +kernel))) rfl
theorem wd_10 : Cond.classLink "DaySwapsLaw" 7 "DaySwaps" ∈ ds_T := ds_mem (List.mem_append_right _ (List.mem_of_getElem? (i := 10) (by decide +kernel))) rfl
theorem wd_11 : Cond.instantiable "DaySwaps" 7 ∈ ds_T := ds_mem (List.mem_append_right _ (List.mem_of_getElem? (i := 11) (by decide +kernel))) rfl
theorem wd_12 : Cond.methodLink "DaySwapsLaw" 15 y_DS_init ∈ ds_T := ds_mem (List.mem_append_right _ (List.mem_of_getElem? (i := 12) (by decide +kernel))) rfl
theorem wd_13 : Cond.instanceMethod y_DS_init ∈ ds_T := ds_mem (List.mem_append_right _ (List.mem_of_getElem? (i := 13) (by decide +kernel))) rfl
theorem wd_14 : Cond.code y_DS_init prog_1_method_1_code 2 none ∈ ds_T := ds_mem (List.mem_append_right _ (List.mem_of_getElem? (i := 14) (by decide +kernel))) rfl
theorem wd_15 : Cond.methodLink "DaySwaps" 1 ⟨"java/lang/Object", "<init>", "()V"⟩ ∈ ds_T := ds_mem (List.mem_append_right _ (List.mem_of_getElem? (i := 15) (by decide +kernel))) rfl
theorem wd_16 : Cond.instanceMethod ⟨"java/lang/Object", "<init>", "()V"⟩ ∈ ds_T := ds_mem (List.mem_append_right _ (List.mem_of_getElem? (i := 16) (by decide +kernel))) rfl
theorem wd_17 : Cond.code ⟨"java/lang/Object", "<init>", "()V"⟩ object_method_1_code 1 none ∈ ds_T := ds_mem (List.mem_append_right _ (List.mem_of_getElem? (i := 17) (by decide +kernel))) rfl
theorem wd_18 : Cond.classLink "DaySwaps" 7 "DaySwaps$Day" ∈ ds_T := ds_mem (List.mem_append_right _ (List.mem_of_getElem? (i := 18) (by decide +kernel))) rfl
theorem wd_19 : Cond.instantiable "DaySwaps$Day" 17 ∈ ds_T := ds_mem (List.mem_append_right _ (List.mem_of_getElem? (i := 19) (by decide +kernel))) rfl
theorem wd_20 : Cond.methodLink "DaySwaps" 11 y_DS_isWithin ∈ ds_T := ds_mem (List.mem_append_right _ (List.mem_of_getElem? (i := 20) (by decide +kernel))) rfl
theorem wd_21 : Cond.static y_DS_isWithin ∈ ds_T := ds_mem (List.mem_append_right _ (List.mem_of_getElem? (i := 21) (by decide +kernel))) rfl
theorem wd_22 : Cond.code y_DS_isWithin prog_1_method_28_code 3 (some FieldType.boolean) ∈ ds_T := ds_mem (List.mem_append_right _ (List.mem_of_getElem? (i := 22) (by decide +kernel))) rfl
theorem wd_23 : Cond.methodLinkNest "DaySwaps" 15 y_Day_init "DaySwaps" ∈ lw_tbl := List.mem_append_right _ (List.mem_of_getElem? (i := 23) (by decide +kernel))
theorem wd_24 : Cond.instanceMethod y_Day_init ∈ ds_T := ds_mem (List.mem_append_right _ (List.mem_of_getElem? (i := 24) (by decide +kernel))) rfl
theorem wd_25 : Cond.code y_Day_init prog_2_method_1_code 3 none ∈ ds_T := ds_mem (List.mem_append_right _ (List.mem_of_getElem? (i := 25) (by decide +kernel))) rfl
theorem wd_26 : Cond.methodLink "DaySwaps$Day" 3 ⟨"java/lang/Object", "<init>", "()V"⟩ ∈ ds_T := ds_mem (List.mem_append_right _ (List.mem_of_getElem? (i := 26) (by decide +kernel))) rfl
theorem wd_27 : Cond.classLink "DaySwaps$Day" 31 "[[I" ∈ ds_T := ds_mem (List.mem_append_right _ (List.mem_of_getElem? (i := 27) (by decide +kernel))) rfl
theorem wd_28 : Cond.arrayOver (FieldType.array FieldType.int) ∈ lw_tbl := List.mem_append_right _ (List.mem_of_getElem? (i := 28) (by decide +kernel))
theorem wd_29 : Cond.methodLink "DaySwaps$Day" 61 y_Ar_fill ∈ ds_T := ds_mem (List.mem_append_right _ (List.mem_of_getElem? (i := 29) (by decide +kernel))) rfl
theorem wd_30 : Cond.static y_Ar_fill ∈ ds_T := ds_mem (List.mem_append_right _ (List.mem_of_getElem? (i := 30) (by decide +kernel))) rfl
theorem wd_31 : Cond.code y_Ar_fill prog_10_method_103_code 4 none ∈ ds_T := ds_mem (List.mem_append_right _ (List.mem_of_getElem? (i := 31) (by decide +kernel))) rfl
theorem wd_32 : Cond.fieldLink "DaySwaps$Day" 57 "DaySwaps$Day" "vehicles" "I" ∈ ds_T := ds_mem (List.mem_append_right _ (List.mem_of_getElem? (i := 32) (by decide +kernel))) rfl
theorem wd_33 : Cond.fieldLinkNest "DaySwaps$Search" 28 "DaySwaps$Day" "vehicles" "I" "DaySwaps" ∈ lw_tbl := List.mem_append_right _ (List.mem_of_getElem? (i := 33) (by decide +kernel))
theorem wd_34 : Cond.fieldLinkNest "DaySwaps" 127 "DaySwaps$Day" "vehicles" "I" "DaySwaps" ∈ lw_tbl := List.mem_append_right _ (List.mem_of_getElem? (i := 34) (by decide +kernel))
theorem wd_35 : Cond.fieldLinkNest "DaySwaps" 51 "DaySwaps$Day" "stops" "I" "DaySwaps" ∈ lw_tbl := List.mem_append_right _ (List.mem_of_getElem? (i := 35) (by decide +kernel))
theorem wd_36 : Cond.fieldLinkNest "DaySwaps$Search" 22 "DaySwaps$Day" "stops" "I" "DaySwaps" ∈ lw_tbl := List.mem_append_right _ (List.mem_of_getElem? (i := 36) (by decide +kernel))
theorem wd_37 : Cond.fieldLink "DaySwaps$Day" 71 "DaySwaps$Day" "stops" "I" ∈ ds_T := ds_mem (List.mem_append_right _ (List.mem_of_getElem? (i := 37) (by decide +kernel))) rfl
theorem wd_38 : Cond.fieldLink "DaySwaps$Day" 9 "DaySwaps$Day" "placeOf" "[I" ∈ ds_T := ds_mem (List.mem_append_right _ (List.mem_of_getElem? (i := 38) (by decide +kernel))) rfl
theorem wd_39 : Cond.fieldLink "DaySwaps$Day" 15 "DaySwaps$Day" "serviceOf" "[I" ∈ ds_T := ds_mem (List.mem_append_right _ (List.mem_of_getElem? (i := 39) (by decide +kernel))) rfl
theorem wd_40 : Cond.fieldLink "DaySwaps$Day" 18 "DaySwaps$Day" "rowOf" "[I" ∈ ds_T := ds_mem (List.mem_append_right _ (List.mem_of_getElem? (i := 40) (by decide +kernel))) rfl
theorem wd_41 : Cond.fieldLinkNest "DaySwaps$Search" 58 "DaySwaps$Day" "rowOf" "[I" "DaySwaps" ∈ lw_tbl := List.mem_append_right _ (List.mem_of_getElem? (i := 41) (by decide +kernel))
theorem wd_42 : Cond.fieldLinkNest "DaySwaps" 139 "DaySwaps$Day" "rowOf" "[I" "DaySwaps" ∈ lw_tbl := List.mem_append_right _ (List.mem_of_getElem? (i := 42) (by decide +kernel))
theorem wd_43 : Cond.fieldLink "DaySwaps$Day" 21 "DaySwaps$Day" "rankOf" "[I" ∈ ds_T := ds_mem (List.mem_append_right _ (List.mem_of_getElem? (i := 43) (by decide +kernel))) rfl
theorem wd_44 : Cond.fieldLink "DaySwaps$Day" 24 "DaySwaps$Day" "frozen" "[Z" ∈ ds_T := ds_mem (List.mem_append_right _ (List.mem_of_getElem? (i := 44) (by decide +kernel))) rfl
theorem wd_45 : Cond.fieldLinkNest "DaySwaps" 69 "DaySwaps$Day" "frozen" "[Z" "DaySwaps" ∈ lw_tbl := List.mem_append_right _ (List.mem_of_getElem? (i := 45) (by decide +kernel))
theorem wd_46 : Cond.fieldLink "DaySwaps$Day" 28 "DaySwaps$Day" "blocked" "[Z" ∈ ds_T := ds_mem (List.mem_append_right _ (List.mem_of_getElem? (i := 46) (by decide +kernel))) rfl
theorem wd_47 : Cond.fieldLinkNest "DaySwaps" 73 "DaySwaps$Day" "blocked" "[Z" "DaySwaps" ∈ lw_tbl := List.mem_append_right _ (List.mem_of_getElem? (i := 47) (by decide +kernel))
theorem wd_48 : Cond.fieldLink "DaySwaps$Day" 33 "DaySwaps$Day" "rows" "[[I" ∈ ds_T := ds_mem (List.mem_append_right _ (List.mem_of_getElem? (i := 48) (by decide +kernel))) rfl
theorem wd_49 : Cond.fieldLink "DaySwaps$Day" 36 "DaySwaps$Day" "lengthOf" "[I" ∈ ds_T := ds_mem (List.mem_append_right _ (List.mem_of_getElem? (i := 49) (by decide +kernel))) rfl
theorem wd_50 : Cond.fieldLink "DaySwaps$Day" 39 "DaySwaps$Day" "newRows" "[[I" ∈ ds_T := ds_mem (List.mem_append_right _ (List.mem_of_getElem? (i := 50) (by decide +kernel))) rfl
theorem wd_51 : Cond.fieldLink "DaySwaps$Day" 42 "DaySwaps$Day" "newLengthOf" "[I" ∈ ds_T := ds_mem (List.mem_append_right _ (List.mem_of_getElem? (i := 51) (by decide +kernel))) rfl
theorem wd_52 : Cond.fieldLink "DaySwaps$Day" 45 "DaySwaps$Day" "outFrom" "[I" ∈ ds_T := ds_mem (List.mem_append_right _ (List.mem_of_getElem? (i := 52) (by decide +kernel))) rfl
theorem wd_53 : Cond.fieldLinkNest "DaySwaps" 76 "DaySwaps$Day" "outFrom" "[I" "DaySwaps" ∈ lw_tbl := List.mem_append_right _ (List.mem_of_getElem? (i := 53) (by decide +kernel))
theorem wd_54 : Cond.fieldLink "DaySwaps$Day" 48 "DaySwaps$Day" "hoursOf" "[I" ∈ ds_T := ds_mem (List.mem_append_right _ (List.mem_of_getElem? (i := 54) (by decide +kernel))) rfl
theorem wd_55 : Cond.fieldLinkNest "DaySwaps" 84 "DaySwaps$Day" "hoursOf" "[I" "DaySwaps" ∈ lw_tbl := List.mem_append_right _ (List.mem_of_getElem? (i := 55) (by decide +kernel))
theorem wd_56 : Cond.fieldLink "DaySwaps$Day" 51 "DaySwaps$Day" "ways" "[[I" ∈ ds_T := ds_mem (List.mem_append_right _ (List.mem_of_getElem? (i := 56) (by decide +kernel))) rfl
theorem wd_57 : Cond.fieldLinkNest "DaySwaps" 79 "DaySwaps$Day" "ways" "[[I" "DaySwaps" ∈ lw_tbl := List.mem_append_right _ (List.mem_of_getElem? (i := 57) (by decide +kernel))
theorem wd_58 : Cond.fieldLink "DaySwaps$Day" 54 "DaySwaps$Day" "round" "[I" ∈ ds_T := ds_mem (List.mem_append_right _ (List.mem_of_getElem? (i := 58) (by decide +kernel))) rfl
theorem wd_59 : Cond.fieldLinkNest "DaySwaps$Search" 71 "DaySwaps$Day" "mostOver" "I" "DaySwaps" ∈ lw_tbl := List.mem_append_right _ (List.mem_of_getElem? (i := 59) (by decide +kernel))
theorem wd_60 : Cond.fieldLinkNest "DaySwaps" 87 "DaySwaps$Day" "mostOver" "I" "DaySwaps" ∈ lw_tbl := List.mem_append_right _ (List.mem_of_getElem? (i := 60) (by decide +kernel))
theorem wd_96 : Cond.arrayClass FieldType.int ∈ ds_T := ds_mem (List.mem_append_right _ (List.mem_of_getElem? (i := 96) (by decide +kernel))) rfl
theorem wd_97 : Cond.arrayClass FieldType.boolean ∈ ds_T := ds_mem (List.mem_append_right _ (List.mem_of_getElem? (i := 97) (by decide +kernel))) rfl
theorem wd_98 : Cond.classLink "DaySwaps" 22 "DaySwaps$Search" ∈ ds_T := ds_mem (List.mem_append_right _ (List.mem_of_getElem? (i := 98) (by decide +kernel))) rfl
theorem wd_99 : Cond.instantiable "DaySwaps$Search" 3 ∈ ds_T := ds_mem (List.mem_append_right _ (List.mem_of_getElem? (i := 99) (by decide +kernel))) rfl
theorem wd_100 : Cond.methodLinkNest "DaySwaps" 24 y_Se_init "DaySwaps" ∈ lw_tbl := List.mem_append_right _ (List.mem_of_getElem? (i := 100) (by decide +kernel))
theorem wd_101 : Cond.instanceMethod y_Se_init ∈ ds_T := ds_mem (List.mem_append_right _ (List.mem_of_getElem? (i := 101) (by decide +kernel))) rfl
theorem wd_102 : Cond.code y_Se_init prog_3_method_1_code 2 none ∈ ds_T := ds_mem (List.mem_append_right _ (List.mem_of_getElem? (i := 102) (by decide +kernel))) rfl
theorem wd_103 : Cond.methodLink "DaySwaps$Search" 5 ⟨"java/lang/Object", "<init>", "()V"⟩ ∈ ds_T := ds_mem (List.mem_append_right _ (List.mem_of_getElem? (i := 103) (by decide +kernel))) rfl
theorem wd_104 : Cond.fieldLink "DaySwaps$Search" 18 "DaySwaps$Search" "day" "LDaySwaps$Day;" ∈ ds_T := ds_mem (List.mem_append_right _ (List.mem_of_getElem? (i := 104) (by decide +kernel))) rfl
theorem wd_105 : Cond.fieldLink "DaySwaps$Search" 11 "DaySwaps$Search" "weights" "[J" ∈ ds_T := ds_mem (List.mem_append_right _ (List.mem_of_getElem? (i := 105) (by decide +kernel))) rfl
theorem wd_106 : Cond.fieldLink "DaySwaps$Search" 15 "DaySwaps$Search" "best" "[J" ∈ ds_T := ds_mem (List.mem_append_right _ (List.mem_of_getElem? (i := 106) (by decide +kernel))) rfl
theorem wd_114 : Cond.arrayClass FieldType.long ∈ ds_T := ds_mem (List.mem_append_right _ (List.mem_of_getElem? (i := 114) (by decide +kernel))) rfl
theorem wd_115 : Cond.classLink "DaySwaps" 31 "DaySwaps$Shelf" ∈ ds_T := ds_mem (List.mem_append_right _ (List.mem_of_getElem? (i := 115) (by decide +kernel))) rfl
theorem wd_116 : Cond.instantiable "DaySwaps$Shelf" 3 ∈ ds_T := ds_mem (List.mem_append_right _ (List.mem_of_getElem? (i := 116) (by decide +kernel))) rfl
theorem wd_117 : Cond.methodLinkNest "DaySwaps" 33 y_Sh_init "DaySwaps" ∈ lw_tbl := List.mem_append_right _ (List.mem_of_getElem? (i := 117) (by decide +kernel))
theorem wd_118 : Cond.instanceMethod y_Sh_init ∈ ds_T := ds_mem (List.mem_append_right _ (List.mem_of_getElem? (i := 118) (by decide +kernel))) rfl
theorem wd_119 : Cond.code y_Sh_init prog_4_method_1_code 2 none ∈ ds_T := ds_mem (List.mem_append_right _ (List.mem_of_getElem? (i := 119) (by decide +kernel))) rfl
theorem wd_120 : Cond.methodLink "DaySwaps$Shelf" 3 ⟨"java/lang/Object", "<init>", "()V"⟩ ∈ ds_T := ds_mem (List.mem_append_right _ (List.mem_of_getElem? (i := 120) (by decide +kernel))) rfl
theorem wd_121 : Cond.classLink "DaySwaps$Shelf" 9 "[[I" ∈ ds_T := ds_mem (List.mem_append_right _ (List.mem_of_getElem? (i := 121) (by decide +kernel))) rfl
theorem wd_122 : Cond.fieldLink "DaySwaps$Shelf" 11 "DaySwaps$Shelf" "plans" "[[I" ∈ ds_T := ds_mem (List.mem_append_right _ (List.mem_of_getElem? (i := 122) (by decide +kernel))) rfl
theorem wd_123 : Cond.fieldLinkNest "DaySwaps" 136 "DaySwaps$Shelf" "plans" "[[I" "DaySwaps" ∈ lw_tbl := List.mem_append_right _ (List.mem_of_getElem? (i := 123) (by decide +kernel))
theorem wd_124 : Cond.fieldLink "DaySwaps$Shelf" 16 "DaySwaps$Shelf" "stopsOf" "[I" ∈ ds_T := ds_mem (List.mem_append_right _ (List.mem_of_getElem? (i := 124) (by decide +kernel))) rfl
theorem wd_125 : Cond.fieldLinkNest "DaySwaps" 133 "DaySwaps$Shelf" "stopsOf" "[I" "DaySwaps" ∈ lw_tbl := List.mem_append_right _ (List.mem_of_getElem? (i := 125) (by decide +kernel))
theorem wd_126 : Cond.fieldLink "DaySwaps$Shelf" 20 "DaySwaps$Shelf" "size" "I" ∈ ds_T := ds_mem (List.mem_append_right _ (List.mem_of_getElem? (i := 126) (by decide +kernel))) rfl
theorem wd_127 : Cond.fieldLinkNest "DaySwaps" 130 "DaySwaps$Shelf" "size" "I" "DaySwaps" ∈ lw_tbl := List.mem_append_right _ (List.mem_of_getElem? (i := 127) (by decide +kernel))
theorem wd_135 : Cond.fieldLink "DaySwaps" 18 "DaySwaps" "day" "LDaySwaps$Day;" ∈ ds_T := ds_mem (List.mem_append_right _ (List.mem_of_getElem? (i := 135) (by decide +kernel))) rfl
theorem wd_136 : Cond.fieldLink "DaySwaps" 27 "DaySwaps" "search" "LDaySwaps$Search;" ∈ ds_T := ds_mem (List.mem_append_right _ (List.mem_of_getElem? (i := 136) (by decide +kernel))) rfl
theorem wd_137 : Cond.fieldLink "DaySwaps" 34 "DaySwaps" "kept" "LDaySwaps$Shelf;" ∈ ds_T := ds_mem (List.mem_append_right _ (List.mem_of_getElem? (i := 137) (by decide +kernel))) rfl
theorem wd_138 : Cond.fieldLink "DaySwaps" 38 "DaySwaps" "beside" "LDaySwaps$Shelf;" ∈ ds_T := ds_mem (List.mem_append_right _ (List.mem_of_getElem? (i := 138) (by decide +kernel))) rfl
theorem wd_139 : Cond.fieldLink "DaySwaps" 41 "DaySwaps" "plan" "[I" ∈ ds_T := ds_mem (List.mem_append_right _ (List.mem_of_getElem? (i := 139) (by decide +kernel))) rfl
theorem wd_140 : Cond.fieldLink "DaySwaps" 45 "DaySwaps" "noticed" "[I" ∈ ds_T := ds_mem (List.mem_append_right _ (List.mem_of_getElem? (i := 140) (by decide +kernel))) rfl
theorem wd_141 : Cond.fieldLink "DaySwaps" 48 "DaySwaps" "notices" "[I" ∈ ds_T := ds_mem (List.mem_append_right _ (List.mem_of_getElem? (i := 141) (by decide +kernel))) rfl
theorem wd_157 : Cond.methodLink "DaySwapsLaw" 21 y_DS_stop ∈ ds_T := ds_mem (List.mem_append_right _ (List.mem_of_getElem? (i := 157) (by decide +kernel))) rfl
theorem wd_158 : Cond.instanceMethod y_DS_stop ∈ ds_T := ds_mem (List.mem_append_right _ (List.mem_of_getElem? (i := 158) (by decide +kernel))) rfl
theorem wd_159 : Cond.selects "DaySwaps" y_DS_stop y_DS_stop ∈ ds_T := ds_mem (List.mem_append_right _ (List.mem_of_getElem? (i := 159) (by decide +kernel))) rfl
theorem wd_160 : Cond.code y_DS_stop prog_1_method_2_code 5 (some FieldType.int) ∈ ds_T := ds_mem (List.mem_append_right _ (List.mem_of_getElem? (i := 160) (by decide +kernel))) rfl
theorem wd_161 : Cond.methodLinkNest "DaySwaps" 55 y_Day_isVehicle "DaySwaps" ∈ lw_tbl := List.mem_append_right _ (List.mem_of_getElem? (i := 161) (by decide +kernel))
theorem wd_163 : Cond.instanceMethod y_Day_isVehicle ∈ ds_T := ds_mem (List.mem_append_right _ (List.mem_of_getElem? (i := 163) (by decide +kernel))) rfl
theorem wd_164 : Cond.code y_Day_isVehicle prog_2_method_2_code 2 (some FieldType.boolean) ∈ ds_T := ds_mem (List.mem_append_right _ (List.mem_of_getElem? (i := 164) (by decide +kernel))) rfl
theorem wd_165 : Cond.methodLinkNest "DaySwaps$Day" 67 y_DS_isWithin "DaySwaps" ∈ lw_tbl := List.mem_append_right _ (List.mem_of_getElem? (i := 165) (by decide +kernel))
theorem wd_166 : Cond.methodLink "DaySwaps" 59 y_DS_isPlace ∈ ds_T := ds_mem (List.mem_append_right _ (List.mem_of_getElem? (i := 166) (by decide +kernel))) rfl
theorem wd_167 : Cond.static y_DS_isPlace ∈ ds_T := ds_mem (List.mem_append_right _ (List.mem_of_getElem? (i := 167) (by decide +kernel))) rfl
theorem wd_168 : Cond.code y_DS_isPlace prog_1_method_27_code 1 (some FieldType.boolean) ∈ ds_T := ds_mem (List.mem_append_right _ (List.mem_of_getElem? (i := 168) (by decide +kernel))) rfl
theorem wd_169 : Cond.methodLinkNest "DaySwaps" 62 y_Day_tell "DaySwaps" ∈ lw_tbl := List.mem_append_right _ (List.mem_of_getElem? (i := 169) (by decide +kernel))
theorem wd_171 : Cond.instanceMethod y_Day_tell ∈ ds_T := ds_mem (List.mem_append_right _ (List.mem_of_getElem? (i := 171) (by decide +kernel))) rfl
theorem wd_172 : Cond.code y_Day_tell prog_2_method_4_code 5 (some FieldType.int) ∈ ds_T := ds_mem (List.mem_append_right _ (List.mem_of_getElem? (i := 172) (by decide +kernel))) rfl
theorem wd_173 : Cond.methodLink "DaySwaps$Day" 74 y_Day_append ∈ ds_T := ds_mem (List.mem_append_right _ (List.mem_of_getElem? (i := 173) (by decide +kernel))) rfl
theorem wd_175 : Cond.instanceMethod y_Day_append ∈ ds_T := ds_mem (List.mem_append_right _ (List.mem_of_getElem? (i := 175) (by decide +kernel))) rfl
theorem wd_176 : Cond.code y_Day_append prog_2_method_5_code 4 none ∈ ds_T := ds_mem (List.mem_append_right _ (List.mem_of_getElem? (i := 176) (by decide +kernel))) rfl
theorem wd_177 : Cond.methodLink "DaySwapsLaw" 26 y_DS_freeze ∈ ds_T := ds_mem (List.mem_append_right _ (List.mem_of_getElem? (i := 177) (by decide +kernel))) rfl
theorem wd_178 : Cond.instanceMethod y_DS_freeze ∈ ds_T := ds_mem (List.mem_append_right _ (List.mem_of_getElem? (i := 178) (by decide +kernel))) rfl
theorem wd_179 : Cond.selects "DaySwaps" y_DS_freeze y_DS_freeze ∈ ds_T := ds_mem (List.mem_append_right _ (List.mem_of_getElem? (i := 179) (by decide +kernel))) rfl
theorem wd_180 : Cond.code y_DS_freeze prog_1_method_3_code 3 (some FieldType.boolean) ∈ ds_T := ds_mem (List.mem_append_right _ (List.mem_of_getElem? (i := 180) (by decide +kernel))) rfl
theorem wd_181 : Cond.methodLinkNest "DaySwaps" 66 y_Day_isStop "DaySwaps" ∈ lw_tbl := List.mem_append_right _ (List.mem_of_getElem? (i := 181) (by decide +kernel))
theorem wd_183 : Cond.instanceMethod y_Day_isStop ∈ ds_T := ds_mem (List.mem_append_right _ (List.mem_of_getElem? (i := 183) (by decide +kernel))) rfl
theorem wd_184 : Cond.code y_Day_isStop prog_2_method_3_code 2 (some FieldType.boolean) ∈ ds_T := ds_mem (List.mem_append_right _ (List.mem_of_getElem? (i := 184) (by decide +kernel))) rfl
theorem wd_185 : Cond.methodLink "DaySwapsLaw" 31 y_DS_block ∈ ds_T := ds_mem (List.mem_append_right _ (List.mem_of_getElem? (i := 185) (by decide +kernel))) rfl
theorem wd_186 : Cond.instanceMethod y_DS_block ∈ ds_T := ds_mem (List.mem_append_right _ (List.mem_of_getElem? (i := 186) (by decide +kernel))) rfl
theorem wd_187 : Cond.selects "DaySwaps" y_DS_block y_DS_block ∈ ds_T := ds_mem (List.mem_append_right _ (List.mem_of_getElem? (i := 187) (by decide +kernel))) rfl
theorem wd_188 : Cond.code y_DS_block prog_1_method_4_code 3 (some FieldType.boolean) ∈ ds_T := ds_mem (List.mem_append_right _ (List.mem_of_getElem? (i := 188) (by decide +kernel))) rfl
theorem wd_189 : Cond.methodLink "DaySwapsLaw" 35 y_DS_out ∈ ds_T := ds_mem (List.mem_append_right _ (List.mem_of_getElem? (i := 189) (by decide +kernel))) rfl
theorem wd_190 : Cond.instanceMethod y_DS_out ∈ ds_T := ds_mem (List.mem_append_right _ (List.mem_of_getElem? (i := 190) (by decide +kernel))) rfl
theorem wd_191 : Cond.selects "DaySwaps" y_DS_out y_DS_out ∈ ds_T := ds_mem (List.mem_append_right _ (List.mem_of_getElem? (i := 191) (by decide +kernel))) rfl
theorem wd_192 : Cond.code y_DS_out prog_1_method_5_code 3 (some FieldType.boolean) ∈ ds_T := ds_mem (List.mem_append_right _ (List.mem_of_getElem? (i := 192) (by decide +kernel))) rfl
theorem wd_193 : Cond.methodLink "DaySwapsLaw" 40 y_DS_way ∈ ds_T := ds_mem (List.mem_append_right _ (List.mem_of_getElem? (i := 193) (by decide +kernel))) rfl
theorem wd_194 : Cond.instanceMethod y_DS_way ∈ ds_T := ds_mem (List.mem_append_right _ (List.mem_of_getElem? (i := 194) (by decide +kernel))) rfl
theorem wd_195 : Cond.selects "DaySwaps" y_DS_way y_DS_way ∈ ds_T := ds_mem (List.mem_append_right _ (List.mem_of_getElem? (i := 195) (by decide +kernel))) rfl
theorem wd_196 : Cond.code y_DS_way prog_1_method_6_code 4 (some FieldType.boolean) ∈ ds_T := ds_mem (List.mem_append_right _ (List.mem_of_getElem? (i := 196) (by decide +kernel))) rfl
theorem wd_197 : Cond.methodLink "DaySwapsLaw" 45 y_DS_hours ∈ ds_T := ds_mem (List.mem_append_right _ (List.mem_of_getElem? (i := 197) (by decide +kernel))) rfl
theorem wd_198 : Cond.instanceMethod y_DS_hours ∈ ds_T := ds_mem (List.mem_append_right _ (List.mem_of_getElem? (i := 198) (by decide +kernel))) rfl
theorem wd_199 : Cond.selects "DaySwaps" y_DS_hours y_DS_hours ∈ ds_T := ds_mem (List.mem_append_right _ (List.mem_of_getElem? (i := 199) (by decide +kernel))) rfl
theorem wd_200 : Cond.code y_DS_hours prog_1_method_7_code 3 (some FieldType.boolean) ∈ ds_T := ds_mem (List.mem_append_right _ (List.mem_of_getElem? (i := 200) (by decide +kernel))) rfl
theorem wd_201 : Cond.constant "DaySwaps" 83 (100000 : Int32) ∈ ds_T := ds_mem (List.mem_append_right _ (List.mem_of_getElem? (i := 201) (by decide +kernel))) rfl
theorem wd_202 : Cond.methodLink "DaySwapsLaw" 49 y_DS_extra ∈ ds_T := ds_mem (List.mem_append_right _ (List.mem_of_getElem? (i := 202) (by decide +kernel))) rfl
theorem wd_203 : Cond.instanceMethod y_DS_extra ∈ ds_T := ds_mem (List.mem_append_right _ (List.mem_of_getElem? (i := 203) (by decide +kernel))) rfl
theorem wd_204 : Cond.selects "DaySwaps" y_DS_extra y_DS_extra ∈ ds_T := ds_mem (List.mem_append_right _ (List.mem_of_getElem? (i := 204) (by decide +kernel))) rfl
theorem wd_205 : Cond.code y_DS_extra prog_1_method_8_code 2 (some FieldType.boolean) ∈ ds_T := ds_mem (List.mem_append_right _ (List.mem_of_getElem? (i := 205) (by decide +kernel))) rfl
theorem wd_206 : Cond.methodLink "DaySwapsLaw" 54 y_DS_run ∈ ds_T := ds_mem (List.mem_append_right _ (List.mem_of_getElem? (i := 206) (by decide +kernel))) rfl
theorem wd_207 : Cond.instanceMethod y_DS_run ∈ ds_T := ds_mem (List.mem_append_right _ (List.mem_of_getElem? (i := 207) (by decide +kernel))) rfl
theorem wd_208 : Cond.selects "DaySwaps" y_DS_run y_DS_run ∈ ds_T := ds_mem (List.mem_append_right _ (List.mem_of_getElem? (i := 208) (by decide +kernel))) rfl
theorem wd_209 : Cond.code y_DS_run prog_1_method_9_code 4 (some FieldType.int) ∈ ds_T := ds_mem (List.mem_append_right _ (List.mem_of_getElem? (i := 209) (by decide +kernel))) rfl
theorem wd_210 : Cond.methodLinkNest "DaySwaps" 90 y_Se_least "DaySwaps" ∈ lw_tbl := List.mem_append_right _ (List.mem_of_getElem? (i := 210) (by decide +kernel))
theorem wd_212 : Cond.instanceMethod y_Se_least ∈ ds_T := ds_mem (List.mem_append_right _ (List.mem_of_getElem? (i := 212) (by decide +kernel))) rfl
theorem wd_213 : Cond.code y_Se_least prog_3_method_2_code 4 (some FieldType.long) ∈ ds_T := ds_mem (List.mem_append_right _ (List.mem_of_getElem? (i := 213) (by decide +kernel))) rfl
theorem wd_214 : Cond.methodLink "DaySwaps$Search" 31 y_Se_weightOf ∈ ds_T := ds_mem (List.mem_append_right _ (List.mem_of_getElem? (i := 214) (by decide +kernel))) rfl
theorem wd_216 : Cond.instanceMethod y_Se_weightOf ∈ ds_T := ds_mem (List.mem_append_right _ (List.mem_of_getElem? (i := 216) (by decide +kernel))) rfl
theorem wd_217 : Cond.code y_Se_weightOf prog_3_method_4_code 7 (some FieldType.long) ∈ ds_T := ds_mem (List.mem_append_right _ (List.mem_of_getElem? (i := 217) (by decide +kernel))) rfl
theorem wd_218 : Cond.methodLinkNest "DaySwaps$Search" 45 y_DS_isIn "DaySwaps" ∈ lw_tbl := List.mem_append_right _ (List.mem_of_getElem? (i := 218) (by decide +kernel))
theorem wd_219 : Cond.static y_DS_isIn ∈ ds_T := ds_mem (List.mem_append_right _ (List.mem_of_getElem? (i := 219) (by decide +kernel))) rfl
theorem wd_220 : Cond.code y_DS_isIn prog_1_method_26_code 2 (some FieldType.boolean) ∈ ds_T := ds_mem (List.mem_append_right _ (List.mem_of_getElem? (i := 220) (by decide +kernel))) rfl
theorem wd_221 : Cond.methodLinkNest "DaySwaps$Search" 49 y_Day_mayHave "DaySwaps" ∈ lw_tbl := List.mem_append_right _ (List.mem_of_getElem? (i := 221) (by decide +kernel))
theorem wd_223 : Cond.instanceMethod y_Day_mayHave ∈ ds_T := ds_mem (List.mem_append_right _ (List.mem_of_getElem? (i := 223) (by decide +kernel))) rfl
theorem wd_224 : Cond.code y_Day_mayHave prog_2_method_7_code 3 (some FieldType.boolean) ∈ ds_T := ds_mem (List.mem_append_right _ (List.mem_of_getElem? (i := 224) (by decide +kernel))) rfl
theorem wd_225 : Cond.methodLink "DaySwaps$Day" 78 y_Day_canDo ∈ ds_T := ds_mem (List.mem_append_right _ (List.mem_of_getElem? (i := 225) (by decide +kernel))) rfl
theorem wd_227 : Cond.instanceMethod y_Day_canDo ∈ ds_T := ds_mem (List.mem_append_right _ (List.mem_of_getElem? (i := 227) (by decide +kernel))) rfl
theorem wd_228 : Cond.code y_Day_canDo prog_2_method_6_code 3 (some FieldType.boolean) ∈ ds_T := ds_mem (List.mem_append_right _ (List.mem_of_getElem? (i := 228) (by decide +kernel))) rfl
theorem wd_229 : Cond.constantLong "DaySwaps$Search" 52 (1152921504606846976 : Int64) ∈ ds_T := ds_mem (List.mem_append_right _ (List.mem_of_getElem? (i := 229) (by decide +kernel))) rfl
theorem wd_230 : Cond.methodLink "DaySwaps$Search" 54 y_Se_digitShift ∈ ds_T := ds_mem (List.mem_append_right _ (List.mem_of_getElem? (i := 230) (by decide +kernel))) rfl
theorem wd_231 : Cond.static y_Se_digitShift ∈ ds_T := ds_mem (List.mem_append_right _ (List.mem_of_getElem? (i := 231) (by decide +kernel))) rfl
theorem wd_232 : Cond.code y_Se_digitShift prog_3_method_6_code 1 (some FieldType.int) ∈ ds_T := ds_mem (List.mem_append_right _ (List.mem_of_getElem? (i := 232) (by decide +kernel))) rfl
theorem wd_233 : Cond.constantLong "DaySwaps$Search" 62 (1099511627776 : Int64) ∈ ds_T := ds_mem (List.mem_append_right _ (List.mem_of_getElem? (i := 233) (by decide +kernel))) rfl
theorem wd_234 : Cond.methodLinkNest "DaySwaps$Search" 64 y_Day_timeOf "DaySwaps" ∈ lw_tbl := List.mem_append_right _ (List.mem_of_getElem? (i := 234) (by decide +kernel))
theorem wd_236 : Cond.instanceMethod y_Day_timeOf ∈ ds_T := ds_mem (List.mem_append_right _ (List.mem_of_getElem? (i := 236) (by decide +kernel))) rfl
theorem wd_237 : Cond.code y_Day_timeOf prog_2_method_10_code 8 (some FieldType.int) ∈ ds_T := ds_mem (List.mem_append_right _ (List.mem_of_getElem? (i := 237) (by decide +kernel))) rfl
theorem wd_238 : Cond.methodLink "DaySwaps$Day" 85 y_Day_addRound ∈ ds_T := ds_mem (List.mem_append_right _ (List.mem_of_getElem? (i := 238) (by decide +kernel))) rfl
theorem wd_240 : Cond.instanceMethod y_Day_addRound ∈ ds_T := ds_mem (List.mem_append_right _ (List.mem_of_getElem? (i := 240) (by decide +kernel))) rfl
theorem wd_241 : Cond.code y_Day_addRound prog_2_method_8_code 7 (some FieldType.int) ∈ ds_T := ds_mem (List.mem_append_right _ (List.mem_of_getElem? (i := 241) (by decide +kernel))) rfl
theorem wd_242 : Cond.methodLinkNest "DaySwaps$Day" 82 y_DS_isIn "DaySwaps" ∈ lw_tbl := List.mem_append_right _ (List.mem_of_getElem? (i := 242) (by decide +kernel))
theorem wd_243 : Cond.methodLinkNest "DaySwaps$Search" 68 y_Day_overHours "DaySwaps" ∈ lw_tbl := List.mem_append_right _ (List.mem_of_getElem? (i := 243) (by decide +kernel))
theorem wd_245 : Cond.instanceMethod y_Day_overHours ∈ ds_T := ds_mem (List.mem_append_right _ (List.mem_of_getElem? (i := 245) (by decide +kernel))) rfl
theorem wd_246 : Cond.code y_Day_overHours prog_2_method_11_code 3 (some FieldType.int) ∈ ds_T := ds_mem (List.mem_append_right _ (List.mem_of_getElem? (i := 246) (by decide +kernel))) rfl
theorem wd_247 : Cond.methodLink "DaySwaps$Day" 89 ⟨"java/lang/Math", "max", "(II)I"⟩ ∈ ds_T := ds_mem (List.mem_append_right _ (List.mem_of_getElem? (i := 247) (by decide +kernel))) rfl
theorem wd_248 : Cond.static ⟨"java/lang/Math", "max", "(II)I"⟩ ∈ ds_T := ds_mem (List.mem_append_right _ (List.mem_of_getElem? (i := 248) (by decide +kernel))) rfl
theorem wd_249 : Cond.code ⟨"java/lang/Math", "max", "(II)I"⟩ prog_8_method_65_code 2 (some FieldType.int) ∈ ds_T := ds_mem (List.mem_append_right _ (List.mem_of_getElem? (i := 249) (by decide +kernel))) rfl
theorem wd_250 : Cond.methodLink "DaySwaps$Search" 35 y_Se_join ∈ ds_T := ds_mem (List.mem_append_right _ (List.mem_of_getElem? (i := 250) (by decide +kernel))) rfl
theorem wd_252 : Cond.instanceMethod y_Se_join ∈ ds_T := ds_mem (List.mem_append_right _ (List.mem_of_getElem? (i := 252) (by decide +kernel))) rfl
theorem wd_253 : Cond.code y_Se_join prog_3_method_3_code 6 none ∈ ds_T := ds_mem (List.mem_append_right _ (List.mem_of_getElem? (i := 253) (by decide +kernel))) rfl
theorem wd_254 : Cond.methodLink "DaySwaps$Search" 39 ⟨"java/lang/Math", "min", "(JJ)J"⟩ ∈ ds_T := ds_mem (List.mem_append_right _ (List.mem_of_getElem? (i := 254) (by decide +kernel))) rfl
theorem wd_255 : Cond.static ⟨"java/lang/Math", "min", "(JJ)J"⟩ ∈ ds_T := ds_mem (List.mem_append_right _ (List.mem_of_getElem? (i := 255) (by decide +kernel))) rfl
theorem wd_256 : Cond.code ⟨"java/lang/Math", "min", "(JJ)J"⟩ prog_8_method_70_code 4 (some FieldType.long) ∈ ds_T := ds_mem (List.mem_append_right _ (List.mem_of_getElem? (i := 256) (by decide +kernel))) rfl
theorem wd_257 : Cond.constantLong "DaySwaps" 94 (1152921504606846976 : Int64) ∈ ds_T := ds_mem (List.mem_append_right _ (List.mem_of_getElem? (i := 257) (by decide +kernel))) rfl
theorem wd_258 : Cond.methodLink "DaySwaps" 96 y_DS_whyNoPlan ∈ ds_T := ds_mem (List.mem_append_right _ (List.mem_of_getElem? (i := 258) (by decide +kernel))) rfl
theorem wd_260 : Cond.instanceMethod y_DS_whyNoPlan ∈ ds_T := ds_mem (List.mem_append_right _ (List.mem_of_getElem? (i := 260) (by decide +kernel))) rfl
theorem wd_261 : Cond.code y_DS_whyNoPlan prog_1_method_22_code 2 (some FieldType.int) ∈ ds_T := ds_mem (List.mem_append_right _ (List.mem_of_getElem? (i := 261) (by decide +kernel))) rfl
theorem wd_262 : Cond.methodLinkNest "DaySwaps" 155 y_Day_canDo "DaySwaps" ∈ lw_tbl := List.mem_append_right _ (List.mem_of_getElem? (i := 262) (by decide +kernel))
theorem wd_263 : Cond.methodLinkNest "DaySwaps" 100 y_Sh_putLatest "DaySwaps" ∈ lw_tbl := List.mem_append_right _ (List.mem_of_getElem? (i := 263) (by decide +kernel))
theorem wd_265 : Cond.instanceMethod y_Sh_putLatest ∈ ds_T := ds_mem (List.mem_append_right _ (List.mem_of_getElem? (i := 265) (by decide +kernel))) rfl
theorem wd_266 : Cond.code y_Sh_putLatest prog_4_method_2_code 4 none ∈ ds_T := ds_mem (List.mem_append_right _ (List.mem_of_getElem? (i := 266) (by decide +kernel))) rfl
theorem wd_267 : Cond.methodLink "DaySwaps$Shelf" 24 ⟨"java/lang/System", "arraycopy", "(Ljava/lang/Object;ILjava/lang/Object;II)V"⟩ ∈ ds_T := ds_mem (List.mem_append_right _ (List.mem_of_getElem? (i := 267) (by decide +kernel))) rfl
theorem wd_268 : Cond.static ⟨"java/lang/System", "arraycopy", "(Ljava/lang/Object;ILjava/lang/Object;II)V"⟩ ∈ ds_T := ds_mem (List.mem_append_right _ (List.mem_of_getElem? (i := 268) (by decide +kernel))) rfl
theorem wd_269 : Cond.native ⟨"java/lang/System", "arraycopy", "(Ljava/lang/Object;ILjava/lang/Object;II)V"⟩ ∈ ds_T := ds_mem (List.mem_append_right _ (List.mem_of_getElem? (i := 269) (by decide +kernel))) rfl
theorem wd_270 : Cond.methodLinkNest "DaySwaps" 104 y_Se_vehicleIn "DaySwaps" ∈ lw_tbl := List.mem_append_right _ (List.mem_of_getElem? (i := 270) (by decide +kernel))
theorem wd_271 : Cond.static y_Se_vehicleIn ∈ ds_T := ds_mem (List.mem_append_right _ (List.mem_of_getElem? (i := 271) (by decide +kernel))) rfl
theorem wd_272 : Cond.code y_Se_vehicleIn prog_3_method_5_code 3 (some FieldType.int) ∈ ds_T := ds_mem (List.mem_append_right _ (List.mem_of_getElem? (i := 272) (by decide +kernel))) rfl
theorem wd_273 : Cond.methodLink "DaySwaps" 108 y_DS_movedSet ∈ ds_T := ds_mem (List.mem_append_right _ (List.mem_of_getElem? (i := 273) (by decide +kernel))) rfl
theorem wd_275 : Cond.instanceMethod y_DS_movedSet ∈ ds_T := ds_mem (List.mem_append_right _ (List.mem_of_getElem? (i := 275) (by decide +kernel))) rfl
theorem wd_276 : Cond.code y_DS_movedSet prog_1_method_24_code 3 (some FieldType.int) ∈ ds_T := ds_mem (List.mem_append_right _ (List.mem_of_getElem? (i := 276) (by decide +kernel))) rfl
theorem wd_277 : Cond.methodLink "DaySwaps" 111 y_In_bitCount ∈ ds_T := ds_mem (List.mem_append_right _ (List.mem_of_getElem? (i := 277) (by decide +kernel))) rfl
theorem wd_278 : Cond.static y_In_bitCount ∈ ds_T := ds_mem (List.mem_append_right _ (List.mem_of_getElem? (i := 278) (by decide +kernel))) rfl
theorem wd_279 : Cond.code y_In_bitCount prog_7_method_49_code 1 (some FieldType.int) ∈ ds_T := ds_mem (List.mem_append_right _ (List.mem_of_getElem? (i := 279) (by decide +kernel))) rfl
theorem wd_280 : Cond.constant "java/lang/Integer" 265 (1431655765 : Int32) ∈ ds_T := ds_mem (List.mem_append_right _ (List.mem_of_getElem? (i := 280) (by decide +kernel))) rfl
theorem wd_281 : Cond.constant "java/lang/Integer" 266 (858993459 : Int32) ∈ ds_T := ds_mem (List.mem_append_right _ (List.mem_of_getElem? (i := 281) (by decide +kernel))) rfl
theorem wd_282 : Cond.constant "java/lang/Integer" 267 (252645135 : Int32) ∈ ds_T := ds_mem (List.mem_append_right _ (List.mem_of_getElem? (i := 282) (by decide +kernel))) rfl
theorem wd_283 : Cond.methodLink "DaySwapsLaw" 59 y_DS_vehicleOf ∈ ds_T := ds_mem (List.mem_append_right _ (List.mem_of_getElem? (i := 283) (by decide +kernel))) rfl
theorem wd_284 : Cond.instanceMethod y_DS_vehicleOf ∈ ds_T := ds_mem (List.mem_append_right _ (List.mem_of_getElem? (i := 284) (by decide +kernel))) rfl
theorem wd_285 : Cond.selects "DaySwaps" y_DS_vehicleOf y_DS_vehicleOf ∈ ds_T := ds_mem (List.mem_append_right _ (List.mem_of_getElem? (i := 285) (by decide +kernel))) rfl
theorem wd_286 : Cond.code y_DS_vehicleOf prog_1_method_10_code 2 (some FieldType.int) ∈ ds_T := ds_mem (List.mem_append_right _ (List.mem_of_getElem? (i := 286) (by decide +kernel))) rfl
theorem wd_287 : Cond.methodLink "DaySwapsLaw" 64 y_DS_place ∈ ds_T := ds_mem (List.mem_append_right _ (List.mem_of_getElem? (i := 287) (by decide +kernel))) rfl
theorem wd_288 : Cond.instanceMethod y_DS_place ∈ ds_T := ds_mem (List.mem_append_right _ (List.mem_of_getElem? (i := 288) (by decide +kernel))) rfl
theorem wd_289 : Cond.selects "DaySwaps" y_DS_place y_DS_place ∈ ds_T := ds_mem (List.mem_append_right _ (List.mem_of_getElem? (i := 289) (by decide +kernel))) rfl
theorem wd_290 : Cond.code y_DS_place prog_1_method_11_code 2 (some FieldType.int) ∈ ds_T := ds_mem (List.mem_append_right _ (List.mem_of_getElem? (i := 290) (by decide +kernel))) rfl
theorem wd_291 : Cond.methodLink "DaySwaps" 117 y_DS_setOf ∈ ds_T := ds_mem (List.mem_append_right _ (List.mem_of_getElem? (i := 291) (by decide +kernel))) rfl
theorem wd_293 : Cond.instanceMethod y_DS_setOf ∈ ds_T := ds_mem (List.mem_append_right _ (List.mem_of_getElem? (i := 293) (by decide +kernel))) rfl
theorem wd_294 : Cond.code y_DS_setOf prog_1_method_23_code 4 (some FieldType.int) ∈ ds_T := ds_mem (List.mem_append_right _ (List.mem_of_getElem? (i := 294) (by decide +kernel))) rfl
theorem wd_295 : Cond.methodLinkNest "DaySwaps" 120 y_Day_placeInRound "DaySwaps" ∈ lw_tbl := List.mem_append_right _ (List.mem_of_getElem? (i := 295) (by decide +kernel))
theorem wd_297 : Cond.instanceMethod y_Day_placeInRound ∈ ds_T := ds_mem (List.mem_append_right _ (List.mem_of_getElem? (i := 297) (by decide +kernel))) rfl
theorem wd_298 : Cond.code y_Day_placeInRound prog_2_method_9_code 6 (some FieldType.int) ∈ ds_T := ds_mem (List.mem_append_right _ (List.mem_of_getElem? (i := 298) (by decide +kernel))) rfl
theorem wd_299 : Cond.methodLink "DaySwapsLaw" 68 y_DS_moved ∈ ds_T := ds_mem (List.mem_append_right _ (List.mem_of_getElem? (i := 299) (by decide +kernel))) rfl
theorem wd_300 : Cond.instanceMethod y_DS_moved ∈ ds_T := ds_mem (List.mem_append_right _ (List.mem_of_getElem? (i := 300) (by decide +kernel))) rfl
theorem wd_301 : Cond.selects "DaySwaps" y_DS_moved y_DS_moved ∈ ds_T := ds_mem (List.mem_append_right _ (List.mem_of_getElem? (i := 301) (by decide +kernel))) rfl
theorem wd_302 : Cond.code y_DS_moved prog_1_method_12_code 2 (some FieldType.int) ∈ ds_T := ds_mem (List.mem_append_right _ (List.mem_of_getElem? (i := 302) (by decide +kernel))) rfl
theorem wd_303 : Cond.methodLink "DaySwaps" 123 y_DS_stopAt ∈ ds_T := ds_mem (List.mem_append_right _ (List.mem_of_getElem? (i := 303) (by decide +kernel))) rfl
theorem wd_304 : Cond.static y_DS_stopAt ∈ ds_T := ds_mem (List.mem_append_right _ (List.mem_of_getElem? (i := 304) (by decide +kernel))) rfl
theorem wd_305 : Cond.code y_DS_stopAt prog_1_method_25_code 4 (some FieldType.int) ∈ ds_T := ds_mem (List.mem_append_right _ (List.mem_of_getElem? (i := 305) (by decide +kernel))) rfl
theorem wd_306 : Cond.methodLink "DaySwaps" 159 y_DS_isIn ∈ ds_T := ds_mem (List.mem_append_right _ (List.mem_of_getElem? (i := 306) (by decide +kernel))) rfl
theorem wd_307 : Cond.methodLink "DaySwapsLaw" 72 y_DS_carried ∈ ds_T := ds_mem (List.mem_append_right _ (List.mem_of_getElem? (i := 307) (by decide +kernel))) rfl
theorem wd_308 : Cond.instanceMethod y_DS_carried ∈ ds_T := ds_mem (List.mem_append_right _ (List.mem_of_getElem? (i := 308) (by decide +kernel))) rfl
theorem wd_309 : Cond.selects "DaySwaps" y_DS_carried y_DS_carried ∈ ds_T := ds_mem (List.mem_append_right _ (List.mem_of_getElem? (i := 309) (by decide +kernel))) rfl
theorem wd_310 : Cond.code y_DS_carried prog_1_method_13_code 2 (some FieldType.int) ∈ ds_T := ds_mem (List.mem_append_right _ (List.mem_of_getElem? (i := 310) (by decide +kernel))) rfl
theorem wd_311 : Cond.methodLink "DaySwapsLaw" 76 y_DS_send ∈ ds_T := ds_mem (List.mem_append_right _ (List.mem_of_getElem? (i := 311) (by decide +kernel))) rfl
theorem wd_312 : Cond.instanceMethod y_DS_send ∈ ds_T := ds_mem (List.mem_append_right _ (List.mem_of_getElem? (i := 312) (by decide +kernel))) rfl
theorem wd_313 : Cond.selects "DaySwaps" y_DS_send y_DS_send ∈ ds_T := ds_mem (List.mem_append_right _ (List.mem_of_getElem? (i := 313) (by decide +kernel))) rfl
theorem wd_314 : Cond.code y_DS_send prog_1_method_14_code 3 (some FieldType.int) ∈ ds_T := ds_mem (List.mem_append_right _ (List.mem_of_getElem? (i := 314) (by decide +kernel))) rfl
theorem wd_315 : Cond.methodLink "DaySwapsLaw" 80 y_DS_sent ∈ ds_T := ds_mem (List.mem_append_right _ (List.mem_of_getElem? (i := 315) (by decide +kernel))) rfl
theorem wd_316 : Cond.instanceMethod y_DS_sent ∈ ds_T := ds_mem (List.mem_append_right _ (List.mem_of_getElem? (i := 316) (by decide +kernel))) rfl
theorem wd_317 : Cond.selects "DaySwaps" y_DS_sent y_DS_sent ∈ ds_T := ds_mem (List.mem_append_right _ (List.mem_of_getElem? (i := 317) (by decide +kernel))) rfl
theorem wd_318 : Cond.code y_DS_sent prog_1_method_15_code 2 (some FieldType.int) ∈ ds_T := ds_mem (List.mem_append_right _ (List.mem_of_getElem? (i := 318) (by decide +kernel))) rfl
theorem wd_319 : Cond.methodLink "DaySwapsLaw" 84 y_DS_undo ∈ ds_T := ds_mem (List.mem_append_right _ (List.mem_of_getElem? (i := 319) (by decide +kernel))) rfl
theorem wd_320 : Cond.instanceMethod y_DS_undo ∈ ds_T := ds_mem (List.mem_append_right _ (List.mem_of_getElem? (i := 320) (by decide +kernel))) rfl
theorem wd_321 : Cond.selects "DaySwaps" y_DS_undo y_DS_undo ∈ ds_T := ds_mem (List.mem_append_right _ (List.mem_of_getElem? (i := 321) (by decide +kernel))) rfl
theorem wd_322 : Cond.code y_DS_undo prog_1_method_16_code 4 (some FieldType.boolean) ∈ ds_T := ds_mem (List.mem_append_right _ (List.mem_of_getElem? (i := 322) (by decide +kernel))) rfl
theorem wd_323 : Cond.methodLink "DaySwapsLaw" 89 y_DS_copy ∈ ds_T := ds_mem (List.mem_append_right _ (List.mem_of_getElem? (i := 323) (by decide +kernel))) rfl
theorem wd_324 : Cond.instanceMethod y_DS_copy ∈ ds_T := ds_mem (List.mem_append_right _ (List.mem_of_getElem? (i := 324) (by decide +kernel))) rfl
theorem wd_325 : Cond.selects "DaySwaps" y_DS_copy y_DS_copy ∈ ds_T := ds_mem (List.mem_append_right _ (List.mem_of_getElem? (i := 325) (by decide +kernel))) rfl
theorem wd_326 : Cond.code y_DS_copy prog_1_method_17_code 1 (some FieldType.int) ∈ ds_T := ds_mem (List.mem_append_right _ (List.mem_of_getElem? (i := 326) (by decide +kernel))) rfl
theorem wd_327 : Cond.methodLink "DaySwapsLaw" 93 y_DS_compare ∈ ds_T := ds_mem (List.mem_append_right _ (List.mem_of_getElem? (i := 327) (by decide +kernel))) rfl
theorem wd_328 : Cond.instanceMethod y_DS_compare ∈ ds_T := ds_mem (List.mem_append_right _ (List.mem_of_getElem? (i := 328) (by decide +kernel))) rfl
theorem wd_329 : Cond.selects "DaySwaps" y_DS_compare y_DS_compare ∈ ds_T := ds_mem (List.mem_append_right _ (List.mem_of_getElem? (i := 329) (by decide +kernel))) rfl
theorem wd_330 : Cond.code y_DS_compare prog_1_method_18_code 5 (some FieldType.int) ∈ ds_T := ds_mem (List.mem_append_right _ (List.mem_of_getElem? (i := 330) (by decide +kernel))) rfl
theorem wd_331 : Cond.methodLink "DaySwapsLaw" 98 y_DS_cost ∈ ds_T := ds_mem (List.mem_append_right _ (List.mem_of_getElem? (i := 331) (by decide +kernel))) rfl
theorem wd_332 : Cond.instanceMethod y_DS_cost ∈ ds_T := ds_mem (List.mem_append_right _ (List.mem_of_getElem? (i := 332) (by decide +kernel))) rfl
theorem wd_333 : Cond.selects "DaySwaps" y_DS_cost y_DS_cost ∈ ds_T := ds_mem (List.mem_append_right _ (List.mem_of_getElem? (i := 333) (by decide +kernel))) rfl
theorem wd_334 : Cond.code y_DS_cost prog_1_method_19_code 5 (some FieldType.long) ∈ ds_T := ds_mem (List.mem_append_right _ (List.mem_of_getElem? (i := 334) (by decide +kernel))) rfl
theorem wd_335 : Cond.methodLinkNest "DaySwaps" 142 y_Day_timeOf "DaySwaps" ∈ lw_tbl := List.mem_append_right _ (List.mem_of_getElem? (i := 335) (by decide +kernel))
theorem wd_336 : Cond.methodLinkNest "DaySwaps" 145 y_Day_overHours "DaySwaps" ∈ lw_tbl := List.mem_append_right _ (List.mem_of_getElem? (i := 336) (by decide +kernel))
theorem wd_337 : Cond.methodLink "DaySwapsLaw" 103 y_DS_overtime ∈ ds_T := ds_mem (List.mem_append_right _ (List.mem_of_getElem? (i := 337) (by decide +kernel))) rfl
theorem wd_338 : Cond.instanceMethod y_DS_overtime ∈ ds_T := ds_mem (List.mem_append_right _ (List.mem_of_getElem? (i := 338) (by decide +kernel))) rfl
theorem wd_339 : Cond.selects "DaySwaps" y_DS_overtime y_DS_overtime ∈ ds_T := ds_mem (List.mem_append_right _ (List.mem_of_getElem? (i := 339) (by decide +kernel))) rfl
theorem wd_340 : Cond.code y_DS_overtime prog_1_method_20_code 2 (some FieldType.int) ∈ ds_T := ds_mem (List.mem_append_right _ (List.mem_of_getElem? (i := 340) (by decide +kernel))) rfl
theorem wd_341 : Cond.methodLink "DaySwapsLaw" 107 y_DS_next ∈ ds_T := ds_mem (List.mem_append_right _ (List.mem_of_getElem? (i := 341) (by decide +kernel))) rfl
theorem wd_342 : Cond.instanceMethod y_DS_next ∈ ds_T := ds_mem (List.mem_append_right _ (List.mem_of_getElem? (i := 342) (by decide +kernel))) rfl
theorem wd_343 : Cond.selects "DaySwaps" y_DS_next y_DS_next ∈ ds_T := ds_mem (List.mem_append_right _ (List.mem_of_getElem? (i := 343) (by decide +kernel))) rfl
theorem wd_344 : Cond.code y_DS_next prog_1_method_21_code 3 (some FieldType.int) ∈ ds_T := ds_mem (List.mem_append_right _ (List.mem_of_getElem? (i := 344) (by decide +kernel))) rfl
theorem wd_345 : Cond.methodLinkNest "DaySwaps" 148 y_Day_prepareRow "DaySwaps" ∈ lw_tbl := List.mem_append_right _ (List.mem_of_getElem? (i := 345) (by decide +kernel))
theorem wd_347 : Cond.instanceMethod y_Day_prepareRow ∈ ds_T := ds_mem (List.mem_append_right _ (List.mem_of_getElem? (i := 347) (by decide +kernel))) rfl
theorem wd_348 : Cond.code y_Day_prepareRow prog_2_method_12_code 6 none ∈ ds_T := ds_mem (List.mem_append_right _ (List.mem_of_getElem? (i := 348) (by decide +kernel))) rfl
theorem wd_349 : Cond.methodLinkNest "DaySwaps" 152 y_Day_turn "DaySwaps" ∈ lw_tbl := List.mem_append_right _ (List.mem_of_getElem? (i := 349) (by decide +kernel))
theorem wd_351 : Cond.instanceMethod y_Day_turn ∈ ds_T := ds_mem (List.mem_append_right _ (List.mem_of_getElem? (i := 351) (by decide +kernel))) rfl
theorem wd_352 : Cond.code y_Day_turn prog_2_method_13_code 3 none ∈ ds_T := ds_mem (List.mem_append_right _ (List.mem_of_getElem? (i := 352) (by decide +kernel))) rfl
theorem wd_353 : Cond.methodLink "DaySwapsLaw" 9 y_La_cell ∈ ds_T := ds_mem (List.mem_append_right _ (List.mem_of_getElem? (i := 353) (by decide +kernel))) rfl
theorem wd_354 : Cond.static y_La_cell ∈ ds_T := ds_mem (List.mem_append_right _ (List.mem_of_getElem? (i := 354) (by decide +kernel))) rfl
theorem wd_355 : Cond.code y_La_cell method_2_code 2 (some FieldType.int) ∈ ds_T := ds_mem (List.mem_append_right _ (List.mem_of_getElem? (i := 355) (by decide +kernel))) rfl
theorem wd_356 : Cond.classLink "DaySwapsLaw" 18 "DaySwapsModel" ∈ ds_T := ds_mem (List.mem_append_right _ (List.mem_of_getElem? (i := 356) (by decide +kernel))) rfl
theorem wd_357 : Cond.instantiable "DaySwapsModel" 28 ∈ ds_T := ds_mem (List.mem_append_right _ (List.mem_of_getElem? (i := 357) (by decide +kernel))) rfl
theorem wd_358 : Cond.methodLink "DaySwapsLaw" 20 y_Mo_init ∈ ds_T := ds_mem (List.mem_append_right _ (List.mem_of_getElem? (i := 358) (by decide +kernel))) rfl
theorem wd_359 : Cond.instanceMethod y_Mo_init ∈ ds_T := ds_mem (List.mem_append_right _ (List.mem_of_getElem? (i := 359) (by decide +kernel))) rfl
theorem wd_360 : Cond.code y_Mo_init prog_6_method_1_code 4 none ∈ ds_T := ds_mem (List.mem_append_right _ (List.mem_of_getElem? (i := 360) (by decide +kernel))) rfl
theorem wd_361 : Cond.methodLink "DaySwapsModel" 1 ⟨"java/lang/Object", "<init>", "()V"⟩ ∈ ds_T := ds_mem (List.mem_append_right _ (List.mem_of_getElem? (i := 361) (by decide +kernel))) rfl
theorem wd_362 : Cond.fieldLink "DaySwapsModel" 77 "DaySwapsModel" "vehicles" "I" ∈ ds_T := ds_mem (List.mem_append_right _ (List.mem_of_getElem? (i := 362) (by decide +kernel))) rfl
theorem wd_363 : Cond.fieldLink "DaySwapsModel" 81 "DaySwapsModel" "stops" "I" ∈ ds_T := ds_mem (List.mem_append_right _ (List.mem_of_getElem? (i := 363) (by decide +kernel))) rfl
theorem wd_364 : Cond.fieldLink "DaySwapsModel" 7 "DaySwapsModel" "places" "[I" ∈ ds_T := ds_mem (List.mem_append_right _ (List.mem_of_getElem? (i := 364) (by decide +kernel))) rfl
theorem wd_365 : Cond.fieldLink "DaySwapsModel" 13 "DaySwapsModel" "services" "[I" ∈ ds_T := ds_mem (List.mem_append_right _ (List.mem_of_getElem? (i := 365) (by decide +kernel))) rfl
theorem wd_366 : Cond.fieldLink "DaySwapsModel" 16 "DaySwapsModel" "homes" "[I" ∈ ds_T := ds_mem (List.mem_append_right _ (List.mem_of_getElem? (i := 366) (by decide +kernel))) rfl
theorem wd_367 : Cond.fieldLink "DaySwapsModel" 19 "DaySwapsModel" "positions" "[I" ∈ ds_T := ds_mem (List.mem_append_right _ (List.mem_of_getElem? (i := 367) (by decide +kernel))) rfl
theorem wd_368 : Cond.fieldLink "DaySwapsModel" 22 "DaySwapsModel" "rowSizes" "[I" ∈ ds_T := ds_mem (List.mem_append_right _ (List.mem_of_getElem? (i := 368) (by decide +kernel))) rfl
theorem wd_369 : Cond.fieldLink "DaySwapsModel" 25 "DaySwapsModel" "frozen" "[Z" ∈ ds_T := ds_mem (List.mem_append_right _ (List.mem_of_getElem? (i := 369) (by decide +kernel))) rfl
theorem wd_370 : Cond.fieldLink "DaySwapsModel" 29 "DaySwapsModel" "blocked" "[Z" ∈ ds_T := ds_mem (List.mem_append_right _ (List.mem_of_getElem? (i := 370) (by decide +kernel))) rfl
theorem wd_371 : Cond.fieldLink "DaySwapsModel" 32 "DaySwapsModel" "outs" "[I" ∈ ds_T := ds_mem (List.mem_append_right _ (List.mem_of_getElem? (i := 371) (by decide +kernel))) rfl
theorem wd_372 : Cond.fieldLink "DaySwapsModel" 35 "DaySwapsModel" "hours" "[I" ∈ ds_T := ds_mem (List.mem_append_right _ (List.mem_of_getElem? (i := 372) (by decide +kernel))) rfl
theorem wd_373 : Cond.fieldLink "DaySwapsModel" 38 "DaySwapsModel" "ways" "[I" ∈ ds_T := ds_mem (List.mem_append_right _ (List.mem_of_getElem? (i := 373) (by decide +kernel))) rfl
theorem wd_374 : Cond.fieldLink "DaySwapsModel" 103 "DaySwapsModel" "extra" "I" ∈ ds_T := ds_mem (List.mem_append_right _ (List.mem_of_getElem? (i := 374) (by decide +kernel))) rfl
theorem wd_375 : Cond.fieldLink "DaySwapsModel" 41 "DaySwapsModel" "plan" "[I" ∈ ds_T := ds_mem (List.mem_append_right _ (List.mem_of_getElem? (i := 375) (by decide +kernel))) rfl
theorem wd_376 : Cond.fieldLink "DaySwapsModel" 44 "DaySwapsModel" "trying" "[I" ∈ ds_T := ds_mem (List.mem_append_right _ (List.mem_of_getElem? (i := 376) (by decide +kernel))) rfl
theorem wd_377 : Cond.fieldLink "DaySwapsModel" 47 "DaySwapsModel" "best" "[I" ∈ ds_T := ds_mem (List.mem_append_right _ (List.mem_of_getElem? (i := 377) (by decide +kernel))) rfl
theorem wd_378 : Cond.fieldLink "DaySwapsModel" 149 "DaySwapsModel" "kept" "I" ∈ ds_T := ds_mem (List.mem_append_right _ (List.mem_of_getElem? (i := 378) (by decide +kernel))) rfl
theorem wd_379 : Cond.fieldLink "DaySwapsModel" 50 "DaySwapsModel" "keptPlans" "[I" ∈ ds_T := ds_mem (List.mem_append_right _ (List.mem_of_getElem? (i := 379) (by decide +kernel))) rfl
theorem wd_380 : Cond.fieldLink "DaySwapsModel" 53 "DaySwapsModel" "keptStops" "[I" ∈ ds_T := ds_mem (List.mem_append_right _ (List.mem_of_getElem? (i := 380) (by decide +kernel))) rfl
theorem wd_381 : Cond.fieldLink "DaySwapsModel" 152 "DaySwapsModel" "copies" "I" ∈ ds_T := ds_mem (List.mem_append_right _ (List.mem_of_getElem? (i := 381) (by decide +kernel))) rfl
theorem wd_382 : Cond.fieldLink "DaySwapsModel" 56 "DaySwapsModel" "copyPlans" "[I" ∈ ds_T := ds_mem (List.mem_append_right _ (List.mem_of_getElem? (i := 382) (by decide +kernel))) rfl
theorem wd_383 : Cond.fieldLink "DaySwapsModel" 59 "DaySwapsModel" "copyStops" "[I" ∈ ds_T := ds_mem (List.mem_append_right _ (List.mem_of_getElem? (i := 383) (by decide +kernel))) rfl
theorem wd_384 : Cond.fieldLink "DaySwapsModel" 62 "DaySwapsModel" "noticed" "[I" ∈ ds_T := ds_mem (List.mem_append_right _ (List.mem_of_getElem? (i := 384) (by decide +kernel))) rfl
theorem wd_385 : Cond.fieldLink "DaySwapsModel" 65 "DaySwapsModel" "notices" "[I" ∈ ds_T := ds_mem (List.mem_append_right _ (List.mem_of_getElem? (i := 385) (by decide +kernel))) rfl
theorem wd_386 : Cond.fieldLink "DaySwapsModel" 68 "DaySwapsModel" "round" "[I" ∈ ds_T := ds_mem (List.mem_append_right _ (List.mem_of_getElem? (i := 386) (by decide +kernel))) rfl
theorem wd_387 : Cond.fieldLink "DaySwapsModel" 106 "DaySwapsModel" "roundSize" "I" ∈ ds_T := ds_mem (List.mem_append_right _ (List.mem_of_getElem? (i := 387) (by decide +kernel))) rfl
theorem wd_388 : Cond.fieldLink "DaySwapsModel" 71 "DaySwapsModel" "newHomes" "[I" ∈ ds_T := ds_mem (List.mem_append_right _ (List.mem_of_getElem? (i := 388) (by decide +kernel))) rfl
theorem wd_389 : Cond.fieldLink "DaySwapsModel" 74 "DaySwapsModel" "newPositions" "[I" ∈ ds_T := ds_mem (List.mem_append_right _ (List.mem_of_getElem? (i := 389) (by decide +kernel))) rfl
theorem wd_447 : Cond.methodLink "DaySwapsLaw" 25 y_Mo_stop ∈ ds_T := ds_mem (List.mem_append_right _ (List.mem_of_getElem? (i := 447) (by decide +kernel))) rfl
theorem wd_448 : Cond.instanceMethod y_Mo_stop ∈ ds_T := ds_mem (List.mem_append_right _ (List.mem_of_getElem? (i := 448) (by decide +kernel))) rfl
theorem wd_449 : Cond.selects "DaySwapsModel" y_Mo_stop y_Mo_stop ∈ ds_T := ds_mem (List.mem_append_right _ (List.mem_of_getElem? (i := 449) (by decide +kernel))) rfl
theorem wd_450 : Cond.code y_Mo_stop prog_6_method_6_code 4 (some FieldType.int) ∈ ds_T := ds_mem (List.mem_append_right _ (List.mem_of_getElem? (i := 450) (by decide +kernel))) rfl
theorem wd_451 : Cond.methodLink "DaySwapsModel" 84 y_Mo_isVehicle ∈ ds_T := ds_mem (List.mem_append_right _ (List.mem_of_getElem? (i := 451) (by decide +kernel))) rfl
theorem wd_453 : Cond.instanceMethod y_Mo_isVehicle ∈ ds_T := ds_mem (List.mem_append_right _ (List.mem_of_getElem? (i := 453) (by decide +kernel))) rfl
theorem wd_454 : Cond.code y_Mo_isVehicle prog_6_method_4_code 2 (some FieldType.boolean) ∈ ds_T := ds_mem (List.mem_append_right _ (List.mem_of_getElem? (i := 454) (by decide +kernel))) rfl
theorem wd_455 : Cond.constantLong "DaySwapsModel" 88 (9 : Int64) ∈ ds_T := ds_mem (List.mem_append_right _ (List.mem_of_getElem? (i := 455) (by decide +kernel))) rfl
theorem wd_456 : Cond.methodLink "DaySwapsModel" 90 y_Mo_isIn ∈ ds_T := ds_mem (List.mem_append_right _ (List.mem_of_getElem? (i := 456) (by decide +kernel))) rfl
theorem wd_457 : Cond.static y_Mo_isIn ∈ ds_T := ds_mem (List.mem_append_right _ (List.mem_of_getElem? (i := 457) (by decide +kernel))) rfl
theorem wd_458 : Cond.code y_Mo_isIn prog_6_method_3_code 6 (some FieldType.boolean) ∈ ds_T := ds_mem (List.mem_append_right _ (List.mem_of_getElem? (i := 458) (by decide +kernel))) rfl
theorem wd_459 : Cond.constantLong "DaySwapsModel" 94 (10000 : Int64) ∈ ds_T := ds_mem (List.mem_append_right _ (List.mem_of_getElem? (i := 459) (by decide +kernel))) rfl
theorem wd_460 : Cond.methodLink "DaySwapsLaw" 30 y_Mo_freeze ∈ ds_T := ds_mem (List.mem_append_right _ (List.mem_of_getElem? (i := 460) (by decide +kernel))) rfl
theorem wd_461 : Cond.instanceMethod y_Mo_freeze ∈ ds_T := ds_mem (List.mem_append_right _ (List.mem_of_getElem? (i := 461) (by decide +kernel))) rfl
theorem wd_462 : Cond.selects "DaySwapsModel" y_Mo_freeze y_Mo_freeze ∈ ds_T := ds_mem (List.mem_append_right _ (List.mem_of_getElem? (i := 462) (by decide +kernel))) rfl
theorem wd_463 : Cond.code y_Mo_freeze prog_6_method_7_code 3 (some FieldType.boolean) ∈ ds_T := ds_mem (List.mem_append_right _ (List.mem_of_getElem? (i := 463) (by decide +kernel))) rfl
theorem wd_464 : Cond.methodLink "DaySwapsModel" 96 y_Mo_isStop ∈ ds_T := ds_mem (List.mem_append_right _ (List.mem_of_getElem? (i := 464) (by decide +kernel))) rfl
theorem wd_466 : Cond.instanceMethod y_Mo_isStop ∈ ds_T := ds_mem (List.mem_append_right _ (List.mem_of_getElem? (i := 466) (by decide +kernel))) rfl
theorem wd_467 : Cond.code y_Mo_isStop prog_6_method_5_code 2 (some FieldType.boolean) ∈ ds_T := ds_mem (List.mem_append_right _ (List.mem_of_getElem? (i := 467) (by decide +kernel))) rfl
theorem wd_468 : Cond.methodLink "DaySwapsLaw" 34 y_Mo_block ∈ ds_T := ds_mem (List.mem_append_right _ (List.mem_of_getElem? (i := 468) (by decide +kernel))) rfl
theorem wd_469 : Cond.instanceMethod y_Mo_block ∈ ds_T := ds_mem (List.mem_append_right _ (List.mem_of_getElem? (i := 469) (by decide +kernel))) rfl
theorem wd_470 : Cond.selects "DaySwapsModel" y_Mo_block y_Mo_block ∈ ds_T := ds_mem (List.mem_append_right _ (List.mem_of_getElem? (i := 470) (by decide +kernel))) rfl
theorem wd_471 : Cond.code y_Mo_block prog_6_method_8_code 3 (some FieldType.boolean) ∈ ds_T := ds_mem (List.mem_append_right _ (List.mem_of_getElem? (i := 471) (by decide +kernel))) rfl
theorem wd_472 : Cond.methodLink "DaySwapsLaw" 39 y_Mo_out ∈ ds_T := ds_mem (List.mem_append_right _ (List.mem_of_getElem? (i := 472) (by decide +kernel))) rfl
theorem wd_473 : Cond.instanceMethod y_Mo_out ∈ ds_T := ds_mem (List.mem_append_right _ (List.mem_of_getElem? (i := 473) (by decide +kernel))) rfl
theorem wd_474 : Cond.selects "DaySwapsModel" y_Mo_out y_Mo_out ∈ ds_T := ds_mem (List.mem_append_right _ (List.mem_of_getElem? (i := 474) (by decide +kernel))) rfl
theorem wd_475 : Cond.code y_Mo_out prog_6_method_9_code 3 (some FieldType.boolean) ∈ ds_T := ds_mem (List.mem_append_right _ (List.mem_of_getElem? (i := 475) (by decide +kernel))) rfl
theorem wd_476 : Cond.constantLong "DaySwapsModel" 99 (8 : Int64) ∈ ds_T := ds_mem (List.mem_append_right _ (List.mem_of_getElem? (i := 476) (by decide +kernel))) rfl
theorem wd_477 : Cond.methodLink "DaySwapsLaw" 44 y_Mo_way ∈ ds_T := ds_mem (List.mem_append_right _ (List.mem_of_getElem? (i := 477) (by decide +kernel))) rfl
theorem wd_478 : Cond.instanceMethod y_Mo_way ∈ ds_T := ds_mem (List.mem_append_right _ (List.mem_of_getElem? (i := 478) (by decide +kernel))) rfl
theorem wd_479 : Cond.selects "DaySwapsModel" y_Mo_way y_Mo_way ∈ ds_T := ds_mem (List.mem_append_right _ (List.mem_of_getElem? (i := 479) (by decide +kernel))) rfl
theorem wd_480 : Cond.code y_Mo_way prog_6_method_10_code 4 (some FieldType.boolean) ∈ ds_T := ds_mem (List.mem_append_right _ (List.mem_of_getElem? (i := 480) (by decide +kernel))) rfl
theorem wd_481 : Cond.methodLink "DaySwapsLaw" 48 y_Mo_hours ∈ ds_T := ds_mem (List.mem_append_right _ (List.mem_of_getElem? (i := 481) (by decide +kernel))) rfl
theorem wd_482 : Cond.instanceMethod y_Mo_hours ∈ ds_T := ds_mem (List.mem_append_right _ (List.mem_of_getElem? (i := 482) (by decide +kernel))) rfl
theorem wd_483 : Cond.selects "DaySwapsModel" y_Mo_hours y_Mo_hours ∈ ds_T := ds_mem (List.mem_append_right _ (List.mem_of_getElem? (i := 483) (by decide +kernel))) rfl
theorem wd_484 : Cond.code y_Mo_hours prog_6_method_11_code 3 (some FieldType.boolean) ∈ ds_T := ds_mem (List.mem_append_right _ (List.mem_of_getElem? (i := 484) (by decide +kernel))) rfl
theorem wd_485 : Cond.constantLong "DaySwapsModel" 101 (100000 : Int64) ∈ ds_T := ds_mem (List.mem_append_right _ (List.mem_of_getElem? (i := 485) (by decide +kernel))) rfl
theorem wd_486 : Cond.methodLink "DaySwapsLaw" 53 y_Mo_extra ∈ ds_T := ds_mem (List.mem_append_right _ (List.mem_of_getElem? (i := 486) (by decide +kernel))) rfl
theorem wd_487 : Cond.instanceMethod y_Mo_extra ∈ ds_T := ds_mem (List.mem_append_right _ (List.mem_of_getElem? (i := 487) (by decide +kernel))) rfl
theorem wd_488 : Cond.selects "DaySwapsModel" y_Mo_extra y_Mo_extra ∈ ds_T := ds_mem (List.mem_append_right _ (List.mem_of_getElem? (i := 488) (by decide +kernel))) rfl
theorem wd_489 : Cond.code y_Mo_extra prog_6_method_12_code 2 (some FieldType.boolean) ∈ ds_T := ds_mem (List.mem_append_right _ (List.mem_of_getElem? (i := 489) (by decide +kernel))) rfl
theorem wd_490 : Cond.methodLink "DaySwapsLaw" 102 y_Mo_cost ∈ ds_T := ds_mem (List.mem_append_right _ (List.mem_of_getElem? (i := 490) (by decide +kernel))) rfl
theorem wd_491 : Cond.instanceMethod y_Mo_cost ∈ ds_T := ds_mem (List.mem_append_right _ (List.mem_of_getElem? (i := 491) (by decide +kernel))) rfl
theorem wd_492 : Cond.selects "DaySwapsModel" y_Mo_cost y_Mo_cost ∈ ds_T := ds_mem (List.mem_append_right _ (List.mem_of_getElem? (i := 492) (by decide +kernel))) rfl
theorem wd_493 : Cond.code y_Mo_cost prog_6_method_17_code 1 (some FieldType.long) ∈ ds_T := ds_mem (List.mem_append_right _ (List.mem_of_getElem? (i := 493) (by decide +kernel))) rfl
theorem wd_494 : Cond.methodLink "DaySwapsModel" 120 y_Mo_costOf ∈ ds_T := ds_mem (List.mem_append_right _ (List.mem_of_getElem? (i := 494) (by decide +kernel))) rfl
theorem wd_496 : Cond.instanceMethod y_Mo_costOf ∈ ds_T := ds_mem (List.mem_append_right _ (List.mem_of_getElem? (i := 496) (by decide +kernel))) rfl
theorem wd_497 : Cond.code y_Mo_costOf prog_6_method_16_code 5 (some FieldType.long) ∈ ds_T := ds_mem (List.mem_append_right _ (List.mem_of_getElem? (i := 497) (by decide +kernel))) rfl
theorem wd_498 : Cond.methodLink "DaySwapsModel" 113 y_Mo_timeOf ∈ ds_T := ds_mem (List.mem_append_right _ (List.mem_of_getElem? (i := 498) (by decide +kernel))) rfl
theorem wd_500 : Cond.instanceMethod y_Mo_timeOf ∈ ds_T := ds_mem (List.mem_append_right _ (List.mem_of_getElem? (i := 500) (by decide +kernel))) rfl
theorem wd_501 : Cond.code y_Mo_timeOf prog_6_method_14_code 6 (some FieldType.int) ∈ ds_T := ds_mem (List.mem_append_right _ (List.mem_of_getElem? (i := 501) (by decide +kernel))) rfl
theorem wd_502 : Cond.methodLink "DaySwapsModel" 109 y_Mo_go ∈ ds_T := ds_mem (List.mem_append_right _ (List.mem_of_getElem? (i := 502) (by decide +kernel))) rfl
theorem wd_504 : Cond.instanceMethod y_Mo_go ∈ ds_T := ds_mem (List.mem_append_right _ (List.mem_of_getElem? (i := 504) (by decide +kernel))) rfl
theorem wd_505 : Cond.code y_Mo_go prog_6_method_13_code 5 none ∈ ds_T := ds_mem (List.mem_append_right _ (List.mem_of_getElem? (i := 505) (by decide +kernel))) rfl
theorem wd_506 : Cond.methodLink "DaySwapsModel" 117 y_Mo_overtimeOf ∈ ds_T := ds_mem (List.mem_append_right _ (List.mem_of_getElem? (i := 506) (by decide +kernel))) rfl
theorem wd_508 : Cond.instanceMethod y_Mo_overtimeOf ∈ ds_T := ds_mem (List.mem_append_right _ (List.mem_of_getElem? (i := 508) (by decide +kernel))) rfl
theorem wd_509 : Cond.code y_Mo_overtimeOf prog_6_method_15_code 4 (some FieldType.int) ∈ ds_T := ds_mem (List.mem_append_right _ (List.mem_of_getElem? (i := 509) (by decide +kernel))) rfl
theorem wd_510 : Cond.methodLink "DaySwapsLaw" 106 y_Mo_overtime ∈ ds_T := ds_mem (List.mem_append_right _ (List.mem_of_getElem? (i := 510) (by decide +kernel))) rfl
theorem wd_511 : Cond.instanceMethod y_Mo_overtime ∈ ds_T := ds_mem (List.mem_append_right _ (List.mem_of_getElem? (i := 511) (by decide +kernel))) rfl
theorem wd_512 : Cond.selects "DaySwapsModel" y_Mo_overtime y_Mo_overtime ∈ ds_T := ds_mem (List.mem_append_right _ (List.mem_of_getElem? (i := 512) (by decide +kernel))) rfl
theorem wd_513 : Cond.code y_Mo_overtime prog_6_method_18_code 2 (some FieldType.int) ∈ ds_T := ds_mem (List.mem_append_right _ (List.mem_of_getElem? (i := 513) (by decide +kernel))) rfl
theorem wd_514 : Cond.methodLink "DaySwapsLaw" 58 y_Mo_run ∈ ds_T := ds_mem (List.mem_append_right _ (List.mem_of_getElem? (i := 514) (by decide +kernel))) rfl
theorem wd_515 : Cond.instanceMethod y_Mo_run ∈ ds_T := ds_mem (List.mem_append_right _ (List.mem_of_getElem? (i := 515) (by decide +kernel))) rfl
theorem wd_516 : Cond.selects "DaySwapsModel" y_Mo_run y_Mo_run ∈ ds_T := ds_mem (List.mem_append_right _ (List.mem_of_getElem? (i := 516) (by decide +kernel))) rfl
theorem wd_517 : Cond.code y_Mo_run prog_6_method_25_code 9 (some FieldType.int) ∈ ds_T := ds_mem (List.mem_append_right _ (List.mem_of_getElem? (i := 517) (by decide +kernel))) rfl
theorem wd_518 : Cond.methodLink "DaySwapsModel" 128 y_Mo_movedBy ∈ ds_T := ds_mem (List.mem_append_right _ (List.mem_of_getElem? (i := 518) (by decide +kernel))) rfl
theorem wd_520 : Cond.instanceMethod y_Mo_movedBy ∈ ds_T := ds_mem (List.mem_append_right _ (List.mem_of_getElem? (i := 520) (by decide +kernel))) rfl
theorem wd_521 : Cond.code y_Mo_movedBy prog_6_method_22_code 4 (some FieldType.int) ∈ ds_T := ds_mem (List.mem_append_right _ (List.mem_of_getElem? (i := 521) (by decide +kernel))) rfl
theorem wd_522 : Cond.methodLink "DaySwapsModel" 132 y_Mo_holdsApart ∈ ds_T := ds_mem (List.mem_append_right _ (List.mem_of_getElem? (i := 522) (by decide +kernel))) rfl
theorem wd_524 : Cond.instanceMethod y_Mo_holdsApart ∈ ds_T := ds_mem (List.mem_append_right _ (List.mem_of_getElem? (i := 524) (by decide +kernel))) rfl
theorem wd_525 : Cond.code y_Mo_holdsApart prog_6_method_20_code 4 (some FieldType.boolean) ∈ ds_T := ds_mem (List.mem_append_right _ (List.mem_of_getElem? (i := 525) (by decide +kernel))) rfl
theorem wd_526 : Cond.methodLink "DaySwapsModel" 124 y_Mo_can ∈ ds_T := ds_mem (List.mem_append_right _ (List.mem_of_getElem? (i := 526) (by decide +kernel))) rfl
theorem wd_528 : Cond.instanceMethod y_Mo_can ∈ ds_T := ds_mem (List.mem_append_right _ (List.mem_of_getElem? (i := 528) (by decide +kernel))) rfl
theorem wd_529 : Cond.code y_Mo_can prog_6_method_19_code 3 (some FieldType.boolean) ∈ ds_T := ds_mem (List.mem_append_right _ (List.mem_of_getElem? (i := 529) (by decide +kernel))) rfl
theorem wd_530 : Cond.methodLink "DaySwapsModel" 136 y_Mo_holdsOvertime ∈ ds_T := ds_mem (List.mem_append_right _ (List.mem_of_getElem? (i := 530) (by decide +kernel))) rfl
theorem wd_532 : Cond.instanceMethod y_Mo_holdsOvertime ∈ ds_T := ds_mem (List.mem_append_right _ (List.mem_of_getElem? (i := 532) (by decide +kernel))) rfl
theorem wd_533 : Cond.code y_Mo_holdsOvertime prog_6_method_21_code 3 (some FieldType.boolean) ∈ ds_T := ds_mem (List.mem_append_right _ (List.mem_of_getElem? (i := 533) (by decide +kernel))) rfl
theorem wd_534 : Cond.methodLink "DaySwapsModel" 139 y_Mo_turn ∈ ds_T := ds_mem (List.mem_append_right _ (List.mem_of_getElem? (i := 534) (by decide +kernel))) rfl
theorem wd_536 : Cond.instanceMethod y_Mo_turn ∈ ds_T := ds_mem (List.mem_append_right _ (List.mem_of_getElem? (i := 536) (by decide +kernel))) rfl
theorem wd_537 : Cond.code y_Mo_turn prog_6_method_23_code 2 (some FieldType.boolean) ∈ ds_T := ds_mem (List.mem_append_right _ (List.mem_of_getElem? (i := 537) (by decide +kernel))) rfl
theorem wd_538 : Cond.methodLink "DaySwapsModel" 142 y_Mo_why ∈ ds_T := ds_mem (List.mem_append_right _ (List.mem_of_getElem? (i := 538) (by decide +kernel))) rfl
theorem wd_540 : Cond.instanceMethod y_Mo_why ∈ ds_T := ds_mem (List.mem_append_right _ (List.mem_of_getElem? (i := 540) (by decide +kernel))) rfl
theorem wd_541 : Cond.code y_Mo_why prog_6_method_24_code 4 (some FieldType.int) ∈ ds_T := ds_mem (List.mem_append_right _ (List.mem_of_getElem? (i := 541) (by decide +kernel))) rfl
theorem wd_542 : Cond.methodLink "DaySwapsModel" 146 y_Mo_keep ∈ ds_T := ds_mem (List.mem_append_right _ (List.mem_of_getElem? (i := 542) (by decide +kernel))) rfl
theorem wd_544 : Cond.instanceMethod y_Mo_keep ∈ ds_T := ds_mem (List.mem_append_right _ (List.mem_of_getElem? (i := 544) (by decide +kernel))) rfl
theorem wd_545 : Cond.code y_Mo_keep prog_6_method_26_code 3 none ∈ ds_T := ds_mem (List.mem_append_right _ (List.mem_of_getElem? (i := 545) (by decide +kernel))) rfl
theorem wd_546 : Cond.methodLink "DaySwapsLaw" 88 y_Mo_undo ∈ ds_T := ds_mem (List.mem_append_right _ (List.mem_of_getElem? (i := 546) (by decide +kernel))) rfl
theorem wd_547 : Cond.instanceMethod y_Mo_undo ∈ ds_T := ds_mem (List.mem_append_right _ (List.mem_of_getElem? (i := 547) (by decide +kernel))) rfl
theorem wd_548 : Cond.selects "DaySwapsModel" y_Mo_undo y_Mo_undo ∈ ds_T := ds_mem (List.mem_append_right _ (List.mem_of_getElem? (i := 548) (by decide +kernel))) rfl
theorem wd_549 : Cond.code y_Mo_undo prog_6_method_27_code 2 (some FieldType.boolean) ∈ ds_T := ds_mem (List.mem_append_right _ (List.mem_of_getElem? (i := 549) (by decide +kernel))) rfl
theorem wd_550 : Cond.methodLink "DaySwapsLaw" 63 y_Mo_vehicleOf ∈ ds_T := ds_mem (List.mem_append_right _ (List.mem_of_getElem? (i := 550) (by decide +kernel))) rfl
theorem wd_551 : Cond.instanceMethod y_Mo_vehicleOf ∈ ds_T := ds_mem (List.mem_append_right _ (List.mem_of_getElem? (i := 551) (by decide +kernel))) rfl
theorem wd_552 : Cond.selects "DaySwapsModel" y_Mo_vehicleOf y_Mo_vehicleOf ∈ ds_T := ds_mem (List.mem_append_right _ (List.mem_of_getElem? (i := 552) (by decide +kernel))) rfl
theorem wd_553 : Cond.code y_Mo_vehicleOf prog_6_method_28_code 2 (some FieldType.int) ∈ ds_T := ds_mem (List.mem_append_right _ (List.mem_of_getElem? (i := 553) (by decide +kernel))) rfl
theorem wd_554 : Cond.methodLink "DaySwapsLaw" 67 y_Mo_place ∈ ds_T := ds_mem (List.mem_append_right _ (List.mem_of_getElem? (i := 554) (by decide +kernel))) rfl
theorem wd_555 : Cond.instanceMethod y_Mo_place ∈ ds_T := ds_mem (List.mem_append_right _ (List.mem_of_getElem? (i := 555) (by decide +kernel))) rfl
theorem wd_556 : Cond.selects "DaySwapsModel" y_Mo_place y_Mo_place ∈ ds_T := ds_mem (List.mem_append_right _ (List.mem_of_getElem? (i := 556) (by decide +kernel))) rfl
theorem wd_557 : Cond.code y_Mo_place prog_6_method_29_code 3 (some FieldType.int) ∈ ds_T := ds_mem (List.mem_append_right _ (List.mem_of_getElem? (i := 557) (by decide +kernel))) rfl
theorem wd_558 : Cond.methodLink "DaySwapsLaw" 71 y_Mo_moved ∈ ds_T := ds_mem (List.mem_append_right _ (List.mem_of_getElem? (i := 558) (by decide +kernel))) rfl
theorem wd_559 : Cond.instanceMethod y_Mo_moved ∈ ds_T := ds_mem (List.mem_append_right _ (List.mem_of_getElem? (i := 559) (by decide +kernel))) rfl
theorem wd_560 : Cond.selects "DaySwapsModel" y_Mo_moved y_Mo_moved ∈ ds_T := ds_mem (List.mem_append_right _ (List.mem_of_getElem? (i := 560) (by decide +kernel))) rfl
theorem wd_561 : Cond.code y_Mo_moved prog_6_method_30_code 4 (some FieldType.int) ∈ ds_T := ds_mem (List.mem_append_right _ (List.mem_of_getElem? (i := 561) (by decide +kernel))) rfl
theorem wd_562 : Cond.methodLink "DaySwapsLaw" 75 y_Mo_carried ∈ ds_T := ds_mem (List.mem_append_right _ (List.mem_of_getElem? (i := 562) (by decide +kernel))) rfl
theorem wd_563 : Cond.instanceMethod y_Mo_carried ∈ ds_T := ds_mem (List.mem_append_right _ (List.mem_of_getElem? (i := 563) (by decide +kernel))) rfl
theorem wd_564 : Cond.selects "DaySwapsModel" y_Mo_carried y_Mo_carried ∈ ds_T := ds_mem (List.mem_append_right _ (List.mem_of_getElem? (i := 564) (by decide +kernel))) rfl
theorem wd_565 : Cond.code y_Mo_carried prog_6_method_31_code 4 (some FieldType.int) ∈ ds_T := ds_mem (List.mem_append_right _ (List.mem_of_getElem? (i := 565) (by decide +kernel))) rfl
theorem wd_566 : Cond.methodLink "DaySwapsLaw" 79 y_Mo_send ∈ ds_T := ds_mem (List.mem_append_right _ (List.mem_of_getElem? (i := 566) (by decide +kernel))) rfl
theorem wd_567 : Cond.instanceMethod y_Mo_send ∈ ds_T := ds_mem (List.mem_append_right _ (List.mem_of_getElem? (i := 567) (by decide +kernel))) rfl
theorem wd_568 : Cond.selects "DaySwapsModel" y_Mo_send y_Mo_send ∈ ds_T := ds_mem (List.mem_append_right _ (List.mem_of_getElem? (i := 568) (by decide +kernel))) rfl
theorem wd_569 : Cond.code y_Mo_send prog_6_method_32_code 3 (some FieldType.int) ∈ ds_T := ds_mem (List.mem_append_right _ (List.mem_of_getElem? (i := 569) (by decide +kernel))) rfl
theorem wd_570 : Cond.methodLink "DaySwapsLaw" 83 y_Mo_sent ∈ ds_T := ds_mem (List.mem_append_right _ (List.mem_of_getElem? (i := 570) (by decide +kernel))) rfl
theorem wd_571 : Cond.instanceMethod y_Mo_sent ∈ ds_T := ds_mem (List.mem_append_right _ (List.mem_of_getElem? (i := 571) (by decide +kernel))) rfl
theorem wd_572 : Cond.selects "DaySwapsModel" y_Mo_sent y_Mo_sent ∈ ds_T := ds_mem (List.mem_append_right _ (List.mem_of_getElem? (i := 572) (by decide +kernel))) rfl
theorem wd_573 : Cond.code y_Mo_sent prog_6_method_33_code 2 (some FieldType.int) ∈ ds_T := ds_mem (List.mem_append_right _ (List.mem_of_getElem? (i := 573) (by decide +kernel))) rfl
theorem wd_574 : Cond.methodLink "DaySwapsLaw" 92 y_Mo_copy ∈ ds_T := ds_mem (List.mem_append_right _ (List.mem_of_getElem? (i := 574) (by decide +kernel))) rfl
theorem wd_575 : Cond.instanceMethod y_Mo_copy ∈ ds_T := ds_mem (List.mem_append_right _ (List.mem_of_getElem? (i := 575) (by decide +kernel))) rfl
theorem wd_576 : Cond.selects "DaySwapsModel" y_Mo_copy y_Mo_copy ∈ ds_T := ds_mem (List.mem_append_right _ (List.mem_of_getElem? (i := 576) (by decide +kernel))) rfl
theorem wd_577 : Cond.code y_Mo_copy prog_6_method_34_code 2 (some FieldType.int) ∈ ds_T := ds_mem (List.mem_append_right _ (List.mem_of_getElem? (i := 577) (by decide +kernel))) rfl
theorem wd_578 : Cond.methodLink "DaySwapsLaw" 97 y_Mo_compare ∈ ds_T := ds_mem (List.mem_append_right _ (List.mem_of_getElem? (i := 578) (by decide +kernel))) rfl
theorem wd_579 : Cond.instanceMethod y_Mo_compare ∈ ds_T := ds_mem (List.mem_append_right _ (List.mem_of_getElem? (i := 579) (by decide +kernel))) rfl
theorem wd_580 : Cond.selects "DaySwapsModel" y_Mo_compare y_Mo_compare ∈ ds_T := ds_mem (List.mem_append_right _ (List.mem_of_getElem? (i := 580) (by decide +kernel))) rfl
theorem wd_581 : Cond.code y_Mo_compare prog_6_method_35_code 5 (some FieldType.int) ∈ ds_T := ds_mem (List.mem_append_right _ (List.mem_of_getElem? (i := 581) (by decide +kernel))) rfl
theorem wd_582 : Cond.methodLink "DaySwapsLaw" 110 y_Mo_next ∈ ds_T := ds_mem (List.mem_append_right _ (List.mem_of_getElem? (i := 582) (by decide +kernel))) rfl
theorem wd_583 : Cond.instanceMethod y_Mo_next ∈ ds_T := ds_mem (List.mem_append_right _ (List.mem_of_getElem? (i := 583) (by decide +kernel))) rfl
theorem wd_584 : Cond.selects "DaySwapsModel" y_Mo_next y_Mo_next ∈ ds_T := ds_mem (List.mem_append_right _ (List.mem_of_getElem? (i := 584) (by decide +kernel))) rfl
theorem wd_585 : Cond.code y_Mo_next prog_6_method_36_code 5 (some FieldType.int) ∈ ds_T := ds_mem (List.mem_append_right _ (List.mem_of_getElem? (i := 585) (by decide +kernel))) rfl
theorem ws_Day_isVehicle : Cond.selects R_Day y_Day_isVehicle y_Day_isVehicle ∈ ds_T := ds_mem (List.mem_append_left _ (List.mem_of_getElem? (i := 0) (by decide +kernel))) rfl
theorem ws_Day_tell : Cond.selects R_Day y_Day_tell y_Day_tell ∈ ds_T := ds_mem (List.mem_append_left _ (List.mem_of_getElem? (i := 1) (by decide +kernel))) rfl
theorem ws_Day_append : Cond.selects R_Day y_Day_append y_Day_append ∈ ds_T := ds_mem (List.mem_append_left _ (List.mem_of_getElem? (i := 2) (by decide +kernel))) rfl
theorem ws_Day_isStop : Cond.selects R_Day y_Day_isStop y_Day_isStop ∈ ds_T := ds_mem (List.mem_append_left _ (List.mem_of_getElem? (i := 3) (by decide +kernel))) rfl
theorem ws_Se_least : Cond.selects R_Se y_Se_least y_Se_least ∈ ds_T := ds_mem (List.mem_append_left _ (List.mem_of_getElem? (i := 4) (by decide +kernel))) rfl
theorem ws_Se_weightOf : Cond.selects R_Se y_Se_weightOf y_Se_weightOf ∈ ds_T := ds_mem (List.mem_append_left _ (List.mem_of_getElem? (i := 5) (by decide +kernel))) rfl
theorem ws_Day_mayHave : Cond.selects R_Day y_Day_mayHave y_Day_mayHave ∈ ds_T := ds_mem (List.mem_append_left _ (List.mem_of_getElem? (i := 6) (by decide +kernel))) rfl
theorem ws_Day_canDo : Cond.selects R_Day y_Day_canDo y_Day_canDo ∈ ds_T := ds_mem (List.mem_append_left _ (List.mem_of_getElem? (i := 7) (by decide +kernel))) rfl
theorem ws_Day_timeOf : Cond.selects R_Day y_Day_timeOf y_Day_timeOf ∈ ds_T := ds_mem (List.mem_append_left _ (List.mem_of_getElem? (i := 8) (by decide +kernel))) rfl
theorem ws_Day_addRound : Cond.selects R_Day y_Day_addRound y_Day_addRound ∈ ds_T := ds_mem (List.mem_append_left _ (List.mem_of_getElem? (i := 9) (by decide +kernel))) rfl
theorem ws_Day_overHours : Cond.selects R_Day y_Day_overHours y_Day_overHours ∈ ds_T := ds_mem (List.mem_append_left _ (List.mem_of_getElem? (i := 10) (by decide +kernel))) rfl
theorem ws_Se_join : Cond.selects R_Se y_Se_join y_Se_join ∈ ds_T := ds_mem (List.mem_append_left _ (List.mem_of_getElem? (i := 11) (by decide +kernel))) rfl
theorem ws_DS_whyNoPlan : Cond.selects R_DS y_DS_whyNoPlan y_DS_whyNoPlan ∈ ds_T := ds_mem (List.mem_append_left _ (List.mem_of_getElem? (i := 12) (by decide +kernel))) rfl
theorem ws_Sh_putLatest : Cond.selects R_Sh y_Sh_putLatest y_Sh_putLatest ∈ ds_T := ds_mem (List.mem_append_left _ (List.mem_of_getElem? (i := 13) (by decide +kernel))) rfl
theorem ws_DS_movedSet : Cond.selects R_DS y_DS_movedSet y_DS_movedSet ∈ ds_T := ds_mem (List.mem_append_left _ (List.mem_of_getElem? (i := 14) (by decide +kernel))) rfl
theorem ws_DS_setOf : Cond.selects R_DS y_DS_setOf y_DS_setOf ∈ ds_T := ds_mem (List.mem_append_left _ (List.mem_of_getElem? (i := 15) (by decide +kernel))) rfl
theorem ws_Day_placeInRound : Cond.selects R_Day y_Day_placeInRound y_Day_placeInRound ∈ ds_T := ds_mem (List.mem_append_left _ (List.mem_of_getElem? (i := 16) (by decide +kernel))) rfl
theorem ws_Day_prepareRow : Cond.selects R_Day y_Day_prepareRow y_Day_prepareRow ∈ ds_T := ds_mem (List.mem_append_left _ (List.mem_of_getElem? (i := 17) (by decide +kernel))) rfl
theorem ws_Day_turn : Cond.selects R_Day y_Day_turn y_Day_turn ∈ ds_T := ds_mem (List.mem_append_left _ (List.mem_of_getElem? (i := 18) (by decide +kernel))) rfl
theorem ws_Mo_isVehicle : Cond.selects R_Mo y_Mo_isVehicle y_Mo_isVehicle ∈ ds_T := ds_mem (List.mem_append_left _ (List.mem_of_getElem? (i := 19) (by decide +kernel))) rfl
theorem ws_Mo_isStop : Cond.selects R_Mo y_Mo_isStop y_Mo_isStop ∈ ds_T := ds_mem (List.mem_append_left _ (List.mem_of_getElem? (i := 20) (by decide +kernel))) rfl
theorem ws_Mo_costOf : Cond.selects R_Mo y_Mo_costOf y_Mo_costOf ∈ ds_T := ds_mem (List.mem_append_left _ (List.mem_of_getElem? (i := 21) (by decide +kernel))) rfl
theorem ws_Mo_timeOf : Cond.selects R_Mo y_Mo_timeOf y_Mo_timeOf ∈ ds_T := ds_mem (List.mem_append_left _ (List.mem_of_getElem? (i := 22) (by decide +kernel))) rfl
theorem ws_Mo_go : Cond.selects R_Mo y_Mo_go y_Mo_go ∈ ds_T := ds_mem (List.mem_append_left _ (List.mem_of_getElem? (i := 23) (by decide +kernel))) rfl
theorem ws_Mo_overtimeOf : Cond.selects R_Mo y_Mo_overtimeOf y_Mo_overtimeOf ∈ ds_T := ds_mem (List.mem_append_left _ (List.mem_of_getElem? (i := 24) (by decide +kernel))) rfl
theorem ws_Mo_movedBy : Cond.selects R_Mo y_Mo_movedBy y_Mo_movedBy ∈ ds_T := ds_mem (List.mem_append_left _ (List.mem_of_getElem? (i := 25) (by decide +kernel))) rfl
theorem ws_Mo_holdsApart : Cond.selects R_Mo y_Mo_holdsApart y_Mo_holdsApart ∈ ds_T := ds_mem (List.mem_append_left _ (List.mem_of_getElem? (i := 26) (by decide +kernel))) rfl
theorem ws_Mo_can : Cond.selects R_Mo y_Mo_can y_Mo_can ∈ ds_T := ds_mem (List.mem_append_left _ (List.mem_of_getElem? (i := 27) (by decide +kernel))) rfl
theorem ws_Mo_holdsOvertime : Cond.selects R_Mo y_Mo_holdsOvertime y_Mo_holdsOvertime ∈ ds_T := ds_mem (List.mem_append_left _ (List.mem_of_getElem? (i := 28) (by decide +kernel))) rfl
theorem ws_Mo_turn : Cond.selects R_Mo y_Mo_turn y_Mo_turn ∈ ds_T := ds_mem (List.mem_append_left _ (List.mem_of_getElem? (i := 29) (by decide +kernel))) rfl
theorem ws_Mo_why : Cond.selects R_Mo y_Mo_why y_Mo_why ∈ ds_T := ds_mem (List.mem_append_left _ (List.mem_of_getElem? (i := 30) (by decide +kernel))) rfl
theorem ws_Mo_keep : Cond.selects R_Mo y_Mo_keep y_Mo_keep ∈ ds_T := ds_mem (List.mem_append_left _ (List.mem_of_getElem? (i := 31) (by decide +kernel))) rfl
end
section
theorem d_DS_init_0 : decode b_DS_init 0 = .ok (.aload_n 0, 1) := by decide +kernel
theorem d_DS_init_1 : decode b_DS_init 1 = .ok (.invokespecial 1, 3) := by decide +kernel
theorem d_DS_init_4 : decode b_DS_init 4 = .ok (.aload_n 0, 1) := by decide +kernel
theorem d_DS_init_5 : decode b_DS_init 5 = .ok (.new 7, 3) := by decide +kernel
theorem d_DS_init_8 : decode b_DS_init 8 = .ok (.dup, 1) := by decide +kernel
theorem d_DS_init_9 : decode b_DS_init 9 = .ok (.iload_n 1, 1) := by decide +kernel
theorem d_DS_init_10 : decode b_DS_init 10 = .ok (.iconst 1, 1) := by decide +kernel
theorem d_DS_init_11 : decode b_DS_init 11 = .ok (.iconst 3, 1) := by decide +kernel
theorem d_DS_init_12 : decode b_DS_init 12 = .ok (.invokestatic 11, 3) := by decide +kernel
theorem d_DS_init_15 : decode b_DS_init 15 = .ok (.ifCond .eq 7, 3) := by decide +kernel
theorem d_DS_init_18 : decode b_DS_init 18 = .ok (.iload_n 1, 1) := by decide +kernel
theorem d_DS_init_19 : decode b_DS_init 19 = .ok (.goto 4, 3) := by decide +kernel
theorem d_DS_init_22 : decode b_DS_init 22 = .ok (.iconst 1, 1) := by decide +kernel
theorem d_DS_init_23 : decode b_DS_init 23 = .ok (.invokespecial 15, 3) := by decide +kernel
theorem d_DS_init_26 : decode b_DS_init 26 = .ok (.putfield 18, 3) := by decide +kernel
theorem d_DS_init_29 : decode b_DS_init 29 = .ok (.aload_n 0, 1) := by decide +kernel
theorem d_DS_init_30 : decode b_DS_init 30 = .ok (.new 22, 3) := by decide +kernel
theorem d_DS_init_33 : decode b_DS_init 33 = .ok (.dup, 1) := by decide +kernel
theorem d_DS_init_34 : decode b_DS_init 34 = .ok (.aload_n 0, 1) := by decide +kernel
theorem d_DS_init_35 : decode b_DS_init 35 = .ok (.getfield 18, 3) := by decide +kernel
theorem d_DS_init_38 : decode b_DS_init 38 = .ok (.invokespecial 24, 3) := by decide +kernel
theorem d_DS_init_41 : decode b_DS_init 41 = .ok (.putfield 27, 3) := by decide +kernel
theorem d_DS_init_44 : decode b_DS_init 44 = .ok (.aload_n 0, 1) := by decide +kernel
theorem d_DS_init_45 : decode b_DS_init 45 = .ok (.new 31, 3) := by decide +kernel
theorem d_DS_init_48 : decode b_DS_init 48 = .ok (.dup, 1) := by decide +kernel
theorem d_DS_init_49 : decode b_DS_init 49 = .ok (.bipush 6, 2) := by decide +kernel
theorem d_DS_init_51 : decode b_DS_init 51 = .ok (.invokespecial 33, 3) := by decide +kernel
theorem d_DS_init_54 : decode b_DS_init 54 = .ok (.putfield 34, 3) := by decide +kernel
theorem d_DS_init_57 : decode b_DS_init 57 = .ok (.aload_n 0, 1) := by decide +kernel
theorem d_DS_init_58 : decode b_DS_init 58 = .ok (.new 31, 3) := by decide +kernel
theorem d_DS_init_61 : decode b_DS_init 61 = .ok (.dup, 1) := by decide +kernel
theorem d_DS_init_62 : decode b_DS_init 62 = .ok (.iconst 4, 1) := by decide +kernel
theorem d_DS_init_63 : decode b_DS_init 63 = .ok (.invokespecial 33, 3) := by decide +kernel
theorem d_DS_init_66 : decode b_DS_init 66 = .ok (.putfield 38, 3) := by decide +kernel
theorem d_DS_init_69 : decode b_DS_init 69 = .ok (.aload_n 0, 1) := by decide +kernel
theorem d_DS_init_70 : decode b_DS_init 70 = .ok (.bipush 8, 2) := by decide +kernel
theorem d_DS_init_72 : decode b_DS_init 72 = .ok (.newarray .int, 2) := by decide +kernel
theorem d_DS_init_74 : decode b_DS_init 74 = .ok (.putfield 41, 3) := by decide +kernel
theorem d_DS_init_77 : decode b_DS_init 77 = .ok (.aload_n 0, 1) := by decide +kernel
theorem d_DS_init_78 : decode b_DS_init 78 = .ok (.bipush 8, 2) := by decide +kernel
theorem d_DS_init_80 : decode b_DS_init 80 = .ok (.newarray .int, 2) := by decide +kernel
theorem d_DS_init_82 : decode b_DS_init 82 = .ok (.putfield 45, 3) := by decide +kernel
theorem d_DS_init_85 : decode b_DS_init 85 = .ok (.aload_n 0, 1) := by decide +kernel
theorem d_DS_init_86 : decode b_DS_init 86 = .ok (.bipush 8, 2) := by decide +kernel
theorem d_DS_init_88 : decode b_DS_init 88 = .ok (.newarray .int, 2) := by decide +kernel
theorem d_DS_init_90 : decode b_DS_init 90 = .ok (.putfield 48, 3) := by decide +kernel
theorem d_DS_init_93 : decode b_DS_init 93 = .ok (.return_, 1) := by decide +kernel
theorem d_DS_isWithin_0 : decode b_DS_isWithin 0 = .ok (.iload_n 0, 1) := by decide +kernel
theorem d_DS_isWithin_1 : decode b_DS_isWithin 1 = .ok (.iload_n 1, 1) := by decide +kernel
theorem d_DS_isWithin_2 : decode b_DS_isWithin 2 = .ok (.if_icmp .lt 12, 3) := by decide +kernel
theorem d_DS_isWithin_5 : decode b_DS_isWithin 5 = .ok (.iload_n 0, 1) := by decide +kernel
theorem d_DS_isWithin_6 : decode b_DS_isWithin 6 = .ok (.iload_n 2, 1) := by decide +kernel
theorem d_DS_isWithin_7 : decode b_DS_isWithin 7 = .ok (.if_icmp .gt 7, 3) := by decide +kernel
theorem d_DS_isWithin_10 : decode b_DS_isWithin 10 = .ok (.iconst 1, 1) := by decide +kernel
theorem d_DS_isWithin_11 : decode b_DS_isWithin 11 = .ok (.goto 4, 3) := by decide +kernel
theorem d_DS_isWithin_14 : decode b_DS_isWithin 14 = .ok (.iconst 0, 1) := by decide +kernel
theorem d_DS_isWithin_15 : decode b_DS_isWithin 15 = .ok (.ireturn, 1) := by decide +kernel
theorem d_Day_init_0 : decode b_Day_init 0 = .ok (.aload_n 0, 1) := by decide +kernel
theorem d_Day_init_1 : decode b_Day_init 1 = .ok (.invokespecial 3, 3) := by decide +kernel
theorem d_Day_init_4 : decode b_Day_init 4 = .ok (.aload_n 0, 1) := by decide +kernel
theorem d_Day_init_5 : decode b_Day_init 5 = .ok (.bipush 8, 2) := by decide +kernel
theorem d_Day_init_7 : decode b_Day_init 7 = .ok (.newarray .int, 2) := by decide +kernel
theorem d_Day_init_9 : decode b_Day_init 9 = .ok (.putfield 9, 3) := by decide +kernel
theorem d_Day_init_12 : decode b_Day_init 12 = .ok (.aload_n 0, 1) := by decide +kernel
theorem d_Day_init_13 : decode b_Day_init 13 = .ok (.bipush 8, 2) := by decide +kernel
theorem d_Day_init_15 : decode b_Day_init 15 = .ok (.newarray .int, 2) := by decide +kernel
theorem d_Day_init_17 : decode b_Day_init 17 = .ok (.putfield 15, 3) := by decide +kernel
theorem d_Day_init_20 : decode b_Day_init 20 = .ok (.aload_n 0, 1) := by decide +kernel
theorem d_Day_init_21 : decode b_Day_init 21 = .ok (.bipush 8, 2) := by decide +kernel
theorem d_Day_init_23 : decode b_Day_init 23 = .ok (.newarray .int, 2) := by decide +kernel
theorem d_Day_init_25 : decode b_Day_init 25 = .ok (.putfield 18, 3) := by decide +kernel
theorem d_Day_init_28 : decode b_Day_init 28 = .ok (.aload_n 0, 1) := by decide +kernel
theorem d_Day_init_29 : decode b_Day_init 29 = .ok (.bipush 8, 2) := by decide +kernel
theorem d_Day_init_31 : decode b_Day_init 31 = .ok (.newarray .int, 2) := by decide +kernel
theorem d_Day_init_33 : decode b_Day_init 33 = .ok (.putfield 21, 3) := by decide +kernel
theorem d_Day_init_36 : decode b_Day_init 36 = .ok (.aload_n 0, 1) := by decide +kernel
theorem d_Day_init_37 : decode b_Day_init 37 = .ok (.bipush 8, 2) := by decide +kernel
theorem d_Day_init_39 : decode b_Day_init 39 = .ok (.newarray .boolean, 2) := by decide +kernel
theorem d_Day_init_41 : decode b_Day_init 41 = .ok (.putfield 24, 3) := by decide +kernel
theorem d_Day_init_44 : decode b_Day_init 44 = .ok (.aload_n 0, 1) := by decide +kernel
theorem d_Day_init_45 : decode b_Day_init 45 = .ok (.bipush 8, 2) := by decide +kernel
theorem d_Day_init_47 : decode b_Day_init 47 = .ok (.newarray .boolean, 2) := by decide +kernel
theorem d_Day_init_49 : decode b_Day_init 49 = .ok (.putfield 28, 3) := by decide +kernel
theorem d_Day_init_52 : decode b_Day_init 52 = .ok (.aload_n 0, 1) := by decide +kernel
theorem d_Day_init_53 : decode b_Day_init 53 = .ok (.iconst 3, 1) := by decide +kernel
theorem d_Day_init_54 : decode b_Day_init 54 = .ok (.bipush 8, 2) := by decide +kernel
theorem d_Day_init_56 : decode b_Day_init 56 = .ok (.multianewarray 31 2, 4) := by decide +kernel
theorem d_Day_init_60 : decode b_Day_init 60 = .ok (.putfield 33, 3) := by decide +kernel
theorem d_Day_init_63 : decode b_Day_init 63 = .ok (.aload_n 0, 1) := by decide +kernel
theorem d_Day_init_64 : decode b_Day_init 64 = .ok (.iconst 3, 1) := by decide +kernel
theorem d_Day_init_65 : decode b_Day_init 65 = .ok (.newarray .int, 2) := by decide +kernel
theorem d_Day_init_67 : decode b_Day_init 67 = .ok (.putfield 36, 3) := by decide +kernel
theorem d_Day_init_70 : decode b_Day_init 70 = .ok (.aload_n 0, 1) := by decide +kernel
theorem d_Day_init_71 : decode b_Day_init 71 = .ok (.iconst 3, 1) := by decide +kernel
theorem d_Day_init_72 : decode b_Day_init 72 = .ok (.bipush 8, 2) := by decide +kernel
theorem d_Day_init_74 : decode b_Day_init 74 = .ok (.multianewarray 31 2, 4) := by decide +kernel
theorem d_Day_init_78 : decode b_Day_init 78 = .ok (.putfield 39, 3) := by decide +kernel
theorem d_Day_init_81 : decode b_Day_init 81 = .ok (.aload_n 0, 1) := by decide +kernel
theorem d_Day_init_82 : decode b_Day_init 82 = .ok (.iconst 3, 1) := by decide +kernel
theorem d_Day_init_83 : decode b_Day_init 83 = .ok (.newarray .int, 2) := by decide +kernel
theorem d_Day_init_85 : decode b_Day_init 85 = .ok (.putfield 42, 3) := by decide +kernel
theorem d_Day_init_88 : decode b_Day_init 88 = .ok (.aload_n 0, 1) := by decide +kernel
theorem d_Day_init_89 : decode b_Day_init 89 = .ok (.iconst 3, 1) := by decide +kernel
theorem d_Day_init_90 : decode b_Day_init 90 = .ok (.newarray .int, 2) := by decide +kernel
theorem d_Day_init_92 : decode b_Day_init 92 = .ok (.putfield 45, 3) := by decide +kernel
theorem d_Day_init_95 : decode b_Day_init 95 = .ok (.aload_n 0, 1) := by decide +kernel
theorem d_Day_init_96 : decode b_Day_init 96 = .ok (.iconst 3, 1) := by decide +kernel
theorem d_Day_init_97 : decode b_Day_init 97 = .ok (.newarray .int, 2) := by decide +kernel
theorem d_Day_init_99 : decode b_Day_init 99 = .ok (.putfield 48, 3) := by decide +kernel
theorem d_Day_init_102 : decode b_Day_init 102 = .ok (.aload_n 0, 1) := by decide +kernel
theorem d_Day_init_103 : decode b_Day_init 103 = .ok (.bipush 10, 2) := by decide +kernel
theorem d_Day_init_105 : decode b_Day_init 105 = .ok (.bipush 10, 2) := by decide +kernel
theorem d_Day_init_107 : decode b_Day_init 107 = .ok (.multianewarray 31 2, 4) := by decide +kernel
theorem d_Day_init_111 : decode b_Day_init 111 = .ok (.putfield 51, 3) := by decide +kernel
theorem d_Day_init_114 : decode b_Day_init 114 = .ok (.aload_n 0, 1) := by decide +kernel
theorem d_Day_init_115 : decode b_Day_init 115 = .ok (.bipush 8, 2) := by decide +kernel
theorem d_Day_init_117 : decode b_Day_init 117 = .ok (.newarray .int, 2) := by decide +kernel
theorem d_Day_init_119 : decode b_Day_init 119 = .ok (.putfield 54, 3) := by decide +kernel
theorem d_Day_init_122 : decode b_Day_init 122 = .ok (.aload_n 0, 1) := by decide +kernel
theorem d_Day_init_123 : decode b_Day_init 123 = .ok (.iload_n 1, 1) := by decide +kernel
theorem d_Day_init_124 : decode b_Day_init 124 = .ok (.putfield 57, 3) := by decide +kernel
theorem d_Day_init_127 : decode b_Day_init 127 = .ok (.aload_n 0, 1) := by decide +kernel
theorem d_Day_init_128 : decode b_Day_init 128 = .ok (.getfield 45, 3) := by decide +kernel
theorem d_Day_init_131 : decode b_Day_init 131 = .ok (.bipush 8, 2) := by decide +kernel
theorem d_Day_init_133 : decode b_Day_init 133 = .ok (.invokestatic 61, 3) := by decide +kernel
theorem d_Day_init_136 : decode b_Day_init 136 = .ok (.aload_n 0, 1) := by decide +kernel
theorem d_Day_init_137 : decode b_Day_init 137 = .ok (.getfield 48, 3) := by decide +kernel
theorem d_Day_init_140 : decode b_Day_init 140 = .ok (.sipush 28800, 3) := by decide +kernel
theorem d_Day_init_143 : decode b_Day_init 143 = .ok (.invokestatic 61, 3) := by decide +kernel
theorem d_Day_init_146 : decode b_Day_init 146 = .ok (.iconst 0, 1) := by decide +kernel
theorem d_Day_init_147 : decode b_Day_init 147 = .ok (.istore_n 2, 1) := by decide +kernel
theorem d_Day_init_148 : decode b_Day_init 148 = .ok (.iload_n 2, 1) := by decide +kernel
theorem d_Day_init_149 : decode b_Day_init 149 = .ok (.bipush 10, 2) := by decide +kernel
theorem d_Day_init_151 : decode b_Day_init 151 = .ok (.if_icmp .ge 29, 3) := by decide +kernel
theorem d_Day_init_154 : decode b_Day_init 154 = .ok (.aload_n 0, 1) := by decide +kernel
theorem d_Day_init_155 : decode b_Day_init 155 = .ok (.getfield 51, 3) := by decide +kernel
theorem d_Day_init_158 : decode b_Day_init 158 = .ok (.iload_n 2, 1) := by decide +kernel
theorem d_Day_init_159 : decode b_Day_init 159 = .ok (.aaload, 1) := by decide +kernel
theorem d_Day_init_160 : decode b_Day_init 160 = .ok (.bipush 60, 2) := by decide +kernel
theorem d_Day_init_162 : decode b_Day_init 162 = .ok (.invokestatic 61, 3) := by decide +kernel
theorem d_Day_init_165 : decode b_Day_init 165 = .ok (.aload_n 0, 1) := by decide +kernel
theorem d_Day_init_166 : decode b_Day_init 166 = .ok (.getfield 51, 3) := by decide +kernel
theorem d_Day_init_169 : decode b_Day_init 169 = .ok (.iload_n 2, 1) := by decide +kernel
theorem d_Day_init_170 : decode b_Day_init 170 = .ok (.aaload, 1) := by decide +kernel
theorem d_Day_init_171 : decode b_Day_init 171 = .ok (.iload_n 2, 1) := by decide +kernel
theorem d_Day_init_172 : decode b_Day_init 172 = .ok (.iconst 0, 1) := by decide +kernel
theorem d_Day_init_173 : decode b_Day_init 173 = .ok (.iastore, 1) := by decide +kernel
theorem d_Day_init_174 : decode b_Day_init 174 = .ok (.iinc 2 1, 3) := by decide +kernel
theorem d_Day_init_177 : decode b_Day_init 177 = .ok (.goto (-29), 3) := by decide +kernel
theorem d_Day_init_180 : decode b_Day_init 180 = .ok (.return_, 1) := by decide +kernel
theorem d_Ar_fill_0 : decode b_Ar_fill 0 = .ok (.iconst 0, 1) := by decide +kernel
theorem d_Ar_fill_1 : decode b_Ar_fill 1 = .ok (.istore_n 2, 1) := by decide +kernel
theorem d_Ar_fill_2 : decode b_Ar_fill 2 = .ok (.aload_n 0, 1) := by decide +kernel
theorem d_Ar_fill_3 : decode b_Ar_fill 3 = .ok (.arraylength, 1) := by decide +kernel
theorem d_Ar_fill_4 : decode b_Ar_fill 4 = .ok (.istore_n 3, 1) := by decide +kernel
theorem d_Ar_fill_5 : decode b_Ar_fill 5 = .ok (.iload_n 2, 1) := by decide +kernel
theorem d_Ar_fill_6 : decode b_Ar_fill 6 = .ok (.iload_n 3, 1) := by decide +kernel
theorem d_Ar_fill_7 : decode b_Ar_fill 7 = .ok (.if_icmp .ge 13, 3) := by decide +kernel
theorem d_Ar_fill_10 : decode b_Ar_fill 10 = .ok (.aload_n 0, 1) := by decide +kernel
theorem d_Ar_fill_11 : decode b_Ar_fill 11 = .ok (.iload_n 2, 1) := by decide +kernel
theorem d_Ar_fill_12 : decode b_Ar_fill 12 = .ok (.iload_n 1, 1) := by decide +kernel
theorem d_Ar_fill_13 : decode b_Ar_fill 13 = .ok (.iastore, 1) := by decide +kernel
theorem d_Ar_fill_14 : decode b_Ar_fill 14 = .ok (.iinc 2 1, 3) := by decide +kernel
theorem d_Ar_fill_17 : decode b_Ar_fill 17 = .ok (.goto (-12), 3) := by decide +kernel
theorem d_Ar_fill_20 : decode b_Ar_fill 20 = .ok (.return_, 1) := by decide +kernel
theorem d_Se_init_0 : decode b_Se_init 0 = .ok (.aload_n 0, 1) := by decide +kernel
theorem d_Se_init_1 : decode b_Se_init 1 = .ok (.invokespecial 5, 3) := by decide +kernel
theorem d_Se_init_4 : decode b_Se_init 4 = .ok (.aload_n 0, 1) := by decide +kernel
theorem d_Se_init_5 : decode b_Se_init 5 = .ok (.sipush 256, 3) := by decide +kernel
theorem d_Se_init_8 : decode b_Se_init 8 = .ok (.newarray .long, 2) := by decide +kernel
theorem d_Se_init_10 : decode b_Se_init 10 = .ok (.putfield 11, 3) := by decide +kernel
theorem d_Se_init_13 : decode b_Se_init 13 = .ok (.aload_n 0, 1) := by decide +kernel
theorem d_Se_init_14 : decode b_Se_init 14 = .ok (.sipush 256, 3) := by decide +kernel
theorem d_Se_init_17 : decode b_Se_init 17 = .ok (.newarray .long, 2) := by decide +kernel
theorem d_Se_init_19 : decode b_Se_init 19 = .ok (.putfield 15, 3) := by decide +kernel
theorem d_Se_init_22 : decode b_Se_init 22 = .ok (.aload_n 0, 1) := by decide +kernel
theorem d_Se_init_23 : decode b_Se_init 23 = .ok (.aload_n 1, 1) := by decide +kernel
theorem d_Se_init_24 : decode b_Se_init 24 = .ok (.putfield 18, 3) := by decide +kernel
theorem d_Se_init_27 : decode b_Se_init 27 = .ok (.return_, 1) := by decide +kernel
theorem d_Sh_init_0 : decode b_Sh_init 0 = .ok (.aload_n 0, 1) := by decide +kernel
theorem d_Sh_init_1 : decode b_Sh_init 1 = .ok (.invokespecial 3, 3) := by decide +kernel
theorem d_Sh_init_4 : decode b_Sh_init 4 = .ok (.aload_n 0, 1) := by decide +kernel
theorem d_Sh_init_5 : decode b_Sh_init 5 = .ok (.iload_n 1, 1) := by decide +kernel
theorem d_Sh_init_6 : decode b_Sh_init 6 = .ok (.bipush 8, 2) := by decide +kernel
theorem d_Sh_init_8 : decode b_Sh_init 8 = .ok (.multianewarray 9 2, 4) := by decide +kernel
theorem d_Sh_init_12 : decode b_Sh_init 12 = .ok (.putfield 11, 3) := by decide +kernel
theorem d_Sh_init_15 : decode b_Sh_init 15 = .ok (.aload_n 0, 1) := by decide +kernel
theorem d_Sh_init_16 : decode b_Sh_init 16 = .ok (.iload_n 1, 1) := by decide +kernel
theorem d_Sh_init_17 : decode b_Sh_init 17 = .ok (.newarray .int, 2) := by decide +kernel
theorem d_Sh_init_19 : decode b_Sh_init 19 = .ok (.putfield 16, 3) := by decide +kernel
theorem d_Sh_init_22 : decode b_Sh_init 22 = .ok (.return_, 1) := by decide +kernel
theorem d_DS_stop_0 : decode b_DS_stop 0 = .ok (.aload_n 0, 1) := by decide +kernel
theorem d_DS_stop_1 : decode b_DS_stop 1 = .ok (.getfield 18, 3) := by decide +kernel
theorem d_DS_stop_4 : decode b_DS_stop 4 = .ok (.getfield 51, 3) := by decide +kernel
theorem d_DS_stop_7 : decode b_DS_stop 7 = .ok (.bipush 8, 2) := by decide +kernel
theorem d_DS_stop_9 : decode b_DS_stop 9 = .ok (.if_icmp .ge 14, 3) := by decide +kernel
theorem d_DS_stop_12 : decode b_DS_stop 12 = .ok (.aload_n 0, 1) := by decide +kernel
theorem d_DS_stop_13 : decode b_DS_stop 13 = .ok (.getfield 18, 3) := by decide +kernel
theorem d_DS_stop_16 : decode b_DS_stop 16 = .ok (.iload_n 1, 1) := by decide +kernel
theorem d_DS_stop_17 : decode b_DS_stop 17 = .ok (.invokevirtual 55, 3) := by decide +kernel
theorem d_DS_stop_20 : decode b_DS_stop 20 = .ok (.ifCond .ne 5, 3) := by decide +kernel
theorem d_DS_stop_23 : decode b_DS_stop 23 = .ok (.iconst (-1), 1) := by decide +kernel
theorem d_DS_stop_24 : decode b_DS_stop 24 = .ok (.ireturn, 1) := by decide +kernel
theorem d_DS_stop_25 : decode b_DS_stop 25 = .ok (.iload_n 2, 1) := by decide +kernel
theorem d_DS_stop_26 : decode b_DS_stop 26 = .ok (.invokestatic 59, 3) := by decide +kernel
theorem d_DS_stop_29 : decode b_DS_stop 29 = .ok (.ifCond .eq 14, 3) := by decide +kernel
theorem d_DS_stop_32 : decode b_DS_stop 32 = .ok (.iload_n 3, 1) := by decide +kernel
theorem d_DS_stop_33 : decode b_DS_stop 33 = .ok (.iconst 0, 1) := by decide +kernel
theorem d_DS_stop_34 : decode b_DS_stop 34 = .ok (.sipush 10000, 3) := by decide +kernel
theorem d_DS_stop_37 : decode b_DS_stop 37 = .ok (.invokestatic 11, 3) := by decide +kernel
theorem d_DS_stop_40 : decode b_DS_stop 40 = .ok (.ifCond .ne 5, 3) := by decide +kernel
theorem d_DS_stop_43 : decode b_DS_stop 43 = .ok (.iconst (-1), 1) := by decide +kernel
theorem d_DS_stop_44 : decode b_DS_stop 44 = .ok (.ireturn, 1) := by decide +kernel
theorem d_DS_stop_45 : decode b_DS_stop 45 = .ok (.aload_n 0, 1) := by decide +kernel
theorem d_DS_stop_46 : decode b_DS_stop 46 = .ok (.getfield 18, 3) := by decide +kernel
theorem d_DS_stop_49 : decode b_DS_stop 49 = .ok (.iload_n 1, 1) := by decide +kernel
theorem d_DS_stop_50 : decode b_DS_stop 50 = .ok (.iload_n 2, 1) := by decide +kernel
theorem d_DS_stop_51 : decode b_DS_stop 51 = .ok (.iload_n 3, 1) := by decide +kernel
theorem d_DS_stop_52 : decode b_DS_stop 52 = .ok (.invokevirtual 62, 3) := by decide +kernel
theorem d_DS_stop_55 : decode b_DS_stop 55 = .ok (.istore 4, 2) := by decide +kernel
theorem d_DS_stop_57 : decode b_DS_stop 57 = .ok (.aload_n 0, 1) := by decide +kernel
theorem d_DS_stop_58 : decode b_DS_stop 58 = .ok (.getfield 41, 3) := by decide +kernel
theorem d_DS_stop_61 : decode b_DS_stop 61 = .ok (.iload 4, 2) := by decide +kernel
theorem d_DS_stop_63 : decode b_DS_stop 63 = .ok (.iload_n 1, 1) := by decide +kernel
theorem d_DS_stop_64 : decode b_DS_stop 64 = .ok (.iastore, 1) := by decide +kernel
theorem d_DS_stop_65 : decode b_DS_stop 65 = .ok (.aload_n 0, 1) := by decide +kernel
theorem d_DS_stop_66 : decode b_DS_stop 66 = .ok (.getfield 45, 3) := by decide +kernel
theorem d_DS_stop_69 : decode b_DS_stop 69 = .ok (.iload 4, 2) := by decide +kernel
theorem d_DS_stop_71 : decode b_DS_stop 71 = .ok (.iload_n 1, 1) := by decide +kernel
theorem d_DS_stop_72 : decode b_DS_stop 72 = .ok (.iastore, 1) := by decide +kernel
theorem d_DS_stop_73 : decode b_DS_stop 73 = .ok (.iload 4, 2) := by decide +kernel
theorem d_DS_stop_75 : decode b_DS_stop 75 = .ok (.ireturn, 1) := by decide +kernel
theorem d_Day_isVehicle_0 : decode b_Day_isVehicle 0 = .ok (.iload_n 1, 1) := by decide +kernel
theorem d_Day_isVehicle_1 : decode b_Day_isVehicle 1 = .ok (.iconst 0, 1) := by decide +kernel
theorem d_Day_isVehicle_2 : decode b_Day_isVehicle 2 = .ok (.aload_n 0, 1) := by decide +kernel
theorem d_Day_isVehicle_3 : decode b_Day_isVehicle 3 = .ok (.getfield 57, 3) := by decide +kernel
theorem d_Day_isVehicle_6 : decode b_Day_isVehicle 6 = .ok (.iconst 1, 1) := by decide +kernel
theorem d_Day_isVehicle_7 : decode b_Day_isVehicle 7 = .ok (.isub, 1) := by decide +kernel
theorem d_Day_isVehicle_8 : decode b_Day_isVehicle 8 = .ok (.invokestatic 67, 3) := by decide +kernel
theorem d_Day_isVehicle_11 : decode b_Day_isVehicle 11 = .ok (.ireturn, 1) := by decide +kernel
theorem d_DS_isPlace_0 : decode b_DS_isPlace 0 = .ok (.iload_n 0, 1) := by decide +kernel
theorem d_DS_isPlace_1 : decode b_DS_isPlace 1 = .ok (.iconst 0, 1) := by decide +kernel
theorem d_DS_isPlace_2 : decode b_DS_isPlace 2 = .ok (.bipush 9, 2) := by decide +kernel
theorem d_DS_isPlace_4 : decode b_DS_isPlace 4 = .ok (.invokestatic 11, 3) := by decide +kernel
theorem d_DS_isPlace_7 : decode b_DS_isPlace 7 = .ok (.ireturn, 1) := by decide +kernel
theorem d_Day_tell_0 : decode b_Day_tell 0 = .ok (.aload_n 0, 1) := by decide +kernel
theorem d_Day_tell_1 : decode b_Day_tell 1 = .ok (.getfield 71, 3) := by decide +kernel
theorem d_Day_tell_4 : decode b_Day_tell 4 = .ok (.istore 4, 2) := by decide +kernel
theorem d_Day_tell_6 : decode b_Day_tell 6 = .ok (.aload_n 0, 1) := by decide +kernel
theorem d_Day_tell_7 : decode b_Day_tell 7 = .ok (.getfield 9, 3) := by decide +kernel
theorem d_Day_tell_10 : decode b_Day_tell 10 = .ok (.iload 4, 2) := by decide +kernel
theorem d_Day_tell_12 : decode b_Day_tell 12 = .ok (.iload_n 2, 1) := by decide +kernel
theorem d_Day_tell_13 : decode b_Day_tell 13 = .ok (.iastore, 1) := by decide +kernel
theorem d_Day_tell_14 : decode b_Day_tell 14 = .ok (.aload_n 0, 1) := by decide +kernel
theorem d_Day_tell_15 : decode b_Day_tell 15 = .ok (.getfield 15, 3) := by decide +kernel
theorem d_Day_tell_18 : decode b_Day_tell 18 = .ok (.iload 4, 2) := by decide +kernel
theorem d_Day_tell_20 : decode b_Day_tell 20 = .ok (.iload_n 3, 1) := by decide +kernel
theorem d_Day_tell_21 : decode b_Day_tell 21 = .ok (.iastore, 1) := by decide +kernel
theorem d_Day_tell_22 : decode b_Day_tell 22 = .ok (.aload_n 0, 1) := by decide +kernel
theorem d_Day_tell_23 : decode b_Day_tell 23 = .ok (.iload 4, 2) := by decide +kernel
theorem d_Day_tell_25 : decode b_Day_tell 25 = .ok (.iload_n 1, 1) := by decide +kernel
theorem d_Day_tell_26 : decode b_Day_tell 26 = .ok (.invokevirtual 74, 3) := by decide +kernel
theorem d_Day_tell_29 : decode b_Day_tell 29 = .ok (.aload_n 0, 1) := by decide +kernel
theorem d_Day_tell_30 : decode b_Day_tell 30 = .ok (.dup, 1) := by decide +kernel
theorem d_Day_tell_31 : decode b_Day_tell 31 = .ok (.getfield 71, 3) := by decide +kernel
theorem d_Day_tell_34 : decode b_Day_tell 34 = .ok (.iconst 1, 1) := by decide +kernel
theorem d_Day_tell_35 : decode b_Day_tell 35 = .ok (.iadd, 1) := by decide +kernel
theorem d_Day_tell_36 : decode b_Day_tell 36 = .ok (.putfield 71, 3) := by decide +kernel
theorem d_Day_tell_39 : decode b_Day_tell 39 = .ok (.iload 4, 2) := by decide +kernel
theorem d_Day_tell_41 : decode b_Day_tell 41 = .ok (.ireturn, 1) := by decide +kernel
theorem d_Day_append_0 : decode b_Day_append 0 = .ok (.aload_n 0, 1) := by decide +kernel
theorem d_Day_append_1 : decode b_Day_append 1 = .ok (.getfield 36, 3) := by decide +kernel
theorem d_Day_append_4 : decode b_Day_append 4 = .ok (.iload_n 2, 1) := by decide +kernel
theorem d_Day_append_5 : decode b_Day_append 5 = .ok (.iaload, 1) := by decide +kernel
theorem d_Day_append_6 : decode b_Day_append 6 = .ok (.istore_n 3, 1) := by decide +kernel
theorem d_Day_append_7 : decode b_Day_append 7 = .ok (.aload_n 0, 1) := by decide +kernel
theorem d_Day_append_8 : decode b_Day_append 8 = .ok (.getfield 33, 3) := by decide +kernel
theorem d_Day_append_11 : decode b_Day_append 11 = .ok (.iload_n 2, 1) := by decide +kernel
theorem d_Day_append_12 : decode b_Day_append 12 = .ok (.aaload, 1) := by decide +kernel
theorem d_Day_append_13 : decode b_Day_append 13 = .ok (.iload_n 3, 1) := by decide +kernel
theorem d_Day_append_14 : decode b_Day_append 14 = .ok (.iload_n 1, 1) := by decide +kernel
theorem d_Day_append_15 : decode b_Day_append 15 = .ok (.iastore, 1) := by decide +kernel
theorem d_Day_append_16 : decode b_Day_append 16 = .ok (.aload_n 0, 1) := by decide +kernel
theorem d_Day_append_17 : decode b_Day_append 17 = .ok (.getfield 18, 3) := by decide +kernel
theorem d_Day_append_20 : decode b_Day_append 20 = .ok (.iload_n 1, 1) := by decide +kernel
theorem d_Day_append_21 : decode b_Day_append 21 = .ok (.iload_n 2, 1) := by decide +kernel
theorem d_Day_append_22 : decode b_Day_append 22 = .ok (.iastore, 1) := by decide +kernel
theorem d_Day_append_23 : decode b_Day_append 23 = .ok (.aload_n 0, 1) := by decide +kernel
theorem d_Day_append_24 : decode b_Day_append 24 = .ok (.getfield 21, 3) := by decide +kernel
theorem d_Day_append_27 : decode b_Day_append 27 = .ok (.iload_n 1, 1) := by decide +kernel
theorem d_Day_append_28 : decode b_Day_append 28 = .ok (.iload_n 3, 1) := by decide +kernel
theorem d_Day_append_29 : decode b_Day_append 29 = .ok (.iastore, 1) := by decide +kernel
theorem d_Day_append_30 : decode b_Day_append 30 = .ok (.aload_n 0, 1) := by decide +kernel
theorem d_Day_append_31 : decode b_Day_append 31 = .ok (.getfield 36, 3) := by decide +kernel
theorem d_Day_append_34 : decode b_Day_append 34 = .ok (.iload_n 2, 1) := by decide +kernel
theorem d_Day_append_35 : decode b_Day_append 35 = .ok (.iload_n 3, 1) := by decide +kernel
theorem d_Day_append_36 : decode b_Day_append 36 = .ok (.iconst 1, 1) := by decide +kernel
theorem d_Day_append_37 : decode b_Day_append 37 = .ok (.iadd, 1) := by decide +kernel
theorem d_Day_append_38 : decode b_Day_append 38 = .ok (.iastore, 1) := by decide +kernel
theorem d_Day_append_39 : decode b_Day_append 39 = .ok (.return_, 1) := by decide +kernel
theorem d_DS_freeze_0 : decode b_DS_freeze 0 = .ok (.aload_n 0, 1) := by decide +kernel
theorem d_DS_freeze_1 : decode b_DS_freeze 1 = .ok (.getfield 18, 3) := by decide +kernel
theorem d_DS_freeze_4 : decode b_DS_freeze 4 = .ok (.iload_n 1, 1) := by decide +kernel
theorem d_DS_freeze_5 : decode b_DS_freeze 5 = .ok (.invokevirtual 66, 3) := by decide +kernel
theorem d_DS_freeze_8 : decode b_DS_freeze 8 = .ok (.ifCond .ne 5, 3) := by decide +kernel
theorem d_DS_freeze_11 : decode b_DS_freeze 11 = .ok (.iconst 0, 1) := by decide +kernel
theorem d_DS_freeze_12 : decode b_DS_freeze 12 = .ok (.ireturn, 1) := by decide +kernel
theorem d_DS_freeze_13 : decode b_DS_freeze 13 = .ok (.aload_n 0, 1) := by decide +kernel
theorem d_DS_freeze_14 : decode b_DS_freeze 14 = .ok (.getfield 18, 3) := by decide +kernel
theorem d_DS_freeze_17 : decode b_DS_freeze 17 = .ok (.getfield 69, 3) := by decide +kernel
theorem d_DS_freeze_20 : decode b_DS_freeze 20 = .ok (.iload_n 1, 1) := by decide +kernel
theorem d_DS_freeze_21 : decode b_DS_freeze 21 = .ok (.iload_n 2, 1) := by decide +kernel
theorem d_DS_freeze_22 : decode b_DS_freeze 22 = .ok (.bastore, 1) := by decide +kernel
theorem d_DS_freeze_23 : decode b_DS_freeze 23 = .ok (.iconst 1, 1) := by decide +kernel
theorem d_DS_freeze_24 : decode b_DS_freeze 24 = .ok (.ireturn, 1) := by decide +kernel
theorem d_Day_isStop_0 : decode b_Day_isStop 0 = .ok (.iload_n 1, 1) := by decide +kernel
theorem d_Day_isStop_1 : decode b_Day_isStop 1 = .ok (.iconst 0, 1) := by decide +kernel
theorem d_Day_isStop_2 : decode b_Day_isStop 2 = .ok (.aload_n 0, 1) := by decide +kernel
theorem d_Day_isStop_3 : decode b_Day_isStop 3 = .ok (.getfield 71, 3) := by decide +kernel
theorem d_Day_isStop_6 : decode b_Day_isStop 6 = .ok (.iconst 1, 1) := by decide +kernel
theorem d_Day_isStop_7 : decode b_Day_isStop 7 = .ok (.isub, 1) := by decide +kernel
theorem d_Day_isStop_8 : decode b_Day_isStop 8 = .ok (.invokestatic 67, 3) := by decide +kernel
theorem d_Day_isStop_11 : decode b_Day_isStop 11 = .ok (.ireturn, 1) := by decide +kernel
theorem d_DS_block_0 : decode b_DS_block 0 = .ok (.aload_n 0, 1) := by decide +kernel
theorem d_DS_block_1 : decode b_DS_block 1 = .ok (.getfield 18, 3) := by decide +kernel
theorem d_DS_block_4 : decode b_DS_block 4 = .ok (.iload_n 1, 1) := by decide +kernel
theorem d_DS_block_5 : decode b_DS_block 5 = .ok (.invokevirtual 66, 3) := by decide +kernel
theorem d_DS_block_8 : decode b_DS_block 8 = .ok (.ifCond .ne 5, 3) := by decide +kernel
theorem d_DS_block_11 : decode b_DS_block 11 = .ok (.iconst 0, 1) := by decide +kernel
theorem d_DS_block_12 : decode b_DS_block 12 = .ok (.ireturn, 1) := by decide +kernel
theorem d_DS_block_13 : decode b_DS_block 13 = .ok (.aload_n 0, 1) := by decide +kernel
theorem d_DS_block_14 : decode b_DS_block 14 = .ok (.getfield 18, 3) := by decide +kernel
theorem d_DS_block_17 : decode b_DS_block 17 = .ok (.getfield 73, 3) := by decide +kernel
theorem d_DS_block_20 : decode b_DS_block 20 = .ok (.iload_n 1, 1) := by decide +kernel
theorem d_DS_block_21 : decode b_DS_block 21 = .ok (.iload_n 2, 1) := by decide +kernel
theorem d_DS_block_22 : decode b_DS_block 22 = .ok (.bastore, 1) := by decide +kernel
theorem d_DS_block_23 : decode b_DS_block 23 = .ok (.iconst 1, 1) := by decide +kernel
theorem d_DS_block_24 : decode b_DS_block 24 = .ok (.ireturn, 1) := by decide +kernel
theorem d_DS_out_0 : decode b_DS_out 0 = .ok (.aload_n 0, 1) := by decide +kernel
theorem d_DS_out_1 : decode b_DS_out 1 = .ok (.getfield 18, 3) := by decide +kernel
theorem d_DS_out_4 : decode b_DS_out 4 = .ok (.iload_n 1, 1) := by decide +kernel
theorem d_DS_out_5 : decode b_DS_out 5 = .ok (.invokevirtual 55, 3) := by decide +kernel
theorem d_DS_out_8 : decode b_DS_out 8 = .ok (.ifCond .eq 13, 3) := by decide +kernel
theorem d_DS_out_11 : decode b_DS_out 11 = .ok (.iload_n 2, 1) := by decide +kernel
theorem d_DS_out_12 : decode b_DS_out 12 = .ok (.iconst 0, 1) := by decide +kernel
theorem d_DS_out_13 : decode b_DS_out 13 = .ok (.bipush 8, 2) := by decide +kernel
theorem d_DS_out_15 : decode b_DS_out 15 = .ok (.invokestatic 11, 3) := by decide +kernel
theorem d_DS_out_18 : decode b_DS_out 18 = .ok (.ifCond .ne 5, 3) := by decide +kernel
theorem d_DS_out_21 : decode b_DS_out 21 = .ok (.iconst 0, 1) := by decide +kernel
theorem d_DS_out_22 : decode b_DS_out 22 = .ok (.ireturn, 1) := by decide +kernel
theorem d_DS_out_23 : decode b_DS_out 23 = .ok (.aload_n 0, 1) := by decide +kernel
theorem d_DS_out_24 : decode b_DS_out 24 = .ok (.getfield 18, 3) := by decide +kernel
theorem d_DS_out_27 : decode b_DS_out 27 = .ok (.getfield 76, 3) := by decide +kernel
theorem d_DS_out_30 : decode b_DS_out 30 = .ok (.iload_n 1, 1) := by decide +kernel
theorem d_DS_out_31 : decode b_DS_out 31 = .ok (.iload_n 2, 1) := by decide +kernel
theorem d_DS_out_32 : decode b_DS_out 32 = .ok (.iastore, 1) := by decide +kernel
theorem d_DS_out_33 : decode b_DS_out 33 = .ok (.iconst 1, 1) := by decide +kernel
theorem d_DS_out_34 : decode b_DS_out 34 = .ok (.ireturn, 1) := by decide +kernel
theorem d_DS_way_0 : decode b_DS_way 0 = .ok (.iload_n 1, 1) := by decide +kernel
theorem d_DS_way_1 : decode b_DS_way 1 = .ok (.invokestatic 59, 3) := by decide +kernel
theorem d_DS_way_4 : decode b_DS_way 4 = .ok (.ifCond .eq 26, 3) := by decide +kernel
theorem d_DS_way_7 : decode b_DS_way 7 = .ok (.iload_n 2, 1) := by decide +kernel
theorem d_DS_way_8 : decode b_DS_way 8 = .ok (.invokestatic 59, 3) := by decide +kernel
theorem d_DS_way_11 : decode b_DS_way 11 = .ok (.ifCond .eq 19, 3) := by decide +kernel
theorem d_DS_way_14 : decode b_DS_way 14 = .ok (.iload_n 1, 1) := by decide +kernel
theorem d_DS_way_15 : decode b_DS_way 15 = .ok (.iload_n 2, 1) := by decide +kernel
theorem d_DS_way_16 : decode b_DS_way 16 = .ok (.if_icmp .eq 14, 3) := by decide +kernel
theorem d_DS_way_19 : decode b_DS_way 19 = .ok (.iload_n 3, 1) := by decide +kernel
theorem d_DS_way_20 : decode b_DS_way 20 = .ok (.iconst 0, 1) := by decide +kernel
theorem d_DS_way_21 : decode b_DS_way 21 = .ok (.sipush 10000, 3) := by decide +kernel
theorem d_DS_way_24 : decode b_DS_way 24 = .ok (.invokestatic 11, 3) := by decide +kernel
theorem d_DS_way_27 : decode b_DS_way 27 = .ok (.ifCond .ne 5, 3) := by decide +kernel
theorem d_DS_way_30 : decode b_DS_way 30 = .ok (.iconst 0, 1) := by decide +kernel
theorem d_DS_way_31 : decode b_DS_way 31 = .ok (.ireturn, 1) := by decide +kernel
theorem d_DS_way_32 : decode b_DS_way 32 = .ok (.aload_n 0, 1) := by decide +kernel
theorem d_DS_way_33 : decode b_DS_way 33 = .ok (.getfield 18, 3) := by decide +kernel
theorem d_DS_way_36 : decode b_DS_way 36 = .ok (.getfield 79, 3) := by decide +kernel
theorem d_DS_way_39 : decode b_DS_way 39 = .ok (.iload_n 1, 1) := by decide +kernel
theorem d_DS_way_40 : decode b_DS_way 40 = .ok (.aaload, 1) := by decide +kernel
theorem d_DS_way_41 : decode b_DS_way 41 = .ok (.iload_n 2, 1) := by decide +kernel
theorem d_DS_way_42 : decode b_DS_way 42 = .ok (.iload_n 3, 1) := by decide +kernel
theorem d_DS_way_43 : decode b_DS_way 43 = .ok (.iastore, 1) := by decide +kernel
theorem d_DS_way_44 : decode b_DS_way 44 = .ok (.aload_n 0, 1) := by decide +kernel
theorem d_DS_way_45 : decode b_DS_way 45 = .ok (.getfield 18, 3) := by decide +kernel
theorem d_DS_way_48 : decode b_DS_way 48 = .ok (.getfield 79, 3) := by decide +kernel
theorem d_DS_way_51 : decode b_DS_way 51 = .ok (.iload_n 2, 1) := by decide +kernel
theorem d_DS_way_52 : decode b_DS_way 52 = .ok (.aaload, 1) := by decide +kernel
theorem d_DS_way_53 : decode b_DS_way 53 = .ok (.iload_n 1, 1) := by decide +kernel
theorem d_DS_way_54 : decode b_DS_way 54 = .ok (.iload_n 3, 1) := by decide +kernel
theorem d_DS_way_55 : decode b_DS_way 55 = .ok (.iastore, 1) := by decide +kernel
theorem d_DS_way_56 : decode b_DS_way 56 = .ok (.iconst 1, 1) := by decide +kernel
theorem d_DS_way_57 : decode b_DS_way 57 = .ok (.ireturn, 1) := by decide +kernel
theorem d_DS_hours_0 : decode b_DS_hours 0 = .ok (.aload_n 0, 1) := by decide +kernel
theorem d_DS_hours_1 : decode b_DS_hours 1 = .ok (.getfield 18, 3) := by decide +kernel
theorem d_DS_hours_4 : decode b_DS_hours 4 = .ok (.iload_n 1, 1) := by decide +kernel
theorem d_DS_hours_5 : decode b_DS_hours 5 = .ok (.invokevirtual 55, 3) := by decide +kernel
theorem d_DS_hours_8 : decode b_DS_hours 8 = .ok (.ifCond .eq 13, 3) := by decide +kernel
theorem d_DS_hours_11 : decode b_DS_hours 11 = .ok (.iload_n 2, 1) := by decide +kernel
theorem d_DS_hours_12 : decode b_DS_hours 12 = .ok (.iconst 0, 1) := by decide +kernel
theorem d_DS_hours_13 : decode b_DS_hours 13 = .ok (.ldc 83, 2) := by decide +kernel
theorem d_DS_hours_15 : decode b_DS_hours 15 = .ok (.invokestatic 11, 3) := by decide +kernel
theorem d_DS_hours_18 : decode b_DS_hours 18 = .ok (.ifCond .ne 5, 3) := by decide +kernel
theorem d_DS_hours_21 : decode b_DS_hours 21 = .ok (.iconst 0, 1) := by decide +kernel
theorem d_DS_hours_22 : decode b_DS_hours 22 = .ok (.ireturn, 1) := by decide +kernel
theorem d_DS_hours_23 : decode b_DS_hours 23 = .ok (.aload_n 0, 1) := by decide +kernel
theorem d_DS_hours_24 : decode b_DS_hours 24 = .ok (.getfield 18, 3) := by decide +kernel
theorem d_DS_hours_27 : decode b_DS_hours 27 = .ok (.getfield 84, 3) := by decide +kernel
theorem d_DS_hours_30 : decode b_DS_hours 30 = .ok (.iload_n 1, 1) := by decide +kernel
theorem d_DS_hours_31 : decode b_DS_hours 31 = .ok (.iload_n 2, 1) := by decide +kernel
theorem d_DS_hours_32 : decode b_DS_hours 32 = .ok (.iastore, 1) := by decide +kernel
theorem d_DS_hours_33 : decode b_DS_hours 33 = .ok (.iconst 1, 1) := by decide +kernel
theorem d_DS_hours_34 : decode b_DS_hours 34 = .ok (.ireturn, 1) := by decide +kernel
theorem d_DS_extra_0 : decode b_DS_extra 0 = .ok (.iload_n 1, 1) := by decide +kernel
theorem d_DS_extra_1 : decode b_DS_extra 1 = .ok (.iconst 0, 1) := by decide +kernel
theorem d_DS_extra_2 : decode b_DS_extra 2 = .ok (.ldc 83, 2) := by decide +kernel
theorem d_DS_extra_4 : decode b_DS_extra 4 = .ok (.invokestatic 11, 3) := by decide +kernel
theorem d_DS_extra_7 : decode b_DS_extra 7 = .ok (.ifCond .ne 5, 3) := by decide +kernel
theorem d_DS_extra_10 : decode b_DS_extra 10 = .ok (.iconst 0, 1) := by decide +kernel
theorem d_DS_extra_11 : decode b_DS_extra 11 = .ok (.ireturn, 1) := by decide +kernel
theorem d_DS_extra_12 : decode b_DS_extra 12 = .ok (.aload_n 0, 1) := by decide +kernel
theorem d_DS_extra_13 : decode b_DS_extra 13 = .ok (.getfield 18, 3) := by decide +kernel
theorem d_DS_extra_16 : decode b_DS_extra 16 = .ok (.iload_n 1, 1) := by decide +kernel
theorem d_DS_extra_17 : decode b_DS_extra 17 = .ok (.putfield 87, 3) := by decide +kernel
theorem d_DS_extra_20 : decode b_DS_extra 20 = .ok (.iconst 1, 1) := by decide +kernel
theorem d_DS_extra_21 : decode b_DS_extra 21 = .ok (.ireturn, 1) := by decide +kernel
theorem d_DS_run_0 : decode b_DS_run 0 = .ok (.aload_n 0, 1) := by decide +kernel
theorem d_DS_run_1 : decode b_DS_run 1 = .ok (.getfield 27, 3) := by decide +kernel
theorem d_DS_run_4 : decode b_DS_run 4 = .ok (.invokevirtual 90, 3) := by decide +kernel
theorem d_DS_run_7 : decode b_DS_run 7 = .ok (.lstore_n 1, 1) := by decide +kernel
theorem d_DS_run_8 : decode b_DS_run 8 = .ok (.lload_n 1, 1) := by decide +kernel
theorem d_DS_run_9 : decode b_DS_run 9 = .ok (.ldc2_w 94, 3) := by decide +kernel
theorem d_DS_run_12 : decode b_DS_run 12 = .ok (.lcmp, 1) := by decide +kernel
theorem d_DS_run_13 : decode b_DS_run 13 = .ok (.ifCond .lt 8, 3) := by decide +kernel
theorem d_DS_run_16 : decode b_DS_run 16 = .ok (.aload_n 0, 1) := by decide +kernel
theorem d_DS_run_17 : decode b_DS_run 17 = .ok (.invokevirtual 96, 3) := by decide +kernel
theorem d_DS_run_20 : decode b_DS_run 20 = .ok (.ireturn, 1) := by decide +kernel
theorem d_DS_run_21 : decode b_DS_run 21 = .ok (.aload_n 0, 1) := by decide +kernel
theorem d_DS_run_22 : decode b_DS_run 22 = .ok (.getfield 34, 3) := by decide +kernel
theorem d_DS_run_25 : decode b_DS_run 25 = .ok (.aload_n 0, 1) := by decide +kernel
theorem d_DS_run_26 : decode b_DS_run 26 = .ok (.getfield 41, 3) := by decide +kernel
theorem d_DS_run_29 : decode b_DS_run 29 = .ok (.aload_n 0, 1) := by decide +kernel
theorem d_DS_run_30 : decode b_DS_run 30 = .ok (.getfield 18, 3) := by decide +kernel
theorem d_DS_run_33 : decode b_DS_run 33 = .ok (.getfield 51, 3) := by decide +kernel
theorem d_DS_run_36 : decode b_DS_run 36 = .ok (.invokevirtual 100, 3) := by decide +kernel
theorem d_DS_run_39 : decode b_DS_run 39 = .ok (.iconst 0, 1) := by decide +kernel
theorem d_DS_run_40 : decode b_DS_run 40 = .ok (.istore_n 3, 1) := by decide +kernel
theorem d_DS_run_41 : decode b_DS_run 41 = .ok (.iload_n 3, 1) := by decide +kernel
theorem d_DS_run_42 : decode b_DS_run 42 = .ok (.aload_n 0, 1) := by decide +kernel
theorem d_DS_run_43 : decode b_DS_run 43 = .ok (.getfield 18, 3) := by decide +kernel
theorem d_DS_run_46 : decode b_DS_run 46 = .ok (.getfield 51, 3) := by decide +kernel
theorem d_DS_run_49 : decode b_DS_run 49 = .ok (.if_icmp .ge 20, 3) := by decide +kernel
theorem d_DS_run_52 : decode b_DS_run 52 = .ok (.aload_n 0, 1) := by decide +kernel
theorem d_DS_run_53 : decode b_DS_run 53 = .ok (.getfield 41, 3) := by decide +kernel
theorem d_DS_run_56 : decode b_DS_run 56 = .ok (.iload_n 3, 1) := by decide +kernel
theorem d_DS_run_57 : decode b_DS_run 57 = .ok (.lload_n 1, 1) := by decide +kernel
theorem d_DS_run_58 : decode b_DS_run 58 = .ok (.iload_n 3, 1) := by decide +kernel
theorem d_DS_run_59 : decode b_DS_run 59 = .ok (.invokestatic 104, 3) := by decide +kernel
theorem d_DS_run_62 : decode b_DS_run 62 = .ok (.iastore, 1) := by decide +kernel
theorem d_DS_run_63 : decode b_DS_run 63 = .ok (.iinc 3 1, 3) := by decide +kernel
theorem d_DS_run_66 : decode b_DS_run 66 = .ok (.goto (-25), 3) := by decide +kernel
theorem d_DS_run_69 : decode b_DS_run 69 = .ok (.aload_n 0, 1) := by decide +kernel
theorem d_DS_run_70 : decode b_DS_run 70 = .ok (.invokevirtual 108, 3) := by decide +kernel
theorem d_DS_run_73 : decode b_DS_run 73 = .ok (.invokestatic 111, 3) := by decide +kernel
theorem d_DS_run_76 : decode b_DS_run 76 = .ok (.ireturn, 1) := by decide +kernel
theorem d_Se_least_0 : decode b_Se_least 0 = .ok (.iconst 1, 1) := by decide +kernel
theorem d_Se_least_1 : decode b_Se_least 1 = .ok (.aload_n 0, 1) := by decide +kernel
theorem d_Se_least_2 : decode b_Se_least 2 = .ok (.getfield 18, 3) := by decide +kernel
theorem d_Se_least_5 : decode b_Se_least 5 = .ok (.getfield 22, 3) := by decide +kernel
theorem d_Se_least_8 : decode b_Se_least 8 = .ok (.ishl, 1) := by decide +kernel
theorem d_Se_least_9 : decode b_Se_least 9 = .ok (.istore_n 1, 1) := by decide +kernel
theorem d_Se_least_10 : decode b_Se_least 10 = .ok (.iconst 0, 1) := by decide +kernel
theorem d_Se_least_11 : decode b_Se_least 11 = .ok (.istore_n 2, 1) := by decide +kernel
theorem d_Se_least_12 : decode b_Se_least 12 = .ok (.iload_n 2, 1) := by decide +kernel
theorem d_Se_least_13 : decode b_Se_least 13 = .ok (.iload_n 1, 1) := by decide +kernel
theorem d_Se_least_14 : decode b_Se_least 14 = .ok (.if_icmp .ge 27, 3) := by decide +kernel
theorem d_Se_least_17 : decode b_Se_least 17 = .ok (.aload_n 0, 1) := by decide +kernel
theorem d_Se_least_18 : decode b_Se_least 18 = .ok (.getfield 15, 3) := by decide +kernel
theorem d_Se_least_21 : decode b_Se_least 21 = .ok (.iload_n 2, 1) := by decide +kernel
theorem d_Se_least_22 : decode b_Se_least 22 = .ok (.aload_n 0, 1) := by decide +kernel
theorem d_Se_least_23 : decode b_Se_least 23 = .ok (.aload_n 0, 1) := by decide +kernel
theorem d_Se_least_24 : decode b_Se_least 24 = .ok (.getfield 18, 3) := by decide +kernel
theorem d_Se_least_27 : decode b_Se_least 27 = .ok (.getfield 28, 3) := by decide +kernel
theorem d_Se_least_30 : decode b_Se_least 30 = .ok (.iload_n 2, 1) := by decide +kernel
theorem d_Se_least_31 : decode b_Se_least 31 = .ok (.invokevirtual 31, 3) := by decide +kernel
theorem d_Se_least_34 : decode b_Se_least 34 = .ok (.lastore, 1) := by decide +kernel
theorem d_Se_least_35 : decode b_Se_least 35 = .ok (.iinc 2 1, 3) := by decide +kernel
theorem d_Se_least_38 : decode b_Se_least 38 = .ok (.goto (-26), 3) := by decide +kernel
theorem d_Se_least_41 : decode b_Se_least 41 = .ok (.iconst 0, 1) := by decide +kernel
theorem d_Se_least_42 : decode b_Se_least 42 = .ok (.istore_n 2, 1) := by decide +kernel
theorem d_Se_least_43 : decode b_Se_least 43 = .ok (.iload_n 2, 1) := by decide +kernel
theorem d_Se_least_44 : decode b_Se_least 44 = .ok (.aload_n 0, 1) := by decide +kernel
theorem d_Se_least_45 : decode b_Se_least 45 = .ok (.getfield 18, 3) := by decide +kernel
theorem d_Se_least_48 : decode b_Se_least 48 = .ok (.getfield 28, 3) := by decide +kernel
theorem d_Se_least_51 : decode b_Se_least 51 = .ok (.if_icmp .ge 39, 3) := by decide +kernel
theorem d_Se_least_54 : decode b_Se_least 54 = .ok (.iconst 0, 1) := by decide +kernel
theorem d_Se_least_55 : decode b_Se_least 55 = .ok (.istore_n 3, 1) := by decide +kernel
theorem d_Se_least_56 : decode b_Se_least 56 = .ok (.iload_n 3, 1) := by decide +kernel
theorem d_Se_least_57 : decode b_Se_least 57 = .ok (.iload_n 1, 1) := by decide +kernel
theorem d_Se_least_58 : decode b_Se_least 58 = .ok (.if_icmp .ge 21, 3) := by decide +kernel
theorem d_Se_least_61 : decode b_Se_least 61 = .ok (.aload_n 0, 1) := by decide +kernel
end
section
theorem d_Se_least_62 : decode b_Se_least 62 = .ok (.getfield 11, 3) := by decide +kernel
theorem d_Se_least_65 : decode b_Se_least 65 = .ok (.iload_n 3, 1) := by decide +kernel
theorem d_Se_least_66 : decode b_Se_least 66 = .ok (.aload_n 0, 1) := by decide +kernel
theorem d_Se_least_67 : decode b_Se_least 67 = .ok (.iload_n 2, 1) := by decide +kernel
theorem d_Se_least_68 : decode b_Se_least 68 = .ok (.iload_n 3, 1) := by decide +kernel
theorem d_Se_least_69 : decode b_Se_least 69 = .ok (.invokevirtual 31, 3) := by decide +kernel
theorem d_Se_least_72 : decode b_Se_least 72 = .ok (.lastore, 1) := by decide +kernel
theorem d_Se_least_73 : decode b_Se_least 73 = .ok (.iinc 3 1, 3) := by decide +kernel
theorem d_Se_least_76 : decode b_Se_least 76 = .ok (.goto (-20), 3) := by decide +kernel
theorem d_Se_least_79 : decode b_Se_least 79 = .ok (.aload_n 0, 1) := by decide +kernel
theorem d_Se_least_80 : decode b_Se_least 80 = .ok (.iload_n 1, 1) := by decide +kernel
theorem d_Se_least_81 : decode b_Se_least 81 = .ok (.invokevirtual 35, 3) := by decide +kernel
theorem d_Se_least_84 : decode b_Se_least 84 = .ok (.iinc 2 1, 3) := by decide +kernel
theorem d_Se_least_87 : decode b_Se_least 87 = .ok (.goto (-44), 3) := by decide +kernel
theorem d_Se_least_90 : decode b_Se_least 90 = .ok (.aload_n 0, 1) := by decide +kernel
theorem d_Se_least_91 : decode b_Se_least 91 = .ok (.getfield 15, 3) := by decide +kernel
theorem d_Se_least_94 : decode b_Se_least 94 = .ok (.iload_n 1, 1) := by decide +kernel
theorem d_Se_least_95 : decode b_Se_least 95 = .ok (.iconst 1, 1) := by decide +kernel
theorem d_Se_least_96 : decode b_Se_least 96 = .ok (.isub, 1) := by decide +kernel
theorem d_Se_least_97 : decode b_Se_least 97 = .ok (.laload, 1) := by decide +kernel
theorem d_Se_least_98 : decode b_Se_least 98 = .ok (.lreturn, 1) := by decide +kernel
theorem d_Se_weightOf_0 : decode b_Se_weightOf 0 = .ok (.lconst 0, 1) := by decide +kernel
theorem d_Se_weightOf_1 : decode b_Se_weightOf 1 = .ok (.lstore_n 3, 1) := by decide +kernel
theorem d_Se_weightOf_2 : decode b_Se_weightOf 2 = .ok (.iconst 0, 1) := by decide +kernel
theorem d_Se_weightOf_3 : decode b_Se_weightOf 3 = .ok (.istore 5, 2) := by decide +kernel
theorem d_Se_weightOf_5 : decode b_Se_weightOf 5 = .ok (.iload 5, 2) := by decide +kernel
theorem d_Se_weightOf_7 : decode b_Se_weightOf 7 = .ok (.aload_n 0, 1) := by decide +kernel
theorem d_Se_weightOf_8 : decode b_Se_weightOf 8 = .ok (.getfield 18, 3) := by decide +kernel
theorem d_Se_weightOf_11 : decode b_Se_weightOf 11 = .ok (.getfield 22, 3) := by decide +kernel
theorem d_Se_weightOf_14 : decode b_Se_weightOf 14 = .ok (.if_icmp .ge 70, 3) := by decide +kernel
theorem d_Se_weightOf_17 : decode b_Se_weightOf 17 = .ok (.iload_n 2, 1) := by decide +kernel
theorem d_Se_weightOf_18 : decode b_Se_weightOf 18 = .ok (.iload 5, 2) := by decide +kernel
theorem d_Se_weightOf_20 : decode b_Se_weightOf 20 = .ok (.invokestatic 45, 3) := by decide +kernel
theorem d_Se_weightOf_23 : decode b_Se_weightOf 23 = .ok (.ifCond .eq 55, 3) := by decide +kernel
theorem d_Se_weightOf_26 : decode b_Se_weightOf 26 = .ok (.aload_n 0, 1) := by decide +kernel
theorem d_Se_weightOf_27 : decode b_Se_weightOf 27 = .ok (.getfield 18, 3) := by decide +kernel
theorem d_Se_weightOf_30 : decode b_Se_weightOf 30 = .ok (.iload 5, 2) := by decide +kernel
theorem d_Se_weightOf_32 : decode b_Se_weightOf 32 = .ok (.iload_n 1, 1) := by decide +kernel
theorem d_Se_weightOf_33 : decode b_Se_weightOf 33 = .ok (.invokevirtual 49, 3) := by decide +kernel
theorem d_Se_weightOf_36 : decode b_Se_weightOf 36 = .ok (.ifCond .ne 7, 3) := by decide +kernel
theorem d_Se_weightOf_39 : decode b_Se_weightOf 39 = .ok (.ldc2_w 52, 3) := by decide +kernel
theorem d_Se_weightOf_42 : decode b_Se_weightOf 42 = .ok (.lreturn, 1) := by decide +kernel
theorem d_Se_weightOf_43 : decode b_Se_weightOf 43 = .ok (.lload_n 3, 1) := by decide +kernel
theorem d_Se_weightOf_44 : decode b_Se_weightOf 44 = .ok (.iload_n 1, 1) := by decide +kernel
theorem d_Se_weightOf_45 : decode b_Se_weightOf 45 = .ok (.i2l, 1) := by decide +kernel
theorem d_Se_weightOf_46 : decode b_Se_weightOf 46 = .ok (.iload 5, 2) := by decide +kernel
theorem d_Se_weightOf_48 : decode b_Se_weightOf 48 = .ok (.invokestatic 54, 3) := by decide +kernel
theorem d_Se_weightOf_51 : decode b_Se_weightOf 51 = .ok (.lshl, 1) := by decide +kernel
theorem d_Se_weightOf_52 : decode b_Se_weightOf 52 = .ok (.ladd, 1) := by decide +kernel
theorem d_Se_weightOf_53 : decode b_Se_weightOf 53 = .ok (.lstore_n 3, 1) := by decide +kernel
theorem d_Se_weightOf_54 : decode b_Se_weightOf 54 = .ok (.lload_n 3, 1) := by decide +kernel
theorem d_Se_weightOf_55 : decode b_Se_weightOf 55 = .ok (.aload_n 0, 1) := by decide +kernel
theorem d_Se_weightOf_56 : decode b_Se_weightOf 56 = .ok (.getfield 18, 3) := by decide +kernel
theorem d_Se_weightOf_59 : decode b_Se_weightOf 59 = .ok (.getfield 58, 3) := by decide +kernel
theorem d_Se_weightOf_62 : decode b_Se_weightOf 62 = .ok (.iload 5, 2) := by decide +kernel
theorem d_Se_weightOf_64 : decode b_Se_weightOf 64 = .ok (.iaload, 1) := by decide +kernel
theorem d_Se_weightOf_65 : decode b_Se_weightOf 65 = .ok (.iload_n 1, 1) := by decide +kernel
theorem d_Se_weightOf_66 : decode b_Se_weightOf 66 = .ok (.if_icmp .ne 7, 3) := by decide +kernel
theorem d_Se_weightOf_69 : decode b_Se_weightOf 69 = .ok (.lconst 0, 1) := by decide +kernel
theorem d_Se_weightOf_70 : decode b_Se_weightOf 70 = .ok (.goto 6, 3) := by decide +kernel
theorem d_Se_weightOf_73 : decode b_Se_weightOf 73 = .ok (.ldc2_w 62, 3) := by decide +kernel
theorem d_Se_weightOf_76 : decode b_Se_weightOf 76 = .ok (.ladd, 1) := by decide +kernel
theorem d_Se_weightOf_77 : decode b_Se_weightOf 77 = .ok (.lstore_n 3, 1) := by decide +kernel
theorem d_Se_weightOf_78 : decode b_Se_weightOf 78 = .ok (.iinc 5 1, 3) := by decide +kernel
theorem d_Se_weightOf_81 : decode b_Se_weightOf 81 = .ok (.goto (-76), 3) := by decide +kernel
theorem d_Se_weightOf_84 : decode b_Se_weightOf 84 = .ok (.iload_n 1, 1) := by decide +kernel
theorem d_Se_weightOf_85 : decode b_Se_weightOf 85 = .ok (.aload_n 0, 1) := by decide +kernel
theorem d_Se_weightOf_86 : decode b_Se_weightOf 86 = .ok (.getfield 18, 3) := by decide +kernel
theorem d_Se_weightOf_89 : decode b_Se_weightOf 89 = .ok (.getfield 28, 3) := by decide +kernel
theorem d_Se_weightOf_92 : decode b_Se_weightOf 92 = .ok (.if_icmp .ne 5, 3) := by decide +kernel
theorem d_Se_weightOf_95 : decode b_Se_weightOf 95 = .ok (.lload_n 3, 1) := by decide +kernel
theorem d_Se_weightOf_96 : decode b_Se_weightOf 96 = .ok (.lreturn, 1) := by decide +kernel
theorem d_Se_weightOf_97 : decode b_Se_weightOf 97 = .ok (.aload_n 0, 1) := by decide +kernel
theorem d_Se_weightOf_98 : decode b_Se_weightOf 98 = .ok (.getfield 18, 3) := by decide +kernel
theorem d_Se_weightOf_101 : decode b_Se_weightOf 101 = .ok (.iload_n 1, 1) := by decide +kernel
theorem d_Se_weightOf_102 : decode b_Se_weightOf 102 = .ok (.iload_n 2, 1) := by decide +kernel
theorem d_Se_weightOf_103 : decode b_Se_weightOf 103 = .ok (.invokevirtual 64, 3) := by decide +kernel
theorem d_Se_weightOf_106 : decode b_Se_weightOf 106 = .ok (.istore 5, 2) := by decide +kernel
theorem d_Se_weightOf_108 : decode b_Se_weightOf 108 = .ok (.aload_n 0, 1) := by decide +kernel
theorem d_Se_weightOf_109 : decode b_Se_weightOf 109 = .ok (.getfield 18, 3) := by decide +kernel
theorem d_Se_weightOf_112 : decode b_Se_weightOf 112 = .ok (.iload_n 1, 1) := by decide +kernel
theorem d_Se_weightOf_113 : decode b_Se_weightOf 113 = .ok (.iload 5, 2) := by decide +kernel
theorem d_Se_weightOf_115 : decode b_Se_weightOf 115 = .ok (.invokevirtual 68, 3) := by decide +kernel
theorem d_Se_weightOf_118 : decode b_Se_weightOf 118 = .ok (.istore 6, 2) := by decide +kernel
theorem d_Se_weightOf_120 : decode b_Se_weightOf 120 = .ok (.iload 6, 2) := by decide +kernel
theorem d_Se_weightOf_122 : decode b_Se_weightOf 122 = .ok (.aload_n 0, 1) := by decide +kernel
theorem d_Se_weightOf_123 : decode b_Se_weightOf 123 = .ok (.getfield 18, 3) := by decide +kernel
theorem d_Se_weightOf_126 : decode b_Se_weightOf 126 = .ok (.getfield 71, 3) := by decide +kernel
theorem d_Se_weightOf_129 : decode b_Se_weightOf 129 = .ok (.if_icmp .le 9, 3) := by decide +kernel
theorem d_Se_weightOf_132 : decode b_Se_weightOf 132 = .ok (.ldc2_w 52, 3) := by decide +kernel
theorem d_Se_weightOf_135 : decode b_Se_weightOf 135 = .ok (.goto 14, 3) := by decide +kernel
theorem d_Se_weightOf_138 : decode b_Se_weightOf 138 = .ok (.lload_n 3, 1) := by decide +kernel
theorem d_Se_weightOf_139 : decode b_Se_weightOf 139 = .ok (.iload 5, 2) := by decide +kernel
theorem d_Se_weightOf_141 : decode b_Se_weightOf 141 = .ok (.iload 6, 2) := by decide +kernel
theorem d_Se_weightOf_143 : decode b_Se_weightOf 143 = .ok (.iadd, 1) := by decide +kernel
theorem d_Se_weightOf_144 : decode b_Se_weightOf 144 = .ok (.i2l, 1) := by decide +kernel
theorem d_Se_weightOf_145 : decode b_Se_weightOf 145 = .ok (.bipush 16, 2) := by decide +kernel
theorem d_Se_weightOf_147 : decode b_Se_weightOf 147 = .ok (.lshl, 1) := by decide +kernel
theorem d_Se_weightOf_148 : decode b_Se_weightOf 148 = .ok (.ladd, 1) := by decide +kernel
theorem d_Se_weightOf_149 : decode b_Se_weightOf 149 = .ok (.lreturn, 1) := by decide +kernel
theorem d_DS_isIn_0 : decode b_DS_isIn 0 = .ok (.iload_n 0, 1) := by decide +kernel
theorem d_DS_isIn_1 : decode b_DS_isIn 1 = .ok (.iload_n 1, 1) := by decide +kernel
theorem d_DS_isIn_2 : decode b_DS_isIn 2 = .ok (.ishr, 1) := by decide +kernel
theorem d_DS_isIn_3 : decode b_DS_isIn 3 = .ok (.iconst 1, 1) := by decide +kernel
theorem d_DS_isIn_4 : decode b_DS_isIn 4 = .ok (.iand, 1) := by decide +kernel
theorem d_DS_isIn_5 : decode b_DS_isIn 5 = .ok (.iconst 1, 1) := by decide +kernel
theorem d_DS_isIn_6 : decode b_DS_isIn 6 = .ok (.if_icmp .ne 7, 3) := by decide +kernel
theorem d_DS_isIn_9 : decode b_DS_isIn 9 = .ok (.iconst 1, 1) := by decide +kernel
theorem d_DS_isIn_10 : decode b_DS_isIn 10 = .ok (.goto 4, 3) := by decide +kernel
theorem d_DS_isIn_13 : decode b_DS_isIn 13 = .ok (.iconst 0, 1) := by decide +kernel
theorem d_DS_isIn_14 : decode b_DS_isIn 14 = .ok (.ireturn, 1) := by decide +kernel
theorem d_Day_mayHave_0 : decode b_Day_mayHave 0 = .ok (.aload_n 0, 1) := by decide +kernel
theorem d_Day_mayHave_1 : decode b_Day_mayHave 1 = .ok (.getfield 24, 3) := by decide +kernel
theorem d_Day_mayHave_4 : decode b_Day_mayHave 4 = .ok (.iload_n 1, 1) := by decide +kernel
theorem d_Day_mayHave_5 : decode b_Day_mayHave 5 = .ok (.baload, 1) := by decide +kernel
theorem d_Day_mayHave_6 : decode b_Day_mayHave 6 = .ok (.ifCond .eq 15, 3) := by decide +kernel
theorem d_Day_mayHave_9 : decode b_Day_mayHave 9 = .ok (.aload_n 0, 1) := by decide +kernel
theorem d_Day_mayHave_10 : decode b_Day_mayHave 10 = .ok (.getfield 18, 3) := by decide +kernel
theorem d_Day_mayHave_13 : decode b_Day_mayHave 13 = .ok (.iload_n 1, 1) := by decide +kernel
theorem d_Day_mayHave_14 : decode b_Day_mayHave 14 = .ok (.iaload, 1) := by decide +kernel
theorem d_Day_mayHave_15 : decode b_Day_mayHave 15 = .ok (.iload_n 2, 1) := by decide +kernel
theorem d_Day_mayHave_16 : decode b_Day_mayHave 16 = .ok (.if_icmp .eq 5, 3) := by decide +kernel
theorem d_Day_mayHave_19 : decode b_Day_mayHave 19 = .ok (.iconst 0, 1) := by decide +kernel
theorem d_Day_mayHave_20 : decode b_Day_mayHave 20 = .ok (.ireturn, 1) := by decide +kernel
theorem d_Day_mayHave_21 : decode b_Day_mayHave 21 = .ok (.iload_n 2, 1) := by decide +kernel
theorem d_Day_mayHave_22 : decode b_Day_mayHave 22 = .ok (.aload_n 0, 1) := by decide +kernel
theorem d_Day_mayHave_23 : decode b_Day_mayHave 23 = .ok (.getfield 57, 3) := by decide +kernel
theorem d_Day_mayHave_26 : decode b_Day_mayHave 26 = .ok (.if_icmp .eq 21, 3) := by decide +kernel
theorem d_Day_mayHave_29 : decode b_Day_mayHave 29 = .ok (.aload_n 0, 1) := by decide +kernel
theorem d_Day_mayHave_30 : decode b_Day_mayHave 30 = .ok (.getfield 28, 3) := by decide +kernel
theorem d_Day_mayHave_33 : decode b_Day_mayHave 33 = .ok (.iload_n 1, 1) := by decide +kernel
theorem d_Day_mayHave_34 : decode b_Day_mayHave 34 = .ok (.baload, 1) := by decide +kernel
theorem d_Day_mayHave_35 : decode b_Day_mayHave 35 = .ok (.ifCond .ne 16, 3) := by decide +kernel
theorem d_Day_mayHave_38 : decode b_Day_mayHave 38 = .ok (.aload_n 0, 1) := by decide +kernel
theorem d_Day_mayHave_39 : decode b_Day_mayHave 39 = .ok (.iload_n 2, 1) := by decide +kernel
theorem d_Day_mayHave_40 : decode b_Day_mayHave 40 = .ok (.iload_n 1, 1) := by decide +kernel
theorem d_Day_mayHave_41 : decode b_Day_mayHave 41 = .ok (.invokevirtual 78, 3) := by decide +kernel
theorem d_Day_mayHave_44 : decode b_Day_mayHave 44 = .ok (.ifCond .eq 7, 3) := by decide +kernel
theorem d_Day_mayHave_47 : decode b_Day_mayHave 47 = .ok (.iconst 1, 1) := by decide +kernel
theorem d_Day_mayHave_48 : decode b_Day_mayHave 48 = .ok (.goto 4, 3) := by decide +kernel
theorem d_Day_mayHave_51 : decode b_Day_mayHave 51 = .ok (.iconst 0, 1) := by decide +kernel
theorem d_Day_mayHave_52 : decode b_Day_mayHave 52 = .ok (.ireturn, 1) := by decide +kernel
theorem d_Day_canDo_0 : decode b_Day_canDo 0 = .ok (.aload_n 0, 1) := by decide +kernel
theorem d_Day_canDo_1 : decode b_Day_canDo 1 = .ok (.getfield 45, 3) := by decide +kernel
theorem d_Day_canDo_4 : decode b_Day_canDo 4 = .ok (.iload_n 1, 1) := by decide +kernel
theorem d_Day_canDo_5 : decode b_Day_canDo 5 = .ok (.iaload, 1) := by decide +kernel
theorem d_Day_canDo_6 : decode b_Day_canDo 6 = .ok (.bipush 8, 2) := by decide +kernel
theorem d_Day_canDo_8 : decode b_Day_canDo 8 = .ok (.if_icmp .ne 5, 3) := by decide +kernel
theorem d_Day_canDo_11 : decode b_Day_canDo 11 = .ok (.iconst 1, 1) := by decide +kernel
theorem d_Day_canDo_12 : decode b_Day_canDo 12 = .ok (.ireturn, 1) := by decide +kernel
theorem d_Day_canDo_13 : decode b_Day_canDo 13 = .ok (.aload_n 0, 1) := by decide +kernel
theorem d_Day_canDo_14 : decode b_Day_canDo 14 = .ok (.getfield 18, 3) := by decide +kernel
theorem d_Day_canDo_17 : decode b_Day_canDo 17 = .ok (.iload_n 2, 1) := by decide +kernel
theorem d_Day_canDo_18 : decode b_Day_canDo 18 = .ok (.iaload, 1) := by decide +kernel
theorem d_Day_canDo_19 : decode b_Day_canDo 19 = .ok (.iload_n 1, 1) := by decide +kernel
theorem d_Day_canDo_20 : decode b_Day_canDo 20 = .ok (.if_icmp .ne 22, 3) := by decide +kernel
theorem d_Day_canDo_23 : decode b_Day_canDo 23 = .ok (.aload_n 0, 1) := by decide +kernel
theorem d_Day_canDo_24 : decode b_Day_canDo 24 = .ok (.getfield 21, 3) := by decide +kernel
theorem d_Day_canDo_27 : decode b_Day_canDo 27 = .ok (.iload_n 2, 1) := by decide +kernel
theorem d_Day_canDo_28 : decode b_Day_canDo 28 = .ok (.iaload, 1) := by decide +kernel
theorem d_Day_canDo_29 : decode b_Day_canDo 29 = .ok (.aload_n 0, 1) := by decide +kernel
theorem d_Day_canDo_30 : decode b_Day_canDo 30 = .ok (.getfield 45, 3) := by decide +kernel
theorem d_Day_canDo_33 : decode b_Day_canDo 33 = .ok (.iload_n 1, 1) := by decide +kernel
theorem d_Day_canDo_34 : decode b_Day_canDo 34 = .ok (.iaload, 1) := by decide +kernel
theorem d_Day_canDo_35 : decode b_Day_canDo 35 = .ok (.if_icmp .ge 7, 3) := by decide +kernel
theorem d_Day_canDo_38 : decode b_Day_canDo 38 = .ok (.iconst 1, 1) := by decide +kernel
theorem d_Day_canDo_39 : decode b_Day_canDo 39 = .ok (.goto 4, 3) := by decide +kernel
theorem d_Day_canDo_42 : decode b_Day_canDo 42 = .ok (.iconst 0, 1) := by decide +kernel
theorem d_Day_canDo_43 : decode b_Day_canDo 43 = .ok (.ireturn, 1) := by decide +kernel
theorem d_Se_digitShift_0 : decode b_Se_digitShift 0 = .ok (.iconst 2, 1) := by decide +kernel
theorem d_Se_digitShift_1 : decode b_Se_digitShift 1 = .ok (.bipush 7, 2) := by decide +kernel
theorem d_Se_digitShift_3 : decode b_Se_digitShift 3 = .ok (.iload_n 0, 1) := by decide +kernel
theorem d_Se_digitShift_4 : decode b_Se_digitShift 4 = .ok (.isub, 1) := by decide +kernel
theorem d_Se_digitShift_5 : decode b_Se_digitShift 5 = .ok (.imul, 1) := by decide +kernel
theorem d_Se_digitShift_6 : decode b_Se_digitShift 6 = .ok (.ireturn, 1) := by decide +kernel
theorem d_Day_timeOf_0 : decode b_Day_timeOf 0 = .ok (.aload_n 0, 1) := by decide +kernel
theorem d_Day_timeOf_1 : decode b_Day_timeOf 1 = .ok (.iload_n 1, 1) := by decide +kernel
theorem d_Day_timeOf_2 : decode b_Day_timeOf 2 = .ok (.iload_n 2, 1) := by decide +kernel
theorem d_Day_timeOf_3 : decode b_Day_timeOf 3 = .ok (.aload_n 0, 1) := by decide +kernel
theorem d_Day_timeOf_4 : decode b_Day_timeOf 4 = .ok (.getfield 54, 3) := by decide +kernel
theorem d_Day_timeOf_7 : decode b_Day_timeOf 7 = .ok (.iconst 0, 1) := by decide +kernel
theorem d_Day_timeOf_8 : decode b_Day_timeOf 8 = .ok (.invokevirtual 85, 3) := by decide +kernel
theorem d_Day_timeOf_11 : decode b_Day_timeOf 11 = .ok (.istore_n 3, 1) := by decide +kernel
theorem d_Day_timeOf_12 : decode b_Day_timeOf 12 = .ok (.iconst 0, 1) := by decide +kernel
theorem d_Day_timeOf_13 : decode b_Day_timeOf 13 = .ok (.istore 4, 2) := by decide +kernel
theorem d_Day_timeOf_15 : decode b_Day_timeOf 15 = .ok (.iconst 0, 1) := by decide +kernel
theorem d_Day_timeOf_16 : decode b_Day_timeOf 16 = .ok (.istore 5, 2) := by decide +kernel
theorem d_Day_timeOf_18 : decode b_Day_timeOf 18 = .ok (.iconst 0, 1) := by decide +kernel
theorem d_Day_timeOf_19 : decode b_Day_timeOf 19 = .ok (.istore 6, 2) := by decide +kernel
theorem d_Day_timeOf_21 : decode b_Day_timeOf 21 = .ok (.iload 6, 2) := by decide +kernel
theorem d_Day_timeOf_23 : decode b_Day_timeOf 23 = .ok (.iload_n 3, 1) := by decide +kernel
theorem d_Day_timeOf_24 : decode b_Day_timeOf 24 = .ok (.if_icmp .ge 55, 3) := by decide +kernel
theorem d_Day_timeOf_27 : decode b_Day_timeOf 27 = .ok (.aload_n 0, 1) := by decide +kernel
theorem d_Day_timeOf_28 : decode b_Day_timeOf 28 = .ok (.getfield 9, 3) := by decide +kernel
theorem d_Day_timeOf_31 : decode b_Day_timeOf 31 = .ok (.aload_n 0, 1) := by decide +kernel
theorem d_Day_timeOf_32 : decode b_Day_timeOf 32 = .ok (.getfield 54, 3) := by decide +kernel
theorem d_Day_timeOf_35 : decode b_Day_timeOf 35 = .ok (.iload 6, 2) := by decide +kernel
theorem d_Day_timeOf_37 : decode b_Day_timeOf 37 = .ok (.iaload, 1) := by decide +kernel
theorem d_Day_timeOf_38 : decode b_Day_timeOf 38 = .ok (.iaload, 1) := by decide +kernel
theorem d_Day_timeOf_39 : decode b_Day_timeOf 39 = .ok (.istore 7, 2) := by decide +kernel
theorem d_Day_timeOf_41 : decode b_Day_timeOf 41 = .ok (.iload 4, 2) := by decide +kernel
theorem d_Day_timeOf_43 : decode b_Day_timeOf 43 = .ok (.aload_n 0, 1) := by decide +kernel
theorem d_Day_timeOf_44 : decode b_Day_timeOf 44 = .ok (.getfield 51, 3) := by decide +kernel
theorem d_Day_timeOf_47 : decode b_Day_timeOf 47 = .ok (.iload 5, 2) := by decide +kernel
theorem d_Day_timeOf_49 : decode b_Day_timeOf 49 = .ok (.aaload, 1) := by decide +kernel
theorem d_Day_timeOf_50 : decode b_Day_timeOf 50 = .ok (.iload 7, 2) := by decide +kernel
theorem d_Day_timeOf_52 : decode b_Day_timeOf 52 = .ok (.iaload, 1) := by decide +kernel
theorem d_Day_timeOf_53 : decode b_Day_timeOf 53 = .ok (.aload_n 0, 1) := by decide +kernel
theorem d_Day_timeOf_54 : decode b_Day_timeOf 54 = .ok (.getfield 15, 3) := by decide +kernel
theorem d_Day_timeOf_57 : decode b_Day_timeOf 57 = .ok (.aload_n 0, 1) := by decide +kernel
theorem d_Day_timeOf_58 : decode b_Day_timeOf 58 = .ok (.getfield 54, 3) := by decide +kernel
theorem d_Day_timeOf_61 : decode b_Day_timeOf 61 = .ok (.iload 6, 2) := by decide +kernel
theorem d_Day_timeOf_63 : decode b_Day_timeOf 63 = .ok (.iaload, 1) := by decide +kernel
theorem d_Day_timeOf_64 : decode b_Day_timeOf 64 = .ok (.iaload, 1) := by decide +kernel
theorem d_Day_timeOf_65 : decode b_Day_timeOf 65 = .ok (.iadd, 1) := by decide +kernel
theorem d_Day_timeOf_66 : decode b_Day_timeOf 66 = .ok (.iadd, 1) := by decide +kernel
theorem d_Day_timeOf_67 : decode b_Day_timeOf 67 = .ok (.istore 4, 2) := by decide +kernel
theorem d_Day_timeOf_69 : decode b_Day_timeOf 69 = .ok (.iload 7, 2) := by decide +kernel
theorem d_Day_timeOf_71 : decode b_Day_timeOf 71 = .ok (.istore 5, 2) := by decide +kernel
theorem d_Day_timeOf_73 : decode b_Day_timeOf 73 = .ok (.iinc 6 1, 3) := by decide +kernel
theorem d_Day_timeOf_76 : decode b_Day_timeOf 76 = .ok (.goto (-55), 3) := by decide +kernel
theorem d_Day_timeOf_79 : decode b_Day_timeOf 79 = .ok (.iload 4, 2) := by decide +kernel
theorem d_Day_timeOf_81 : decode b_Day_timeOf 81 = .ok (.aload_n 0, 1) := by decide +kernel
theorem d_Day_timeOf_82 : decode b_Day_timeOf 82 = .ok (.getfield 51, 3) := by decide +kernel
theorem d_Day_timeOf_85 : decode b_Day_timeOf 85 = .ok (.iload 5, 2) := by decide +kernel
theorem d_Day_timeOf_87 : decode b_Day_timeOf 87 = .ok (.aaload, 1) := by decide +kernel
theorem d_Day_timeOf_88 : decode b_Day_timeOf 88 = .ok (.iconst 0, 1) := by decide +kernel
theorem d_Day_timeOf_89 : decode b_Day_timeOf 89 = .ok (.iaload, 1) := by decide +kernel
theorem d_Day_timeOf_90 : decode b_Day_timeOf 90 = .ok (.iadd, 1) := by decide +kernel
theorem d_Day_timeOf_91 : decode b_Day_timeOf 91 = .ok (.ireturn, 1) := by decide +kernel
theorem d_Day_addRound_0 : decode b_Day_addRound 0 = .ok (.iload 4, 2) := by decide +kernel
theorem d_Day_addRound_2 : decode b_Day_addRound 2 = .ok (.istore 5, 2) := by decide +kernel
theorem d_Day_addRound_4 : decode b_Day_addRound 4 = .ok (.iconst 0, 1) := by decide +kernel
theorem d_Day_addRound_5 : decode b_Day_addRound 5 = .ok (.istore 6, 2) := by decide +kernel
theorem d_Day_addRound_7 : decode b_Day_addRound 7 = .ok (.iload 6, 2) := by decide +kernel
theorem d_Day_addRound_9 : decode b_Day_addRound 9 = .ok (.aload_n 0, 1) := by decide +kernel
theorem d_Day_addRound_10 : decode b_Day_addRound 10 = .ok (.getfield 36, 3) := by decide +kernel
theorem d_Day_addRound_13 : decode b_Day_addRound 13 = .ok (.iload_n 1, 1) := by decide +kernel
theorem d_Day_addRound_14 : decode b_Day_addRound 14 = .ok (.iaload, 1) := by decide +kernel
theorem d_Day_addRound_15 : decode b_Day_addRound 15 = .ok (.if_icmp .ge 41, 3) := by decide +kernel
theorem d_Day_addRound_18 : decode b_Day_addRound 18 = .ok (.iload_n 2, 1) := by decide +kernel
theorem d_Day_addRound_19 : decode b_Day_addRound 19 = .ok (.aload_n 0, 1) := by decide +kernel
theorem d_Day_addRound_20 : decode b_Day_addRound 20 = .ok (.getfield 33, 3) := by decide +kernel
theorem d_Day_addRound_23 : decode b_Day_addRound 23 = .ok (.iload_n 1, 1) := by decide +kernel
theorem d_Day_addRound_24 : decode b_Day_addRound 24 = .ok (.aaload, 1) := by decide +kernel
theorem d_Day_addRound_25 : decode b_Day_addRound 25 = .ok (.iload 6, 2) := by decide +kernel
theorem d_Day_addRound_27 : decode b_Day_addRound 27 = .ok (.iaload, 1) := by decide +kernel
theorem d_Day_addRound_28 : decode b_Day_addRound 28 = .ok (.invokestatic 82, 3) := by decide +kernel
theorem d_Day_addRound_31 : decode b_Day_addRound 31 = .ok (.ifCond .eq 19, 3) := by decide +kernel
theorem d_Day_addRound_34 : decode b_Day_addRound 34 = .ok (.aload_n 3, 1) := by decide +kernel
theorem d_Day_addRound_35 : decode b_Day_addRound 35 = .ok (.iload 5, 2) := by decide +kernel
theorem d_Day_addRound_37 : decode b_Day_addRound 37 = .ok (.iinc 5 1, 3) := by decide +kernel
theorem d_Day_addRound_40 : decode b_Day_addRound 40 = .ok (.aload_n 0, 1) := by decide +kernel
theorem d_Day_addRound_41 : decode b_Day_addRound 41 = .ok (.getfield 33, 3) := by decide +kernel
theorem d_Day_addRound_44 : decode b_Day_addRound 44 = .ok (.iload_n 1, 1) := by decide +kernel
theorem d_Day_addRound_45 : decode b_Day_addRound 45 = .ok (.aaload, 1) := by decide +kernel
theorem d_Day_addRound_46 : decode b_Day_addRound 46 = .ok (.iload 6, 2) := by decide +kernel
theorem d_Day_addRound_48 : decode b_Day_addRound 48 = .ok (.iaload, 1) := by decide +kernel
theorem d_Day_addRound_49 : decode b_Day_addRound 49 = .ok (.iastore, 1) := by decide +kernel
theorem d_Day_addRound_50 : decode b_Day_addRound 50 = .ok (.iinc 6 1, 3) := by decide +kernel
theorem d_Day_addRound_53 : decode b_Day_addRound 53 = .ok (.goto (-46), 3) := by decide +kernel
theorem d_Day_addRound_56 : decode b_Day_addRound 56 = .ok (.iconst 0, 1) := by decide +kernel
theorem d_Day_addRound_57 : decode b_Day_addRound 57 = .ok (.istore 6, 2) := by decide +kernel
theorem d_Day_addRound_59 : decode b_Day_addRound 59 = .ok (.iload 6, 2) := by decide +kernel
theorem d_Day_addRound_61 : decode b_Day_addRound 61 = .ok (.aload_n 0, 1) := by decide +kernel
theorem d_Day_addRound_62 : decode b_Day_addRound 62 = .ok (.getfield 71, 3) := by decide +kernel
theorem d_Day_addRound_65 : decode b_Day_addRound 65 = .ok (.if_icmp .ge 38, 3) := by decide +kernel
theorem d_Day_addRound_68 : decode b_Day_addRound 68 = .ok (.iload_n 2, 1) := by decide +kernel
theorem d_Day_addRound_69 : decode b_Day_addRound 69 = .ok (.iload 6, 2) := by decide +kernel
theorem d_Day_addRound_71 : decode b_Day_addRound 71 = .ok (.invokestatic 82, 3) := by decide +kernel
theorem d_Day_addRound_74 : decode b_Day_addRound 74 = .ok (.ifCond .eq 23, 3) := by decide +kernel
theorem d_Day_addRound_77 : decode b_Day_addRound 77 = .ok (.aload_n 0, 1) := by decide +kernel
theorem d_Day_addRound_78 : decode b_Day_addRound 78 = .ok (.getfield 18, 3) := by decide +kernel
theorem d_Day_addRound_81 : decode b_Day_addRound 81 = .ok (.iload 6, 2) := by decide +kernel
theorem d_Day_addRound_83 : decode b_Day_addRound 83 = .ok (.iaload, 1) := by decide +kernel
theorem d_Day_addRound_84 : decode b_Day_addRound 84 = .ok (.iload_n 1, 1) := by decide +kernel
theorem d_Day_addRound_85 : decode b_Day_addRound 85 = .ok (.if_icmp .eq 12, 3) := by decide +kernel
theorem d_Day_addRound_88 : decode b_Day_addRound 88 = .ok (.aload_n 3, 1) := by decide +kernel
theorem d_Day_addRound_89 : decode b_Day_addRound 89 = .ok (.iload 5, 2) := by decide +kernel
theorem d_Day_addRound_91 : decode b_Day_addRound 91 = .ok (.iinc 5 1, 3) := by decide +kernel
theorem d_Day_addRound_94 : decode b_Day_addRound 94 = .ok (.iload 6, 2) := by decide +kernel
theorem d_Day_addRound_96 : decode b_Day_addRound 96 = .ok (.iastore, 1) := by decide +kernel
theorem d_Day_addRound_97 : decode b_Day_addRound 97 = .ok (.iinc 6 1, 3) := by decide +kernel
theorem d_Day_addRound_100 : decode b_Day_addRound 100 = .ok (.goto (-41), 3) := by decide +kernel
theorem d_Day_addRound_103 : decode b_Day_addRound 103 = .ok (.iload 5, 2) := by decide +kernel
theorem d_Day_addRound_105 : decode b_Day_addRound 105 = .ok (.ireturn, 1) := by decide +kernel
theorem d_Day_overHours_0 : decode b_Day_overHours 0 = .ok (.iconst 0, 1) := by decide +kernel
theorem d_Day_overHours_1 : decode b_Day_overHours 1 = .ok (.iload_n 2, 1) := by decide +kernel
theorem d_Day_overHours_2 : decode b_Day_overHours 2 = .ok (.aload_n 0, 1) := by decide +kernel
theorem d_Day_overHours_3 : decode b_Day_overHours 3 = .ok (.getfield 48, 3) := by decide +kernel
theorem d_Day_overHours_6 : decode b_Day_overHours 6 = .ok (.iload_n 1, 1) := by decide +kernel
theorem d_Day_overHours_7 : decode b_Day_overHours 7 = .ok (.iaload, 1) := by decide +kernel
theorem d_Day_overHours_8 : decode b_Day_overHours 8 = .ok (.isub, 1) := by decide +kernel
theorem d_Day_overHours_9 : decode b_Day_overHours 9 = .ok (.invokestatic 89, 3) := by decide +kernel
theorem d_Day_overHours_12 : decode b_Day_overHours 12 = .ok (.ireturn, 1) := by decide +kernel
theorem d_Se_join_0 : decode b_Se_join 0 = .ok (.iload_n 1, 1) := by decide +kernel
theorem d_Se_join_1 : decode b_Se_join 1 = .ok (.iconst 1, 1) := by decide +kernel
theorem d_Se_join_2 : decode b_Se_join 2 = .ok (.isub, 1) := by decide +kernel
theorem d_Se_join_3 : decode b_Se_join 3 = .ok (.istore_n 2, 1) := by decide +kernel
theorem d_Se_join_4 : decode b_Se_join 4 = .ok (.iload_n 2, 1) := by decide +kernel
theorem d_Se_join_5 : decode b_Se_join 5 = .ok (.ifCond .le 64, 3) := by decide +kernel
theorem d_Se_join_8 : decode b_Se_join 8 = .ok (.aload_n 0, 1) := by decide +kernel
theorem d_Se_join_9 : decode b_Se_join 9 = .ok (.getfield 15, 3) := by decide +kernel
theorem d_Se_join_12 : decode b_Se_join 12 = .ok (.iload_n 2, 1) := by decide +kernel
theorem d_Se_join_13 : decode b_Se_join 13 = .ok (.laload, 1) := by decide +kernel
theorem d_Se_join_14 : decode b_Se_join 14 = .ok (.lstore_n 3, 1) := by decide +kernel
theorem d_Se_join_15 : decode b_Se_join 15 = .ok (.iload_n 2, 1) := by decide +kernel
theorem d_Se_join_16 : decode b_Se_join 16 = .ok (.istore 5, 2) := by decide +kernel
theorem d_Se_join_18 : decode b_Se_join 18 = .ok (.iload 5, 2) := by decide +kernel
theorem d_Se_join_20 : decode b_Se_join 20 = .ok (.ifCond .le 36, 3) := by decide +kernel
theorem d_Se_join_23 : decode b_Se_join 23 = .ok (.lload_n 3, 1) := by decide +kernel
theorem d_Se_join_24 : decode b_Se_join 24 = .ok (.aload_n 0, 1) := by decide +kernel
theorem d_Se_join_25 : decode b_Se_join 25 = .ok (.getfield 15, 3) := by decide +kernel
theorem d_Se_join_28 : decode b_Se_join 28 = .ok (.iload_n 2, 1) := by decide +kernel
theorem d_Se_join_29 : decode b_Se_join 29 = .ok (.iload 5, 2) := by decide +kernel
theorem d_Se_join_31 : decode b_Se_join 31 = .ok (.ixor, 1) := by decide +kernel
theorem d_Se_join_32 : decode b_Se_join 32 = .ok (.laload, 1) := by decide +kernel
theorem d_Se_join_33 : decode b_Se_join 33 = .ok (.aload_n 0, 1) := by decide +kernel
theorem d_Se_join_34 : decode b_Se_join 34 = .ok (.getfield 11, 3) := by decide +kernel
theorem d_Se_join_37 : decode b_Se_join 37 = .ok (.iload 5, 2) := by decide +kernel
theorem d_Se_join_39 : decode b_Se_join 39 = .ok (.laload, 1) := by decide +kernel
theorem d_Se_join_40 : decode b_Se_join 40 = .ok (.ladd, 1) := by decide +kernel
theorem d_Se_join_41 : decode b_Se_join 41 = .ok (.invokestatic 39, 3) := by decide +kernel
theorem d_Se_join_44 : decode b_Se_join 44 = .ok (.lstore_n 3, 1) := by decide +kernel
theorem d_Se_join_45 : decode b_Se_join 45 = .ok (.iload 5, 2) := by decide +kernel
theorem d_Se_join_47 : decode b_Se_join 47 = .ok (.iconst 1, 1) := by decide +kernel
theorem d_Se_join_48 : decode b_Se_join 48 = .ok (.isub, 1) := by decide +kernel
theorem d_Se_join_49 : decode b_Se_join 49 = .ok (.iload_n 2, 1) := by decide +kernel
theorem d_Se_join_50 : decode b_Se_join 50 = .ok (.iand, 1) := by decide +kernel
theorem d_Se_join_51 : decode b_Se_join 51 = .ok (.istore 5, 2) := by decide +kernel
theorem d_Se_join_53 : decode b_Se_join 53 = .ok (.goto (-35), 3) := by decide +kernel
theorem d_Se_join_56 : decode b_Se_join 56 = .ok (.aload_n 0, 1) := by decide +kernel
theorem d_Se_join_57 : decode b_Se_join 57 = .ok (.getfield 15, 3) := by decide +kernel
theorem d_Se_join_60 : decode b_Se_join 60 = .ok (.iload_n 2, 1) := by decide +kernel
theorem d_Se_join_61 : decode b_Se_join 61 = .ok (.lload_n 3, 1) := by decide +kernel
theorem d_Se_join_62 : decode b_Se_join 62 = .ok (.lastore, 1) := by decide +kernel
theorem d_Se_join_63 : decode b_Se_join 63 = .ok (.iinc 2 (-1), 3) := by decide +kernel
theorem d_Se_join_66 : decode b_Se_join 66 = .ok (.goto (-62), 3) := by decide +kernel
theorem d_Se_join_69 : decode b_Se_join 69 = .ok (.return_, 1) := by decide +kernel
theorem d_DS_whyNoPlan_0 : decode b_DS_whyNoPlan 0 = .ok (.iconst 0, 1) := by decide +kernel
theorem d_DS_whyNoPlan_1 : decode b_DS_whyNoPlan 1 = .ok (.istore_n 1, 1) := by decide +kernel
theorem d_DS_whyNoPlan_2 : decode b_DS_whyNoPlan 2 = .ok (.iload_n 1, 1) := by decide +kernel
theorem d_DS_whyNoPlan_3 : decode b_DS_whyNoPlan 3 = .ok (.aload_n 0, 1) := by decide +kernel
theorem d_DS_whyNoPlan_4 : decode b_DS_whyNoPlan 4 = .ok (.getfield 18, 3) := by decide +kernel
theorem d_DS_whyNoPlan_7 : decode b_DS_whyNoPlan 7 = .ok (.getfield 51, 3) := by decide +kernel
theorem d_DS_whyNoPlan_10 : decode b_DS_whyNoPlan 10 = .ok (.if_icmp .ge 36, 3) := by decide +kernel
theorem d_DS_whyNoPlan_13 : decode b_DS_whyNoPlan 13 = .ok (.aload_n 0, 1) := by decide +kernel
theorem d_DS_whyNoPlan_14 : decode b_DS_whyNoPlan 14 = .ok (.getfield 18, 3) := by decide +kernel
theorem d_DS_whyNoPlan_17 : decode b_DS_whyNoPlan 17 = .ok (.getfield 69, 3) := by decide +kernel
theorem d_DS_whyNoPlan_20 : decode b_DS_whyNoPlan 20 = .ok (.iload_n 1, 1) := by decide +kernel
theorem d_DS_whyNoPlan_21 : decode b_DS_whyNoPlan 21 = .ok (.baload, 1) := by decide +kernel
theorem d_DS_whyNoPlan_22 : decode b_DS_whyNoPlan 22 = .ok (.ifCond .eq 18, 3) := by decide +kernel
theorem d_DS_whyNoPlan_25 : decode b_DS_whyNoPlan 25 = .ok (.aload_n 0, 1) := by decide +kernel
theorem d_DS_whyNoPlan_26 : decode b_DS_whyNoPlan 26 = .ok (.getfield 18, 3) := by decide +kernel
theorem d_DS_whyNoPlan_29 : decode b_DS_whyNoPlan 29 = .ok (.getfield 73, 3) := by decide +kernel
theorem d_DS_whyNoPlan_32 : decode b_DS_whyNoPlan 32 = .ok (.iload_n 1, 1) := by decide +kernel
theorem d_DS_whyNoPlan_33 : decode b_DS_whyNoPlan 33 = .ok (.baload, 1) := by decide +kernel
theorem d_DS_whyNoPlan_34 : decode b_DS_whyNoPlan 34 = .ok (.ifCond .eq 6, 3) := by decide +kernel
theorem d_DS_whyNoPlan_37 : decode b_DS_whyNoPlan 37 = .ok (.bipush (-2), 2) := by decide +kernel
theorem d_DS_whyNoPlan_39 : decode b_DS_whyNoPlan 39 = .ok (.ireturn, 1) := by decide +kernel
theorem d_DS_whyNoPlan_40 : decode b_DS_whyNoPlan 40 = .ok (.iinc 1 1, 3) := by decide +kernel
theorem d_DS_whyNoPlan_43 : decode b_DS_whyNoPlan 43 = .ok (.goto (-41), 3) := by decide +kernel
theorem d_DS_whyNoPlan_46 : decode b_DS_whyNoPlan 46 = .ok (.iconst 0, 1) := by decide +kernel
theorem d_DS_whyNoPlan_47 : decode b_DS_whyNoPlan 47 = .ok (.istore_n 1, 1) := by decide +kernel
theorem d_DS_whyNoPlan_48 : decode b_DS_whyNoPlan 48 = .ok (.iload_n 1, 1) := by decide +kernel
theorem d_DS_whyNoPlan_49 : decode b_DS_whyNoPlan 49 = .ok (.aload_n 0, 1) := by decide +kernel
theorem d_DS_whyNoPlan_50 : decode b_DS_whyNoPlan 50 = .ok (.getfield 18, 3) := by decide +kernel
theorem d_DS_whyNoPlan_53 : decode b_DS_whyNoPlan 53 = .ok (.getfield 51, 3) := by decide +kernel
theorem d_DS_whyNoPlan_56 : decode b_DS_whyNoPlan 56 = .ok (.if_icmp .ge 44, 3) := by decide +kernel
theorem d_DS_whyNoPlan_59 : decode b_DS_whyNoPlan 59 = .ok (.aload_n 0, 1) := by decide +kernel
theorem d_DS_whyNoPlan_60 : decode b_DS_whyNoPlan 60 = .ok (.getfield 18, 3) := by decide +kernel
theorem d_DS_whyNoPlan_63 : decode b_DS_whyNoPlan 63 = .ok (.getfield 69, 3) := by decide +kernel
theorem d_DS_whyNoPlan_66 : decode b_DS_whyNoPlan 66 = .ok (.iload_n 1, 1) := by decide +kernel
theorem d_DS_whyNoPlan_67 : decode b_DS_whyNoPlan 67 = .ok (.baload, 1) := by decide +kernel
theorem d_DS_whyNoPlan_68 : decode b_DS_whyNoPlan 68 = .ok (.ifCond .eq 26, 3) := by decide +kernel
theorem d_DS_whyNoPlan_71 : decode b_DS_whyNoPlan 71 = .ok (.aload_n 0, 1) := by decide +kernel
theorem d_DS_whyNoPlan_72 : decode b_DS_whyNoPlan 72 = .ok (.getfield 18, 3) := by decide +kernel
theorem d_DS_whyNoPlan_75 : decode b_DS_whyNoPlan 75 = .ok (.aload_n 0, 1) := by decide +kernel
theorem d_DS_whyNoPlan_76 : decode b_DS_whyNoPlan 76 = .ok (.getfield 18, 3) := by decide +kernel
theorem d_DS_whyNoPlan_79 : decode b_DS_whyNoPlan 79 = .ok (.getfield 139, 3) := by decide +kernel
theorem d_DS_whyNoPlan_82 : decode b_DS_whyNoPlan 82 = .ok (.iload_n 1, 1) := by decide +kernel
theorem d_DS_whyNoPlan_83 : decode b_DS_whyNoPlan 83 = .ok (.iaload, 1) := by decide +kernel
theorem d_DS_whyNoPlan_84 : decode b_DS_whyNoPlan 84 = .ok (.iload_n 1, 1) := by decide +kernel
theorem d_DS_whyNoPlan_85 : decode b_DS_whyNoPlan 85 = .ok (.invokevirtual 155, 3) := by decide +kernel
theorem d_DS_whyNoPlan_88 : decode b_DS_whyNoPlan 88 = .ok (.ifCond .ne 6, 3) := by decide +kernel
theorem d_DS_whyNoPlan_91 : decode b_DS_whyNoPlan 91 = .ok (.bipush (-3), 2) := by decide +kernel
theorem d_DS_whyNoPlan_93 : decode b_DS_whyNoPlan 93 = .ok (.ireturn, 1) := by decide +kernel
theorem d_DS_whyNoPlan_94 : decode b_DS_whyNoPlan 94 = .ok (.iinc 1 1, 3) := by decide +kernel
theorem d_DS_whyNoPlan_97 : decode b_DS_whyNoPlan 97 = .ok (.goto (-49), 3) := by decide +kernel
theorem d_DS_whyNoPlan_100 : decode b_DS_whyNoPlan 100 = .ok (.bipush (-4), 2) := by decide +kernel
theorem d_DS_whyNoPlan_102 : decode b_DS_whyNoPlan 102 = .ok (.ireturn, 1) := by decide +kernel
theorem d_Sh_putLatest_0 : decode b_Sh_putLatest 0 = .ok (.aload_n 0, 1) := by decide +kernel
theorem d_Sh_putLatest_1 : decode b_Sh_putLatest 1 = .ok (.getfield 20, 3) := by decide +kernel
theorem d_Sh_putLatest_4 : decode b_Sh_putLatest 4 = .ok (.aload_n 0, 1) := by decide +kernel
theorem d_Sh_putLatest_5 : decode b_Sh_putLatest 5 = .ok (.getfield 11, 3) := by decide +kernel
theorem d_Sh_putLatest_8 : decode b_Sh_putLatest 8 = .ok (.arraylength, 1) := by decide +kernel
theorem d_Sh_putLatest_9 : decode b_Sh_putLatest 9 = .ok (.if_icmp .ne 64, 3) := by decide +kernel
theorem d_Sh_putLatest_12 : decode b_Sh_putLatest 12 = .ok (.iconst 1, 1) := by decide +kernel
theorem d_Sh_putLatest_13 : decode b_Sh_putLatest 13 = .ok (.istore_n 3, 1) := by decide +kernel
theorem d_Sh_putLatest_14 : decode b_Sh_putLatest 14 = .ok (.iload_n 3, 1) := by decide +kernel
theorem d_Sh_putLatest_15 : decode b_Sh_putLatest 15 = .ok (.aload_n 0, 1) := by decide +kernel
theorem d_Sh_putLatest_16 : decode b_Sh_putLatest 16 = .ok (.getfield 20, 3) := by decide +kernel
theorem d_Sh_putLatest_19 : decode b_Sh_putLatest 19 = .ok (.if_icmp .ge 44, 3) := by decide +kernel
theorem d_Sh_putLatest_22 : decode b_Sh_putLatest 22 = .ok (.aload_n 0, 1) := by decide +kernel
theorem d_Sh_putLatest_23 : decode b_Sh_putLatest 23 = .ok (.getfield 11, 3) := by decide +kernel
theorem d_Sh_putLatest_26 : decode b_Sh_putLatest 26 = .ok (.iload_n 3, 1) := by decide +kernel
theorem d_Sh_putLatest_27 : decode b_Sh_putLatest 27 = .ok (.aaload, 1) := by decide +kernel
theorem d_Sh_putLatest_28 : decode b_Sh_putLatest 28 = .ok (.iconst 0, 1) := by decide +kernel
theorem d_Sh_putLatest_29 : decode b_Sh_putLatest 29 = .ok (.aload_n 0, 1) := by decide +kernel
theorem d_Sh_putLatest_30 : decode b_Sh_putLatest 30 = .ok (.getfield 11, 3) := by decide +kernel
theorem d_Sh_putLatest_33 : decode b_Sh_putLatest 33 = .ok (.iload_n 3, 1) := by decide +kernel
theorem d_Sh_putLatest_34 : decode b_Sh_putLatest 34 = .ok (.iconst 1, 1) := by decide +kernel
theorem d_Sh_putLatest_35 : decode b_Sh_putLatest 35 = .ok (.isub, 1) := by decide +kernel
theorem d_Sh_putLatest_36 : decode b_Sh_putLatest 36 = .ok (.aaload, 1) := by decide +kernel
theorem d_Sh_putLatest_37 : decode b_Sh_putLatest 37 = .ok (.iconst 0, 1) := by decide +kernel
theorem d_Sh_putLatest_38 : decode b_Sh_putLatest 38 = .ok (.bipush 8, 2) := by decide +kernel
theorem d_Sh_putLatest_40 : decode b_Sh_putLatest 40 = .ok (.invokestatic 24, 3) := by decide +kernel
theorem d_Sh_putLatest_43 : decode b_Sh_putLatest 43 = .ok (.aload_n 0, 1) := by decide +kernel
theorem d_Sh_putLatest_44 : decode b_Sh_putLatest 44 = .ok (.getfield 16, 3) := by decide +kernel
theorem d_Sh_putLatest_47 : decode b_Sh_putLatest 47 = .ok (.iload_n 3, 1) := by decide +kernel
theorem d_Sh_putLatest_48 : decode b_Sh_putLatest 48 = .ok (.iconst 1, 1) := by decide +kernel
theorem d_Sh_putLatest_49 : decode b_Sh_putLatest 49 = .ok (.isub, 1) := by decide +kernel
theorem d_Sh_putLatest_50 : decode b_Sh_putLatest 50 = .ok (.aload_n 0, 1) := by decide +kernel
theorem d_Sh_putLatest_51 : decode b_Sh_putLatest 51 = .ok (.getfield 16, 3) := by decide +kernel
theorem d_Sh_putLatest_54 : decode b_Sh_putLatest 54 = .ok (.iload_n 3, 1) := by decide +kernel
theorem d_Sh_putLatest_55 : decode b_Sh_putLatest 55 = .ok (.iaload, 1) := by decide +kernel
theorem d_Sh_putLatest_56 : decode b_Sh_putLatest 56 = .ok (.iastore, 1) := by decide +kernel
theorem d_Sh_putLatest_57 : decode b_Sh_putLatest 57 = .ok (.iinc 3 1, 3) := by decide +kernel
theorem d_Sh_putLatest_60 : decode b_Sh_putLatest 60 = .ok (.goto (-46), 3) := by decide +kernel
theorem d_Sh_putLatest_63 : decode b_Sh_putLatest 63 = .ok (.aload_n 0, 1) := by decide +kernel
theorem d_Sh_putLatest_64 : decode b_Sh_putLatest 64 = .ok (.dup, 1) := by decide +kernel
theorem d_Sh_putLatest_65 : decode b_Sh_putLatest 65 = .ok (.getfield 20, 3) := by decide +kernel
theorem d_Sh_putLatest_68 : decode b_Sh_putLatest 68 = .ok (.iconst 1, 1) := by decide +kernel
theorem d_Sh_putLatest_69 : decode b_Sh_putLatest 69 = .ok (.isub, 1) := by decide +kernel
theorem d_Sh_putLatest_70 : decode b_Sh_putLatest 70 = .ok (.putfield 20, 3) := by decide +kernel
theorem d_Sh_putLatest_73 : decode b_Sh_putLatest 73 = .ok (.aload_n 1, 1) := by decide +kernel
theorem d_Sh_putLatest_74 : decode b_Sh_putLatest 74 = .ok (.iconst 0, 1) := by decide +kernel
theorem d_Sh_putLatest_75 : decode b_Sh_putLatest 75 = .ok (.aload_n 0, 1) := by decide +kernel
theorem d_Sh_putLatest_76 : decode b_Sh_putLatest 76 = .ok (.getfield 11, 3) := by decide +kernel
theorem d_Sh_putLatest_79 : decode b_Sh_putLatest 79 = .ok (.aload_n 0, 1) := by decide +kernel
theorem d_Sh_putLatest_80 : decode b_Sh_putLatest 80 = .ok (.getfield 20, 3) := by decide +kernel
theorem d_Sh_putLatest_83 : decode b_Sh_putLatest 83 = .ok (.aaload, 1) := by decide +kernel
theorem d_Sh_putLatest_84 : decode b_Sh_putLatest 84 = .ok (.iconst 0, 1) := by decide +kernel
theorem d_Sh_putLatest_85 : decode b_Sh_putLatest 85 = .ok (.bipush 8, 2) := by decide +kernel
theorem d_Sh_putLatest_87 : decode b_Sh_putLatest 87 = .ok (.invokestatic 24, 3) := by decide +kernel
theorem d_Sh_putLatest_90 : decode b_Sh_putLatest 90 = .ok (.aload_n 0, 1) := by decide +kernel
theorem d_Sh_putLatest_91 : decode b_Sh_putLatest 91 = .ok (.getfield 16, 3) := by decide +kernel
theorem d_Sh_putLatest_94 : decode b_Sh_putLatest 94 = .ok (.aload_n 0, 1) := by decide +kernel
theorem d_Sh_putLatest_95 : decode b_Sh_putLatest 95 = .ok (.getfield 20, 3) := by decide +kernel
theorem d_Sh_putLatest_98 : decode b_Sh_putLatest 98 = .ok (.iload_n 2, 1) := by decide +kernel
theorem d_Sh_putLatest_99 : decode b_Sh_putLatest 99 = .ok (.iastore, 1) := by decide +kernel
theorem d_Sh_putLatest_100 : decode b_Sh_putLatest 100 = .ok (.aload_n 0, 1) := by decide +kernel
theorem d_Sh_putLatest_101 : decode b_Sh_putLatest 101 = .ok (.dup, 1) := by decide +kernel
theorem d_Sh_putLatest_102 : decode b_Sh_putLatest 102 = .ok (.getfield 20, 3) := by decide +kernel
theorem d_Sh_putLatest_105 : decode b_Sh_putLatest 105 = .ok (.iconst 1, 1) := by decide +kernel
theorem d_Sh_putLatest_106 : decode b_Sh_putLatest 106 = .ok (.iadd, 1) := by decide +kernel
theorem d_Sh_putLatest_107 : decode b_Sh_putLatest 107 = .ok (.putfield 20, 3) := by decide +kernel
theorem d_Sh_putLatest_110 : decode b_Sh_putLatest 110 = .ok (.return_, 1) := by decide +kernel
theorem d_Se_vehicleIn_0 : decode b_Se_vehicleIn 0 = .ok (.lload_n 0, 1) := by decide +kernel
theorem d_Se_vehicleIn_1 : decode b_Se_vehicleIn 1 = .ok (.iload_n 2, 1) := by decide +kernel
theorem d_Se_vehicleIn_2 : decode b_Se_vehicleIn 2 = .ok (.invokestatic 54, 3) := by decide +kernel
theorem d_Se_vehicleIn_5 : decode b_Se_vehicleIn 5 = .ok (.lshr, 1) := by decide +kernel
theorem d_Se_vehicleIn_6 : decode b_Se_vehicleIn 6 = .ok (.l2i, 1) := by decide +kernel
theorem d_Se_vehicleIn_7 : decode b_Se_vehicleIn 7 = .ok (.iconst 3, 1) := by decide +kernel
theorem d_Se_vehicleIn_8 : decode b_Se_vehicleIn 8 = .ok (.iand, 1) := by decide +kernel
theorem d_Se_vehicleIn_9 : decode b_Se_vehicleIn 9 = .ok (.ireturn, 1) := by decide +kernel
theorem d_DS_movedSet_0 : decode b_DS_movedSet 0 = .ok (.iconst 0, 1) := by decide +kernel
theorem d_DS_movedSet_1 : decode b_DS_movedSet 1 = .ok (.istore_n 1, 1) := by decide +kernel
theorem d_DS_movedSet_2 : decode b_DS_movedSet 2 = .ok (.iconst 0, 1) := by decide +kernel
theorem d_DS_movedSet_3 : decode b_DS_movedSet 3 = .ok (.istore_n 2, 1) := by decide +kernel
theorem d_DS_movedSet_4 : decode b_DS_movedSet 4 = .ok (.iload_n 2, 1) := by decide +kernel
theorem d_DS_movedSet_5 : decode b_DS_movedSet 5 = .ok (.aload_n 0, 1) := by decide +kernel
theorem d_DS_movedSet_6 : decode b_DS_movedSet 6 = .ok (.getfield 18, 3) := by decide +kernel
theorem d_DS_movedSet_9 : decode b_DS_movedSet 9 = .ok (.getfield 51, 3) := by decide +kernel
theorem d_DS_movedSet_12 : decode b_DS_movedSet 12 = .ok (.if_icmp .ge 33, 3) := by decide +kernel
theorem d_DS_movedSet_15 : decode b_DS_movedSet 15 = .ok (.aload_n 0, 1) := by decide +kernel
theorem d_DS_movedSet_16 : decode b_DS_movedSet 16 = .ok (.getfield 41, 3) := by decide +kernel
theorem d_DS_movedSet_19 : decode b_DS_movedSet 19 = .ok (.iload_n 2, 1) := by decide +kernel
theorem d_DS_movedSet_20 : decode b_DS_movedSet 20 = .ok (.iaload, 1) := by decide +kernel
theorem d_DS_movedSet_21 : decode b_DS_movedSet 21 = .ok (.aload_n 0, 1) := by decide +kernel
theorem d_DS_movedSet_22 : decode b_DS_movedSet 22 = .ok (.getfield 18, 3) := by decide +kernel
theorem d_DS_movedSet_25 : decode b_DS_movedSet 25 = .ok (.getfield 139, 3) := by decide +kernel
theorem d_DS_movedSet_28 : decode b_DS_movedSet 28 = .ok (.iload_n 2, 1) := by decide +kernel
theorem d_DS_movedSet_29 : decode b_DS_movedSet 29 = .ok (.iaload, 1) := by decide +kernel
theorem d_DS_movedSet_30 : decode b_DS_movedSet 30 = .ok (.if_icmp .eq 9, 3) := by decide +kernel
theorem d_DS_movedSet_33 : decode b_DS_movedSet 33 = .ok (.iload_n 1, 1) := by decide +kernel
theorem d_DS_movedSet_34 : decode b_DS_movedSet 34 = .ok (.iconst 1, 1) := by decide +kernel
theorem d_DS_movedSet_35 : decode b_DS_movedSet 35 = .ok (.iload_n 2, 1) := by decide +kernel
theorem d_DS_movedSet_36 : decode b_DS_movedSet 36 = .ok (.ishl, 1) := by decide +kernel
theorem d_DS_movedSet_37 : decode b_DS_movedSet 37 = .ok (.ior, 1) := by decide +kernel
theorem d_DS_movedSet_38 : decode b_DS_movedSet 38 = .ok (.istore_n 1, 1) := by decide +kernel
theorem d_DS_movedSet_39 : decode b_DS_movedSet 39 = .ok (.iinc 2 1, 3) := by decide +kernel
theorem d_DS_movedSet_42 : decode b_DS_movedSet 42 = .ok (.goto (-38), 3) := by decide +kernel
theorem d_DS_movedSet_45 : decode b_DS_movedSet 45 = .ok (.iload_n 1, 1) := by decide +kernel
theorem d_DS_movedSet_46 : decode b_DS_movedSet 46 = .ok (.ireturn, 1) := by decide +kernel
theorem d_In_bitCount_0 : decode b_In_bitCount 0 = .ok (.iload_n 0, 1) := by decide +kernel
theorem d_In_bitCount_1 : decode b_In_bitCount 1 = .ok (.iload_n 0, 1) := by decide +kernel
theorem d_In_bitCount_2 : decode b_In_bitCount 2 = .ok (.iconst 1, 1) := by decide +kernel
theorem d_In_bitCount_3 : decode b_In_bitCount 3 = .ok (.iushr, 1) := by decide +kernel
theorem d_In_bitCount_4 : decode b_In_bitCount 4 = .ok (.ldc_w 265, 3) := by decide +kernel
end
section
theorem d_In_bitCount_7 : decode b_In_bitCount 7 = .ok (.iand, 1) := by decide +kernel
theorem d_In_bitCount_8 : decode b_In_bitCount 8 = .ok (.isub, 1) := by decide +kernel
theorem d_In_bitCount_9 : decode b_In_bitCount 9 = .ok (.istore_n 0, 1) := by decide +kernel
theorem d_In_bitCount_10 : decode b_In_bitCount 10 = .ok (.iload_n 0, 1) := by decide +kernel
theorem d_In_bitCount_11 : decode b_In_bitCount 11 = .ok (.ldc_w 266, 3) := by decide +kernel
theorem d_In_bitCount_14 : decode b_In_bitCount 14 = .ok (.iand, 1) := by decide +kernel
theorem d_In_bitCount_15 : decode b_In_bitCount 15 = .ok (.iload_n 0, 1) := by decide +kernel
theorem d_In_bitCount_16 : decode b_In_bitCount 16 = .ok (.iconst 2, 1) := by decide +kernel
theorem d_In_bitCount_17 : decode b_In_bitCount 17 = .ok (.iushr, 1) := by decide +kernel
theorem d_In_bitCount_18 : decode b_In_bitCount 18 = .ok (.ldc_w 266, 3) := by decide +kernel
theorem d_In_bitCount_21 : decode b_In_bitCount 21 = .ok (.iand, 1) := by decide +kernel
theorem d_In_bitCount_22 : decode b_In_bitCount 22 = .ok (.iadd, 1) := by decide +kernel
theorem d_In_bitCount_23 : decode b_In_bitCount 23 = .ok (.istore_n 0, 1) := by decide +kernel
theorem d_In_bitCount_24 : decode b_In_bitCount 24 = .ok (.iload_n 0, 1) := by decide +kernel
theorem d_In_bitCount_25 : decode b_In_bitCount 25 = .ok (.iload_n 0, 1) := by decide +kernel
theorem d_In_bitCount_26 : decode b_In_bitCount 26 = .ok (.iconst 4, 1) := by decide +kernel
theorem d_In_bitCount_27 : decode b_In_bitCount 27 = .ok (.iushr, 1) := by decide +kernel
theorem d_In_bitCount_28 : decode b_In_bitCount 28 = .ok (.iadd, 1) := by decide +kernel
theorem d_In_bitCount_29 : decode b_In_bitCount 29 = .ok (.ldc_w 267, 3) := by decide +kernel
theorem d_In_bitCount_32 : decode b_In_bitCount 32 = .ok (.iand, 1) := by decide +kernel
theorem d_In_bitCount_33 : decode b_In_bitCount 33 = .ok (.istore_n 0, 1) := by decide +kernel
theorem d_In_bitCount_34 : decode b_In_bitCount 34 = .ok (.iload_n 0, 1) := by decide +kernel
theorem d_In_bitCount_35 : decode b_In_bitCount 35 = .ok (.iload_n 0, 1) := by decide +kernel
theorem d_In_bitCount_36 : decode b_In_bitCount 36 = .ok (.bipush 8, 2) := by decide +kernel
theorem d_In_bitCount_38 : decode b_In_bitCount 38 = .ok (.iushr, 1) := by decide +kernel
theorem d_In_bitCount_39 : decode b_In_bitCount 39 = .ok (.iadd, 1) := by decide +kernel
theorem d_In_bitCount_40 : decode b_In_bitCount 40 = .ok (.istore_n 0, 1) := by decide +kernel
theorem d_In_bitCount_41 : decode b_In_bitCount 41 = .ok (.iload_n 0, 1) := by decide +kernel
theorem d_In_bitCount_42 : decode b_In_bitCount 42 = .ok (.iload_n 0, 1) := by decide +kernel
theorem d_In_bitCount_43 : decode b_In_bitCount 43 = .ok (.bipush 16, 2) := by decide +kernel
theorem d_In_bitCount_45 : decode b_In_bitCount 45 = .ok (.iushr, 1) := by decide +kernel
theorem d_In_bitCount_46 : decode b_In_bitCount 46 = .ok (.iadd, 1) := by decide +kernel
theorem d_In_bitCount_47 : decode b_In_bitCount 47 = .ok (.istore_n 0, 1) := by decide +kernel
theorem d_In_bitCount_48 : decode b_In_bitCount 48 = .ok (.iload_n 0, 1) := by decide +kernel
theorem d_In_bitCount_49 : decode b_In_bitCount 49 = .ok (.bipush 63, 2) := by decide +kernel
theorem d_In_bitCount_51 : decode b_In_bitCount 51 = .ok (.iand, 1) := by decide +kernel
theorem d_In_bitCount_52 : decode b_In_bitCount 52 = .ok (.ireturn, 1) := by decide +kernel
theorem d_DS_vehicleOf_0 : decode b_DS_vehicleOf 0 = .ok (.aload_n 0, 1) := by decide +kernel
theorem d_DS_vehicleOf_1 : decode b_DS_vehicleOf 1 = .ok (.getfield 18, 3) := by decide +kernel
theorem d_DS_vehicleOf_4 : decode b_DS_vehicleOf 4 = .ok (.iload_n 1, 1) := by decide +kernel
theorem d_DS_vehicleOf_5 : decode b_DS_vehicleOf 5 = .ok (.invokevirtual 66, 3) := by decide +kernel
theorem d_DS_vehicleOf_8 : decode b_DS_vehicleOf 8 = .ok (.ifCond .eq 12, 3) := by decide +kernel
theorem d_DS_vehicleOf_11 : decode b_DS_vehicleOf 11 = .ok (.aload_n 0, 1) := by decide +kernel
theorem d_DS_vehicleOf_12 : decode b_DS_vehicleOf 12 = .ok (.getfield 41, 3) := by decide +kernel
theorem d_DS_vehicleOf_15 : decode b_DS_vehicleOf 15 = .ok (.iload_n 1, 1) := by decide +kernel
theorem d_DS_vehicleOf_16 : decode b_DS_vehicleOf 16 = .ok (.iaload, 1) := by decide +kernel
theorem d_DS_vehicleOf_17 : decode b_DS_vehicleOf 17 = .ok (.goto 4, 3) := by decide +kernel
theorem d_DS_vehicleOf_20 : decode b_DS_vehicleOf 20 = .ok (.iconst (-1), 1) := by decide +kernel
theorem d_DS_vehicleOf_21 : decode b_DS_vehicleOf 21 = .ok (.ireturn, 1) := by decide +kernel
theorem d_DS_place_0 : decode b_DS_place 0 = .ok (.aload_n 0, 1) := by decide +kernel
theorem d_DS_place_1 : decode b_DS_place 1 = .ok (.getfield 18, 3) := by decide +kernel
theorem d_DS_place_4 : decode b_DS_place 4 = .ok (.iload_n 1, 1) := by decide +kernel
theorem d_DS_place_5 : decode b_DS_place 5 = .ok (.invokevirtual 66, 3) := by decide +kernel
theorem d_DS_place_8 : decode b_DS_place 8 = .ok (.ifCond .eq 19, 3) := by decide +kernel
theorem d_DS_place_11 : decode b_DS_place 11 = .ok (.aload_n 0, 1) := by decide +kernel
theorem d_DS_place_12 : decode b_DS_place 12 = .ok (.getfield 18, 3) := by decide +kernel
theorem d_DS_place_15 : decode b_DS_place 15 = .ok (.aload_n 0, 1) := by decide +kernel
theorem d_DS_place_16 : decode b_DS_place 16 = .ok (.getfield 41, 3) := by decide +kernel
theorem d_DS_place_19 : decode b_DS_place 19 = .ok (.iload_n 1, 1) := by decide +kernel
theorem d_DS_place_20 : decode b_DS_place 20 = .ok (.iaload, 1) := by decide +kernel
theorem d_DS_place_21 : decode b_DS_place 21 = .ok (.invokevirtual 55, 3) := by decide +kernel
theorem d_DS_place_24 : decode b_DS_place 24 = .ok (.ifCond .ne 5, 3) := by decide +kernel
theorem d_DS_place_27 : decode b_DS_place 27 = .ok (.iconst (-1), 1) := by decide +kernel
theorem d_DS_place_28 : decode b_DS_place 28 = .ok (.ireturn, 1) := by decide +kernel
theorem d_DS_place_29 : decode b_DS_place 29 = .ok (.aload_n 0, 1) := by decide +kernel
theorem d_DS_place_30 : decode b_DS_place 30 = .ok (.getfield 18, 3) := by decide +kernel
theorem d_DS_place_33 : decode b_DS_place 33 = .ok (.iload_n 1, 1) := by decide +kernel
theorem d_DS_place_34 : decode b_DS_place 34 = .ok (.aload_n 0, 1) := by decide +kernel
theorem d_DS_place_35 : decode b_DS_place 35 = .ok (.getfield 41, 3) := by decide +kernel
theorem d_DS_place_38 : decode b_DS_place 38 = .ok (.iload_n 1, 1) := by decide +kernel
theorem d_DS_place_39 : decode b_DS_place 39 = .ok (.iaload, 1) := by decide +kernel
theorem d_DS_place_40 : decode b_DS_place 40 = .ok (.aload_n 0, 1) := by decide +kernel
theorem d_DS_place_41 : decode b_DS_place 41 = .ok (.aload_n 0, 1) := by decide +kernel
theorem d_DS_place_42 : decode b_DS_place 42 = .ok (.getfield 41, 3) := by decide +kernel
theorem d_DS_place_45 : decode b_DS_place 45 = .ok (.iload_n 1, 1) := by decide +kernel
theorem d_DS_place_46 : decode b_DS_place 46 = .ok (.iaload, 1) := by decide +kernel
theorem d_DS_place_47 : decode b_DS_place 47 = .ok (.invokevirtual 117, 3) := by decide +kernel
theorem d_DS_place_50 : decode b_DS_place 50 = .ok (.invokevirtual 120, 3) := by decide +kernel
theorem d_DS_place_53 : decode b_DS_place 53 = .ok (.ireturn, 1) := by decide +kernel
theorem d_DS_setOf_0 : decode b_DS_setOf 0 = .ok (.iconst 0, 1) := by decide +kernel
theorem d_DS_setOf_1 : decode b_DS_setOf 1 = .ok (.istore_n 2, 1) := by decide +kernel
theorem d_DS_setOf_2 : decode b_DS_setOf 2 = .ok (.iconst 0, 1) := by decide +kernel
theorem d_DS_setOf_3 : decode b_DS_setOf 3 = .ok (.istore_n 3, 1) := by decide +kernel
theorem d_DS_setOf_4 : decode b_DS_setOf 4 = .ok (.iload_n 3, 1) := by decide +kernel
theorem d_DS_setOf_5 : decode b_DS_setOf 5 = .ok (.aload_n 0, 1) := by decide +kernel
theorem d_DS_setOf_6 : decode b_DS_setOf 6 = .ok (.getfield 18, 3) := by decide +kernel
theorem d_DS_setOf_9 : decode b_DS_setOf 9 = .ok (.getfield 51, 3) := by decide +kernel
theorem d_DS_setOf_12 : decode b_DS_setOf 12 = .ok (.if_icmp .ge 25, 3) := by decide +kernel
theorem d_DS_setOf_15 : decode b_DS_setOf 15 = .ok (.aload_n 0, 1) := by decide +kernel
theorem d_DS_setOf_16 : decode b_DS_setOf 16 = .ok (.getfield 41, 3) := by decide +kernel
theorem d_DS_setOf_19 : decode b_DS_setOf 19 = .ok (.iload_n 3, 1) := by decide +kernel
theorem d_DS_setOf_20 : decode b_DS_setOf 20 = .ok (.iaload, 1) := by decide +kernel
theorem d_DS_setOf_21 : decode b_DS_setOf 21 = .ok (.iload_n 1, 1) := by decide +kernel
theorem d_DS_setOf_22 : decode b_DS_setOf 22 = .ok (.if_icmp .ne 9, 3) := by decide +kernel
theorem d_DS_setOf_25 : decode b_DS_setOf 25 = .ok (.iload_n 2, 1) := by decide +kernel
theorem d_DS_setOf_26 : decode b_DS_setOf 26 = .ok (.iconst 1, 1) := by decide +kernel
theorem d_DS_setOf_27 : decode b_DS_setOf 27 = .ok (.iload_n 3, 1) := by decide +kernel
theorem d_DS_setOf_28 : decode b_DS_setOf 28 = .ok (.ishl, 1) := by decide +kernel
theorem d_DS_setOf_29 : decode b_DS_setOf 29 = .ok (.ior, 1) := by decide +kernel
theorem d_DS_setOf_30 : decode b_DS_setOf 30 = .ok (.istore_n 2, 1) := by decide +kernel
theorem d_DS_setOf_31 : decode b_DS_setOf 31 = .ok (.iinc 3 1, 3) := by decide +kernel
theorem d_DS_setOf_34 : decode b_DS_setOf 34 = .ok (.goto (-30), 3) := by decide +kernel
theorem d_DS_setOf_37 : decode b_DS_setOf 37 = .ok (.iload_n 2, 1) := by decide +kernel
theorem d_DS_setOf_38 : decode b_DS_setOf 38 = .ok (.ireturn, 1) := by decide +kernel
theorem d_Day_placeInRound_0 : decode b_Day_placeInRound 0 = .ok (.aload_n 0, 1) := by decide +kernel
theorem d_Day_placeInRound_1 : decode b_Day_placeInRound 1 = .ok (.iload_n 2, 1) := by decide +kernel
theorem d_Day_placeInRound_2 : decode b_Day_placeInRound 2 = .ok (.iload_n 3, 1) := by decide +kernel
theorem d_Day_placeInRound_3 : decode b_Day_placeInRound 3 = .ok (.aload_n 0, 1) := by decide +kernel
theorem d_Day_placeInRound_4 : decode b_Day_placeInRound 4 = .ok (.getfield 54, 3) := by decide +kernel
theorem d_Day_placeInRound_7 : decode b_Day_placeInRound 7 = .ok (.iconst 0, 1) := by decide +kernel
theorem d_Day_placeInRound_8 : decode b_Day_placeInRound 8 = .ok (.invokevirtual 85, 3) := by decide +kernel
theorem d_Day_placeInRound_11 : decode b_Day_placeInRound 11 = .ok (.istore 4, 2) := by decide +kernel
theorem d_Day_placeInRound_13 : decode b_Day_placeInRound 13 = .ok (.iconst 0, 1) := by decide +kernel
theorem d_Day_placeInRound_14 : decode b_Day_placeInRound 14 = .ok (.istore 5, 2) := by decide +kernel
theorem d_Day_placeInRound_16 : decode b_Day_placeInRound 16 = .ok (.iload 5, 2) := by decide +kernel
theorem d_Day_placeInRound_18 : decode b_Day_placeInRound 18 = .ok (.iload 4, 2) := by decide +kernel
theorem d_Day_placeInRound_20 : decode b_Day_placeInRound 20 = .ok (.if_icmp .ge 23, 3) := by decide +kernel
theorem d_Day_placeInRound_23 : decode b_Day_placeInRound 23 = .ok (.aload_n 0, 1) := by decide +kernel
theorem d_Day_placeInRound_24 : decode b_Day_placeInRound 24 = .ok (.getfield 54, 3) := by decide +kernel
theorem d_Day_placeInRound_27 : decode b_Day_placeInRound 27 = .ok (.iload 5, 2) := by decide +kernel
theorem d_Day_placeInRound_29 : decode b_Day_placeInRound 29 = .ok (.iaload, 1) := by decide +kernel
theorem d_Day_placeInRound_30 : decode b_Day_placeInRound 30 = .ok (.iload_n 1, 1) := by decide +kernel
theorem d_Day_placeInRound_31 : decode b_Day_placeInRound 31 = .ok (.if_icmp .ne 6, 3) := by decide +kernel
theorem d_Day_placeInRound_34 : decode b_Day_placeInRound 34 = .ok (.iload 5, 2) := by decide +kernel
theorem d_Day_placeInRound_36 : decode b_Day_placeInRound 36 = .ok (.ireturn, 1) := by decide +kernel
theorem d_Day_placeInRound_37 : decode b_Day_placeInRound 37 = .ok (.iinc 5 1, 3) := by decide +kernel
theorem d_Day_placeInRound_40 : decode b_Day_placeInRound 40 = .ok (.goto (-24), 3) := by decide +kernel
theorem d_Day_placeInRound_43 : decode b_Day_placeInRound 43 = .ok (.iconst (-1), 1) := by decide +kernel
theorem d_Day_placeInRound_44 : decode b_Day_placeInRound 44 = .ok (.ireturn, 1) := by decide +kernel
theorem d_DS_moved_0 : decode b_DS_moved 0 = .ok (.aload_n 0, 1) := by decide +kernel
theorem d_DS_moved_1 : decode b_DS_moved 1 = .ok (.invokevirtual 108, 3) := by decide +kernel
theorem d_DS_moved_4 : decode b_DS_moved 4 = .ok (.iload_n 1, 1) := by decide +kernel
theorem d_DS_moved_5 : decode b_DS_moved 5 = .ok (.invokestatic 123, 3) := by decide +kernel
theorem d_DS_moved_8 : decode b_DS_moved 8 = .ok (.ireturn, 1) := by decide +kernel
theorem d_DS_stopAt_0 : decode b_DS_stopAt 0 = .ok (.iconst 0, 1) := by decide +kernel
theorem d_DS_stopAt_1 : decode b_DS_stopAt 1 = .ok (.istore_n 2, 1) := by decide +kernel
theorem d_DS_stopAt_2 : decode b_DS_stopAt 2 = .ok (.iconst 0, 1) := by decide +kernel
theorem d_DS_stopAt_3 : decode b_DS_stopAt 3 = .ok (.istore_n 3, 1) := by decide +kernel
theorem d_DS_stopAt_4 : decode b_DS_stopAt 4 = .ok (.iload_n 3, 1) := by decide +kernel
theorem d_DS_stopAt_5 : decode b_DS_stopAt 5 = .ok (.bipush 8, 2) := by decide +kernel
theorem d_DS_stopAt_7 : decode b_DS_stopAt 7 = .ok (.if_icmp .ge 27, 3) := by decide +kernel
theorem d_DS_stopAt_10 : decode b_DS_stopAt 10 = .ok (.iload_n 0, 1) := by decide +kernel
theorem d_DS_stopAt_11 : decode b_DS_stopAt 11 = .ok (.iload_n 3, 1) := by decide +kernel
theorem d_DS_stopAt_12 : decode b_DS_stopAt 12 = .ok (.invokestatic 159, 3) := by decide +kernel
theorem d_DS_stopAt_15 : decode b_DS_stopAt 15 = .ok (.ifCond .eq 13, 3) := by decide +kernel
theorem d_DS_stopAt_18 : decode b_DS_stopAt 18 = .ok (.iload_n 2, 1) := by decide +kernel
theorem d_DS_stopAt_19 : decode b_DS_stopAt 19 = .ok (.iload_n 1, 1) := by decide +kernel
theorem d_DS_stopAt_20 : decode b_DS_stopAt 20 = .ok (.if_icmp .ne 5, 3) := by decide +kernel
theorem d_DS_stopAt_23 : decode b_DS_stopAt 23 = .ok (.iload_n 3, 1) := by decide +kernel
theorem d_DS_stopAt_24 : decode b_DS_stopAt 24 = .ok (.ireturn, 1) := by decide +kernel
theorem d_DS_stopAt_25 : decode b_DS_stopAt 25 = .ok (.iinc 2 1, 3) := by decide +kernel
theorem d_DS_stopAt_28 : decode b_DS_stopAt 28 = .ok (.iinc 3 1, 3) := by decide +kernel
theorem d_DS_stopAt_31 : decode b_DS_stopAt 31 = .ok (.goto (-27), 3) := by decide +kernel
theorem d_DS_stopAt_34 : decode b_DS_stopAt 34 = .ok (.iconst (-1), 1) := by decide +kernel
theorem d_DS_stopAt_35 : decode b_DS_stopAt 35 = .ok (.ireturn, 1) := by decide +kernel
theorem d_DS_carried_0 : decode b_DS_carried 0 = .ok (.aload_n 0, 1) := by decide +kernel
theorem d_DS_carried_1 : decode b_DS_carried 1 = .ok (.aload_n 0, 1) := by decide +kernel
theorem d_DS_carried_2 : decode b_DS_carried 2 = .ok (.getfield 18, 3) := by decide +kernel
theorem d_DS_carried_5 : decode b_DS_carried 5 = .ok (.getfield 127, 3) := by decide +kernel
theorem d_DS_carried_8 : decode b_DS_carried 8 = .ok (.invokevirtual 117, 3) := by decide +kernel
theorem d_DS_carried_11 : decode b_DS_carried 11 = .ok (.iload_n 1, 1) := by decide +kernel
theorem d_DS_carried_12 : decode b_DS_carried 12 = .ok (.invokestatic 123, 3) := by decide +kernel
theorem d_DS_carried_15 : decode b_DS_carried 15 = .ok (.ireturn, 1) := by decide +kernel
theorem d_DS_send_0 : decode b_DS_send 0 = .ok (.iconst 0, 1) := by decide +kernel
theorem d_DS_send_1 : decode b_DS_send 1 = .ok (.istore_n 1, 1) := by decide +kernel
theorem d_DS_send_2 : decode b_DS_send 2 = .ok (.iconst 0, 1) := by decide +kernel
theorem d_DS_send_3 : decode b_DS_send 3 = .ok (.istore_n 2, 1) := by decide +kernel
theorem d_DS_send_4 : decode b_DS_send 4 = .ok (.iload_n 2, 1) := by decide +kernel
theorem d_DS_send_5 : decode b_DS_send 5 = .ok (.aload_n 0, 1) := by decide +kernel
theorem d_DS_send_6 : decode b_DS_send 6 = .ok (.getfield 18, 3) := by decide +kernel
theorem d_DS_send_9 : decode b_DS_send 9 = .ok (.getfield 51, 3) := by decide +kernel
theorem d_DS_send_12 : decode b_DS_send 12 = .ok (.if_icmp .ge 49, 3) := by decide +kernel
theorem d_DS_send_15 : decode b_DS_send 15 = .ok (.aload_n 0, 1) := by decide +kernel
theorem d_DS_send_16 : decode b_DS_send 16 = .ok (.getfield 41, 3) := by decide +kernel
theorem d_DS_send_19 : decode b_DS_send 19 = .ok (.iload_n 2, 1) := by decide +kernel
theorem d_DS_send_20 : decode b_DS_send 20 = .ok (.iaload, 1) := by decide +kernel
theorem d_DS_send_21 : decode b_DS_send 21 = .ok (.aload_n 0, 1) := by decide +kernel
theorem d_DS_send_22 : decode b_DS_send 22 = .ok (.getfield 45, 3) := by decide +kernel
theorem d_DS_send_25 : decode b_DS_send 25 = .ok (.iload_n 2, 1) := by decide +kernel
theorem d_DS_send_26 : decode b_DS_send 26 = .ok (.iaload, 1) := by decide +kernel
theorem d_DS_send_27 : decode b_DS_send 27 = .ok (.if_icmp .eq 28, 3) := by decide +kernel
theorem d_DS_send_30 : decode b_DS_send 30 = .ok (.aload_n 0, 1) := by decide +kernel
theorem d_DS_send_31 : decode b_DS_send 31 = .ok (.getfield 45, 3) := by decide +kernel
theorem d_DS_send_34 : decode b_DS_send 34 = .ok (.iload_n 2, 1) := by decide +kernel
theorem d_DS_send_35 : decode b_DS_send 35 = .ok (.aload_n 0, 1) := by decide +kernel
theorem d_DS_send_36 : decode b_DS_send 36 = .ok (.getfield 41, 3) := by decide +kernel
theorem d_DS_send_39 : decode b_DS_send 39 = .ok (.iload_n 2, 1) := by decide +kernel
theorem d_DS_send_40 : decode b_DS_send 40 = .ok (.iaload, 1) := by decide +kernel
theorem d_DS_send_41 : decode b_DS_send 41 = .ok (.iastore, 1) := by decide +kernel
theorem d_DS_send_42 : decode b_DS_send 42 = .ok (.aload_n 0, 1) := by decide +kernel
theorem d_DS_send_43 : decode b_DS_send 43 = .ok (.getfield 48, 3) := by decide +kernel
theorem d_DS_send_46 : decode b_DS_send 46 = .ok (.iload_n 2, 1) := by decide +kernel
theorem d_DS_send_47 : decode b_DS_send 47 = .ok (.dup2, 1) := by decide +kernel
theorem d_DS_send_48 : decode b_DS_send 48 = .ok (.iaload, 1) := by decide +kernel
theorem d_DS_send_49 : decode b_DS_send 49 = .ok (.iconst 1, 1) := by decide +kernel
theorem d_DS_send_50 : decode b_DS_send 50 = .ok (.iadd, 1) := by decide +kernel
theorem d_DS_send_51 : decode b_DS_send 51 = .ok (.iastore, 1) := by decide +kernel
theorem d_DS_send_52 : decode b_DS_send 52 = .ok (.iinc 1 1, 3) := by decide +kernel
theorem d_DS_send_55 : decode b_DS_send 55 = .ok (.iinc 2 1, 3) := by decide +kernel
theorem d_DS_send_58 : decode b_DS_send 58 = .ok (.goto (-54), 3) := by decide +kernel
theorem d_DS_send_61 : decode b_DS_send 61 = .ok (.iload_n 1, 1) := by decide +kernel
theorem d_DS_send_62 : decode b_DS_send 62 = .ok (.ireturn, 1) := by decide +kernel
theorem d_DS_sent_0 : decode b_DS_sent 0 = .ok (.aload_n 0, 1) := by decide +kernel
theorem d_DS_sent_1 : decode b_DS_sent 1 = .ok (.getfield 18, 3) := by decide +kernel
theorem d_DS_sent_4 : decode b_DS_sent 4 = .ok (.iload_n 1, 1) := by decide +kernel
theorem d_DS_sent_5 : decode b_DS_sent 5 = .ok (.invokevirtual 66, 3) := by decide +kernel
theorem d_DS_sent_8 : decode b_DS_sent 8 = .ok (.ifCond .eq 12, 3) := by decide +kernel
theorem d_DS_sent_11 : decode b_DS_sent 11 = .ok (.aload_n 0, 1) := by decide +kernel
theorem d_DS_sent_12 : decode b_DS_sent 12 = .ok (.getfield 48, 3) := by decide +kernel
theorem d_DS_sent_15 : decode b_DS_sent 15 = .ok (.iload_n 1, 1) := by decide +kernel
theorem d_DS_sent_16 : decode b_DS_sent 16 = .ok (.iaload, 1) := by decide +kernel
theorem d_DS_sent_17 : decode b_DS_sent 17 = .ok (.goto 4, 3) := by decide +kernel
theorem d_DS_sent_20 : decode b_DS_sent 20 = .ok (.iconst (-1), 1) := by decide +kernel
theorem d_DS_sent_21 : decode b_DS_sent 21 = .ok (.ireturn, 1) := by decide +kernel
theorem d_DS_undo_0 : decode b_DS_undo 0 = .ok (.aload_n 0, 1) := by decide +kernel
theorem d_DS_undo_1 : decode b_DS_undo 1 = .ok (.getfield 34, 3) := by decide +kernel
theorem d_DS_undo_4 : decode b_DS_undo 4 = .ok (.getfield 130, 3) := by decide +kernel
theorem d_DS_undo_7 : decode b_DS_undo 7 = .ok (.ifCond .ne 5, 3) := by decide +kernel
theorem d_DS_undo_10 : decode b_DS_undo 10 = .ok (.iconst 0, 1) := by decide +kernel
theorem d_DS_undo_11 : decode b_DS_undo 11 = .ok (.ireturn, 1) := by decide +kernel
theorem d_DS_undo_12 : decode b_DS_undo 12 = .ok (.aload_n 0, 1) := by decide +kernel
theorem d_DS_undo_13 : decode b_DS_undo 13 = .ok (.getfield 34, 3) := by decide +kernel
theorem d_DS_undo_16 : decode b_DS_undo 16 = .ok (.getfield 130, 3) := by decide +kernel
theorem d_DS_undo_19 : decode b_DS_undo 19 = .ok (.iconst 1, 1) := by decide +kernel
theorem d_DS_undo_20 : decode b_DS_undo 20 = .ok (.isub, 1) := by decide +kernel
theorem d_DS_undo_21 : decode b_DS_undo 21 = .ok (.istore_n 1, 1) := by decide +kernel
theorem d_DS_undo_22 : decode b_DS_undo 22 = .ok (.iconst 0, 1) := by decide +kernel
theorem d_DS_undo_23 : decode b_DS_undo 23 = .ok (.istore_n 2, 1) := by decide +kernel
theorem d_DS_undo_24 : decode b_DS_undo 24 = .ok (.iload_n 2, 1) := by decide +kernel
theorem d_DS_undo_25 : decode b_DS_undo 25 = .ok (.aload_n 0, 1) := by decide +kernel
theorem d_DS_undo_26 : decode b_DS_undo 26 = .ok (.getfield 18, 3) := by decide +kernel
theorem d_DS_undo_29 : decode b_DS_undo 29 = .ok (.getfield 51, 3) := by decide +kernel
theorem d_DS_undo_32 : decode b_DS_undo 32 = .ok (.if_icmp .ge 61, 3) := by decide +kernel
theorem d_DS_undo_35 : decode b_DS_undo 35 = .ok (.iload_n 2, 1) := by decide +kernel
theorem d_DS_undo_36 : decode b_DS_undo 36 = .ok (.aload_n 0, 1) := by decide +kernel
theorem d_DS_undo_37 : decode b_DS_undo 37 = .ok (.getfield 34, 3) := by decide +kernel
theorem d_DS_undo_40 : decode b_DS_undo 40 = .ok (.getfield 133, 3) := by decide +kernel
theorem d_DS_undo_43 : decode b_DS_undo 43 = .ok (.iload_n 1, 1) := by decide +kernel
theorem d_DS_undo_44 : decode b_DS_undo 44 = .ok (.iaload, 1) := by decide +kernel
theorem d_DS_undo_45 : decode b_DS_undo 45 = .ok (.if_icmp .ge 7, 3) := by decide +kernel
theorem d_DS_undo_48 : decode b_DS_undo 48 = .ok (.iconst 1, 1) := by decide +kernel
theorem d_DS_undo_49 : decode b_DS_undo 49 = .ok (.goto 4, 3) := by decide +kernel
theorem d_DS_undo_52 : decode b_DS_undo 52 = .ok (.iconst 0, 1) := by decide +kernel
theorem d_DS_undo_53 : decode b_DS_undo 53 = .ok (.istore_n 3, 1) := by decide +kernel
theorem d_DS_undo_54 : decode b_DS_undo 54 = .ok (.aload_n 0, 1) := by decide +kernel
theorem d_DS_undo_55 : decode b_DS_undo 55 = .ok (.getfield 41, 3) := by decide +kernel
theorem d_DS_undo_58 : decode b_DS_undo 58 = .ok (.iload_n 2, 1) := by decide +kernel
theorem d_DS_undo_59 : decode b_DS_undo 59 = .ok (.iload_n 3, 1) := by decide +kernel
theorem d_DS_undo_60 : decode b_DS_undo 60 = .ok (.ifCond .eq 17, 3) := by decide +kernel
theorem d_DS_undo_63 : decode b_DS_undo 63 = .ok (.aload_n 0, 1) := by decide +kernel
theorem d_DS_undo_64 : decode b_DS_undo 64 = .ok (.getfield 34, 3) := by decide +kernel
theorem d_DS_undo_67 : decode b_DS_undo 67 = .ok (.getfield 136, 3) := by decide +kernel
theorem d_DS_undo_70 : decode b_DS_undo 70 = .ok (.iload_n 1, 1) := by decide +kernel
theorem d_DS_undo_71 : decode b_DS_undo 71 = .ok (.aaload, 1) := by decide +kernel
theorem d_DS_undo_72 : decode b_DS_undo 72 = .ok (.iload_n 2, 1) := by decide +kernel
theorem d_DS_undo_73 : decode b_DS_undo 73 = .ok (.iaload, 1) := by decide +kernel
theorem d_DS_undo_74 : decode b_DS_undo 74 = .ok (.goto 12, 3) := by decide +kernel
theorem d_DS_undo_77 : decode b_DS_undo 77 = .ok (.aload_n 0, 1) := by decide +kernel
theorem d_DS_undo_78 : decode b_DS_undo 78 = .ok (.getfield 18, 3) := by decide +kernel
theorem d_DS_undo_81 : decode b_DS_undo 81 = .ok (.getfield 139, 3) := by decide +kernel
theorem d_DS_undo_84 : decode b_DS_undo 84 = .ok (.iload_n 2, 1) := by decide +kernel
theorem d_DS_undo_85 : decode b_DS_undo 85 = .ok (.iaload, 1) := by decide +kernel
theorem d_DS_undo_86 : decode b_DS_undo 86 = .ok (.iastore, 1) := by decide +kernel
theorem d_DS_undo_87 : decode b_DS_undo 87 = .ok (.iinc 2 1, 3) := by decide +kernel
theorem d_DS_undo_90 : decode b_DS_undo 90 = .ok (.goto (-66), 3) := by decide +kernel
theorem d_DS_undo_93 : decode b_DS_undo 93 = .ok (.aload_n 0, 1) := by decide +kernel
theorem d_DS_undo_94 : decode b_DS_undo 94 = .ok (.getfield 34, 3) := by decide +kernel
theorem d_DS_undo_97 : decode b_DS_undo 97 = .ok (.iload_n 1, 1) := by decide +kernel
theorem d_DS_undo_98 : decode b_DS_undo 98 = .ok (.putfield 130, 3) := by decide +kernel
theorem d_DS_undo_101 : decode b_DS_undo 101 = .ok (.iconst 1, 1) := by decide +kernel
theorem d_DS_undo_102 : decode b_DS_undo 102 = .ok (.ireturn, 1) := by decide +kernel
theorem d_DS_copy_0 : decode b_DS_copy 0 = .ok (.aload_n 0, 1) := by decide +kernel
theorem d_DS_copy_1 : decode b_DS_copy 1 = .ok (.getfield 38, 3) := by decide +kernel
theorem d_DS_copy_4 : decode b_DS_copy 4 = .ok (.getfield 130, 3) := by decide +kernel
theorem d_DS_copy_7 : decode b_DS_copy 7 = .ok (.iconst 4, 1) := by decide +kernel
theorem d_DS_copy_8 : decode b_DS_copy 8 = .ok (.if_icmp .lt 5, 3) := by decide +kernel
theorem d_DS_copy_11 : decode b_DS_copy 11 = .ok (.iconst (-1), 1) := by decide +kernel
theorem d_DS_copy_12 : decode b_DS_copy 12 = .ok (.ireturn, 1) := by decide +kernel
theorem d_DS_copy_13 : decode b_DS_copy 13 = .ok (.aload_n 0, 1) := by decide +kernel
theorem d_DS_copy_14 : decode b_DS_copy 14 = .ok (.getfield 38, 3) := by decide +kernel
theorem d_DS_copy_17 : decode b_DS_copy 17 = .ok (.aload_n 0, 1) := by decide +kernel
theorem d_DS_copy_18 : decode b_DS_copy 18 = .ok (.getfield 41, 3) := by decide +kernel
theorem d_DS_copy_21 : decode b_DS_copy 21 = .ok (.aload_n 0, 1) := by decide +kernel
theorem d_DS_copy_22 : decode b_DS_copy 22 = .ok (.getfield 18, 3) := by decide +kernel
theorem d_DS_copy_25 : decode b_DS_copy 25 = .ok (.getfield 51, 3) := by decide +kernel
theorem d_DS_copy_28 : decode b_DS_copy 28 = .ok (.invokevirtual 100, 3) := by decide +kernel
theorem d_DS_copy_31 : decode b_DS_copy 31 = .ok (.aload_n 0, 1) := by decide +kernel
theorem d_DS_copy_32 : decode b_DS_copy 32 = .ok (.getfield 38, 3) := by decide +kernel
theorem d_DS_copy_35 : decode b_DS_copy 35 = .ok (.getfield 130, 3) := by decide +kernel
theorem d_DS_copy_38 : decode b_DS_copy 38 = .ok (.iconst 1, 1) := by decide +kernel
theorem d_DS_copy_39 : decode b_DS_copy 39 = .ok (.isub, 1) := by decide +kernel
theorem d_DS_copy_40 : decode b_DS_copy 40 = .ok (.ireturn, 1) := by decide +kernel
theorem d_DS_compare_0 : decode b_DS_compare 0 = .ok (.iload_n 1, 1) := by decide +kernel
theorem d_DS_compare_1 : decode b_DS_compare 1 = .ok (.iconst 0, 1) := by decide +kernel
theorem d_DS_compare_2 : decode b_DS_compare 2 = .ok (.aload_n 0, 1) := by decide +kernel
theorem d_DS_compare_3 : decode b_DS_compare 3 = .ok (.getfield 38, 3) := by decide +kernel
theorem d_DS_compare_6 : decode b_DS_compare 6 = .ok (.getfield 130, 3) := by decide +kernel
theorem d_DS_compare_9 : decode b_DS_compare 9 = .ok (.iconst 1, 1) := by decide +kernel
theorem d_DS_compare_10 : decode b_DS_compare 10 = .ok (.isub, 1) := by decide +kernel
theorem d_DS_compare_11 : decode b_DS_compare 11 = .ok (.invokestatic 11, 3) := by decide +kernel
theorem d_DS_compare_14 : decode b_DS_compare 14 = .ok (.ifCond .ne 5, 3) := by decide +kernel
theorem d_DS_compare_17 : decode b_DS_compare 17 = .ok (.iconst (-1), 1) := by decide +kernel
theorem d_DS_compare_18 : decode b_DS_compare 18 = .ok (.ireturn, 1) := by decide +kernel
theorem d_DS_compare_19 : decode b_DS_compare 19 = .ok (.iconst 0, 1) := by decide +kernel
theorem d_DS_compare_20 : decode b_DS_compare 20 = .ok (.istore_n 3, 1) := by decide +kernel
theorem d_DS_compare_21 : decode b_DS_compare 21 = .ok (.iconst 0, 1) := by decide +kernel
theorem d_DS_compare_22 : decode b_DS_compare 22 = .ok (.istore 4, 2) := by decide +kernel
theorem d_DS_compare_24 : decode b_DS_compare 24 = .ok (.iload 4, 2) := by decide +kernel
theorem d_DS_compare_26 : decode b_DS_compare 26 = .ok (.aload_n 0, 1) := by decide +kernel
theorem d_DS_compare_27 : decode b_DS_compare 27 = .ok (.getfield 38, 3) := by decide +kernel
theorem d_DS_compare_30 : decode b_DS_compare 30 = .ok (.getfield 133, 3) := by decide +kernel
theorem d_DS_compare_33 : decode b_DS_compare 33 = .ok (.iload_n 1, 1) := by decide +kernel
theorem d_DS_compare_34 : decode b_DS_compare 34 = .ok (.iaload, 1) := by decide +kernel
theorem d_DS_compare_35 : decode b_DS_compare 35 = .ok (.if_icmp .ge 38, 3) := by decide +kernel
theorem d_DS_compare_38 : decode b_DS_compare 38 = .ok (.aload_n 0, 1) := by decide +kernel
theorem d_DS_compare_39 : decode b_DS_compare 39 = .ok (.getfield 38, 3) := by decide +kernel
theorem d_DS_compare_42 : decode b_DS_compare 42 = .ok (.getfield 136, 3) := by decide +kernel
theorem d_DS_compare_45 : decode b_DS_compare 45 = .ok (.iload_n 1, 1) := by decide +kernel
theorem d_DS_compare_46 : decode b_DS_compare 46 = .ok (.aaload, 1) := by decide +kernel
theorem d_DS_compare_47 : decode b_DS_compare 47 = .ok (.iload 4, 2) := by decide +kernel
theorem d_DS_compare_49 : decode b_DS_compare 49 = .ok (.iaload, 1) := by decide +kernel
theorem d_DS_compare_50 : decode b_DS_compare 50 = .ok (.aload_n 0, 1) := by decide +kernel
theorem d_DS_compare_51 : decode b_DS_compare 51 = .ok (.getfield 41, 3) := by decide +kernel
theorem d_DS_compare_54 : decode b_DS_compare 54 = .ok (.iload 4, 2) := by decide +kernel
theorem d_DS_compare_56 : decode b_DS_compare 56 = .ok (.iaload, 1) := by decide +kernel
theorem d_DS_compare_57 : decode b_DS_compare 57 = .ok (.if_icmp .eq 10, 3) := by decide +kernel
theorem d_DS_compare_60 : decode b_DS_compare 60 = .ok (.iload_n 3, 1) := by decide +kernel
theorem d_DS_compare_61 : decode b_DS_compare 61 = .ok (.iconst 1, 1) := by decide +kernel
theorem d_DS_compare_62 : decode b_DS_compare 62 = .ok (.iload 4, 2) := by decide +kernel
theorem d_DS_compare_64 : decode b_DS_compare 64 = .ok (.ishl, 1) := by decide +kernel
theorem d_DS_compare_65 : decode b_DS_compare 65 = .ok (.ior, 1) := by decide +kernel
theorem d_DS_compare_66 : decode b_DS_compare 66 = .ok (.istore_n 3, 1) := by decide +kernel
theorem d_DS_compare_67 : decode b_DS_compare 67 = .ok (.iinc 4 1, 3) := by decide +kernel
theorem d_DS_compare_70 : decode b_DS_compare 70 = .ok (.goto (-46), 3) := by decide +kernel
theorem d_DS_compare_73 : decode b_DS_compare 73 = .ok (.iload_n 3, 1) := by decide +kernel
theorem d_DS_compare_74 : decode b_DS_compare 74 = .ok (.iload_n 2, 1) := by decide +kernel
theorem d_DS_compare_75 : decode b_DS_compare 75 = .ok (.invokestatic 123, 3) := by decide +kernel
theorem d_DS_compare_78 : decode b_DS_compare 78 = .ok (.ireturn, 1) := by decide +kernel
theorem d_DS_cost_0 : decode b_DS_cost 0 = .ok (.lconst 0, 1) := by decide +kernel
theorem d_DS_cost_1 : decode b_DS_cost 1 = .ok (.lstore_n 1, 1) := by decide +kernel
theorem d_DS_cost_2 : decode b_DS_cost 2 = .ok (.iconst 0, 1) := by decide +kernel
theorem d_DS_cost_3 : decode b_DS_cost 3 = .ok (.istore_n 3, 1) := by decide +kernel
theorem d_DS_cost_4 : decode b_DS_cost 4 = .ok (.iload_n 3, 1) := by decide +kernel
theorem d_DS_cost_5 : decode b_DS_cost 5 = .ok (.aload_n 0, 1) := by decide +kernel
theorem d_DS_cost_6 : decode b_DS_cost 6 = .ok (.getfield 18, 3) := by decide +kernel
theorem d_DS_cost_9 : decode b_DS_cost 9 = .ok (.getfield 127, 3) := by decide +kernel
theorem d_DS_cost_12 : decode b_DS_cost 12 = .ok (.if_icmp .ge 41, 3) := by decide +kernel
theorem d_DS_cost_15 : decode b_DS_cost 15 = .ok (.aload_n 0, 1) := by decide +kernel
theorem d_DS_cost_16 : decode b_DS_cost 16 = .ok (.getfield 18, 3) := by decide +kernel
theorem d_DS_cost_19 : decode b_DS_cost 19 = .ok (.iload_n 3, 1) := by decide +kernel
theorem d_DS_cost_20 : decode b_DS_cost 20 = .ok (.aload_n 0, 1) := by decide +kernel
theorem d_DS_cost_21 : decode b_DS_cost 21 = .ok (.iload_n 3, 1) := by decide +kernel
theorem d_DS_cost_22 : decode b_DS_cost 22 = .ok (.invokevirtual 117, 3) := by decide +kernel
theorem d_DS_cost_25 : decode b_DS_cost 25 = .ok (.invokevirtual 142, 3) := by decide +kernel
theorem d_DS_cost_28 : decode b_DS_cost 28 = .ok (.istore 4, 2) := by decide +kernel
theorem d_DS_cost_30 : decode b_DS_cost 30 = .ok (.lload_n 1, 1) := by decide +kernel
theorem d_DS_cost_31 : decode b_DS_cost 31 = .ok (.iload 4, 2) := by decide +kernel
theorem d_DS_cost_33 : decode b_DS_cost 33 = .ok (.aload_n 0, 1) := by decide +kernel
theorem d_DS_cost_34 : decode b_DS_cost 34 = .ok (.getfield 18, 3) := by decide +kernel
theorem d_DS_cost_37 : decode b_DS_cost 37 = .ok (.iload_n 3, 1) := by decide +kernel
theorem d_DS_cost_38 : decode b_DS_cost 38 = .ok (.iload 4, 2) := by decide +kernel
theorem d_DS_cost_40 : decode b_DS_cost 40 = .ok (.invokevirtual 145, 3) := by decide +kernel
theorem d_DS_cost_43 : decode b_DS_cost 43 = .ok (.iadd, 1) := by decide +kernel
theorem d_DS_cost_44 : decode b_DS_cost 44 = .ok (.i2l, 1) := by decide +kernel
theorem d_DS_cost_45 : decode b_DS_cost 45 = .ok (.ladd, 1) := by decide +kernel
theorem d_DS_cost_46 : decode b_DS_cost 46 = .ok (.lstore_n 1, 1) := by decide +kernel
theorem d_DS_cost_47 : decode b_DS_cost 47 = .ok (.iinc 3 1, 3) := by decide +kernel
theorem d_DS_cost_50 : decode b_DS_cost 50 = .ok (.goto (-46), 3) := by decide +kernel
theorem d_DS_cost_53 : decode b_DS_cost 53 = .ok (.lload_n 1, 1) := by decide +kernel
theorem d_DS_cost_54 : decode b_DS_cost 54 = .ok (.lreturn, 1) := by decide +kernel
theorem d_DS_overtime_0 : decode b_DS_overtime 0 = .ok (.aload_n 0, 1) := by decide +kernel
theorem d_DS_overtime_1 : decode b_DS_overtime 1 = .ok (.getfield 18, 3) := by decide +kernel
theorem d_DS_overtime_4 : decode b_DS_overtime 4 = .ok (.iload_n 1, 1) := by decide +kernel
theorem d_DS_overtime_5 : decode b_DS_overtime 5 = .ok (.invokevirtual 55, 3) := by decide +kernel
theorem d_DS_overtime_8 : decode b_DS_overtime 8 = .ok (.ifCond .ne 5, 3) := by decide +kernel
theorem d_DS_overtime_11 : decode b_DS_overtime 11 = .ok (.iconst (-1), 1) := by decide +kernel
theorem d_DS_overtime_12 : decode b_DS_overtime 12 = .ok (.ireturn, 1) := by decide +kernel
theorem d_DS_overtime_13 : decode b_DS_overtime 13 = .ok (.aload_n 0, 1) := by decide +kernel
theorem d_DS_overtime_14 : decode b_DS_overtime 14 = .ok (.getfield 18, 3) := by decide +kernel
theorem d_DS_overtime_17 : decode b_DS_overtime 17 = .ok (.iload_n 1, 1) := by decide +kernel
theorem d_DS_overtime_18 : decode b_DS_overtime 18 = .ok (.aload_n 0, 1) := by decide +kernel
theorem d_DS_overtime_19 : decode b_DS_overtime 19 = .ok (.getfield 18, 3) := by decide +kernel
theorem d_DS_overtime_22 : decode b_DS_overtime 22 = .ok (.iload_n 1, 1) := by decide +kernel
theorem d_DS_overtime_23 : decode b_DS_overtime 23 = .ok (.aload_n 0, 1) := by decide +kernel
theorem d_DS_overtime_24 : decode b_DS_overtime 24 = .ok (.iload_n 1, 1) := by decide +kernel
theorem d_DS_overtime_25 : decode b_DS_overtime 25 = .ok (.invokevirtual 117, 3) := by decide +kernel
theorem d_DS_overtime_28 : decode b_DS_overtime 28 = .ok (.invokevirtual 142, 3) := by decide +kernel
theorem d_DS_overtime_31 : decode b_DS_overtime 31 = .ok (.invokevirtual 145, 3) := by decide +kernel
theorem d_DS_overtime_34 : decode b_DS_overtime 34 = .ok (.ireturn, 1) := by decide +kernel
theorem d_DS_next_0 : decode b_DS_next 0 = .ok (.aload_n 0, 1) := by decide +kernel
theorem d_DS_next_1 : decode b_DS_next 1 = .ok (.aload_n 0, 1) := by decide +kernel
theorem d_DS_next_2 : decode b_DS_next 2 = .ok (.getfield 18, 3) := by decide +kernel
theorem d_DS_next_5 : decode b_DS_next 5 = .ok (.getfield 127, 3) := by decide +kernel
theorem d_DS_next_8 : decode b_DS_next 8 = .ok (.invokevirtual 117, 3) := by decide +kernel
theorem d_DS_next_11 : decode b_DS_next 11 = .ok (.invokestatic 111, 3) := by decide +kernel
theorem d_DS_next_14 : decode b_DS_next 14 = .ok (.istore_n 1, 1) := by decide +kernel
theorem d_DS_next_15 : decode b_DS_next 15 = .ok (.iconst 0, 1) := by decide +kernel
theorem d_DS_next_16 : decode b_DS_next 16 = .ok (.istore_n 2, 1) := by decide +kernel
theorem d_DS_next_17 : decode b_DS_next 17 = .ok (.iload_n 2, 1) := by decide +kernel
theorem d_DS_next_18 : decode b_DS_next 18 = .ok (.aload_n 0, 1) := by decide +kernel
theorem d_DS_next_19 : decode b_DS_next 19 = .ok (.getfield 18, 3) := by decide +kernel
theorem d_DS_next_22 : decode b_DS_next 22 = .ok (.getfield 127, 3) := by decide +kernel
theorem d_DS_next_25 : decode b_DS_next 25 = .ok (.if_icmp .ge 33, 3) := by decide +kernel
theorem d_DS_next_28 : decode b_DS_next 28 = .ok (.aload_n 0, 1) := by decide +kernel
theorem d_DS_next_29 : decode b_DS_next 29 = .ok (.getfield 18, 3) := by decide +kernel
theorem d_DS_next_32 : decode b_DS_next 32 = .ok (.iload_n 2, 1) := by decide +kernel
theorem d_DS_next_33 : decode b_DS_next 33 = .ok (.aload_n 0, 1) := by decide +kernel
theorem d_DS_next_34 : decode b_DS_next 34 = .ok (.aload_n 0, 1) := by decide +kernel
theorem d_DS_next_35 : decode b_DS_next 35 = .ok (.getfield 18, 3) := by decide +kernel
theorem d_DS_next_38 : decode b_DS_next 38 = .ok (.getfield 127, 3) := by decide +kernel
theorem d_DS_next_41 : decode b_DS_next 41 = .ok (.invokevirtual 117, 3) := by decide +kernel
theorem d_DS_next_44 : decode b_DS_next 44 = .ok (.aload_n 0, 1) := by decide +kernel
theorem d_DS_next_45 : decode b_DS_next 45 = .ok (.iload_n 2, 1) := by decide +kernel
theorem d_DS_next_46 : decode b_DS_next 46 = .ok (.invokevirtual 117, 3) := by decide +kernel
theorem d_DS_next_49 : decode b_DS_next 49 = .ok (.invokevirtual 148, 3) := by decide +kernel
theorem d_DS_next_52 : decode b_DS_next 52 = .ok (.iinc 2 1, 3) := by decide +kernel
theorem d_DS_next_55 : decode b_DS_next 55 = .ok (.goto (-38), 3) := by decide +kernel
theorem d_DS_next_58 : decode b_DS_next 58 = .ok (.aload_n 0, 1) := by decide +kernel
theorem d_DS_next_59 : decode b_DS_next 59 = .ok (.getfield 18, 3) := by decide +kernel
theorem d_DS_next_62 : decode b_DS_next 62 = .ok (.invokevirtual 152, 3) := by decide +kernel
theorem d_DS_next_65 : decode b_DS_next 65 = .ok (.iconst 0, 1) := by decide +kernel
theorem d_DS_next_66 : decode b_DS_next 66 = .ok (.istore_n 2, 1) := by decide +kernel
theorem d_DS_next_67 : decode b_DS_next 67 = .ok (.iload_n 2, 1) := by decide +kernel
theorem d_DS_next_68 : decode b_DS_next 68 = .ok (.aload_n 0, 1) := by decide +kernel
theorem d_DS_next_69 : decode b_DS_next 69 = .ok (.getfield 18, 3) := by decide +kernel
theorem d_DS_next_72 : decode b_DS_next 72 = .ok (.getfield 51, 3) := by decide +kernel
theorem d_DS_next_75 : decode b_DS_next 75 = .ok (.if_icmp .ge 24, 3) := by decide +kernel
theorem d_DS_next_78 : decode b_DS_next 78 = .ok (.aload_n 0, 1) := by decide +kernel
theorem d_DS_next_79 : decode b_DS_next 79 = .ok (.getfield 41, 3) := by decide +kernel
theorem d_DS_next_82 : decode b_DS_next 82 = .ok (.iload_n 2, 1) := by decide +kernel
theorem d_DS_next_83 : decode b_DS_next 83 = .ok (.aload_n 0, 1) := by decide +kernel
theorem d_DS_next_84 : decode b_DS_next 84 = .ok (.getfield 18, 3) := by decide +kernel
theorem d_DS_next_87 : decode b_DS_next 87 = .ok (.getfield 139, 3) := by decide +kernel
theorem d_DS_next_90 : decode b_DS_next 90 = .ok (.iload_n 2, 1) := by decide +kernel
theorem d_DS_next_91 : decode b_DS_next 91 = .ok (.iaload, 1) := by decide +kernel
theorem d_DS_next_92 : decode b_DS_next 92 = .ok (.iastore, 1) := by decide +kernel
theorem d_DS_next_93 : decode b_DS_next 93 = .ok (.iinc 2 1, 3) := by decide +kernel
theorem d_DS_next_96 : decode b_DS_next 96 = .ok (.goto (-29), 3) := by decide +kernel
theorem d_DS_next_99 : decode b_DS_next 99 = .ok (.aload_n 0, 1) := by decide +kernel
theorem d_DS_next_100 : decode b_DS_next 100 = .ok (.getfield 34, 3) := by decide +kernel
theorem d_DS_next_103 : decode b_DS_next 103 = .ok (.iconst 0, 1) := by decide +kernel
theorem d_DS_next_104 : decode b_DS_next 104 = .ok (.putfield 130, 3) := by decide +kernel
theorem d_DS_next_107 : decode b_DS_next 107 = .ok (.aload_n 0, 1) := by decide +kernel
theorem d_DS_next_108 : decode b_DS_next 108 = .ok (.getfield 38, 3) := by decide +kernel
theorem d_DS_next_111 : decode b_DS_next 111 = .ok (.iconst 0, 1) := by decide +kernel
theorem d_DS_next_112 : decode b_DS_next 112 = .ok (.putfield 130, 3) := by decide +kernel
theorem d_DS_next_115 : decode b_DS_next 115 = .ok (.iload_n 1, 1) := by decide +kernel
theorem d_DS_next_116 : decode b_DS_next 116 = .ok (.ireturn, 1) := by decide +kernel
theorem d_Day_prepareRow_0 : decode b_Day_prepareRow 0 = .ok (.iconst 0, 1) := by decide +kernel
theorem d_Day_prepareRow_1 : decode b_Day_prepareRow 1 = .ok (.istore 4, 2) := by decide +kernel
theorem d_Day_prepareRow_3 : decode b_Day_prepareRow 3 = .ok (.iconst 0, 1) := by decide +kernel
theorem d_Day_prepareRow_4 : decode b_Day_prepareRow 4 = .ok (.istore 5, 2) := by decide +kernel
theorem d_Day_prepareRow_6 : decode b_Day_prepareRow 6 = .ok (.iload 5, 2) := by decide +kernel
theorem d_Day_prepareRow_8 : decode b_Day_prepareRow 8 = .ok (.aload_n 0, 1) := by decide +kernel
theorem d_Day_prepareRow_9 : decode b_Day_prepareRow 9 = .ok (.getfield 71, 3) := by decide +kernel
theorem d_Day_prepareRow_12 : decode b_Day_prepareRow 12 = .ok (.if_icmp .ge 43, 3) := by decide +kernel
theorem d_Day_prepareRow_15 : decode b_Day_prepareRow 15 = .ok (.iload_n 2, 1) := by decide +kernel
theorem d_Day_prepareRow_16 : decode b_Day_prepareRow 16 = .ok (.iload 5, 2) := by decide +kernel
theorem d_Day_prepareRow_18 : decode b_Day_prepareRow 18 = .ok (.invokestatic 82, 3) := by decide +kernel
theorem d_Day_prepareRow_21 : decode b_Day_prepareRow 21 = .ok (.ifCond .eq 28, 3) := by decide +kernel
theorem d_Day_prepareRow_24 : decode b_Day_prepareRow 24 = .ok (.aload_n 0, 1) := by decide +kernel
theorem d_Day_prepareRow_25 : decode b_Day_prepareRow 25 = .ok (.getfield 18, 3) := by decide +kernel
theorem d_Day_prepareRow_28 : decode b_Day_prepareRow 28 = .ok (.iload 5, 2) := by decide +kernel
theorem d_Day_prepareRow_30 : decode b_Day_prepareRow 30 = .ok (.iaload, 1) := by decide +kernel
theorem d_Day_prepareRow_31 : decode b_Day_prepareRow 31 = .ok (.iload_n 1, 1) := by decide +kernel
theorem d_Day_prepareRow_32 : decode b_Day_prepareRow 32 = .ok (.if_icmp .ne 17, 3) := by decide +kernel
theorem d_Day_prepareRow_35 : decode b_Day_prepareRow 35 = .ok (.aload_n 0, 1) := by decide +kernel
theorem d_Day_prepareRow_36 : decode b_Day_prepareRow 36 = .ok (.getfield 39, 3) := by decide +kernel
theorem d_Day_prepareRow_39 : decode b_Day_prepareRow 39 = .ok (.iload_n 1, 1) := by decide +kernel
theorem d_Day_prepareRow_40 : decode b_Day_prepareRow 40 = .ok (.aaload, 1) := by decide +kernel
theorem d_Day_prepareRow_41 : decode b_Day_prepareRow 41 = .ok (.iload 4, 2) := by decide +kernel
theorem d_Day_prepareRow_43 : decode b_Day_prepareRow 43 = .ok (.iinc 4 1, 3) := by decide +kernel
theorem d_Day_prepareRow_46 : decode b_Day_prepareRow 46 = .ok (.iload 5, 2) := by decide +kernel
theorem d_Day_prepareRow_48 : decode b_Day_prepareRow 48 = .ok (.iastore, 1) := by decide +kernel
theorem d_Day_prepareRow_49 : decode b_Day_prepareRow 49 = .ok (.iinc 5 1, 3) := by decide +kernel
theorem d_Day_prepareRow_52 : decode b_Day_prepareRow 52 = .ok (.goto (-46), 3) := by decide +kernel
theorem d_Day_prepareRow_55 : decode b_Day_prepareRow 55 = .ok (.aload_n 0, 1) := by decide +kernel
theorem d_Day_prepareRow_56 : decode b_Day_prepareRow 56 = .ok (.getfield 42, 3) := by decide +kernel
theorem d_Day_prepareRow_59 : decode b_Day_prepareRow 59 = .ok (.iload_n 1, 1) := by decide +kernel
theorem d_Day_prepareRow_60 : decode b_Day_prepareRow 60 = .ok (.aload_n 0, 1) := by decide +kernel
theorem d_Day_prepareRow_61 : decode b_Day_prepareRow 61 = .ok (.iload_n 1, 1) := by decide +kernel
theorem d_Day_prepareRow_62 : decode b_Day_prepareRow 62 = .ok (.iload_n 3, 1) := by decide +kernel
theorem d_Day_prepareRow_63 : decode b_Day_prepareRow 63 = .ok (.aload_n 0, 1) := by decide +kernel
theorem d_Day_prepareRow_64 : decode b_Day_prepareRow 64 = .ok (.getfield 39, 3) := by decide +kernel
theorem d_Day_prepareRow_67 : decode b_Day_prepareRow 67 = .ok (.iload_n 1, 1) := by decide +kernel
theorem d_Day_prepareRow_68 : decode b_Day_prepareRow 68 = .ok (.aaload, 1) := by decide +kernel
theorem d_Day_prepareRow_69 : decode b_Day_prepareRow 69 = .ok (.iload 4, 2) := by decide +kernel
theorem d_Day_prepareRow_71 : decode b_Day_prepareRow 71 = .ok (.invokevirtual 85, 3) := by decide +kernel
theorem d_Day_prepareRow_74 : decode b_Day_prepareRow 74 = .ok (.iastore, 1) := by decide +kernel
theorem d_Day_prepareRow_75 : decode b_Day_prepareRow 75 = .ok (.return_, 1) := by decide +kernel
theorem d_Day_turn_0 : decode b_Day_turn 0 = .ok (.iconst 0, 1) := by decide +kernel
theorem d_Day_turn_1 : decode b_Day_turn 1 = .ok (.istore_n 1, 1) := by decide +kernel
theorem d_Day_turn_2 : decode b_Day_turn 2 = .ok (.iload_n 1, 1) := by decide +kernel
theorem d_Day_turn_3 : decode b_Day_turn 3 = .ok (.aload_n 0, 1) := by decide +kernel
theorem d_Day_turn_4 : decode b_Day_turn 4 = .ok (.getfield 57, 3) := by decide +kernel
theorem d_Day_turn_7 : decode b_Day_turn 7 = .ok (.if_icmp .ge 55, 3) := by decide +kernel
theorem d_Day_turn_10 : decode b_Day_turn 10 = .ok (.aload_n 0, 1) := by decide +kernel
theorem d_Day_turn_11 : decode b_Day_turn 11 = .ok (.getfield 36, 3) := by decide +kernel
theorem d_Day_turn_14 : decode b_Day_turn 14 = .ok (.iload_n 1, 1) := by decide +kernel
theorem d_Day_turn_15 : decode b_Day_turn 15 = .ok (.iconst 0, 1) := by decide +kernel
end
section
theorem d_Day_turn_16 : decode b_Day_turn 16 = .ok (.iastore, 1) := by decide +kernel
theorem d_Day_turn_17 : decode b_Day_turn 17 = .ok (.aload_n 0, 1) := by decide +kernel
theorem d_Day_turn_18 : decode b_Day_turn 18 = .ok (.getfield 45, 3) := by decide +kernel
theorem d_Day_turn_21 : decode b_Day_turn 21 = .ok (.iload_n 1, 1) := by decide +kernel
theorem d_Day_turn_22 : decode b_Day_turn 22 = .ok (.bipush 8, 2) := by decide +kernel
theorem d_Day_turn_24 : decode b_Day_turn 24 = .ok (.iastore, 1) := by decide +kernel
theorem d_Day_turn_25 : decode b_Day_turn 25 = .ok (.iconst 0, 1) := by decide +kernel
theorem d_Day_turn_26 : decode b_Day_turn 26 = .ok (.istore_n 2, 1) := by decide +kernel
theorem d_Day_turn_27 : decode b_Day_turn 27 = .ok (.iload_n 2, 1) := by decide +kernel
theorem d_Day_turn_28 : decode b_Day_turn 28 = .ok (.aload_n 0, 1) := by decide +kernel
theorem d_Day_turn_29 : decode b_Day_turn 29 = .ok (.getfield 42, 3) := by decide +kernel
theorem d_Day_turn_32 : decode b_Day_turn 32 = .ok (.iload_n 1, 1) := by decide +kernel
theorem d_Day_turn_33 : decode b_Day_turn 33 = .ok (.iaload, 1) := by decide +kernel
theorem d_Day_turn_34 : decode b_Day_turn 34 = .ok (.if_icmp .ge 22, 3) := by decide +kernel
theorem d_Day_turn_37 : decode b_Day_turn 37 = .ok (.aload_n 0, 1) := by decide +kernel
theorem d_Day_turn_38 : decode b_Day_turn 38 = .ok (.aload_n 0, 1) := by decide +kernel
theorem d_Day_turn_39 : decode b_Day_turn 39 = .ok (.getfield 39, 3) := by decide +kernel
theorem d_Day_turn_42 : decode b_Day_turn 42 = .ok (.iload_n 1, 1) := by decide +kernel
theorem d_Day_turn_43 : decode b_Day_turn 43 = .ok (.aaload, 1) := by decide +kernel
theorem d_Day_turn_44 : decode b_Day_turn 44 = .ok (.iload_n 2, 1) := by decide +kernel
theorem d_Day_turn_45 : decode b_Day_turn 45 = .ok (.iaload, 1) := by decide +kernel
theorem d_Day_turn_46 : decode b_Day_turn 46 = .ok (.iload_n 1, 1) := by decide +kernel
theorem d_Day_turn_47 : decode b_Day_turn 47 = .ok (.invokevirtual 74, 3) := by decide +kernel
theorem d_Day_turn_50 : decode b_Day_turn 50 = .ok (.iinc 2 1, 3) := by decide +kernel
theorem d_Day_turn_53 : decode b_Day_turn 53 = .ok (.goto (-26), 3) := by decide +kernel
theorem d_Day_turn_56 : decode b_Day_turn 56 = .ok (.iinc 1 1, 3) := by decide +kernel
theorem d_Day_turn_59 : decode b_Day_turn 59 = .ok (.goto (-57), 3) := by decide +kernel
theorem d_Day_turn_62 : decode b_Day_turn 62 = .ok (.iconst 0, 1) := by decide +kernel
theorem d_Day_turn_63 : decode b_Day_turn 63 = .ok (.istore_n 1, 1) := by decide +kernel
theorem d_Day_turn_64 : decode b_Day_turn 64 = .ok (.iload_n 1, 1) := by decide +kernel
theorem d_Day_turn_65 : decode b_Day_turn 65 = .ok (.aload_n 0, 1) := by decide +kernel
theorem d_Day_turn_66 : decode b_Day_turn 66 = .ok (.getfield 71, 3) := by decide +kernel
theorem d_Day_turn_69 : decode b_Day_turn 69 = .ok (.if_icmp .ge 23, 3) := by decide +kernel
theorem d_Day_turn_72 : decode b_Day_turn 72 = .ok (.aload_n 0, 1) := by decide +kernel
theorem d_Day_turn_73 : decode b_Day_turn 73 = .ok (.getfield 24, 3) := by decide +kernel
theorem d_Day_turn_76 : decode b_Day_turn 76 = .ok (.iload_n 1, 1) := by decide +kernel
theorem d_Day_turn_77 : decode b_Day_turn 77 = .ok (.iconst 0, 1) := by decide +kernel
theorem d_Day_turn_78 : decode b_Day_turn 78 = .ok (.bastore, 1) := by decide +kernel
theorem d_Day_turn_79 : decode b_Day_turn 79 = .ok (.aload_n 0, 1) := by decide +kernel
theorem d_Day_turn_80 : decode b_Day_turn 80 = .ok (.getfield 28, 3) := by decide +kernel
theorem d_Day_turn_83 : decode b_Day_turn 83 = .ok (.iload_n 1, 1) := by decide +kernel
theorem d_Day_turn_84 : decode b_Day_turn 84 = .ok (.iconst 0, 1) := by decide +kernel
theorem d_Day_turn_85 : decode b_Day_turn 85 = .ok (.bastore, 1) := by decide +kernel
theorem d_Day_turn_86 : decode b_Day_turn 86 = .ok (.iinc 1 1, 3) := by decide +kernel
theorem d_Day_turn_89 : decode b_Day_turn 89 = .ok (.goto (-25), 3) := by decide +kernel
theorem d_Day_turn_92 : decode b_Day_turn 92 = .ok (.return_, 1) := by decide +kernel
theorem d_Mo_init_0 : decode b_Mo_init 0 = .ok (.aload_n 0, 1) := by decide +kernel
theorem d_Mo_init_1 : decode b_Mo_init 1 = .ok (.invokespecial 1, 3) := by decide +kernel
theorem d_Mo_init_4 : decode b_Mo_init 4 = .ok (.aload_n 0, 1) := by decide +kernel
theorem d_Mo_init_5 : decode b_Mo_init 5 = .ok (.bipush 8, 2) := by decide +kernel
theorem d_Mo_init_7 : decode b_Mo_init 7 = .ok (.newarray .int, 2) := by decide +kernel
theorem d_Mo_init_9 : decode b_Mo_init 9 = .ok (.putfield 7, 3) := by decide +kernel
theorem d_Mo_init_12 : decode b_Mo_init 12 = .ok (.aload_n 0, 1) := by decide +kernel
theorem d_Mo_init_13 : decode b_Mo_init 13 = .ok (.bipush 8, 2) := by decide +kernel
theorem d_Mo_init_15 : decode b_Mo_init 15 = .ok (.newarray .int, 2) := by decide +kernel
theorem d_Mo_init_17 : decode b_Mo_init 17 = .ok (.putfield 13, 3) := by decide +kernel
theorem d_Mo_init_20 : decode b_Mo_init 20 = .ok (.aload_n 0, 1) := by decide +kernel
theorem d_Mo_init_21 : decode b_Mo_init 21 = .ok (.bipush 8, 2) := by decide +kernel
theorem d_Mo_init_23 : decode b_Mo_init 23 = .ok (.newarray .int, 2) := by decide +kernel
theorem d_Mo_init_25 : decode b_Mo_init 25 = .ok (.putfield 16, 3) := by decide +kernel
theorem d_Mo_init_28 : decode b_Mo_init 28 = .ok (.aload_n 0, 1) := by decide +kernel
theorem d_Mo_init_29 : decode b_Mo_init 29 = .ok (.bipush 8, 2) := by decide +kernel
theorem d_Mo_init_31 : decode b_Mo_init 31 = .ok (.newarray .int, 2) := by decide +kernel
theorem d_Mo_init_33 : decode b_Mo_init 33 = .ok (.putfield 19, 3) := by decide +kernel
theorem d_Mo_init_36 : decode b_Mo_init 36 = .ok (.aload_n 0, 1) := by decide +kernel
theorem d_Mo_init_37 : decode b_Mo_init 37 = .ok (.iconst 3, 1) := by decide +kernel
theorem d_Mo_init_38 : decode b_Mo_init 38 = .ok (.newarray .int, 2) := by decide +kernel
theorem d_Mo_init_40 : decode b_Mo_init 40 = .ok (.putfield 22, 3) := by decide +kernel
theorem d_Mo_init_43 : decode b_Mo_init 43 = .ok (.aload_n 0, 1) := by decide +kernel
theorem d_Mo_init_44 : decode b_Mo_init 44 = .ok (.bipush 8, 2) := by decide +kernel
theorem d_Mo_init_46 : decode b_Mo_init 46 = .ok (.newarray .boolean, 2) := by decide +kernel
theorem d_Mo_init_48 : decode b_Mo_init 48 = .ok (.putfield 25, 3) := by decide +kernel
theorem d_Mo_init_51 : decode b_Mo_init 51 = .ok (.aload_n 0, 1) := by decide +kernel
theorem d_Mo_init_52 : decode b_Mo_init 52 = .ok (.bipush 8, 2) := by decide +kernel
theorem d_Mo_init_54 : decode b_Mo_init 54 = .ok (.newarray .boolean, 2) := by decide +kernel
theorem d_Mo_init_56 : decode b_Mo_init 56 = .ok (.putfield 29, 3) := by decide +kernel
theorem d_Mo_init_59 : decode b_Mo_init 59 = .ok (.aload_n 0, 1) := by decide +kernel
theorem d_Mo_init_60 : decode b_Mo_init 60 = .ok (.iconst 3, 1) := by decide +kernel
theorem d_Mo_init_61 : decode b_Mo_init 61 = .ok (.newarray .int, 2) := by decide +kernel
theorem d_Mo_init_63 : decode b_Mo_init 63 = .ok (.putfield 32, 3) := by decide +kernel
theorem d_Mo_init_66 : decode b_Mo_init 66 = .ok (.aload_n 0, 1) := by decide +kernel
theorem d_Mo_init_67 : decode b_Mo_init 67 = .ok (.iconst 3, 1) := by decide +kernel
theorem d_Mo_init_68 : decode b_Mo_init 68 = .ok (.newarray .int, 2) := by decide +kernel
theorem d_Mo_init_70 : decode b_Mo_init 70 = .ok (.putfield 35, 3) := by decide +kernel
theorem d_Mo_init_73 : decode b_Mo_init 73 = .ok (.aload_n 0, 1) := by decide +kernel
theorem d_Mo_init_74 : decode b_Mo_init 74 = .ok (.bipush 100, 2) := by decide +kernel
theorem d_Mo_init_76 : decode b_Mo_init 76 = .ok (.newarray .int, 2) := by decide +kernel
theorem d_Mo_init_78 : decode b_Mo_init 78 = .ok (.putfield 38, 3) := by decide +kernel
theorem d_Mo_init_81 : decode b_Mo_init 81 = .ok (.aload_n 0, 1) := by decide +kernel
theorem d_Mo_init_82 : decode b_Mo_init 82 = .ok (.bipush 8, 2) := by decide +kernel
theorem d_Mo_init_84 : decode b_Mo_init 84 = .ok (.newarray .int, 2) := by decide +kernel
theorem d_Mo_init_86 : decode b_Mo_init 86 = .ok (.putfield 41, 3) := by decide +kernel
theorem d_Mo_init_89 : decode b_Mo_init 89 = .ok (.aload_n 0, 1) := by decide +kernel
theorem d_Mo_init_90 : decode b_Mo_init 90 = .ok (.bipush 8, 2) := by decide +kernel
theorem d_Mo_init_92 : decode b_Mo_init 92 = .ok (.newarray .int, 2) := by decide +kernel
theorem d_Mo_init_94 : decode b_Mo_init 94 = .ok (.putfield 44, 3) := by decide +kernel
theorem d_Mo_init_97 : decode b_Mo_init 97 = .ok (.aload_n 0, 1) := by decide +kernel
theorem d_Mo_init_98 : decode b_Mo_init 98 = .ok (.bipush 8, 2) := by decide +kernel
theorem d_Mo_init_100 : decode b_Mo_init 100 = .ok (.newarray .int, 2) := by decide +kernel
theorem d_Mo_init_102 : decode b_Mo_init 102 = .ok (.putfield 47, 3) := by decide +kernel
theorem d_Mo_init_105 : decode b_Mo_init 105 = .ok (.aload_n 0, 1) := by decide +kernel
theorem d_Mo_init_106 : decode b_Mo_init 106 = .ok (.bipush 48, 2) := by decide +kernel
theorem d_Mo_init_108 : decode b_Mo_init 108 = .ok (.newarray .int, 2) := by decide +kernel
theorem d_Mo_init_110 : decode b_Mo_init 110 = .ok (.putfield 50, 3) := by decide +kernel
theorem d_Mo_init_113 : decode b_Mo_init 113 = .ok (.aload_n 0, 1) := by decide +kernel
theorem d_Mo_init_114 : decode b_Mo_init 114 = .ok (.bipush 6, 2) := by decide +kernel
theorem d_Mo_init_116 : decode b_Mo_init 116 = .ok (.newarray .int, 2) := by decide +kernel
theorem d_Mo_init_118 : decode b_Mo_init 118 = .ok (.putfield 53, 3) := by decide +kernel
theorem d_Mo_init_121 : decode b_Mo_init 121 = .ok (.aload_n 0, 1) := by decide +kernel
theorem d_Mo_init_122 : decode b_Mo_init 122 = .ok (.bipush 32, 2) := by decide +kernel
theorem d_Mo_init_124 : decode b_Mo_init 124 = .ok (.newarray .int, 2) := by decide +kernel
theorem d_Mo_init_126 : decode b_Mo_init 126 = .ok (.putfield 56, 3) := by decide +kernel
theorem d_Mo_init_129 : decode b_Mo_init 129 = .ok (.aload_n 0, 1) := by decide +kernel
theorem d_Mo_init_130 : decode b_Mo_init 130 = .ok (.iconst 4, 1) := by decide +kernel
theorem d_Mo_init_131 : decode b_Mo_init 131 = .ok (.newarray .int, 2) := by decide +kernel
theorem d_Mo_init_133 : decode b_Mo_init 133 = .ok (.putfield 59, 3) := by decide +kernel
theorem d_Mo_init_136 : decode b_Mo_init 136 = .ok (.aload_n 0, 1) := by decide +kernel
theorem d_Mo_init_137 : decode b_Mo_init 137 = .ok (.bipush 8, 2) := by decide +kernel
theorem d_Mo_init_139 : decode b_Mo_init 139 = .ok (.newarray .int, 2) := by decide +kernel
theorem d_Mo_init_141 : decode b_Mo_init 141 = .ok (.putfield 62, 3) := by decide +kernel
theorem d_Mo_init_144 : decode b_Mo_init 144 = .ok (.aload_n 0, 1) := by decide +kernel
theorem d_Mo_init_145 : decode b_Mo_init 145 = .ok (.bipush 8, 2) := by decide +kernel
theorem d_Mo_init_147 : decode b_Mo_init 147 = .ok (.newarray .int, 2) := by decide +kernel
theorem d_Mo_init_149 : decode b_Mo_init 149 = .ok (.putfield 65, 3) := by decide +kernel
theorem d_Mo_init_152 : decode b_Mo_init 152 = .ok (.aload_n 0, 1) := by decide +kernel
theorem d_Mo_init_153 : decode b_Mo_init 153 = .ok (.bipush 8, 2) := by decide +kernel
theorem d_Mo_init_155 : decode b_Mo_init 155 = .ok (.newarray .int, 2) := by decide +kernel
theorem d_Mo_init_157 : decode b_Mo_init 157 = .ok (.putfield 68, 3) := by decide +kernel
theorem d_Mo_init_160 : decode b_Mo_init 160 = .ok (.aload_n 0, 1) := by decide +kernel
theorem d_Mo_init_161 : decode b_Mo_init 161 = .ok (.bipush 8, 2) := by decide +kernel
theorem d_Mo_init_163 : decode b_Mo_init 163 = .ok (.newarray .int, 2) := by decide +kernel
theorem d_Mo_init_165 : decode b_Mo_init 165 = .ok (.putfield 71, 3) := by decide +kernel
theorem d_Mo_init_168 : decode b_Mo_init 168 = .ok (.aload_n 0, 1) := by decide +kernel
theorem d_Mo_init_169 : decode b_Mo_init 169 = .ok (.bipush 8, 2) := by decide +kernel
theorem d_Mo_init_171 : decode b_Mo_init 171 = .ok (.newarray .int, 2) := by decide +kernel
theorem d_Mo_init_173 : decode b_Mo_init 173 = .ok (.putfield 74, 3) := by decide +kernel
theorem d_Mo_init_176 : decode b_Mo_init 176 = .ok (.aload_n 0, 1) := by decide +kernel
theorem d_Mo_init_177 : decode b_Mo_init 177 = .ok (.iload_n 1, 1) := by decide +kernel
theorem d_Mo_init_178 : decode b_Mo_init 178 = .ok (.iconst 1, 1) := by decide +kernel
theorem d_Mo_init_179 : decode b_Mo_init 179 = .ok (.if_icmp .lt 12, 3) := by decide +kernel
theorem d_Mo_init_182 : decode b_Mo_init 182 = .ok (.iload_n 1, 1) := by decide +kernel
theorem d_Mo_init_183 : decode b_Mo_init 183 = .ok (.iconst 3, 1) := by decide +kernel
theorem d_Mo_init_184 : decode b_Mo_init 184 = .ok (.if_icmp .gt 7, 3) := by decide +kernel
theorem d_Mo_init_187 : decode b_Mo_init 187 = .ok (.iload_n 1, 1) := by decide +kernel
theorem d_Mo_init_188 : decode b_Mo_init 188 = .ok (.goto 4, 3) := by decide +kernel
theorem d_Mo_init_191 : decode b_Mo_init 191 = .ok (.iconst 1, 1) := by decide +kernel
theorem d_Mo_init_192 : decode b_Mo_init 192 = .ok (.putfield 77, 3) := by decide +kernel
theorem d_Mo_init_195 : decode b_Mo_init 195 = .ok (.iconst 0, 1) := by decide +kernel
theorem d_Mo_init_196 : decode b_Mo_init 196 = .ok (.istore_n 2, 1) := by decide +kernel
theorem d_Mo_init_197 : decode b_Mo_init 197 = .ok (.iload_n 2, 1) := by decide +kernel
theorem d_Mo_init_198 : decode b_Mo_init 198 = .ok (.iconst 3, 1) := by decide +kernel
theorem d_Mo_init_199 : decode b_Mo_init 199 = .ok (.if_icmp .ge 26, 3) := by decide +kernel
theorem d_Mo_init_202 : decode b_Mo_init 202 = .ok (.aload_n 0, 1) := by decide +kernel
theorem d_Mo_init_203 : decode b_Mo_init 203 = .ok (.getfield 32, 3) := by decide +kernel
theorem d_Mo_init_206 : decode b_Mo_init 206 = .ok (.iload_n 2, 1) := by decide +kernel
theorem d_Mo_init_207 : decode b_Mo_init 207 = .ok (.bipush 8, 2) := by decide +kernel
theorem d_Mo_init_209 : decode b_Mo_init 209 = .ok (.iastore, 1) := by decide +kernel
theorem d_Mo_init_210 : decode b_Mo_init 210 = .ok (.aload_n 0, 1) := by decide +kernel
theorem d_Mo_init_211 : decode b_Mo_init 211 = .ok (.getfield 35, 3) := by decide +kernel
theorem d_Mo_init_214 : decode b_Mo_init 214 = .ok (.iload_n 2, 1) := by decide +kernel
theorem d_Mo_init_215 : decode b_Mo_init 215 = .ok (.sipush 28800, 3) := by decide +kernel
theorem d_Mo_init_218 : decode b_Mo_init 218 = .ok (.iastore, 1) := by decide +kernel
theorem d_Mo_init_219 : decode b_Mo_init 219 = .ok (.iinc 2 1, 3) := by decide +kernel
theorem d_Mo_init_222 : decode b_Mo_init 222 = .ok (.goto (-25), 3) := by decide +kernel
theorem d_Mo_init_225 : decode b_Mo_init 225 = .ok (.iconst 0, 1) := by decide +kernel
theorem d_Mo_init_226 : decode b_Mo_init 226 = .ok (.istore_n 2, 1) := by decide +kernel
theorem d_Mo_init_227 : decode b_Mo_init 227 = .ok (.iload_n 2, 1) := by decide +kernel
theorem d_Mo_init_228 : decode b_Mo_init 228 = .ok (.bipush 10, 2) := by decide +kernel
theorem d_Mo_init_230 : decode b_Mo_init 230 = .ok (.if_icmp .ge 45, 3) := by decide +kernel
theorem d_Mo_init_233 : decode b_Mo_init 233 = .ok (.iconst 0, 1) := by decide +kernel
theorem d_Mo_init_234 : decode b_Mo_init 234 = .ok (.istore_n 3, 1) := by decide +kernel
theorem d_Mo_init_235 : decode b_Mo_init 235 = .ok (.iload_n 3, 1) := by decide +kernel
theorem d_Mo_init_236 : decode b_Mo_init 236 = .ok (.bipush 10, 2) := by decide +kernel
theorem d_Mo_init_238 : decode b_Mo_init 238 = .ok (.if_icmp .ge 31, 3) := by decide +kernel
theorem d_Mo_init_241 : decode b_Mo_init 241 = .ok (.aload_n 0, 1) := by decide +kernel
theorem d_Mo_init_242 : decode b_Mo_init 242 = .ok (.getfield 38, 3) := by decide +kernel
theorem d_Mo_init_245 : decode b_Mo_init 245 = .ok (.bipush 10, 2) := by decide +kernel
theorem d_Mo_init_247 : decode b_Mo_init 247 = .ok (.iload_n 2, 1) := by decide +kernel
theorem d_Mo_init_248 : decode b_Mo_init 248 = .ok (.imul, 1) := by decide +kernel
theorem d_Mo_init_249 : decode b_Mo_init 249 = .ok (.iload_n 3, 1) := by decide +kernel
theorem d_Mo_init_250 : decode b_Mo_init 250 = .ok (.iadd, 1) := by decide +kernel
theorem d_Mo_init_251 : decode b_Mo_init 251 = .ok (.iload_n 2, 1) := by decide +kernel
theorem d_Mo_init_252 : decode b_Mo_init 252 = .ok (.iload_n 3, 1) := by decide +kernel
theorem d_Mo_init_253 : decode b_Mo_init 253 = .ok (.if_icmp .ne 7, 3) := by decide +kernel
theorem d_Mo_init_256 : decode b_Mo_init 256 = .ok (.iconst 0, 1) := by decide +kernel
theorem d_Mo_init_257 : decode b_Mo_init 257 = .ok (.goto 5, 3) := by decide +kernel
theorem d_Mo_init_260 : decode b_Mo_init 260 = .ok (.bipush 60, 2) := by decide +kernel
theorem d_Mo_init_262 : decode b_Mo_init 262 = .ok (.iastore, 1) := by decide +kernel
theorem d_Mo_init_263 : decode b_Mo_init 263 = .ok (.iinc 3 1, 3) := by decide +kernel
theorem d_Mo_init_266 : decode b_Mo_init 266 = .ok (.goto (-31), 3) := by decide +kernel
theorem d_Mo_init_269 : decode b_Mo_init 269 = .ok (.iinc 2 1, 3) := by decide +kernel
theorem d_Mo_init_272 : decode b_Mo_init 272 = .ok (.goto (-45), 3) := by decide +kernel
theorem d_Mo_init_275 : decode b_Mo_init 275 = .ok (.return_, 1) := by decide +kernel
theorem d_Mo_stop_0 : decode b_Mo_stop 0 = .ok (.aload_n 0, 1) := by decide +kernel
theorem d_Mo_stop_1 : decode b_Mo_stop 1 = .ok (.getfield 81, 3) := by decide +kernel
theorem d_Mo_stop_4 : decode b_Mo_stop 4 = .ok (.bipush 8, 2) := by decide +kernel
theorem d_Mo_stop_6 : decode b_Mo_stop 6 = .ok (.if_icmp .eq 35, 3) := by decide +kernel
theorem d_Mo_stop_9 : decode b_Mo_stop 9 = .ok (.aload_n 0, 1) := by decide +kernel
theorem d_Mo_stop_10 : decode b_Mo_stop 10 = .ok (.iload_n 1, 1) := by decide +kernel
theorem d_Mo_stop_11 : decode b_Mo_stop 11 = .ok (.invokevirtual 84, 3) := by decide +kernel
theorem d_Mo_stop_14 : decode b_Mo_stop 14 = .ok (.ifCond .eq 27, 3) := by decide +kernel
theorem d_Mo_stop_17 : decode b_Mo_stop 17 = .ok (.iload_n 2, 1) := by decide +kernel
theorem d_Mo_stop_18 : decode b_Mo_stop 18 = .ok (.i2l, 1) := by decide +kernel
theorem d_Mo_stop_19 : decode b_Mo_stop 19 = .ok (.lconst 0, 1) := by decide +kernel
theorem d_Mo_stop_20 : decode b_Mo_stop 20 = .ok (.ldc2_w 88, 3) := by decide +kernel
theorem d_Mo_stop_23 : decode b_Mo_stop 23 = .ok (.invokestatic 90, 3) := by decide +kernel
theorem d_Mo_stop_26 : decode b_Mo_stop 26 = .ok (.ifCond .eq 15, 3) := by decide +kernel
theorem d_Mo_stop_29 : decode b_Mo_stop 29 = .ok (.iload_n 3, 1) := by decide +kernel
theorem d_Mo_stop_30 : decode b_Mo_stop 30 = .ok (.i2l, 1) := by decide +kernel
theorem d_Mo_stop_31 : decode b_Mo_stop 31 = .ok (.lconst 0, 1) := by decide +kernel
theorem d_Mo_stop_32 : decode b_Mo_stop 32 = .ok (.ldc2_w 94, 3) := by decide +kernel
theorem d_Mo_stop_35 : decode b_Mo_stop 35 = .ok (.invokestatic 90, 3) := by decide +kernel
theorem d_Mo_stop_38 : decode b_Mo_stop 38 = .ok (.ifCond .ne 5, 3) := by decide +kernel
theorem d_Mo_stop_41 : decode b_Mo_stop 41 = .ok (.iconst (-1), 1) := by decide +kernel
theorem d_Mo_stop_42 : decode b_Mo_stop 42 = .ok (.ireturn, 1) := by decide +kernel
theorem d_Mo_stop_43 : decode b_Mo_stop 43 = .ok (.aload_n 0, 1) := by decide +kernel
theorem d_Mo_stop_44 : decode b_Mo_stop 44 = .ok (.getfield 7, 3) := by decide +kernel
theorem d_Mo_stop_47 : decode b_Mo_stop 47 = .ok (.aload_n 0, 1) := by decide +kernel
theorem d_Mo_stop_48 : decode b_Mo_stop 48 = .ok (.getfield 81, 3) := by decide +kernel
theorem d_Mo_stop_51 : decode b_Mo_stop 51 = .ok (.iload_n 2, 1) := by decide +kernel
theorem d_Mo_stop_52 : decode b_Mo_stop 52 = .ok (.iastore, 1) := by decide +kernel
theorem d_Mo_stop_53 : decode b_Mo_stop 53 = .ok (.aload_n 0, 1) := by decide +kernel
theorem d_Mo_stop_54 : decode b_Mo_stop 54 = .ok (.getfield 13, 3) := by decide +kernel
theorem d_Mo_stop_57 : decode b_Mo_stop 57 = .ok (.aload_n 0, 1) := by decide +kernel
theorem d_Mo_stop_58 : decode b_Mo_stop 58 = .ok (.getfield 81, 3) := by decide +kernel
theorem d_Mo_stop_61 : decode b_Mo_stop 61 = .ok (.iload_n 3, 1) := by decide +kernel
theorem d_Mo_stop_62 : decode b_Mo_stop 62 = .ok (.iastore, 1) := by decide +kernel
theorem d_Mo_stop_63 : decode b_Mo_stop 63 = .ok (.aload_n 0, 1) := by decide +kernel
theorem d_Mo_stop_64 : decode b_Mo_stop 64 = .ok (.getfield 16, 3) := by decide +kernel
theorem d_Mo_stop_67 : decode b_Mo_stop 67 = .ok (.aload_n 0, 1) := by decide +kernel
theorem d_Mo_stop_68 : decode b_Mo_stop 68 = .ok (.getfield 81, 3) := by decide +kernel
theorem d_Mo_stop_71 : decode b_Mo_stop 71 = .ok (.iload_n 1, 1) := by decide +kernel
theorem d_Mo_stop_72 : decode b_Mo_stop 72 = .ok (.iastore, 1) := by decide +kernel
theorem d_Mo_stop_73 : decode b_Mo_stop 73 = .ok (.aload_n 0, 1) := by decide +kernel
theorem d_Mo_stop_74 : decode b_Mo_stop 74 = .ok (.getfield 19, 3) := by decide +kernel
theorem d_Mo_stop_77 : decode b_Mo_stop 77 = .ok (.aload_n 0, 1) := by decide +kernel
theorem d_Mo_stop_78 : decode b_Mo_stop 78 = .ok (.getfield 81, 3) := by decide +kernel
theorem d_Mo_stop_81 : decode b_Mo_stop 81 = .ok (.aload_n 0, 1) := by decide +kernel
theorem d_Mo_stop_82 : decode b_Mo_stop 82 = .ok (.getfield 22, 3) := by decide +kernel
theorem d_Mo_stop_85 : decode b_Mo_stop 85 = .ok (.iload_n 1, 1) := by decide +kernel
theorem d_Mo_stop_86 : decode b_Mo_stop 86 = .ok (.iaload, 1) := by decide +kernel
theorem d_Mo_stop_87 : decode b_Mo_stop 87 = .ok (.iastore, 1) := by decide +kernel
theorem d_Mo_stop_88 : decode b_Mo_stop 88 = .ok (.aload_n 0, 1) := by decide +kernel
theorem d_Mo_stop_89 : decode b_Mo_stop 89 = .ok (.getfield 22, 3) := by decide +kernel
theorem d_Mo_stop_92 : decode b_Mo_stop 92 = .ok (.iload_n 1, 1) := by decide +kernel
theorem d_Mo_stop_93 : decode b_Mo_stop 93 = .ok (.dup2, 1) := by decide +kernel
theorem d_Mo_stop_94 : decode b_Mo_stop 94 = .ok (.iaload, 1) := by decide +kernel
theorem d_Mo_stop_95 : decode b_Mo_stop 95 = .ok (.iconst 1, 1) := by decide +kernel
theorem d_Mo_stop_96 : decode b_Mo_stop 96 = .ok (.iadd, 1) := by decide +kernel
theorem d_Mo_stop_97 : decode b_Mo_stop 97 = .ok (.iastore, 1) := by decide +kernel
theorem d_Mo_stop_98 : decode b_Mo_stop 98 = .ok (.aload_n 0, 1) := by decide +kernel
theorem d_Mo_stop_99 : decode b_Mo_stop 99 = .ok (.getfield 41, 3) := by decide +kernel
theorem d_Mo_stop_102 : decode b_Mo_stop 102 = .ok (.aload_n 0, 1) := by decide +kernel
theorem d_Mo_stop_103 : decode b_Mo_stop 103 = .ok (.getfield 81, 3) := by decide +kernel
theorem d_Mo_stop_106 : decode b_Mo_stop 106 = .ok (.iload_n 1, 1) := by decide +kernel
theorem d_Mo_stop_107 : decode b_Mo_stop 107 = .ok (.iastore, 1) := by decide +kernel
theorem d_Mo_stop_108 : decode b_Mo_stop 108 = .ok (.aload_n 0, 1) := by decide +kernel
theorem d_Mo_stop_109 : decode b_Mo_stop 109 = .ok (.getfield 62, 3) := by decide +kernel
theorem d_Mo_stop_112 : decode b_Mo_stop 112 = .ok (.aload_n 0, 1) := by decide +kernel
theorem d_Mo_stop_113 : decode b_Mo_stop 113 = .ok (.getfield 81, 3) := by decide +kernel
theorem d_Mo_stop_116 : decode b_Mo_stop 116 = .ok (.iload_n 1, 1) := by decide +kernel
theorem d_Mo_stop_117 : decode b_Mo_stop 117 = .ok (.iastore, 1) := by decide +kernel
theorem d_Mo_stop_118 : decode b_Mo_stop 118 = .ok (.aload_n 0, 1) := by decide +kernel
theorem d_Mo_stop_119 : decode b_Mo_stop 119 = .ok (.dup, 1) := by decide +kernel
theorem d_Mo_stop_120 : decode b_Mo_stop 120 = .ok (.getfield 81, 3) := by decide +kernel
theorem d_Mo_stop_123 : decode b_Mo_stop 123 = .ok (.iconst 1, 1) := by decide +kernel
theorem d_Mo_stop_124 : decode b_Mo_stop 124 = .ok (.iadd, 1) := by decide +kernel
theorem d_Mo_stop_125 : decode b_Mo_stop 125 = .ok (.putfield 81, 3) := by decide +kernel
theorem d_Mo_stop_128 : decode b_Mo_stop 128 = .ok (.aload_n 0, 1) := by decide +kernel
theorem d_Mo_stop_129 : decode b_Mo_stop 129 = .ok (.getfield 81, 3) := by decide +kernel
theorem d_Mo_stop_132 : decode b_Mo_stop 132 = .ok (.iconst 1, 1) := by decide +kernel
theorem d_Mo_stop_133 : decode b_Mo_stop 133 = .ok (.isub, 1) := by decide +kernel
theorem d_Mo_stop_134 : decode b_Mo_stop 134 = .ok (.ireturn, 1) := by decide +kernel
theorem d_Mo_isVehicle_0 : decode b_Mo_isVehicle 0 = .ok (.iload_n 1, 1) := by decide +kernel
theorem d_Mo_isVehicle_1 : decode b_Mo_isVehicle 1 = .ok (.ifCond .lt 15, 3) := by decide +kernel
theorem d_Mo_isVehicle_4 : decode b_Mo_isVehicle 4 = .ok (.iload_n 1, 1) := by decide +kernel
theorem d_Mo_isVehicle_5 : decode b_Mo_isVehicle 5 = .ok (.aload_n 0, 1) := by decide +kernel
theorem d_Mo_isVehicle_6 : decode b_Mo_isVehicle 6 = .ok (.getfield 77, 3) := by decide +kernel
theorem d_Mo_isVehicle_9 : decode b_Mo_isVehicle 9 = .ok (.if_icmp .ge 7, 3) := by decide +kernel
theorem d_Mo_isVehicle_12 : decode b_Mo_isVehicle 12 = .ok (.iconst 1, 1) := by decide +kernel
theorem d_Mo_isVehicle_13 : decode b_Mo_isVehicle 13 = .ok (.goto 4, 3) := by decide +kernel
theorem d_Mo_isVehicle_16 : decode b_Mo_isVehicle 16 = .ok (.iconst 0, 1) := by decide +kernel
theorem d_Mo_isVehicle_17 : decode b_Mo_isVehicle 17 = .ok (.ireturn, 1) := by decide +kernel
theorem d_Mo_isIn_0 : decode b_Mo_isIn 0 = .ok (.lload_n 0, 1) := by decide +kernel
theorem d_Mo_isIn_1 : decode b_Mo_isIn 1 = .ok (.lload_n 2, 1) := by decide +kernel
theorem d_Mo_isIn_2 : decode b_Mo_isIn 2 = .ok (.lcmp, 1) := by decide +kernel
theorem d_Mo_isIn_3 : decode b_Mo_isIn 3 = .ok (.ifCond .lt 14, 3) := by decide +kernel
theorem d_Mo_isIn_6 : decode b_Mo_isIn 6 = .ok (.lload_n 0, 1) := by decide +kernel
theorem d_Mo_isIn_7 : decode b_Mo_isIn 7 = .ok (.lload 4, 2) := by decide +kernel
theorem d_Mo_isIn_9 : decode b_Mo_isIn 9 = .ok (.lcmp, 1) := by decide +kernel
theorem d_Mo_isIn_10 : decode b_Mo_isIn 10 = .ok (.ifCond .gt 7, 3) := by decide +kernel
theorem d_Mo_isIn_13 : decode b_Mo_isIn 13 = .ok (.iconst 1, 1) := by decide +kernel
theorem d_Mo_isIn_14 : decode b_Mo_isIn 14 = .ok (.goto 4, 3) := by decide +kernel
theorem d_Mo_isIn_17 : decode b_Mo_isIn 17 = .ok (.iconst 0, 1) := by decide +kernel
theorem d_Mo_isIn_18 : decode b_Mo_isIn 18 = .ok (.ireturn, 1) := by decide +kernel
theorem d_Mo_freeze_0 : decode b_Mo_freeze 0 = .ok (.aload_n 0, 1) := by decide +kernel
theorem d_Mo_freeze_1 : decode b_Mo_freeze 1 = .ok (.iload_n 1, 1) := by decide +kernel
theorem d_Mo_freeze_2 : decode b_Mo_freeze 2 = .ok (.invokevirtual 96, 3) := by decide +kernel
theorem d_Mo_freeze_5 : decode b_Mo_freeze 5 = .ok (.ifCond .ne 5, 3) := by decide +kernel
theorem d_Mo_freeze_8 : decode b_Mo_freeze 8 = .ok (.iconst 0, 1) := by decide +kernel
theorem d_Mo_freeze_9 : decode b_Mo_freeze 9 = .ok (.ireturn, 1) := by decide +kernel
theorem d_Mo_freeze_10 : decode b_Mo_freeze 10 = .ok (.aload_n 0, 1) := by decide +kernel
theorem d_Mo_freeze_11 : decode b_Mo_freeze 11 = .ok (.getfield 25, 3) := by decide +kernel
theorem d_Mo_freeze_14 : decode b_Mo_freeze 14 = .ok (.iload_n 1, 1) := by decide +kernel
theorem d_Mo_freeze_15 : decode b_Mo_freeze 15 = .ok (.iload_n 2, 1) := by decide +kernel
theorem d_Mo_freeze_16 : decode b_Mo_freeze 16 = .ok (.bastore, 1) := by decide +kernel
theorem d_Mo_freeze_17 : decode b_Mo_freeze 17 = .ok (.iconst 1, 1) := by decide +kernel
theorem d_Mo_freeze_18 : decode b_Mo_freeze 18 = .ok (.ireturn, 1) := by decide +kernel
theorem d_Mo_isStop_0 : decode b_Mo_isStop 0 = .ok (.iload_n 1, 1) := by decide +kernel
theorem d_Mo_isStop_1 : decode b_Mo_isStop 1 = .ok (.ifCond .lt 15, 3) := by decide +kernel
theorem d_Mo_isStop_4 : decode b_Mo_isStop 4 = .ok (.iload_n 1, 1) := by decide +kernel
theorem d_Mo_isStop_5 : decode b_Mo_isStop 5 = .ok (.aload_n 0, 1) := by decide +kernel
theorem d_Mo_isStop_6 : decode b_Mo_isStop 6 = .ok (.getfield 81, 3) := by decide +kernel
theorem d_Mo_isStop_9 : decode b_Mo_isStop 9 = .ok (.if_icmp .ge 7, 3) := by decide +kernel
theorem d_Mo_isStop_12 : decode b_Mo_isStop 12 = .ok (.iconst 1, 1) := by decide +kernel
theorem d_Mo_isStop_13 : decode b_Mo_isStop 13 = .ok (.goto 4, 3) := by decide +kernel
theorem d_Mo_isStop_16 : decode b_Mo_isStop 16 = .ok (.iconst 0, 1) := by decide +kernel
theorem d_Mo_isStop_17 : decode b_Mo_isStop 17 = .ok (.ireturn, 1) := by decide +kernel
theorem d_Mo_block_0 : decode b_Mo_block 0 = .ok (.aload_n 0, 1) := by decide +kernel
theorem d_Mo_block_1 : decode b_Mo_block 1 = .ok (.iload_n 1, 1) := by decide +kernel
theorem d_Mo_block_2 : decode b_Mo_block 2 = .ok (.invokevirtual 96, 3) := by decide +kernel
theorem d_Mo_block_5 : decode b_Mo_block 5 = .ok (.ifCond .ne 5, 3) := by decide +kernel
theorem d_Mo_block_8 : decode b_Mo_block 8 = .ok (.iconst 0, 1) := by decide +kernel
theorem d_Mo_block_9 : decode b_Mo_block 9 = .ok (.ireturn, 1) := by decide +kernel
theorem d_Mo_block_10 : decode b_Mo_block 10 = .ok (.aload_n 0, 1) := by decide +kernel
theorem d_Mo_block_11 : decode b_Mo_block 11 = .ok (.getfield 29, 3) := by decide +kernel
theorem d_Mo_block_14 : decode b_Mo_block 14 = .ok (.iload_n 1, 1) := by decide +kernel
theorem d_Mo_block_15 : decode b_Mo_block 15 = .ok (.iload_n 2, 1) := by decide +kernel
theorem d_Mo_block_16 : decode b_Mo_block 16 = .ok (.bastore, 1) := by decide +kernel
theorem d_Mo_block_17 : decode b_Mo_block 17 = .ok (.iconst 1, 1) := by decide +kernel
theorem d_Mo_block_18 : decode b_Mo_block 18 = .ok (.ireturn, 1) := by decide +kernel
theorem d_Mo_out_0 : decode b_Mo_out 0 = .ok (.aload_n 0, 1) := by decide +kernel
theorem d_Mo_out_1 : decode b_Mo_out 1 = .ok (.iload_n 1, 1) := by decide +kernel
theorem d_Mo_out_2 : decode b_Mo_out 2 = .ok (.invokevirtual 84, 3) := by decide +kernel
theorem d_Mo_out_5 : decode b_Mo_out 5 = .ok (.ifCond .eq 15, 3) := by decide +kernel
theorem d_Mo_out_8 : decode b_Mo_out 8 = .ok (.iload_n 2, 1) := by decide +kernel
theorem d_Mo_out_9 : decode b_Mo_out 9 = .ok (.i2l, 1) := by decide +kernel
theorem d_Mo_out_10 : decode b_Mo_out 10 = .ok (.lconst 0, 1) := by decide +kernel
theorem d_Mo_out_11 : decode b_Mo_out 11 = .ok (.ldc2_w 99, 3) := by decide +kernel
theorem d_Mo_out_14 : decode b_Mo_out 14 = .ok (.invokestatic 90, 3) := by decide +kernel
theorem d_Mo_out_17 : decode b_Mo_out 17 = .ok (.ifCond .ne 5, 3) := by decide +kernel
theorem d_Mo_out_20 : decode b_Mo_out 20 = .ok (.iconst 0, 1) := by decide +kernel
theorem d_Mo_out_21 : decode b_Mo_out 21 = .ok (.ireturn, 1) := by decide +kernel
theorem d_Mo_out_22 : decode b_Mo_out 22 = .ok (.aload_n 0, 1) := by decide +kernel
theorem d_Mo_out_23 : decode b_Mo_out 23 = .ok (.getfield 32, 3) := by decide +kernel
theorem d_Mo_out_26 : decode b_Mo_out 26 = .ok (.iload_n 1, 1) := by decide +kernel
theorem d_Mo_out_27 : decode b_Mo_out 27 = .ok (.iload_n 2, 1) := by decide +kernel
theorem d_Mo_out_28 : decode b_Mo_out 28 = .ok (.iastore, 1) := by decide +kernel
theorem d_Mo_out_29 : decode b_Mo_out 29 = .ok (.iconst 1, 1) := by decide +kernel
theorem d_Mo_out_30 : decode b_Mo_out 30 = .ok (.ireturn, 1) := by decide +kernel
theorem d_Mo_way_0 : decode b_Mo_way 0 = .ok (.iload_n 1, 1) := by decide +kernel
theorem d_Mo_way_1 : decode b_Mo_way 1 = .ok (.i2l, 1) := by decide +kernel
theorem d_Mo_way_2 : decode b_Mo_way 2 = .ok (.lconst 0, 1) := by decide +kernel
theorem d_Mo_way_3 : decode b_Mo_way 3 = .ok (.ldc2_w 88, 3) := by decide +kernel
theorem d_Mo_way_6 : decode b_Mo_way 6 = .ok (.invokestatic 90, 3) := by decide +kernel
theorem d_Mo_way_9 : decode b_Mo_way 9 = .ok (.ifCond .eq 32, 3) := by decide +kernel
theorem d_Mo_way_12 : decode b_Mo_way 12 = .ok (.iload_n 2, 1) := by decide +kernel
theorem d_Mo_way_13 : decode b_Mo_way 13 = .ok (.i2l, 1) := by decide +kernel
theorem d_Mo_way_14 : decode b_Mo_way 14 = .ok (.lconst 0, 1) := by decide +kernel
theorem d_Mo_way_15 : decode b_Mo_way 15 = .ok (.ldc2_w 88, 3) := by decide +kernel
theorem d_Mo_way_18 : decode b_Mo_way 18 = .ok (.invokestatic 90, 3) := by decide +kernel
theorem d_Mo_way_21 : decode b_Mo_way 21 = .ok (.ifCond .eq 20, 3) := by decide +kernel
theorem d_Mo_way_24 : decode b_Mo_way 24 = .ok (.iload_n 1, 1) := by decide +kernel
theorem d_Mo_way_25 : decode b_Mo_way 25 = .ok (.iload_n 2, 1) := by decide +kernel
theorem d_Mo_way_26 : decode b_Mo_way 26 = .ok (.if_icmp .eq 15, 3) := by decide +kernel
theorem d_Mo_way_29 : decode b_Mo_way 29 = .ok (.iload_n 3, 1) := by decide +kernel
theorem d_Mo_way_30 : decode b_Mo_way 30 = .ok (.i2l, 1) := by decide +kernel
theorem d_Mo_way_31 : decode b_Mo_way 31 = .ok (.lconst 0, 1) := by decide +kernel
theorem d_Mo_way_32 : decode b_Mo_way 32 = .ok (.ldc2_w 94, 3) := by decide +kernel
theorem d_Mo_way_35 : decode b_Mo_way 35 = .ok (.invokestatic 90, 3) := by decide +kernel
theorem d_Mo_way_38 : decode b_Mo_way 38 = .ok (.ifCond .ne 5, 3) := by decide +kernel
theorem d_Mo_way_41 : decode b_Mo_way 41 = .ok (.iconst 0, 1) := by decide +kernel
theorem d_Mo_way_42 : decode b_Mo_way 42 = .ok (.ireturn, 1) := by decide +kernel
theorem d_Mo_way_43 : decode b_Mo_way 43 = .ok (.aload_n 0, 1) := by decide +kernel
theorem d_Mo_way_44 : decode b_Mo_way 44 = .ok (.getfield 38, 3) := by decide +kernel
theorem d_Mo_way_47 : decode b_Mo_way 47 = .ok (.bipush 10, 2) := by decide +kernel
theorem d_Mo_way_49 : decode b_Mo_way 49 = .ok (.iload_n 1, 1) := by decide +kernel
theorem d_Mo_way_50 : decode b_Mo_way 50 = .ok (.imul, 1) := by decide +kernel
theorem d_Mo_way_51 : decode b_Mo_way 51 = .ok (.iload_n 2, 1) := by decide +kernel
theorem d_Mo_way_52 : decode b_Mo_way 52 = .ok (.iadd, 1) := by decide +kernel
theorem d_Mo_way_53 : decode b_Mo_way 53 = .ok (.iload_n 3, 1) := by decide +kernel
theorem d_Mo_way_54 : decode b_Mo_way 54 = .ok (.iastore, 1) := by decide +kernel
theorem d_Mo_way_55 : decode b_Mo_way 55 = .ok (.aload_n 0, 1) := by decide +kernel
theorem d_Mo_way_56 : decode b_Mo_way 56 = .ok (.getfield 38, 3) := by decide +kernel
theorem d_Mo_way_59 : decode b_Mo_way 59 = .ok (.bipush 10, 2) := by decide +kernel
theorem d_Mo_way_61 : decode b_Mo_way 61 = .ok (.iload_n 2, 1) := by decide +kernel
theorem d_Mo_way_62 : decode b_Mo_way 62 = .ok (.imul, 1) := by decide +kernel
theorem d_Mo_way_63 : decode b_Mo_way 63 = .ok (.iload_n 1, 1) := by decide +kernel
theorem d_Mo_way_64 : decode b_Mo_way 64 = .ok (.iadd, 1) := by decide +kernel
theorem d_Mo_way_65 : decode b_Mo_way 65 = .ok (.iload_n 3, 1) := by decide +kernel
theorem d_Mo_way_66 : decode b_Mo_way 66 = .ok (.iastore, 1) := by decide +kernel
theorem d_Mo_way_67 : decode b_Mo_way 67 = .ok (.iconst 1, 1) := by decide +kernel
theorem d_Mo_way_68 : decode b_Mo_way 68 = .ok (.ireturn, 1) := by decide +kernel
theorem d_Mo_hours_0 : decode b_Mo_hours 0 = .ok (.aload_n 0, 1) := by decide +kernel
theorem d_Mo_hours_1 : decode b_Mo_hours 1 = .ok (.iload_n 1, 1) := by decide +kernel
theorem d_Mo_hours_2 : decode b_Mo_hours 2 = .ok (.invokevirtual 84, 3) := by decide +kernel
theorem d_Mo_hours_5 : decode b_Mo_hours 5 = .ok (.ifCond .eq 15, 3) := by decide +kernel
theorem d_Mo_hours_8 : decode b_Mo_hours 8 = .ok (.iload_n 2, 1) := by decide +kernel
theorem d_Mo_hours_9 : decode b_Mo_hours 9 = .ok (.i2l, 1) := by decide +kernel
theorem d_Mo_hours_10 : decode b_Mo_hours 10 = .ok (.lconst 0, 1) := by decide +kernel
theorem d_Mo_hours_11 : decode b_Mo_hours 11 = .ok (.ldc2_w 101, 3) := by decide +kernel
theorem d_Mo_hours_14 : decode b_Mo_hours 14 = .ok (.invokestatic 90, 3) := by decide +kernel
theorem d_Mo_hours_17 : decode b_Mo_hours 17 = .ok (.ifCond .ne 5, 3) := by decide +kernel
theorem d_Mo_hours_20 : decode b_Mo_hours 20 = .ok (.iconst 0, 1) := by decide +kernel
theorem d_Mo_hours_21 : decode b_Mo_hours 21 = .ok (.ireturn, 1) := by decide +kernel
theorem d_Mo_hours_22 : decode b_Mo_hours 22 = .ok (.aload_n 0, 1) := by decide +kernel
theorem d_Mo_hours_23 : decode b_Mo_hours 23 = .ok (.getfield 35, 3) := by decide +kernel
theorem d_Mo_hours_26 : decode b_Mo_hours 26 = .ok (.iload_n 1, 1) := by decide +kernel
theorem d_Mo_hours_27 : decode b_Mo_hours 27 = .ok (.iload_n 2, 1) := by decide +kernel
theorem d_Mo_hours_28 : decode b_Mo_hours 28 = .ok (.iastore, 1) := by decide +kernel
theorem d_Mo_hours_29 : decode b_Mo_hours 29 = .ok (.iconst 1, 1) := by decide +kernel
theorem d_Mo_hours_30 : decode b_Mo_hours 30 = .ok (.ireturn, 1) := by decide +kernel
theorem d_Mo_extra_0 : decode b_Mo_extra 0 = .ok (.iload_n 1, 1) := by decide +kernel
theorem d_Mo_extra_1 : decode b_Mo_extra 1 = .ok (.i2l, 1) := by decide +kernel
theorem d_Mo_extra_2 : decode b_Mo_extra 2 = .ok (.lconst 0, 1) := by decide +kernel
theorem d_Mo_extra_3 : decode b_Mo_extra 3 = .ok (.ldc2_w 101, 3) := by decide +kernel
theorem d_Mo_extra_6 : decode b_Mo_extra 6 = .ok (.invokestatic 90, 3) := by decide +kernel
theorem d_Mo_extra_9 : decode b_Mo_extra 9 = .ok (.ifCond .ne 5, 3) := by decide +kernel
theorem d_Mo_extra_12 : decode b_Mo_extra 12 = .ok (.iconst 0, 1) := by decide +kernel
theorem d_Mo_extra_13 : decode b_Mo_extra 13 = .ok (.ireturn, 1) := by decide +kernel
theorem d_Mo_extra_14 : decode b_Mo_extra 14 = .ok (.aload_n 0, 1) := by decide +kernel
theorem d_Mo_extra_15 : decode b_Mo_extra 15 = .ok (.iload_n 1, 1) := by decide +kernel
theorem d_Mo_extra_16 : decode b_Mo_extra 16 = .ok (.putfield 103, 3) := by decide +kernel
theorem d_Mo_extra_19 : decode b_Mo_extra 19 = .ok (.iconst 1, 1) := by decide +kernel
theorem d_Mo_extra_20 : decode b_Mo_extra 20 = .ok (.ireturn, 1) := by decide +kernel
theorem d_Mo_cost_0 : decode b_Mo_cost 0 = .ok (.aload_n 0, 1) := by decide +kernel
theorem d_Mo_cost_1 : decode b_Mo_cost 1 = .ok (.aload_n 0, 1) := by decide +kernel
theorem d_Mo_cost_2 : decode b_Mo_cost 2 = .ok (.getfield 41, 3) := by decide +kernel
theorem d_Mo_cost_5 : decode b_Mo_cost 5 = .ok (.invokevirtual 120, 3) := by decide +kernel
theorem d_Mo_cost_8 : decode b_Mo_cost 8 = .ok (.lreturn, 1) := by decide +kernel
theorem d_Mo_costOf_0 : decode b_Mo_costOf 0 = .ok (.lconst 0, 1) := by decide +kernel
theorem d_Mo_costOf_1 : decode b_Mo_costOf 1 = .ok (.lstore_n 2, 1) := by decide +kernel
theorem d_Mo_costOf_2 : decode b_Mo_costOf 2 = .ok (.iconst 0, 1) := by decide +kernel
theorem d_Mo_costOf_3 : decode b_Mo_costOf 3 = .ok (.istore 4, 2) := by decide +kernel
theorem d_Mo_costOf_5 : decode b_Mo_costOf 5 = .ok (.iload 4, 2) := by decide +kernel
theorem d_Mo_costOf_7 : decode b_Mo_costOf 7 = .ok (.aload_n 0, 1) := by decide +kernel
theorem d_Mo_costOf_8 : decode b_Mo_costOf 8 = .ok (.getfield 77, 3) := by decide +kernel
theorem d_Mo_costOf_11 : decode b_Mo_costOf 11 = .ok (.if_icmp .ge 28, 3) := by decide +kernel
theorem d_Mo_costOf_14 : decode b_Mo_costOf 14 = .ok (.lload_n 2, 1) := by decide +kernel
theorem d_Mo_costOf_15 : decode b_Mo_costOf 15 = .ok (.aload_n 0, 1) := by decide +kernel
theorem d_Mo_costOf_16 : decode b_Mo_costOf 16 = .ok (.aload_n 1, 1) := by decide +kernel
theorem d_Mo_costOf_17 : decode b_Mo_costOf 17 = .ok (.iload 4, 2) := by decide +kernel
theorem d_Mo_costOf_19 : decode b_Mo_costOf 19 = .ok (.invokevirtual 113, 3) := by decide +kernel
theorem d_Mo_costOf_22 : decode b_Mo_costOf 22 = .ok (.aload_n 0, 1) := by decide +kernel
theorem d_Mo_costOf_23 : decode b_Mo_costOf 23 = .ok (.aload_n 1, 1) := by decide +kernel
theorem d_Mo_costOf_24 : decode b_Mo_costOf 24 = .ok (.iload 4, 2) := by decide +kernel
theorem d_Mo_costOf_26 : decode b_Mo_costOf 26 = .ok (.invokevirtual 117, 3) := by decide +kernel
theorem d_Mo_costOf_29 : decode b_Mo_costOf 29 = .ok (.iadd, 1) := by decide +kernel
theorem d_Mo_costOf_30 : decode b_Mo_costOf 30 = .ok (.i2l, 1) := by decide +kernel
theorem d_Mo_costOf_31 : decode b_Mo_costOf 31 = .ok (.ladd, 1) := by decide +kernel
theorem d_Mo_costOf_32 : decode b_Mo_costOf 32 = .ok (.lstore_n 2, 1) := by decide +kernel
theorem d_Mo_costOf_33 : decode b_Mo_costOf 33 = .ok (.iinc 4 1, 3) := by decide +kernel
theorem d_Mo_costOf_36 : decode b_Mo_costOf 36 = .ok (.goto (-31), 3) := by decide +kernel
theorem d_Mo_costOf_39 : decode b_Mo_costOf 39 = .ok (.lload_n 2, 1) := by decide +kernel
theorem d_Mo_costOf_40 : decode b_Mo_costOf 40 = .ok (.lreturn, 1) := by decide +kernel
theorem d_Mo_timeOf_0 : decode b_Mo_timeOf 0 = .ok (.aload_n 0, 1) := by decide +kernel
theorem d_Mo_timeOf_1 : decode b_Mo_timeOf 1 = .ok (.aload_n 1, 1) := by decide +kernel
theorem d_Mo_timeOf_2 : decode b_Mo_timeOf 2 = .ok (.iload_n 2, 1) := by decide +kernel
theorem d_Mo_timeOf_3 : decode b_Mo_timeOf 3 = .ok (.invokevirtual 109, 3) := by decide +kernel
theorem d_Mo_timeOf_6 : decode b_Mo_timeOf 6 = .ok (.iconst 0, 1) := by decide +kernel
theorem d_Mo_timeOf_7 : decode b_Mo_timeOf 7 = .ok (.istore_n 3, 1) := by decide +kernel
theorem d_Mo_timeOf_8 : decode b_Mo_timeOf 8 = .ok (.iconst 0, 1) := by decide +kernel
theorem d_Mo_timeOf_9 : decode b_Mo_timeOf 9 = .ok (.istore 4, 2) := by decide +kernel
theorem d_Mo_timeOf_11 : decode b_Mo_timeOf 11 = .ok (.iconst 0, 1) := by decide +kernel
theorem d_Mo_timeOf_12 : decode b_Mo_timeOf 12 = .ok (.istore 5, 2) := by decide +kernel
theorem d_Mo_timeOf_14 : decode b_Mo_timeOf 14 = .ok (.iload 5, 2) := by decide +kernel
theorem d_Mo_timeOf_16 : decode b_Mo_timeOf 16 = .ok (.aload_n 0, 1) := by decide +kernel
theorem d_Mo_timeOf_17 : decode b_Mo_timeOf 17 = .ok (.getfield 106, 3) := by decide +kernel
theorem d_Mo_timeOf_20 : decode b_Mo_timeOf 20 = .ok (.if_icmp .ge 62, 3) := by decide +kernel
theorem d_Mo_timeOf_23 : decode b_Mo_timeOf 23 = .ok (.iload_n 3, 1) := by decide +kernel
theorem d_Mo_timeOf_24 : decode b_Mo_timeOf 24 = .ok (.aload_n 0, 1) := by decide +kernel
theorem d_Mo_timeOf_25 : decode b_Mo_timeOf 25 = .ok (.getfield 38, 3) := by decide +kernel
theorem d_Mo_timeOf_28 : decode b_Mo_timeOf 28 = .ok (.bipush 10, 2) := by decide +kernel
theorem d_Mo_timeOf_30 : decode b_Mo_timeOf 30 = .ok (.iload 4, 2) := by decide +kernel
theorem d_Mo_timeOf_32 : decode b_Mo_timeOf 32 = .ok (.imul, 1) := by decide +kernel
theorem d_Mo_timeOf_33 : decode b_Mo_timeOf 33 = .ok (.aload_n 0, 1) := by decide +kernel
theorem d_Mo_timeOf_34 : decode b_Mo_timeOf 34 = .ok (.getfield 7, 3) := by decide +kernel
theorem d_Mo_timeOf_37 : decode b_Mo_timeOf 37 = .ok (.aload_n 0, 1) := by decide +kernel
theorem d_Mo_timeOf_38 : decode b_Mo_timeOf 38 = .ok (.getfield 68, 3) := by decide +kernel
theorem d_Mo_timeOf_41 : decode b_Mo_timeOf 41 = .ok (.iload 5, 2) := by decide +kernel
theorem d_Mo_timeOf_43 : decode b_Mo_timeOf 43 = .ok (.iaload, 1) := by decide +kernel
theorem d_Mo_timeOf_44 : decode b_Mo_timeOf 44 = .ok (.iaload, 1) := by decide +kernel
theorem d_Mo_timeOf_45 : decode b_Mo_timeOf 45 = .ok (.iadd, 1) := by decide +kernel
theorem d_Mo_timeOf_46 : decode b_Mo_timeOf 46 = .ok (.iaload, 1) := by decide +kernel
theorem d_Mo_timeOf_47 : decode b_Mo_timeOf 47 = .ok (.aload_n 0, 1) := by decide +kernel
theorem d_Mo_timeOf_48 : decode b_Mo_timeOf 48 = .ok (.getfield 13, 3) := by decide +kernel
theorem d_Mo_timeOf_51 : decode b_Mo_timeOf 51 = .ok (.aload_n 0, 1) := by decide +kernel
theorem d_Mo_timeOf_52 : decode b_Mo_timeOf 52 = .ok (.getfield 68, 3) := by decide +kernel
theorem d_Mo_timeOf_55 : decode b_Mo_timeOf 55 = .ok (.iload 5, 2) := by decide +kernel
theorem d_Mo_timeOf_57 : decode b_Mo_timeOf 57 = .ok (.iaload, 1) := by decide +kernel
theorem d_Mo_timeOf_58 : decode b_Mo_timeOf 58 = .ok (.iaload, 1) := by decide +kernel
theorem d_Mo_timeOf_59 : decode b_Mo_timeOf 59 = .ok (.iadd, 1) := by decide +kernel
theorem d_Mo_timeOf_60 : decode b_Mo_timeOf 60 = .ok (.iadd, 1) := by decide +kernel
theorem d_Mo_timeOf_61 : decode b_Mo_timeOf 61 = .ok (.istore_n 3, 1) := by decide +kernel
theorem d_Mo_timeOf_62 : decode b_Mo_timeOf 62 = .ok (.aload_n 0, 1) := by decide +kernel
theorem d_Mo_timeOf_63 : decode b_Mo_timeOf 63 = .ok (.getfield 7, 3) := by decide +kernel
theorem d_Mo_timeOf_66 : decode b_Mo_timeOf 66 = .ok (.aload_n 0, 1) := by decide +kernel
theorem d_Mo_timeOf_67 : decode b_Mo_timeOf 67 = .ok (.getfield 68, 3) := by decide +kernel
theorem d_Mo_timeOf_70 : decode b_Mo_timeOf 70 = .ok (.iload 5, 2) := by decide +kernel
theorem d_Mo_timeOf_72 : decode b_Mo_timeOf 72 = .ok (.iaload, 1) := by decide +kernel
end
section
theorem d_Mo_timeOf_73 : decode b_Mo_timeOf 73 = .ok (.iaload, 1) := by decide +kernel
theorem d_Mo_timeOf_74 : decode b_Mo_timeOf 74 = .ok (.istore 4, 2) := by decide +kernel
theorem d_Mo_timeOf_76 : decode b_Mo_timeOf 76 = .ok (.iinc 5 1, 3) := by decide +kernel
theorem d_Mo_timeOf_79 : decode b_Mo_timeOf 79 = .ok (.goto (-65), 3) := by decide +kernel
theorem d_Mo_timeOf_82 : decode b_Mo_timeOf 82 = .ok (.iload_n 3, 1) := by decide +kernel
theorem d_Mo_timeOf_83 : decode b_Mo_timeOf 83 = .ok (.aload_n 0, 1) := by decide +kernel
theorem d_Mo_timeOf_84 : decode b_Mo_timeOf 84 = .ok (.getfield 38, 3) := by decide +kernel
theorem d_Mo_timeOf_87 : decode b_Mo_timeOf 87 = .ok (.bipush 10, 2) := by decide +kernel
theorem d_Mo_timeOf_89 : decode b_Mo_timeOf 89 = .ok (.iload 4, 2) := by decide +kernel
theorem d_Mo_timeOf_91 : decode b_Mo_timeOf 91 = .ok (.imul, 1) := by decide +kernel
theorem d_Mo_timeOf_92 : decode b_Mo_timeOf 92 = .ok (.iaload, 1) := by decide +kernel
theorem d_Mo_timeOf_93 : decode b_Mo_timeOf 93 = .ok (.iadd, 1) := by decide +kernel
theorem d_Mo_timeOf_94 : decode b_Mo_timeOf 94 = .ok (.ireturn, 1) := by decide +kernel
theorem d_Mo_go_0 : decode b_Mo_go 0 = .ok (.aload_n 0, 1) := by decide +kernel
theorem d_Mo_go_1 : decode b_Mo_go 1 = .ok (.iconst 0, 1) := by decide +kernel
theorem d_Mo_go_2 : decode b_Mo_go 2 = .ok (.putfield 106, 3) := by decide +kernel
theorem d_Mo_go_5 : decode b_Mo_go 5 = .ok (.iconst 0, 1) := by decide +kernel
theorem d_Mo_go_6 : decode b_Mo_go 6 = .ok (.istore_n 3, 1) := by decide +kernel
theorem d_Mo_go_7 : decode b_Mo_go 7 = .ok (.iload_n 3, 1) := by decide +kernel
theorem d_Mo_go_8 : decode b_Mo_go 8 = .ok (.aload_n 0, 1) := by decide +kernel
theorem d_Mo_go_9 : decode b_Mo_go 9 = .ok (.getfield 22, 3) := by decide +kernel
theorem d_Mo_go_12 : decode b_Mo_go 12 = .ok (.iload_n 2, 1) := by decide +kernel
theorem d_Mo_go_13 : decode b_Mo_go 13 = .ok (.iaload, 1) := by decide +kernel
theorem d_Mo_go_14 : decode b_Mo_go 14 = .ok (.if_icmp .ge 78, 3) := by decide +kernel
theorem d_Mo_go_17 : decode b_Mo_go 17 = .ok (.iconst 0, 1) := by decide +kernel
theorem d_Mo_go_18 : decode b_Mo_go 18 = .ok (.istore 4, 2) := by decide +kernel
theorem d_Mo_go_20 : decode b_Mo_go 20 = .ok (.iload 4, 2) := by decide +kernel
theorem d_Mo_go_22 : decode b_Mo_go 22 = .ok (.aload_n 0, 1) := by decide +kernel
theorem d_Mo_go_23 : decode b_Mo_go 23 = .ok (.getfield 81, 3) := by decide +kernel
theorem d_Mo_go_26 : decode b_Mo_go 26 = .ok (.if_icmp .ge 60, 3) := by decide +kernel
theorem d_Mo_go_29 : decode b_Mo_go 29 = .ok (.aload_n 0, 1) := by decide +kernel
theorem d_Mo_go_30 : decode b_Mo_go 30 = .ok (.getfield 16, 3) := by decide +kernel
theorem d_Mo_go_33 : decode b_Mo_go 33 = .ok (.iload 4, 2) := by decide +kernel
theorem d_Mo_go_35 : decode b_Mo_go 35 = .ok (.iaload, 1) := by decide +kernel
theorem d_Mo_go_36 : decode b_Mo_go 36 = .ok (.iload_n 2, 1) := by decide +kernel
theorem d_Mo_go_37 : decode b_Mo_go 37 = .ok (.if_icmp .ne 43, 3) := by decide +kernel
theorem d_Mo_go_40 : decode b_Mo_go 40 = .ok (.aload_n 0, 1) := by decide +kernel
theorem d_Mo_go_41 : decode b_Mo_go 41 = .ok (.getfield 19, 3) := by decide +kernel
theorem d_Mo_go_44 : decode b_Mo_go 44 = .ok (.iload 4, 2) := by decide +kernel
theorem d_Mo_go_46 : decode b_Mo_go 46 = .ok (.iaload, 1) := by decide +kernel
theorem d_Mo_go_47 : decode b_Mo_go 47 = .ok (.iload_n 3, 1) := by decide +kernel
theorem d_Mo_go_48 : decode b_Mo_go 48 = .ok (.if_icmp .ne 32, 3) := by decide +kernel
theorem d_Mo_go_51 : decode b_Mo_go 51 = .ok (.aload_n 1, 1) := by decide +kernel
theorem d_Mo_go_52 : decode b_Mo_go 52 = .ok (.iload 4, 2) := by decide +kernel
theorem d_Mo_go_54 : decode b_Mo_go 54 = .ok (.iaload, 1) := by decide +kernel
theorem d_Mo_go_55 : decode b_Mo_go 55 = .ok (.iload_n 2, 1) := by decide +kernel
theorem d_Mo_go_56 : decode b_Mo_go 56 = .ok (.if_icmp .ne 24, 3) := by decide +kernel
theorem d_Mo_go_59 : decode b_Mo_go 59 = .ok (.aload_n 0, 1) := by decide +kernel
theorem d_Mo_go_60 : decode b_Mo_go 60 = .ok (.getfield 68, 3) := by decide +kernel
theorem d_Mo_go_63 : decode b_Mo_go 63 = .ok (.aload_n 0, 1) := by decide +kernel
theorem d_Mo_go_64 : decode b_Mo_go 64 = .ok (.getfield 106, 3) := by decide +kernel
theorem d_Mo_go_67 : decode b_Mo_go 67 = .ok (.iload 4, 2) := by decide +kernel
theorem d_Mo_go_69 : decode b_Mo_go 69 = .ok (.iastore, 1) := by decide +kernel
theorem d_Mo_go_70 : decode b_Mo_go 70 = .ok (.aload_n 0, 1) := by decide +kernel
theorem d_Mo_go_71 : decode b_Mo_go 71 = .ok (.dup, 1) := by decide +kernel
theorem d_Mo_go_72 : decode b_Mo_go 72 = .ok (.getfield 106, 3) := by decide +kernel
theorem d_Mo_go_75 : decode b_Mo_go 75 = .ok (.iconst 1, 1) := by decide +kernel
theorem d_Mo_go_76 : decode b_Mo_go 76 = .ok (.iadd, 1) := by decide +kernel
theorem d_Mo_go_77 : decode b_Mo_go 77 = .ok (.putfield 106, 3) := by decide +kernel
theorem d_Mo_go_80 : decode b_Mo_go 80 = .ok (.iinc 4 1, 3) := by decide +kernel
theorem d_Mo_go_83 : decode b_Mo_go 83 = .ok (.goto (-63), 3) := by decide +kernel
theorem d_Mo_go_86 : decode b_Mo_go 86 = .ok (.iinc 3 1, 3) := by decide +kernel
theorem d_Mo_go_89 : decode b_Mo_go 89 = .ok (.goto (-82), 3) := by decide +kernel
theorem d_Mo_go_92 : decode b_Mo_go 92 = .ok (.iconst 0, 1) := by decide +kernel
theorem d_Mo_go_93 : decode b_Mo_go 93 = .ok (.istore_n 3, 1) := by decide +kernel
theorem d_Mo_go_94 : decode b_Mo_go 94 = .ok (.iload_n 3, 1) := by decide +kernel
theorem d_Mo_go_95 : decode b_Mo_go 95 = .ok (.aload_n 0, 1) := by decide +kernel
theorem d_Mo_go_96 : decode b_Mo_go 96 = .ok (.getfield 81, 3) := by decide +kernel
theorem d_Mo_go_99 : decode b_Mo_go 99 = .ok (.if_icmp .ge 46, 3) := by decide +kernel
theorem d_Mo_go_102 : decode b_Mo_go 102 = .ok (.aload_n 0, 1) := by decide +kernel
theorem d_Mo_go_103 : decode b_Mo_go 103 = .ok (.getfield 16, 3) := by decide +kernel
theorem d_Mo_go_106 : decode b_Mo_go 106 = .ok (.iload_n 3, 1) := by decide +kernel
theorem d_Mo_go_107 : decode b_Mo_go 107 = .ok (.iaload, 1) := by decide +kernel
theorem d_Mo_go_108 : decode b_Mo_go 108 = .ok (.iload_n 2, 1) := by decide +kernel
theorem d_Mo_go_109 : decode b_Mo_go 109 = .ok (.if_icmp .eq 30, 3) := by decide +kernel
theorem d_Mo_go_112 : decode b_Mo_go 112 = .ok (.aload_n 1, 1) := by decide +kernel
theorem d_Mo_go_113 : decode b_Mo_go 113 = .ok (.iload_n 3, 1) := by decide +kernel
theorem d_Mo_go_114 : decode b_Mo_go 114 = .ok (.iaload, 1) := by decide +kernel
theorem d_Mo_go_115 : decode b_Mo_go 115 = .ok (.iload_n 2, 1) := by decide +kernel
theorem d_Mo_go_116 : decode b_Mo_go 116 = .ok (.if_icmp .ne 23, 3) := by decide +kernel
theorem d_Mo_go_119 : decode b_Mo_go 119 = .ok (.aload_n 0, 1) := by decide +kernel
theorem d_Mo_go_120 : decode b_Mo_go 120 = .ok (.getfield 68, 3) := by decide +kernel
theorem d_Mo_go_123 : decode b_Mo_go 123 = .ok (.aload_n 0, 1) := by decide +kernel
theorem d_Mo_go_124 : decode b_Mo_go 124 = .ok (.getfield 106, 3) := by decide +kernel
theorem d_Mo_go_127 : decode b_Mo_go 127 = .ok (.iload_n 3, 1) := by decide +kernel
theorem d_Mo_go_128 : decode b_Mo_go 128 = .ok (.iastore, 1) := by decide +kernel
theorem d_Mo_go_129 : decode b_Mo_go 129 = .ok (.aload_n 0, 1) := by decide +kernel
theorem d_Mo_go_130 : decode b_Mo_go 130 = .ok (.dup, 1) := by decide +kernel
theorem d_Mo_go_131 : decode b_Mo_go 131 = .ok (.getfield 106, 3) := by decide +kernel
theorem d_Mo_go_134 : decode b_Mo_go 134 = .ok (.iconst 1, 1) := by decide +kernel
theorem d_Mo_go_135 : decode b_Mo_go 135 = .ok (.iadd, 1) := by decide +kernel
theorem d_Mo_go_136 : decode b_Mo_go 136 = .ok (.putfield 106, 3) := by decide +kernel
theorem d_Mo_go_139 : decode b_Mo_go 139 = .ok (.iinc 3 1, 3) := by decide +kernel
theorem d_Mo_go_142 : decode b_Mo_go 142 = .ok (.goto (-48), 3) := by decide +kernel
theorem d_Mo_go_145 : decode b_Mo_go 145 = .ok (.return_, 1) := by decide +kernel
theorem d_Mo_overtimeOf_0 : decode b_Mo_overtimeOf 0 = .ok (.aload_n 0, 1) := by decide +kernel
theorem d_Mo_overtimeOf_1 : decode b_Mo_overtimeOf 1 = .ok (.aload_n 1, 1) := by decide +kernel
theorem d_Mo_overtimeOf_2 : decode b_Mo_overtimeOf 2 = .ok (.iload_n 2, 1) := by decide +kernel
theorem d_Mo_overtimeOf_3 : decode b_Mo_overtimeOf 3 = .ok (.invokevirtual 113, 3) := by decide +kernel
theorem d_Mo_overtimeOf_6 : decode b_Mo_overtimeOf 6 = .ok (.aload_n 0, 1) := by decide +kernel
theorem d_Mo_overtimeOf_7 : decode b_Mo_overtimeOf 7 = .ok (.getfield 35, 3) := by decide +kernel
theorem d_Mo_overtimeOf_10 : decode b_Mo_overtimeOf 10 = .ok (.iload_n 2, 1) := by decide +kernel
theorem d_Mo_overtimeOf_11 : decode b_Mo_overtimeOf 11 = .ok (.iaload, 1) := by decide +kernel
theorem d_Mo_overtimeOf_12 : decode b_Mo_overtimeOf 12 = .ok (.isub, 1) := by decide +kernel
theorem d_Mo_overtimeOf_13 : decode b_Mo_overtimeOf 13 = .ok (.istore_n 3, 1) := by decide +kernel
theorem d_Mo_overtimeOf_14 : decode b_Mo_overtimeOf 14 = .ok (.iload_n 3, 1) := by decide +kernel
theorem d_Mo_overtimeOf_15 : decode b_Mo_overtimeOf 15 = .ok (.ifCond .le 7, 3) := by decide +kernel
theorem d_Mo_overtimeOf_18 : decode b_Mo_overtimeOf 18 = .ok (.iload_n 3, 1) := by decide +kernel
theorem d_Mo_overtimeOf_19 : decode b_Mo_overtimeOf 19 = .ok (.goto 4, 3) := by decide +kernel
theorem d_Mo_overtimeOf_22 : decode b_Mo_overtimeOf 22 = .ok (.iconst 0, 1) := by decide +kernel
theorem d_Mo_overtimeOf_23 : decode b_Mo_overtimeOf 23 = .ok (.ireturn, 1) := by decide +kernel
theorem d_Mo_overtime_0 : decode b_Mo_overtime 0 = .ok (.aload_n 0, 1) := by decide +kernel
theorem d_Mo_overtime_1 : decode b_Mo_overtime 1 = .ok (.iload_n 1, 1) := by decide +kernel
theorem d_Mo_overtime_2 : decode b_Mo_overtime 2 = .ok (.invokevirtual 84, 3) := by decide +kernel
theorem d_Mo_overtime_5 : decode b_Mo_overtime 5 = .ok (.ifCond .eq 15, 3) := by decide +kernel
theorem d_Mo_overtime_8 : decode b_Mo_overtime 8 = .ok (.aload_n 0, 1) := by decide +kernel
theorem d_Mo_overtime_9 : decode b_Mo_overtime 9 = .ok (.aload_n 0, 1) := by decide +kernel
theorem d_Mo_overtime_10 : decode b_Mo_overtime 10 = .ok (.getfield 41, 3) := by decide +kernel
theorem d_Mo_overtime_13 : decode b_Mo_overtime 13 = .ok (.iload_n 1, 1) := by decide +kernel
theorem d_Mo_overtime_14 : decode b_Mo_overtime 14 = .ok (.invokevirtual 117, 3) := by decide +kernel
theorem d_Mo_overtime_17 : decode b_Mo_overtime 17 = .ok (.goto 4, 3) := by decide +kernel
theorem d_Mo_overtime_20 : decode b_Mo_overtime 20 = .ok (.iconst (-1), 1) := by decide +kernel
theorem d_Mo_overtime_21 : decode b_Mo_overtime 21 = .ok (.ireturn, 1) := by decide +kernel
theorem d_Mo_run_0 : decode b_Mo_run 0 = .ok (.iconst 0, 1) := by decide +kernel
theorem d_Mo_run_1 : decode b_Mo_run 1 = .ok (.istore_n 1, 1) := by decide +kernel
theorem d_Mo_run_2 : decode b_Mo_run 2 = .ok (.iload_n 1, 1) := by decide +kernel
theorem d_Mo_run_3 : decode b_Mo_run 3 = .ok (.aload_n 0, 1) := by decide +kernel
theorem d_Mo_run_4 : decode b_Mo_run 4 = .ok (.getfield 81, 3) := by decide +kernel
theorem d_Mo_run_7 : decode b_Mo_run 7 = .ok (.if_icmp .ge 16, 3) := by decide +kernel
theorem d_Mo_run_10 : decode b_Mo_run 10 = .ok (.aload_n 0, 1) := by decide +kernel
theorem d_Mo_run_11 : decode b_Mo_run 11 = .ok (.getfield 44, 3) := by decide +kernel
theorem d_Mo_run_14 : decode b_Mo_run 14 = .ok (.iload_n 1, 1) := by decide +kernel
theorem d_Mo_run_15 : decode b_Mo_run 15 = .ok (.iconst 0, 1) := by decide +kernel
theorem d_Mo_run_16 : decode b_Mo_run 16 = .ok (.iastore, 1) := by decide +kernel
theorem d_Mo_run_17 : decode b_Mo_run 17 = .ok (.iinc 1 1, 3) := by decide +kernel
theorem d_Mo_run_20 : decode b_Mo_run 20 = .ok (.goto (-18), 3) := by decide +kernel
theorem d_Mo_run_23 : decode b_Mo_run 23 = .ok (.iconst (-1), 1) := by decide +kernel
theorem d_Mo_run_24 : decode b_Mo_run 24 = .ok (.istore_n 1, 1) := by decide +kernel
theorem d_Mo_run_25 : decode b_Mo_run 25 = .ok (.lconst 0, 1) := by decide +kernel
theorem d_Mo_run_26 : decode b_Mo_run 26 = .ok (.lstore_n 2, 1) := by decide +kernel
theorem d_Mo_run_27 : decode b_Mo_run 27 = .ok (.iconst 1, 1) := by decide +kernel
theorem d_Mo_run_28 : decode b_Mo_run 28 = .ok (.istore 4, 2) := by decide +kernel
theorem d_Mo_run_30 : decode b_Mo_run 30 = .ok (.iload 4, 2) := by decide +kernel
theorem d_Mo_run_32 : decode b_Mo_run 32 = .ok (.ifCond .eq 111, 3) := by decide +kernel
theorem d_Mo_run_35 : decode b_Mo_run 35 = .ok (.aload_n 0, 1) := by decide +kernel
theorem d_Mo_run_36 : decode b_Mo_run 36 = .ok (.aload_n 0, 1) := by decide +kernel
theorem d_Mo_run_37 : decode b_Mo_run 37 = .ok (.getfield 44, 3) := by decide +kernel
theorem d_Mo_run_40 : decode b_Mo_run 40 = .ok (.invokevirtual 128, 3) := by decide +kernel
theorem d_Mo_run_43 : decode b_Mo_run 43 = .ok (.istore 5, 2) := by decide +kernel
theorem d_Mo_run_45 : decode b_Mo_run 45 = .ok (.iload_n 1, 1) := by decide +kernel
theorem d_Mo_run_46 : decode b_Mo_run 46 = .ok (.ifCond .lt 9, 3) := by decide +kernel
theorem d_Mo_run_49 : decode b_Mo_run 49 = .ok (.iload 5, 2) := by decide +kernel
theorem d_Mo_run_51 : decode b_Mo_run 51 = .ok (.iload_n 1, 1) := by decide +kernel
theorem d_Mo_run_52 : decode b_Mo_run 52 = .ok (.if_icmp .gt 82, 3) := by decide +kernel
theorem d_Mo_run_55 : decode b_Mo_run 55 = .ok (.aload_n 0, 1) := by decide +kernel
theorem d_Mo_run_56 : decode b_Mo_run 56 = .ok (.invokevirtual 132, 3) := by decide +kernel
theorem d_Mo_run_59 : decode b_Mo_run 59 = .ok (.ifCond .eq 75, 3) := by decide +kernel
theorem d_Mo_run_62 : decode b_Mo_run 62 = .ok (.aload_n 0, 1) := by decide +kernel
theorem d_Mo_run_63 : decode b_Mo_run 63 = .ok (.invokevirtual 136, 3) := by decide +kernel
theorem d_Mo_run_66 : decode b_Mo_run 66 = .ok (.ifCond .eq 68, 3) := by decide +kernel
theorem d_Mo_run_69 : decode b_Mo_run 69 = .ok (.aload_n 0, 1) := by decide +kernel
theorem d_Mo_run_70 : decode b_Mo_run 70 = .ok (.aload_n 0, 1) := by decide +kernel
theorem d_Mo_run_71 : decode b_Mo_run 71 = .ok (.getfield 44, 3) := by decide +kernel
theorem d_Mo_run_74 : decode b_Mo_run 74 = .ok (.invokevirtual 120, 3) := by decide +kernel
theorem d_Mo_run_77 : decode b_Mo_run 77 = .ok (.lstore 6, 2) := by decide +kernel
theorem d_Mo_run_79 : decode b_Mo_run 79 = .ok (.iload_n 1, 1) := by decide +kernel
theorem d_Mo_run_80 : decode b_Mo_run 80 = .ok (.ifCond .lt 16, 3) := by decide +kernel
theorem d_Mo_run_83 : decode b_Mo_run 83 = .ok (.iload 5, 2) := by decide +kernel
theorem d_Mo_run_85 : decode b_Mo_run 85 = .ok (.iload_n 1, 1) := by decide +kernel
theorem d_Mo_run_86 : decode b_Mo_run 86 = .ok (.if_icmp .lt 10, 3) := by decide +kernel
theorem d_Mo_run_89 : decode b_Mo_run 89 = .ok (.lload 6, 2) := by decide +kernel
theorem d_Mo_run_91 : decode b_Mo_run 91 = .ok (.lload_n 2, 1) := by decide +kernel
theorem d_Mo_run_92 : decode b_Mo_run 92 = .ok (.lcmp, 1) := by decide +kernel
theorem d_Mo_run_93 : decode b_Mo_run 93 = .ok (.ifCond .ge 41, 3) := by decide +kernel
theorem d_Mo_run_96 : decode b_Mo_run 96 = .ok (.iload 5, 2) := by decide +kernel
theorem d_Mo_run_98 : decode b_Mo_run 98 = .ok (.istore_n 1, 1) := by decide +kernel
theorem d_Mo_run_99 : decode b_Mo_run 99 = .ok (.lload 6, 2) := by decide +kernel
theorem d_Mo_run_101 : decode b_Mo_run 101 = .ok (.lstore_n 2, 1) := by decide +kernel
theorem d_Mo_run_102 : decode b_Mo_run 102 = .ok (.iconst 0, 1) := by decide +kernel
theorem d_Mo_run_103 : decode b_Mo_run 103 = .ok (.istore 8, 2) := by decide +kernel
theorem d_Mo_run_105 : decode b_Mo_run 105 = .ok (.iload 8, 2) := by decide +kernel
theorem d_Mo_run_107 : decode b_Mo_run 107 = .ok (.aload_n 0, 1) := by decide +kernel
theorem d_Mo_run_108 : decode b_Mo_run 108 = .ok (.getfield 81, 3) := by decide +kernel
theorem d_Mo_run_111 : decode b_Mo_run 111 = .ok (.if_icmp .ge 23, 3) := by decide +kernel
theorem d_Mo_run_114 : decode b_Mo_run 114 = .ok (.aload_n 0, 1) := by decide +kernel
theorem d_Mo_run_115 : decode b_Mo_run 115 = .ok (.getfield 47, 3) := by decide +kernel
theorem d_Mo_run_118 : decode b_Mo_run 118 = .ok (.iload 8, 2) := by decide +kernel
theorem d_Mo_run_120 : decode b_Mo_run 120 = .ok (.aload_n 0, 1) := by decide +kernel
theorem d_Mo_run_121 : decode b_Mo_run 121 = .ok (.getfield 44, 3) := by decide +kernel
theorem d_Mo_run_124 : decode b_Mo_run 124 = .ok (.iload 8, 2) := by decide +kernel
theorem d_Mo_run_126 : decode b_Mo_run 126 = .ok (.iaload, 1) := by decide +kernel
theorem d_Mo_run_127 : decode b_Mo_run 127 = .ok (.iastore, 1) := by decide +kernel
theorem d_Mo_run_128 : decode b_Mo_run 128 = .ok (.iinc 8 1, 3) := by decide +kernel
theorem d_Mo_run_131 : decode b_Mo_run 131 = .ok (.goto (-26), 3) := by decide +kernel
theorem d_Mo_run_134 : decode b_Mo_run 134 = .ok (.aload_n 0, 1) := by decide +kernel
theorem d_Mo_run_135 : decode b_Mo_run 135 = .ok (.invokevirtual 139, 3) := by decide +kernel
theorem d_Mo_run_138 : decode b_Mo_run 138 = .ok (.istore 4, 2) := by decide +kernel
theorem d_Mo_run_140 : decode b_Mo_run 140 = .ok (.goto (-110), 3) := by decide +kernel
theorem d_Mo_run_143 : decode b_Mo_run 143 = .ok (.iload_n 1, 1) := by decide +kernel
theorem d_Mo_run_144 : decode b_Mo_run 144 = .ok (.ifCond .ge 8, 3) := by decide +kernel
theorem d_Mo_run_147 : decode b_Mo_run 147 = .ok (.aload_n 0, 1) := by decide +kernel
theorem d_Mo_run_148 : decode b_Mo_run 148 = .ok (.invokevirtual 142, 3) := by decide +kernel
theorem d_Mo_run_151 : decode b_Mo_run 151 = .ok (.ireturn, 1) := by decide +kernel
theorem d_Mo_run_152 : decode b_Mo_run 152 = .ok (.aload_n 0, 1) := by decide +kernel
theorem d_Mo_run_153 : decode b_Mo_run 153 = .ok (.invokevirtual 146, 3) := by decide +kernel
theorem d_Mo_run_156 : decode b_Mo_run 156 = .ok (.iconst 0, 1) := by decide +kernel
theorem d_Mo_run_157 : decode b_Mo_run 157 = .ok (.istore 5, 2) := by decide +kernel
theorem d_Mo_run_159 : decode b_Mo_run 159 = .ok (.iload 5, 2) := by decide +kernel
theorem d_Mo_run_161 : decode b_Mo_run 161 = .ok (.aload_n 0, 1) := by decide +kernel
theorem d_Mo_run_162 : decode b_Mo_run 162 = .ok (.getfield 81, 3) := by decide +kernel
theorem d_Mo_run_165 : decode b_Mo_run 165 = .ok (.if_icmp .ge 23, 3) := by decide +kernel
theorem d_Mo_run_168 : decode b_Mo_run 168 = .ok (.aload_n 0, 1) := by decide +kernel
theorem d_Mo_run_169 : decode b_Mo_run 169 = .ok (.getfield 41, 3) := by decide +kernel
theorem d_Mo_run_172 : decode b_Mo_run 172 = .ok (.iload 5, 2) := by decide +kernel
theorem d_Mo_run_174 : decode b_Mo_run 174 = .ok (.aload_n 0, 1) := by decide +kernel
theorem d_Mo_run_175 : decode b_Mo_run 175 = .ok (.getfield 47, 3) := by decide +kernel
theorem d_Mo_run_178 : decode b_Mo_run 178 = .ok (.iload 5, 2) := by decide +kernel
theorem d_Mo_run_180 : decode b_Mo_run 180 = .ok (.iaload, 1) := by decide +kernel
theorem d_Mo_run_181 : decode b_Mo_run 181 = .ok (.iastore, 1) := by decide +kernel
theorem d_Mo_run_182 : decode b_Mo_run 182 = .ok (.iinc 5 1, 3) := by decide +kernel
theorem d_Mo_run_185 : decode b_Mo_run 185 = .ok (.goto (-26), 3) := by decide +kernel
theorem d_Mo_run_188 : decode b_Mo_run 188 = .ok (.iload_n 1, 1) := by decide +kernel
theorem d_Mo_run_189 : decode b_Mo_run 189 = .ok (.ireturn, 1) := by decide +kernel
theorem d_Mo_movedBy_0 : decode b_Mo_movedBy 0 = .ok (.iconst 0, 1) := by decide +kernel
theorem d_Mo_movedBy_1 : decode b_Mo_movedBy 1 = .ok (.istore_n 2, 1) := by decide +kernel
theorem d_Mo_movedBy_2 : decode b_Mo_movedBy 2 = .ok (.iconst 0, 1) := by decide +kernel
theorem d_Mo_movedBy_3 : decode b_Mo_movedBy 3 = .ok (.istore_n 3, 1) := by decide +kernel
theorem d_Mo_movedBy_4 : decode b_Mo_movedBy 4 = .ok (.iload_n 3, 1) := by decide +kernel
theorem d_Mo_movedBy_5 : decode b_Mo_movedBy 5 = .ok (.aload_n 0, 1) := by decide +kernel
theorem d_Mo_movedBy_6 : decode b_Mo_movedBy 6 = .ok (.getfield 81, 3) := by decide +kernel
theorem d_Mo_movedBy_9 : decode b_Mo_movedBy 9 = .ok (.if_icmp .ge 29, 3) := by decide +kernel
theorem d_Mo_movedBy_12 : decode b_Mo_movedBy 12 = .ok (.iload_n 2, 1) := by decide +kernel
theorem d_Mo_movedBy_13 : decode b_Mo_movedBy 13 = .ok (.aload_n 1, 1) := by decide +kernel
theorem d_Mo_movedBy_14 : decode b_Mo_movedBy 14 = .ok (.iload_n 3, 1) := by decide +kernel
theorem d_Mo_movedBy_15 : decode b_Mo_movedBy 15 = .ok (.iaload, 1) := by decide +kernel
theorem d_Mo_movedBy_16 : decode b_Mo_movedBy 16 = .ok (.aload_n 0, 1) := by decide +kernel
theorem d_Mo_movedBy_17 : decode b_Mo_movedBy 17 = .ok (.getfield 16, 3) := by decide +kernel
theorem d_Mo_movedBy_20 : decode b_Mo_movedBy 20 = .ok (.iload_n 3, 1) := by decide +kernel
theorem d_Mo_movedBy_21 : decode b_Mo_movedBy 21 = .ok (.iaload, 1) := by decide +kernel
theorem d_Mo_movedBy_22 : decode b_Mo_movedBy 22 = .ok (.if_icmp .eq 7, 3) := by decide +kernel
theorem d_Mo_movedBy_25 : decode b_Mo_movedBy 25 = .ok (.iconst 1, 1) := by decide +kernel
theorem d_Mo_movedBy_26 : decode b_Mo_movedBy 26 = .ok (.goto 4, 3) := by decide +kernel
theorem d_Mo_movedBy_29 : decode b_Mo_movedBy 29 = .ok (.iconst 0, 1) := by decide +kernel
theorem d_Mo_movedBy_30 : decode b_Mo_movedBy 30 = .ok (.iadd, 1) := by decide +kernel
theorem d_Mo_movedBy_31 : decode b_Mo_movedBy 31 = .ok (.istore_n 2, 1) := by decide +kernel
theorem d_Mo_movedBy_32 : decode b_Mo_movedBy 32 = .ok (.iinc 3 1, 3) := by decide +kernel
theorem d_Mo_movedBy_35 : decode b_Mo_movedBy 35 = .ok (.goto (-31), 3) := by decide +kernel
theorem d_Mo_movedBy_38 : decode b_Mo_movedBy 38 = .ok (.iload_n 2, 1) := by decide +kernel
theorem d_Mo_movedBy_39 : decode b_Mo_movedBy 39 = .ok (.ireturn, 1) := by decide +kernel
theorem d_Mo_holdsApart_0 : decode b_Mo_holdsApart 0 = .ok (.iconst 1, 1) := by decide +kernel
theorem d_Mo_holdsApart_1 : decode b_Mo_holdsApart 1 = .ok (.istore_n 1, 1) := by decide +kernel
theorem d_Mo_holdsApart_2 : decode b_Mo_holdsApart 2 = .ok (.iconst 0, 1) := by decide +kernel
theorem d_Mo_holdsApart_3 : decode b_Mo_holdsApart 3 = .ok (.istore_n 2, 1) := by decide +kernel
theorem d_Mo_holdsApart_4 : decode b_Mo_holdsApart 4 = .ok (.iload_n 2, 1) := by decide +kernel
theorem d_Mo_holdsApart_5 : decode b_Mo_holdsApart 5 = .ok (.aload_n 0, 1) := by decide +kernel
theorem d_Mo_holdsApart_6 : decode b_Mo_holdsApart 6 = .ok (.getfield 81, 3) := by decide +kernel
theorem d_Mo_holdsApart_9 : decode b_Mo_holdsApart 9 = .ok (.if_icmp .ge 99, 3) := by decide +kernel
theorem d_Mo_holdsApart_12 : decode b_Mo_holdsApart 12 = .ok (.aload_n 0, 1) := by decide +kernel
theorem d_Mo_holdsApart_13 : decode b_Mo_holdsApart 13 = .ok (.getfield 44, 3) := by decide +kernel
theorem d_Mo_holdsApart_16 : decode b_Mo_holdsApart 16 = .ok (.iload_n 2, 1) := by decide +kernel
theorem d_Mo_holdsApart_17 : decode b_Mo_holdsApart 17 = .ok (.iaload, 1) := by decide +kernel
theorem d_Mo_holdsApart_18 : decode b_Mo_holdsApart 18 = .ok (.aload_n 0, 1) := by decide +kernel
theorem d_Mo_holdsApart_19 : decode b_Mo_holdsApart 19 = .ok (.getfield 77, 3) := by decide +kernel
theorem d_Mo_holdsApart_22 : decode b_Mo_holdsApart 22 = .ok (.if_icmp .ne 7, 3) := by decide +kernel
theorem d_Mo_holdsApart_25 : decode b_Mo_holdsApart 25 = .ok (.iconst 1, 1) := by decide +kernel
theorem d_Mo_holdsApart_26 : decode b_Mo_holdsApart 26 = .ok (.goto 4, 3) := by decide +kernel
theorem d_Mo_holdsApart_29 : decode b_Mo_holdsApart 29 = .ok (.iconst 0, 1) := by decide +kernel
theorem d_Mo_holdsApart_30 : decode b_Mo_holdsApart 30 = .ok (.istore_n 3, 1) := by decide +kernel
theorem d_Mo_holdsApart_31 : decode b_Mo_holdsApart 31 = .ok (.iload_n 1, 1) := by decide +kernel
theorem d_Mo_holdsApart_32 : decode b_Mo_holdsApart 32 = .ok (.ifCond .eq 31, 3) := by decide +kernel
theorem d_Mo_holdsApart_35 : decode b_Mo_holdsApart 35 = .ok (.aload_n 0, 1) := by decide +kernel
theorem d_Mo_holdsApart_36 : decode b_Mo_holdsApart 36 = .ok (.getfield 25, 3) := by decide +kernel
theorem d_Mo_holdsApart_39 : decode b_Mo_holdsApart 39 = .ok (.iload_n 2, 1) := by decide +kernel
theorem d_Mo_holdsApart_40 : decode b_Mo_holdsApart 40 = .ok (.baload, 1) := by decide +kernel
theorem d_Mo_holdsApart_41 : decode b_Mo_holdsApart 41 = .ok (.ifCond .eq 18, 3) := by decide +kernel
theorem d_Mo_holdsApart_44 : decode b_Mo_holdsApart 44 = .ok (.aload_n 0, 1) := by decide +kernel
theorem d_Mo_holdsApart_45 : decode b_Mo_holdsApart 45 = .ok (.getfield 44, 3) := by decide +kernel
theorem d_Mo_holdsApart_48 : decode b_Mo_holdsApart 48 = .ok (.iload_n 2, 1) := by decide +kernel
theorem d_Mo_holdsApart_49 : decode b_Mo_holdsApart 49 = .ok (.iaload, 1) := by decide +kernel
theorem d_Mo_holdsApart_50 : decode b_Mo_holdsApart 50 = .ok (.aload_n 0, 1) := by decide +kernel
theorem d_Mo_holdsApart_51 : decode b_Mo_holdsApart 51 = .ok (.getfield 16, 3) := by decide +kernel
theorem d_Mo_holdsApart_54 : decode b_Mo_holdsApart 54 = .ok (.iload_n 2, 1) := by decide +kernel
theorem d_Mo_holdsApart_55 : decode b_Mo_holdsApart 55 = .ok (.iaload, 1) := by decide +kernel
theorem d_Mo_holdsApart_56 : decode b_Mo_holdsApart 56 = .ok (.if_icmp .ne 7, 3) := by decide +kernel
theorem d_Mo_holdsApart_59 : decode b_Mo_holdsApart 59 = .ok (.iconst 1, 1) := by decide +kernel
theorem d_Mo_holdsApart_60 : decode b_Mo_holdsApart 60 = .ok (.goto 4, 3) := by decide +kernel
theorem d_Mo_holdsApart_63 : decode b_Mo_holdsApart 63 = .ok (.iconst 0, 1) := by decide +kernel
theorem d_Mo_holdsApart_64 : decode b_Mo_holdsApart 64 = .ok (.istore_n 1, 1) := by decide +kernel
theorem d_Mo_holdsApart_65 : decode b_Mo_holdsApart 65 = .ok (.iload_n 1, 1) := by decide +kernel
theorem d_Mo_holdsApart_66 : decode b_Mo_holdsApart 66 = .ok (.ifCond .eq 34, 3) := by decide +kernel
theorem d_Mo_holdsApart_69 : decode b_Mo_holdsApart 69 = .ok (.iload_n 3, 1) := by decide +kernel
theorem d_Mo_holdsApart_70 : decode b_Mo_holdsApart 70 = .ok (.ifCond .ne 26, 3) := by decide +kernel
theorem d_Mo_holdsApart_73 : decode b_Mo_holdsApart 73 = .ok (.aload_n 0, 1) := by decide +kernel
theorem d_Mo_holdsApart_74 : decode b_Mo_holdsApart 74 = .ok (.getfield 29, 3) := by decide +kernel
theorem d_Mo_holdsApart_77 : decode b_Mo_holdsApart 77 = .ok (.iload_n 2, 1) := by decide +kernel
theorem d_Mo_holdsApart_78 : decode b_Mo_holdsApart 78 = .ok (.baload, 1) := by decide +kernel
theorem d_Mo_holdsApart_79 : decode b_Mo_holdsApart 79 = .ok (.ifCond .ne 21, 3) := by decide +kernel
theorem d_Mo_holdsApart_82 : decode b_Mo_holdsApart 82 = .ok (.aload_n 0, 1) := by decide +kernel
theorem d_Mo_holdsApart_83 : decode b_Mo_holdsApart 83 = .ok (.aload_n 0, 1) := by decide +kernel
theorem d_Mo_holdsApart_84 : decode b_Mo_holdsApart 84 = .ok (.getfield 44, 3) := by decide +kernel
theorem d_Mo_holdsApart_87 : decode b_Mo_holdsApart 87 = .ok (.iload_n 2, 1) := by decide +kernel
theorem d_Mo_holdsApart_88 : decode b_Mo_holdsApart 88 = .ok (.iaload, 1) := by decide +kernel
theorem d_Mo_holdsApart_89 : decode b_Mo_holdsApart 89 = .ok (.iload_n 2, 1) := by decide +kernel
theorem d_Mo_holdsApart_90 : decode b_Mo_holdsApart 90 = .ok (.invokevirtual 124, 3) := by decide +kernel
theorem d_Mo_holdsApart_93 : decode b_Mo_holdsApart 93 = .ok (.ifCond .eq 7, 3) := by decide +kernel
theorem d_Mo_holdsApart_96 : decode b_Mo_holdsApart 96 = .ok (.iconst 1, 1) := by decide +kernel
theorem d_Mo_holdsApart_97 : decode b_Mo_holdsApart 97 = .ok (.goto 4, 3) := by decide +kernel
theorem d_Mo_holdsApart_100 : decode b_Mo_holdsApart 100 = .ok (.iconst 0, 1) := by decide +kernel
theorem d_Mo_holdsApart_101 : decode b_Mo_holdsApart 101 = .ok (.istore_n 1, 1) := by decide +kernel
theorem d_Mo_holdsApart_102 : decode b_Mo_holdsApart 102 = .ok (.iinc 2 1, 3) := by decide +kernel
theorem d_Mo_holdsApart_105 : decode b_Mo_holdsApart 105 = .ok (.goto (-101), 3) := by decide +kernel
theorem d_Mo_holdsApart_108 : decode b_Mo_holdsApart 108 = .ok (.iload_n 1, 1) := by decide +kernel
theorem d_Mo_holdsApart_109 : decode b_Mo_holdsApart 109 = .ok (.ireturn, 1) := by decide +kernel
theorem d_Mo_can_0 : decode b_Mo_can 0 = .ok (.aload_n 0, 1) := by decide +kernel
theorem d_Mo_can_1 : decode b_Mo_can 1 = .ok (.getfield 32, 3) := by decide +kernel
theorem d_Mo_can_4 : decode b_Mo_can 4 = .ok (.iload_n 1, 1) := by decide +kernel
theorem d_Mo_can_5 : decode b_Mo_can 5 = .ok (.iaload, 1) := by decide +kernel
theorem d_Mo_can_6 : decode b_Mo_can 6 = .ok (.bipush 8, 2) := by decide +kernel
theorem d_Mo_can_8 : decode b_Mo_can 8 = .ok (.if_icmp .eq 28, 3) := by decide +kernel
theorem d_Mo_can_11 : decode b_Mo_can 11 = .ok (.aload_n 0, 1) := by decide +kernel
theorem d_Mo_can_12 : decode b_Mo_can 12 = .ok (.getfield 16, 3) := by decide +kernel
theorem d_Mo_can_15 : decode b_Mo_can 15 = .ok (.iload_n 2, 1) := by decide +kernel
theorem d_Mo_can_16 : decode b_Mo_can 16 = .ok (.iaload, 1) := by decide +kernel
theorem d_Mo_can_17 : decode b_Mo_can 17 = .ok (.iload_n 1, 1) := by decide +kernel
theorem d_Mo_can_18 : decode b_Mo_can 18 = .ok (.if_icmp .ne 22, 3) := by decide +kernel
theorem d_Mo_can_21 : decode b_Mo_can 21 = .ok (.aload_n 0, 1) := by decide +kernel
theorem d_Mo_can_22 : decode b_Mo_can 22 = .ok (.getfield 19, 3) := by decide +kernel
theorem d_Mo_can_25 : decode b_Mo_can 25 = .ok (.iload_n 2, 1) := by decide +kernel
theorem d_Mo_can_26 : decode b_Mo_can 26 = .ok (.iaload, 1) := by decide +kernel
theorem d_Mo_can_27 : decode b_Mo_can 27 = .ok (.aload_n 0, 1) := by decide +kernel
theorem d_Mo_can_28 : decode b_Mo_can 28 = .ok (.getfield 32, 3) := by decide +kernel
theorem d_Mo_can_31 : decode b_Mo_can 31 = .ok (.iload_n 1, 1) := by decide +kernel
theorem d_Mo_can_32 : decode b_Mo_can 32 = .ok (.iaload, 1) := by decide +kernel
theorem d_Mo_can_33 : decode b_Mo_can 33 = .ok (.if_icmp .ge 7, 3) := by decide +kernel
theorem d_Mo_can_36 : decode b_Mo_can 36 = .ok (.iconst 1, 1) := by decide +kernel
theorem d_Mo_can_37 : decode b_Mo_can 37 = .ok (.goto 4, 3) := by decide +kernel
theorem d_Mo_can_40 : decode b_Mo_can 40 = .ok (.iconst 0, 1) := by decide +kernel
theorem d_Mo_can_41 : decode b_Mo_can 41 = .ok (.ireturn, 1) := by decide +kernel
theorem d_Mo_holdsOvertime_0 : decode b_Mo_holdsOvertime 0 = .ok (.iconst 1, 1) := by decide +kernel
theorem d_Mo_holdsOvertime_1 : decode b_Mo_holdsOvertime 1 = .ok (.istore_n 1, 1) := by decide +kernel
theorem d_Mo_holdsOvertime_2 : decode b_Mo_holdsOvertime 2 = .ok (.iconst 0, 1) := by decide +kernel
theorem d_Mo_holdsOvertime_3 : decode b_Mo_holdsOvertime 3 = .ok (.istore_n 2, 1) := by decide +kernel
theorem d_Mo_holdsOvertime_4 : decode b_Mo_holdsOvertime 4 = .ok (.iload_n 2, 1) := by decide +kernel
theorem d_Mo_holdsOvertime_5 : decode b_Mo_holdsOvertime 5 = .ok (.aload_n 0, 1) := by decide +kernel
theorem d_Mo_holdsOvertime_6 : decode b_Mo_holdsOvertime 6 = .ok (.getfield 77, 3) := by decide +kernel
theorem d_Mo_holdsOvertime_9 : decode b_Mo_holdsOvertime 9 = .ok (.if_icmp .ge 35, 3) := by decide +kernel
theorem d_Mo_holdsOvertime_12 : decode b_Mo_holdsOvertime 12 = .ok (.iload_n 1, 1) := by decide +kernel
theorem d_Mo_holdsOvertime_13 : decode b_Mo_holdsOvertime 13 = .ok (.ifCond .eq 23, 3) := by decide +kernel
theorem d_Mo_holdsOvertime_16 : decode b_Mo_holdsOvertime 16 = .ok (.aload_n 0, 1) := by decide +kernel
theorem d_Mo_holdsOvertime_17 : decode b_Mo_holdsOvertime 17 = .ok (.aload_n 0, 1) := by decide +kernel
theorem d_Mo_holdsOvertime_18 : decode b_Mo_holdsOvertime 18 = .ok (.getfield 44, 3) := by decide +kernel
theorem d_Mo_holdsOvertime_21 : decode b_Mo_holdsOvertime 21 = .ok (.iload_n 2, 1) := by decide +kernel
theorem d_Mo_holdsOvertime_22 : decode b_Mo_holdsOvertime 22 = .ok (.invokevirtual 117, 3) := by decide +kernel
theorem d_Mo_holdsOvertime_25 : decode b_Mo_holdsOvertime 25 = .ok (.aload_n 0, 1) := by decide +kernel
theorem d_Mo_holdsOvertime_26 : decode b_Mo_holdsOvertime 26 = .ok (.getfield 103, 3) := by decide +kernel
theorem d_Mo_holdsOvertime_29 : decode b_Mo_holdsOvertime 29 = .ok (.if_icmp .gt 7, 3) := by decide +kernel
theorem d_Mo_holdsOvertime_32 : decode b_Mo_holdsOvertime 32 = .ok (.iconst 1, 1) := by decide +kernel
theorem d_Mo_holdsOvertime_33 : decode b_Mo_holdsOvertime 33 = .ok (.goto 4, 3) := by decide +kernel
theorem d_Mo_holdsOvertime_36 : decode b_Mo_holdsOvertime 36 = .ok (.iconst 0, 1) := by decide +kernel
theorem d_Mo_holdsOvertime_37 : decode b_Mo_holdsOvertime 37 = .ok (.istore_n 1, 1) := by decide +kernel
theorem d_Mo_holdsOvertime_38 : decode b_Mo_holdsOvertime 38 = .ok (.iinc 2 1, 3) := by decide +kernel
theorem d_Mo_holdsOvertime_41 : decode b_Mo_holdsOvertime 41 = .ok (.goto (-37), 3) := by decide +kernel
theorem d_Mo_holdsOvertime_44 : decode b_Mo_holdsOvertime 44 = .ok (.iload_n 1, 1) := by decide +kernel
theorem d_Mo_holdsOvertime_45 : decode b_Mo_holdsOvertime 45 = .ok (.ireturn, 1) := by decide +kernel
theorem d_Mo_turn_0 : decode b_Mo_turn 0 = .ok (.aload_n 0, 1) := by decide +kernel
theorem d_Mo_turn_1 : decode b_Mo_turn 1 = .ok (.getfield 81, 3) := by decide +kernel
theorem d_Mo_turn_4 : decode b_Mo_turn 4 = .ok (.iconst 1, 1) := by decide +kernel
theorem d_Mo_turn_5 : decode b_Mo_turn 5 = .ok (.isub, 1) := by decide +kernel
theorem d_Mo_turn_6 : decode b_Mo_turn 6 = .ok (.istore_n 1, 1) := by decide +kernel
theorem d_Mo_turn_7 : decode b_Mo_turn 7 = .ok (.iload_n 1, 1) := by decide +kernel
theorem d_Mo_turn_8 : decode b_Mo_turn 8 = .ok (.ifCond .lt 29, 3) := by decide +kernel
theorem d_Mo_turn_11 : decode b_Mo_turn 11 = .ok (.aload_n 0, 1) := by decide +kernel
theorem d_Mo_turn_12 : decode b_Mo_turn 12 = .ok (.getfield 44, 3) := by decide +kernel
theorem d_Mo_turn_15 : decode b_Mo_turn 15 = .ok (.iload_n 1, 1) := by decide +kernel
theorem d_Mo_turn_16 : decode b_Mo_turn 16 = .ok (.iaload, 1) := by decide +kernel
theorem d_Mo_turn_17 : decode b_Mo_turn 17 = .ok (.aload_n 0, 1) := by decide +kernel
theorem d_Mo_turn_18 : decode b_Mo_turn 18 = .ok (.getfield 77, 3) := by decide +kernel
theorem d_Mo_turn_21 : decode b_Mo_turn 21 = .ok (.if_icmp .ne 16, 3) := by decide +kernel
theorem d_Mo_turn_24 : decode b_Mo_turn 24 = .ok (.aload_n 0, 1) := by decide +kernel
theorem d_Mo_turn_25 : decode b_Mo_turn 25 = .ok (.getfield 44, 3) := by decide +kernel
theorem d_Mo_turn_28 : decode b_Mo_turn 28 = .ok (.iload_n 1, 1) := by decide +kernel
theorem d_Mo_turn_29 : decode b_Mo_turn 29 = .ok (.iconst 0, 1) := by decide +kernel
theorem d_Mo_turn_30 : decode b_Mo_turn 30 = .ok (.iastore, 1) := by decide +kernel
theorem d_Mo_turn_31 : decode b_Mo_turn 31 = .ok (.iinc 1 (-1), 3) := by decide +kernel
theorem d_Mo_turn_34 : decode b_Mo_turn 34 = .ok (.goto (-27), 3) := by decide +kernel
theorem d_Mo_turn_37 : decode b_Mo_turn 37 = .ok (.iload_n 1, 1) := by decide +kernel
theorem d_Mo_turn_38 : decode b_Mo_turn 38 = .ok (.ifCond .lt 13, 3) := by decide +kernel
theorem d_Mo_turn_41 : decode b_Mo_turn 41 = .ok (.aload_n 0, 1) := by decide +kernel
theorem d_Mo_turn_42 : decode b_Mo_turn 42 = .ok (.getfield 44, 3) := by decide +kernel
theorem d_Mo_turn_45 : decode b_Mo_turn 45 = .ok (.iload_n 1, 1) := by decide +kernel
theorem d_Mo_turn_46 : decode b_Mo_turn 46 = .ok (.dup2, 1) := by decide +kernel
theorem d_Mo_turn_47 : decode b_Mo_turn 47 = .ok (.iaload, 1) := by decide +kernel
theorem d_Mo_turn_48 : decode b_Mo_turn 48 = .ok (.iconst 1, 1) := by decide +kernel
theorem d_Mo_turn_49 : decode b_Mo_turn 49 = .ok (.iadd, 1) := by decide +kernel
theorem d_Mo_turn_50 : decode b_Mo_turn 50 = .ok (.iastore, 1) := by decide +kernel
theorem d_Mo_turn_51 : decode b_Mo_turn 51 = .ok (.iload_n 1, 1) := by decide +kernel
theorem d_Mo_turn_52 : decode b_Mo_turn 52 = .ok (.ifCond .lt 7, 3) := by decide +kernel
theorem d_Mo_turn_55 : decode b_Mo_turn 55 = .ok (.iconst 1, 1) := by decide +kernel
theorem d_Mo_turn_56 : decode b_Mo_turn 56 = .ok (.goto 4, 3) := by decide +kernel
theorem d_Mo_turn_59 : decode b_Mo_turn 59 = .ok (.iconst 0, 1) := by decide +kernel
theorem d_Mo_turn_60 : decode b_Mo_turn 60 = .ok (.ireturn, 1) := by decide +kernel
theorem d_Mo_why_0 : decode b_Mo_why 0 = .ok (.iconst 0, 1) := by decide +kernel
theorem d_Mo_why_1 : decode b_Mo_why 1 = .ok (.istore_n 1, 1) := by decide +kernel
theorem d_Mo_why_2 : decode b_Mo_why 2 = .ok (.iconst 0, 1) := by decide +kernel
theorem d_Mo_why_3 : decode b_Mo_why 3 = .ok (.istore_n 2, 1) := by decide +kernel
theorem d_Mo_why_4 : decode b_Mo_why 4 = .ok (.iconst 0, 1) := by decide +kernel
theorem d_Mo_why_5 : decode b_Mo_why 5 = .ok (.istore_n 3, 1) := by decide +kernel
theorem d_Mo_why_6 : decode b_Mo_why 6 = .ok (.iload_n 3, 1) := by decide +kernel
theorem d_Mo_why_7 : decode b_Mo_why 7 = .ok (.aload_n 0, 1) := by decide +kernel
theorem d_Mo_why_8 : decode b_Mo_why 8 = .ok (.getfield 81, 3) := by decide +kernel
theorem d_Mo_why_11 : decode b_Mo_why 11 = .ok (.if_icmp .ge 70, 3) := by decide +kernel
theorem d_Mo_why_14 : decode b_Mo_why 14 = .ok (.iload_n 1, 1) := by decide +kernel
theorem d_Mo_why_15 : decode b_Mo_why 15 = .ok (.ifCond .ne 21, 3) := by decide +kernel
theorem d_Mo_why_18 : decode b_Mo_why 18 = .ok (.aload_n 0, 1) := by decide +kernel
theorem d_Mo_why_19 : decode b_Mo_why 19 = .ok (.getfield 25, 3) := by decide +kernel
theorem d_Mo_why_22 : decode b_Mo_why 22 = .ok (.iload_n 3, 1) := by decide +kernel
theorem d_Mo_why_23 : decode b_Mo_why 23 = .ok (.baload, 1) := by decide +kernel
theorem d_Mo_why_24 : decode b_Mo_why 24 = .ok (.ifCond .eq 16, 3) := by decide +kernel
theorem d_Mo_why_27 : decode b_Mo_why 27 = .ok (.aload_n 0, 1) := by decide +kernel
theorem d_Mo_why_28 : decode b_Mo_why 28 = .ok (.getfield 29, 3) := by decide +kernel
theorem d_Mo_why_31 : decode b_Mo_why 31 = .ok (.iload_n 3, 1) := by decide +kernel
theorem d_Mo_why_32 : decode b_Mo_why 32 = .ok (.baload, 1) := by decide +kernel
theorem d_Mo_why_33 : decode b_Mo_why 33 = .ok (.ifCond .eq 7, 3) := by decide +kernel
theorem d_Mo_why_36 : decode b_Mo_why 36 = .ok (.iconst 1, 1) := by decide +kernel
theorem d_Mo_why_37 : decode b_Mo_why 37 = .ok (.goto 4, 3) := by decide +kernel
theorem d_Mo_why_40 : decode b_Mo_why 40 = .ok (.iconst 0, 1) := by decide +kernel
theorem d_Mo_why_41 : decode b_Mo_why 41 = .ok (.istore_n 1, 1) := by decide +kernel
theorem d_Mo_why_42 : decode b_Mo_why 42 = .ok (.iload_n 2, 1) := by decide +kernel
theorem d_Mo_why_43 : decode b_Mo_why 43 = .ok (.ifCond .ne 26, 3) := by decide +kernel
theorem d_Mo_why_46 : decode b_Mo_why 46 = .ok (.aload_n 0, 1) := by decide +kernel
theorem d_Mo_why_47 : decode b_Mo_why 47 = .ok (.getfield 25, 3) := by decide +kernel
theorem d_Mo_why_50 : decode b_Mo_why 50 = .ok (.iload_n 3, 1) := by decide +kernel
theorem d_Mo_why_51 : decode b_Mo_why 51 = .ok (.baload, 1) := by decide +kernel
theorem d_Mo_why_52 : decode b_Mo_why 52 = .ok (.ifCond .eq 21, 3) := by decide +kernel
theorem d_Mo_why_55 : decode b_Mo_why 55 = .ok (.aload_n 0, 1) := by decide +kernel
theorem d_Mo_why_56 : decode b_Mo_why 56 = .ok (.aload_n 0, 1) := by decide +kernel
theorem d_Mo_why_57 : decode b_Mo_why 57 = .ok (.getfield 16, 3) := by decide +kernel
theorem d_Mo_why_60 : decode b_Mo_why 60 = .ok (.iload_n 3, 1) := by decide +kernel
theorem d_Mo_why_61 : decode b_Mo_why 61 = .ok (.iaload, 1) := by decide +kernel
theorem d_Mo_why_62 : decode b_Mo_why 62 = .ok (.iload_n 3, 1) := by decide +kernel
theorem d_Mo_why_63 : decode b_Mo_why 63 = .ok (.invokevirtual 124, 3) := by decide +kernel
theorem d_Mo_why_66 : decode b_Mo_why 66 = .ok (.ifCond .ne 7, 3) := by decide +kernel
theorem d_Mo_why_69 : decode b_Mo_why 69 = .ok (.iconst 1, 1) := by decide +kernel
theorem d_Mo_why_70 : decode b_Mo_why 70 = .ok (.goto 4, 3) := by decide +kernel
theorem d_Mo_why_73 : decode b_Mo_why 73 = .ok (.iconst 0, 1) := by decide +kernel
theorem d_Mo_why_74 : decode b_Mo_why 74 = .ok (.istore_n 2, 1) := by decide +kernel
theorem d_Mo_why_75 : decode b_Mo_why 75 = .ok (.iinc 3 1, 3) := by decide +kernel
theorem d_Mo_why_78 : decode b_Mo_why 78 = .ok (.goto (-72), 3) := by decide +kernel
theorem d_Mo_why_81 : decode b_Mo_why 81 = .ok (.iload_n 1, 1) := by decide +kernel
theorem d_Mo_why_82 : decode b_Mo_why 82 = .ok (.ifCond .eq 8, 3) := by decide +kernel
theorem d_Mo_why_85 : decode b_Mo_why 85 = .ok (.bipush (-2), 2) := by decide +kernel
theorem d_Mo_why_87 : decode b_Mo_why 87 = .ok (.goto 14, 3) := by decide +kernel
theorem d_Mo_why_90 : decode b_Mo_why 90 = .ok (.iload_n 2, 1) := by decide +kernel
theorem d_Mo_why_91 : decode b_Mo_why 91 = .ok (.ifCond .eq 8, 3) := by decide +kernel
theorem d_Mo_why_94 : decode b_Mo_why 94 = .ok (.bipush (-3), 2) := by decide +kernel
theorem d_Mo_why_96 : decode b_Mo_why 96 = .ok (.goto 5, 3) := by decide +kernel
theorem d_Mo_why_99 : decode b_Mo_why 99 = .ok (.bipush (-4), 2) := by decide +kernel
theorem d_Mo_why_101 : decode b_Mo_why 101 = .ok (.ireturn, 1) := by decide +kernel
theorem d_Mo_keep_0 : decode b_Mo_keep 0 = .ok (.aload_n 0, 1) := by decide +kernel
theorem d_Mo_keep_1 : decode b_Mo_keep 1 = .ok (.getfield 149, 3) := by decide +kernel
theorem d_Mo_keep_4 : decode b_Mo_keep 4 = .ok (.bipush 6, 2) := by decide +kernel
theorem d_Mo_keep_6 : decode b_Mo_keep 6 = .ok (.if_icmp .ne 79, 3) := by decide +kernel
theorem d_Mo_keep_9 : decode b_Mo_keep 9 = .ok (.iconst 1, 1) := by decide +kernel
theorem d_Mo_keep_10 : decode b_Mo_keep 10 = .ok (.istore_n 1, 1) := by decide +kernel
theorem d_Mo_keep_11 : decode b_Mo_keep 11 = .ok (.iload_n 1, 1) := by decide +kernel
theorem d_Mo_keep_12 : decode b_Mo_keep 12 = .ok (.bipush 6, 2) := by decide +kernel
theorem d_Mo_keep_14 : decode b_Mo_keep 14 = .ok (.if_icmp .ge 61, 3) := by decide +kernel
theorem d_Mo_keep_17 : decode b_Mo_keep 17 = .ok (.aload_n 0, 1) := by decide +kernel
theorem d_Mo_keep_18 : decode b_Mo_keep 18 = .ok (.getfield 53, 3) := by decide +kernel
theorem d_Mo_keep_21 : decode b_Mo_keep 21 = .ok (.iload_n 1, 1) := by decide +kernel
theorem d_Mo_keep_22 : decode b_Mo_keep 22 = .ok (.iconst 1, 1) := by decide +kernel
theorem d_Mo_keep_23 : decode b_Mo_keep 23 = .ok (.isub, 1) := by decide +kernel
theorem d_Mo_keep_24 : decode b_Mo_keep 24 = .ok (.aload_n 0, 1) := by decide +kernel
theorem d_Mo_keep_25 : decode b_Mo_keep 25 = .ok (.getfield 53, 3) := by decide +kernel
theorem d_Mo_keep_28 : decode b_Mo_keep 28 = .ok (.iload_n 1, 1) := by decide +kernel
theorem d_Mo_keep_29 : decode b_Mo_keep 29 = .ok (.iaload, 1) := by decide +kernel
theorem d_Mo_keep_30 : decode b_Mo_keep 30 = .ok (.iastore, 1) := by decide +kernel
theorem d_Mo_keep_31 : decode b_Mo_keep 31 = .ok (.iconst 0, 1) := by decide +kernel
theorem d_Mo_keep_32 : decode b_Mo_keep 32 = .ok (.istore_n 2, 1) := by decide +kernel
theorem d_Mo_keep_33 : decode b_Mo_keep 33 = .ok (.iload_n 2, 1) := by decide +kernel
theorem d_Mo_keep_34 : decode b_Mo_keep 34 = .ok (.bipush 8, 2) := by decide +kernel
theorem d_Mo_keep_36 : decode b_Mo_keep 36 = .ok (.if_icmp .ge 33, 3) := by decide +kernel
theorem d_Mo_keep_39 : decode b_Mo_keep 39 = .ok (.aload_n 0, 1) := by decide +kernel
theorem d_Mo_keep_40 : decode b_Mo_keep 40 = .ok (.getfield 50, 3) := by decide +kernel
theorem d_Mo_keep_43 : decode b_Mo_keep 43 = .ok (.bipush 8, 2) := by decide +kernel
theorem d_Mo_keep_45 : decode b_Mo_keep 45 = .ok (.iload_n 1, 1) := by decide +kernel
theorem d_Mo_keep_46 : decode b_Mo_keep 46 = .ok (.iconst 1, 1) := by decide +kernel
theorem d_Mo_keep_47 : decode b_Mo_keep 47 = .ok (.isub, 1) := by decide +kernel
theorem d_Mo_keep_48 : decode b_Mo_keep 48 = .ok (.imul, 1) := by decide +kernel
theorem d_Mo_keep_49 : decode b_Mo_keep 49 = .ok (.iload_n 2, 1) := by decide +kernel
theorem d_Mo_keep_50 : decode b_Mo_keep 50 = .ok (.iadd, 1) := by decide +kernel
theorem d_Mo_keep_51 : decode b_Mo_keep 51 = .ok (.aload_n 0, 1) := by decide +kernel
theorem d_Mo_keep_52 : decode b_Mo_keep 52 = .ok (.getfield 50, 3) := by decide +kernel
theorem d_Mo_keep_55 : decode b_Mo_keep 55 = .ok (.bipush 8, 2) := by decide +kernel
theorem d_Mo_keep_57 : decode b_Mo_keep 57 = .ok (.iload_n 1, 1) := by decide +kernel
theorem d_Mo_keep_58 : decode b_Mo_keep 58 = .ok (.imul, 1) := by decide +kernel
theorem d_Mo_keep_59 : decode b_Mo_keep 59 = .ok (.iload_n 2, 1) := by decide +kernel
theorem d_Mo_keep_60 : decode b_Mo_keep 60 = .ok (.iadd, 1) := by decide +kernel
theorem d_Mo_keep_61 : decode b_Mo_keep 61 = .ok (.iaload, 1) := by decide +kernel
theorem d_Mo_keep_62 : decode b_Mo_keep 62 = .ok (.iastore, 1) := by decide +kernel
end
section
theorem d_Mo_keep_63 : decode b_Mo_keep 63 = .ok (.iinc 2 1, 3) := by decide +kernel
theorem d_Mo_keep_66 : decode b_Mo_keep 66 = .ok (.goto (-33), 3) := by decide +kernel
theorem d_Mo_keep_69 : decode b_Mo_keep 69 = .ok (.iinc 1 1, 3) := by decide +kernel
theorem d_Mo_keep_72 : decode b_Mo_keep 72 = .ok (.goto (-61), 3) := by decide +kernel
theorem d_Mo_keep_75 : decode b_Mo_keep 75 = .ok (.aload_n 0, 1) := by decide +kernel
theorem d_Mo_keep_76 : decode b_Mo_keep 76 = .ok (.dup, 1) := by decide +kernel
theorem d_Mo_keep_77 : decode b_Mo_keep 77 = .ok (.getfield 149, 3) := by decide +kernel
theorem d_Mo_keep_80 : decode b_Mo_keep 80 = .ok (.iconst 1, 1) := by decide +kernel
theorem d_Mo_keep_81 : decode b_Mo_keep 81 = .ok (.isub, 1) := by decide +kernel
theorem d_Mo_keep_82 : decode b_Mo_keep 82 = .ok (.putfield 149, 3) := by decide +kernel
theorem d_Mo_keep_85 : decode b_Mo_keep 85 = .ok (.aload_n 0, 1) := by decide +kernel
theorem d_Mo_keep_86 : decode b_Mo_keep 86 = .ok (.getfield 53, 3) := by decide +kernel
theorem d_Mo_keep_89 : decode b_Mo_keep 89 = .ok (.aload_n 0, 1) := by decide +kernel
theorem d_Mo_keep_90 : decode b_Mo_keep 90 = .ok (.getfield 149, 3) := by decide +kernel
theorem d_Mo_keep_93 : decode b_Mo_keep 93 = .ok (.aload_n 0, 1) := by decide +kernel
theorem d_Mo_keep_94 : decode b_Mo_keep 94 = .ok (.getfield 81, 3) := by decide +kernel
theorem d_Mo_keep_97 : decode b_Mo_keep 97 = .ok (.iastore, 1) := by decide +kernel
theorem d_Mo_keep_98 : decode b_Mo_keep 98 = .ok (.iconst 0, 1) := by decide +kernel
theorem d_Mo_keep_99 : decode b_Mo_keep 99 = .ok (.istore_n 1, 1) := by decide +kernel
theorem d_Mo_keep_100 : decode b_Mo_keep 100 = .ok (.iload_n 1, 1) := by decide +kernel
theorem d_Mo_keep_101 : decode b_Mo_keep 101 = .ok (.aload_n 0, 1) := by decide +kernel
theorem d_Mo_keep_102 : decode b_Mo_keep 102 = .ok (.getfield 81, 3) := by decide +kernel
theorem d_Mo_keep_105 : decode b_Mo_keep 105 = .ok (.if_icmp .ge 29, 3) := by decide +kernel
theorem d_Mo_keep_108 : decode b_Mo_keep 108 = .ok (.aload_n 0, 1) := by decide +kernel
theorem d_Mo_keep_109 : decode b_Mo_keep 109 = .ok (.getfield 50, 3) := by decide +kernel
theorem d_Mo_keep_112 : decode b_Mo_keep 112 = .ok (.bipush 8, 2) := by decide +kernel
theorem d_Mo_keep_114 : decode b_Mo_keep 114 = .ok (.aload_n 0, 1) := by decide +kernel
theorem d_Mo_keep_115 : decode b_Mo_keep 115 = .ok (.getfield 149, 3) := by decide +kernel
theorem d_Mo_keep_118 : decode b_Mo_keep 118 = .ok (.imul, 1) := by decide +kernel
theorem d_Mo_keep_119 : decode b_Mo_keep 119 = .ok (.iload_n 1, 1) := by decide +kernel
theorem d_Mo_keep_120 : decode b_Mo_keep 120 = .ok (.iadd, 1) := by decide +kernel
theorem d_Mo_keep_121 : decode b_Mo_keep 121 = .ok (.aload_n 0, 1) := by decide +kernel
theorem d_Mo_keep_122 : decode b_Mo_keep 122 = .ok (.getfield 41, 3) := by decide +kernel
theorem d_Mo_keep_125 : decode b_Mo_keep 125 = .ok (.iload_n 1, 1) := by decide +kernel
theorem d_Mo_keep_126 : decode b_Mo_keep 126 = .ok (.iaload, 1) := by decide +kernel
theorem d_Mo_keep_127 : decode b_Mo_keep 127 = .ok (.iastore, 1) := by decide +kernel
theorem d_Mo_keep_128 : decode b_Mo_keep 128 = .ok (.iinc 1 1, 3) := by decide +kernel
theorem d_Mo_keep_131 : decode b_Mo_keep 131 = .ok (.goto (-31), 3) := by decide +kernel
theorem d_Mo_keep_134 : decode b_Mo_keep 134 = .ok (.aload_n 0, 1) := by decide +kernel
theorem d_Mo_keep_135 : decode b_Mo_keep 135 = .ok (.dup, 1) := by decide +kernel
theorem d_Mo_keep_136 : decode b_Mo_keep 136 = .ok (.getfield 149, 3) := by decide +kernel
theorem d_Mo_keep_139 : decode b_Mo_keep 139 = .ok (.iconst 1, 1) := by decide +kernel
theorem d_Mo_keep_140 : decode b_Mo_keep 140 = .ok (.iadd, 1) := by decide +kernel
theorem d_Mo_keep_141 : decode b_Mo_keep 141 = .ok (.putfield 149, 3) := by decide +kernel
theorem d_Mo_keep_144 : decode b_Mo_keep 144 = .ok (.return_, 1) := by decide +kernel
theorem d_Mo_undo_0 : decode b_Mo_undo 0 = .ok (.aload_n 0, 1) := by decide +kernel
theorem d_Mo_undo_1 : decode b_Mo_undo 1 = .ok (.getfield 149, 3) := by decide +kernel
theorem d_Mo_undo_4 : decode b_Mo_undo 4 = .ok (.ifCond .ne 5, 3) := by decide +kernel
theorem d_Mo_undo_7 : decode b_Mo_undo 7 = .ok (.iconst 0, 1) := by decide +kernel
theorem d_Mo_undo_8 : decode b_Mo_undo 8 = .ok (.ireturn, 1) := by decide +kernel
theorem d_Mo_undo_9 : decode b_Mo_undo 9 = .ok (.aload_n 0, 1) := by decide +kernel
theorem d_Mo_undo_10 : decode b_Mo_undo 10 = .ok (.dup, 1) := by decide +kernel
theorem d_Mo_undo_11 : decode b_Mo_undo 11 = .ok (.getfield 149, 3) := by decide +kernel
theorem d_Mo_undo_14 : decode b_Mo_undo 14 = .ok (.iconst 1, 1) := by decide +kernel
theorem d_Mo_undo_15 : decode b_Mo_undo 15 = .ok (.isub, 1) := by decide +kernel
theorem d_Mo_undo_16 : decode b_Mo_undo 16 = .ok (.putfield 149, 3) := by decide +kernel
theorem d_Mo_undo_19 : decode b_Mo_undo 19 = .ok (.iconst 0, 1) := by decide +kernel
theorem d_Mo_undo_20 : decode b_Mo_undo 20 = .ok (.istore_n 1, 1) := by decide +kernel
theorem d_Mo_undo_21 : decode b_Mo_undo 21 = .ok (.iload_n 1, 1) := by decide +kernel
theorem d_Mo_undo_22 : decode b_Mo_undo 22 = .ok (.aload_n 0, 1) := by decide +kernel
theorem d_Mo_undo_23 : decode b_Mo_undo 23 = .ok (.getfield 81, 3) := by decide +kernel
theorem d_Mo_undo_26 : decode b_Mo_undo 26 = .ok (.if_icmp .ge 51, 3) := by decide +kernel
theorem d_Mo_undo_29 : decode b_Mo_undo 29 = .ok (.aload_n 0, 1) := by decide +kernel
theorem d_Mo_undo_30 : decode b_Mo_undo 30 = .ok (.getfield 41, 3) := by decide +kernel
theorem d_Mo_undo_33 : decode b_Mo_undo 33 = .ok (.iload_n 1, 1) := by decide +kernel
theorem d_Mo_undo_34 : decode b_Mo_undo 34 = .ok (.iload_n 1, 1) := by decide +kernel
theorem d_Mo_undo_35 : decode b_Mo_undo 35 = .ok (.aload_n 0, 1) := by decide +kernel
theorem d_Mo_undo_36 : decode b_Mo_undo 36 = .ok (.getfield 53, 3) := by decide +kernel
theorem d_Mo_undo_39 : decode b_Mo_undo 39 = .ok (.aload_n 0, 1) := by decide +kernel
theorem d_Mo_undo_40 : decode b_Mo_undo 40 = .ok (.getfield 149, 3) := by decide +kernel
theorem d_Mo_undo_43 : decode b_Mo_undo 43 = .ok (.iaload, 1) := by decide +kernel
theorem d_Mo_undo_44 : decode b_Mo_undo 44 = .ok (.if_icmp .ge 20, 3) := by decide +kernel
theorem d_Mo_undo_47 : decode b_Mo_undo 47 = .ok (.aload_n 0, 1) := by decide +kernel
theorem d_Mo_undo_48 : decode b_Mo_undo 48 = .ok (.getfield 50, 3) := by decide +kernel
theorem d_Mo_undo_51 : decode b_Mo_undo 51 = .ok (.bipush 8, 2) := by decide +kernel
theorem d_Mo_undo_53 : decode b_Mo_undo 53 = .ok (.aload_n 0, 1) := by decide +kernel
theorem d_Mo_undo_54 : decode b_Mo_undo 54 = .ok (.getfield 149, 3) := by decide +kernel
theorem d_Mo_undo_57 : decode b_Mo_undo 57 = .ok (.imul, 1) := by decide +kernel
theorem d_Mo_undo_58 : decode b_Mo_undo 58 = .ok (.iload_n 1, 1) := by decide +kernel
theorem d_Mo_undo_59 : decode b_Mo_undo 59 = .ok (.iadd, 1) := by decide +kernel
theorem d_Mo_undo_60 : decode b_Mo_undo 60 = .ok (.iaload, 1) := by decide +kernel
theorem d_Mo_undo_61 : decode b_Mo_undo 61 = .ok (.goto 9, 3) := by decide +kernel
theorem d_Mo_undo_64 : decode b_Mo_undo 64 = .ok (.aload_n 0, 1) := by decide +kernel
theorem d_Mo_undo_65 : decode b_Mo_undo 65 = .ok (.getfield 16, 3) := by decide +kernel
theorem d_Mo_undo_68 : decode b_Mo_undo 68 = .ok (.iload_n 1, 1) := by decide +kernel
theorem d_Mo_undo_69 : decode b_Mo_undo 69 = .ok (.iaload, 1) := by decide +kernel
theorem d_Mo_undo_70 : decode b_Mo_undo 70 = .ok (.iastore, 1) := by decide +kernel
theorem d_Mo_undo_71 : decode b_Mo_undo 71 = .ok (.iinc 1 1, 3) := by decide +kernel
theorem d_Mo_undo_74 : decode b_Mo_undo 74 = .ok (.goto (-53), 3) := by decide +kernel
theorem d_Mo_undo_77 : decode b_Mo_undo 77 = .ok (.iconst 1, 1) := by decide +kernel
theorem d_Mo_undo_78 : decode b_Mo_undo 78 = .ok (.ireturn, 1) := by decide +kernel
theorem d_Mo_vehicleOf_0 : decode b_Mo_vehicleOf 0 = .ok (.aload_n 0, 1) := by decide +kernel
theorem d_Mo_vehicleOf_1 : decode b_Mo_vehicleOf 1 = .ok (.iload_n 1, 1) := by decide +kernel
theorem d_Mo_vehicleOf_2 : decode b_Mo_vehicleOf 2 = .ok (.invokevirtual 96, 3) := by decide +kernel
theorem d_Mo_vehicleOf_5 : decode b_Mo_vehicleOf 5 = .ok (.ifCond .eq 12, 3) := by decide +kernel
theorem d_Mo_vehicleOf_8 : decode b_Mo_vehicleOf 8 = .ok (.aload_n 0, 1) := by decide +kernel
theorem d_Mo_vehicleOf_9 : decode b_Mo_vehicleOf 9 = .ok (.getfield 41, 3) := by decide +kernel
theorem d_Mo_vehicleOf_12 : decode b_Mo_vehicleOf 12 = .ok (.iload_n 1, 1) := by decide +kernel
theorem d_Mo_vehicleOf_13 : decode b_Mo_vehicleOf 13 = .ok (.iaload, 1) := by decide +kernel
theorem d_Mo_vehicleOf_14 : decode b_Mo_vehicleOf 14 = .ok (.goto 4, 3) := by decide +kernel
theorem d_Mo_vehicleOf_17 : decode b_Mo_vehicleOf 17 = .ok (.iconst (-1), 1) := by decide +kernel
theorem d_Mo_vehicleOf_18 : decode b_Mo_vehicleOf 18 = .ok (.ireturn, 1) := by decide +kernel
theorem d_Mo_place_0 : decode b_Mo_place 0 = .ok (.aload_n 0, 1) := by decide +kernel
theorem d_Mo_place_1 : decode b_Mo_place 1 = .ok (.iload_n 1, 1) := by decide +kernel
theorem d_Mo_place_2 : decode b_Mo_place 2 = .ok (.invokevirtual 96, 3) := by decide +kernel
theorem d_Mo_place_5 : decode b_Mo_place 5 = .ok (.ifCond .eq 16, 3) := by decide +kernel
theorem d_Mo_place_8 : decode b_Mo_place 8 = .ok (.aload_n 0, 1) := by decide +kernel
theorem d_Mo_place_9 : decode b_Mo_place 9 = .ok (.getfield 41, 3) := by decide +kernel
theorem d_Mo_place_12 : decode b_Mo_place 12 = .ok (.iload_n 1, 1) := by decide +kernel
theorem d_Mo_place_13 : decode b_Mo_place 13 = .ok (.iaload, 1) := by decide +kernel
theorem d_Mo_place_14 : decode b_Mo_place 14 = .ok (.aload_n 0, 1) := by decide +kernel
theorem d_Mo_place_15 : decode b_Mo_place 15 = .ok (.getfield 77, 3) := by decide +kernel
theorem d_Mo_place_18 : decode b_Mo_place 18 = .ok (.if_icmp .ne 5, 3) := by decide +kernel
theorem d_Mo_place_21 : decode b_Mo_place 21 = .ok (.iconst (-1), 1) := by decide +kernel
theorem d_Mo_place_22 : decode b_Mo_place 22 = .ok (.ireturn, 1) := by decide +kernel
theorem d_Mo_place_23 : decode b_Mo_place 23 = .ok (.aload_n 0, 1) := by decide +kernel
theorem d_Mo_place_24 : decode b_Mo_place 24 = .ok (.aload_n 0, 1) := by decide +kernel
theorem d_Mo_place_25 : decode b_Mo_place 25 = .ok (.getfield 41, 3) := by decide +kernel
theorem d_Mo_place_28 : decode b_Mo_place 28 = .ok (.aload_n 0, 1) := by decide +kernel
theorem d_Mo_place_29 : decode b_Mo_place 29 = .ok (.getfield 41, 3) := by decide +kernel
theorem d_Mo_place_32 : decode b_Mo_place 32 = .ok (.iload_n 1, 1) := by decide +kernel
theorem d_Mo_place_33 : decode b_Mo_place 33 = .ok (.iaload, 1) := by decide +kernel
theorem d_Mo_place_34 : decode b_Mo_place 34 = .ok (.invokevirtual 109, 3) := by decide +kernel
theorem d_Mo_place_37 : decode b_Mo_place 37 = .ok (.iconst 0, 1) := by decide +kernel
theorem d_Mo_place_38 : decode b_Mo_place 38 = .ok (.istore_n 2, 1) := by decide +kernel
theorem d_Mo_place_39 : decode b_Mo_place 39 = .ok (.iload_n 2, 1) := by decide +kernel
theorem d_Mo_place_40 : decode b_Mo_place 40 = .ok (.aload_n 0, 1) := by decide +kernel
theorem d_Mo_place_41 : decode b_Mo_place 41 = .ok (.getfield 106, 3) := by decide +kernel
theorem d_Mo_place_44 : decode b_Mo_place 44 = .ok (.if_icmp .ge 21, 3) := by decide +kernel
theorem d_Mo_place_47 : decode b_Mo_place 47 = .ok (.aload_n 0, 1) := by decide +kernel
theorem d_Mo_place_48 : decode b_Mo_place 48 = .ok (.getfield 68, 3) := by decide +kernel
theorem d_Mo_place_51 : decode b_Mo_place 51 = .ok (.iload_n 2, 1) := by decide +kernel
theorem d_Mo_place_52 : decode b_Mo_place 52 = .ok (.iaload, 1) := by decide +kernel
theorem d_Mo_place_53 : decode b_Mo_place 53 = .ok (.iload_n 1, 1) := by decide +kernel
theorem d_Mo_place_54 : decode b_Mo_place 54 = .ok (.if_icmp .ne 5, 3) := by decide +kernel
theorem d_Mo_place_57 : decode b_Mo_place 57 = .ok (.iload_n 2, 1) := by decide +kernel
theorem d_Mo_place_58 : decode b_Mo_place 58 = .ok (.ireturn, 1) := by decide +kernel
theorem d_Mo_place_59 : decode b_Mo_place 59 = .ok (.iinc 2 1, 3) := by decide +kernel
theorem d_Mo_place_62 : decode b_Mo_place 62 = .ok (.goto (-23), 3) := by decide +kernel
theorem d_Mo_place_65 : decode b_Mo_place 65 = .ok (.iconst (-1), 1) := by decide +kernel
theorem d_Mo_place_66 : decode b_Mo_place 66 = .ok (.ireturn, 1) := by decide +kernel
theorem d_Mo_moved_0 : decode b_Mo_moved 0 = .ok (.iconst 0, 1) := by decide +kernel
theorem d_Mo_moved_1 : decode b_Mo_moved 1 = .ok (.istore_n 2, 1) := by decide +kernel
theorem d_Mo_moved_2 : decode b_Mo_moved 2 = .ok (.iconst 0, 1) := by decide +kernel
theorem d_Mo_moved_3 : decode b_Mo_moved 3 = .ok (.istore_n 3, 1) := by decide +kernel
theorem d_Mo_moved_4 : decode b_Mo_moved 4 = .ok (.iload_n 3, 1) := by decide +kernel
theorem d_Mo_moved_5 : decode b_Mo_moved 5 = .ok (.aload_n 0, 1) := by decide +kernel
theorem d_Mo_moved_6 : decode b_Mo_moved 6 = .ok (.getfield 81, 3) := by decide +kernel
theorem d_Mo_moved_9 : decode b_Mo_moved 9 = .ok (.if_icmp .ge 34, 3) := by decide +kernel
theorem d_Mo_moved_12 : decode b_Mo_moved 12 = .ok (.aload_n 0, 1) := by decide +kernel
theorem d_Mo_moved_13 : decode b_Mo_moved 13 = .ok (.getfield 41, 3) := by decide +kernel
theorem d_Mo_moved_16 : decode b_Mo_moved 16 = .ok (.iload_n 3, 1) := by decide +kernel
theorem d_Mo_moved_17 : decode b_Mo_moved 17 = .ok (.iaload, 1) := by decide +kernel
theorem d_Mo_moved_18 : decode b_Mo_moved 18 = .ok (.aload_n 0, 1) := by decide +kernel
theorem d_Mo_moved_19 : decode b_Mo_moved 19 = .ok (.getfield 16, 3) := by decide +kernel
theorem d_Mo_moved_22 : decode b_Mo_moved 22 = .ok (.iload_n 3, 1) := by decide +kernel
theorem d_Mo_moved_23 : decode b_Mo_moved 23 = .ok (.iaload, 1) := by decide +kernel
theorem d_Mo_moved_24 : decode b_Mo_moved 24 = .ok (.if_icmp .eq 13, 3) := by decide +kernel
theorem d_Mo_moved_27 : decode b_Mo_moved 27 = .ok (.iload_n 2, 1) := by decide +kernel
theorem d_Mo_moved_28 : decode b_Mo_moved 28 = .ok (.iload_n 1, 1) := by decide +kernel
theorem d_Mo_moved_29 : decode b_Mo_moved 29 = .ok (.if_icmp .ne 5, 3) := by decide +kernel
theorem d_Mo_moved_32 : decode b_Mo_moved 32 = .ok (.iload_n 3, 1) := by decide +kernel
theorem d_Mo_moved_33 : decode b_Mo_moved 33 = .ok (.ireturn, 1) := by decide +kernel
theorem d_Mo_moved_34 : decode b_Mo_moved 34 = .ok (.iinc 2 1, 3) := by decide +kernel
theorem d_Mo_moved_37 : decode b_Mo_moved 37 = .ok (.iinc 3 1, 3) := by decide +kernel
theorem d_Mo_moved_40 : decode b_Mo_moved 40 = .ok (.goto (-36), 3) := by decide +kernel
theorem d_Mo_moved_43 : decode b_Mo_moved 43 = .ok (.iconst (-1), 1) := by decide +kernel
theorem d_Mo_moved_44 : decode b_Mo_moved 44 = .ok (.ireturn, 1) := by decide +kernel
theorem d_Mo_carried_0 : decode b_Mo_carried 0 = .ok (.iconst 0, 1) := by decide +kernel
theorem d_Mo_carried_1 : decode b_Mo_carried 1 = .ok (.istore_n 2, 1) := by decide +kernel
theorem d_Mo_carried_2 : decode b_Mo_carried 2 = .ok (.iconst 0, 1) := by decide +kernel
theorem d_Mo_carried_3 : decode b_Mo_carried 3 = .ok (.istore_n 3, 1) := by decide +kernel
theorem d_Mo_carried_4 : decode b_Mo_carried 4 = .ok (.iload_n 3, 1) := by decide +kernel
theorem d_Mo_carried_5 : decode b_Mo_carried 5 = .ok (.aload_n 0, 1) := by decide +kernel
theorem d_Mo_carried_6 : decode b_Mo_carried 6 = .ok (.getfield 81, 3) := by decide +kernel
theorem d_Mo_carried_9 : decode b_Mo_carried 9 = .ok (.if_icmp .ge 32, 3) := by decide +kernel
theorem d_Mo_carried_12 : decode b_Mo_carried 12 = .ok (.aload_n 0, 1) := by decide +kernel
theorem d_Mo_carried_13 : decode b_Mo_carried 13 = .ok (.getfield 41, 3) := by decide +kernel
theorem d_Mo_carried_16 : decode b_Mo_carried 16 = .ok (.iload_n 3, 1) := by decide +kernel
theorem d_Mo_carried_17 : decode b_Mo_carried 17 = .ok (.iaload, 1) := by decide +kernel
theorem d_Mo_carried_18 : decode b_Mo_carried 18 = .ok (.aload_n 0, 1) := by decide +kernel
theorem d_Mo_carried_19 : decode b_Mo_carried 19 = .ok (.getfield 77, 3) := by decide +kernel
theorem d_Mo_carried_22 : decode b_Mo_carried 22 = .ok (.if_icmp .ne 13, 3) := by decide +kernel
theorem d_Mo_carried_25 : decode b_Mo_carried 25 = .ok (.iload_n 2, 1) := by decide +kernel
theorem d_Mo_carried_26 : decode b_Mo_carried 26 = .ok (.iload_n 1, 1) := by decide +kernel
theorem d_Mo_carried_27 : decode b_Mo_carried 27 = .ok (.if_icmp .ne 5, 3) := by decide +kernel
theorem d_Mo_carried_30 : decode b_Mo_carried 30 = .ok (.iload_n 3, 1) := by decide +kernel
theorem d_Mo_carried_31 : decode b_Mo_carried 31 = .ok (.ireturn, 1) := by decide +kernel
theorem d_Mo_carried_32 : decode b_Mo_carried 32 = .ok (.iinc 2 1, 3) := by decide +kernel
theorem d_Mo_carried_35 : decode b_Mo_carried 35 = .ok (.iinc 3 1, 3) := by decide +kernel
theorem d_Mo_carried_38 : decode b_Mo_carried 38 = .ok (.goto (-34), 3) := by decide +kernel
theorem d_Mo_carried_41 : decode b_Mo_carried 41 = .ok (.iconst (-1), 1) := by decide +kernel
theorem d_Mo_carried_42 : decode b_Mo_carried 42 = .ok (.ireturn, 1) := by decide +kernel
theorem d_Mo_send_0 : decode b_Mo_send 0 = .ok (.iconst 0, 1) := by decide +kernel
theorem d_Mo_send_1 : decode b_Mo_send 1 = .ok (.istore_n 1, 1) := by decide +kernel
theorem d_Mo_send_2 : decode b_Mo_send 2 = .ok (.iconst 0, 1) := by decide +kernel
theorem d_Mo_send_3 : decode b_Mo_send 3 = .ok (.istore_n 2, 1) := by decide +kernel
theorem d_Mo_send_4 : decode b_Mo_send 4 = .ok (.iload_n 2, 1) := by decide +kernel
theorem d_Mo_send_5 : decode b_Mo_send 5 = .ok (.aload_n 0, 1) := by decide +kernel
theorem d_Mo_send_6 : decode b_Mo_send 6 = .ok (.getfield 81, 3) := by decide +kernel
theorem d_Mo_send_9 : decode b_Mo_send 9 = .ok (.if_icmp .ge 49, 3) := by decide +kernel
theorem d_Mo_send_12 : decode b_Mo_send 12 = .ok (.aload_n 0, 1) := by decide +kernel
theorem d_Mo_send_13 : decode b_Mo_send 13 = .ok (.getfield 41, 3) := by decide +kernel
theorem d_Mo_send_16 : decode b_Mo_send 16 = .ok (.iload_n 2, 1) := by decide +kernel
theorem d_Mo_send_17 : decode b_Mo_send 17 = .ok (.iaload, 1) := by decide +kernel
theorem d_Mo_send_18 : decode b_Mo_send 18 = .ok (.aload_n 0, 1) := by decide +kernel
theorem d_Mo_send_19 : decode b_Mo_send 19 = .ok (.getfield 62, 3) := by decide +kernel
theorem d_Mo_send_22 : decode b_Mo_send 22 = .ok (.iload_n 2, 1) := by decide +kernel
theorem d_Mo_send_23 : decode b_Mo_send 23 = .ok (.iaload, 1) := by decide +kernel
theorem d_Mo_send_24 : decode b_Mo_send 24 = .ok (.if_icmp .eq 28, 3) := by decide +kernel
theorem d_Mo_send_27 : decode b_Mo_send 27 = .ok (.aload_n 0, 1) := by decide +kernel
theorem d_Mo_send_28 : decode b_Mo_send 28 = .ok (.getfield 62, 3) := by decide +kernel
theorem d_Mo_send_31 : decode b_Mo_send 31 = .ok (.iload_n 2, 1) := by decide +kernel
theorem d_Mo_send_32 : decode b_Mo_send 32 = .ok (.aload_n 0, 1) := by decide +kernel
theorem d_Mo_send_33 : decode b_Mo_send 33 = .ok (.getfield 41, 3) := by decide +kernel
theorem d_Mo_send_36 : decode b_Mo_send 36 = .ok (.iload_n 2, 1) := by decide +kernel
theorem d_Mo_send_37 : decode b_Mo_send 37 = .ok (.iaload, 1) := by decide +kernel
theorem d_Mo_send_38 : decode b_Mo_send 38 = .ok (.iastore, 1) := by decide +kernel
theorem d_Mo_send_39 : decode b_Mo_send 39 = .ok (.aload_n 0, 1) := by decide +kernel
theorem d_Mo_send_40 : decode b_Mo_send 40 = .ok (.getfield 65, 3) := by decide +kernel
theorem d_Mo_send_43 : decode b_Mo_send 43 = .ok (.iload_n 2, 1) := by decide +kernel
theorem d_Mo_send_44 : decode b_Mo_send 44 = .ok (.dup2, 1) := by decide +kernel
theorem d_Mo_send_45 : decode b_Mo_send 45 = .ok (.iaload, 1) := by decide +kernel
theorem d_Mo_send_46 : decode b_Mo_send 46 = .ok (.iconst 1, 1) := by decide +kernel
theorem d_Mo_send_47 : decode b_Mo_send 47 = .ok (.iadd, 1) := by decide +kernel
theorem d_Mo_send_48 : decode b_Mo_send 48 = .ok (.iastore, 1) := by decide +kernel
theorem d_Mo_send_49 : decode b_Mo_send 49 = .ok (.iinc 1 1, 3) := by decide +kernel
theorem d_Mo_send_52 : decode b_Mo_send 52 = .ok (.iinc 2 1, 3) := by decide +kernel
theorem d_Mo_send_55 : decode b_Mo_send 55 = .ok (.goto (-51), 3) := by decide +kernel
theorem d_Mo_send_58 : decode b_Mo_send 58 = .ok (.iload_n 1, 1) := by decide +kernel
theorem d_Mo_send_59 : decode b_Mo_send 59 = .ok (.ireturn, 1) := by decide +kernel
theorem d_Mo_sent_0 : decode b_Mo_sent 0 = .ok (.aload_n 0, 1) := by decide +kernel
theorem d_Mo_sent_1 : decode b_Mo_sent 1 = .ok (.iload_n 1, 1) := by decide +kernel
theorem d_Mo_sent_2 : decode b_Mo_sent 2 = .ok (.invokevirtual 96, 3) := by decide +kernel
theorem d_Mo_sent_5 : decode b_Mo_sent 5 = .ok (.ifCond .eq 12, 3) := by decide +kernel
theorem d_Mo_sent_8 : decode b_Mo_sent 8 = .ok (.aload_n 0, 1) := by decide +kernel
theorem d_Mo_sent_9 : decode b_Mo_sent 9 = .ok (.getfield 65, 3) := by decide +kernel
theorem d_Mo_sent_12 : decode b_Mo_sent 12 = .ok (.iload_n 1, 1) := by decide +kernel
theorem d_Mo_sent_13 : decode b_Mo_sent 13 = .ok (.iaload, 1) := by decide +kernel
theorem d_Mo_sent_14 : decode b_Mo_sent 14 = .ok (.goto 4, 3) := by decide +kernel
theorem d_Mo_sent_17 : decode b_Mo_sent 17 = .ok (.iconst (-1), 1) := by decide +kernel
theorem d_Mo_sent_18 : decode b_Mo_sent 18 = .ok (.ireturn, 1) := by decide +kernel
theorem d_Mo_copy_0 : decode b_Mo_copy 0 = .ok (.aload_n 0, 1) := by decide +kernel
theorem d_Mo_copy_1 : decode b_Mo_copy 1 = .ok (.getfield 152, 3) := by decide +kernel
theorem d_Mo_copy_4 : decode b_Mo_copy 4 = .ok (.iconst 4, 1) := by decide +kernel
theorem d_Mo_copy_5 : decode b_Mo_copy 5 = .ok (.if_icmp .ne 5, 3) := by decide +kernel
theorem d_Mo_copy_8 : decode b_Mo_copy 8 = .ok (.iconst (-1), 1) := by decide +kernel
theorem d_Mo_copy_9 : decode b_Mo_copy 9 = .ok (.ireturn, 1) := by decide +kernel
theorem d_Mo_copy_10 : decode b_Mo_copy 10 = .ok (.aload_n 0, 1) := by decide +kernel
theorem d_Mo_copy_11 : decode b_Mo_copy 11 = .ok (.getfield 59, 3) := by decide +kernel
theorem d_Mo_copy_14 : decode b_Mo_copy 14 = .ok (.aload_n 0, 1) := by decide +kernel
theorem d_Mo_copy_15 : decode b_Mo_copy 15 = .ok (.getfield 152, 3) := by decide +kernel
theorem d_Mo_copy_18 : decode b_Mo_copy 18 = .ok (.aload_n 0, 1) := by decide +kernel
theorem d_Mo_copy_19 : decode b_Mo_copy 19 = .ok (.getfield 81, 3) := by decide +kernel
theorem d_Mo_copy_22 : decode b_Mo_copy 22 = .ok (.iastore, 1) := by decide +kernel
theorem d_Mo_copy_23 : decode b_Mo_copy 23 = .ok (.iconst 0, 1) := by decide +kernel
theorem d_Mo_copy_24 : decode b_Mo_copy 24 = .ok (.istore_n 1, 1) := by decide +kernel
theorem d_Mo_copy_25 : decode b_Mo_copy 25 = .ok (.iload_n 1, 1) := by decide +kernel
theorem d_Mo_copy_26 : decode b_Mo_copy 26 = .ok (.aload_n 0, 1) := by decide +kernel
theorem d_Mo_copy_27 : decode b_Mo_copy 27 = .ok (.getfield 81, 3) := by decide +kernel
theorem d_Mo_copy_30 : decode b_Mo_copy 30 = .ok (.if_icmp .ge 29, 3) := by decide +kernel
theorem d_Mo_copy_33 : decode b_Mo_copy 33 = .ok (.aload_n 0, 1) := by decide +kernel
theorem d_Mo_copy_34 : decode b_Mo_copy 34 = .ok (.getfield 56, 3) := by decide +kernel
theorem d_Mo_copy_37 : decode b_Mo_copy 37 = .ok (.bipush 8, 2) := by decide +kernel
theorem d_Mo_copy_39 : decode b_Mo_copy 39 = .ok (.aload_n 0, 1) := by decide +kernel
theorem d_Mo_copy_40 : decode b_Mo_copy 40 = .ok (.getfield 152, 3) := by decide +kernel
theorem d_Mo_copy_43 : decode b_Mo_copy 43 = .ok (.imul, 1) := by decide +kernel
theorem d_Mo_copy_44 : decode b_Mo_copy 44 = .ok (.iload_n 1, 1) := by decide +kernel
theorem d_Mo_copy_45 : decode b_Mo_copy 45 = .ok (.iadd, 1) := by decide +kernel
theorem d_Mo_copy_46 : decode b_Mo_copy 46 = .ok (.aload_n 0, 1) := by decide +kernel
theorem d_Mo_copy_47 : decode b_Mo_copy 47 = .ok (.getfield 41, 3) := by decide +kernel
theorem d_Mo_copy_50 : decode b_Mo_copy 50 = .ok (.iload_n 1, 1) := by decide +kernel
theorem d_Mo_copy_51 : decode b_Mo_copy 51 = .ok (.iaload, 1) := by decide +kernel
theorem d_Mo_copy_52 : decode b_Mo_copy 52 = .ok (.iastore, 1) := by decide +kernel
theorem d_Mo_copy_53 : decode b_Mo_copy 53 = .ok (.iinc 1 1, 3) := by decide +kernel
theorem d_Mo_copy_56 : decode b_Mo_copy 56 = .ok (.goto (-31), 3) := by decide +kernel
theorem d_Mo_copy_59 : decode b_Mo_copy 59 = .ok (.aload_n 0, 1) := by decide +kernel
theorem d_Mo_copy_60 : decode b_Mo_copy 60 = .ok (.dup, 1) := by decide +kernel
theorem d_Mo_copy_61 : decode b_Mo_copy 61 = .ok (.getfield 152, 3) := by decide +kernel
theorem d_Mo_copy_64 : decode b_Mo_copy 64 = .ok (.iconst 1, 1) := by decide +kernel
theorem d_Mo_copy_65 : decode b_Mo_copy 65 = .ok (.iadd, 1) := by decide +kernel
theorem d_Mo_copy_66 : decode b_Mo_copy 66 = .ok (.putfield 152, 3) := by decide +kernel
theorem d_Mo_copy_69 : decode b_Mo_copy 69 = .ok (.aload_n 0, 1) := by decide +kernel
theorem d_Mo_copy_70 : decode b_Mo_copy 70 = .ok (.getfield 152, 3) := by decide +kernel
theorem d_Mo_copy_73 : decode b_Mo_copy 73 = .ok (.iconst 1, 1) := by decide +kernel
theorem d_Mo_copy_74 : decode b_Mo_copy 74 = .ok (.isub, 1) := by decide +kernel
theorem d_Mo_copy_75 : decode b_Mo_copy 75 = .ok (.ireturn, 1) := by decide +kernel
theorem d_Mo_compare_0 : decode b_Mo_compare 0 = .ok (.iload_n 1, 1) := by decide +kernel
theorem d_Mo_compare_1 : decode b_Mo_compare 1 = .ok (.ifCond .lt 11, 3) := by decide +kernel
theorem d_Mo_compare_4 : decode b_Mo_compare 4 = .ok (.iload_n 1, 1) := by decide +kernel
theorem d_Mo_compare_5 : decode b_Mo_compare 5 = .ok (.aload_n 0, 1) := by decide +kernel
theorem d_Mo_compare_6 : decode b_Mo_compare 6 = .ok (.getfield 152, 3) := by decide +kernel
theorem d_Mo_compare_9 : decode b_Mo_compare 9 = .ok (.if_icmp .lt 5, 3) := by decide +kernel
theorem d_Mo_compare_12 : decode b_Mo_compare 12 = .ok (.iconst (-1), 1) := by decide +kernel
theorem d_Mo_compare_13 : decode b_Mo_compare 13 = .ok (.ireturn, 1) := by decide +kernel
theorem d_Mo_compare_14 : decode b_Mo_compare 14 = .ok (.iconst 0, 1) := by decide +kernel
theorem d_Mo_compare_15 : decode b_Mo_compare 15 = .ok (.istore_n 3, 1) := by decide +kernel
theorem d_Mo_compare_16 : decode b_Mo_compare 16 = .ok (.iconst 0, 1) := by decide +kernel
theorem d_Mo_compare_17 : decode b_Mo_compare 17 = .ok (.istore 4, 2) := by decide +kernel
theorem d_Mo_compare_19 : decode b_Mo_compare 19 = .ok (.iload 4, 2) := by decide +kernel
theorem d_Mo_compare_21 : decode b_Mo_compare 21 = .ok (.aload_n 0, 1) := by decide +kernel
theorem d_Mo_compare_22 : decode b_Mo_compare 22 = .ok (.getfield 59, 3) := by decide +kernel
theorem d_Mo_compare_25 : decode b_Mo_compare 25 = .ok (.iload_n 1, 1) := by decide +kernel
theorem d_Mo_compare_26 : decode b_Mo_compare 26 = .ok (.iaload, 1) := by decide +kernel
theorem d_Mo_compare_27 : decode b_Mo_compare 27 = .ok (.if_icmp .ge 42, 3) := by decide +kernel
theorem d_Mo_compare_30 : decode b_Mo_compare 30 = .ok (.aload_n 0, 1) := by decide +kernel
theorem d_Mo_compare_31 : decode b_Mo_compare 31 = .ok (.getfield 56, 3) := by decide +kernel
theorem d_Mo_compare_34 : decode b_Mo_compare 34 = .ok (.bipush 8, 2) := by decide +kernel
theorem d_Mo_compare_36 : decode b_Mo_compare 36 = .ok (.iload_n 1, 1) := by decide +kernel
theorem d_Mo_compare_37 : decode b_Mo_compare 37 = .ok (.imul, 1) := by decide +kernel
theorem d_Mo_compare_38 : decode b_Mo_compare 38 = .ok (.iload 4, 2) := by decide +kernel
theorem d_Mo_compare_40 : decode b_Mo_compare 40 = .ok (.iadd, 1) := by decide +kernel
theorem d_Mo_compare_41 : decode b_Mo_compare 41 = .ok (.iaload, 1) := by decide +kernel
theorem d_Mo_compare_42 : decode b_Mo_compare 42 = .ok (.aload_n 0, 1) := by decide +kernel
theorem d_Mo_compare_43 : decode b_Mo_compare 43 = .ok (.getfield 41, 3) := by decide +kernel
theorem d_Mo_compare_46 : decode b_Mo_compare 46 = .ok (.iload 4, 2) := by decide +kernel
theorem d_Mo_compare_48 : decode b_Mo_compare 48 = .ok (.iaload, 1) := by decide +kernel
theorem d_Mo_compare_49 : decode b_Mo_compare 49 = .ok (.if_icmp .eq 14, 3) := by decide +kernel
theorem d_Mo_compare_52 : decode b_Mo_compare 52 = .ok (.iload_n 3, 1) := by decide +kernel
theorem d_Mo_compare_53 : decode b_Mo_compare 53 = .ok (.iload_n 2, 1) := by decide +kernel
theorem d_Mo_compare_54 : decode b_Mo_compare 54 = .ok (.if_icmp .ne 6, 3) := by decide +kernel
theorem d_Mo_compare_57 : decode b_Mo_compare 57 = .ok (.iload 4, 2) := by decide +kernel
theorem d_Mo_compare_59 : decode b_Mo_compare 59 = .ok (.ireturn, 1) := by decide +kernel
theorem d_Mo_compare_60 : decode b_Mo_compare 60 = .ok (.iinc 3 1, 3) := by decide +kernel
theorem d_Mo_compare_63 : decode b_Mo_compare 63 = .ok (.iinc 4 1, 3) := by decide +kernel
theorem d_Mo_compare_66 : decode b_Mo_compare 66 = .ok (.goto (-47), 3) := by decide +kernel
theorem d_Mo_compare_69 : decode b_Mo_compare 69 = .ok (.iconst (-1), 1) := by decide +kernel
theorem d_Mo_compare_70 : decode b_Mo_compare 70 = .ok (.ireturn, 1) := by decide +kernel
theorem d_Mo_next_0 : decode b_Mo_next 0 = .ok (.iconst 0, 1) := by decide +kernel
theorem d_Mo_next_1 : decode b_Mo_next 1 = .ok (.istore_n 1, 1) := by decide +kernel
theorem d_Mo_next_2 : decode b_Mo_next 2 = .ok (.iconst 0, 1) := by decide +kernel
theorem d_Mo_next_3 : decode b_Mo_next 3 = .ok (.istore_n 2, 1) := by decide +kernel
theorem d_Mo_next_4 : decode b_Mo_next 4 = .ok (.iload_n 2, 1) := by decide +kernel
theorem d_Mo_next_5 : decode b_Mo_next 5 = .ok (.aload_n 0, 1) := by decide +kernel
theorem d_Mo_next_6 : decode b_Mo_next 6 = .ok (.getfield 77, 3) := by decide +kernel
theorem d_Mo_next_9 : decode b_Mo_next 9 = .ok (.if_icmp .ge 132, 3) := by decide +kernel
theorem d_Mo_next_12 : decode b_Mo_next 12 = .ok (.iconst 0, 1) := by decide +kernel
theorem d_Mo_next_13 : decode b_Mo_next 13 = .ok (.istore_n 3, 1) := by decide +kernel
theorem d_Mo_next_14 : decode b_Mo_next 14 = .ok (.iconst 0, 1) := by decide +kernel
theorem d_Mo_next_15 : decode b_Mo_next 15 = .ok (.istore 4, 2) := by decide +kernel
theorem d_Mo_next_17 : decode b_Mo_next 17 = .ok (.iload 4, 2) := by decide +kernel
theorem d_Mo_next_19 : decode b_Mo_next 19 = .ok (.aload_n 0, 1) := by decide +kernel
theorem d_Mo_next_20 : decode b_Mo_next 20 = .ok (.getfield 81, 3) := by decide +kernel
theorem d_Mo_next_23 : decode b_Mo_next 23 = .ok (.if_icmp .ge 56, 3) := by decide +kernel
theorem d_Mo_next_26 : decode b_Mo_next 26 = .ok (.aload_n 0, 1) := by decide +kernel
theorem d_Mo_next_27 : decode b_Mo_next 27 = .ok (.getfield 41, 3) := by decide +kernel
theorem d_Mo_next_30 : decode b_Mo_next 30 = .ok (.iload 4, 2) := by decide +kernel
theorem d_Mo_next_32 : decode b_Mo_next 32 = .ok (.iaload, 1) := by decide +kernel
theorem d_Mo_next_33 : decode b_Mo_next 33 = .ok (.aload_n 0, 1) := by decide +kernel
theorem d_Mo_next_34 : decode b_Mo_next 34 = .ok (.getfield 77, 3) := by decide +kernel
theorem d_Mo_next_37 : decode b_Mo_next 37 = .ok (.if_icmp .ne 36, 3) := by decide +kernel
theorem d_Mo_next_40 : decode b_Mo_next 40 = .ok (.aload_n 0, 1) := by decide +kernel
theorem d_Mo_next_41 : decode b_Mo_next 41 = .ok (.getfield 16, 3) := by decide +kernel
theorem d_Mo_next_44 : decode b_Mo_next 44 = .ok (.iload 4, 2) := by decide +kernel
theorem d_Mo_next_46 : decode b_Mo_next 46 = .ok (.iaload, 1) := by decide +kernel
theorem d_Mo_next_47 : decode b_Mo_next 47 = .ok (.iload_n 2, 1) := by decide +kernel
theorem d_Mo_next_48 : decode b_Mo_next 48 = .ok (.if_icmp .ne 25, 3) := by decide +kernel
theorem d_Mo_next_51 : decode b_Mo_next 51 = .ok (.aload_n 0, 1) := by decide +kernel
theorem d_Mo_next_52 : decode b_Mo_next 52 = .ok (.getfield 71, 3) := by decide +kernel
theorem d_Mo_next_55 : decode b_Mo_next 55 = .ok (.iload 4, 2) := by decide +kernel
theorem d_Mo_next_57 : decode b_Mo_next 57 = .ok (.iload_n 2, 1) := by decide +kernel
theorem d_Mo_next_58 : decode b_Mo_next 58 = .ok (.iastore, 1) := by decide +kernel
theorem d_Mo_next_59 : decode b_Mo_next 59 = .ok (.aload_n 0, 1) := by decide +kernel
theorem d_Mo_next_60 : decode b_Mo_next 60 = .ok (.getfield 74, 3) := by decide +kernel
theorem d_Mo_next_63 : decode b_Mo_next 63 = .ok (.iload 4, 2) := by decide +kernel
theorem d_Mo_next_65 : decode b_Mo_next 65 = .ok (.iload_n 3, 1) := by decide +kernel
theorem d_Mo_next_66 : decode b_Mo_next 66 = .ok (.iastore, 1) := by decide +kernel
theorem d_Mo_next_67 : decode b_Mo_next 67 = .ok (.iinc 3 1, 3) := by decide +kernel
theorem d_Mo_next_70 : decode b_Mo_next 70 = .ok (.iinc 1 1, 3) := by decide +kernel
theorem d_Mo_next_73 : decode b_Mo_next 73 = .ok (.iinc 4 1, 3) := by decide +kernel
theorem d_Mo_next_76 : decode b_Mo_next 76 = .ok (.goto (-59), 3) := by decide +kernel
theorem d_Mo_next_79 : decode b_Mo_next 79 = .ok (.aload_n 0, 1) := by decide +kernel
theorem d_Mo_next_80 : decode b_Mo_next 80 = .ok (.aload_n 0, 1) := by decide +kernel
theorem d_Mo_next_81 : decode b_Mo_next 81 = .ok (.getfield 41, 3) := by decide +kernel
theorem d_Mo_next_84 : decode b_Mo_next 84 = .ok (.iload_n 2, 1) := by decide +kernel
theorem d_Mo_next_85 : decode b_Mo_next 85 = .ok (.invokevirtual 109, 3) := by decide +kernel
theorem d_Mo_next_88 : decode b_Mo_next 88 = .ok (.iconst 0, 1) := by decide +kernel
theorem d_Mo_next_89 : decode b_Mo_next 89 = .ok (.istore 4, 2) := by decide +kernel
theorem d_Mo_next_91 : decode b_Mo_next 91 = .ok (.iload 4, 2) := by decide +kernel
theorem d_Mo_next_93 : decode b_Mo_next 93 = .ok (.aload_n 0, 1) := by decide +kernel
theorem d_Mo_next_94 : decode b_Mo_next 94 = .ok (.getfield 106, 3) := by decide +kernel
theorem d_Mo_next_97 : decode b_Mo_next 97 = .ok (.if_icmp .ge 38, 3) := by decide +kernel
theorem d_Mo_next_100 : decode b_Mo_next 100 = .ok (.aload_n 0, 1) := by decide +kernel
theorem d_Mo_next_101 : decode b_Mo_next 101 = .ok (.getfield 71, 3) := by decide +kernel
theorem d_Mo_next_104 : decode b_Mo_next 104 = .ok (.aload_n 0, 1) := by decide +kernel
theorem d_Mo_next_105 : decode b_Mo_next 105 = .ok (.getfield 68, 3) := by decide +kernel
theorem d_Mo_next_108 : decode b_Mo_next 108 = .ok (.iload 4, 2) := by decide +kernel
theorem d_Mo_next_110 : decode b_Mo_next 110 = .ok (.iaload, 1) := by decide +kernel
theorem d_Mo_next_111 : decode b_Mo_next 111 = .ok (.iload_n 2, 1) := by decide +kernel
theorem d_Mo_next_112 : decode b_Mo_next 112 = .ok (.iastore, 1) := by decide +kernel
theorem d_Mo_next_113 : decode b_Mo_next 113 = .ok (.aload_n 0, 1) := by decide +kernel
theorem d_Mo_next_114 : decode b_Mo_next 114 = .ok (.getfield 74, 3) := by decide +kernel
theorem d_Mo_next_117 : decode b_Mo_next 117 = .ok (.aload_n 0, 1) := by decide +kernel
theorem d_Mo_next_118 : decode b_Mo_next 118 = .ok (.getfield 68, 3) := by decide +kernel
theorem d_Mo_next_121 : decode b_Mo_next 121 = .ok (.iload 4, 2) := by decide +kernel
theorem d_Mo_next_123 : decode b_Mo_next 123 = .ok (.iaload, 1) := by decide +kernel
theorem d_Mo_next_124 : decode b_Mo_next 124 = .ok (.iload_n 3, 1) := by decide +kernel
theorem d_Mo_next_125 : decode b_Mo_next 125 = .ok (.iastore, 1) := by decide +kernel
theorem d_Mo_next_126 : decode b_Mo_next 126 = .ok (.iinc 3 1, 3) := by decide +kernel
theorem d_Mo_next_129 : decode b_Mo_next 129 = .ok (.iinc 4 1, 3) := by decide +kernel
theorem d_Mo_next_132 : decode b_Mo_next 132 = .ok (.goto (-41), 3) := by decide +kernel
theorem d_Mo_next_135 : decode b_Mo_next 135 = .ok (.iinc 2 1, 3) := by decide +kernel
theorem d_Mo_next_138 : decode b_Mo_next 138 = .ok (.goto (-134), 3) := by decide +kernel
theorem d_Mo_next_141 : decode b_Mo_next 141 = .ok (.iconst 0, 1) := by decide +kernel
theorem d_Mo_next_142 : decode b_Mo_next 142 = .ok (.istore_n 2, 1) := by decide +kernel
theorem d_Mo_next_143 : decode b_Mo_next 143 = .ok (.iload_n 2, 1) := by decide +kernel
theorem d_Mo_next_144 : decode b_Mo_next 144 = .ok (.iconst 3, 1) := by decide +kernel
theorem d_Mo_next_145 : decode b_Mo_next 145 = .ok (.if_icmp .ge 24, 3) := by decide +kernel
theorem d_Mo_next_148 : decode b_Mo_next 148 = .ok (.aload_n 0, 1) := by decide +kernel
theorem d_Mo_next_149 : decode b_Mo_next 149 = .ok (.getfield 22, 3) := by decide +kernel
theorem d_Mo_next_152 : decode b_Mo_next 152 = .ok (.iload_n 2, 1) := by decide +kernel
theorem d_Mo_next_153 : decode b_Mo_next 153 = .ok (.iconst 0, 1) := by decide +kernel
theorem d_Mo_next_154 : decode b_Mo_next 154 = .ok (.iastore, 1) := by decide +kernel
theorem d_Mo_next_155 : decode b_Mo_next 155 = .ok (.aload_n 0, 1) := by decide +kernel
theorem d_Mo_next_156 : decode b_Mo_next 156 = .ok (.getfield 32, 3) := by decide +kernel
theorem d_Mo_next_159 : decode b_Mo_next 159 = .ok (.iload_n 2, 1) := by decide +kernel
theorem d_Mo_next_160 : decode b_Mo_next 160 = .ok (.bipush 8, 2) := by decide +kernel
theorem d_Mo_next_162 : decode b_Mo_next 162 = .ok (.iastore, 1) := by decide +kernel
theorem d_Mo_next_163 : decode b_Mo_next 163 = .ok (.iinc 2 1, 3) := by decide +kernel
theorem d_Mo_next_166 : decode b_Mo_next 166 = .ok (.goto (-23), 3) := by decide +kernel
theorem d_Mo_next_169 : decode b_Mo_next 169 = .ok (.iconst 0, 1) := by decide +kernel
theorem d_Mo_next_170 : decode b_Mo_next 170 = .ok (.istore_n 2, 1) := by decide +kernel
theorem d_Mo_next_171 : decode b_Mo_next 171 = .ok (.iload_n 2, 1) := by decide +kernel
theorem d_Mo_next_172 : decode b_Mo_next 172 = .ok (.aload_n 0, 1) := by decide +kernel
theorem d_Mo_next_173 : decode b_Mo_next 173 = .ok (.getfield 81, 3) := by decide +kernel
theorem d_Mo_next_176 : decode b_Mo_next 176 = .ok (.if_icmp .ge 74, 3) := by decide +kernel
theorem d_Mo_next_179 : decode b_Mo_next 179 = .ok (.aload_n 0, 1) := by decide +kernel
theorem d_Mo_next_180 : decode b_Mo_next 180 = .ok (.getfield 16, 3) := by decide +kernel
theorem d_Mo_next_183 : decode b_Mo_next 183 = .ok (.iload_n 2, 1) := by decide +kernel
theorem d_Mo_next_184 : decode b_Mo_next 184 = .ok (.aload_n 0, 1) := by decide +kernel
theorem d_Mo_next_185 : decode b_Mo_next 185 = .ok (.getfield 71, 3) := by decide +kernel
theorem d_Mo_next_188 : decode b_Mo_next 188 = .ok (.iload_n 2, 1) := by decide +kernel
theorem d_Mo_next_189 : decode b_Mo_next 189 = .ok (.iaload, 1) := by decide +kernel
theorem d_Mo_next_190 : decode b_Mo_next 190 = .ok (.iastore, 1) := by decide +kernel
theorem d_Mo_next_191 : decode b_Mo_next 191 = .ok (.aload_n 0, 1) := by decide +kernel
theorem d_Mo_next_192 : decode b_Mo_next 192 = .ok (.getfield 19, 3) := by decide +kernel
theorem d_Mo_next_195 : decode b_Mo_next 195 = .ok (.iload_n 2, 1) := by decide +kernel
theorem d_Mo_next_196 : decode b_Mo_next 196 = .ok (.aload_n 0, 1) := by decide +kernel
theorem d_Mo_next_197 : decode b_Mo_next 197 = .ok (.getfield 74, 3) := by decide +kernel
theorem d_Mo_next_200 : decode b_Mo_next 200 = .ok (.iload_n 2, 1) := by decide +kernel
theorem d_Mo_next_201 : decode b_Mo_next 201 = .ok (.iaload, 1) := by decide +kernel
theorem d_Mo_next_202 : decode b_Mo_next 202 = .ok (.iastore, 1) := by decide +kernel
theorem d_Mo_next_203 : decode b_Mo_next 203 = .ok (.aload_n 0, 1) := by decide +kernel
theorem d_Mo_next_204 : decode b_Mo_next 204 = .ok (.getfield 22, 3) := by decide +kernel
theorem d_Mo_next_207 : decode b_Mo_next 207 = .ok (.aload_n 0, 1) := by decide +kernel
theorem d_Mo_next_208 : decode b_Mo_next 208 = .ok (.getfield 16, 3) := by decide +kernel
theorem d_Mo_next_211 : decode b_Mo_next 211 = .ok (.iload_n 2, 1) := by decide +kernel
theorem d_Mo_next_212 : decode b_Mo_next 212 = .ok (.iaload, 1) := by decide +kernel
theorem d_Mo_next_213 : decode b_Mo_next 213 = .ok (.dup2, 1) := by decide +kernel
theorem d_Mo_next_214 : decode b_Mo_next 214 = .ok (.iaload, 1) := by decide +kernel
theorem d_Mo_next_215 : decode b_Mo_next 215 = .ok (.iconst 1, 1) := by decide +kernel
theorem d_Mo_next_216 : decode b_Mo_next 216 = .ok (.iadd, 1) := by decide +kernel
theorem d_Mo_next_217 : decode b_Mo_next 217 = .ok (.iastore, 1) := by decide +kernel
theorem d_Mo_next_218 : decode b_Mo_next 218 = .ok (.aload_n 0, 1) := by decide +kernel
theorem d_Mo_next_219 : decode b_Mo_next 219 = .ok (.getfield 41, 3) := by decide +kernel
theorem d_Mo_next_222 : decode b_Mo_next 222 = .ok (.iload_n 2, 1) := by decide +kernel
theorem d_Mo_next_223 : decode b_Mo_next 223 = .ok (.aload_n 0, 1) := by decide +kernel
theorem d_Mo_next_224 : decode b_Mo_next 224 = .ok (.getfield 16, 3) := by decide +kernel
theorem d_Mo_next_227 : decode b_Mo_next 227 = .ok (.iload_n 2, 1) := by decide +kernel
theorem d_Mo_next_228 : decode b_Mo_next 228 = .ok (.iaload, 1) := by decide +kernel
theorem d_Mo_next_229 : decode b_Mo_next 229 = .ok (.iastore, 1) := by decide +kernel
theorem d_Mo_next_230 : decode b_Mo_next 230 = .ok (.aload_n 0, 1) := by decide +kernel
theorem d_Mo_next_231 : decode b_Mo_next 231 = .ok (.getfield 25, 3) := by decide +kernel
theorem d_Mo_next_234 : decode b_Mo_next 234 = .ok (.iload_n 2, 1) := by decide +kernel
theorem d_Mo_next_235 : decode b_Mo_next 235 = .ok (.iconst 0, 1) := by decide +kernel
theorem d_Mo_next_236 : decode b_Mo_next 236 = .ok (.bastore, 1) := by decide +kernel
theorem d_Mo_next_237 : decode b_Mo_next 237 = .ok (.aload_n 0, 1) := by decide +kernel
theorem d_Mo_next_238 : decode b_Mo_next 238 = .ok (.getfield 29, 3) := by decide +kernel
theorem d_Mo_next_241 : decode b_Mo_next 241 = .ok (.iload_n 2, 1) := by decide +kernel
theorem d_Mo_next_242 : decode b_Mo_next 242 = .ok (.iconst 0, 1) := by decide +kernel
theorem d_Mo_next_243 : decode b_Mo_next 243 = .ok (.bastore, 1) := by decide +kernel
theorem d_Mo_next_244 : decode b_Mo_next 244 = .ok (.iinc 2 1, 3) := by decide +kernel
theorem d_Mo_next_247 : decode b_Mo_next 247 = .ok (.goto (-76), 3) := by decide +kernel
theorem d_Mo_next_250 : decode b_Mo_next 250 = .ok (.aload_n 0, 1) := by decide +kernel
theorem d_Mo_next_251 : decode b_Mo_next 251 = .ok (.iconst 0, 1) := by decide +kernel
theorem d_Mo_next_252 : decode b_Mo_next 252 = .ok (.putfield 149, 3) := by decide +kernel
theorem d_Mo_next_255 : decode b_Mo_next 255 = .ok (.aload_n 0, 1) := by decide +kernel
theorem d_Mo_next_256 : decode b_Mo_next 256 = .ok (.iconst 0, 1) := by decide +kernel
theorem d_Mo_next_257 : decode b_Mo_next 257 = .ok (.putfield 152, 3) := by decide +kernel
theorem d_Mo_next_260 : decode b_Mo_next 260 = .ok (.iload_n 1, 1) := by decide +kernel
theorem d_Mo_next_261 : decode b_Mo_next 261 = .ok (.ireturn, 1) := by decide +kernel
end
section
/-! numbers: rows over nI and lN -/
theorem dn_and (a b : Nat) : nI a &&& nI b = nI (a &&& b) := by
  apply Int32.toBitVec_inj.1
  show BitVec.ofNat 32 a &&& BitVec.ofNat 32 b = BitVec.ofNat 32 (a &&& b)
  apply BitVec.eq_of_getLsbD_eq
  intro i hi
  simp [hi]
theorem dn_or (a b : Nat) : nI a ||| nI b = nI (a ||| b) := by
  apply Int32.toBitVec_inj.1
  show BitVec.ofNat 32 a ||| BitVec.ofNat 32 b = BitVec.ofNat 32 (a ||| b)
  apply BitVec.eq_of_getLsbD_eq
  intro i hi
  simp [hi]
theorem dn_xor (a b : Nat) : nI a ^^^ nI b = nI (a ^^^ b) := by
  apply Int32.toBitVec_inj.1
  show BitVec.ofNat 32 a ^^^ BitVec.ofNat 32 b = BitVec.ofNat 32 (a ^^^ b)
  apply BitVec.eq_of_getLsbD_eq
  intro i hi
  simp [hi]
theorem dn_amt : ∀ n, n < 32 → ((nI n &&& 31).toBitVec.smod 32).toNat = n := by decide +kernel
theorem dn_amtL : ∀ n, n < 64 → ((((nI n).toInt64 &&& 63) : Int64).toBitVec.smod 64).toNat = n := by decide +kernel
theorem dn_amtB : ∀ n, n < 64 → (((nI n).toInt64 &&& 63) : Int64).toBitVec.smod 64 = BitVec.ofNat 64 n := by decide +kernel
theorem dn_shl {n k : Nat} (hk : k < 32) (h : n * 2 ^ k < 2 ^ 32) : nI n <<< (nI k &&& 31) = nI (n * 2 ^ k) := pk_shlN _ k (dn_amt k hk) h
theorem dn_shr {n k : Nat} (hk : k < 32) (h : n < 2 ^ 31) : nI n >>> (nI k &&& 31) = nI (n / 2 ^ k) := pk_shrN h _ k (dn_amt k hk)
theorem dn_lbv (n : Nat) : (lN n).toBitVec = BitVec.ofNat 64 n := rfl
theorem dn_linj {a b : Int64} (h : a.toBitVec = b.toBitVec) : a = b := Int64.toBitVec_inj.mp h
theorem dn_lshl (n : Nat) {k : Nat} (hk : k < 64) : lN n <<< ((nI k).toInt64 &&& 63) = lN (n * 2 ^ k) := by
  apply dn_linj
  rw [Int64.toBitVec_shiftLeft]
  show (lN n).toBitVec <<< (((nI k).toInt64 &&& 63).toBitVec.smod 64) = (lN (n * 2 ^ k)).toBitVec
  rw [dn_amtB k hk, dn_lbv, dn_lbv, BitVec.shiftLeft_eq']
  apply BitVec.eq_of_toNat_eq
  rw [BitVec.toNat_shiftLeft, BitVec.toNat_ofNat, BitVec.toNat_ofNat, BitVec.toNat_ofNat, Nat.shiftLeft_eq, Nat.mod_eq_of_lt (show k < 2 ^ 64 by omega)]
  simp [Nat.mod_mul_mod]
theorem dn_lI {a : Nat} (h : a < 2 ^ 63) : (lN a).toInt = (a : Int) := pk_lT h
theorem dn_lshr {a k : Nat} (hk : k < 64) (h : a < 2 ^ 63) : lN a >>> ((nI k).toInt64 &&& 63) = lN (a / 2 ^ k) := by
  apply Int64.toInt_inj.mp
  rw [dn_lI (Nat.lt_of_le_of_lt (Nat.div_le_self _ _) h)]
  show ((lN a) >>> ((nI k).toInt64 &&& 63)).toBitVec.toInt = _
  rw [Int64.toBitVec_shiftRight]
  show ((lN a).toBitVec.sshiftRight (((nI k).toInt64 &&& 63).toBitVec.smod 64).toNat).toInt = _
  rw [dn_amtL k hk, BitVec.toInt_sshiftRight]
  show (lN a).toInt >>> k = _
  rw [dn_lI h]
  simp [Int.shiftRight_eq_div_pow]
def dn_b (P : Prop) [Decidable P] : Nat := if P then 1 else 0
theorem dn_b1 {P : Prop} [Decidable P] (h : P) : dn_b P = 1 := if_pos h
theorem dn_b0 {P : Prop} [Decidable P] (h : ¬ P) : dn_b P = 0 := if_neg h
theorem dn_ble {P : Prop} [Decidable P] : dn_b P ≤ 1 := by unfold dn_b; split <;> omega
theorem dn_bz {P : Prop} [Decidable P] : nI (dn_b P) = 0 ↔ ¬ P := by
  by_cases h : P
  · rw [dn_b1 h]; exact ⟨fun q => absurd q (by decide), fun q => absurd h q⟩
  · rw [dn_b0 h]; exact ⟨fun _ => h, fun _ => rfl⟩
theorem dn_nar {P : Prop} [Decidable P] : narrow .boolean (.int (nI (dn_b P))) = .int (nI (dn_b P)) := by
  by_cases h : P
  · rw [dn_b1 h]; rfl
  · rw [dn_b0 h]; rfl
section
variable {p : Program} {l : Launch} {e : Env} {R : Room} {s : State} {m : MethodId} {args : Array Value} {below : List Frame} {meth : Method} {c : Code} {H : Heap} {locs : List Loc} {cells slots : Nat} {Q : State → Prop} {cc : ByteArray} {pc : Nat} {ls : Array Slot} {rest : List Value}
theorem dn_iadd (hx : p.tables.exec = Jvm.exec) (hb : c.code = cc) {x y : Nat} (hdg : decode cc pc = .ok (.iadd, 1)) (k : W p l e R s m args below meth c H locs cells slots Q (F0 m (pc + 1) ls (.int (nI (x + y)) :: rest))) : W p l e R s m args below meth c H locs cells slots Q (F0 m pc ls (.int (nI y) :: .int (nI x) :: rest)) := lv_iadd hx hb hdg (by rw [nI_add]; exact k)
theorem dn_isub (hx : p.tables.exec = Jvm.exec) (hb : c.code = cc) {x y : Nat} (h : y ≤ x) (hdg : decode cc pc = .ok (.isub, 1)) (k : W p l e R s m args below meth c H locs cells slots Q (F0 m (pc + 1) ls (.int (nI (x - y)) :: rest))) : W p l e R s m args below meth c H locs cells slots Q (F0 m pc ls (.int (nI y) :: .int (nI x) :: rest)) := lv_isub hx hb hdg (by rw [pk_sub h]; exact k)
theorem dn_imul (hx : p.tables.exec = Jvm.exec) (hb : c.code = cc) {x y : Nat} (hdg : decode cc pc = .ok (.imul, 1)) (k : W p l e R s m args below meth c H locs cells slots Q (F0 m (pc + 1) ls (.int (nI (x * y)) :: rest))) : W p l e R s m args below meth c H locs cells slots Q (F0 m pc ls (.int (nI y) :: .int (nI x) :: rest)) := lv_imul hx hb hdg (by rw [pk_mul]; exact k)
theorem dn_iand (hx : p.tables.exec = Jvm.exec) (hb : c.code = cc) {x y : Nat} (hdg : decode cc pc = .ok (.iand, 1)) (k : W p l e R s m args below meth c H locs cells slots Q (F0 m (pc + 1) ls (.int (nI (x &&& y)) :: rest))) : W p l e R s m args below meth c H locs cells slots Q (F0 m pc ls (.int (nI y) :: .int (nI x) :: rest)) := lv_iand hx hb hdg (by rw [dn_and]; exact k)
theorem dn_ior (hx : p.tables.exec = Jvm.exec) (hb : c.code = cc) {x y : Nat} (hdg : decode cc pc = .ok (.ior, 1)) (k : W p l e R s m args below meth c H locs cells slots Q (F0 m (pc + 1) ls (.int (nI (x ||| y)) :: rest))) : W p l e R s m args below meth c H locs cells slots Q (F0 m pc ls (.int (nI y) :: .int (nI x) :: rest)) := lv_ior hx hb hdg (by rw [dn_or]; exact k)
theorem dn_ixor (hx : p.tables.exec = Jvm.exec) (hb : c.code = cc) {x y : Nat} (hdg : decode cc pc = .ok (.ixor, 1)) (k : W p l e R s m args below meth c H locs cells slots Q (F0 m (pc + 1) ls (.int (nI (x ^^^ y)) :: rest))) : W p l e R s m args below meth c H locs cells slots Q (F0 m pc ls (.int (nI y) :: .int (nI x) :: rest)) := lv_ixor hx hb hdg (by rw [dn_xor]; exact k)
theorem dn_ishl (hx : p.tables.exec = Jvm.exec) (hb : c.code = cc) {x y : Nat} (h1 : y < 32) (h2 : x * 2 ^ y < 2 ^ 32) (hdg : decode cc pc = .ok (.ishl, 1)) (k : W p l e R s m args below meth c H locs cells slots Q (F0 m (pc + 1) ls (.int (nI (x * 2 ^ y)) :: rest))) : W p l e R s m args below meth c H locs cells slots Q (F0 m pc ls (.int (nI y) :: .int (nI x) :: rest)) := lv_ishl hx hb hdg (by rw [dn_shl h1 h2]; exact k)
theorem dn_ishr (hx : p.tables.exec = Jvm.exec) (hb : c.code = cc) {x y : Nat} (h1 : y < 32) (h2 : x < 2 ^ 31) (hdg : decode cc pc = .ok (.ishr, 1)) (k : W p l e R s m args below meth c H locs cells slots Q (F0 m (pc + 1) ls (.int (nI (x / 2 ^ y)) :: rest))) : W p l e R s m args below meth c H locs cells slots Q (F0 m pc ls (.int (nI y) :: .int (nI x) :: rest)) := lv_ishr hx hb hdg (by rw [dn_shr h1 h2]; exact k)
theorem dn_ladd (hx : p.tables.exec = Jvm.exec) (hb : c.code = cc) {x y : Nat} (hdg : decode cc pc = .ok (.ladd, 1)) (k : W p l e R s m args below meth c H locs cells slots Q (F0 m (pc + 1) ls (.long (lN (x + y)) :: rest))) : W p l e R s m args below meth c H locs cells slots Q (F0 m pc ls (.long (lN y) :: .long (lN x) :: rest)) := lv_ladd hx hb hdg (by rw [lN_add]; exact k)
theorem dn_i2l (hx : p.tables.exec = Jvm.exec) (hb : c.code = cc) {x : Nat} (h : x < 2 ^ 31) (hdg : decode cc pc = .ok (.i2l, 1)) (k : W p l e R s m args below meth c H locs cells slots Q (F0 m (pc + 1) ls (.long (lN x) :: rest))) : W p l e R s m args below meth c H locs cells slots Q (F0 m pc ls (.int (nI x) :: rest)) := lv_i2l hx hb hdg (nI_l h) k
theorem dn_l2i (hx : p.tables.exec = Jvm.exec) (hb : c.code = cc) {x : Nat} (hdg : decode cc pc = .ok (.l2i, 1)) (k : W p l e R s m args below meth c H locs cells slots Q (F0 m (pc + 1) ls (.int (nI x) :: rest))) : W p l e R s m args below meth c H locs cells slots Q (F0 m pc ls (.long (lN x) :: rest)) := lv_l2i hx hb hdg (lN_i x) k
theorem dn_lshlR (hx : p.tables.exec = Jvm.exec) (hb : c.code = cc) {x y : Nat} (h1 : y < 64) (hdg : decode cc pc = .ok (.lshl, 1)) (k : W p l e R s m args below meth c H locs cells slots Q (F0 m (pc + 1) ls (.long (lN (x * 2 ^ y)) :: rest))) : W p l e R s m args below meth c H locs cells slots Q (F0 m pc ls (.int (nI y) :: .long (lN x) :: rest)) := lv_lshl hx hb hdg (dn_lshl x h1) k
theorem dn_lshrR (hx : p.tables.exec = Jvm.exec) (hb : c.code = cc) {x y : Nat} (h1 : y < 64) (h2 : x < 2 ^ 63) (hdg : decode cc pc = .ok (.lshr, 1)) (k : W p l e R s m args below meth c H locs cells slots Q (F0 m (pc + 1) ls (.long (lN (x / 2 ^ y)) :: rest))) : W p l e R s m args below meth c H locs cells slots Q (F0 m pc ls (.int (nI y) :: .long (lN x) :: rest)) := lv_lshr hx hb hdg (dn_lshr h1 h2) k
theorem dn_icmp_eq (hx : p.tables.exec = Jvm.exec) (hb : c.code = cc) {x y : Nat} {off : Int} (tgt : Nat) (h1 : x < 2 ^ 31) (h2 : y < 2 ^ 31) (hdg : decode cc pc = .ok (.if_icmp .eq off, 3)) (ht : (pc : Int) + off = (tgt : Int)) (kt : x = y → W p l e R s m args below meth c H locs cells slots Q (F0 m tgt ls rest)) (kf : x ≠ y → W p l e R s m args below meth c H locs cells slots Q (F0 m (pc + 3) ls rest)) : W p l e R s m args below meth c H locs cells slots Q (F0 m pc ls (.int (nI y) :: .int (nI x) :: rest)) := lv_icmp_eq hx hb hdg ht (fun h => kt ((nI_eq h1 h2).mp h)) (fun h => kf (fun q => h ((nI_eq h1 h2).mpr q)))
theorem dn_icmp_ne (hx : p.tables.exec = Jvm.exec) (hb : c.code = cc) {x y : Nat} {off : Int} (tgt : Nat) (h1 : x < 2 ^ 31) (h2 : y < 2 ^ 31) (hdg : decode cc pc = .ok (.if_icmp .ne off, 3)) (ht : (pc : Int) + off = (tgt : Int)) (kt : x ≠ y → W p l e R s m args below meth c H locs cells slots Q (F0 m tgt ls rest)) (kf : x = y → W p l e R s m args below meth c H locs cells slots Q (F0 m (pc + 3) ls rest)) : W p l e R s m args below meth c H locs cells slots Q (F0 m pc ls (.int (nI y) :: .int (nI x) :: rest)) := lv_icmp_ne hx hb hdg ht (fun h => kt (fun q => h ((nI_eq h1 h2).mpr q))) (fun h => kf ((nI_eq h1 h2).mp h))
theorem dn_icmp_lt (hx : p.tables.exec = Jvm.exec) (hb : c.code = cc) {x y : Nat} {off : Int} (tgt : Nat) (h1 : x < 2 ^ 31) (h2 : y < 2 ^ 31) (hdg : decode cc pc = .ok (.if_icmp .lt off, 3)) (ht : (pc : Int) + off = (tgt : Int)) (kt : x < y → W p l e R s m args below meth c H locs cells slots Q (F0 m tgt ls rest)) (kf : y ≤ x → W p l e R s m args below meth c H locs cells slots Q (F0 m (pc + 3) ls rest)) : W p l e R s m args below meth c H locs cells slots Q (F0 m pc ls (.int (nI y) :: .int (nI x) :: rest)) := lv_icmp_lt hx hb hdg ht (fun h => kt ((nI_ltI h1 h2).mp h)) (fun h => kf (Nat.not_lt.mp (fun q => h ((nI_ltI h1 h2).mpr q))))
theorem dn_icmp_ge (hx : p.tables.exec = Jvm.exec) (hb : c.code = cc) {x y : Nat} {off : Int} (tgt : Nat) (h1 : x < 2 ^ 31) (h2 : y < 2 ^ 31) (hdg : decode cc pc = .ok (.if_icmp .ge off, 3)) (ht : (pc : Int) + off = (tgt : Int)) (kt : y ≤ x → W p l e R s m args below meth c H locs cells slots Q (F0 m tgt ls rest)) (kf : x < y → W p l e R s m args below meth c H locs cells slots Q (F0 m (pc + 3) ls rest)) : W p l e R s m args below meth c H locs cells slots Q (F0 m pc ls (.int (nI y) :: .int (nI x) :: rest)) := lv_icmp_ge hx hb hdg ht (fun h => kt ((nI_leI h2 h1).mp h)) (fun h => kf (Nat.not_le.mp (fun q => h ((nI_leI h2 h1).mpr q))))
theorem dn_icmp_gt (hx : p.tables.exec = Jvm.exec) (hb : c.code = cc) {x y : Nat} {off : Int} (tgt : Nat) (h1 : x < 2 ^ 31) (h2 : y < 2 ^ 31) (hdg : decode cc pc = .ok (.if_icmp .gt off, 3)) (ht : (pc : Int) + off = (tgt : Int)) (kt : y < x → W p l e R s m args below meth c H locs cells slots Q (F0 m tgt ls rest)) (kf : x ≤ y → W p l e R s m args below meth c H locs cells slots Q (F0 m (pc + 3) ls rest)) : W p l e R s m args below meth c H locs cells slots Q (F0 m pc ls (.int (nI y) :: .int (nI x) :: rest)) := lv_icmp_gt hx hb hdg ht (fun h => kt ((nI_ltI h2 h1).mp h)) (fun h => kf (Nat.not_lt.mp (fun q => h ((nI_ltI h2 h1).mpr q))))
theorem dn_icmp_le (hx : p.tables.exec = Jvm.exec) (hb : c.code = cc) {x y : Nat} {off : Int} (tgt : Nat) (h1 : x < 2 ^ 31) (h2 : y < 2 ^ 31) (hdg : decode cc pc = .ok (.if_icmp .le off, 3)) (ht : (pc : Int) + off = (tgt : Int)) (kt : x ≤ y → W p l e R s m args below meth c H locs cells slots Q (F0 m tgt ls rest)) (kf : y < x → W p l e R s m args below meth c H locs cells slots Q (F0 m (pc + 3) ls rest)) : W p l e R s m args below meth c H locs cells slots Q (F0 m pc ls (.int (nI y) :: .int (nI x) :: rest)) := lv_icmp_le hx hb hdg ht (fun h => kt ((nI_leI h1 h2).mp h)) (fun h => kf (Nat.not_le.mp (fun q => h ((nI_leI h1 h2).mpr q))))
theorem dn_if_eq (hx : p.tables.exec = Jvm.exec) (hb : c.code = cc) {x : Nat} {off : Int} (tgt : Nat) (h1 : x < 2 ^ 31) (hdg : decode cc pc = .ok (.ifCond .eq off, 3)) (ht : (pc : Int) + off = (tgt : Int)) (kt : x = 0 → W p l e R s m args below meth c H locs cells slots Q (F0 m tgt ls rest)) (kf : x ≠ 0 → W p l e R s m args below meth c H locs cells slots Q (F0 m (pc + 3) ls rest)) : W p l e R s m args below meth c H locs cells slots Q (F0 m pc ls (.int (nI x) :: rest)) := lv_if_eq hx hb hdg ht (fun h => kt ((nI_eq h1 (by omega)).mp (h.trans nI_0.symm))) (fun h => kf (fun q => h (by rw [q]; rfl)))
theorem dn_if_ne (hx : p.tables.exec = Jvm.exec) (hb : c.code = cc) {x : Nat} {off : Int} (tgt : Nat) (h1 : x < 2 ^ 31) (hdg : decode cc pc = .ok (.ifCond .ne off, 3)) (ht : (pc : Int) + off = (tgt : Int)) (kt : x ≠ 0 → W p l e R s m args below meth c H locs cells slots Q (F0 m tgt ls rest)) (kf : x = 0 → W p l e R s m args below meth c H locs cells slots Q (F0 m (pc + 3) ls rest)) : W p l e R s m args below meth c H locs cells slots Q (F0 m pc ls (.int (nI x) :: rest)) := lv_if_ne hx hb hdg ht (fun h => kt (fun q => h (by rw [q]; rfl))) (fun h => kf ((nI_eq h1 (by omega)).mp (h.trans nI_0.symm)))
theorem dn_if_lt (hx : p.tables.exec = Jvm.exec) (hb : c.code = cc) {x : Nat} {off : Int} (tgt : Nat) (h1 : x < 2 ^ 31) (hdg : decode cc pc = .ok (.ifCond .lt off, 3)) (ht : (pc : Int) + off = (tgt : Int)) (kf : W p l e R s m args below meth c H locs cells slots Q (F0 m (pc + 3) ls rest)) : W p l e R s m args below meth c H locs cells slots Q (F0 m pc ls (.int (nI x) :: rest)) := lv_if_lt hx hb hdg ht (fun h => absurd h (nI_pos h1)) (fun _ => kf)
theorem dn_if_ge (hx : p.tables.exec = Jvm.exec) (hb : c.code = cc) {x : Nat} {off : Int} (tgt : Nat) (h1 : x < 2 ^ 31) (hdg : decode cc pc = .ok (.ifCond .ge off, 3)) (ht : (pc : Int) + off = (tgt : Int)) (kt : W p l e R s m args below meth c H locs cells slots Q (F0 m tgt ls rest)) : W p l e R s m args below meth c H locs cells slots Q (F0 m pc ls (.int (nI x) :: rest)) := lv_if_ge hx hb hdg ht (fun _ => kt) (fun h => absurd (nI_pos' h1) h)
theorem dn_if_gt (hx : p.tables.exec = Jvm.exec) (hb : c.code = cc) {x : Nat} {off : Int} (tgt : Nat) (h1 : x < 2 ^ 31) (hdg : decode cc pc = .ok (.ifCond .gt off, 3)) (ht : (pc : Int) + off = (tgt : Int)) (kt : 0 < x → W p l e R s m args below meth c H locs cells slots Q (F0 m tgt ls rest)) (kf : x = 0 → W p l e R s m args below meth c H locs cells slots Q (F0 m (pc + 3) ls rest)) : W p l e R s m args below meth c H locs cells slots Q (F0 m pc ls (.int (nI x) :: rest)) := lv_if_gt hx hb hdg ht (fun h => kt (Nat.pos_of_ne_zero (fun q => by rw [q] at h; exact absurd h (by decide)))) (fun h => kf (Nat.eq_zero_of_not_pos (fun q => h (nI_lt q h1))))
theorem dn_if_le (hx : p.tables.exec = Jvm.exec) (hb : c.code = cc) {x : Nat} {off : Int} (tgt : Nat) (h1 : x < 2 ^ 31) (hdg : decode cc pc = .ok (.ifCond .le off, 3)) (ht : (pc : Int) + off = (tgt : Int)) (kt : x = 0 → W p l e R s m args below meth c H locs cells slots Q (F0 m tgt ls rest)) (kf : 0 < x → W p l e R s m args below meth c H locs cells slots Q (F0 m (pc + 3) ls rest)) : W p l e R s m args below meth c H locs cells slots Q (F0 m pc ls (.int (nI x) :: rest)) := lv_if_le hx hb hdg ht (fun h => kt (Nat.eq_zero_of_not_pos (fun q => nI_nle q h1 h))) (fun h => kf (Nat.pos_of_ne_zero (fun q => h (by rw [q]; decide))))
theorem dn_ifb_eq (hx : p.tables.exec = Jvm.exec) (hb : c.code = cc) {P : Prop} [Decidable P] {off : Int} (tgt : Nat) (hdg : decode cc pc = .ok (.ifCond .eq off, 3)) (ht : (pc : Int) + off = (tgt : Int)) (kt : ¬ P → W p l e R s m args below meth c H locs cells slots Q (F0 m tgt ls rest)) (kf : P → W p l e R s m args below meth c H locs cells slots Q (F0 m (pc + 3) ls rest)) : W p l e R s m args below meth c H locs cells slots Q (F0 m pc ls (.int (nI (dn_b P)) :: rest)) := lv_if_eq hx hb hdg ht (fun h => kt (dn_bz.mp h)) (fun h => kf (Decidable.byContradiction (fun q => h (dn_bz.mpr q))))
theorem dn_ifb_ne (hx : p.tables.exec = Jvm.exec) (hb : c.code = cc) {P : Prop} [Decidable P] {off : Int} (tgt : Nat) (hdg : decode cc pc = .ok (.ifCond .ne off, 3)) (ht : (pc : Int) + off = (tgt : Int)) (kt : P → W p l e R s m args below meth c H locs cells slots Q (F0 m tgt ls rest)) (kf : ¬ P → W p l e R s m args below meth c H locs cells slots Q (F0 m (pc + 3) ls rest)) : W p l e R s m args below meth c H locs cells slots Q (F0 m pc ls (.int (nI (dn_b P)) :: rest)) := lv_if_ne hx hb hdg ht (fun h => kt (Decidable.byContradiction (fun q => h (dn_bz.mpr q)))) (fun h => kf (dn_bz.mp h))
theorem dn_lcmp_ge (hx : p.tables.exec = Jvm.exec) (hb : c.code = cc) {x y : Nat} {off : Int} (tgt : Nat) (h1 : x < 2 ^ 63) (h2 : y < 2 ^ 63) (hd0 : decode cc pc = .ok (.lcmp, 1)) (hdg : decode cc (pc + 1) = .ok (.ifCond .ge off, 3)) (ht : ((pc + 1 : Nat) : Int) + off = (tgt : Int)) (kt : y ≤ x → W p l e R s m args below meth c H locs cells slots Q (F0 m tgt ls rest)) (kf : x < y → W p l e R s m args below meth c H locs cells slots Q (F0 m (pc + 4) ls rest)) : W p l e R s m args below meth c H locs cells slots Q (F0 m pc ls (.long (lN y) :: .long (lN x) :: rest)) := W.lcmp hx hb hd0 (lv_if_ge hx hb hdg ht (fun h => kt ((pk_lLE h2 h1).mp ((lg_cmp_ge _ _).mp h))) (fun h => kf (Nat.not_le.mp (fun q => h ((lg_cmp_ge _ _).mpr ((pk_lLE h2 h1).mpr q))))))
theorem dn_lcmp_lt (hx : p.tables.exec = Jvm.exec) (hb : c.code = cc) {x y : Nat} {off : Int} (tgt : Nat) (h1 : x < 2 ^ 63) (h2 : y < 2 ^ 63) (hd0 : decode cc pc = .ok (.lcmp, 1)) (hdg : decode cc (pc + 1) = .ok (.ifCond .lt off, 3)) (ht : ((pc + 1 : Nat) : Int) + off = (tgt : Int)) (kt : x < y → W p l e R s m args below meth c H locs cells slots Q (F0 m tgt ls rest)) (kf : y ≤ x → W p l e R s m args below meth c H locs cells slots Q (F0 m (pc + 4) ls rest)) : W p l e R s m args below meth c H locs cells slots Q (F0 m pc ls (.long (lN y) :: .long (lN x) :: rest)) := W.lcmp hx hb hd0 (lv_if_lt hx hb hdg ht (fun h => kt ((pk_lLT h1 h2).mp ((lg_cmp_lt _ _).mp h))) (fun h => kf (Nat.not_lt.mp (fun q => h ((lg_cmp_lt _ _).mpr ((pk_lLT h1 h2).mpr q))))))
theorem dn_lcmp_gt (hx : p.tables.exec = Jvm.exec) (hb : c.code = cc) {x y : Nat} {off : Int} (tgt : Nat) (h1 : x < 2 ^ 63) (h2 : y < 2 ^ 63) (hd0 : decode cc pc = .ok (.lcmp, 1)) (hdg : decode cc (pc + 1) = .ok (.ifCond .gt off, 3)) (ht : ((pc + 1 : Nat) : Int) + off = (tgt : Int)) (kt : y < x → W p l e R s m args below meth c H locs cells slots Q (F0 m tgt ls rest)) (kf : x ≤ y → W p l e R s m args below meth c H locs cells slots Q (F0 m (pc + 4) ls rest)) : W p l e R s m args below meth c H locs cells slots Q (F0 m pc ls (.long (lN y) :: .long (lN x) :: rest)) := W.lcmp hx hb hd0 (lv_if_gt hx hb hdg ht (fun h => kt ((pk_lLT h2 h1).mp ((lg_cmp_gt _ _).mp h))) (fun h => kf (Nat.not_lt.mp (fun q => h ((lg_cmp_gt _ _).mpr ((pk_lLT h2 h1).mpr q))))))
theorem dn_lcmp_le (hx : p.tables.exec = Jvm.exec) (hb : c.code = cc) {x y : Nat} {off : Int} (tgt : Nat) (h1 : x < 2 ^ 63) (h2 : y < 2 ^ 63) (hd0 : decode cc pc = .ok (.lcmp, 1)) (hdg : decode cc (pc + 1) = .ok (.ifCond .le off, 3)) (ht : ((pc + 1 : Nat) : Int) + off = (tgt : Int)) (kt : x ≤ y → W p l e R s m args below meth c H locs cells slots Q (F0 m tgt ls rest)) (kf : y < x → W p l e R s m args below meth c H locs cells slots Q (F0 m (pc + 4) ls rest)) : W p l e R s m args below meth c H locs cells slots Q (F0 m pc ls (.long (lN y) :: .long (lN x) :: rest)) := W.lcmp hx hb hd0 (lv_if_le hx hb hdg ht (fun h => kt ((pk_lLE h1 h2).mp ((lg_cmp_le _ _).mp h))) (fun h => kf (Nat.not_le.mp (fun q => h ((lg_cmp_le _ _).mpr ((pk_lLE h1 h2).mpr q))))))
end
end
section
/-! a world of NC cells at fixed addresses a, layout ce, contents f -/
def dw_su (f : Nat → Nat → Nat) (k : Nat) (g : Nat → Nat) : Nat → Nat → Nat := fun j => if j = k then g else f j
def dw_up (g : Nat → Nat) (i x : Nat) : Nat → Nat := fun j => if j = i then x else g j
/-- cell k's place i becomes x -/
def dw_w (f : Nat → Nat → Nat) (k i x : Nat) : Nat → Nat → Nat := dw_su f k (dw_up (f k) i x)
def dw_l (NC : Nat) (ce : Nat → (Nat → Nat) → va_E) (a : Nat → Nat) (f : Nat → Nat → Nat) : va_W := (List.range NC).map (fun k => (a k, ce k (f k)))
section
variable {NC k : Nat} {ce : Nat → (Nat → Nat) → va_E} {a : Nat → Nat} {f f2 : Nat → Nat → Nat} {A : Nat → Prop}
theorem dw_get (h : k < NC) : (dw_l NC ce a f)[k]? = some (a k, ce k (f k)) := by
  simp [dw_l, h]
theorem dw_len : (dw_l NC ce a f).length = NC := by simp [dw_l]
theorem dw_lt {q : Nat × va_E} (h : (dw_l NC ce a f)[k]? = some q) : k < NC := by
  have := (List.getElem?_eq_some_iff.mp h).1
  rwa [dw_len] at this
theorem dw_adr {q : Nat × va_E} (h : (dw_l NC ce a f)[k]? = some q) : q.1 = a k := by
  rw [dw_get (dw_lt h)] at h
  cases h
  rfl
theorem dw_set (h : k < NC) (g : Nat → Nat) : (dw_l NC ce a f).set k (a k, ce k g) = dw_l NC ce a (dw_su f k g) := by
  apply List.ext_getElem?
  intro i
  by_cases hi : i < NC
  · rw [dw_get hi, List.getElem?_set]
    by_cases hk : k = i
    · subst hk
      simp [dw_len, h, dw_su]
    · rw [if_neg hk, dw_get hi]
      simp [dw_su, Ne.symm hk]
  · rw [List.getElem?_eq_none (by rw [List.length_set, dw_len]; omega), List.getElem?_eq_none (by rw [dw_len]; omega)]
theorem dw_D (h : va_D A (dw_l NC ce a f)) : va_D A (dw_l NC ce a f2) := by
  refine ⟨fun i j p q hi hj e => ?_, fun k q hk => ?_⟩
  · have h1 := dw_get (ce := ce) (a := a) (f := f) (dw_lt hi)
    have h2 := dw_get (ce := ce) (a := a) (f := f) (dw_lt hj)
    exact h.1 i j _ _ h1 h2 (by rw [dw_adr hi, dw_adr hj] at e; exact e)
  · have h1 := dw_get (ce := ce) (a := a) (f := f) (dw_lt hk)
    rw [dw_adr hk]
    exact h.2 k _ h1
theorem dw_A {sz q : Nat} (h : va_A (dw_l NC ce a f) sz q) : va_A (dw_l NC ce a f2) sz q := by
  rcases h with ⟨k, e, h⟩ | h
  · refine Or.inl ⟨k, ce k (f2 k), ?_⟩
    have h1 := dw_adr h
    have h2 := dw_get (ce := ce) (a := a) (f := f2) (dw_lt h)
    rw [h2, ← h1]
  · exact Or.inr h
end
/-- what is known of the world while a method runs -/
def dw_W (D : va_G) (cl : List vw_C) (tys : List (ClassId × FieldType)) (A : Nat → Prop) (H0 : Heap) (ws : va_W) (s : State) (H : Heap) (locs : List Loc) : Prop := va_K D cl tys s ∧ va_P D cl ws H ∧ va_D A ws ∧ va_S A H0 H locs
/-- kinds of cells -/
def dw_Ci (tys : List (ClassId × FieldType)) (NC : Nat) (ce : Nat → (Nat → Nat) → va_E) (ty : FieldType) (k n : Nat) : Prop := k < NC ∧ n < 2 ^ 31 ∧ ∃ (cA : ClassId) (t0 : Nat), tys[t0]? = some (cA, ty) ∧ ∀ g, ce k g = .inl (cA, n, .inl (fun j => nI (g j)))
def dw_Cl (tys : List (ClassId × FieldType)) (NC : Nat) (ce : Nat → (Nat → Nat) → va_E) (k n : Nat) : Prop := k < NC ∧ n < 2 ^ 31 ∧ ∃ (cA : ClassId) (t0 : Nat), tys[t0]? = some (cA, .long) ∧ ∀ g, ce k g = .inl (cA, n, .inr (.inl (fun j => lN (g j))))
def dw_Cr (tys : List (ClassId × FieldType)) (NC : Nat) (ce : Nat → (Nat → Nat) → va_E) (a : Nat → Nat) (k n b : Nat) : Prop := k < NC ∧ n < 2 ^ 31 ∧ ∃ (cA : ClassId) (t0 : Nat), tys[t0]? = some (cA, .array .int) ∧ ∀ g, ce k g = .inl (cA, n, .inr (.inr (.inr (.inr (fun j => some (a (b + j)))))))
theorem dw_updn (g : Nat → Nat) (i x : Nat) : upd (fun j => nI (g j)) i (nI x) = fun j => nI (dw_up g i x j) := by
  funext j
  unfold upd dw_up
  split <;> rfl
theorem dw_updl (g : Nat → Nat) (i x : Nat) : vp_updL (fun j => lN (g j)) i (lN x) = fun j => lN (dw_up g i x j) := by
  funext j
  unfold vp_updL dw_up
  split <;> rfl
section
variable {p : Program} {l : Launch} {e : Env} {R : Room} {s : State} {m : MethodId} {args : Array Value} {below : List Frame} {meth : Method} {c : Code} {H H0 : Heap} {locs : List Loc} {cells slots : Nat} {Q : State → Prop} {cc : ByteArray} {pc : Nat} {ls : Array Slot} {rest : List Value}
  {D : va_G} {cl : List vw_C} {tys : List (ClassId × FieldType)} {A : Nat → Prop} {NC : Nat} {ce : Nat → (Nat → Nat) → va_E} {a : Nat → Nat} {f : Nat → Nat → Nat}
theorem dw_iald (hx : p.tables.exec = Jvm.exec) (hb : c.code = cc) (hw : dw_W D cl tys A H0 (dw_l NC ce a f) s H locs) {k n i : Nat} (hk : dw_Ci tys NC ce .int k n) (hi : i < n) (hdg : decode cc pc = .ok (.iaload, 1)) (kk : W p l e R s m args below meth c H locs cells slots Q (F0 m (pc + 1) ls (.int (nI (f k i)) :: rest))) : W p l e R s m args below meth c H locs cells slots Q (F0 m pc ls (.int (nI i) :: .ref (a k) :: rest)) := by
  obtain ⟨h1, h2, cA, t0, h3, h4⟩ := hk
  refine va_iald (f := fun j => nI (f k j)) hx hb hw.1 hw.2.1 k t0 (by rw [dw_get h1, h4]) h3 (vp_in_nI hi h2) hdg ?_
  rw [nI_clamp (by omega)]
  exact kk
theorem dw_zald (hx : p.tables.exec = Jvm.exec) (hb : c.code = cc) (hw : dw_W D cl tys A H0 (dw_l NC ce a f) s H locs) {k n i : Nat} (hk : dw_Ci tys NC ce .boolean k n) (hi : i < n) (hdg : decode cc pc = .ok (.baload, 1)) (kk : W p l e R s m args below meth c H locs cells slots Q (F0 m (pc + 1) ls (.int (nI (f k i)) :: rest))) : W p l e R s m args below meth c H locs cells slots Q (F0 m pc ls (.int (nI i) :: .ref (a k) :: rest)) := by
  obtain ⟨h1, h2, cA, t0, h3, h4⟩ := hk
  refine va_zald (f := fun j => nI (f k j)) hx hb hw.1 hw.2.1 k t0 (by rw [dw_get h1, h4]) h3 (vp_in_nI hi h2) hdg ?_
  rw [nI_clamp (by omega)]
  exact kk
theorem dw_lald (hx : p.tables.exec = Jvm.exec) (hb : c.code = cc) (hw : dw_W D cl tys A H0 (dw_l NC ce a f) s H locs) {k n i : Nat} (hk : dw_Cl tys NC ce k n) (hi : i < n) (hdg : decode cc pc = .ok (.laload, 1)) (kk : W p l e R s m args below meth c H locs cells slots Q (F0 m (pc + 1) ls (.long (lN (f k i)) :: rest))) : W p l e R s m args below meth c H locs cells slots Q (F0 m pc ls (.int (nI i) :: .ref (a k) :: rest)) := by
  obtain ⟨h1, h2, cA, t0, h3, h4⟩ := hk
  refine va_lald (f := fun j => lN (f k j)) hx hb hw.1 hw.2.1 k t0 (by rw [dw_get h1, h4]) h3 (vp_in_nI hi h2) hdg ?_
  rw [nI_clamp (by omega)]
  exact kk
theorem dw_aald (hx : p.tables.exec = Jvm.exec) (hb : c.code = cc) (hw : dw_W D cl tys A H0 (dw_l NC ce a f) s H locs) {k n b i : Nat} (hk : dw_Cr tys NC ce a k n b) (hi : i < n) (hdg : decode cc pc = .ok (.aaload, 1)) (kk : W p l e R s m args below meth c H locs cells slots Q (F0 m (pc + 1) ls (.ref (a (b + i)) :: rest))) : W p l e R s m args below meth c H locs cells slots Q (F0 m pc ls (.int (nI i) :: .ref (a k) :: rest)) := by
  obtain ⟨h1, h2, cA, t0, h3, h4⟩ := hk
  have hc : (nI i).toNatClampNeg = i := nI_clamp (by omega)
  have hin := vp_in_nI hi h2
  have ha : (dw_l NC ce a f)[k]? = some (a k, .inl (cA, n, .inr (.inr (.inr (.inr (fun j => some (a (b + j)))))))) := by rw [dw_get h1, h4]
  exact W.aald (v := .ref (a (b + i))) (ty := .array .int) hx hb (hw.2.1 k _ ha) ((hw.1.2 t0 _ h3).1 n (fun j => va_rf (some (a (b + j))))) rfl (fun q => by cases q) (by show ¬ (nI i < 0 ∨ (arrV _ _ _).slots.size ≤ _); rw [arrV_size]; exact hin) (by show (arrV _ _ _).slots[_]? = _; rw [hc, arrV_read _ _ hi]; rfl) rfl rfl hdg kk
theorem dw_alen (hx : p.tables.exec = Jvm.exec) (hb : c.code = cc) (hw : dw_W D cl tys A H0 (dw_l NC ce a f) s H locs) {k n b : Nat} (hk : dw_Cr tys NC ce a k n b) (hdg : decode cc pc = .ok (.arraylength, 1)) (kk : W p l e R s m args below meth c H locs cells slots Q (F0 m (pc + 1) ls (.int (nI n) :: rest))) : W p l e R s m args below meth c H locs cells slots Q (F0 m pc ls (.ref (a k) :: rest)) := by
  obtain ⟨h1, h2, cA, t0, h3, h4⟩ := hk
  exact va_alen (x := (n, .inr (.inr (.inr (.inr (fun j => some (a (b + j)))))))) hx hb hw.1 hw.2.1 k t0 (by rw [dw_get h1, h4]) h3 rfl hdg kk
theorem dw_aleni (hx : p.tables.exec = Jvm.exec) (hb : c.code = cc) (hw : dw_W D cl tys A H0 (dw_l NC ce a f) s H locs) {k n : Nat} {ty : FieldType} (hk : dw_Ci tys NC ce ty k n) (hdg : decode cc pc = .ok (.arraylength, 1)) (kk : W p l e R s m args below meth c H locs cells slots Q (F0 m (pc + 1) ls (.int (nI n) :: rest))) : W p l e R s m args below meth c H locs cells slots Q (F0 m pc ls (.ref (a k) :: rest)) := by
  obtain ⟨h1, h2, cA, t0, h3, h4⟩ := hk
  exact va_alen (x := (n, .inl (fun j => nI (f k j)))) hx hb hw.1 hw.2.1 k t0 (by rw [dw_get h1, h4]) h3 rfl hdg kk
theorem dw_iast (hx : p.tables.exec = Jvm.exec) (hb : c.code = cc) (hw : dw_W D cl tys A H0 (dw_l NC ce a f) s H locs) {k n i x : Nat} (hk : dw_Ci tys NC ce .int k n) (hi : i < n) (hdg : decode cc pc = .ok (.iastore, 1)) (kk : ∀ (f1 : Nat → Nat → Nat) (H1 : Heap) (locs1 : List Loc), f1 = dw_w f k i x → dw_W D cl tys A H0 (dw_l NC ce a f1) s H1 locs1 → W p l e R s m args below meth c H1 locs1 cells slots Q (F0 m (pc + 1) ls rest)) : W p l e R s m args below meth c H locs cells slots Q (F0 m pc ls (.int (nI x) :: .int (nI i) :: .ref (a k) :: rest)) := by
  obtain ⟨h1, h2, cA, t0, h3, h4⟩ := hk
  refine va_iast (f := fun j => nI (f k j)) hx hb hw.1 hw.2.1 hw.2.2.1 hw.2.2.2 k t0 (by rw [dw_get h1, h4]) h3 (vp_in_nI hi h2) hdg (fun H1 locs1 hP hD hS => ?_)
  rw [nI_clamp (by omega), dw_updn, ← h4, dw_set h1] at hP hD
  exact kk _ H1 locs1 rfl ⟨hw.1, hP, hD, hS⟩
theorem dw_zast (hx : p.tables.exec = Jvm.exec) (hb : c.code = cc) (hw : dw_W D cl tys A H0 (dw_l NC ce a f) s H locs) {k n i x : Nat} (hx1 : x ≤ 1) (hk : dw_Ci tys NC ce .boolean k n) (hi : i < n) (hdg : decode cc pc = .ok (.bastore, 1)) (kk : ∀ (f1 : Nat → Nat → Nat) (H1 : Heap) (locs1 : List Loc), f1 = dw_w f k i x → dw_W D cl tys A H0 (dw_l NC ce a f1) s H1 locs1 → W p l e R s m args below meth c H1 locs1 cells slots Q (F0 m (pc + 1) ls rest)) : W p l e R s m args below meth c H locs cells slots Q (F0 m pc ls (.int (nI x) :: .int (nI i) :: .ref (a k) :: rest)) := by
  obtain ⟨h1, h2, cA, t0, h3, h4⟩ := hk
  have hn : vp_nar .boolean (nI x) = nI x := by
    rcases (show x = 0 ∨ x = 1 by omega) with rfl | rfl <;> rfl
  refine va_zast (f := fun j => nI (f k j)) hx hb hw.1 hw.2.1 hw.2.2.1 hw.2.2.2 k t0 (by rw [dw_get h1, h4]) h3 (vp_in_nI hi h2) hdg (fun H1 locs1 hP hD hS => ?_)
  rw [hn, nI_clamp (by omega), dw_updn, ← h4, dw_set h1] at hP hD
  exact kk _ H1 locs1 rfl ⟨hw.1, hP, hD, hS⟩
theorem dw_last (hx : p.tables.exec = Jvm.exec) (hb : c.code = cc) (hw : dw_W D cl tys A H0 (dw_l NC ce a f) s H locs) {k n i x : Nat} (hk : dw_Cl tys NC ce k n) (hi : i < n) (hdg : decode cc pc = .ok (.lastore, 1)) (kk : ∀ (f1 : Nat → Nat → Nat) (H1 : Heap) (locs1 : List Loc), f1 = dw_w f k i x → dw_W D cl tys A H0 (dw_l NC ce a f1) s H1 locs1 → W p l e R s m args below meth c H1 locs1 cells slots Q (F0 m (pc + 1) ls rest)) : W p l e R s m args below meth c H locs cells slots Q (F0 m pc ls (.long (lN x) :: .int (nI i) :: .ref (a k) :: rest)) := by
  obtain ⟨h1, h2, cA, t0, h3, h4⟩ := hk
  refine va_last (f := fun j => lN (f k j)) hx hb hw.1 hw.2.1 hw.2.2.1 hw.2.2.2 k t0 (by rw [dw_get h1, h4]) h3 (vp_in_nI hi h2) hdg (fun H1 locs1 hP hD hS => ?_)
  rw [nI_clamp (by omega), dw_updl, ← h4, dw_set h1] at hP hD
  exact kk _ H1 locs1 rfl ⟨hw.1, hP, hD, hS⟩
end
end
section
/-! contracts over the world: arguments As and contents f give the answer r and contents f1 -/
def dw_nk : Cond → Bool
  | .fieldLinkNest .. => true
  | .methodLinkNest .. => true
  | _ => false
/-- the words of nest mates, which a method takes along with its start -/
def dw_N (Ns : List Cond) (U : State) : Prop := ∀ w ∈ Ns, dw_nk w = true → va_Nw w U
theorem dw_N.warm {Ns : List Cond} {s U : State} (hW : s.WarmedH U.vm) (h : dw_N Ns s) : dw_N Ns U := fun w hw hk => by
  cases w <;> first | exact va_Nw.warmF hW (h _ hw hk) | exact va_Nw.warmM hW (h _ hw hk) | exact absurd (show false = true from hk) (by decide)
theorem dw_N.same {Ns : List Cond} {u U : State} (e : u.vm = U.vm) (h : dw_N Ns u) : dw_N Ns U := fun w hw hk => by
  cases w <;> first | exact va_Nw.same rfl e (h _ hw hk) | exact absurd (show false = true from hk) (by decide)
def dw_B (Ns : List Cond) (D : va_G) (cl : List vw_C) (tys : List (ClassId × FieldType)) (ws : va_W) (sz : Nat) (U : State) : Prop := U.heap.size = sz ∧ va_P D cl ws U.heap ∧ va_K D cl tys U ∧ va_D (fun _ => True) ws ∧ dw_N Ns U
def dw_E (D : va_G) (cl : List vw_C) (tys : List (ClassId × FieldType)) (NC : Nat) (ce : Nat → (Nat → Nat) → va_E) (a : Nat → Nat) (u : Nat → Nat → Nat) (t : State) : Prop := va_P D cl (dw_l NC ce a u) t.heap ∧ va_K D cl tys t
def dw_CI (l : Launch) (Ns : List Cond) (D : va_G) (cl : List vw_C) (tys : List (ClassId × FieldType)) (NC : Nat) (ce : Nat → (Nat → Nat) → va_E) (a : Nat → Nat) (y : MethodName) (ws : List Cond) (fr lo : Nat) (As : List Value) (f : Nat → Nat → Nat) (post : Int32 → (Nat → Nat → Nat) → Prop) : Prop :=
  ∀ sz : Nat, Met l y ws { frames := fr, cells := 0, slots := 0, locals := lo } (va_Pc As (dw_B Ns D cl tys (dw_l NC ce a f) sz)) (va_Qi post (dw_E D cl tys NC ce a) (va_A (dw_l NC ce a f) sz)) 0 0 (va_A (dw_l NC ce a f) sz)
def dw_CL (l : Launch) (Ns : List Cond) (D : va_G) (cl : List vw_C) (tys : List (ClassId × FieldType)) (NC : Nat) (ce : Nat → (Nat → Nat) → va_E) (a : Nat → Nat) (y : MethodName) (ws : List Cond) (fr lo : Nat) (As : List Value) (f : Nat → Nat → Nat) (post : Int64 → (Nat → Nat → Nat) → Prop) : Prop :=
  ∀ sz : Nat, Met l y ws { frames := fr, cells := 0, slots := 0, locals := lo } (va_Pc As (dw_B Ns D cl tys (dw_l NC ce a f) sz)) (va_Ql post (dw_E D cl tys NC ce a) (va_A (dw_l NC ce a f) sz)) 0 0 (va_A (dw_l NC ce a f) sz)
def dw_CV (l : Launch) (Ns : List Cond) (D : va_G) (cl : List vw_C) (tys : List (ClassId × FieldType)) (NC : Nat) (ce : Nat → (Nat → Nat) → va_E) (a : Nat → Nat) (y : MethodName) (ws : List Cond) (fr lo : Nat) (As : List Value) (f : Nat → Nat → Nat) (post : (Nat → Nat → Nat) → Prop) : Prop :=
  ∀ sz : Nat, Met l y ws { frames := fr, cells := 0, slots := 0, locals := lo } (va_Pc As (dw_B Ns D cl tys (dw_l NC ce a f) sz)) (va_Qv post (dw_E D cl tys NC ce a) (va_A (dw_l NC ce a f) sz)) 0 0 (va_A (dw_l NC ce a f) sz)
theorem dw_blind {Ns : List Cond} {D : va_G} {cl : List vw_C} {tys : List (ClassId × FieldType)} {ws : va_W} {sz : Nat} {As : List Value} : FrameBlind (va_Pc As (dw_B Ns D cl tys ws sz)) := fun a U g mk q => by
  obtain ⟨q0, q1, qP, qK, qD, qN⟩ := q
  exact ⟨q0, q1, qP, va_K.moved (u := U) (U := U.calling g mk a) (Vm.Alike.refl U.vm) qK, qD, dw_N.same (u := U) (U := U.calling g mk a) rfl qN⟩
theorem dw_pre {Ns : List Cond} {D : va_G} {cl : List vw_C} {tys : List (ClassId × FieldType)} {ws : va_W} {As : List Value} {A : Nat → Prop} {H0 H : Heap} {s : State} {locs : List Loc} (hw : dw_W D cl tys A H0 ws s H locs) (hN : dw_N Ns s) : ∀ U : State, U.heap = H → s.WarmedH U.vm → va_Pc As (dw_B Ns D cl tys ws H.size) As.toArray U := fun U hU hW => ⟨rfl, by rw [hU], by rw [hU]; exact hw.2.1, va_K.moved hW.alike hw.1, hw.2.2.1.weaken (fun _ _ _ _ => trivial), hN.warm hW⟩
theorem dw_good {Ts ws : List Cond} (hG : GoodIn Ts Ts) (h : ∀ w ∈ ws, w ∈ Ts) : GoodIn Ts ws := fun w hw => ⟨h w hw, (hG w (h w hw)).2⟩
theorem dw_code {Ts : List Cond} {w : Cond} (h : w ∈ Ts) : ∀ v ∈ w :: Ts, v ∈ Ts := fun v hv => by
  rcases List.mem_cons.mp hv with rfl | hv
  · exact h
  · exact hv
section
variable {p : Program} {l : Launch} {e : Env} {R : Room} {s : State} {m : MethodId} {args : Array Value} {below : List Frame} {meth : Method} {c : Code} {H H0 : Heap} {locs : List Loc} {cells slots : Nat} {Q : State → Prop} {cc : ByteArray} {pc : Nat} {ls : Array Slot} {rest st0 : List Value}
  {D : va_G} {cl : List vw_C} {tys : List (ClassId × FieldType)} {A : Nat → Prop} {NC : Nat} {ce : Nat → (Nat → Nat) → va_E} {a : Nat → Nat} {f : Nat → Nat → Nat} {Ts Ns : List Cond} {own C host : String} {nL index maxL n fr lo ko ci : Nat} {y : MethodName} {bytes : ByteArray} {ret : Option FieldType} {As : List Value} {av : Array Value}
theorem dw_F (hw : dw_W D cl tys A H0 (dw_l NC ce a f) s H locs) (hA : ∀ q, H0.size ≤ q → A q) : ∀ q, va_A (dw_l NC ce a f) H.size q → A q := fun q h => by
  rcases h with ⟨k, e, h⟩ | h
  · exact hw.2.2.1.2 k _ h
  · exact hA q (Nat.le_trans hw.2.2.2.1 h)
theorem dw_afti {post : Int32 → (Nat → Nat → Nat) → Prop} (hw : dw_W D cl tys A H0 (dw_l NC ce a f) s H locs) (hA : ∀ q, H0.size ≤ q → A q) (hr : va_Run p l e R s m args below meth c H locs cells slots 0 0 (F0 m pc ls st0) rest (va_Qi post (dw_E D cl tys NC ce a) (va_A (dw_l NC ce a f) H.size) av) (va_A (dw_l NC ce a f) H.size))
    (kk : ∀ (r : Int32) (f1 : Nat → Nat → Nat) (H1 : Heap) (locs1 : List Loc), post r f1 → dw_W D cl tys A H0 (dw_l NC ce a f1) s H1 locs1 → W p l e R s m args below meth c H1 locs1 cells slots Q (F0 m (pc + 3) ls (.int r :: rest))) : W p l e R s m args below meth c H locs cells slots Q (F0 m pc ls st0) := by
  have hF := dw_F hw hA
  refine va_calli hr hw.2.2.2 (fun q _ h => hF q h) hF (fun r' u t H1 locs1 ht hvm hp hB hz hk hS => ?_)
  obtain ⟨hP1, hK1⟩ := hB
  rw [ht] at hP1
  exact kk r' u H1 locs1 hp ⟨hw.1, hP1, dw_D hw.2.2.1, hS⟩
theorem dw_aftl {post : Int64 → (Nat → Nat → Nat) → Prop} (hw : dw_W D cl tys A H0 (dw_l NC ce a f) s H locs) (hA : ∀ q, H0.size ≤ q → A q) (hr : va_Run p l e R s m args below meth c H locs cells slots 0 0 (F0 m pc ls st0) rest (va_Ql post (dw_E D cl tys NC ce a) (va_A (dw_l NC ce a f) H.size) av) (va_A (dw_l NC ce a f) H.size))
    (kk : ∀ (r : Int64) (f1 : Nat → Nat → Nat) (H1 : Heap) (locs1 : List Loc), post r f1 → dw_W D cl tys A H0 (dw_l NC ce a f1) s H1 locs1 → W p l e R s m args below meth c H1 locs1 cells slots Q (F0 m (pc + 3) ls (.long r :: rest))) : W p l e R s m args below meth c H locs cells slots Q (F0 m pc ls st0) := by
  have hF := dw_F hw hA
  refine va_calll hr hw.2.2.2 (fun q _ h => hF q h) hF (fun r' u t H1 locs1 ht hvm hp hB hz hk hS => ?_)
  obtain ⟨hP1, hK1⟩ := hB
  rw [ht] at hP1
  exact kk r' u H1 locs1 hp ⟨hw.1, hP1, dw_D hw.2.2.1, hS⟩
theorem dw_aftv {post : (Nat → Nat → Nat) → Prop} (hw : dw_W D cl tys A H0 (dw_l NC ce a f) s H locs) (hA : ∀ q, H0.size ≤ q → A q) (hr : va_Run p l e R s m args below meth c H locs cells slots 0 0 (F0 m pc ls st0) rest (va_Qv post (dw_E D cl tys NC ce a) (va_A (dw_l NC ce a f) H.size) av) (va_A (dw_l NC ce a f) H.size))
    (kk : ∀ (f1 : Nat → Nat → Nat) (H1 : Heap) (locs1 : List Loc), post f1 → dw_W D cl tys A H0 (dw_l NC ce a f1) s H1 locs1 → W p l e R s m args below meth c H1 locs1 cells slots Q (F0 m (pc + 3) ls rest)) : W p l e R s m args below meth c H locs cells slots Q (F0 m pc ls st0) := by
  have hF := dw_F hw hA
  refine va_callv hr hw.2.2.2 (fun q _ h => hF q h) hF (fun u t H1 locs1 ht hvm hp hB hz hk hS => ?_)
  obtain ⟨hP1, hK1⟩ := hB
  rw [ht] at hP1
  exact kk u H1 locs1 hp ⟨hw.1, hP1, dw_D hw.2.2.1, hS⟩
/-- an object cell -/
def dw_Co (cl : List vw_C) (NC : Nat) (ce : Nat → (Nat → Nat) → va_E) (k ci : Nat) (C : String) (T : u_T) (N : Nat) (fs : (Nat → Nat) → List Value) : Prop := k < NC ∧ cl[ci]? = some (C, T, N) ∧ ∀ g, ce k g = .inr (ci, fs g)
theorem dw_ob {T : u_T} {N : Nat} {fs : (Nat → Nat) → List Value} {k : Nat} (h : dw_Co cl NC ce k ci C T N fs) : (dw_l NC ce a f)[k]? = some (a k, .inr (ci, fs (f k))) := by rw [dw_get h.1, h.2.2]
/-- the words and the room of a call -/
abbrev dw_Cw (Ts : List Cond) (y : MethodName) (bytes : ByteArray) (maxL : Nat) (ret : Option FieldType) (n : Nat) : Prop := Cond.code y bytes maxL ret ∈ Ts ∧ Cond.initialized y.cls ∈ Ts ∧ (y.cls ≠ "java/lang/invoke/MethodHandle" ∧ y.cls ≠ "java/lang/invoke/VarHandle" ∧ (parseMethodDescriptor y.desc).map (fun d => d.parameters.length) = some n)
theorem dw_runV {Pc : Array Value → State → Prop} {Qc : Array Value → State → Outcome → State → Prop} {free : Addr → Prop} {T : u_T} {N : Nat} {fs : (Nat → Nat) → List Value} (hw : dw_W D cl tys A H0 (dw_l NC ce a f) s H locs) (S : CallFix p m c cc nL s args Ts own) (hG : GoodIn Ts Ts) (hM : Met l y (Cond.code y bytes maxL ret :: Ts) { frames := fr, cells := 0, slots := 0, locals := lo } Pc Qc 0 0 free) (cw : dw_Cw Ts y bytes maxL ret n) (hl : Cond.methodLink own index y ∈ Ts) (hi : Cond.instanceMethod y ∈ Ts) (hse : Cond.selects C y y ∈ Ts)
    (ho : dw_Co cl NC ce ko ci C T N fs) (hbl : FrameBlind Pc) (hpre : ∀ U : State, U.heap = H → s.WarmedH U.vm → Pc (Value.ref (a ko) :: As).toArray U) (hn : As.length = n) (hsz : ls.size = nL) (hst : st0 = As.reverse ++ .ref (a ko) :: rest) (hR : fr + 1 ≤ R.frames ∧ 8 + (maxL + 11) + lo ≤ R.locals) (hre : (rest.map fun v => v.category).sum ≤ 8) (hcs : cells ≤ R.cells ∧ slots ≤ R.slots) (hdg : decode cc pc = .ok (.invokevirtual index, 3)) :
    va_Run p l e R s m args below meth c H locs cells slots 0 0 (F0 m pc ls st0) rest (Qc (Value.ref (a ko) :: As).toArray) free :=
  va_runV (As := As) (rest := rest) (b := a ko) (C := C) S hM ⟨callB_of n S.2.2.2.2 (dw_good hG (dw_code cw.1)) rfl rfl rfl (S.2.2.2.2 _ cw.2.1) (S.2.2.2.2 _ hl) cw.2.2 hR, S.2.2.2.2 _ hi, S.2.2.2.2 _ hse⟩ ⟨hbl, va_recv hw.1 hw.2.1 ho.2.1 (dw_ob ho), hpre⟩ rfl hn hsz hst (lv_room hre) hdg hcs
theorem dw_runVN {Pc : Array Value → State → Prop} {Qc : Array Value → State → Outcome → State → Prop} {free : Addr → Prop} {T : u_T} {N : Nat} {fs : (Nat → Nat) → List Value} (hw : dw_W D cl tys A H0 (dw_l NC ce a f) s H locs) (S : CallFix p m c cc nL s args Ts own) (hG : GoodIn Ts Ts) (hM : Met l y (Cond.code y bytes maxL ret :: Ts) { frames := fr, cells := 0, slots := 0, locals := lo } Pc Qc 0 0 free) (cw : dw_Cw Ts y bytes maxL ret n) (hN : dw_N Ns s) (hl : Cond.methodLinkNest own index y host ∈ Ns) (hi : Cond.instanceMethod y ∈ Ts) (hse : Cond.selects C y y ∈ Ts)
    (ho : dw_Co cl NC ce ko ci C T N fs) (hbl : FrameBlind Pc) (hpre : ∀ U : State, U.heap = H → s.WarmedH U.vm → Pc (Value.ref (a ko) :: As).toArray U) (hn : As.length = n) (hsz : ls.size = nL) (hst : st0 = As.reverse ++ .ref (a ko) :: rest) (hR : fr + 1 ≤ R.frames ∧ 8 + (maxL + 11) + lo ≤ R.locals) (hre : (rest.map fun v => v.category).sum ≤ 8) (hcs : cells ≤ R.cells ∧ slots ≤ R.slots) (hdg : decode cc pc = .ok (.invokevirtual index, 3)) :
    va_Run p l e R s m args below meth c H locs cells slots 0 0 (F0 m pc ls st0) rest (Qc (Value.ref (a ko) :: As).toArray) free :=
  va_runVN (As := As) (rest := rest) (b := a ko) (C := C) (host := host) S hM ⟨va_cnB n S.2.2.2.2 (dw_good hG (dw_code cw.1)) rfl rfl rfl (hN _ hl rfl) (S.2.2.2.2 _ cw.2.1) cw.2.2 hR, S.2.2.2.2 _ hi, S.2.2.2.2 _ hse⟩ ⟨hbl, va_recv hw.1 hw.2.1 ho.2.1 (dw_ob ho), hpre⟩ rfl hn hsz hst (lv_room hre) hdg hcs
theorem dw_runS {Pc : Array Value → State → Prop} {Qc : Array Value → State → Outcome → State → Prop} {free : Addr → Prop} (S : CallFix p m c cc nL s args Ts own) (hG : GoodIn Ts Ts) (hM : Met l y (Cond.code y bytes maxL ret :: Ts) { frames := fr, cells := 0, slots := 0, locals := lo } Pc Qc 0 0 free) (cw : dw_Cw Ts y bytes maxL ret n) (hl : Cond.methodLink own index y ∈ Ts) (hi : Cond.static y ∈ Ts)
    (hbl : FrameBlind Pc) (hpre : ∀ U : State, U.heap = H → s.WarmedH U.vm → Pc As.toArray U) (hn : As.length = n) (hsz : ls.size = nL) (hst : st0 = As.reverse ++ rest) (hR : fr + 1 ≤ R.frames ∧ 8 + (maxL + 11) + lo ≤ R.locals) (hre : (rest.map fun v => v.category).sum ≤ 8) (hcs : cells ≤ R.cells ∧ slots ≤ R.slots) (hdg : decode cc pc = .ok (.invokestatic index, 3)) :
    va_Run p l e R s m args below meth c H locs cells slots 0 0 (F0 m pc ls st0) rest (Qc As.toArray) free :=
  va_runS (As := As) (rest := rest) S hM ⟨callB_of n S.2.2.2.2 (dw_good hG (dw_code cw.1)) rfl rfl rfl (S.2.2.2.2 _ cw.2.1) (S.2.2.2.2 _ hl) cw.2.2 hR, S.2.2.2.2 _ hi⟩ ⟨hbl, hpre⟩ rfl hn hsz hst (lv_room hre) hdg hcs
theorem dw_runSN {Pc : Array Value → State → Prop} {Qc : Array Value → State → Outcome → State → Prop} {free : Addr → Prop} (S : CallFix p m c cc nL s args Ts own) (hG : GoodIn Ts Ts) (hM : Met l y (Cond.code y bytes maxL ret :: Ts) { frames := fr, cells := 0, slots := 0, locals := lo } Pc Qc 0 0 free) (cw : dw_Cw Ts y bytes maxL ret n) (hN : dw_N Ns s) (hl : Cond.methodLinkNest own index y host ∈ Ns) (hi : Cond.static y ∈ Ts)
    (hbl : FrameBlind Pc) (hpre : ∀ U : State, U.heap = H → s.WarmedH U.vm → Pc As.toArray U) (hn : As.length = n) (hsz : ls.size = nL) (hst : st0 = As.reverse ++ rest) (hR : fr + 1 ≤ R.frames ∧ 8 + (maxL + 11) + lo ≤ R.locals) (hre : (rest.map fun v => v.category).sum ≤ 8) (hcs : cells ≤ R.cells ∧ slots ≤ R.slots) (hdg : decode cc pc = .ok (.invokestatic index, 3)) :
    va_Run p l e R s m args below meth c H locs cells slots 0 0 (F0 m pc ls st0) rest (Qc As.toArray) free :=
  va_runSN (As := As) (rest := rest) (host := host) S hM ⟨va_cnB n S.2.2.2.2 (dw_good hG (dw_code cw.1)) rfl rfl rfl (hN _ hl rfl) (S.2.2.2.2 _ cw.2.1) cw.2.2 hR, S.2.2.2.2 _ hi, trivial⟩ ⟨hbl, hpre⟩ rfl hn hsz hst (lv_room hre) hdg hcs
theorem dw_getf {T : u_T} {N fi k : Nat} {fs : (Nat → Nat) → List Value} {v : Value} (S : CallFix p m c cc nL s args Ts own) (hw : dw_W D cl tys A H0 (dw_l NC ce a f) s H locs) (hin : ∀ w ∈ u_ws C T N, w ∈ Ts) (ho : dw_Co cl NC ce k ci C T N fs) (hfi : fi < N) (hT : (T fi).1 = C) (hl : Cond.fieldLink own index C (T fi).2.1 (T fi).2.2.1 ∈ Ts) (hv : (fs (f k))[fi]? = some v) (hdg : decode cc pc = .ok (.getfield index, 3))
    (kk : W p l e R s m args below meth c H locs cells slots Q (F0 m (pc + 3) ls (v :: rest))) : W p l e R s m args below meth c H locs cells slots Q (F0 m pc ls (.ref (a k) :: rest)) :=
  va_get (D := D) S.1 S.2.1 S.2.2.2.2 hin S.2.2.2.1 hw.1 hw.2.1 k (dw_ob ho) ho.2.1 fi hfi (S.2.2.2.2 _ hl) (fun x hx => by rw [hT] at hx; exact hx) hv hdg kk
theorem dw_getN {T : u_T} {N fi k : Nat} {fs : (Nat → Nat) → List Value} {v : Value} (S : CallFix p m c cc nL s args Ts own) (hw : dw_W D cl tys A H0 (dw_l NC ce a f) s H locs) (hin : ∀ w ∈ u_ws C T N, w ∈ Ts) (ho : dw_Co cl NC ce k ci C T N fs) (hfi : fi < N) (hT : (T fi).1 = C) (hN : dw_N Ns s) (hl : Cond.fieldLinkNest own index C (T fi).2.1 (T fi).2.2.1 host ∈ Ns) (hv : (fs (f k))[fi]? = some v) (hdg : decode cc pc = .ok (.getfield index, 3))
    (kk : W p l e R s m args below meth c H locs cells slots Q (F0 m (pc + 3) ls (v :: rest))) : W p l e R s m args below meth c H locs cells slots Q (F0 m pc ls (.ref (a k) :: rest)) :=
  va_getN (D := D) S.1 S.2.1 S.2.2.2.2 hin S.2.2.2.1 hw.1 hw.2.1 k (dw_ob ho) ho.2.1 fi hfi (va_Nw.use rfl (hN _ hl rfl)) (fun x hx => by rw [hT] at hx; exact hx) hv hdg kk
theorem dw_putf {T : u_T} {N fi k x : Nat} {fs : (Nat → Nat) → List Value} (S : CallFix p m c cc nL s args Ts own) (hw : dw_W D cl tys A H0 (dw_l NC ce a f) s H locs) (hin : ∀ w ∈ u_ws C T N, w ∈ Ts) (ty0 : Nat → FieldType) (hty : ∀ k, k < N → parseFieldDescriptor (T k).2.2.1 = some (ty0 k)) (hnm : ∀ a, a < N → ∀ b, b < N → a ≠ b → (T a).2.1 ≠ (T b).2.1) (ho : dw_Co cl NC ce k ci C T N fs) (hfi : fi < N) (hT : (T fi).1 = C) (hl : Cond.fieldLink own index C (T fi).2.1 (T fi).2.2.1 ∈ Ts) (hfin : (T fi).2.2.2 = false) (hd : parseFieldDescriptor (T fi).2.2.1 = some .int) (hlen : fi < (fs (f k)).length) (hset : (fs (f k)).set fi (.int (nI x)) = fs (dw_up (f k) fi x)) (hdg : decode cc pc = .ok (.putfield index, 3))
    (kk : ∀ (f1 : Nat → Nat → Nat) (H1 : Heap) (locs1 : List Loc), f1 = dw_w f k fi x → dw_W D cl tys A H0 (dw_l NC ce a f1) s H1 locs1 → W p l e R s m args below meth c H1 locs1 cells slots Q (F0 m (pc + 3) ls rest)) : W p l e R s m args below meth c H locs cells slots Q (F0 m pc ls (.int (nI x) :: .ref (a k) :: rest)) := by
  refine va_put (D := D) (v := .int (nI x)) (ty := .int) S.1 S.2.1 S.2.2.2.2 hin ty0 hty hnm S.2.2.2.1 hw.1 hw.2.1 hw.2.2.1 hw.2.2.2 k (dw_ob ho) ho.2.1 fi hfi (S.2.2.2.2 _ hl) (fun x hx => by rw [hT] at hx; exact hx) hfin hd rfl rfl hlen hdg (fun H1 locs1 hP hD hS => ?_)
  rw [hset, ← ho.2.2, dw_set ho.1] at hP hD
  exact kk _ H1 locs1 rfl ⟨hw.1, hP, hD, hS⟩
theorem dw_putN {T : u_T} {N fi k x : Nat} {fs : (Nat → Nat) → List Value} (S : CallFix p m c cc nL s args Ts own) (hw : dw_W D cl tys A H0 (dw_l NC ce a f) s H locs) (hin : ∀ w ∈ u_ws C T N, w ∈ Ts) (ty0 : Nat → FieldType) (hty : ∀ k, k < N → parseFieldDescriptor (T k).2.2.1 = some (ty0 k)) (hnm : ∀ a, a < N → ∀ b, b < N → a ≠ b → (T a).2.1 ≠ (T b).2.1) (ho : dw_Co cl NC ce k ci C T N fs) (hfi : fi < N) (hT : (T fi).1 = C) (hN : dw_N Ns s) (hl : Cond.fieldLinkNest own index C (T fi).2.1 (T fi).2.2.1 host ∈ Ns) (hfin : (T fi).2.2.2 = false) (hd : parseFieldDescriptor (T fi).2.2.1 = some .int) (hlen : fi < (fs (f k)).length) (hset : (fs (f k)).set fi (.int (nI x)) = fs (dw_up (f k) fi x)) (hdg : decode cc pc = .ok (.putfield index, 3))
    (kk : ∀ (f1 : Nat → Nat → Nat) (H1 : Heap) (locs1 : List Loc), f1 = dw_w f k fi x → dw_W D cl tys A H0 (dw_l NC ce a f1) s H1 locs1 → W p l e R s m args below meth c H1 locs1 cells slots Q (F0 m (pc + 3) ls rest)) : W p l e R s m args below meth c H locs cells slots Q (F0 m pc ls (.int (nI x) :: .ref (a k) :: rest)) := by
  refine va_putN (D := D) (v := .int (nI x)) (ty := .int) S.1 S.2.1 S.2.2.2.2 hin ty0 hty hnm S.2.2.2.1 hw.1 hw.2.1 hw.2.2.1 hw.2.2.2 k (dw_ob ho) ho.2.1 fi hfi (va_Nw.use rfl (hN _ hl rfl)) (fun x hx => by rw [hT] at hx; exact hx) hfin hd rfl rfl hlen hdg (fun H1 locs1 hP hD hS => ?_)
  rw [hset, ← ho.2.2, dw_set ho.1] at hP hD
  exact kk _ H1 locs1 rfl ⟨hw.1, hP, hD, hS⟩
/-- System.arraycopy of n ints from the front of one row to the front of another -/
theorem dw_copy {k k2 n1 n2 cnt : Nat} (S : CallFix p m c cc nL s args Ts own) (hw : dw_W D cl tys A H0 (dw_l NC ce a f) s H locs) (hl : Cond.methodLink own index arraycopyName ∈ Ts) (hnat : Cond.native arraycopyName ∈ Ts) (hst : Cond.static arraycopyName ∈ Ts) (hini : Cond.initialized "java/lang/System" ∈ Ts) (hk : dw_Ci tys NC ce .int k n1) (hk2 : dw_Ci tys NC ce .int k2 n2) (h1 : cnt ≤ n1) (h2 : cnt ≤ n2) (hsz : ls.size = nL) (hfr : 1 ≤ R.frames) (hlo : (rest.map fun v => v.category).sum + (nativeFrameWords "java/lang/System" "arraycopy" 5 + 11) ≤ R.locals) (hdg : decode cc pc = .ok (.invokestatic index, 3))
    (kk : ∀ (f1 : Nat → Nat → Nat) (H1 : Heap) (locs1 : List Loc), f1 = dw_su f k2 (fun j => if j < cnt then f k j else f k2 j) → dw_W D cl tys A H0 (dw_l NC ce a f1) s H1 locs1 → W p l e R s m args below meth c H1 locs1 cells slots Q (F0 m (pc + 3) ls rest)) : W p l e R s m args below meth c H locs cells slots Q (F0 m pc ls (.int (nI cnt) :: .int (nI 0) :: .ref (a k2) :: .int (nI 0) :: .ref (a k) :: rest)) := by
  obtain ⟨a1, a2, cA, t0, a3, a4⟩ := hk
  obtain ⟨b1, b2, cB, t1, b3, b4⟩ := hk2
  have hc : (nI cnt).toNatClampNeg = cnt := nI_clamp (by omega)
  have h0 : (nI 0).toNatClampNeg = 0 := rfl
  refine va_copyi (f := fun j => nI (f k j)) (g := fun j => nI (f k2 j)) S.1 S.2.1 (S.2.2.1.trans hsz.symm) S.2.2.2.1 (S.2.2.2.2 _ hl) (S.2.2.2.2 _ hnat) (S.2.2.2.2 _ hst) (S.2.2.2.2 _ hini) hw.1 hw.2.1 hw.2.2.1 hw.2.2.2 k k2 t0 t1 (by rw [dw_get a1, a4]) (by rw [dw_get b1, b4]) a3 b3 rfl (by decide) (by decide) (nI_pos (by omega)) (by rw [hc, h0]; omega) (by rw [hc, h0]; omega) (fun _ _ => rfl) hfr hlo hdg (fun H1 locs1 hP hD hS => ?_)
  have hq : (va_cpy (fun j => nI (f k j)) (fun j => nI (f k2 j)) (nI 0).toNatClampNeg (nI 0).toNatClampNeg (nI cnt).toNatClampNeg) = fun j => nI ((fun j => if j < cnt then f k j else f k2 j) j) := by
    funext j
    rw [hc, h0]
    unfold va_cpy
    by_cases h : j < cnt
    · rw [if_pos ⟨Nat.zero_le _, by omega⟩]
      simp [h]
    · rw [if_neg (by omega)]
      simp [h]
  rw [hq, ← b4, dw_set b1] at hP hD
  exact kk _ H1 locs1 rfl ⟨hw.1, hP, hD, hS⟩
end
/-- a contract out of a walk of its body -/
theorem dw_ofI {l : Launch} {Ns : List Cond} {D : va_G} {cl : List vw_C} {tys : List (ClassId × FieldType)} {NC : Nat} {ce : Nat → (Nat → Nat) → va_E} {a : Nat → Nat} {y : MethodName} {bytes : ByteArray} {maxL : Nat} {ty : FieldType} {Ts : List Cond} {fr lo : Nat} {As : List Value} {f : Nat → Nat → Nat} {post : Int32 → (Nat → Nat → Nat) → Prop} (hy : plainName y.cls = true) (hnar : ∀ v u, post v u → narrow ty (.int v) = .int v) (hlen : (lg_sl As).length ≤ maxL)
    (body : ∀ (p : Program) (e : Env) (s : State) (m : MethodId) (args : Array Value) (below : List Frame) (meth : Method) (c : Code) (ls : Array Slot) (A : Nat → Prop) (Q : State → Prop) (R : Room) (H : Heap) (locs : List Loc), (fr ≤ R.frames ∧ lo ≤ R.locals) → (∀ q : Nat, s.heap.size ≤ q → A q) → CallFix p m c bytes maxL s args Ts y.cls → dw_N Ns s → dw_W D cl tys A s.heap (dw_l NC ce a f) s H locs → lv_has ls maxL (lv_args 0 As) →
      (∀ (H : Heap) (locs : List Loc) (pc : Nat) (ls : Array Slot) (f2 : Nat → Nat → Nat) (v : Int32), dw_W D cl tys A s.heap (dw_l NC ce a f2) s H locs → post v f2 → decode bytes pc = .ok (.ireturn, 1) → W p l e R s m args below meth c H locs 0 0 Q (F0 m pc ls [.int v])) →
      W p l e R s m args below meth c H locs 0 0 Q (F0 m 0 ls [])) : dw_CI l Ns D cl tys NC ce a y (Cond.code y bytes maxL (some ty) :: Ts) fr lo As f post := by
  intro sz
  refine Met.ofW (cc := bytes) (maxL := maxL) (ret := some ty) hy rfl ?_
  intro p e s m args below meth c s₁ B hml hv
  obtain ⟨rfl, hsz, hP, hK, hD0, hN⟩ := hv
  have hts := atoms_spec (ws := Cond.code y bytes maxL (some ty) :: Ts) B.pre
  have hown : s.vm.findClass y.cls = some m.cls := findClass_of_methodNamed B.named
  have hlocks := B.notSynchronized
  have hr := B.returns
  have hx := B.exec
  have hb := B.bytes
  subst hsz
  have hD := hD0.self (sz := s.heap.size)
  generalize hAe : va_A (dw_l NC ce a f) s.heap.size = A at hD ⊢
  have hA : ∀ q : Nat, s.heap.size ≤ q → A q := fun q h => by rw [← hAe]; exact Or.inr h
  have hl := lv_entry As (n := maxL) hlen
  rw [lg_entry_eq]
  generalize (lg_sl As ++ List.replicate (maxL - (lg_sl As).length) Slot.unset).toArray = ls at hl ⊢
  refine body p e s m _ below meth c ls A _ _ s.heap [] ⟨Nat.le_refl _, Nat.le_refl _⟩ hA ⟨hx, hb, hml, hown, fun w hw => hts w (List.mem_cons_of_mem _ hw)⟩ hN ⟨hK, hP, hD, va_S.rf⟩ hl ?_
  intro H locs pc ls f2 v hw hv hdg
  exact W.zret hx hb hr (hnar v f2 hv) (fun t ht hW => ⟨⟨v, f2, rfl, hv, by rw [ht]; exact hw.2.1, va_K.moved hW.alike hw.1⟩, hw.2.2.2.F ht⟩) hw.2.2.2.2.2 hdg hlocks
theorem dw_ofL {l : Launch} {Ns : List Cond} {D : va_G} {cl : List vw_C} {tys : List (ClassId × FieldType)} {NC : Nat} {ce : Nat → (Nat → Nat) → va_E} {a : Nat → Nat} {y : MethodName} {bytes : ByteArray} {maxL : Nat} {Ts : List Cond} {fr lo : Nat} {As : List Value} {f : Nat → Nat → Nat} {post : Int64 → (Nat → Nat → Nat) → Prop} (hy : plainName y.cls = true) (hlen : (lg_sl As).length ≤ maxL)
    (body : ∀ (p : Program) (e : Env) (s : State) (m : MethodId) (args : Array Value) (below : List Frame) (meth : Method) (c : Code) (ls : Array Slot) (A : Nat → Prop) (Q : State → Prop) (R : Room) (H : Heap) (locs : List Loc), (fr ≤ R.frames ∧ lo ≤ R.locals) → (∀ q : Nat, s.heap.size ≤ q → A q) → CallFix p m c bytes maxL s args Ts y.cls → dw_N Ns s → dw_W D cl tys A s.heap (dw_l NC ce a f) s H locs → lv_has ls maxL (lv_args 0 As) →
      (∀ (H : Heap) (locs : List Loc) (pc : Nat) (ls : Array Slot) (f2 : Nat → Nat → Nat) (v : Int64), dw_W D cl tys A s.heap (dw_l NC ce a f2) s H locs → post v f2 → decode bytes pc = .ok (.lreturn, 1) → W p l e R s m args below meth c H locs 0 0 Q (F0 m pc ls [.long v])) →
      W p l e R s m args below meth c H locs 0 0 Q (F0 m 0 ls [])) : dw_CL l Ns D cl tys NC ce a y (Cond.code y bytes maxL (some .long) :: Ts) fr lo As f post := by
  intro sz
  refine Met.ofW (cc := bytes) (maxL := maxL) (ret := some .long) hy rfl ?_
  intro p e s m args below meth c s₁ B hml hv
  obtain ⟨rfl, hsz, hP, hK, hD0, hN⟩ := hv
  have hts := atoms_spec (ws := Cond.code y bytes maxL (some .long) :: Ts) B.pre
  have hown : s.vm.findClass y.cls = some m.cls := findClass_of_methodNamed B.named
  have hlocks := B.notSynchronized
  have hr := B.returns
  have hx := B.exec
  have hb := B.bytes
  subst hsz
  have hD := hD0.self (sz := s.heap.size)
  generalize hAe : va_A (dw_l NC ce a f) s.heap.size = A at hD ⊢
  have hA : ∀ q : Nat, s.heap.size ≤ q → A q := fun q h => by rw [← hAe]; exact Or.inr h
  have hl := lv_entry As (n := maxL) hlen
  rw [lg_entry_eq]
  generalize (lg_sl As ++ List.replicate (maxL - (lg_sl As).length) Slot.unset).toArray = ls at hl ⊢
  refine body p e s m _ below meth c ls A _ _ s.heap [] ⟨Nat.le_refl _, Nat.le_refl _⟩ hA ⟨hx, hb, hml, hown, fun w hw => hts w (List.mem_cons_of_mem _ hw)⟩ hN ⟨hK, hP, hD, va_S.rf⟩ hl ?_
  intro H locs pc ls f2 v hw hv hdg
  exact W.lret hx hb hr (fun t ht hW => ⟨⟨v, f2, rfl, hv, by rw [ht]; exact hw.2.1, va_K.moved hW.alike hw.1⟩, hw.2.2.2.F ht⟩) hw.2.2.2.2.2 hdg hlocks
theorem dw_ofV {l : Launch} {Ns : List Cond} {D : va_G} {cl : List vw_C} {tys : List (ClassId × FieldType)} {NC : Nat} {ce : Nat → (Nat → Nat) → va_E} {a : Nat → Nat} {y : MethodName} {bytes : ByteArray} {maxL : Nat} {Ts : List Cond} {fr lo : Nat} {As : List Value} {f : Nat → Nat → Nat} {post : (Nat → Nat → Nat) → Prop} (hy : plainName y.cls = true) (hlen : (lg_sl As).length ≤ maxL)
    (body : ∀ (p : Program) (e : Env) (s : State) (m : MethodId) (args : Array Value) (below : List Frame) (meth : Method) (c : Code) (ls : Array Slot) (A : Nat → Prop) (Q : State → Prop) (R : Room) (H : Heap) (locs : List Loc), (fr ≤ R.frames ∧ lo ≤ R.locals) → (∀ q : Nat, s.heap.size ≤ q → A q) → CallFix p m c bytes maxL s args Ts y.cls → dw_N Ns s → dw_W D cl tys A s.heap (dw_l NC ce a f) s H locs → lv_has ls maxL (lv_args 0 As) →
      (∀ (H : Heap) (locs : List Loc) (pc : Nat) (ls : Array Slot) (f2 : Nat → Nat → Nat), dw_W D cl tys A s.heap (dw_l NC ce a f2) s H locs → post f2 → decode bytes pc = .ok (.return_, 1) → W p l e R s m args below meth c H locs 0 0 Q (F0 m pc ls [])) →
      W p l e R s m args below meth c H locs 0 0 Q (F0 m 0 ls [])) : dw_CV l Ns D cl tys NC ce a y (Cond.code y bytes maxL none :: Ts) fr lo As f post := by
  intro sz
  refine Met.ofW (cc := bytes) (maxL := maxL) (ret := none) hy rfl ?_
  intro p e s m args below meth c s₁ B hml hv
  obtain ⟨rfl, hsz, hP, hK, hD0, hN⟩ := hv
  have hts := atoms_spec (ws := Cond.code y bytes maxL none :: Ts) B.pre
  have hown : s.vm.findClass y.cls = some m.cls := findClass_of_methodNamed B.named
  have hlocks := B.notSynchronized
  have hr := B.returns
  have hx := B.exec
  have hb := B.bytes
  subst hsz
  have hD := hD0.self (sz := s.heap.size)
  generalize hAe : va_A (dw_l NC ce a f) s.heap.size = A at hD ⊢
  have hA : ∀ q : Nat, s.heap.size ≤ q → A q := fun q h => by rw [← hAe]; exact Or.inr h
  have hl := lv_entry As (n := maxL) hlen
  rw [lg_entry_eq]
  generalize (lg_sl As ++ List.replicate (maxL - (lg_sl As).length) Slot.unset).toArray = ls at hl ⊢
  refine body p e s m _ below meth c ls A _ _ s.heap [] ⟨Nat.le_refl _, Nat.le_refl _⟩ hA ⟨hx, hb, hml, hown, fun w hw => hts w (List.mem_cons_of_mem _ hw)⟩ hN ⟨hK, hP, hD, va_S.rf⟩ hl ?_
  intro H locs pc ls f2 hw hv hdg
  exact W.vret hx hb hr (fun t ht hW => ⟨⟨f2, rfl, hv, by rw [ht]; exact hw.2.1, va_K.moved hW.alike hw.1⟩, hw.2.2.2.F ht⟩) hw.2.2.2.2.2 hdg hlocks
end
section
/-! plain words: sets of bits, the k-th, counts -/
abbrev ds_in (v : Int32) (n : Nat) : Prop := 0 ≤ v.toInt ∧ v.toInt < (n : Int)
theorem ds_in_nI {v : Int32} {n : Nat} (h : ds_in v n) : v = nI v.toNatClampNeg ∧ v.toNatClampNeg < n := by
  obtain ⟨h1, h2⟩ := h
  have h3 : ¬ v < 0 := by rw [Int32.lt_iff_toInt_lt, Int32.toInt_zero]; omega
  obtain ⟨j, hj, rfl⟩ := nI_of h3
  rw [nI_toInt hj] at h2
  rw [nI_clamp hj]
  exact ⟨rfl, by omega⟩
theorem ds_nI_in {j n : Nat} (hj : j < 2 ^ 31) : ds_in (nI j) n ↔ j < n := by
  unfold ds_in
  rw [nI_toInt hj]
  omega
def ds_bits (P : Nat → Bool) : Nat → Nat
  | 0 => 0
  | i + 1 => if P i then ds_bits P i ||| 1 * 2 ^ i else ds_bits P i
theorem ds_bits_tb (P : Nat → Bool) : ∀ n s, (ds_bits P n).testBit s = (decide (s < n) && P s)
  | 0, s => by simp [ds_bits]
  | n + 1, s => by
    have ih := ds_bits_tb P n s
    unfold ds_bits
    by_cases h : P n = true
    · rw [if_pos h, Nat.testBit_or, ih, Nat.one_mul, Nat.testBit_two_pow]
      by_cases e : n = s
      · subst e
        simp [h]
      · have h2 : (s < n + 1) ↔ (s < n) := by omega
        simp [e, h2]
    · rw [if_neg h, ih]
      by_cases e : s = n
      · subst e
        simp [h]
      · have h2 : (s < n + 1) ↔ (s < n) := by omega
        simp [h2]
theorem ds_bits_lt (P : Nat → Bool) : ∀ n, ds_bits P n < 2 ^ n
  | 0 => by simp [ds_bits]
  | n + 1 => by
    have ih := ds_bits_lt P n
    have h1 : 2 ^ n < 2 ^ (n + 1) := Nat.pow_lt_pow_right (by omega) (by omega)
    unfold ds_bits
    split
    · exact Nat.or_lt_two_pow (Nat.lt_trans ih h1) (by rw [Nat.one_mul]; exact h1)
    · exact Nat.lt_trans ih h1
theorem ds_bits_congr {P P2 : Nat → Bool} : ∀ n, (∀ i, i < n → P i = P2 i) → ds_bits P n = ds_bits P2 n
  | 0, _ => rfl
  | n + 1, h => by
    unfold ds_bits
    rw [ds_bits_congr n (fun i hi => h i (by omega)), h n (by omega)]
theorem ds_bits_256 (P : Nat → Bool) {n : Nat} (hn : n ≤ 8) : ds_bits P n < 256 := Nat.lt_of_lt_of_le (ds_bits_lt P n) (Nat.pow_le_pow_right (n := 2) (by omega) hn)
theorem ds_tb (x s : Nat) : ((x / 2 ^ s) &&& 1 = 1) ↔ x.testBit s = true := by
  rw [Nat.and_one_is_mod, Nat.testBit_eq_decide_div_mod_eq]
  simp
/-- the k-th place of P from s on, b seen before -/
def ds_find (P : Nat → Bool) (k : Int32) : Nat → Nat → Nat → Int32
  | 0, _, _ => -1
  | m + 1, s, b => if P s then (if nI b = k then nI s else ds_find P k m (s + 1) (b + 1)) else ds_find P k m (s + 1) b
theorem ds_find_congr {P P2 : Nat → Bool} {k : Int32} : ∀ m s b, (∀ i, s ≤ i → i < s + m → P i = P2 i) → ds_find P k m s b = ds_find P2 k m s b
  | 0, _, _, _ => rfl
  | m + 1, s, b, h => by
    unfold ds_find
    rw [h s (Nat.le_refl _) (by omega), ds_find_congr m (s + 1) (b + 1) (fun i h1 h2 => h i (by omega) (by omega)), ds_find_congr m (s + 1) b (fun i h1 h2 => h i (by omega) (by omega))]
theorem ds_find_none {P : Nat → Bool} {k : Int32} : ∀ m s b, (∀ i, s ≤ i → i < s + m → P i = false) → ds_find P k m s b = -1
  | 0, _, _, _ => rfl
  | m + 1, s, b, h => by
    unfold ds_find
    rw [h s (Nat.le_refl _) (by omega), ds_find_none m (s + 1) b (fun i h1 h2 => h i (by omega) (by omega))]
    rfl
theorem ds_find_more {P : Nat → Bool} {k : Int32} {j : Nat} : ∀ m s b, (∀ i, s + m ≤ i → i < s + m + j → P i = false) → ds_find P k (m + j) s b = ds_find P k m s b
  | 0, s, b, h => by
    rw [Nat.zero_add, ds_find_none j s b (fun i h1 h2 => h i (by omega) (by omega))]
    rfl
  | m + 1, s, b, h => by
    rw [show m + 1 + j = (m + j) + 1 by omega]
    unfold ds_find
    rw [ds_find_more m (s + 1) (b + 1) (fun i h1 h2 => h i (by omega) (by omega)), ds_find_more m (s + 1) b (fun i h1 h2 => h i (by omega) (by omega))]
def ds_cnt (P : Nat → Bool) : Nat → Nat
  | 0 => 0
  | i + 1 => if P i then ds_cnt P i + 1 else ds_cnt P i
theorem ds_cnt_le (P : Nat → Bool) : ∀ n, ds_cnt P n ≤ n
  | 0 => Nat.le_refl _
  | n + 1 => by
    have ih := ds_cnt_le P n
    unfold ds_cnt
    split <;> omega
theorem ds_cnt_congr {P P2 : Nat → Bool} : ∀ n, (∀ i, i < n → P i = P2 i) → ds_cnt P n = ds_cnt P2 n
  | 0, _ => rfl
  | n + 1, h => by
    unfold ds_cnt
    rw [ds_cnt_congr n (fun i hi => h i (by omega)), h n (by omega)]
/-- apart: two counts together are no more than n -/
theorem ds_cnt_two {P P2 : Nat → Bool} : ∀ n, (∀ i, i < n → ¬ (P i = true ∧ P2 i = true)) → ds_cnt P n + ds_cnt P2 n = ds_cnt (fun i => P i || P2 i) n
  | 0, _ => rfl
  | n + 1, h => by
    have ih := ds_cnt_two n (fun i hi => h i (by omega))
    have hn := h n (by omega)
    unfold ds_cnt
    cases h1 : P n <;> cases h2 : P2 n <;> simp_all <;> omega
theorem ds_cnt_false : ∀ n, ds_cnt (fun _ => false) n = 0
  | 0 => rfl
  | n + 1 => by unfold ds_cnt; simpa using ds_cnt_false n
theorem ds_cnt_more {P : Nat → Bool} {j : Nat} : ∀ m, (∀ i, m ≤ i → i < m + j → P i = false) → ds_cnt P (m + j) = ds_cnt P m := by
  induction j with
  | zero => intro m _; rfl
  | succ j ih =>
    intro m h
    have e : ds_cnt P ((m + j) + 1) = ds_cnt P (m + j) := by
      rw [show ds_cnt P ((m + j) + 1) = if P (m + j) then ds_cnt P (m + j) + 1 else ds_cnt P (m + j) from rfl, h (m + j) (by omega) (by omega)]
      rfl
    rw [show m + (j + 1) = (m + j) + 1 by omega, e]
    exact ih m (fun i h1 h2 => h i h1 (by omega))
end
section
/-! the parts of a set, and the table that is joined vehicle by vehicle -/
theorem dp_half (x : Nat) : x = 2 * (x / 2) + x % 2 := by omega
theorem dp_and2 (x y : Nat) : (x &&& y) / 2 = x / 2 &&& y / 2 := Nat.and_div_two
theorem dp_andm (x y : Nat) : (x &&& y) % 2 = x % 2 &&& y % 2 := by
  have h := Nat.and_mod_two_pow (a := x) (b := y) (n := 1)
  simpa using h
/-- the next part: none lies between -/
theorem dp_next : ∀ (k S P Q : Nat), P < 2 ^ k → P &&& S = P → Q &&& S = Q → Q < P → Q ≤ (P - 1) &&& S
  | 0, S, P, Q, h0, _, _, hq => by simp at h0; omega
  | k + 1, S, P, Q, h0, hP, hQ, hq => by
    have e2 := dp_and2 (P - 1) S
    have em := dp_andm (P - 1) S
    have hP2 : P / 2 &&& S / 2 = P / 2 := by rw [← dp_and2, hP]
    have hQ2 : Q / 2 &&& S / 2 = Q / 2 := by rw [← dp_and2, hQ]
    have hQm : Q % 2 &&& S % 2 = Q % 2 := by rw [← dp_andm, hQ]
    have hPm : P % 2 &&& S % 2 = P % 2 := by rw [← dp_andm, hP]
    rcases Nat.mod_two_eq_zero_or_one P with c | c
    · have hp : (P - 1) / 2 = P / 2 - 1 := by omega
      have hm : (P - 1) % 2 = 1 := by omega
      rw [hp] at e2
      rw [hm] at em
      have ih := dp_next k (S / 2) (P / 2) (Q / 2) (by rw [Nat.pow_succ] at h0; omega) hP2 hQ2 (by omega)
      have h1 : Q % 2 ≤ 1 &&& S % 2 := by
        rcases Nat.mod_two_eq_zero_or_one Q with d | d
        · omega
        · rw [d] at hQm
          rw [hQm]
          omega
      rw [dp_half ((P - 1) &&& S), e2, em, dp_half Q]
      omega
    · have hp : (P - 1) / 2 = P / 2 := by omega
      rw [hp, hP2] at e2
      rw [dp_half ((P - 1) &&& S), e2]
      omega
/-- the least of m and the parts from P down -/
def dp_part (B w : Nat → Nat) (S : Nat) : Nat → Nat → Nat → Nat
  | 0, _, m => m
  | k + 1, P, m => if P = 0 then m else dp_part B w S k ((P - 1) &&& S) (min m (B (S ^^^ P) + w P))
theorem dp_part_le {B w : Nat → Nat} {S : Nat} : ∀ k P m, dp_part B w S k P m ≤ m
  | 0, _, _ => Nat.le_refl _
  | k + 1, P, m => by
    unfold dp_part
    split
    · exact Nat.le_refl _
    · exact Nat.le_trans (dp_part_le k _ _) (Nat.min_le_left _ _)
theorem dp_part_all {B w : Nat → Nat} {S : Nat} : ∀ k P m, P < k → P &&& S = P → ∀ Q, Q &&& S = Q → 0 < Q → Q ≤ P → dp_part B w S k P m ≤ B (S ^^^ Q) + w Q
  | 0, P, m, h, _, _, _, _, _ => by omega
  | k + 1, P, m, h, hP, Q, hQ, h0, hq => by
    unfold dp_part
    rw [if_neg (by omega)]
    have h2 : (P - 1) &&& S ≤ P - 1 := Nat.and_le_left
    rcases Nat.eq_or_lt_of_le hq with e | e
    · rw [e]
      exact Nat.le_trans (dp_part_le k _ _) (Nat.min_le_right _ _)
    · exact dp_part_all k _ _ (by omega) (by rw [Nat.and_assoc, Nat.and_self]) Q hQ h0 (dp_next P S P Q Nat.lt_two_pow_self hP hQ e)
theorem dp_part_in {B w : Nat → Nat} {S : Nat} : ∀ k P m, P &&& S = P → dp_part B w S k P m = m ∨ ∃ Q, Q &&& S = Q ∧ 0 < Q ∧ dp_part B w S k P m = B (S ^^^ Q) + w Q
  | 0, _, _, _ => Or.inl rfl
  | k + 1, P, m, hP => by
    unfold dp_part
    split
    · exact Or.inl rfl
    · rename_i hz
      rcases dp_part_in (B := B) (w := w) k ((P - 1) &&& S) (min m (B (S ^^^ P) + w P)) (by rw [Nat.and_assoc, Nat.and_self]) with h | h
      · rw [h]
        rcases Nat.le_total m (B (S ^^^ P) + w P) with q | q
        · exact Or.inl (Nat.min_eq_left q)
        · exact Or.inr ⟨P, hP, by omega, Nat.min_eq_right q⟩
      · exact Or.inr h
/-- one vehicle more -/
def dp_join (B w : Nat → Nat) (S : Nat) : Nat := dp_part B w S (S + 1) S (B S)
/-- the table after the vehicles 0 .. j - 1; V stands for those that are carried -/
def dp_tab (wt : Nat → Nat → Nat) (V : Nat) : Nat → Nat → Nat
  | 0, S => wt V S
  | j + 1, S => dp_join (dp_tab wt V j) (wt j) S
/-- the stops of S that p gives to v -/
def dp_mask (n : Nat) (p : Nat → Nat) (v S : Nat) : Nat := ds_bits (fun s => S.testBit s && p s == v) n
theorem dp_mask_tb (n : Nat) (p : Nat → Nat) (v S s : Nat) : (dp_mask n p v S).testBit s = (decide (s < n) && (S.testBit s && p s == v)) := ds_bits_tb _ n s
/-- what the plan p weighs on S, with the vehicles 0 .. j - 1 -/
def dp_sum (wt : Nat → Nat → Nat) (V n : Nat) (p : Nat → Nat) (S : Nat) : Nat → Nat
  | 0 => wt V (dp_mask n p V S)
  | j + 1 => dp_sum wt V n p S j + wt j (dp_mask n p j S)
theorem dp_sum_congr {wt : Nat → Nat → Nat} {V n : Nat} {p p2 : Nat → Nat} {S S2 : Nat} : ∀ j, (∀ v, v = V ∨ v < j → dp_mask n p v S = dp_mask n p2 v S2) → dp_sum wt V n p S j = dp_sum wt V n p2 S2 j
  | 0, h => by unfold dp_sum; rw [h V (Or.inl rfl)]
  | j + 1, h => by
    unfold dp_sum
    rw [dp_sum_congr j (fun v hv => h v (by omega)), h j (Or.inr (by omega))]
theorem dp_sub_tb {Q S : Nat} (h : Q &&& S = Q) (s : Nat) (hs : Q.testBit s = true) : S.testBit s = true := by
  rw [← h, Nat.testBit_and] at hs
  simp at hs
  exact hs.2
theorem dp_tb_sub {Q S : Nat} (h : ∀ s, Q.testBit s = true → S.testBit s = true) : Q &&& S = Q := by
  apply Nat.eq_of_testBit_eq
  intro i
  rw [Nat.testBit_and]
  cases hq : Q.testBit i
  · rfl
  · rw [h i hq]; rfl
def dp_ok (V j : Nat) (p : Nat → Nat) (S : Nat) : Prop := ∀ s, S.testBit s = true → p s = V ∨ p s < j
theorem dp_big {S n s : Nat} (hS : S < 2 ^ n) (h : S.testBit s = true) : s < n := by
  rcases Nat.lt_or_ge s n with q | q
  · exact q
  · rw [Nat.testBit_lt_two_pow (Nat.lt_of_lt_of_le hS (Nat.pow_le_pow_right (by omega) q))] at h
    cases h
theorem dp_xor_tb {Q S : Nat} (h : Q &&& S = Q) (s : Nat) : (S ^^^ Q).testBit s = (S.testBit s && !Q.testBit s) := by
  rw [Nat.testBit_xor]
  cases hq : Q.testBit s
  · cases S.testBit s <;> rfl
  · rw [dp_sub_tb h s hq]; rfl
theorem dp_lower {wt : Nat → Nat → Nat} {V n : Nat} (h0 : ∀ v, v < V → wt v 0 = 0) : ∀ j, j ≤ V → ∀ (S : Nat) (p : Nat → Nat), S < 2 ^ n → dp_ok V j p S → dp_tab wt V j S ≤ dp_sum wt V n p S j
  | 0, _, S, p, hS, hp => by
    unfold dp_tab dp_sum
    have e : dp_mask n p V S = S := by
      apply Nat.eq_of_testBit_eq
      intro i
      rw [dp_mask_tb]
      cases hi : S.testBit i
      · simp
      · have h1 := dp_big hS hi
        rcases hp i hi with q | q
        · simp [h1, q]
        · omega
    rw [e]
    exact Nat.le_refl _
  | j + 1, hj, S, p, hS, hp => by
    have hM : dp_mask n p j S &&& S = dp_mask n p j S := dp_tb_sub (fun s hs => by rw [dp_mask_tb] at hs; simp at hs; exact hs.2.1)
    unfold dp_tab dp_join dp_sum
    by_cases hz : dp_mask n p j S = 0
    · rw [hz, h0 j (by omega), Nat.add_zero]
      refine Nat.le_trans (dp_part_le _ _ _) (dp_lower h0 j (by omega) S p hS (fun s hs => ?_))
      rcases hp s hs with q | q
      · exact Or.inl q
      · rcases Nat.lt_or_ge (p s) j with q2 | q2
        · exact Or.inr q2
        · exfalso
          have e : (dp_mask n p j S).testBit s = true := by
            rw [dp_mask_tb, hs]
            have h1 := dp_big hS hs
            have h2 : p s = j := by omega
            simp [h1, h2]
          rw [hz] at e
          simp at e
    · have hle : dp_mask n p j S ≤ S := by
        have h1 : dp_mask n p j S &&& S ≤ S := Nat.and_le_right
        rwa [hM] at h1
      refine Nat.le_trans (dp_part_all (S + 1) S _ (by omega) (Nat.and_self S) (dp_mask n p j S) hM (by omega) hle) ?_
      refine Nat.add_le_add_right ?_ _
      have hS2 : S ^^^ dp_mask n p j S < 2 ^ n := Nat.xor_lt_two_pow hS (Nat.lt_of_le_of_lt hle hS)
      rw [dp_sum_congr (p := p) (p2 := p) (S := S) (S2 := S ^^^ dp_mask n p j S) j (fun v hv => ?_)]
      · refine dp_lower h0 j (by omega) _ p hS2 (fun s hs => ?_)
        rw [dp_xor_tb hM] at hs
        simp at hs
        rcases hp s hs.1 with q | q
        · exact Or.inl q
        · rcases Nat.lt_or_ge (p s) j with q2 | q2
          · exact Or.inr q2
          · exfalso
            have e : (dp_mask n p j S).testBit s = true := by
              rw [dp_mask_tb, hs.1]
              have h1 := dp_big hS hs.1
              have h2 : p s = j := by omega
              simp [h1, h2]
            rw [hs.2] at e
            cases e
      · apply Nat.eq_of_testBit_eq
        intro i
        rw [dp_mask_tb, dp_mask_tb, dp_xor_tb hM, dp_mask_tb]
        by_cases h1 : p i = v
        · have h2 : (p i == j) = false := beq_eq_false_iff_ne.mpr (by omega)
          rw [h2]
          cases decide (i < n) <;> cases S.testBit i <;> cases (p i == v) <;> rfl
        · have h2 : (p i == v) = false := beq_eq_false_iff_ne.mpr h1
          rw [h2]
          cases decide (i < n) <;> cases S.testBit i <;> cases (p i == j) <;> rfl
theorem dp_reach {wt : Nat → Nat → Nat} {V n : Nat} (h0 : ∀ v, v < V → wt v 0 = 0) : ∀ j, j ≤ V → ∀ (S : Nat), S < 2 ^ n → ∃ p : Nat → Nat, dp_ok V j p S ∧ dp_tab wt V j S = dp_sum wt V n p S j
  | 0, _, S, hS => by
    refine ⟨fun _ => V, fun s _ => Or.inl rfl, ?_⟩
    unfold dp_tab dp_sum
    have e : dp_mask n (fun _ => V) V S = S := by
      apply Nat.eq_of_testBit_eq
      intro i
      rw [dp_mask_tb]
      cases hi : S.testBit i
      · simp
      · have h1 := dp_big hS hi
        simp [h1]
    rw [e]
  | j + 1, hj, S, hS => by
    rcases dp_part_in (B := dp_tab wt V j) (w := wt j) (S := S) (S + 1) S (dp_tab wt V j S) (Nat.and_self S) with h | ⟨Q, hQ, hq, h⟩
    · obtain ⟨p, hp, e⟩ := dp_reach h0 j (by omega) S hS
      refine ⟨p, fun s hs => ?_, ?_⟩
      · rcases hp s hs with q | q
        · exact Or.inl q
        · exact Or.inr (by omega)
      · unfold dp_tab dp_join dp_sum
        have hz : dp_mask n p j S = 0 := by
          apply Nat.eq_of_testBit_eq
          intro i
          rw [dp_mask_tb, Nat.zero_testBit]
          cases hi : S.testBit i
          · simp
          · have h1 : p i ≠ j := by
              rcases hp i hi with q | q <;> omega
            simp [h1]
        rw [h, e, hz, h0 j (by omega), Nat.add_zero]
    · have hle : Q ≤ S := by
        have h1 : Q &&& S ≤ S := Nat.and_le_right
        rwa [hQ] at h1
      have hS2 : S ^^^ Q < 2 ^ n := Nat.xor_lt_two_pow hS (Nat.lt_of_le_of_lt hle hS)
      obtain ⟨p, hp, e⟩ := dp_reach h0 j (by omega) (S ^^^ Q) hS2
      refine ⟨fun s => if Q.testBit s then j else p s, fun s hs => ?_, ?_⟩
      · by_cases hz : Q.testBit s = true
        · right
          simp [hz]
        · have h1 := hp s (by rw [dp_xor_tb hQ, hs]; simp [hz])
          simp only [hz]
          rcases h1 with q | q
          · exact Or.inl q
          · exact Or.inr (Nat.lt_succ_of_lt q)
      · unfold dp_tab dp_join dp_sum
        have hm : dp_mask n (fun s => if Q.testBit s then j else p s) j S = Q := by
          apply Nat.eq_of_testBit_eq
          intro i
          rw [dp_mask_tb]
          cases hi : Q.testBit i
          · cases hs : S.testBit i
            · simp
            · have h1 : p i ≠ j := by
                rcases hp i (by rw [dp_xor_tb hQ, hs, hi]; rfl) with q | q <;> omega
              simp [h1]
          · have h1 := dp_sub_tb hQ i hi
            have h2 := dp_big hS h1
            simp [h1, h2]
        rw [h, e, hm]
        congr 1
        refine dp_sum_congr j (fun v hv => ?_)
        apply Nat.eq_of_testBit_eq
        intro i
        rw [dp_mask_tb, dp_mask_tb, dp_xor_tb hQ]
        cases hi : Q.testBit i
        · simp
        · have h1 : j ≠ v := by omega
          simp [h1]
end
section
/-! rounds as lists, their times -/
/-- the row of v, as the first len of its places -/
def ds_row (f : Nat → Nat → Nat) (v r : Nat) : List Nat := (List.range r).map (fun i => f (22 + v) i)
/-- of the stops below i, those that P has and that are not of v's row -/
def ds_oth (f : Nat → Nat → Nat) (P : Nat → Bool) (v i : Nat) : List Nat := (List.range i).filter (fun s => P s && (f 10 s != v))
/-- the round of v over the stops that P has -/
def ds_rd (f : Nat → Nat → Nat) (P : Nat → Bool) (v : Nat) : List Nat := (ds_row f v (f 15 v)).filter P ++ ds_oth f P v (f 1 1)
theorem ds_row_s (f : Nat → Nat → Nat) (P : Nat → Bool) (v r : Nat) : (ds_row f v (r + 1)).filter P = (ds_row f v r).filter P ++ (if P (f (22 + v) r) then [f (22 + v) r] else []) := by
  unfold ds_row
  rw [List.range_succ, List.map_append, List.filter_append]
  congr 1
  by_cases h : P (f (22 + v) r) = true
  · simp [h]
  · simp [h]
theorem ds_oth_s (f : Nat → Nat → Nat) (P : Nat → Bool) (v i : Nat) : ds_oth f P v (i + 1) = ds_oth f P v i ++ (if P i && (f 10 i != v) then [i] else []) := by
  unfold ds_oth
  rw [List.range_succ, List.filter_append]
  congr 1
  by_cases h : (P i && (f 10 i != v)) = true
  · simp [h]
  · simp [h]
theorem ds_row_mono (f : Nat → Nat → Nat) (P : Nat → Bool) (v : Nat) {r r2 : Nat} (h : r ≤ r2) : ((ds_row f v r).filter P).length ≤ ((ds_row f v r2).filter P).length := by
  induction h with
  | refl => exact Nat.le_refl _
  | step h ih =>
    rw [ds_row_s, List.length_append]
    omega
theorem ds_oth_mono (f : Nat → Nat → Nat) (P : Nat → Bool) (v : Nat) {r r2 : Nat} (h : r ≤ r2) : (ds_oth f P v r).length ≤ (ds_oth f P v r2).length := by
  induction h with
  | refl => exact Nat.le_refl _
  | step h ih =>
    rw [ds_oth_s, List.length_append]
    omega
/-- g holds the list L from place e on -/
def ds_is (g : Nat → Nat) (e : Nat) (L : List Nat) : Prop := ∀ i, i < L.length → g (e + i) = L.getD i 0
theorem ds_is_nil (g : Nat → Nat) (e : Nat) : ds_is g e [] := fun i h => absurd h (Nat.not_lt_zero _)
theorem ds_is_push {g : Nat → Nat} {e : Nat} {L : List Nat} (x : Nat) (h : ds_is g e L) : ds_is (dw_up g (e + L.length) x) e (L ++ [x]) := by
  intro i hi
  rw [List.length_append, List.length_singleton] at hi
  unfold dw_up
  by_cases h1 : i = L.length
  · subst h1
    simp
  · have h2 : i < L.length := by omega
    rw [if_neg (by omega), h i h2]
    simp [List.getElem?_append_left h2]
/-- one step of a round: time and place -/
def ds_st (w : Nat → Nat → Nat) (pl sv : Nat → Nat) (z : Nat × Nat) (s : Nat) : Nat × Nat := (z.1 + (w z.2 (pl s) + sv s), pl s)
def ds_fold (w : Nat → Nat → Nat) (pl sv : Nat → Nat) (L : List Nat) : Nat × Nat := L.foldl (ds_st w pl sv) (0, 0)
def ds_time (w : Nat → Nat → Nat) (pl sv : Nat → Nat) (L : List Nat) : Nat := (ds_fold w pl sv L).1 + w (ds_fold w pl sv L).2 0
theorem ds_fold_s {w : Nat → Nat → Nat} {pl sv : Nat → Nat} {L : List Nat} {i : Nat} (h : i < L.length) : ds_fold w pl sv (L.take (i + 1)) = ds_st w pl sv (ds_fold w pl sv (L.take i)) (L.getD i 0) := by
  unfold ds_fold
  rw [List.take_succ_eq_append_getElem h, List.foldl_append]
  simp [List.getD, h]
theorem ds_fold_b {w : Nat → Nat → Nat} {pl sv : Nat → Nat} (hw : ∀ i j, i < 10 → j < 10 → w i j ≤ 10000) : ∀ (L : List Nat) (z : Nat × Nat), (∀ s ∈ L, pl s < 10 ∧ sv s ≤ 10000) → z.2 < 10 → (L.foldl (ds_st w pl sv) z).1 ≤ z.1 + 20000 * L.length ∧ (L.foldl (ds_st w pl sv) z).2 < 10
  | [], z, _, hz => by simp [hz]
  | s :: L, z, h, hz => by
    have h1 := h s List.mem_cons_self
    have h2 := ds_fold_b hw L (ds_st w pl sv z s) (fun x hx => h x (List.mem_cons_of_mem _ hx)) h1.1
    have h3 := hw z.2 (pl s) hz h1.1
    rw [List.foldl_cons]
    refine ⟨Nat.le_trans h2.1 ?_, h2.2⟩
    show z.1 + (w z.2 (pl s) + sv s) + 20000 * L.length ≤ z.1 + 20000 * (L.length + 1)
    omega
theorem ds_time_b {w : Nat → Nat → Nat} {pl sv : Nat → Nat} (hw : ∀ i j, i < 10 → j < 10 → w i j ≤ 10000) {L : List Nat} (h : ∀ s ∈ L, pl s < 10 ∧ sv s ≤ 10000) (hL : L.length ≤ 8) : ds_time w pl sv L ≤ 170000 := by
  obtain ⟨h1, h2⟩ := ds_fold_b hw L (0, 0) h (by decide)
  have h3 := hw (ds_fold w pl sv L).2 0 h2 (by decide)
  have h4 : (ds_fold w pl sv L).1 ≤ 0 + 20000 * L.length := h1
  unfold ds_time
  omega
theorem ds_fold_congr {w w2 : Nat → Nat → Nat} {pl pl2 sv sv2 : Nat → Nat} : ∀ (L : List Nat) (z : Nat × Nat), (∀ s ∈ L, pl s = pl2 s ∧ sv s = sv2 s ∧ pl s < 10) → z.2 < 10 → (∀ i j, i < 10 → j < 10 → w i j = w2 i j) → L.foldl (ds_st w pl sv) z = L.foldl (ds_st w2 pl2 sv2) z
  | [], _, _, _, _ => rfl
  | s :: L, z, h, hz, hw => by
    obtain ⟨h1, h2, h3⟩ := h s List.mem_cons_self
    rw [List.foldl_cons, List.foldl_cons]
    have e : ds_st w pl sv z s = ds_st w2 pl2 sv2 z s := by
      unfold ds_st
      rw [hw z.2 (pl s) hz h3, ← h1, ← h2]
    rw [← e]
    exact ds_fold_congr L _ (fun x hx => h x (List.mem_cons_of_mem _ hx)) h3 hw
/-- where s stands in L, from place i on -/
def ds_pos (s : Nat) : List Nat → Nat → Int32
  | [], _ => -1
  | x :: L, i => if x = s then nI i else ds_pos s L (i + 1)
end
section
/-! plans as numbers: the order of the plans, and the turn from one to the next -/
def md_code (B : Nat) (p : Nat → Nat) : Nat → Nat
  | 0 => 0
  | s + 1 => md_code B p s * B + p s
theorem md_lt {B c c2 x y : Nat} (hx : x < B) (hy : y < B) : c * B + x < c2 * B + y ↔ c < c2 ∨ (c = c2 ∧ x < y) := by
  rcases Nat.lt_trichotomy c c2 with h | h | h
  · have h1 : (c + 1) * B ≤ c2 * B := Nat.mul_le_mul_right B h
    rw [Nat.succ_mul] at h1
    constructor
    · intro _; exact Or.inl h
    · intro _; omega
  · subst h
    constructor
    · intro q; exact Or.inr ⟨rfl, by omega⟩
    · intro q; rcases q with q | q <;> omega
  · have h1 : (c2 + 1) * B ≤ c * B := Nat.mul_le_mul_right B h
    rw [Nat.succ_mul] at h1
    constructor
    · intro q; omega
    · intro q; rcases q with q | q <;> omega
theorem md_eq {B c c2 x y : Nat} (hx : x < B) (hy : y < B) : c * B + x = c2 * B + y ↔ c = c2 ∧ x = y := by
  constructor
  · intro h
    have h1 := (md_lt (c := c) (c2 := c2) hx hy)
    have h2 := (md_lt (c := c2) (c2 := c) hy hx)
    have h3 : ¬ (c < c2 ∨ (c = c2 ∧ x < y)) := fun q => by have := h1.mpr q; omega
    have h4 : ¬ (c2 < c ∨ (c2 = c ∧ y < x)) := fun q => by have := h2.mpr q; omega
    omega
  · rintro ⟨rfl, rfl⟩; rfl
theorem md_code_congr {B : Nat} {p q : Nat → Nat} : ∀ n, (∀ s, s < n → p s = q s) → md_code B p n = md_code B q n
  | 0, _ => rfl
  | n + 1, h => by
    unfold md_code
    rw [md_code_congr n (fun s hs => h s (by omega)), h n (by omega)]
theorem md_code_lt {B : Nat} {p : Nat → Nat} : ∀ n, (∀ s, s < n → p s < B) → md_code B p n < B ^ n
  | 0, _ => by simp [md_code]
  | n + 1, h => by
    have ih := md_code_lt n (fun s hs => h s (by omega))
    have h1 := h n (by omega)
    unfold md_code
    rw [Nat.pow_succ]
    have h2 : (md_code B p n + 1) * B ≤ B ^ n * B := Nat.mul_le_mul_right B ih
    rw [Nat.succ_mul] at h2
    omega
theorem md_code_inj {B : Nat} {p q : Nat → Nat} : ∀ n, (∀ s, s < n → p s < B) → (∀ s, s < n → q s < B) → md_code B p n = md_code B q n → ∀ s, s < n → p s = q s
  | 0, _, _, _ => fun s h => absurd h (Nat.not_lt_zero _)
  | n + 1, hp, hq, h => by
    unfold md_code at h
    obtain ⟨h1, h2⟩ := (md_eq (hp n (by omega)) (hq n (by omega))).mp h
    have ih := md_code_inj n (fun s hs => hp s (by omega)) (fun s hs => hq s (by omega)) h1
    intro s hs
    rcases Nat.lt_or_ge s n with q1 | q1
    · exact ih s q1
    · rw [show s = n by omega]; exact h2
/-- the order does not hang on the base -/
theorem md_code_mono {B B2 : Nat} {p q : Nat → Nat} : ∀ n, (∀ s, s < n → p s < B ∧ p s < B2) → (∀ s, s < n → q s < B ∧ q s < B2) → (md_code B p n < md_code B q n ↔ md_code B2 p n < md_code B2 q n)
  | 0, _, _ => by simp [md_code]
  | n + 1, hp, hq => by
    have ih := md_code_mono n (fun s hs => hp s (by omega)) (fun s hs => hq s (by omega))
    have hpn := hp n (by omega)
    have hqn := hq n (by omega)
    have e1 : md_code B p n = md_code B q n ↔ md_code B2 p n = md_code B2 q n := by
      constructor
      · intro h
        exact md_code_congr n (md_code_inj n (fun s hs => (hp s (by omega)).1) (fun s hs => (hq s (by omega)).1) h)
      · intro h
        exact md_code_congr n (md_code_inj n (fun s hs => (hp s (by omega)).2) (fun s hs => (hq s (by omega)).2) h)
    unfold md_code
    rw [md_lt hpn.1 hqn.1, md_lt hpn.2 hqn.2, ih, e1]
/-- the rest of the places at the top digit, and the same with zeros -/
theorem md_code_top {V : Nat} {p : Nat → Nat} {j : Nat} : ∀ d, (∀ s, j ≤ s → s < j + d → p s = V) → md_code (V + 1) p (j + d) + 1 = (md_code (V + 1) p j + 1) * (V + 1) ^ d
  | 0, _ => by simp
  | d + 1, h => by
    have ih := md_code_top d (fun s h1 h2 => h s h1 (by omega))
    rw [← Nat.add_assoc, show md_code (V + 1) p (j + d + 1) = md_code (V + 1) p (j + d) * (V + 1) + p (j + d) from rfl]
    rw [h (j + d) (by omega) (by omega), Nat.pow_succ, ← Nat.mul_assoc, ← ih, Nat.succ_mul]
    omega
theorem md_code_zero {B : Nat} {p : Nat → Nat} {j : Nat} : ∀ d, (∀ s, j ≤ s → s < j + d → p s = 0) → md_code B p (j + d) = md_code B p j * B ^ d
  | 0, _ => by simp
  | d + 1, h => by
    have ih := md_code_zero (B := B) d (fun s h1 h2 => h s h1 (by omega))
    rw [← Nat.add_assoc, show md_code B p (j + d + 1) = md_code B p (j + d) * B + p (j + d) from rfl]
    rw [h (j + d) (by omega) (by omega), Nat.pow_succ, ← Nat.mul_assoc, ← ih, Nat.add_zero]
/-- one step on: place j grows by one, all behind it was V and is 0 -/
theorem md_code_turn {V n j : Nat} {p q : Nat → Nat} (hj : j < n) (h1 : ∀ s, s < j → q s = p s) (h2 : q j = p j + 1) (h3 : ∀ s, j < s → s < n → p s = V ∧ q s = 0) : md_code (V + 1) q n = md_code (V + 1) p n + 1 := by
  obtain ⟨d, rfl⟩ : ∃ d, n = (j + 1) + d := ⟨n - (j + 1), by omega⟩
  rw [md_code_top (p := p) (j := j + 1) d (fun s a b => (h3 s (by omega) b).1), md_code_zero (p := q) (j := j + 1) d (fun s a b => (h3 s (by omega) b).2)]
  congr 1
  rw [show md_code (V + 1) q (j + 1) = md_code (V + 1) q j * (V + 1) + q j from rfl, show md_code (V + 1) p (j + 1) = md_code (V + 1) p j * (V + 1) + p j from rfl, md_code_congr j h1, h2]
  omega
/-- all places at the top digit: the last number -/
theorem md_code_last {V n : Nat} {p : Nat → Nat} (h : ∀ s, s < n → p s = V) : md_code (V + 1) p n + 1 = (V + 1) ^ n := by
  have h1 := md_code_top (V := V) (p := p) (j := 0) n (fun s _ b => h s (by omega))
  simpa [md_code] using h1
end
section
/-! a list of different numbers below n is no longer than n; rounds are such -/
theorem dr_drop (n : Nat) : ∀ (L : List Nat), L.Nodup → L.length ≤ (L.filter (fun x => x != n)).length + 1
  | [], _ => by simp
  | x :: L, h => by
    rw [List.nodup_cons] at h
    by_cases e : x = n
    · subst e
      have e2 : L.filter (fun y => y != x) = L := by
        rw [List.filter_eq_self]
        intro y hy
        simp
        intro q
        subst q
        exact h.1 hy
      simp [e2]
    · have ih := dr_drop n L h.2
      simp [e]
      omega
theorem dr_len : ∀ (n : Nat) (L : List Nat), L.Nodup → (∀ x ∈ L, x < n) → L.length ≤ n
  | 0, L, _, h => by
    cases L with
    | nil => simp
    | cons x L => exact absurd (h x List.mem_cons_self) (Nat.not_lt_zero _)
  | n + 1, L, hn, h => by
    have h1 := dr_drop n L hn
    have h2 := dr_len n (L.filter (fun x => x != n)) (hn.filter _) (fun x hx => by
      rw [List.mem_filter] at hx
      have h3 := h x hx.1
      have h4 : x ≠ n := by simpa using hx.2
      omega)
    omega
/-- what is known of the rows: place r of v's row holds a stop of v's row, of rank r; each stop stands in its row -/
def ds_rows (f : Nat → Nat → Nat) : Prop := (∀ v r, v < f 1 0 → r < f 15 v → f (22 + v) r < f 1 1 ∧ f 10 (f (22 + v) r) = v ∧ f 11 (f (22 + v) r) = r) ∧ ∀ s, s < f 1 1 → f 10 s < f 1 0 ∧ f 11 s < f 15 (f 10 s) ∧ f (22 + f 10 s) (f 11 s) = s
theorem dr_row_nd {f : Nat → Nat → Nat} (h : ds_rows f) {v : Nat} (hv : v < f 1 0) : (ds_row f v (f 15 v)).Nodup := by
  unfold ds_row List.Nodup
  rw [List.pairwise_map]
  refine List.Pairwise.imp_of_mem ?_ (List.pairwise_lt_range (n := f 15 v))
  intro x y hx hy hlt e
  have h1 := (h.1 v x hv (List.mem_range.mp hx)).2.2
  have h2 := (h.1 v y hv (List.mem_range.mp hy)).2.2
  rw [e, h2] at h1
  omega
theorem dr_row_in {f : Nat → Nat → Nat} (h : ds_rows f) {v : Nat} (hv : v < f 1 0) {x : Nat} (hx : x ∈ ds_row f v (f 15 v)) : x < f 1 1 ∧ f 10 x = v := by
  unfold ds_row at hx
  obtain ⟨r, hr, rfl⟩ := List.mem_map.mp hx
  have h1 := h.1 v r hv (List.mem_range.mp hr)
  exact ⟨h1.1, h1.2.1⟩
theorem dr_rd_nd {f : Nat → Nat → Nat} (h : ds_rows f) (P : Nat → Bool) {v : Nat} (hv : v < f 1 0) : (ds_rd f P v).Nodup := by
  unfold ds_rd
  rw [List.nodup_append]
  refine ⟨(dr_row_nd h hv).filter _, List.nodup_range.filter _, ?_⟩
  intro x hx y hy e
  have h1 := (dr_row_in h hv (List.mem_filter.mp hx).1).2
  have h2 := (List.mem_filter.mp hy).2
  simp at h2
  rw [e] at h1
  exact h2.2 h1
theorem dr_rd_in {f : Nat → Nat → Nat} (h : ds_rows f) (P : Nat → Bool) {v : Nat} (hv : v < f 1 0) {x : Nat} (hx : x ∈ ds_rd f P v) : x < f 1 1 ∧ P x = true := by
  unfold ds_rd at hx
  rcases List.mem_append.mp hx with q | q
  · have h1 := List.mem_filter.mp q
    exact ⟨(dr_row_in h hv h1.1).1, h1.2⟩
  · unfold ds_oth at q
    have h1 := List.mem_filter.mp q
    have h2 := h1.2
    simp at h2
    exact ⟨List.mem_range.mp h1.1, h2.1⟩
theorem dr_rd_len {f : Nat → Nat → Nat} (h : ds_rows f) (P : Nat → Bool) {v : Nat} (hv : v < f 1 0) : (ds_rd f P v).length ≤ f 1 1 := dr_len _ _ (dr_rd_nd h P hv) (fun _ hx => (dr_rd_in h P hv hx).1)
theorem dr_row_len {f : Nat → Nat → Nat} (h : ds_rows f) {v : Nat} (hv : v < f 1 0) : f 15 v ≤ f 1 1 := by
  have h1 := dr_len _ _ (dr_row_nd h hv) (fun x hx => (dr_row_in h hv hx).1)
  unfold ds_row at h1
  simpa using h1
end
section
/-! the class's state: what is known of it, and what its small methods do -/
theorem dw_su_ne {f : Nat → Nat → Nat} {k j : Nat} {h : Nat → Nat} (e : j ≠ k) : dw_su f k h j = f j := if_neg e
theorem dw_su_eq {f : Nat → Nat → Nat} {k : Nat} {h : Nat → Nat} : dw_su f k h k = h := if_pos rfl
theorem dw_up_ne {h : Nat → Nat} {i j x : Nat} (e : j ≠ i) : dw_up h i x j = h j := if_neg e
theorem dw_up_eq {h : Nat → Nat} {i x : Nat} : dw_up h i x i = x := if_pos rfl
theorem dw_w_ne {f : Nat → Nat → Nat} {k j i x : Nat} (e : j ≠ k) : dw_w f k i x j = f j := if_neg e
theorem dw_w_eq {f : Nat → Nat → Nat} {k i x : Nat} : dw_w f k i x k = dw_up (f k) i x := if_pos rfl
theorem dw_w_su {f : Nat → Nat → Nat} {k i x : Nat} {h : Nat → Nat} : dw_w (dw_su f k h) k i x = dw_su f k (dw_up h i x) := by
  funext j
  unfold dw_w dw_su
  by_cases e : j = k
  · simp [e]
  · simp [e]
theorem dw_su_self {f : Nat → Nat → Nat} {k : Nat} : dw_su f k (f k) = f := by
  funext j
  unfold dw_su
  by_cases e : j = k
  · simp [e]
  · simp [e]
def ds_can (f : Nat → Nat → Nat) (v x : Nat) : Bool := f 18 v == 8 || (f 10 x == v && decide (f 11 x < f 18 v))
def ds_may (f : Nat → Nat → Nat) (x v : Nat) : Bool := !(f 12 x != 0 && f 10 x != v) && (v == f 1 0 || (f 13 x == 0 && ds_can f v x))
def ds_app (f : Nat → Nat → Nat) (x v : Nat) : Nat → Nat → Nat := dw_w (dw_w (dw_w (dw_w f (22 + v) (f 15 v) x) 10 x v) 11 x (f 15 v)) 15 v (f 15 v + 1)
def ds_tell1 (f : Nat → Nat → Nat) (x y : Nat) : Nat → Nat → Nat := dw_w (dw_w f 8 (f 1 1) x) 9 (f 1 1) y
def ds_tell (f : Nat → Nat → Nat) (v x y : Nat) : Nat → Nat → Nat := dw_w (ds_app (ds_tell1 f x y) (f 1 1) v) 1 1 (f 1 1 + 1)
theorem ds_app_ne {f : Nat → Nat → Nat} {x v k : Nat} (h : k ≠ 22 + v ∧ k ≠ 10 ∧ k ≠ 11 ∧ k ≠ 15) : ds_app f x v k = f k := by
  unfold ds_app
  rw [dw_w_ne h.2.2.2, dw_w_ne h.2.2.1, dw_w_ne h.2.1, dw_w_ne h.1]
theorem ds_tell1_ne {f : Nat → Nat → Nat} {x y k : Nat} (h : k ≠ 8 ∧ k ≠ 9) : ds_tell1 f x y k = f k := by
  unfold ds_tell1
  rw [dw_w_ne h.2, dw_w_ne h.1]
/-- the class's cells as they are between calls -/
def ds_ok (f : Nat → Nat → Nat) : Prop := (1 ≤ f 1 0 ∧ f 1 0 ≤ 3) ∧ f 1 1 ≤ 8 ∧ f 1 16 ≤ 100000 ∧ (∀ x, x < f 1 1 → f 8 x < 10 ∧ f 9 x ≤ 10000 ∧ f 12 x ≤ 1 ∧ f 13 x ≤ 1 ∧ f 5 x ≤ f 1 0 ∧ f 6 x ≤ f 1 0) ∧ (∀ v, v < f 1 0 → f 18 v ≤ 8 ∧ f 19 v ≤ 100000) ∧ (∀ i j, i < 10 → j < 10 → f (28 + i) j ≤ 10000) ∧ f 28 0 = 0 ∧ ds_rows f
/-- the time of v's round over the stops that P has, and what it is above the hours -/
def ds_tm (f : Nat → Nat → Nat) (P : Nat → Bool) (v : Nat) : Nat := ds_time (fun i j => f (28 + i) j) (f 8) (f 9) (ds_rd f P v)
theorem ds_tm_b {f : Nat → Nat → Nat} (ok : ds_ok f) (P : Nat → Bool) {v : Nat} (hv : v < f 1 0) : ds_tm f P v ≤ 170000 := by
  obtain ⟨hV, hn, hex, hst, hve, hwy, hw0, hrw⟩ := ok
  refine ds_time_b hwy (fun x hx => ?_) (Nat.le_trans (dr_rd_len hrw P hv) hn)
  have h1 := hst x (dr_rd_in hrw P hv hx).1
  exact ⟨h1.1, h1.2.1⟩
theorem ds_row_lt {f : Nat → Nat → Nat} (P : Nat → Bool) {v i : Nat} (h : P (f (22 + v) i) = true) (hi : i < f 15 v) : ((ds_row f v i).filter P).length < (ds_rd f P v).length := by
  have h1 := ds_row_mono f P v (r := i + 1) (r2 := f 15 v) hi
  rw [ds_row_s, if_pos h, List.length_append, List.length_singleton] at h1
  unfold ds_rd
  rw [List.length_append]
  omega
theorem ds_oth_lt {f : Nat → Nat → Nat} (P : Nat → Bool) {v i : Nat} (h : (P i && (f 10 i != v)) = true) (hi : i < f 1 1) : ((ds_row f v (f 15 v)).filter P ++ ds_oth f P v i).length < (ds_rd f P v).length := by
  have h1 := ds_oth_mono f P v (r := i + 1) (r2 := f 1 1) hi
  rw [ds_oth_s, if_pos h, List.length_append, List.length_singleton] at h1
  unfold ds_rd
  rw [List.length_append, List.length_append]
  omega
end
section
/-! times of rounds, on the way -/
abbrev ds_wy (f : Nat → Nat → Nat) : Nat → Nat → Nat := fun i j => f (28 + i) j
abbrev ds_fo (f : Nat → Nat → Nat) (L : List Nat) : Nat × Nat := ds_fold (ds_wy f) (f 8) (f 9) L
theorem ds_fo_b {f : Nat → Nat → Nat} (ok : ds_ok f) {L : List Nat} (hL : ∀ x ∈ L, x < f 1 1) (i : Nat) : (ds_fo f (L.take i)).1 ≤ 20000 * i ∧ (ds_fo f (L.take i)).2 < 10 := by
  obtain ⟨hV, hn, hex, hst, hve, hwy, hw0, hrw⟩ := ok
  have h := ds_fold_b (w := ds_wy f) (pl := f 8) (sv := f 9) hwy (L.take i) (0, 0) (fun x hx => by
    have h1 := hst x (hL x (List.mem_of_mem_take hx))
    exact ⟨h1.1, h1.2.1⟩) (by decide)
  refine ⟨Nat.le_trans h.1 ?_, h.2⟩
  have h2 : (L.take i).length ≤ i := by rw [List.length_take]; omega
  show 0 + 20000 * (L.take i).length ≤ 20000 * i
  omega
theorem ds_fo_s {f : Nat → Nat → Nat} {L : List Nat} {i : Nat} (h : i < L.length) : (ds_fo f (L.take (i + 1))).1 = (ds_fo f (L.take i)).1 + (f (28 + (ds_fo f (L.take i)).2) (f 8 (L.getD i 0)) + f 9 (L.getD i 0)) ∧ (ds_fo f (L.take (i + 1))).2 = f 8 (L.getD i 0) := by
  unfold ds_fo
  rw [ds_fold_s h]
  exact ⟨rfl, rfl⟩
theorem ds_fo_e {f : Nat → Nat → Nat} {P : Nat → Bool} {v : Nat} : ds_tm f P v = (ds_fo f (ds_rd f P v)).1 + f (28 + (ds_fo f (ds_rd f P v)).2) 0 := rfl
theorem ds_getD_mem {L : List Nat} {i : Nat} (h : i < L.length) : L.getD i 0 ∈ L := by
  simp [List.getD, h]
/-- where x stands, from place i on -/
theorem ds_pos_s {L : List Nat} {i x : Nat} (h : i < L.length) : ds_pos x (L.drop i) i = if L.getD i 0 = x then nI i else ds_pos x (L.drop (i + 1)) (i + 1) := by
  rw [List.drop_eq_getElem_cons h]
  simp [ds_pos, List.getD, h]
end
section
/-! the search: weights, and what its scratch rows leave alone -/
theorem dp_part_two {B w : Nat → Nat} {S : Nat} : ∀ k k2 P m, P < k → P < k2 → dp_part B w S k P m = dp_part B w S k2 P m
  | 0, _, P, m, h, _ => absurd h (Nat.not_lt_zero _)
  | _ + 1, 0, P, m, _, h => absurd h (Nat.not_lt_zero _)
  | k + 1, k2 + 1, P, m, h, h2 => by
    unfold dp_part
    by_cases hz : P = 0
    · rw [if_pos hz, if_pos hz]
    · rw [if_neg hz, if_neg hz]
      have h3 : (P - 1) &&& S ≤ P - 1 := Nat.and_le_left
      exact dp_part_two k k2 _ _ (by omega) (by omega)
theorem dp_part_fuel {B w : Nat → Nat} {S : Nat} (k P m : Nat) (h : P < k) : dp_part B w S k P m = dp_part B w S (P + 1) P m := dp_part_two k (P + 1) P m h (by omega)
theorem dp_join0 (B w : Nat → Nat) : dp_join B w 0 = B 0 := rfl
theorem dp_xor_lt {P S : Nat} (h : P &&& S = P) (h0 : 0 < P) : S ^^^ P < S := by
  have h1 : (S ^^^ P) &&& S = S ^^^ P := dp_tb_sub (fun s hs => by rw [dp_xor_tb h] at hs; simp at hs; exact hs.1)
  have h2 : (S ^^^ P) &&& S ≤ S := Nat.and_le_right
  rw [h1] at h2
  rcases Nat.eq_or_lt_of_le h2 with q | q
  · exfalso
    have h3 : P = 0 := by
      have h4 : S ^^^ (S ^^^ P) = P := by rw [← Nat.xor_assoc, Nat.xor_self, Nat.zero_xor]
      rw [q, Nat.xor_self] at h4
      exact h4.symm
    omega
  · exact q
def ds_acc (f : Nat → Nat → Nat) (v t : Nat) : Nat → Nat
  | 0 => 0
  | i + 1 => if t.testBit i then ds_acc f v t i + v * 2 ^ (2 * (7 - i)) + (if f 10 i = v then 0 else 1099511627776) else ds_acc f v t i
def ds_bad (f : Nat → Nat → Nat) (v t : Nat) : Nat → Bool
  | 0 => false
  | i + 1 => ds_bad f v t i || (t.testBit i && !ds_may f i v)
theorem ds_bad_mono {f : Nat → Nat → Nat} {v t i n : Nat} (h : ds_bad f v t i = true) (hn : i ≤ n) : ds_bad f v t n = true := by
  induction hn with
  | refl => exact h
  | step _ ih => simp [ds_bad, ih]
def ds_wt (f : Nat → Nat → Nat) (v t : Nat) : Nat := if ds_bad f v t (f 1 1) = true then 1152921504606846976 else if v = f 1 0 then ds_acc f v t (f 1 1) else if f 1 16 < ds_tm f (fun x => t.testBit x) v - f 19 v then 1152921504606846976 else ds_acc f v t (f 1 1) + (ds_tm f (fun x => t.testBit x) v + (ds_tm f (fun x => t.testBit x) v - f 19 v)) * 2 ^ 16
theorem ds_acc_b {f : Nat → Nat → Nat} {v t : Nat} (hv : v ≤ 3) : ∀ i, i ≤ 8 → ds_acc f v t i ≤ 1099511700000 * i
  | 0, _ => by simp [ds_acc]
  | i + 1, h => by
    have ih := ds_acc_b (f := f) (t := t) hv i (by omega)
    have h1 : 2 ^ (2 * (7 - i)) ≤ 2 ^ 14 := Nat.pow_le_pow_right (by omega) (by omega)
    have h2 : v * 2 ^ (2 * (7 - i)) ≤ 3 * 2 ^ 14 := Nat.mul_le_mul hv h1
    unfold ds_acc
    split
    · split <;> omega
    · omega
theorem ds_wt_b {f : Nat → Nat → Nat} (ok : ds_ok f) {v t : Nat} (hv : v ≤ f 1 0) : ds_wt f v t ≤ 1152921504606846976 := by
  have h1 := ds_acc_b (f := f) (t := t) (v := v) (by have := ok.1; omega) (f 1 1) ok.2.1
  have h3 := ok.2.1
  unfold ds_wt
  split
  · exact Nat.le_refl _
  · split
    · omega
    · rename_i hz
      have h2 := ds_tm_b ok (fun x => t.testBit x) (v := v) (by omega)
      split
      · exact Nat.le_refl _
      · omega
/-- cells of scratch and of what ds_ok does not speak of -/
def ds_scr (k : Nat) : Prop := k = 7 ∨ k = 17 ∨ k = 21 ∨ (25 ≤ k ∧ k ≤ 27) ∨ 38 ≤ k
theorem ds_rows_congr {f u : Nat → Nat → Nat} (h : ∀ k, ¬ ds_scr k → u k = f k) (hr : ds_rows f) (hV : f 1 0 ≤ 3) : ds_rows u := by
  unfold ds_rows at *
  unfold ds_scr at h
  refine ⟨fun v r hv hr2 => ?_, fun x hx => ?_⟩
  · rw [h 1 (by omega)] at hv
    rw [h 15 (by omega)] at hr2
    rw [h (22 + v) (by omega), h 1 (by omega), h 10 (by omega), h 11 (by omega)]
    exact hr.1 v r hv hr2
  · rw [h 1 (by omega)] at hx
    have h1 := hr.2 x hx
    rw [h 10 (by omega), h 11 (by omega), h 1 (by omega), h 15 (by omega), h (22 + f 10 x) (by omega)]
    exact h1
theorem ds_ok_congr {f u : Nat → Nat → Nat} (h : ∀ k, ¬ ds_scr k → u k = f k) (ok : ds_ok f) : ds_ok u := by
  obtain ⟨hV, hn, hex, hst, hve, hwy, hw0, hrw⟩ := ok
  have h2 := ds_rows_congr h hrw hV.2
  unfold ds_scr at h
  unfold ds_ok
  rw [h 1 (by omega), h 8 (by omega), h 9 (by omega), h 12 (by omega), h 13 (by omega), h 5 (by omega), h 6 (by omega), h 18 (by omega), h 19 (by omega), h 28 (by omega)]
  refine ⟨hV, hn, hex, hst, hve, fun i j hi hj => ?_, hw0, h2⟩
  rw [h (28 + i) (by omega)]
  exact hwy i j hi hj
theorem ds_rd_congr {f u : Nat → Nat → Nat} (h : ∀ k, ¬ ds_scr k → u k = f k) (P : Nat → Bool) {v : Nat} (hv : v < 3) : ds_rd u P v = ds_rd f P v := by
  unfold ds_scr at h
  unfold ds_rd ds_row ds_oth
  rw [h (22 + v) (by omega), h 15 (by omega), h 10 (by omega), h 1 (by omega)]
theorem ds_tm_congr {f u : Nat → Nat → Nat} (h : ∀ k, ¬ ds_scr k → u k = f k) (ok : ds_ok f) (P : Nat → Bool) {v : Nat} (hv : v < f 1 0) : ds_tm u P v = ds_tm f P v := by
  have e := ds_rd_congr h P (v := v) (by have := ok.1; omega)
  obtain ⟨hV, hn, hex, hst, hve, hwy, hw0, hrw⟩ := ok
  unfold ds_tm ds_time
  rw [e]
  have hm : ∀ x ∈ ds_rd f P v, x < f 1 1 := fun x hx => (dr_rd_in hrw P hv hx).1
  have h8 : u 8 = f 8 := h 8 (by unfold ds_scr; omega)
  have h9 : u 9 = f 9 := h 9 (by unfold ds_scr; omega)
  have hw : ∀ i j, i < 10 → j < 10 → u (28 + i) j = f (28 + i) j := fun i j hi _ => by rw [h (28 + i) (by unfold ds_scr; omega)]
  have hf : ds_fold (fun i j => u (28 + i) j) (u 8) (u 9) (ds_rd f P v) = ds_fold (fun i j => f (28 + i) j) (f 8) (f 9) (ds_rd f P v) := by
    unfold ds_fold
    rw [h8, h9]
    exact ds_fold_congr _ _ (fun x hx => ⟨rfl, rfl, (hst x (hm x hx)).1⟩) (by decide) hw
  rw [hf]
  have hb := (ds_fold_b (w := fun i j => f (28 + i) j) (pl := f 8) (sv := f 9) hwy (ds_rd f P v) (0, 0) (fun x hx => ⟨(hst x (hm x hx)).1, (hst x (hm x hx)).2.1⟩) (by decide)).2
  exact congrArg _ (hw _ 0 hb (by decide))
theorem ds_may_congr {f u : Nat → Nat → Nat} (h : ∀ k, ¬ ds_scr k → u k = f k) (x v : Nat) : ds_may u x v = ds_may f x v := by
  unfold ds_scr at h
  unfold ds_may ds_can
  rw [h 12 (by omega), h 10 (by omega), h 1 (by omega), h 13 (by omega), h 18 (by omega), h 11 (by omega)]
theorem ds_bad_congr {f u : Nat → Nat → Nat} (h : ∀ k, ¬ ds_scr k → u k = f k) (v t : Nat) : ∀ i, ds_bad u v t i = ds_bad f v t i
  | 0 => rfl
  | i + 1 => by
    unfold ds_bad
    rw [ds_bad_congr h v t i, ds_may_congr h]
theorem ds_acc_congr {f u : Nat → Nat → Nat} (h : ∀ k, ¬ ds_scr k → u k = f k) (v t : Nat) : ∀ i, ds_acc u v t i = ds_acc f v t i
  | 0 => rfl
  | i + 1 => by
    unfold ds_acc
    rw [ds_acc_congr h v t i, h 10 (by unfold ds_scr; omega)]
theorem ds_wt_congr {f u : Nat → Nat → Nat} (h : ∀ k, ¬ ds_scr k → u k = f k) (ok : ds_ok f) {v : Nat} (hv : v ≤ f 1 0) (t : Nat) : ds_wt u v t = ds_wt f v t := by
  unfold ds_wt
  rw [ds_bad_congr h, ds_acc_congr h, h 1 (by unfold ds_scr; omega), h 19 (by unfold ds_scr; omega)]
  by_cases e : v = f 1 0
  · simp [e]
  · rw [ds_tm_congr h ok _ (by omega)]
theorem ds_su_agree {f : Nat → Nat → Nat} {K : Nat} {h : Nat → Nat} (hK : ds_scr K) : ∀ k, ¬ ds_scr k → dw_su f K h k = f k := fun k hk => dw_su_ne (fun e => hk (e ▸ hK))
theorem dp_part_congr {B w B2 w2 : Nat → Nat} {S : Nat} : ∀ k P m, P &&& S = P → (∀ z, z ≤ S → B z = B2 z) → (∀ z, z ≤ S → w z = w2 z) → dp_part B w S k P m = dp_part B2 w2 S k P m
  | 0, _, _, _, _, _ => rfl
  | k + 1, P, m, hP, hB, hw => by
    unfold dp_part
    by_cases hz : P = 0
    · rw [if_pos hz, if_pos hz]
    · have h1 : P ≤ S := by
        have h2 : P &&& S ≤ S := Nat.and_le_right
        rwa [hP] at h2
      rw [if_neg hz, if_neg hz, hB (S ^^^ P) (Nat.le_of_lt (dp_xor_lt hP (by omega))), hw P h1]
      exact dp_part_congr k _ _ (by rw [Nat.and_assoc, Nat.and_self]) hB hw
theorem dp_join_congr {B w B2 w2 : Nat → Nat} {q : Nat} (hB : ∀ z, z ≤ q → B z = B2 z) (hw : ∀ z, z ≤ q → w z = w2 z) : dp_join B w q = dp_join B2 w2 q := by
  unfold dp_join
  rw [hB q (Nat.le_refl _)]
  exact dp_part_congr _ _ _ (Nat.and_self q) hB hw
theorem dp_tab_b {wt : Nat → Nat → Nat} {V b : Nat} (h : ∀ v, v ≤ V → ∀ y, wt v y ≤ b) : ∀ {j : Nat}, j ≤ V → ∀ y, dp_tab wt V j y ≤ b
  | 0, _, y => h V (Nat.le_refl _) y
  | j + 1, hj, y => Nat.le_trans (dp_part_le _ _ _) (dp_tab_b h (by omega) y)
end
section
/-! rows of the next day -/
def ds_any (P : Nat → Bool) : Nat → Bool
  | 0 => false
  | i + 1 => ds_any P i || P i
theorem ds_any_mono {P : Nat → Bool} {i n : Nat} (h : ds_any P i = true) (hn : i ≤ n) : ds_any P n = true := by
  induction hn with
  | refl => exact h
  | step _ ih => simp [ds_any, ih]
/-- of the stops below i, those of v's row that P has -/
def ds_own (f : Nat → Nat → Nat) (P : Nat → Bool) (v i : Nat) : List Nat := (List.range i).filter (fun x => P x && f 10 x == v)
theorem ds_own_s (f : Nat → Nat → Nat) (P : Nat → Bool) (v i : Nat) : ds_own f P v (i + 1) = ds_own f P v i ++ (if P i && f 10 i == v then [i] else []) := by
  unfold ds_own
  rw [List.range_succ, List.filter_append]
  congr 1
  by_cases h : (P i && f 10 i == v) = true
  · simp [h]
  · simp [h]
theorem ds_own_len (f : Nat → Nat → Nat) (P : Nat → Bool) (v i : Nat) : (ds_own f P v i).length ≤ i := by
  unfold ds_own
  exact Nat.le_trans (List.length_filter_le _ _) (by simp)
theorem ds_is_app {h : Nat → Nat} {b : Nat} {L M : List Nat} (h1 : ds_is h b L) (h2 : ds_is h (b + L.length) M) : ds_is h b (L ++ M) := by
  intro i hi
  rw [List.length_append] at hi
  by_cases q : i < L.length
  · rw [h1 i q]
    simp [List.getElem?_append_left q]
  · have h3 := h2 (i - L.length) (by omega)
    rw [show b + L.length + (i - L.length) = b + i by omega] at h3
    rw [h3]
    simp [List.getElem?_append_right (Nat.not_lt.mp q)]
theorem ds_is_keep {h h2 : Nat → Nat} {L : List Nat} (h1 : ds_is h 0 L) (hk : ∀ i, i < L.length → h2 i = h i) : ds_is h2 0 L := fun i hi => by
  rw [Nat.zero_add, hk i hi]
  have q := h1 i hi
  rwa [Nat.zero_add] at q
/-- the class's cells behind turn(): rows, lengths, ranks out of the new rows -/
def ds_trn (f u : Nat → Nat → Nat) (V : Nat) : Prop := ∀ v, v < V → u 15 v = f 17 v ∧ u 18 v = 8 ∧ ∀ r, r < f 17 v → u (22 + v) r = f (25 + v) r ∧ u 10 (f (25 + v) r) = v ∧ u 11 (f (25 + v) r) = r
def ds_stop (f : Nat → Nat → Nat) (v x y : Nat) : Nat → Nat → Nat := dw_w (dw_w (ds_tell f v x y) 5 (f 1 1) v) 6 (f 1 1) v
/-- times and overtimes of the plan, of the vehicles below v -/
def ds_cost (f : Nat → Nat → Nat) : Nat → Nat
  | 0 => 0
  | v + 1 => ds_cost f v + (ds_tm f (fun z => Nat.testBit (ds_bits (fun s => f 5 s == v) (f 1 1)) z) v + (ds_tm f (fun z => Nat.testBit (ds_bits (fun s => f 5 s == v) (f 1 1)) z) v - f 19 v))
end
section
/-! run and next of the class -/
abbrev ds_best (f : Nat → Nat → Nat) : Nat := dp_tab (ds_wt f) (f 1 0) (f 1 0) (2 ^ f 1 1 - 1)
def ds_why (f : Nat → Nat → Nat) : Int32 := if ds_any (fun x => f 12 x != 0 && f 13 x != 0) (f 1 1) = true then (-2) else if ds_any (fun x => f 12 x != 0 && !ds_can f (f 10 x) x) (f 1 1) = true then (-3) else (-4)
theorem ds_why_congr {f u : Nat → Nat → Nat} (h : ∀ k, ¬ ds_scr k → u k = f k) : ds_why u = ds_why f := by
  unfold ds_scr at h
  unfold ds_why ds_can
  rw [h 12 (by omega), h 13 (by omega), h 1 (by omega), h 10 (by omega), h 18 (by omega), h 11 (by omega)]
theorem ds_best_b {f : Nat → Nat → Nat} (ok : ds_ok f) : ds_best f ≤ 1152921504606846976 := dp_tab_b (fun v2 hv2 y2 => ds_wt_b ok hv2) (Nat.le_refl _) _
theorem ds_cnt_bits (P : Nat → Bool) {n : Nat} (hn : n ≤ 8) : ds_cnt (fun i => (ds_bits P n).testBit i) 8 = ds_cnt P n := by
  have h1 : ds_cnt (fun i => (ds_bits P n).testBit i) (n + (8 - n)) = ds_cnt (fun i => (ds_bits P n).testBit i) n := ds_cnt_more n (fun i h1 h2 => by
    show (ds_bits P n).testBit i = false
    rw [ds_bits_tb, decide_eq_false (by omega), Bool.false_and])
  rw [show n + (8 - n) = 8 by omega] at h1
  rw [h1]
  exact ds_cnt_congr n (fun i hi => by
    show (ds_bits P n).testBit i = P i
    rw [ds_bits_tb, decide_eq_true hi, Bool.true_and])
/-- the stops that the plan gives to v, as a set of bits -/
abbrev ds_pb (f : Nat → Nat → Nat) (v : Nat) : Nat → Bool := fun z => Nat.testBit (ds_bits (fun s => f 5 s == v) (f 1 1)) z
theorem ds_pb_eq (f : Nat → Nat → Nat) (v z : Nat) : ds_pb f v z = (decide (z < f 1 1) && f 5 z == v) := ds_bits_tb _ _ _
/-- v's row of the next day -/
def ds_nl (f : Nat → Nat → Nat) (v : Nat) : List Nat := ds_own f (ds_pb f (f 1 0)) v (f 1 1) ++ ds_rd f (ds_pb f v) v
theorem ds_own_in {f : Nat → Nat → Nat} {P : Nat → Bool} {v i x : Nat} (hx : x ∈ ds_own f P v i) : x < i ∧ P x = true ∧ f 10 x = v := by
  have h1 := List.mem_filter.mp hx
  have h2 := h1.2
  simp at h2
  exact ⟨List.mem_range.mp h1.1, h2.1, h2.2⟩
theorem ds_nl_in {f : Nat → Nat → Nat} (h : ds_rows f) {v x : Nat} (hv : v < f 1 0) (hx : x ∈ ds_nl f v) : x < f 1 1 ∧ ((f 5 x = f 1 0 ∧ f 10 x = v) ∨ f 5 x = v) := by
  unfold ds_nl at hx
  rcases List.mem_append.mp hx with q | q
  · obtain ⟨h1, h2, h3⟩ := ds_own_in q
    rw [ds_pb_eq] at h2
    simp at h2
    exact ⟨h1, Or.inl ⟨h2.2, h3⟩⟩
  · obtain ⟨h1, h2⟩ := dr_rd_in h _ hv q
    rw [ds_pb_eq] at h2
    simp at h2
    exact ⟨h1, Or.inr h2.2⟩
theorem ds_nl_nd {f : Nat → Nat → Nat} (h : ds_rows f) {v : Nat} (hv : v < f 1 0) : (ds_nl f v).Nodup := by
  unfold ds_nl
  rw [List.nodup_append]
  refine ⟨List.nodup_range.filter _, dr_rd_nd h _ hv, ?_⟩
  intro x hx y hy e
  obtain ⟨h1, h2, h3⟩ := ds_own_in hx
  obtain ⟨h4, h5⟩ := dr_rd_in h _ hv hy
  rw [ds_pb_eq] at h2 h5
  simp at h2 h5
  rw [e] at h2
  omega
theorem ds_nl_len {f : Nat → Nat → Nat} (h : ds_rows f) {v : Nat} (hv : v < f 1 0) : (ds_nl f v).length ≤ f 1 1 := dr_len _ _ (ds_nl_nd h hv) (fun _ hx => (ds_nl_in h hv hx).1)
theorem ds_nd_inj {L : List Nat} (h : L.Nodup) {i j : Nat} (hi : i < L.length) (hj : j < L.length) (e : L.getD i 0 = L.getD j 0) : i = j := by
  have e2 : L[i] = L[j] := by simpa [List.getD, hi, hj] using e
  have hp := List.pairwise_iff_getElem.mp h
  rcases Nat.lt_trichotomy i j with q | q | q
  · exact absurd e2 (hp i j hi hj q)
  · exact q
  · exact absurd e2.symm (hp j i hj hi q)
/-- what prepareRow has done for the vehicles below v -/
def ds_prep (f u : Nat → Nat → Nat) (v : Nat) : Prop := (∀ w, w < v → u 17 w = (ds_nl f w).length ∧ ds_is (u (25 + w)) 0 (ds_nl f w)) ∧ ∀ k, k ≠ 17 → ¬ (25 ≤ k ∧ k < 28) → u k = f k
theorem ds_prep_at {f u : Nat → Nat → Nat} {v w r : Nat} (h : ds_prep f u v) (hw : w < v) (hr : r < u 17 w) : r < (ds_nl f w).length ∧ u (25 + w) r = (ds_nl f w).getD r 0 := by
  obtain ⟨h1, h2⟩ := h.1 w hw
  rw [h1] at hr
  have h3 := h2 r hr
  rw [Nat.zero_add] at h3
  exact ⟨hr, h3⟩
theorem ds_prep_inj {f u : Nat → Nat → Nat} (ok : ds_ok f) (h : ds_prep f u (f 1 0)) {v r v2 r2 : Nat} (hv : v < f 1 0) (hv2 : v2 < f 1 0) (hr : r < u 17 v) (hr2 : r2 < u 17 v2) (e : u (25 + v) r = u (25 + v2) r2) : v = v2 ∧ r = r2 := by
  obtain ⟨hV, hn, hex, hst, hve, hwy, hw0, hrw⟩ := ok
  obtain ⟨a1, a2⟩ := ds_prep_at h hv hr
  obtain ⟨b1, b2⟩ := ds_prep_at h hv2 hr2
  rw [a2, b2] at e
  have m1 := ds_nl_in hrw hv (ds_getD_mem a1)
  have m2 := ds_nl_in hrw hv2 (ds_getD_mem b1)
  rw [← e] at m2
  have ev : v = v2 := by
    rcases m1.2 with q | q <;> rcases m2.2 with q2 | q2 <;> omega
  subst ev
  exact ⟨rfl, ds_nd_inj (ds_nl_nd hrw hv) a1 b1 e⟩
end
section
/-! the reference's state, seen as a state of the class; rw: its rows, which it does not hold itself -/
def md_v (f rw : Nat → Nat → Nat) : Nat → Nat → Nat := fun k =>
  if k = 1 then (fun j => if j = 16 then f 54 12 else if j = 0 then f 54 0 else if j = 1 then f 54 1 else 0)
  else if k = 5 then f 65 else if k = 6 then f 72 else if k = 7 then f 73 else if k = 8 then f 55 else if k = 9 then f 56 else if k = 10 then f 57 else if k = 11 then f 58 else if k = 12 then f 60 else if k = 13 then f 61 else if k = 15 then f 59 else if k = 18 then f 62 else if k = 19 then f 63
  else if 22 ≤ k ∧ k < 25 then rw (k - 22) else if 28 ≤ k ∧ k < 38 then (fun j => f 64 (10 * (k - 28) + j)) else fun _ => 0
theorem md_1 (f rw : Nat → Nat → Nat) : md_v f rw 1 0 = f 54 0 ∧ md_v f rw 1 1 = f 54 1 ∧ md_v f rw 1 16 = f 54 12 := ⟨rfl, rfl, rfl⟩
theorem md_22 {f rw : Nat → Nat → Nat} {v : Nat} (h : v < 3) : md_v f rw (22 + v) = rw v := by
  rcases (show v = 0 ∨ v = 1 ∨ v = 2 by omega) with rfl | rfl | rfl <;> rfl
theorem md_28 {f rw : Nat → Nat → Nat} {i : Nat} (h : i < 10) : md_v f rw (28 + i) = fun j => f 64 (10 * i + j) := by
  unfold md_v
  rw [if_neg (by omega), if_neg (by omega), if_neg (by omega), if_neg (by omega), if_neg (by omega), if_neg (by omega), if_neg (by omega), if_neg (by omega), if_neg (by omega), if_neg (by omega), if_neg (by omega), if_neg (by omega), if_neg (by omega), if_neg (by omega), if_pos (by omega), show 28 + i - 28 = i by omega]
/-- what the reference's scratch leaves alone: equal cells give the same view -/
theorem md_congr {f u rw : Nat → Nat → Nat} (h : ∀ k, 55 ≤ k → k ≤ 73 → ¬ (66 ≤ k ∧ k ≤ 71) → u k = f k) (h0 : u 54 0 = f 54 0) (h1 : u 54 1 = f 54 1) (h2 : u 54 12 = f 54 12) : md_v u rw = md_v f rw := by
  funext k
  unfold md_v
  rw [h0, h1, h2, h 65 (by decide) (by decide) (by decide), h 72 (by decide) (by decide) (by decide), h 73 (by decide) (by decide) (by decide), h 55 (by decide) (by decide) (by decide), h 56 (by decide) (by decide) (by decide), h 57 (by decide) (by decide) (by decide), h 58 (by decide) (by decide) (by decide), h 60 (by decide) (by decide) (by decide), h 61 (by decide) (by decide) (by decide), h 59 (by decide) (by decide) (by decide), h 62 (by decide) (by decide) (by decide), h 63 (by decide) (by decide) (by decide), h 64 (by decide) (by decide) (by decide)]
theorem ds_in_iff {x : Int32} {n : Nat} (hn : n < 2 ^ 31) : ds_in x n ↔ (¬ x < 0 ∧ ¬ nI n ≤ x) := by
  unfold ds_in
  rw [Int32.lt_iff_toInt_lt, Int32.le_iff_toInt_le, nI_toInt hn, Int32.toInt_zero]
  omega
theorem ds_lin {x : Int32} {n : Nat} (hn : n < 2 ^ 31) : (lN 0 ≤ x.toInt64 ∧ x.toInt64 ≤ lN n) ↔ ds_in x (n + 1) := by
  unfold ds_in
  rw [Int64.le_iff_toInt_le, Int64.le_iff_toInt_le, lN_toInt hn, lN_toInt (by decide), Int32.toInt_toInt64]
  omega
def md_stop (f : Nat → Nat → Nat) (v x y : Nat) : Nat → Nat → Nat := dw_w (dw_w (dw_w (dw_w (dw_w (dw_w (dw_w (dw_w f 55 (f 54 1) x) 56 (f 54 1) y) 57 (f 54 1) v) 58 (f 54 1) (f 59 v)) 59 v (f 59 v + 1)) 65 (f 54 1) v) 72 (f 54 1) v) 54 1 (f 54 1 + 1)
end
section
/-! the reference's rounds -/
theorem md_facts {f rw : Nat → Nat → Nat} (ok : ds_ok (md_v f rw)) : (1 ≤ f 54 0 ∧ f 54 0 ≤ 3) ∧ f 54 1 ≤ 8 ∧ f 54 12 ≤ 100000 ∧ (∀ x, x < f 54 1 → f 55 x < 10 ∧ f 56 x ≤ 10000 ∧ f 60 x ≤ 1 ∧ f 61 x ≤ 1 ∧ f 65 x ≤ f 54 0 ∧ f 72 x ≤ f 54 0) ∧ (∀ v, v < f 54 0 → f 62 v ≤ 8 ∧ f 63 v ≤ 100000) ∧ (∀ v r, v < f 54 0 → r < f 59 v → rw v r < f 54 1 ∧ f 57 (rw v r) = v ∧ f 58 (rw v r) = r) ∧ (∀ x, x < f 54 1 → f 57 x < f 54 0 ∧ f 58 x < f 59 (f 57 x) ∧ rw (f 57 x) (f 58 x) = x) ∧ (∀ v, v < f 54 0 → f 59 v ≤ f 54 1) ∧ (∀ i j, i < 10 → j < 10 → f 64 (10 * i + j) ≤ 10000) := by
  obtain ⟨hV, hn, hex, hst, hve, hwy, hw0, hrw⟩ := id ok
  have hV2 : 1 ≤ f 54 0 ∧ f 54 0 ≤ 3 := hV
  refine ⟨hV, hn, hex, hst, hve, fun v r h1 h2 => ?_, fun x h1 => ?_, fun v h1 => dr_row_len hrw h1, fun i j h1 h2 => ?_⟩
  · have q := hrw.1 v r h1 h2
    rw [md_22 (by omega)] at q
    exact q
  · have q := hrw.2 x h1
    have q1 : f 57 x < f 54 0 := q.1
    have q3 := q.2.2
    rw [show md_v f rw 10 x = f 57 x from rfl, md_22 (by omega)] at q3
    exact ⟨q1, q.2.1, q3⟩
  · have q := hwy i j h1 h2
    rw [md_28 h1] at q
    exact q
/-- the state while a round is written: round from h, its size z -/
abbrev md_r (f : Nat → Nat → Nat) (h : Nat → Nat) (z : Nat) : Nat → Nat → Nat := dw_w (dw_su f 74 h) 54 25 z
theorem md_r_ne {f : Nat → Nat → Nat} {h : Nat → Nat} {z k : Nat} (h1 : k ≠ 54) (h2 : k ≠ 74) : md_r f h z k = f k := by rw [md_r, dw_w_ne h1, dw_su_ne h2]
theorem md_r_54 {f : Nat → Nat → Nat} {h : Nat → Nat} {z j : Nat} (hj : j ≠ 25) : md_r f h z 54 j = f 54 j := by rw [md_r, dw_w_eq, dw_up_ne hj, dw_su_ne (by decide)]
theorem md_r_z {f : Nat → Nat → Nat} {h : Nat → Nat} {z : Nat} : md_r f h z 54 25 = z := by rw [md_r, dw_w_eq, dw_up_eq]
theorem md_r_74 {f : Nat → Nat → Nat} {h : Nat → Nat} {z : Nat} : md_r f h z 74 = h := by rw [md_r, dw_w_ne (by decide), dw_su_eq]
theorem md_push {f : Nat → Nat → Nat} {h : Nat → Nat} {z x y : Nat} : dw_w (dw_w (md_r f h z) 74 z x) 54 25 y = md_r f (dw_up h z x) y := by
  funext k
  by_cases h1 : k = 54
  · subst h1
    unfold md_r
    rw [dw_w_eq, dw_w_ne (by decide), dw_w_eq, dw_w_eq, dw_su_ne (by decide), dw_su_ne (by decide)]
    funext j
    by_cases h2 : j = 25
    · rw [h2, dw_up_eq, dw_up_eq]
    · rw [dw_up_ne h2, dw_up_ne h2, dw_up_ne h2]
  · unfold md_r
    rw [dw_w_ne h1, dw_w_ne h1]
    by_cases h2 : k = 74
    · subst h2
      rw [dw_w_eq, dw_w_ne (by decide), dw_su_eq, dw_su_eq]
    · rw [dw_w_ne h2, dw_w_ne h1, dw_su_ne h2, dw_su_ne h2]
theorem md_r_self {f : Nat → Nat → Nat} {z : Nat} : dw_w f 54 25 z = md_r f (f 74) z := by rw [md_r, dw_su_self]
/-- of place d of v's row: what the inner loop has found below i -/
def md_m (rw : Nat → Nat → Nat) (P : Nat → Bool) (v d i : Nat) : List Nat := if rw v d < i ∧ P (rw v d) = true then [rw v d] else []
theorem md_m_hit {rw : Nat → Nat → Nat} {P : Nat → Bool} {v d i : Nat} (h : rw v d = i) (hP : P i = true) : md_m rw P v d (i + 1) = md_m rw P v d i ++ [i] := by
  unfold md_m
  rw [h, if_pos ⟨by omega, hP⟩, if_neg (by omega), List.nil_append]
theorem md_m_skip {rw : Nat → Nat → Nat} {P : Nat → Bool} {v d i : Nat} (h : ¬ (rw v d = i ∧ P i = true)) : md_m rw P v d (i + 1) = md_m rw P v d i := by
  unfold md_m
  by_cases e : rw v d = i
  · have hP : ¬ P i = true := fun q => h ⟨e, q⟩
    rw [e, if_neg (fun q => hP q.2), if_neg (fun q => hP q.2)]
  · by_cases q : rw v d < i
    · have e1 : (rw v d < i + 1) = (rw v d < i) := propext (by omega)
      simp only [e1]
    · rw [if_neg (by omega), if_neg (by omega)]
theorem md_m_end {f rw : Nat → Nat → Nat} {P : Nat → Bool} {v d n : Nat} (hv : v < 3) (h : rw v d < n) : (ds_row (md_v f rw) v (d + 1)).filter P = (ds_row (md_v f rw) v d).filter P ++ md_m rw P v d n := by
  rw [ds_row_s, md_22 hv]
  unfold md_m
  by_cases q : P (rw v d) = true
  · rw [if_pos q, if_pos ⟨h, q⟩]
  · rw [if_neg q, if_neg (fun w => q w.2)]
theorem md_m_0 {rw : Nat → Nat → Nat} {P : Nat → Bool} {v d : Nat} : md_m rw P v d 0 = [] := by unfold md_m; rw [if_neg (by omega)]
theorem md_row_lt {f rw : Nat → Nat → Nat} {P : Nat → Bool} {v d i : Nat} (hv : v < 3) (hd : d < f 59 v) (h : rw v d = i) (hP : P i = true) : ((ds_row (md_v f rw) v d).filter P ++ md_m rw P v d i).length < (ds_rd (md_v f rw) P v).length := by
  have h1 := ds_row_lt (f := md_v f rw) P (v := v) (i := d) (by rw [md_22 hv, h]; exact hP) hd
  rw [show md_m rw P v d i = [] by unfold md_m; rw [if_neg (by omega)], List.append_nil]
  exact h1
theorem md_pushed {f f2 fa fb : Nat → Nat → Nat} {h : Nat → Nat} {L : List Nat} {x : Nat} (hh : f2 = md_r f h L.length) (eA : fa = dw_w f2 74 (f2 54 25) x) (eB : fb = dw_w fa 54 25 (fa 54 25 + 1)) : fb = md_r f (dw_up h L.length x) (L ++ [x]).length := by
  have e1 : f2 54 25 = L.length := by rw [hh, md_r_z]
  have e2 : fa 54 25 = L.length := by rw [eA, dw_w_ne (by decide), e1]
  rw [eB, e2, eA, e1, hh, List.length_append, List.length_singleton]
  exact md_push
end
section
/-! the layout: the cells of DaySwaps (0 .. 53) and of DaySwapsModel (54 .. 76) -/
def ds_tab : List (Nat × Nat × Nat) := [(4, 0, 0), (5, 0, 0), (6, 0, 0), (7, 0, 0), (8, 0, 0), (0, 8, 0), (0, 8, 0), (0, 8, 0), (0, 8, 0), (0, 8, 0), (0, 8, 0), (0, 8, 0), (1, 8, 0), (1, 8, 0), (3, 3, 22), (0, 3, 0), (3, 3, 25), (0, 3, 0), (0, 3, 0), (0, 3, 0), (3, 10, 28), (0, 8, 0), (0, 8, 0), (0, 8, 0), (0, 8, 0), (0, 8, 0), (0, 8, 0), (0, 8, 0), (0, 10, 0), (0, 10, 0), (0, 10, 0), (0, 10, 0), (0, 10, 0), (0, 10, 0), (0, 10, 0), (0, 10, 0), (0, 10, 0), (0, 10, 0), (3, 6, 39), (0, 8, 0), (0, 8, 0), (0, 8, 0), (0, 8, 0), (0, 8, 0), (0, 8, 0), (0, 6, 0), (3, 4, 47), (0, 8, 0), (0, 8, 0), (0, 8, 0), (0, 8, 0), (0, 4, 0), (2, 256, 0), (2, 256, 0), (9, 0, 0), (0, 8, 0), (0, 8, 0), (0, 8, 0), (0, 8, 0), (0, 3, 0), (1, 8, 0), (1, 8, 0), (0, 3, 0), (0, 3, 0), (0, 100, 0), (0, 8, 0), (0, 8, 0), (0, 8, 0), (0, 48, 0), (0, 6, 0), (0, 32, 0), (0, 4, 0), (0, 8, 0), (0, 8, 0), (0, 8, 0), (0, 8, 0), (0, 8, 0)]
abbrev ds_fs0 (a : Nat → Nat) (c : Nat → Nat) : List Value := [.ref (a 1), .ref (a 2), .ref (a 3), .ref (a 4), .ref (a 5), .ref (a 6), .ref (a 7)]
abbrev ds_fs1 (a : Nat → Nat) (c : Nat → Nat) : List Value := [.int (nI (c 0)), .int (nI (c 1)), .ref (a 8), .ref (a 9), .ref (a 10), .ref (a 11), .ref (a 12), .ref (a 13), .ref (a 14), .ref (a 15), .ref (a 16), .ref (a 17), .ref (a 18), .ref (a 19), .ref (a 20), .ref (a 21), .int (nI (c 16))]
abbrev ds_fs2 (a : Nat → Nat) (c : Nat → Nat) : List Value := [.ref (a 1), .ref (a 52), .ref (a 53)]
abbrev ds_fs3 (a : Nat → Nat) (c : Nat → Nat) : List Value := [.ref (a 38), .ref (a 45), .int (nI (c 2))]
abbrev ds_fs4 (a : Nat → Nat) (c : Nat → Nat) : List Value := [.ref (a 46), .ref (a 51), .int (nI (c 2))]
abbrev ds_fs54 (a : Nat → Nat) (c : Nat → Nat) : List Value := [.int (nI (c 0)), .int (nI (c 1)), .ref (a 55), .ref (a 56), .ref (a 57), .ref (a 58), .ref (a 59), .ref (a 60), .ref (a 61), .ref (a 62), .ref (a 63), .ref (a 64), .int (nI (c 12)), .ref (a 65), .ref (a 66), .ref (a 67), .int (nI (c 16)), .ref (a 68), .ref (a 69), .int (nI (c 19)), .ref (a 70), .ref (a 71), .ref (a 72), .ref (a 73), .ref (a 74), .int (nI (c 25)), .ref (a 75), .ref (a 76)]
def ds_ce (g : Nat → ClassId) (a : Nat → Nat) (k : Nat) (c : Nat → Nat) : va_E := match ds_tab.getD k (99, 0, 0) with
  | (0, n, _) => .inl (g 0, n, .inl (fun j => nI (c j)))
  | (1, n, _) => .inl (g 1, n, .inl (fun j => nI (c j)))
  | (2, n, _) => .inl (g 2, n, .inr (.inl (fun j => lN (c j))))
  | (3, n, b) => .inl (g 3, n, .inr (.inr (.inr (.inr (fun j => some (a (b + j)))))))
  | (4, _, _) => .inr (0, ds_fs0 a c)
  | (5, _, _) => .inr (1, ds_fs1 a c)
  | (6, _, _) => .inr (2, ds_fs2 a c)
  | (7, _, _) => .inr (3, ds_fs3 a c)
  | (8, _, _) => .inr (3, ds_fs4 a c)
  | (9, _, _) => .inr (4, ds_fs54 a c)
  | _ => .inr (99, [])
abbrev ds_tys (g : Nat → ClassId) : List (ClassId × FieldType) := [(g 0, .int), (g 1, .boolean), (g 2, .long), (g 3, .array .int)]
section
variable {g : Nat → ClassId} {a : Nat → Nat}
theorem ds_k5 : dw_Ci (ds_tys g) 77 (ds_ce g a) .int 5 8 := ⟨by decide, by decide, g 0, 0, rfl, fun _ => rfl⟩
theorem ds_k6 : dw_Ci (ds_tys g) 77 (ds_ce g a) .int 6 8 := ⟨by decide, by decide, g 0, 0, rfl, fun _ => rfl⟩
theorem ds_k7 : dw_Ci (ds_tys g) 77 (ds_ce g a) .int 7 8 := ⟨by decide, by decide, g 0, 0, rfl, fun _ => rfl⟩
theorem ds_k8 : dw_Ci (ds_tys g) 77 (ds_ce g a) .int 8 8 := ⟨by decide, by decide, g 0, 0, rfl, fun _ => rfl⟩
theorem ds_k9 : dw_Ci (ds_tys g) 77 (ds_ce g a) .int 9 8 := ⟨by decide, by decide, g 0, 0, rfl, fun _ => rfl⟩
theorem ds_k10 : dw_Ci (ds_tys g) 77 (ds_ce g a) .int 10 8 := ⟨by decide, by decide, g 0, 0, rfl, fun _ => rfl⟩
theorem ds_k11 : dw_Ci (ds_tys g) 77 (ds_ce g a) .int 11 8 := ⟨by decide, by decide, g 0, 0, rfl, fun _ => rfl⟩
theorem ds_k12 : dw_Ci (ds_tys g) 77 (ds_ce g a) .boolean 12 8 := ⟨by decide, by decide, g 1, 1, rfl, fun _ => rfl⟩
theorem ds_k13 : dw_Ci (ds_tys g) 77 (ds_ce g a) .boolean 13 8 := ⟨by decide, by decide, g 1, 1, rfl, fun _ => rfl⟩
theorem ds_k14 : dw_Cr (ds_tys g) 77 (ds_ce g a) a 14 3 22 := ⟨by decide, by decide, g 3, 3, rfl, fun _ => rfl⟩
theorem ds_k15 : dw_Ci (ds_tys g) 77 (ds_ce g a) .int 15 3 := ⟨by decide, by decide, g 0, 0, rfl, fun _ => rfl⟩
theorem ds_k16 : dw_Cr (ds_tys g) 77 (ds_ce g a) a 16 3 25 := ⟨by decide, by decide, g 3, 3, rfl, fun _ => rfl⟩
theorem ds_k17 : dw_Ci (ds_tys g) 77 (ds_ce g a) .int 17 3 := ⟨by decide, by decide, g 0, 0, rfl, fun _ => rfl⟩
theorem ds_k18 : dw_Ci (ds_tys g) 77 (ds_ce g a) .int 18 3 := ⟨by decide, by decide, g 0, 0, rfl, fun _ => rfl⟩
theorem ds_k19 : dw_Ci (ds_tys g) 77 (ds_ce g a) .int 19 3 := ⟨by decide, by decide, g 0, 0, rfl, fun _ => rfl⟩
theorem ds_k20 : dw_Cr (ds_tys g) 77 (ds_ce g a) a 20 10 28 := ⟨by decide, by decide, g 3, 3, rfl, fun _ => rfl⟩
theorem ds_k21 : dw_Ci (ds_tys g) 77 (ds_ce g a) .int 21 8 := ⟨by decide, by decide, g 0, 0, rfl, fun _ => rfl⟩
theorem ds_k22' : dw_Ci (ds_tys g) 77 (ds_ce g a) .int 22 8 := ⟨by decide, by decide, g 0, 0, rfl, fun _ => rfl⟩
theorem ds_k23 : dw_Ci (ds_tys g) 77 (ds_ce g a) .int 23 8 := ⟨by decide, by decide, g 0, 0, rfl, fun _ => rfl⟩
theorem ds_k24 : dw_Ci (ds_tys g) 77 (ds_ce g a) .int 24 8 := ⟨by decide, by decide, g 0, 0, rfl, fun _ => rfl⟩
theorem ds_k25' : dw_Ci (ds_tys g) 77 (ds_ce g a) .int 25 8 := ⟨by decide, by decide, g 0, 0, rfl, fun _ => rfl⟩
theorem ds_k26 : dw_Ci (ds_tys g) 77 (ds_ce g a) .int 26 8 := ⟨by decide, by decide, g 0, 0, rfl, fun _ => rfl⟩
theorem ds_k27 : dw_Ci (ds_tys g) 77 (ds_ce g a) .int 27 8 := ⟨by decide, by decide, g 0, 0, rfl, fun _ => rfl⟩
theorem ds_k28' : dw_Ci (ds_tys g) 77 (ds_ce g a) .int 28 10 := ⟨by decide, by decide, g 0, 0, rfl, fun _ => rfl⟩
theorem ds_k29 : dw_Ci (ds_tys g) 77 (ds_ce g a) .int 29 10 := ⟨by decide, by decide, g 0, 0, rfl, fun _ => rfl⟩
theorem ds_k30 : dw_Ci (ds_tys g) 77 (ds_ce g a) .int 30 10 := ⟨by decide, by decide, g 0, 0, rfl, fun _ => rfl⟩
theorem ds_k31 : dw_Ci (ds_tys g) 77 (ds_ce g a) .int 31 10 := ⟨by decide, by decide, g 0, 0, rfl, fun _ => rfl⟩
theorem ds_k32 : dw_Ci (ds_tys g) 77 (ds_ce g a) .int 32 10 := ⟨by decide, by decide, g 0, 0, rfl, fun _ => rfl⟩
theorem ds_k33 : dw_Ci (ds_tys g) 77 (ds_ce g a) .int 33 10 := ⟨by decide, by decide, g 0, 0, rfl, fun _ => rfl⟩
theorem ds_k34 : dw_Ci (ds_tys g) 77 (ds_ce g a) .int 34 10 := ⟨by decide, by decide, g 0, 0, rfl, fun _ => rfl⟩
theorem ds_k35 : dw_Ci (ds_tys g) 77 (ds_ce g a) .int 35 10 := ⟨by decide, by decide, g 0, 0, rfl, fun _ => rfl⟩
theorem ds_k36 : dw_Ci (ds_tys g) 77 (ds_ce g a) .int 36 10 := ⟨by decide, by decide, g 0, 0, rfl, fun _ => rfl⟩
theorem ds_k37 : dw_Ci (ds_tys g) 77 (ds_ce g a) .int 37 10 := ⟨by decide, by decide, g 0, 0, rfl, fun _ => rfl⟩
theorem ds_k38 : dw_Cr (ds_tys g) 77 (ds_ce g a) a 38 6 39 := ⟨by decide, by decide, g 3, 3, rfl, fun _ => rfl⟩
theorem ds_k39' : dw_Ci (ds_tys g) 77 (ds_ce g a) .int 39 8 := ⟨by decide, by decide, g 0, 0, rfl, fun _ => rfl⟩
theorem ds_k40 : dw_Ci (ds_tys g) 77 (ds_ce g a) .int 40 8 := ⟨by decide, by decide, g 0, 0, rfl, fun _ => rfl⟩
theorem ds_k41 : dw_Ci (ds_tys g) 77 (ds_ce g a) .int 41 8 := ⟨by decide, by decide, g 0, 0, rfl, fun _ => rfl⟩
theorem ds_k42 : dw_Ci (ds_tys g) 77 (ds_ce g a) .int 42 8 := ⟨by decide, by decide, g 0, 0, rfl, fun _ => rfl⟩
theorem ds_k43 : dw_Ci (ds_tys g) 77 (ds_ce g a) .int 43 8 := ⟨by decide, by decide, g 0, 0, rfl, fun _ => rfl⟩
theorem ds_k44 : dw_Ci (ds_tys g) 77 (ds_ce g a) .int 44 8 := ⟨by decide, by decide, g 0, 0, rfl, fun _ => rfl⟩
theorem ds_k45 : dw_Ci (ds_tys g) 77 (ds_ce g a) .int 45 6 := ⟨by decide, by decide, g 0, 0, rfl, fun _ => rfl⟩
theorem ds_k46 : dw_Cr (ds_tys g) 77 (ds_ce g a) a 46 4 47 := ⟨by decide, by decide, g 3, 3, rfl, fun _ => rfl⟩
theorem ds_k47' : dw_Ci (ds_tys g) 77 (ds_ce g a) .int 47 8 := ⟨by decide, by decide, g 0, 0, rfl, fun _ => rfl⟩
theorem ds_k48 : dw_Ci (ds_tys g) 77 (ds_ce g a) .int 48 8 := ⟨by decide, by decide, g 0, 0, rfl, fun _ => rfl⟩
theorem ds_k49 : dw_Ci (ds_tys g) 77 (ds_ce g a) .int 49 8 := ⟨by decide, by decide, g 0, 0, rfl, fun _ => rfl⟩
theorem ds_k50 : dw_Ci (ds_tys g) 77 (ds_ce g a) .int 50 8 := ⟨by decide, by decide, g 0, 0, rfl, fun _ => rfl⟩
theorem ds_k51 : dw_Ci (ds_tys g) 77 (ds_ce g a) .int 51 4 := ⟨by decide, by decide, g 0, 0, rfl, fun _ => rfl⟩
theorem ds_k52 : dw_Cl (ds_tys g) 77 (ds_ce g a) 52 256 := ⟨by decide, by decide, g 2, 2, rfl, fun _ => rfl⟩
theorem ds_k53 : dw_Cl (ds_tys g) 77 (ds_ce g a) 53 256 := ⟨by decide, by decide, g 2, 2, rfl, fun _ => rfl⟩
theorem ds_k55 : dw_Ci (ds_tys g) 77 (ds_ce g a) .int 55 8 := ⟨by decide, by decide, g 0, 0, rfl, fun _ => rfl⟩
theorem ds_k56 : dw_Ci (ds_tys g) 77 (ds_ce g a) .int 56 8 := ⟨by decide, by decide, g 0, 0, rfl, fun _ => rfl⟩
theorem ds_k57 : dw_Ci (ds_tys g) 77 (ds_ce g a) .int 57 8 := ⟨by decide, by decide, g 0, 0, rfl, fun _ => rfl⟩
theorem ds_k58 : dw_Ci (ds_tys g) 77 (ds_ce g a) .int 58 8 := ⟨by decide, by decide, g 0, 0, rfl, fun _ => rfl⟩
theorem ds_k59 : dw_Ci (ds_tys g) 77 (ds_ce g a) .int 59 3 := ⟨by decide, by decide, g 0, 0, rfl, fun _ => rfl⟩
theorem ds_k60 : dw_Ci (ds_tys g) 77 (ds_ce g a) .boolean 60 8 := ⟨by decide, by decide, g 1, 1, rfl, fun _ => rfl⟩
theorem ds_k61 : dw_Ci (ds_tys g) 77 (ds_ce g a) .boolean 61 8 := ⟨by decide, by decide, g 1, 1, rfl, fun _ => rfl⟩
theorem ds_k62 : dw_Ci (ds_tys g) 77 (ds_ce g a) .int 62 3 := ⟨by decide, by decide, g 0, 0, rfl, fun _ => rfl⟩
theorem ds_k63 : dw_Ci (ds_tys g) 77 (ds_ce g a) .int 63 3 := ⟨by decide, by decide, g 0, 0, rfl, fun _ => rfl⟩
theorem ds_k64 : dw_Ci (ds_tys g) 77 (ds_ce g a) .int 64 100 := ⟨by decide, by decide, g 0, 0, rfl, fun _ => rfl⟩
theorem ds_k65 : dw_Ci (ds_tys g) 77 (ds_ce g a) .int 65 8 := ⟨by decide, by decide, g 0, 0, rfl, fun _ => rfl⟩
theorem ds_k66 : dw_Ci (ds_tys g) 77 (ds_ce g a) .int 66 8 := ⟨by decide, by decide, g 0, 0, rfl, fun _ => rfl⟩
theorem ds_k67 : dw_Ci (ds_tys g) 77 (ds_ce g a) .int 67 8 := ⟨by decide, by decide, g 0, 0, rfl, fun _ => rfl⟩
theorem ds_k68 : dw_Ci (ds_tys g) 77 (ds_ce g a) .int 68 48 := ⟨by decide, by decide, g 0, 0, rfl, fun _ => rfl⟩
theorem ds_k69 : dw_Ci (ds_tys g) 77 (ds_ce g a) .int 69 6 := ⟨by decide, by decide, g 0, 0, rfl, fun _ => rfl⟩
theorem ds_k70 : dw_Ci (ds_tys g) 77 (ds_ce g a) .int 70 32 := ⟨by decide, by decide, g 0, 0, rfl, fun _ => rfl⟩
theorem ds_k71 : dw_Ci (ds_tys g) 77 (ds_ce g a) .int 71 4 := ⟨by decide, by decide, g 0, 0, rfl, fun _ => rfl⟩
theorem ds_k72 : dw_Ci (ds_tys g) 77 (ds_ce g a) .int 72 8 := ⟨by decide, by decide, g 0, 0, rfl, fun _ => rfl⟩
theorem ds_k73 : dw_Ci (ds_tys g) 77 (ds_ce g a) .int 73 8 := ⟨by decide, by decide, g 0, 0, rfl, fun _ => rfl⟩
theorem ds_k74 : dw_Ci (ds_tys g) 77 (ds_ce g a) .int 74 8 := ⟨by decide, by decide, g 0, 0, rfl, fun _ => rfl⟩
theorem ds_k75 : dw_Ci (ds_tys g) 77 (ds_ce g a) .int 75 8 := ⟨by decide, by decide, g 0, 0, rfl, fun _ => rfl⟩
theorem ds_k76 : dw_Ci (ds_tys g) 77 (ds_ce g a) .int 76 8 := ⟨by decide, by decide, g 0, 0, rfl, fun _ => rfl⟩
theorem ds_k22 {v : Nat} (h : v < 3) : dw_Ci (ds_tys g) 77 (ds_ce g a) .int (22 + v) 8 := by
  rcases (show v = 0 ∨ v = 1 ∨ v = 2 by omega) with rfl | rfl | rfl
  · exact ds_k22'
  · exact ds_k23
  · exact ds_k24
theorem ds_k25 {v : Nat} (h : v < 3) : dw_Ci (ds_tys g) 77 (ds_ce g a) .int (25 + v) 8 := by
  rcases (show v = 0 ∨ v = 1 ∨ v = 2 by omega) with rfl | rfl | rfl
  · exact ds_k25'
  · exact ds_k26
  · exact ds_k27
theorem ds_k28 {v : Nat} (h : v < 10) : dw_Ci (ds_tys g) 77 (ds_ce g a) .int (28 + v) 10 := by
  rcases (show v = 0 ∨ v = 1 ∨ v = 2 ∨ v = 3 ∨ v = 4 ∨ v = 5 ∨ v = 6 ∨ v = 7 ∨ v = 8 ∨ v = 9 by omega) with rfl | rfl | rfl | rfl | rfl | rfl | rfl | rfl | rfl | rfl
  · exact ds_k28'
  · exact ds_k29
  · exact ds_k30
  · exact ds_k31
  · exact ds_k32
  · exact ds_k33
  · exact ds_k34
  · exact ds_k35
  · exact ds_k36
  · exact ds_k37
theorem ds_k39 {v : Nat} (h : v < 6) : dw_Ci (ds_tys g) 77 (ds_ce g a) .int (39 + v) 8 := by
  rcases (show v = 0 ∨ v = 1 ∨ v = 2 ∨ v = 3 ∨ v = 4 ∨ v = 5 by omega) with rfl | rfl | rfl | rfl | rfl | rfl
  · exact ds_k39'
  · exact ds_k40
  · exact ds_k41
  · exact ds_k42
  · exact ds_k43
  · exact ds_k44
theorem ds_k47 {v : Nat} (h : v < 4) : dw_Ci (ds_tys g) 77 (ds_ce g a) .int (47 + v) 8 := by
  rcases (show v = 0 ∨ v = 1 ∨ v = 2 ∨ v = 3 by omega) with rfl | rfl | rfl | rfl
  · exact ds_k47'
  · exact ds_k48
  · exact ds_k49
  · exact ds_k50
theorem ds_ob0 : dw_Co classes 77 (ds_ce g a) 0 0 R_DS F_DS 7 (ds_fs0 a) := ⟨by decide, rfl, fun _ => rfl⟩
theorem ds_ob1 : dw_Co classes 77 (ds_ce g a) 1 1 R_Day F_Day 17 (ds_fs1 a) := ⟨by decide, rfl, fun _ => rfl⟩
theorem ds_ob2 : dw_Co classes 77 (ds_ce g a) 2 2 R_Se F_Se 3 (ds_fs2 a) := ⟨by decide, rfl, fun _ => rfl⟩
theorem ds_ob3 : dw_Co classes 77 (ds_ce g a) 3 3 R_Sh F_Sh 3 (ds_fs3 a) := ⟨by decide, rfl, fun _ => rfl⟩
theorem ds_ob4 : dw_Co classes 77 (ds_ce g a) 4 3 R_Sh F_Sh 3 (ds_fs4 a) := ⟨by decide, rfl, fun _ => rfl⟩
theorem ds_ob54 : dw_Co classes 77 (ds_ce g a) 54 4 R_Mo F_Mo 28 (ds_fs54 a) := ⟨by decide, rfl, fun _ => rfl⟩
end
abbrev ds_I (l : Launch) (D : va_G) (g : Nat → ClassId) (a : Nat → Nat) (y : MethodName) (b : ByteArray) (nL : Nat) (ty : FieldType) (fr lo : Nat) (As : List Value) (f : Nat → Nat → Nat) (post : Int32 → (Nat → Nat → Nat) → Prop) : Prop := dw_CI l lw_tbl D classes (ds_tys g) 77 (ds_ce g a) a y (Cond.code y b nL (some ty) :: ds_T) fr lo As f post
abbrev ds_L (l : Launch) (D : va_G) (g : Nat → ClassId) (a : Nat → Nat) (y : MethodName) (b : ByteArray) (nL : Nat) (fr lo : Nat) (As : List Value) (f : Nat → Nat → Nat) (post : Int64 → (Nat → Nat → Nat) → Prop) : Prop := dw_CL l lw_tbl D classes (ds_tys g) 77 (ds_ce g a) a y (Cond.code y b nL (some .long) :: ds_T) fr lo As f post
abbrev ds_V (l : Launch) (D : va_G) (g : Nat → ClassId) (a : Nat → Nat) (y : MethodName) (b : ByteArray) (nL : Nat) (fr lo : Nat) (As : List Value) (f : Nat → Nat → Nat) (post : (Nat → Nat → Nat) → Prop) : Prop := dw_CV l lw_tbl D classes (ds_tys g) 77 (ds_ce g a) a y (Cond.code y b nL none :: ds_T) fr lo As f post
end
section
/-! small rows for the walks -/
theorem dn_bc {P Q : Prop} [Decidable P] [Decidable Q] (h : P ↔ Q) : dn_b P = dn_b Q := by
  unfold dn_b
  by_cases hp : P
  · rw [if_pos hp, if_pos (h.mp hp)]
  · rw [if_neg hp, if_neg (fun q => hp (h.mpr q))]
theorem ds_le_in {x : Int32} {n : Nat} (hn : n < 2 ^ 31) : (nI 0 ≤ x ∧ x ≤ nI n) ↔ ds_in x (n + 1) := by
  unfold ds_in
  rw [Int32.le_iff_toInt_le, Int32.le_iff_toInt_le, nI_toInt hn, nI_toInt (by decide)]
  omega
theorem ds_le_in2 {x : Int32} {n : Nat} (h1 : 1 ≤ n) (hn : n < 2 ^ 31) : (nI 0 ≤ x ∧ x ≤ nI (n - 1)) ↔ ds_in x n := by
  rw [ds_le_in (by omega), show n - 1 + 1 = n by omega]
theorem ds_le_in3 {x : Int32} {n : Nat} (hn : n < 2 ^ 30) : (nI 0 ≤ x ∧ x ≤ nI n - nI 1) ↔ ds_in x n := by
  unfold ds_in
  rw [Int32.le_iff_toInt_le, Int32.le_iff_toInt_le, pk_sub_toInt hn (by decide), nI_toInt (by decide)]
  omega
theorem ds_sh {i : Nat} (h : i < 31) : 1 * 2 ^ i < 2 ^ 32 := by
  rw [Nat.one_mul]
  exact Nat.pow_lt_pow_right (by decide) (by omega)
theorem ds_a1 (x : Nat) : x &&& 1 < 2 ^ 31 := Nat.lt_of_le_of_lt Nat.and_le_right (by decide)
theorem ds_minl {x y : Nat} (hx : x < 2 ^ 63) (hy : y < 2 ^ 63) : (if lN y < lN x then lN y else lN x) = lN (min x y) := by
  by_cases h : y < x
  · rw [if_pos ((pk_lLT hy hx).mpr h), Nat.min_eq_right (by omega)]
  · rw [if_neg (fun q => h ((pk_lLT hy hx).mp q)), Nat.min_eq_left (by omega)]
theorem ds_max0 {t h : Nat} (ht : t < 2 ^ 30) (hh : h < 2 ^ 30) : (if nI 0 < nI t - nI h then nI t - nI h else nI 0) = nI (t - h) := by
  by_cases q : h ≤ t
  · rw [pk_sub q]
    by_cases z : t - h = 0
    · rw [z]
      rfl
    · rw [if_pos (nI_lt (by omega) (by omega))]
  · rw [if_neg (fun w => ?_), show t - h = 0 by omega]
    rw [Int32.lt_iff_toInt_lt, pk_sub_toInt ht hh, nI_toInt (by decide)] at w
    omega
section
variable {p : Program} {l : Launch} {e : Env} {R : Room} {s : State} {m : MethodId} {args : Array Value} {below : List Frame} {meth : Method} {c : Code} {H : Heap} {locs : List Loc} {cells slots : Nat} {Q : State → Prop} {cc : ByteArray} {pc : Nat} {ls : Array Slot} {rest : List Value}
theorem ds_topi {x w : Int32} (h : x = w) (k : W p l e R s m args below meth c H locs cells slots Q (F0 m pc ls (.int w :: rest))) : W p l e R s m args below meth c H locs cells slots Q (F0 m pc ls (.int x :: rest)) := by rw [h]; exact k
theorem ds_topl {x w : Int64} (h : x = w) (k : W p l e R s m args below meth c H locs cells slots Q (F0 m pc ls (.long w :: rest))) : W p l e R s m args below meth c H locs cells slots Q (F0 m pc ls (.long x :: rest)) := by rw [h]; exact k
theorem ds_lcmp_lt (hx : p.tables.exec = Jvm.exec) (hb : c.code = cc) {x y : Int64} {off : Int} (tgt : Nat) (hd0 : decode cc pc = .ok (.lcmp, 1)) (hdg : decode cc (pc + 1) = .ok (.ifCond .lt off, 3)) (ht : ((pc + 1 : Nat) : Int) + off = (tgt : Int)) (kt : x < y → W p l e R s m args below meth c H locs cells slots Q (F0 m tgt ls rest)) (kf : ¬ x < y → W p l e R s m args below meth c H locs cells slots Q (F0 m (pc + 4) ls rest)) : W p l e R s m args below meth c H locs cells slots Q (F0 m pc ls (.long y :: .long x :: rest)) := W.lcmp hx hb hd0 (lv_if_lt hx hb hdg ht (fun h => kt ((lg_cmp_lt _ _).mp h)) (fun h => kf (fun q => h ((lg_cmp_lt _ _).mpr q))))
theorem ds_lcmp_gt (hx : p.tables.exec = Jvm.exec) (hb : c.code = cc) {x y : Int64} {off : Int} (tgt : Nat) (hd0 : decode cc pc = .ok (.lcmp, 1)) (hdg : decode cc (pc + 1) = .ok (.ifCond .gt off, 3)) (ht : ((pc + 1 : Nat) : Int) + off = (tgt : Int)) (kt : y < x → W p l e R s m args below meth c H locs cells slots Q (F0 m tgt ls rest)) (kf : ¬ y < x → W p l e R s m args below meth c H locs cells slots Q (F0 m (pc + 4) ls rest)) : W p l e R s m args below meth c H locs cells slots Q (F0 m pc ls (.long y :: .long x :: rest)) := W.lcmp hx hb hd0 (lv_if_gt hx hb hdg ht (fun h => kt ((lg_cmp_gt _ _).mp h)) (fun h => kf (fun q => h ((lg_cmp_gt _ _).mpr q))))
end
end
section
/-! the words of each call -/
theorem cw_DS_init : dw_Cw ds_T y_DS_init b_DS_init 2 none 1 := ⟨wd_14, wd_1, by decide +kernel⟩
theorem cw_DS_isWithin : dw_Cw ds_T y_DS_isWithin b_DS_isWithin 3 (some .boolean) 3 := ⟨wd_22, wd_1, by decide +kernel⟩
theorem cw_Day_init : dw_Cw ds_T y_Day_init b_Day_init 3 none 1 := ⟨wd_25, wd_2, by decide +kernel⟩
theorem cw_Ar_fill : dw_Cw ds_T y_Ar_fill b_Ar_fill 4 none 2 := ⟨wd_31, wd_3, by decide +kernel⟩
theorem cw_Se_init : dw_Cw ds_T y_Se_init b_Se_init 2 none 1 := ⟨wd_102, wd_4, by decide +kernel⟩
theorem cw_Sh_init : dw_Cw ds_T y_Sh_init b_Sh_init 2 none 1 := ⟨wd_119, wd_5, by decide +kernel⟩
theorem cw_DS_stop : dw_Cw ds_T y_DS_stop b_DS_stop 5 (some .int) 3 := ⟨wd_160, wd_1, by decide +kernel⟩
theorem cw_Day_isVehicle : dw_Cw ds_T y_Day_isVehicle b_Day_isVehicle 2 (some .boolean) 1 := ⟨wd_164, wd_2, by decide +kernel⟩
theorem cw_DS_isPlace : dw_Cw ds_T y_DS_isPlace b_DS_isPlace 1 (some .boolean) 1 := ⟨wd_168, wd_1, by decide +kernel⟩
theorem cw_Day_tell : dw_Cw ds_T y_Day_tell b_Day_tell 5 (some .int) 3 := ⟨wd_172, wd_2, by decide +kernel⟩
theorem cw_Day_append : dw_Cw ds_T y_Day_append b_Day_append 4 none 2 := ⟨wd_176, wd_2, by decide +kernel⟩
theorem cw_DS_freeze : dw_Cw ds_T y_DS_freeze b_DS_freeze 3 (some .boolean) 2 := ⟨wd_180, wd_1, by decide +kernel⟩
theorem cw_Day_isStop : dw_Cw ds_T y_Day_isStop b_Day_isStop 2 (some .boolean) 1 := ⟨wd_184, wd_2, by decide +kernel⟩
theorem cw_DS_block : dw_Cw ds_T y_DS_block b_DS_block 3 (some .boolean) 2 := ⟨wd_188, wd_1, by decide +kernel⟩
theorem cw_DS_out : dw_Cw ds_T y_DS_out b_DS_out 3 (some .boolean) 2 := ⟨wd_192, wd_1, by decide +kernel⟩
theorem cw_DS_way : dw_Cw ds_T y_DS_way b_DS_way 4 (some .boolean) 3 := ⟨wd_196, wd_1, by decide +kernel⟩
theorem cw_DS_hours : dw_Cw ds_T y_DS_hours b_DS_hours 3 (some .boolean) 2 := ⟨wd_200, wd_1, by decide +kernel⟩
theorem cw_DS_extra : dw_Cw ds_T y_DS_extra b_DS_extra 2 (some .boolean) 1 := ⟨wd_205, wd_1, by decide +kernel⟩
theorem cw_DS_run : dw_Cw ds_T y_DS_run b_DS_run 4 (some .int) 0 := ⟨wd_209, wd_1, by decide +kernel⟩
theorem cw_Se_least : dw_Cw ds_T y_Se_least b_Se_least 4 (some .long) 0 := ⟨wd_213, wd_4, by decide +kernel⟩
theorem cw_Se_weightOf : dw_Cw ds_T y_Se_weightOf b_Se_weightOf 7 (some .long) 2 := ⟨wd_217, wd_4, by decide +kernel⟩
theorem cw_DS_isIn : dw_Cw ds_T y_DS_isIn b_DS_isIn 2 (some .boolean) 2 := ⟨wd_220, wd_1, by decide +kernel⟩
theorem cw_Day_mayHave : dw_Cw ds_T y_Day_mayHave b_Day_mayHave 3 (some .boolean) 2 := ⟨wd_224, wd_2, by decide +kernel⟩
theorem cw_Day_canDo : dw_Cw ds_T y_Day_canDo b_Day_canDo 3 (some .boolean) 2 := ⟨wd_228, wd_2, by decide +kernel⟩
theorem cw_Se_digitShift : dw_Cw ds_T y_Se_digitShift b_Se_digitShift 1 (some .int) 1 := ⟨wd_232, wd_4, by decide +kernel⟩
theorem cw_Day_timeOf : dw_Cw ds_T y_Day_timeOf b_Day_timeOf 8 (some .int) 2 := ⟨wd_237, wd_2, by decide +kernel⟩
theorem cw_Day_addRound : dw_Cw ds_T y_Day_addRound b_Day_addRound 7 (some .int) 4 := ⟨wd_241, wd_2, by decide +kernel⟩
theorem cw_Day_overHours : dw_Cw ds_T y_Day_overHours b_Day_overHours 3 (some .int) 2 := ⟨wd_246, wd_2, by decide +kernel⟩
theorem cw_Se_join : dw_Cw ds_T y_Se_join b_Se_join 6 none 1 := ⟨wd_253, wd_4, by decide +kernel⟩
theorem cw_DS_whyNoPlan : dw_Cw ds_T y_DS_whyNoPlan b_DS_whyNoPlan 2 (some .int) 0 := ⟨wd_261, wd_1, by decide +kernel⟩
theorem cw_Sh_putLatest : dw_Cw ds_T y_Sh_putLatest b_Sh_putLatest 4 none 2 := ⟨wd_266, wd_5, by decide +kernel⟩
theorem cw_Se_vehicleIn : dw_Cw ds_T y_Se_vehicleIn b_Se_vehicleIn 3 (some .int) 2 := ⟨wd_272, wd_4, by decide +kernel⟩
theorem cw_DS_movedSet : dw_Cw ds_T y_DS_movedSet b_DS_movedSet 3 (some .int) 0 := ⟨wd_276, wd_1, by decide +kernel⟩
theorem cw_In_bitCount : dw_Cw ds_T y_In_bitCount b_In_bitCount 1 (some .int) 1 := ⟨wd_279, wd_9, by decide +kernel⟩
theorem cw_DS_vehicleOf : dw_Cw ds_T y_DS_vehicleOf b_DS_vehicleOf 2 (some .int) 1 := ⟨wd_286, wd_1, by decide +kernel⟩
theorem cw_DS_place : dw_Cw ds_T y_DS_place b_DS_place 2 (some .int) 1 := ⟨wd_290, wd_1, by decide +kernel⟩
theorem cw_DS_setOf : dw_Cw ds_T y_DS_setOf b_DS_setOf 4 (some .int) 1 := ⟨wd_294, wd_1, by decide +kernel⟩
theorem cw_Day_placeInRound : dw_Cw ds_T y_Day_placeInRound b_Day_placeInRound 6 (some .int) 3 := ⟨wd_298, wd_2, by decide +kernel⟩
theorem cw_DS_moved : dw_Cw ds_T y_DS_moved b_DS_moved 2 (some .int) 1 := ⟨wd_302, wd_1, by decide +kernel⟩
theorem cw_DS_stopAt : dw_Cw ds_T y_DS_stopAt b_DS_stopAt 4 (some .int) 2 := ⟨wd_305, wd_1, by decide +kernel⟩
theorem cw_DS_carried : dw_Cw ds_T y_DS_carried b_DS_carried 2 (some .int) 1 := ⟨wd_310, wd_1, by decide +kernel⟩
theorem cw_DS_send : dw_Cw ds_T y_DS_send b_DS_send 3 (some .int) 0 := ⟨wd_314, wd_1, by decide +kernel⟩
theorem cw_DS_sent : dw_Cw ds_T y_DS_sent b_DS_sent 2 (some .int) 1 := ⟨wd_318, wd_1, by decide +kernel⟩
theorem cw_DS_undo : dw_Cw ds_T y_DS_undo b_DS_undo 4 (some .boolean) 0 := ⟨wd_322, wd_1, by decide +kernel⟩
theorem cw_DS_copy : dw_Cw ds_T y_DS_copy b_DS_copy 1 (some .int) 0 := ⟨wd_326, wd_1, by decide +kernel⟩
theorem cw_DS_compare : dw_Cw ds_T y_DS_compare b_DS_compare 5 (some .int) 2 := ⟨wd_330, wd_1, by decide +kernel⟩
theorem cw_DS_cost : dw_Cw ds_T y_DS_cost b_DS_cost 5 (some .long) 0 := ⟨wd_334, wd_1, by decide +kernel⟩
theorem cw_DS_overtime : dw_Cw ds_T y_DS_overtime b_DS_overtime 2 (some .int) 1 := ⟨wd_340, wd_1, by decide +kernel⟩
theorem cw_DS_next : dw_Cw ds_T y_DS_next b_DS_next 3 (some .int) 0 := ⟨wd_344, wd_1, by decide +kernel⟩
theorem cw_Day_prepareRow : dw_Cw ds_T y_Day_prepareRow b_Day_prepareRow 6 none 3 := ⟨wd_348, wd_2, by decide +kernel⟩
theorem cw_Day_turn : dw_Cw ds_T y_Day_turn b_Day_turn 3 none 0 := ⟨wd_352, wd_2, by decide +kernel⟩
theorem cw_La_cell : dw_Cw ds_T y_La_cell b_La_cell 2 (some .int) 2 := ⟨wd_355, wd_0, by decide +kernel⟩
theorem cw_Mo_init : dw_Cw ds_T y_Mo_init b_Mo_init 4 none 1 := ⟨wd_360, wd_6, by decide +kernel⟩
theorem cw_Mo_stop : dw_Cw ds_T y_Mo_stop b_Mo_stop 4 (some .int) 3 := ⟨wd_450, wd_6, by decide +kernel⟩
theorem cw_Mo_isVehicle : dw_Cw ds_T y_Mo_isVehicle b_Mo_isVehicle 2 (some .boolean) 1 := ⟨wd_454, wd_6, by decide +kernel⟩
theorem cw_Mo_isIn : dw_Cw ds_T y_Mo_isIn b_Mo_isIn 6 (some .boolean) 3 := ⟨wd_458, wd_6, by decide +kernel⟩
theorem cw_Mo_freeze : dw_Cw ds_T y_Mo_freeze b_Mo_freeze 3 (some .boolean) 2 := ⟨wd_463, wd_6, by decide +kernel⟩
theorem cw_Mo_isStop : dw_Cw ds_T y_Mo_isStop b_Mo_isStop 2 (some .boolean) 1 := ⟨wd_467, wd_6, by decide +kernel⟩
theorem cw_Mo_block : dw_Cw ds_T y_Mo_block b_Mo_block 3 (some .boolean) 2 := ⟨wd_471, wd_6, by decide +kernel⟩
theorem cw_Mo_out : dw_Cw ds_T y_Mo_out b_Mo_out 3 (some .boolean) 2 := ⟨wd_475, wd_6, by decide +kernel⟩
theorem cw_Mo_way : dw_Cw ds_T y_Mo_way b_Mo_way 4 (some .boolean) 3 := ⟨wd_480, wd_6, by decide +kernel⟩
theorem cw_Mo_hours : dw_Cw ds_T y_Mo_hours b_Mo_hours 3 (some .boolean) 2 := ⟨wd_484, wd_6, by decide +kernel⟩
theorem cw_Mo_extra : dw_Cw ds_T y_Mo_extra b_Mo_extra 2 (some .boolean) 1 := ⟨wd_489, wd_6, by decide +kernel⟩
theorem cw_Mo_cost : dw_Cw ds_T y_Mo_cost b_Mo_cost 1 (some .long) 0 := ⟨wd_493, wd_6, by decide +kernel⟩
theorem cw_Mo_costOf : dw_Cw ds_T y_Mo_costOf b_Mo_costOf 5 (some .long) 1 := ⟨wd_497, wd_6, by decide +kernel⟩
theorem cw_Mo_timeOf : dw_Cw ds_T y_Mo_timeOf b_Mo_timeOf 6 (some .int) 2 := ⟨wd_501, wd_6, by decide +kernel⟩
theorem cw_Mo_go : dw_Cw ds_T y_Mo_go b_Mo_go 5 none 2 := ⟨wd_505, wd_6, by decide +kernel⟩
theorem cw_Mo_overtimeOf : dw_Cw ds_T y_Mo_overtimeOf b_Mo_overtimeOf 4 (some .int) 2 := ⟨wd_509, wd_6, by decide +kernel⟩
theorem cw_Mo_overtime : dw_Cw ds_T y_Mo_overtime b_Mo_overtime 2 (some .int) 1 := ⟨wd_513, wd_6, by decide +kernel⟩
theorem cw_Mo_run : dw_Cw ds_T y_Mo_run b_Mo_run 9 (some .int) 0 := ⟨wd_517, wd_6, by decide +kernel⟩
theorem cw_Mo_movedBy : dw_Cw ds_T y_Mo_movedBy b_Mo_movedBy 4 (some .int) 1 := ⟨wd_521, wd_6, by decide +kernel⟩
theorem cw_Mo_holdsApart : dw_Cw ds_T y_Mo_holdsApart b_Mo_holdsApart 4 (some .boolean) 0 := ⟨wd_525, wd_6, by decide +kernel⟩
theorem cw_Mo_can : dw_Cw ds_T y_Mo_can b_Mo_can 3 (some .boolean) 2 := ⟨wd_529, wd_6, by decide +kernel⟩
theorem cw_Mo_holdsOvertime : dw_Cw ds_T y_Mo_holdsOvertime b_Mo_holdsOvertime 3 (some .boolean) 0 := ⟨wd_533, wd_6, by decide +kernel⟩
theorem cw_Mo_turn : dw_Cw ds_T y_Mo_turn b_Mo_turn 2 (some .boolean) 0 := ⟨wd_537, wd_6, by decide +kernel⟩
theorem cw_Mo_why : dw_Cw ds_T y_Mo_why b_Mo_why 4 (some .int) 0 := ⟨wd_541, wd_6, by decide +kernel⟩
theorem cw_Mo_keep : dw_Cw ds_T y_Mo_keep b_Mo_keep 3 none 0 := ⟨wd_545, wd_6, by decide +kernel⟩
theorem cw_Mo_undo : dw_Cw ds_T y_Mo_undo b_Mo_undo 2 (some .boolean) 0 := ⟨wd_549, wd_6, by decide +kernel⟩
theorem cw_Mo_vehicleOf : dw_Cw ds_T y_Mo_vehicleOf b_Mo_vehicleOf 2 (some .int) 1 := ⟨wd_553, wd_6, by decide +kernel⟩
theorem cw_Mo_place : dw_Cw ds_T y_Mo_place b_Mo_place 3 (some .int) 1 := ⟨wd_557, wd_6, by decide +kernel⟩
theorem cw_Mo_moved : dw_Cw ds_T y_Mo_moved b_Mo_moved 4 (some .int) 1 := ⟨wd_561, wd_6, by decide +kernel⟩
theorem cw_Mo_carried : dw_Cw ds_T y_Mo_carried b_Mo_carried 4 (some .int) 1 := ⟨wd_565, wd_6, by decide +kernel⟩
theorem cw_Mo_send : dw_Cw ds_T y_Mo_send b_Mo_send 3 (some .int) 0 := ⟨wd_569, wd_6, by decide +kernel⟩
theorem cw_Mo_sent : dw_Cw ds_T y_Mo_sent b_Mo_sent 2 (some .int) 1 := ⟨wd_573, wd_6, by decide +kernel⟩
theorem cw_Mo_copy : dw_Cw ds_T y_Mo_copy b_Mo_copy 2 (some .int) 0 := ⟨wd_577, wd_6, by decide +kernel⟩
theorem cw_Mo_compare : dw_Cw ds_T y_Mo_compare b_Mo_compare 5 (some .int) 2 := ⟨wd_581, wd_6, by decide +kernel⟩
theorem cw_Mo_next : dw_Cw ds_T y_Mo_next b_Mo_next 5 (some .int) 0 := ⟨wd_585, wd_6, by decide +kernel⟩
end
section
/-! contracts of the small methods -/
set_option maxHeartbeats 4000000 in
set_option maxRecDepth 100000 in
theorem c_isWithin (l : Launch) (D : va_G) (g : Nat → ClassId) (a : Nat → Nat) (f : Nat → Nat → Nat) (x : Int32) (y : Int32) (z : Int32)  : ds_I l D g a y_DS_isWithin b_DS_isWithin 3 .boolean 0 0 [.int x, .int y, .int z] f (fun r u => r = nI (dn_b (y ≤ x ∧ x ≤ z)) ∧ u = f) := by
  refine dw_ofI (by decide) (fun _ _ h => h.1 ▸ dn_nar) (Nat.le_of_ble_eq_true rfl) ?_
  intro p e s m args below meth c ls A Q R H locs hR hA S hN hw hl hret
  have hl : lv_has ls 3 [(0, .int x), (1, .int y), (2, .int z)] := hl
  have S : CallFix p m c b_DS_isWithin 3 s args ds_T R_DS := S
  refine lv_iload_n S.1 S.2.1 d_DS_isWithin_0 rfl (lv_at hl 0 rfl) ?_
  refine lv_iload_n S.1 S.2.1 d_DS_isWithin_1 rfl (lv_at hl 1 rfl) ?_
  refine lv_icmp_lt (tgt := 14) S.1 S.2.1 d_DS_isWithin_2 (by decide) (fun h_2 => ?_) (fun h_2 => ?_)
  · refine lv_iconst (v := nI 0) S.1 S.2.1 d_DS_isWithin_14 (by decide) ?_
    exact hret H locs _ ls _ _ hw (⟨by rw [dn_b0 (fun q => absurd q.1 (Int32.not_le.mpr h_2))], rfl⟩) d_DS_isWithin_15
  · refine lv_iload_n S.1 S.2.1 d_DS_isWithin_5 rfl (lv_at hl 0 rfl) ?_
    refine lv_iload_n S.1 S.2.1 d_DS_isWithin_6 rfl (lv_at hl 2 rfl) ?_
    refine lv_icmp_gt (tgt := 14) S.1 S.2.1 d_DS_isWithin_7 (by decide) (fun h_7 => ?_) (fun h_7 => ?_)
    · refine lv_iconst (v := nI 0) S.1 S.2.1 d_DS_isWithin_14 (by decide) ?_
      exact hret H locs _ ls _ _ hw (⟨by rw [dn_b0 (fun q => absurd q.2 (Int32.not_le.mpr h_7))], rfl⟩) d_DS_isWithin_15
    · refine lv_iconst (v := nI 1) S.1 S.2.1 d_DS_isWithin_10 (by decide) ?_
      refine lv_goto (tgt := 15) S.1 S.2.1 d_DS_isWithin_11 (by decide) ?_
      exact hret H locs _ ls _ _ hw (⟨by rw [dn_b1 ⟨Int32.not_lt.mp h_2, Int32.not_lt.mp h_7⟩], rfl⟩) d_DS_isWithin_15
set_option maxHeartbeats 4000000 in
set_option maxRecDepth 100000 in
theorem c_isPlace (l : Launch) (D : va_G) (g : Nat → ClassId) (a : Nat → Nat) (f : Nat → Nat → Nat) (x : Int32)  : ds_I l D g a y_DS_isPlace b_DS_isPlace 1 .boolean 1 22 [.int x] f (fun r u => r = nI (dn_b (ds_in x 10)) ∧ u = f) := by
  refine dw_ofI (by decide) (fun _ _ h => h.1 ▸ dn_nar) (Nat.le_of_ble_eq_true rfl) ?_
  intro p e s m args below meth c ls A Q R H locs hR hA S hN hw hl hret
  have hl : lv_has ls 1 [(0, .int x)] := hl
  have S : CallFix p m c b_DS_isPlace 1 s args ds_T R_DS := S
  refine lv_iload_n S.1 S.2.1 d_DS_isPlace_0 rfl (lv_at hl 0 rfl) ?_
  refine lv_iconst (v := nI 0) S.1 S.2.1 d_DS_isPlace_1 (by decide) ?_
  refine lv_bipush (v := nI 9) S.1 S.2.1 d_DS_isPlace_2 (by decide) ?_
  refine dw_afti hw hA (dw_runS (As := [.int x, .int (nI 0), .int (nI 9)]) (rest := []) S ds_good (c_isWithin l D g a f x (nI 0) (nI 9) H.size) cw_DS_isWithin wd_20 wd_21 dw_blind (dw_pre hw hN) rfl hl.1 rfl ⟨Nat.le_trans (Nat.le_of_ble_eq_true rfl) hR.1, Nat.le_trans (Nat.le_of_ble_eq_true rfl) hR.2⟩ (Nat.le_of_ble_eq_true rfl) ⟨Nat.zero_le _, Nat.zero_le _⟩ d_DS_isPlace_4) (fun r_4 f_1 H locs hp hw => ?_)
  obtain ⟨er, ef⟩ := hp
  subst er
  rw [ef] at hw
  exact hret H locs _ ls _ _ hw (⟨by rw [dn_bc (ds_le_in (n := 9) (by decide))], rfl⟩) d_DS_isPlace_7
set_option maxHeartbeats 4000000 in
set_option maxRecDepth 100000 in
theorem c_isVehicle (l : Launch) (D : va_G) (g : Nat → ClassId) (a : Nat → Nat) (f : Nat → Nat → Nat) (x : Int32) (hV : 1 ≤ f 1 0 ∧ f 1 0 ≤ 3) : ds_I l D g a y_Day_isVehicle b_Day_isVehicle 2 .boolean 1 22 [.ref (a 1), .int x] f (fun r u => r = nI (dn_b (ds_in x (f 1 0))) ∧ u = f) := by
  refine dw_ofI (by decide) (fun _ _ h => h.1 ▸ dn_nar) (Nat.le_of_ble_eq_true rfl) ?_
  intro p e s m args below meth c ls A Q R H locs hR hA S hN hw hl hret
  have hl : lv_has ls 2 [(0, .ref (a 1)), (1, .int x)] := hl
  have S : CallFix p m c b_Day_isVehicle 2 s args ds_T R_Day := S
  refine lv_iload_n S.1 S.2.1 d_Day_isVehicle_0 rfl (lv_at hl 1 rfl) ?_
  refine lv_iconst (v := nI 0) S.1 S.2.1 d_Day_isVehicle_1 (by decide) ?_
  refine lv_aload_n S.1 S.2.1 d_Day_isVehicle_2 rfl (lv_at hl 0 rfl) ?_
  refine dw_getf (fi := 0) (v := .int (nI (f 1 0))) S hw i_Day ds_ob1 (by decide) rfl wd_32 rfl d_Day_isVehicle_3 ?_
  refine lv_iconst (v := nI 1) S.1 S.2.1 d_Day_isVehicle_6 (by decide) ?_
  refine dn_isub S.1 S.2.1 (by omega) d_Day_isVehicle_7 ?_
  refine dw_afti hw hA (dw_runSN (As := [.int x, .int (nI 0), .int (nI ((f 1 0) - 1))]) (rest := []) S ds_good (c_isWithin l D g a f x (nI 0) (nI ((f 1 0) - 1)) H.size) cw_DS_isWithin hN wd_165 wd_21 dw_blind (dw_pre hw hN) rfl hl.1 rfl ⟨Nat.le_trans (Nat.le_of_ble_eq_true rfl) hR.1, Nat.le_trans (Nat.le_of_ble_eq_true rfl) hR.2⟩ (Nat.le_of_ble_eq_true rfl) ⟨Nat.zero_le _, Nat.zero_le _⟩ d_Day_isVehicle_8) (fun r_8 f_1 H locs hp hw => ?_)
  obtain ⟨er, ef⟩ := hp
  subst er
  rw [ef] at hw
  exact hret H locs _ ls _ _ hw (⟨by rw [dn_bc (ds_le_in2 hV.1 (by omega))], rfl⟩) d_Day_isVehicle_11
set_option maxHeartbeats 4000000 in
set_option maxRecDepth 100000 in
theorem c_isStop (l : Launch) (D : va_G) (g : Nat → ClassId) (a : Nat → Nat) (f : Nat → Nat → Nat) (x : Int32) (hn : f 1 1 ≤ 8) : ds_I l D g a y_Day_isStop b_Day_isStop 2 .boolean 1 22 [.ref (a 1), .int x] f (fun r u => r = nI (dn_b (ds_in x (f 1 1))) ∧ u = f) := by
  refine dw_ofI (by decide) (fun _ _ h => h.1 ▸ dn_nar) (Nat.le_of_ble_eq_true rfl) ?_
  intro p e s m args below meth c ls A Q R H locs hR hA S hN hw hl hret
  have hl : lv_has ls 2 [(0, .ref (a 1)), (1, .int x)] := hl
  have S : CallFix p m c b_Day_isStop 2 s args ds_T R_Day := S
  refine lv_iload_n S.1 S.2.1 d_Day_isStop_0 rfl (lv_at hl 1 rfl) ?_
  refine lv_iconst (v := nI 0) S.1 S.2.1 d_Day_isStop_1 (by decide) ?_
  refine lv_aload_n S.1 S.2.1 d_Day_isStop_2 rfl (lv_at hl 0 rfl) ?_
  refine dw_getf (fi := 1) (v := .int (nI (f 1 1))) S hw i_Day ds_ob1 (by decide) rfl wd_37 rfl d_Day_isStop_3 ?_
  refine lv_iconst (v := nI 1) S.1 S.2.1 d_Day_isStop_6 (by decide) ?_
  refine lv_isub S.1 S.2.1 d_Day_isStop_7 ?_
  refine dw_afti hw hA (dw_runSN (As := [.int x, .int (nI 0), .int ((nI (f 1 1)) - (nI 1))]) (rest := []) S ds_good (c_isWithin l D g a f x (nI 0) ((nI (f 1 1)) - (nI 1)) H.size) cw_DS_isWithin hN wd_165 wd_21 dw_blind (dw_pre hw hN) rfl hl.1 rfl ⟨Nat.le_trans (Nat.le_of_ble_eq_true rfl) hR.1, Nat.le_trans (Nat.le_of_ble_eq_true rfl) hR.2⟩ (Nat.le_of_ble_eq_true rfl) ⟨Nat.zero_le _, Nat.zero_le _⟩ d_Day_isStop_8) (fun r_8 f_1 H locs hp hw => ?_)
  obtain ⟨er, ef⟩ := hp
  subst er
  rw [ef] at hw
  exact hret H locs _ ls _ _ hw (⟨by rw [dn_bc (ds_le_in3 (by omega))], rfl⟩) d_Day_isStop_11
set_option maxHeartbeats 4000000 in
set_option maxRecDepth 100000 in
theorem c_isIn (l : Launch) (D : va_G) (g : Nat → ClassId) (a : Nat → Nat) (f : Nat → Nat → Nat) (t : Nat) (i : Nat) (ht : t < 2 ^ 31) (hi : i < 32) : ds_I l D g a y_DS_isIn b_DS_isIn 2 .boolean 0 0 [.int (nI t), .int (nI i)] f (fun r u => r = nI (dn_b (t.testBit i = true)) ∧ u = f) := by
  refine dw_ofI (by decide) (fun _ _ h => h.1 ▸ dn_nar) (Nat.le_of_ble_eq_true rfl) ?_
  intro p e s m args below meth c ls A Q R H locs hR hA S hN hw hl hret
  have hl : lv_has ls 2 [(0, .int (nI t)), (1, .int (nI i))] := hl
  have S : CallFix p m c b_DS_isIn 2 s args ds_T R_DS := S
  refine lv_iload_n S.1 S.2.1 d_DS_isIn_0 rfl (lv_at hl 0 rfl) ?_
  refine lv_iload_n S.1 S.2.1 d_DS_isIn_1 rfl (lv_at hl 1 rfl) ?_
  refine dn_ishr S.1 S.2.1 hi ht d_DS_isIn_2 ?_
  refine lv_iconst (v := nI 1) S.1 S.2.1 d_DS_isIn_3 (by decide) ?_
  refine dn_iand S.1 S.2.1 d_DS_isIn_4 ?_
  refine lv_iconst (v := nI 1) S.1 S.2.1 d_DS_isIn_5 (by decide) ?_
  refine dn_icmp_ne S.1 S.2.1 13 (ds_a1 _) (by decide) d_DS_isIn_6 (by decide) (fun h_6 => ?_) (fun h_6 => ?_)
  · refine lv_iconst (v := nI 0) S.1 S.2.1 d_DS_isIn_13 (by decide) ?_
    exact hret H locs _ ls _ _ hw (⟨by rw [dn_b0 (fun q => h_6 ((ds_tb t i).mpr q))], rfl⟩) d_DS_isIn_14
  · refine lv_iconst (v := nI 1) S.1 S.2.1 d_DS_isIn_9 (by decide) ?_
    refine lv_goto (tgt := 14) S.1 S.2.1 d_DS_isIn_10 (by decide) ?_
    exact hret H locs _ ls _ _ hw (⟨by rw [dn_b1 ((ds_tb t i).mp h_6)], rfl⟩) d_DS_isIn_14
set_option maxHeartbeats 4000000 in
set_option maxRecDepth 100000 in
theorem c_digitShift (l : Launch) (D : va_G) (g : Nat → ClassId) (a : Nat → Nat) (f : Nat → Nat → Nat) (i : Nat) (hi : i < 8) : ds_I l D g a y_Se_digitShift b_Se_digitShift 1 .int 0 0 [.int (nI i)] f (fun r u => r = nI (2 * (7 - i)) ∧ u = f) := by
  refine dw_ofI (by decide) (fun _ _ _ => rfl) (Nat.le_of_ble_eq_true rfl) ?_
  intro p e s m args below meth c ls A Q R H locs hR hA S hN hw hl hret
  have hl : lv_has ls 1 [(0, .int (nI i))] := hl
  have S : CallFix p m c b_Se_digitShift 1 s args ds_T R_Se := S
  refine lv_iconst (v := nI 2) S.1 S.2.1 d_Se_digitShift_0 (by decide) ?_
  refine lv_bipush (v := nI 7) S.1 S.2.1 d_Se_digitShift_1 (by decide) ?_
  refine lv_iload_n S.1 S.2.1 d_Se_digitShift_3 rfl (lv_at hl 0 rfl) ?_
  refine dn_isub S.1 S.2.1 (by omega) d_Se_digitShift_4 ?_
  refine dn_imul S.1 S.2.1 d_Se_digitShift_5 ?_
  exact hret H locs _ ls _ _ hw (⟨rfl, rfl⟩) d_Se_digitShift_6
set_option maxHeartbeats 4000000 in
set_option maxRecDepth 100000 in
theorem c_setOf (l : Launch) (D : va_G) (g : Nat → ClassId) (a : Nat → Nat) (f : Nat → Nat → Nat) (v : Nat) (hn : f 1 1 ≤ 8) (hv : v < 2 ^ 31) (hp : ∀ s, s < f 1 1 → f 5 s < 2 ^ 31) : ds_I l D g a y_DS_setOf b_DS_setOf 4 .int 0 0 [.ref (a 0), .int (nI v)] f (fun r u => r = nI (ds_bits (fun s => f 5 s == v) (f 1 1)) ∧ u = f) := by
  refine dw_ofI (by decide) (fun _ _ _ => rfl) (Nat.le_of_ble_eq_true rfl) ?_
  intro p e s m args below meth c ls A Q R H locs hR hA S hN hw hl hret
  have hl : lv_has ls 4 [(0, .ref (a 0)), (1, .int (nI v))] := hl
  have S : CallFix p m c b_DS_setOf 4 s args ds_T R_DS := S
  refine lv_iconst (v := nI 0) S.1 S.2.1 d_DS_setOf_0 (by decide) ?_
  refine lv_istore_n (lv' := [(2, .int (nI 0)), (0, .ref (a 0)), (1, .int (nI v))]) S.1 S.2.1 d_DS_setOf_1 rfl hl (by decide) rfl (fun ls hl => ?_)
  refine lv_iconst (v := nI 0) S.1 S.2.1 d_DS_setOf_2 (by decide) ?_
  refine lv_istore_n (lv' := [(3, .int (nI 0)), (2, .int (nI 0)), (0, .ref (a 0)), (1, .int (nI v))]) S.1 S.2.1 d_DS_setOf_3 rfl hl (by decide) rfl (fun ls hl => ?_)
  have loop_4 : ∀ (n : Nat) (t : Nat) (i : Nat) (hi : i ≤ f 1 1) (et : t = ds_bits (fun s => f 5 s == v) i) (_ : f 1 1 - i < n) (H : Heap) (locs : List Loc), dw_W D classes (ds_tys g) A s.heap (dw_l 77 (ds_ce g a) a f) s H locs → ∀ (ls : Array Slot), lv_has ls 4 [(0, .ref (a 0)), (1, .int (nI v)), (2, .int (nI t)), (3, .int (nI i))] → W p l e R s m args below meth c H locs 0 0 Q (F0 m 4 ls []) := by
    intro n
    induction n with
    | zero => intro t i hi et h9; exact absurd h9 (Nat.not_lt_zero _)
    | succ n ih_4 =>
      intro t i hi et hm_4 H locs hw ls hl
      refine lv_iload_n S.1 S.2.1 d_DS_setOf_4 rfl (lv_at hl 3 rfl) ?_
      refine lv_aload_n S.1 S.2.1 d_DS_setOf_5 rfl (lv_at hl 0 rfl) ?_
      refine dw_getf (fi := 0) (v := .ref (a 1)) S hw i_DS ds_ob0 (by decide) rfl wd_135 rfl d_DS_setOf_6 ?_
      refine dw_getN (fi := 1) (v := .int (nI (f 1 1))) S hw i_Day ds_ob1 (by decide) rfl hN wd_35 rfl d_DS_setOf_9 ?_
      refine dn_icmp_ge S.1 S.2.1 37 (by omega) (by omega) d_DS_setOf_12 (by decide) (fun h_12 => ?_) (fun h_12 => ?_)
      · refine lv_iload_n S.1 S.2.1 d_DS_setOf_37 rfl (lv_at hl 2 rfl) ?_
        exact hret H locs _ ls _ _ hw (⟨by rw [et, show i = f 1 1 by omega], rfl⟩) d_DS_setOf_38
      · refine lv_aload_n S.1 S.2.1 d_DS_setOf_15 rfl (lv_at hl 0 rfl) ?_
        refine dw_getf (fi := 4) (v := .ref (a 5)) S hw i_DS ds_ob0 (by decide) rfl wd_139 rfl d_DS_setOf_16 ?_
        refine lv_iload_n S.1 S.2.1 d_DS_setOf_19 rfl (lv_at hl 3 rfl) ?_
        refine dw_iald S.1 S.2.1 hw ds_k5 (by omega) d_DS_setOf_20 ?_
        refine lv_iload_n S.1 S.2.1 d_DS_setOf_21 rfl (lv_at hl 1 rfl) ?_
        refine dn_icmp_ne S.1 S.2.1 31 (hp i h_12) hv d_DS_setOf_22 (by decide) (fun h_22 => ?_) (fun h_22 => ?_)
        · refine lv_iinc (v := nI (i + 1)) (lv' := [(3, .int (nI (i + 1))), (0, .ref (a 0)), (1, .int (nI v)), (2, .int (nI t))]) S.1 S.2.1 d_DS_setOf_31 hl (k := 3) rfl (by rw [show Int32.ofInt 1 = nI 1 from rfl, nI_add]) (by decide) rfl (fun ls hl => ?_)
          refine lv_goto (tgt := 4) S.1 S.2.1 d_DS_setOf_34 (by decide) ?_
          exact ih_4 t (i + 1) (by omega) (by rw [et]; simp [ds_bits, h_22]) (by omega) H locs hw ls (lv_sub hl [1, 2, 3, 0] rfl)
        · refine lv_iload_n S.1 S.2.1 d_DS_setOf_25 rfl (lv_at hl 2 rfl) ?_
          refine lv_iconst (v := nI 1) S.1 S.2.1 d_DS_setOf_26 (by decide) ?_
          refine lv_iload_n S.1 S.2.1 d_DS_setOf_27 rfl (lv_at hl 3 rfl) ?_
          refine dn_ishl S.1 S.2.1 (by omega) (ds_sh (by omega)) d_DS_setOf_28 ?_
          refine dn_ior S.1 S.2.1 d_DS_setOf_29 ?_
          refine lv_istore_n (lv' := [(2, .int (nI (t ||| (1 * 2 ^ i)))), (0, .ref (a 0)), (1, .int (nI v)), (3, .int (nI i))]) S.1 S.2.1 d_DS_setOf_30 rfl hl (by decide) rfl (fun ls hl => ?_)
          refine lv_iinc (v := nI (i + 1)) (lv' := [(3, .int (nI (i + 1))), (2, .int (nI (t ||| (1 * 2 ^ i)))), (0, .ref (a 0)), (1, .int (nI v))]) S.1 S.2.1 d_DS_setOf_31 hl (k := 3) rfl (by rw [show Int32.ofInt 1 = nI 1 from rfl, nI_add]) (by decide) rfl (fun ls hl => ?_)
          refine lv_goto (tgt := 4) S.1 S.2.1 d_DS_setOf_34 (by decide) ?_
          exact ih_4 (t ||| (1 * 2 ^ i)) (i + 1) (by omega) (by rw [et]; simp [ds_bits, h_22]) (by omega) H locs hw ls (lv_sub hl [2, 3, 1, 0] rfl)
  exact loop_4 _ 0 0 (Nat.zero_le _) (rfl) (Nat.lt_succ_self _) H locs hw ls (lv_sub hl [2, 3, 1, 0] rfl)
set_option maxHeartbeats 4000000 in
set_option maxRecDepth 100000 in
theorem c_movedSet (l : Launch) (D : va_G) (g : Nat → ClassId) (a : Nat → Nat) (f : Nat → Nat → Nat)  (hn : f 1 1 ≤ 8) (hp : ∀ s, s < f 1 1 → f 5 s < 2 ^ 31 ∧ f 10 s < 2 ^ 31) : ds_I l D g a y_DS_movedSet b_DS_movedSet 3 .int 0 0 [.ref (a 0)] f (fun r u => r = nI (ds_bits (fun s => f 5 s != f 10 s) (f 1 1)) ∧ u = f) := by
  refine dw_ofI (by decide) (fun _ _ _ => rfl) (Nat.le_of_ble_eq_true rfl) ?_
  intro p e s m args below meth c ls A Q R H locs hR hA S hN hw hl hret
  have hl : lv_has ls 3 [(0, .ref (a 0))] := hl
  have S : CallFix p m c b_DS_movedSet 3 s args ds_T R_DS := S
  refine lv_iconst (v := nI 0) S.1 S.2.1 d_DS_movedSet_0 (by decide) ?_
  refine lv_istore_n (lv' := [(1, .int (nI 0)), (0, .ref (a 0))]) S.1 S.2.1 d_DS_movedSet_1 rfl hl (by decide) rfl (fun ls hl => ?_)
  refine lv_iconst (v := nI 0) S.1 S.2.1 d_DS_movedSet_2 (by decide) ?_
  refine lv_istore_n (lv' := [(2, .int (nI 0)), (1, .int (nI 0)), (0, .ref (a 0))]) S.1 S.2.1 d_DS_movedSet_3 rfl hl (by decide) rfl (fun ls hl => ?_)
  have loop_4 : ∀ (n : Nat) (t : Nat) (i : Nat) (hi : i ≤ f 1 1) (et : t = ds_bits (fun s => f 5 s != f 10 s) i) (_ : f 1 1 - i < n) (H : Heap) (locs : List Loc), dw_W D classes (ds_tys g) A s.heap (dw_l 77 (ds_ce g a) a f) s H locs → ∀ (ls : Array Slot), lv_has ls 3 [(0, .ref (a 0)), (1, .int (nI t)), (2, .int (nI i))] → W p l e R s m args below meth c H locs 0 0 Q (F0 m 4 ls []) := by
    intro n
    induction n with
    | zero => intro t i hi et h9; exact absurd h9 (Nat.not_lt_zero _)
    | succ n ih_4 =>
      intro t i hi et hm_4 H locs hw ls hl
      refine lv_iload_n S.1 S.2.1 d_DS_movedSet_4 rfl (lv_at hl 2 rfl) ?_
      refine lv_aload_n S.1 S.2.1 d_DS_movedSet_5 rfl (lv_at hl 0 rfl) ?_
      refine dw_getf (fi := 0) (v := .ref (a 1)) S hw i_DS ds_ob0 (by decide) rfl wd_135 rfl d_DS_movedSet_6 ?_
      refine dw_getN (fi := 1) (v := .int (nI (f 1 1))) S hw i_Day ds_ob1 (by decide) rfl hN wd_35 rfl d_DS_movedSet_9 ?_
      refine dn_icmp_ge S.1 S.2.1 45 (by omega) (by omega) d_DS_movedSet_12 (by decide) (fun h_12 => ?_) (fun h_12 => ?_)
      · refine lv_iload_n S.1 S.2.1 d_DS_movedSet_45 rfl (lv_at hl 1 rfl) ?_
        exact hret H locs _ ls _ _ hw (⟨by rw [et, show i = f 1 1 by omega], rfl⟩) d_DS_movedSet_46
      · refine lv_aload_n S.1 S.2.1 d_DS_movedSet_15 rfl (lv_at hl 0 rfl) ?_
        refine dw_getf (fi := 4) (v := .ref (a 5)) S hw i_DS ds_ob0 (by decide) rfl wd_139 rfl d_DS_movedSet_16 ?_
        refine lv_iload_n S.1 S.2.1 d_DS_movedSet_19 rfl (lv_at hl 2 rfl) ?_
        refine dw_iald S.1 S.2.1 hw ds_k5 (by omega) d_DS_movedSet_20 ?_
        refine lv_aload_n S.1 S.2.1 d_DS_movedSet_21 rfl (lv_at hl 0 rfl) ?_
        refine dw_getf (fi := 0) (v := .ref (a 1)) S hw i_DS ds_ob0 (by decide) rfl wd_135 rfl d_DS_movedSet_22 ?_
        refine dw_getN (fi := 4) (v := .ref (a 10)) S hw i_Day ds_ob1 (by decide) rfl hN wd_42 rfl d_DS_movedSet_25 ?_
        refine lv_iload_n S.1 S.2.1 d_DS_movedSet_28 rfl (lv_at hl 2 rfl) ?_
        refine dw_iald S.1 S.2.1 hw ds_k10 (by omega) d_DS_movedSet_29 ?_
        refine dn_icmp_eq S.1 S.2.1 39 (hp i h_12).1 (hp i h_12).2 d_DS_movedSet_30 (by decide) (fun h_30 => ?_) (fun h_30 => ?_)
        · refine lv_iinc (v := nI (i + 1)) (lv' := [(2, .int (nI (i + 1))), (0, .ref (a 0)), (1, .int (nI t))]) S.1 S.2.1 d_DS_movedSet_39 hl (k := 2) rfl (by rw [show Int32.ofInt 1 = nI 1 from rfl, nI_add]) (by decide) rfl (fun ls hl => ?_)
          refine lv_goto (tgt := 4) S.1 S.2.1 d_DS_movedSet_42 (by decide) ?_
          exact ih_4 t (i + 1) (by omega) (by rw [et]; simp [ds_bits, h_30]) (by omega) H locs hw ls (lv_sub hl [1, 2, 0] rfl)
        · refine lv_iload_n S.1 S.2.1 d_DS_movedSet_33 rfl (lv_at hl 1 rfl) ?_
          refine lv_iconst (v := nI 1) S.1 S.2.1 d_DS_movedSet_34 (by decide) ?_
          refine lv_iload_n S.1 S.2.1 d_DS_movedSet_35 rfl (lv_at hl 2 rfl) ?_
          refine dn_ishl S.1 S.2.1 (by omega) (ds_sh (by omega)) d_DS_movedSet_36 ?_
          refine dn_ior S.1 S.2.1 d_DS_movedSet_37 ?_
          refine lv_istore_n (lv' := [(1, .int (nI (t ||| (1 * 2 ^ i)))), (0, .ref (a 0)), (2, .int (nI i))]) S.1 S.2.1 d_DS_movedSet_38 rfl hl (by decide) rfl (fun ls hl => ?_)
          refine lv_iinc (v := nI (i + 1)) (lv' := [(2, .int (nI (i + 1))), (1, .int (nI (t ||| (1 * 2 ^ i)))), (0, .ref (a 0))]) S.1 S.2.1 d_DS_movedSet_39 hl (k := 2) rfl (by rw [show Int32.ofInt 1 = nI 1 from rfl, nI_add]) (by decide) rfl (fun ls hl => ?_)
          refine lv_goto (tgt := 4) S.1 S.2.1 d_DS_movedSet_42 (by decide) ?_
          exact ih_4 (t ||| (1 * 2 ^ i)) (i + 1) (by omega) (by rw [et]; simp [ds_bits, h_30]) (by omega) H locs hw ls (lv_sub hl [2, 1, 0] rfl)
  exact loop_4 _ 0 0 (Nat.zero_le _) (rfl) (Nat.lt_succ_self _) H locs hw ls (lv_sub hl [2, 1, 0] rfl)
set_option maxHeartbeats 4000000 in
set_option maxRecDepth 100000 in
theorem c_stopAt (l : Launch) (D : va_G) (g : Nat → ClassId) (a : Nat → Nat) (f : Nat → Nat → Nat) (t : Nat) (k : Int32) (ht : t < 2 ^ 31) : ds_I l D g a y_DS_stopAt b_DS_stopAt 4 .int 1 21 [.int (nI t), .int k] f (fun r u => r = ds_find (fun s => t.testBit s) k 8 0 0 ∧ u = f) := by
  refine dw_ofI (by decide) (fun _ _ _ => rfl) (Nat.le_of_ble_eq_true rfl) ?_
  intro p e s m args below meth c ls A Q R H locs hR hA S hN hw hl hret
  have hl : lv_has ls 4 [(0, .int (nI t)), (1, .int k)] := hl
  have S : CallFix p m c b_DS_stopAt 4 s args ds_T R_DS := S
  refine lv_iconst (v := nI 0) S.1 S.2.1 d_DS_stopAt_0 (by decide) ?_
  refine lv_istore_n (lv' := [(2, .int (nI 0)), (0, .int (nI t)), (1, .int k)]) S.1 S.2.1 d_DS_stopAt_1 rfl hl (by decide) rfl (fun ls hl => ?_)
  refine lv_iconst (v := nI 0) S.1 S.2.1 d_DS_stopAt_2 (by decide) ?_
  refine lv_istore_n (lv' := [(3, .int (nI 0)), (2, .int (nI 0)), (0, .int (nI t)), (1, .int k)]) S.1 S.2.1 d_DS_stopAt_3 rfl hl (by decide) rfl (fun ls hl => ?_)
  have loop_4 : ∀ (n : Nat) (b : Nat) (i : Nat) (hi : i ≤ 8) (hE : ds_find (fun s => t.testBit s) k 8 0 0 = ds_find (fun s => t.testBit s) k (8 - i) i b) (_ : 8 - i < n) (H : Heap) (locs : List Loc), dw_W D classes (ds_tys g) A s.heap (dw_l 77 (ds_ce g a) a f) s H locs → ∀ (ls : Array Slot), lv_has ls 4 [(0, .int (nI t)), (1, .int k), (2, .int (nI b)), (3, .int (nI i))] → W p l e R s m args below meth c H locs 0 0 Q (F0 m 4 ls []) := by
    intro n
    induction n with
    | zero => intro b i hi hE h9; exact absurd h9 (Nat.not_lt_zero _)
    | succ n ih_4 =>
      intro b i hi hE hm_4 H locs hw ls hl
      refine lv_iload_n S.1 S.2.1 d_DS_stopAt_4 rfl (lv_at hl 3 rfl) ?_
      refine lv_bipush (v := nI 8) S.1 S.2.1 d_DS_stopAt_5 (by decide) ?_
      refine dn_icmp_ge S.1 S.2.1 34 (by omega) (by decide) d_DS_stopAt_7 (by decide) (fun h_7 => ?_) (fun h_7 => ?_)
      · refine lv_iconst (v := (-1)) S.1 S.2.1 d_DS_stopAt_34 (by decide) ?_
        exact hret H locs _ ls _ _ hw (⟨by rw [hE, show 8 - i = 0 by omega]; rfl, rfl⟩) d_DS_stopAt_35
      · refine lv_iload_n S.1 S.2.1 d_DS_stopAt_10 rfl (lv_at hl 0 rfl) ?_
        refine lv_iload_n S.1 S.2.1 d_DS_stopAt_11 rfl (lv_at hl 3 rfl) ?_
        refine dw_afti hw hA (dw_runS (As := [.int (nI t), .int (nI i)]) (rest := []) S ds_good (c_isIn l D g a f t i (ht) (by omega) H.size) cw_DS_isIn wd_306 wd_219 dw_blind (dw_pre hw hN) rfl hl.1 rfl ⟨Nat.le_trans (Nat.le_of_ble_eq_true rfl) hR.1, Nat.le_trans (Nat.le_of_ble_eq_true rfl) hR.2⟩ (Nat.le_of_ble_eq_true rfl) ⟨Nat.zero_le _, Nat.zero_le _⟩ d_DS_stopAt_12) (fun r_12 f_1 H locs hp hw => ?_)
        obtain ⟨er, ef⟩ := hp
        subst er
        rw [ef] at hw
        refine dn_ifb_eq S.1 S.2.1 28 d_DS_stopAt_15 (by decide) (fun h_15 => ?_) (fun h_15 => ?_)
        · refine lv_iinc (v := nI (i + 1)) (lv' := [(3, .int (nI (i + 1))), (0, .int (nI t)), (1, .int k), (2, .int (nI b))]) S.1 S.2.1 d_DS_stopAt_28 hl (k := 3) rfl (by rw [show Int32.ofInt 1 = nI 1 from rfl, nI_add]) (by decide) rfl (fun ls hl => ?_)
          refine lv_goto (tgt := 4) S.1 S.2.1 d_DS_stopAt_31 (by decide) ?_
          exact ih_4 b (i + 1) (by omega) (by rw [hE, show 8 - i = (8 - (i + 1)) + 1 by omega]; simp [ds_find, h_15]) (by omega) H locs hw ls (lv_sub hl [1, 2, 3, 0] rfl)
        · refine lv_iload_n S.1 S.2.1 d_DS_stopAt_18 rfl (lv_at hl 2 rfl) ?_
          refine lv_iload_n S.1 S.2.1 d_DS_stopAt_19 rfl (lv_at hl 1 rfl) ?_
          refine lv_icmp_ne (tgt := 25) S.1 S.2.1 d_DS_stopAt_20 (by decide) (fun h_20 => ?_) (fun h_20 => ?_)
          · refine lv_iinc (v := nI (b + 1)) (lv' := [(2, .int (nI (b + 1))), (0, .int (nI t)), (1, .int k), (3, .int (nI i))]) S.1 S.2.1 d_DS_stopAt_25 hl (k := 2) rfl (by rw [show Int32.ofInt 1 = nI 1 from rfl, nI_add]) (by decide) rfl (fun ls hl => ?_)
            refine lv_iinc (v := nI (i + 1)) (lv' := [(3, .int (nI (i + 1))), (2, .int (nI (b + 1))), (0, .int (nI t)), (1, .int k)]) S.1 S.2.1 d_DS_stopAt_28 hl (k := 3) rfl (by rw [show Int32.ofInt 1 = nI 1 from rfl, nI_add]) (by decide) rfl (fun ls hl => ?_)
            refine lv_goto (tgt := 4) S.1 S.2.1 d_DS_stopAt_31 (by decide) ?_
            exact ih_4 (b + 1) (i + 1) (by omega) (by rw [hE, show 8 - i = (8 - (i + 1)) + 1 by omega]; simp [ds_find, h_15, h_20]) (by omega) H locs hw ls (lv_sub hl [2, 3, 1, 0] rfl)
          · refine lv_iload_n S.1 S.2.1 d_DS_stopAt_23 rfl (lv_at hl 3 rfl) ?_
            exact hret H locs _ ls _ _ hw (⟨by rw [hE, show 8 - i = (8 - (i + 1)) + 1 by omega]; simp [ds_find, h_15, h_20], rfl⟩) d_DS_stopAt_24
  exact loop_4 _ 0 0 (by decide) (rfl) (Nat.lt_succ_self _) H locs hw ls (lv_sub hl [2, 3, 1, 0] rfl)
end
section
/-! contracts of Day -/
set_option maxHeartbeats 4000000 in
set_option maxRecDepth 100000 in
theorem c_append (l : Launch) (D : va_G) (g : Nat → ClassId) (a : Nat → Nat) (f : Nat → Nat → Nat) (x : Nat) (v : Nat) (hx : x < 8) (hv : v < 3) (hr : f 15 v < 8) : ds_V l D g a y_Day_append b_Day_append 4 0 0 [.ref (a 1), .int (nI x), .int (nI v)] f (fun u => u = ds_app f x v) := by
  refine dw_ofV (by decide) (Nat.le_of_ble_eq_true rfl) ?_
  intro p e s m args below meth c ls A Q R H locs hR hA S hN hw hl hret
  have hl : lv_has ls 4 [(0, .ref (a 1)), (1, .int (nI x)), (2, .int (nI v))] := hl
  have S : CallFix p m c b_Day_append 4 s args ds_T R_Day := S
  refine lv_aload_n S.1 S.2.1 d_Day_append_0 rfl (lv_at hl 0 rfl) ?_
  refine dw_getf (fi := 9) (v := .ref (a 15)) S hw i_Day ds_ob1 (by decide) rfl wd_49 rfl d_Day_append_1 ?_
  refine lv_iload_n S.1 S.2.1 d_Day_append_4 rfl (lv_at hl 2 rfl) ?_
  refine dw_iald S.1 S.2.1 hw ds_k15 (by omega) d_Day_append_5 ?_
  refine lv_istore_n (lv' := [(3, .int (nI (f 15 v))), (0, .ref (a 1)), (1, .int (nI x)), (2, .int (nI v))]) S.1 S.2.1 d_Day_append_6 rfl hl (by decide) rfl (fun ls hl => ?_)
  refine lv_aload_n S.1 S.2.1 d_Day_append_7 rfl (lv_at hl 1 rfl) ?_
  refine dw_getf (fi := 8) (v := .ref (a 14)) S hw i_Day ds_ob1 (by decide) rfl wd_48 rfl d_Day_append_8 ?_
  refine lv_iload_n S.1 S.2.1 d_Day_append_11 rfl (lv_at hl 3 rfl) ?_
  refine dw_aald S.1 S.2.1 hw ds_k14 (by omega) d_Day_append_12 ?_
  refine lv_iload_n S.1 S.2.1 d_Day_append_13 rfl (lv_at hl 0 rfl) ?_
  refine lv_iload_n S.1 S.2.1 d_Day_append_14 rfl (lv_at hl 2 rfl) ?_
  refine dw_iast S.1 S.2.1 hw (ds_k22 (by omega)) (by omega) d_Day_append_15 (fun f_1 H locs ef_1 hw => ?_)
  refine lv_aload_n S.1 S.2.1 d_Day_append_16 rfl (lv_at hl 1 rfl) ?_
  refine dw_getf (fi := 4) (v := .ref (a 10)) S hw i_Day ds_ob1 (by decide) rfl wd_40 rfl d_Day_append_17 ?_
  refine lv_iload_n S.1 S.2.1 d_Day_append_20 rfl (lv_at hl 2 rfl) ?_
  refine lv_iload_n S.1 S.2.1 d_Day_append_21 rfl (lv_at hl 3 rfl) ?_
  refine dw_iast S.1 S.2.1 hw ds_k10 (by omega) d_Day_append_22 (fun f_2 H locs ef_2 hw => ?_)
  refine lv_aload_n S.1 S.2.1 d_Day_append_23 rfl (lv_at hl 1 rfl) ?_
  refine dw_getf (fi := 5) (v := .ref (a 11)) S hw i_Day ds_ob1 (by decide) rfl wd_43 rfl d_Day_append_24 ?_
  refine lv_iload_n S.1 S.2.1 d_Day_append_27 rfl (lv_at hl 2 rfl) ?_
  refine lv_iload_n S.1 S.2.1 d_Day_append_28 rfl (lv_at hl 0 rfl) ?_
  refine dw_iast S.1 S.2.1 hw ds_k11 (by omega) d_Day_append_29 (fun f_3 H locs ef_3 hw => ?_)
  refine lv_aload_n S.1 S.2.1 d_Day_append_30 rfl (lv_at hl 1 rfl) ?_
  refine dw_getf (fi := 9) (v := .ref (a 15)) S hw i_Day ds_ob1 (by decide) rfl wd_49 rfl d_Day_append_31 ?_
  refine lv_iload_n S.1 S.2.1 d_Day_append_34 rfl (lv_at hl 3 rfl) ?_
  refine lv_iload_n S.1 S.2.1 d_Day_append_35 rfl (lv_at hl 0 rfl) ?_
  refine lv_iconst (v := nI 1) S.1 S.2.1 d_Day_append_36 (by decide) ?_
  refine dn_iadd S.1 S.2.1 d_Day_append_37 ?_
  refine dw_iast S.1 S.2.1 hw ds_k15 (by omega) d_Day_append_38 (fun f_4 H locs ef_4 hw => ?_)
  exact hret H locs _ ls _  hw (by rw [ef_4, ef_3, ef_2, ef_1]; rfl) d_Day_append_39
set_option maxHeartbeats 4000000 in
set_option maxRecDepth 100000 in
theorem c_canDo (l : Launch) (D : va_G) (g : Nat → ClassId) (a : Nat → Nat) (f : Nat → Nat → Nat) (v : Nat) (x : Nat) (ok : ds_ok f) (hv : v < f 1 0) (hx : x < f 1 1) : ds_I l D g a y_Day_canDo b_Day_canDo 3 .boolean 0 0 [.ref (a 1), .int (nI v), .int (nI x)] f (fun r u => r = nI (dn_b (ds_can f v x = true)) ∧ u = f) := by
  refine dw_ofI (by decide) (fun _ _ h => h.1 ▸ dn_nar) (Nat.le_of_ble_eq_true rfl) ?_
  intro p e s m args below meth c ls A Q R H locs hR hA S hN hw hl hret
  have hl : lv_has ls 3 [(0, .ref (a 1)), (1, .int (nI v)), (2, .int (nI x))] := hl
  have S : CallFix p m c b_Day_canDo 3 s args ds_T R_Day := S
  obtain ⟨hV, hn, hex, hst, hve, hwy, hw0, hrw⟩ := id ok
  have s1 := hst x hx
  have r1 := hrw.2 x hx
  have v1 := hve v hv
  have r2 := dr_row_len hrw r1.1
  refine lv_aload_n S.1 S.2.1 d_Day_canDo_0 rfl (lv_at hl 0 rfl) ?_
  refine dw_getf (fi := 12) (v := .ref (a 18)) S hw i_Day ds_ob1 (by decide) rfl wd_52 rfl d_Day_canDo_1 ?_
  refine lv_iload_n S.1 S.2.1 d_Day_canDo_4 rfl (lv_at hl 1 rfl) ?_
  refine dw_iald S.1 S.2.1 hw ds_k18 (by omega) d_Day_canDo_5 ?_
  refine lv_bipush (v := nI 8) S.1 S.2.1 d_Day_canDo_6 (by decide) ?_
  refine dn_icmp_ne S.1 S.2.1 13 (by omega) (by decide) d_Day_canDo_8 (by decide) (fun h_8 => ?_) (fun h_8 => ?_)
  · refine lv_aload_n S.1 S.2.1 d_Day_canDo_13 rfl (lv_at hl 0 rfl) ?_
    refine dw_getf (fi := 4) (v := .ref (a 10)) S hw i_Day ds_ob1 (by decide) rfl wd_40 rfl d_Day_canDo_14 ?_
    refine lv_iload_n S.1 S.2.1 d_Day_canDo_17 rfl (lv_at hl 2 rfl) ?_
    refine dw_iald S.1 S.2.1 hw ds_k10 (by omega) d_Day_canDo_18 ?_
    refine lv_iload_n S.1 S.2.1 d_Day_canDo_19 rfl (lv_at hl 1 rfl) ?_
    refine dn_icmp_ne S.1 S.2.1 42 (by omega) (by omega) d_Day_canDo_20 (by decide) (fun h_20 => ?_) (fun h_20 => ?_)
    · refine lv_iconst (v := nI 0) S.1 S.2.1 d_Day_canDo_42 (by decide) ?_
      exact hret H locs _ ls _ _ hw (⟨by rw [dn_b0 (by simp [ds_can, h_8, h_20])], rfl⟩) d_Day_canDo_43
    · refine lv_aload_n S.1 S.2.1 d_Day_canDo_23 rfl (lv_at hl 0 rfl) ?_
      refine dw_getf (fi := 5) (v := .ref (a 11)) S hw i_Day ds_ob1 (by decide) rfl wd_43 rfl d_Day_canDo_24 ?_
      refine lv_iload_n S.1 S.2.1 d_Day_canDo_27 rfl (lv_at hl 2 rfl) ?_
      refine dw_iald S.1 S.2.1 hw ds_k11 (by omega) d_Day_canDo_28 ?_
      refine lv_aload_n S.1 S.2.1 d_Day_canDo_29 rfl (lv_at hl 0 rfl) ?_
      refine dw_getf (fi := 12) (v := .ref (a 18)) S hw i_Day ds_ob1 (by decide) rfl wd_52 rfl d_Day_canDo_30 ?_
      refine lv_iload_n S.1 S.2.1 d_Day_canDo_33 rfl (lv_at hl 1 rfl) ?_
      refine dw_iald S.1 S.2.1 hw ds_k18 (by omega) d_Day_canDo_34 ?_
      refine dn_icmp_ge S.1 S.2.1 42 (by omega) (by omega) d_Day_canDo_35 (by decide) (fun h_35 => ?_) (fun h_35 => ?_)
      · refine lv_iconst (v := nI 0) S.1 S.2.1 d_Day_canDo_42 (by decide) ?_
        exact hret H locs _ ls _ _ hw (⟨by rw [dn_b0 (by simp [ds_can, h_8, h_20]; omega)], rfl⟩) d_Day_canDo_43
      · refine lv_iconst (v := nI 1) S.1 S.2.1 d_Day_canDo_38 (by decide) ?_
        refine lv_goto (tgt := 43) S.1 S.2.1 d_Day_canDo_39 (by decide) ?_
        exact hret H locs _ ls _ _ hw (⟨by rw [dn_b1 (by simp [ds_can, h_8, h_20, h_35])], rfl⟩) d_Day_canDo_43
  · refine lv_iconst (v := nI 1) S.1 S.2.1 d_Day_canDo_11 (by decide) ?_
    exact hret H locs _ ls _ _ hw (⟨by rw [dn_b1 (by simp [ds_can, h_8])], rfl⟩) d_Day_canDo_12
set_option maxHeartbeats 4000000 in
set_option maxRecDepth 100000 in
theorem c_mayHave (l : Launch) (D : va_G) (g : Nat → ClassId) (a : Nat → Nat) (f : Nat → Nat → Nat) (x : Nat) (v : Nat) (ok : ds_ok f) (hx : x < f 1 1) (hv : v ≤ f 1 0) : ds_I l D g a y_Day_mayHave b_Day_mayHave 3 .boolean 1 22 [.ref (a 1), .int (nI x), .int (nI v)] f (fun r u => r = nI (dn_b (ds_may f x v = true)) ∧ u = f) := by
  refine dw_ofI (by decide) (fun _ _ h => h.1 ▸ dn_nar) (Nat.le_of_ble_eq_true rfl) ?_
  intro p e s m args below meth c ls A Q R H locs hR hA S hN hw hl hret
  have hl : lv_has ls 3 [(0, .ref (a 1)), (1, .int (nI x)), (2, .int (nI v))] := hl
  have S : CallFix p m c b_Day_mayHave 3 s args ds_T R_Day := S
  obtain ⟨hV, hn, hex, hst, hve, hwy, hw0, hrw⟩ := id ok
  have s1 := hst x hx
  have r1 := hrw.2 x hx
  refine lv_aload_n S.1 S.2.1 d_Day_mayHave_0 rfl (lv_at hl 0 rfl) ?_
  refine dw_getf (fi := 6) (v := .ref (a 12)) S hw i_Day ds_ob1 (by decide) rfl wd_44 rfl d_Day_mayHave_1 ?_
  refine lv_iload_n S.1 S.2.1 d_Day_mayHave_4 rfl (lv_at hl 1 rfl) ?_
  refine dw_zald S.1 S.2.1 hw ds_k12 (by omega) d_Day_mayHave_5 ?_
  refine dn_if_eq S.1 S.2.1 21 (by omega) d_Day_mayHave_6 (by decide) (fun h_6 => ?_) (fun h_6 => ?_)
  · refine lv_iload_n S.1 S.2.1 d_Day_mayHave_21 rfl (lv_at hl 2 rfl) ?_
    refine lv_aload_n S.1 S.2.1 d_Day_mayHave_22 rfl (lv_at hl 0 rfl) ?_
    refine dw_getf (fi := 0) (v := .int (nI (f 1 0))) S hw i_Day ds_ob1 (by decide) rfl wd_32 rfl d_Day_mayHave_23 ?_
    refine dn_icmp_eq S.1 S.2.1 47 (by omega) (by omega) d_Day_mayHave_26 (by decide) (fun h_26 => ?_) (fun h_26 => ?_)
    · refine lv_iconst (v := nI 1) S.1 S.2.1 d_Day_mayHave_47 (by decide) ?_
      refine lv_goto (tgt := 52) S.1 S.2.1 d_Day_mayHave_48 (by decide) ?_
      exact hret H locs _ ls _ _ hw (⟨by rw [dn_b1 (by simp_all [ds_may])], rfl⟩) d_Day_mayHave_52
    · refine lv_aload_n S.1 S.2.1 d_Day_mayHave_29 rfl (lv_at hl 0 rfl) ?_
      refine dw_getf (fi := 7) (v := .ref (a 13)) S hw i_Day ds_ob1 (by decide) rfl wd_46 rfl d_Day_mayHave_30 ?_
      refine lv_iload_n S.1 S.2.1 d_Day_mayHave_33 rfl (lv_at hl 1 rfl) ?_
      refine dw_zald S.1 S.2.1 hw ds_k13 (by omega) d_Day_mayHave_34 ?_
      refine dn_if_ne S.1 S.2.1 51 (by omega) d_Day_mayHave_35 (by decide) (fun h_35 => ?_) (fun h_35 => ?_)
      · refine lv_iconst (v := nI 0) S.1 S.2.1 d_Day_mayHave_51 (by decide) ?_
        exact hret H locs _ ls _ _ hw (⟨by rw [dn_b0 (by simp_all [ds_may])], rfl⟩) d_Day_mayHave_52
      · refine lv_aload_n S.1 S.2.1 d_Day_mayHave_38 rfl (lv_at hl 0 rfl) ?_
        refine lv_iload_n S.1 S.2.1 d_Day_mayHave_39 rfl (lv_at hl 2 rfl) ?_
        refine lv_iload_n S.1 S.2.1 d_Day_mayHave_40 rfl (lv_at hl 1 rfl) ?_
        refine dw_afti hw hA (dw_runV (As := [.int (nI v), .int (nI x)]) (rest := []) (ko := 1) hw S ds_good (c_canDo l D g a f v x (ok) (by omega) (hx) H.size) cw_Day_canDo wd_225 wd_227 ws_Day_canDo ds_ob1 dw_blind (dw_pre hw hN) rfl hl.1 rfl ⟨Nat.le_trans (Nat.le_of_ble_eq_true rfl) hR.1, Nat.le_trans (Nat.le_of_ble_eq_true rfl) hR.2⟩ (Nat.le_of_ble_eq_true rfl) ⟨Nat.zero_le _, Nat.zero_le _⟩ d_Day_mayHave_41) (fun r_41 f_1 H locs hp hw => ?_)
        obtain ⟨er, ef⟩ := hp
        subst er
        rw [ef] at hw
        refine dn_ifb_eq S.1 S.2.1 51 d_Day_mayHave_44 (by decide) (fun h_44 => ?_) (fun h_44 => ?_)
        · refine lv_iconst (v := nI 0) S.1 S.2.1 d_Day_mayHave_51 (by decide) ?_
          exact hret H locs _ ls _ _ hw (⟨by rw [dn_b0 (by simp_all [ds_may])], rfl⟩) d_Day_mayHave_52
        · refine lv_iconst (v := nI 1) S.1 S.2.1 d_Day_mayHave_47 (by decide) ?_
          refine lv_goto (tgt := 52) S.1 S.2.1 d_Day_mayHave_48 (by decide) ?_
          exact hret H locs _ ls _ _ hw (⟨by rw [dn_b1 (by simp_all [ds_may])], rfl⟩) d_Day_mayHave_52
  · refine lv_aload_n S.1 S.2.1 d_Day_mayHave_9 rfl (lv_at hl 0 rfl) ?_
    refine dw_getf (fi := 4) (v := .ref (a 10)) S hw i_Day ds_ob1 (by decide) rfl wd_40 rfl d_Day_mayHave_10 ?_
    refine lv_iload_n S.1 S.2.1 d_Day_mayHave_13 rfl (lv_at hl 1 rfl) ?_
    refine dw_iald S.1 S.2.1 hw ds_k10 (by omega) d_Day_mayHave_14 ?_
    refine lv_iload_n S.1 S.2.1 d_Day_mayHave_15 rfl (lv_at hl 2 rfl) ?_
    refine dn_icmp_eq S.1 S.2.1 21 (by omega) (by omega) d_Day_mayHave_16 (by decide) (fun h_16 => ?_) (fun h_16 => ?_)
    · refine lv_iload_n S.1 S.2.1 d_Day_mayHave_21 rfl (lv_at hl 2 rfl) ?_
      refine lv_aload_n S.1 S.2.1 d_Day_mayHave_22 rfl (lv_at hl 0 rfl) ?_
      refine dw_getf (fi := 0) (v := .int (nI (f 1 0))) S hw i_Day ds_ob1 (by decide) rfl wd_32 rfl d_Day_mayHave_23 ?_
      refine dn_icmp_eq S.1 S.2.1 47 (by omega) (by omega) d_Day_mayHave_26 (by decide) (fun h_26 => ?_) (fun h_26 => ?_)
      · refine lv_iconst (v := nI 1) S.1 S.2.1 d_Day_mayHave_47 (by decide) ?_
        refine lv_goto (tgt := 52) S.1 S.2.1 d_Day_mayHave_48 (by decide) ?_
        exact hret H locs _ ls _ _ hw (⟨by rw [dn_b1 (by simp_all [ds_may])], rfl⟩) d_Day_mayHave_52
      · refine lv_aload_n S.1 S.2.1 d_Day_mayHave_29 rfl (lv_at hl 0 rfl) ?_
        refine dw_getf (fi := 7) (v := .ref (a 13)) S hw i_Day ds_ob1 (by decide) rfl wd_46 rfl d_Day_mayHave_30 ?_
        refine lv_iload_n S.1 S.2.1 d_Day_mayHave_33 rfl (lv_at hl 1 rfl) ?_
        refine dw_zald S.1 S.2.1 hw ds_k13 (by omega) d_Day_mayHave_34 ?_
        refine dn_if_ne S.1 S.2.1 51 (by omega) d_Day_mayHave_35 (by decide) (fun h_35 => ?_) (fun h_35 => ?_)
        · refine lv_iconst (v := nI 0) S.1 S.2.1 d_Day_mayHave_51 (by decide) ?_
          exact hret H locs _ ls _ _ hw (⟨by rw [dn_b0 (by simp_all [ds_may])], rfl⟩) d_Day_mayHave_52
        · refine lv_aload_n S.1 S.2.1 d_Day_mayHave_38 rfl (lv_at hl 0 rfl) ?_
          refine lv_iload_n S.1 S.2.1 d_Day_mayHave_39 rfl (lv_at hl 2 rfl) ?_
          refine lv_iload_n S.1 S.2.1 d_Day_mayHave_40 rfl (lv_at hl 1 rfl) ?_
          refine dw_afti hw hA (dw_runV (As := [.int (nI v), .int (nI x)]) (rest := []) (ko := 1) hw S ds_good (c_canDo l D g a f v x (ok) (by omega) (hx) H.size) cw_Day_canDo wd_225 wd_227 ws_Day_canDo ds_ob1 dw_blind (dw_pre hw hN) rfl hl.1 rfl ⟨Nat.le_trans (Nat.le_of_ble_eq_true rfl) hR.1, Nat.le_trans (Nat.le_of_ble_eq_true rfl) hR.2⟩ (Nat.le_of_ble_eq_true rfl) ⟨Nat.zero_le _, Nat.zero_le _⟩ d_Day_mayHave_41) (fun r_41 f_2 H locs hp hw => ?_)
          obtain ⟨er, ef⟩ := hp
          subst er
          rw [ef] at hw
          refine dn_ifb_eq S.1 S.2.1 51 d_Day_mayHave_44 (by decide) (fun h_44 => ?_) (fun h_44 => ?_)
          · refine lv_iconst (v := nI 0) S.1 S.2.1 d_Day_mayHave_51 (by decide) ?_
            exact hret H locs _ ls _ _ hw (⟨by rw [dn_b0 (by simp_all [ds_may])], rfl⟩) d_Day_mayHave_52
          · refine lv_iconst (v := nI 1) S.1 S.2.1 d_Day_mayHave_47 (by decide) ?_
            refine lv_goto (tgt := 52) S.1 S.2.1 d_Day_mayHave_48 (by decide) ?_
            exact hret H locs _ ls _ _ hw (⟨by rw [dn_b1 (by simp_all [ds_may])], rfl⟩) d_Day_mayHave_52
    · refine lv_iconst (v := nI 0) S.1 S.2.1 d_Day_mayHave_19 (by decide) ?_
      exact hret H locs _ ls _ _ hw (⟨by rw [dn_b0 (by simp_all [ds_may])], rfl⟩) d_Day_mayHave_20
set_option maxHeartbeats 4000000 in
set_option maxRecDepth 100000 in
theorem c_tell (l : Launch) (D : va_G) (g : Nat → ClassId) (a : Nat → Nat) (f : Nat → Nat → Nat) (v : Nat) (x : Nat) (y : Nat) (ok : ds_ok f) (hv : v < f 1 0) (h8 : f 1 1 < 8) : ds_I l D g a y_Day_tell b_Day_tell 5 .int 1 23 [.ref (a 1), .int (nI v), .int (nI x), .int (nI y)] f (fun r u => r = nI (f 1 1) ∧ u = ds_tell f v x y) := by
  refine dw_ofI (by decide) (fun _ _ _ => rfl) (Nat.le_of_ble_eq_true rfl) ?_
  intro p e s m args below meth c ls A Q R H locs hR hA S hN hw hl hret
  have hl : lv_has ls 5 [(0, .ref (a 1)), (1, .int (nI v)), (2, .int (nI x)), (3, .int (nI y))] := hl
  have S : CallFix p m c b_Day_tell 5 s args ds_T R_Day := S
  obtain ⟨hV, hn, hex, hst, hve, hwy, hw0, hrw⟩ := id ok
  have r2 := dr_row_len hrw hv
  refine lv_aload_n S.1 S.2.1 d_Day_tell_0 rfl (lv_at hl 0 rfl) ?_
  refine dw_getf (fi := 1) (v := .int (nI (f 1 1))) S hw i_Day ds_ob1 (by decide) rfl wd_37 rfl d_Day_tell_1 ?_
  refine lv_istore (lv' := [(4, .int (nI (f 1 1))), (0, .ref (a 1)), (1, .int (nI v)), (2, .int (nI x)), (3, .int (nI y))]) S.1 S.2.1 d_Day_tell_4 hl (by decide) rfl (fun ls hl => ?_)
  refine lv_aload_n S.1 S.2.1 d_Day_tell_6 rfl (lv_at hl 1 rfl) ?_
  refine dw_getf (fi := 2) (v := .ref (a 8)) S hw i_Day ds_ob1 (by decide) rfl wd_38 rfl d_Day_tell_7 ?_
  refine lv_iload S.1 S.2.1 d_Day_tell_10 (lv_at hl 0 rfl) ?_
  refine lv_iload_n S.1 S.2.1 d_Day_tell_12 rfl (lv_at hl 3 rfl) ?_
  refine dw_iast S.1 S.2.1 hw ds_k8 (by omega) d_Day_tell_13 (fun f_1 H locs ef_1 hw => ?_)
  refine lv_aload_n S.1 S.2.1 d_Day_tell_14 rfl (lv_at hl 1 rfl) ?_
  refine dw_getf (fi := 3) (v := .ref (a 9)) S hw i_Day ds_ob1 (by decide) rfl wd_39 rfl d_Day_tell_15 ?_
  refine lv_iload S.1 S.2.1 d_Day_tell_18 (lv_at hl 0 rfl) ?_
  refine lv_iload_n S.1 S.2.1 d_Day_tell_20 rfl (lv_at hl 4 rfl) ?_
  refine dw_iast S.1 S.2.1 hw ds_k9 (by omega) d_Day_tell_21 (fun f_2 H locs ef_2 hw => ?_)
  refine lv_aload_n S.1 S.2.1 d_Day_tell_22 rfl (lv_at hl 1 rfl) ?_
  refine lv_iload S.1 S.2.1 d_Day_tell_23 (lv_at hl 0 rfl) ?_
  refine lv_iload_n S.1 S.2.1 d_Day_tell_25 rfl (lv_at hl 2 rfl) ?_
  refine dw_aftv hw hA (dw_runV (As := [.int (nI (f 1 1)), .int (nI v)]) (rest := []) (ko := 1) hw S ds_good (c_append l D g a f_2 (f 1 1) v (h8) (by omega) (by rw [ef_2, ef_1, dw_w_ne (by decide), dw_w_ne (by decide)]; omega) H.size) cw_Day_append wd_173 wd_175 ws_Day_append ds_ob1 dw_blind (dw_pre hw hN) rfl hl.1 rfl ⟨Nat.le_trans (Nat.le_of_ble_eq_true rfl) hR.1, Nat.le_trans (Nat.le_of_ble_eq_true rfl) hR.2⟩ (Nat.le_of_ble_eq_true rfl) ⟨Nat.zero_le _, Nat.zero_le _⟩ d_Day_tell_26) (fun f_3 H locs hp hw => ?_)
  have ef_3 := hp
  refine lv_aload_n S.1 S.2.1 d_Day_tell_29 rfl (lv_at hl 1 rfl) ?_
  refine lv_dup S.1 S.2.1 d_Day_tell_30 rfl ?_
  refine dw_getf (fi := 1) (v := .int (nI (f_3 1 1))) S hw i_Day ds_ob1 (by decide) rfl wd_37 rfl d_Day_tell_31 ?_
  refine lv_iconst (v := nI 1) S.1 S.2.1 d_Day_tell_34 (by decide) ?_
  refine dn_iadd S.1 S.2.1 d_Day_tell_35 ?_
  refine dw_putf (fi := 1) S hw i_Day t_Day t_Day_ok n_Day ds_ob1 (by decide) rfl wd_37 rfl (by decide +kernel) (Nat.le_of_ble_eq_true rfl) rfl d_Day_tell_36 (fun f_4 H locs ef_4 hw => ?_)
  refine lv_iload S.1 S.2.1 d_Day_tell_39 (lv_at hl 0 rfl) ?_
  exact hret H locs _ ls _ _ hw (⟨rfl, by rw [ef_4, ef_3]; unfold ds_tell; rw [show f_2 = ds_tell1 f x y by rw [ef_2, ef_1]; rfl, ds_app_ne (k := 1) (by omega), ds_tell1_ne (k := 1) (by omega)]⟩) d_Day_tell_41
set_option maxHeartbeats 4000000 in
set_option maxRecDepth 100000 in
theorem c_overHours (l : Launch) (D : va_G) (g : Nat → ClassId) (a : Nat → Nat) (f : Nat → Nat → Nat) (v : Nat) (t : Nat) (ok : ds_ok f) (hv : v < f 1 0) (ht : t ≤ 200000) : ds_I l D g a y_Day_overHours b_Day_overHours 3 .int 1 24 [.ref (a 1), .int (nI v), .int (nI t)] f (fun r u => r = nI (t - f 19 v) ∧ u = f) := by
  refine dw_ofI (by decide) (fun _ _ _ => rfl) (Nat.le_of_ble_eq_true rfl) ?_
  intro p e s m args below meth c ls A Q R H locs hR hA S hN hw hl hret
  have hl : lv_has ls 3 [(0, .ref (a 1)), (1, .int (nI v)), (2, .int (nI t))] := hl
  have S : CallFix p m c b_Day_overHours 3 s args ds_T R_Day := S
  obtain ⟨hV, hn, hex, hst, hve, hwy, hw0, hrw⟩ := id ok
  have v1 := hve v hv
  refine lv_iconst (v := nI 0) S.1 S.2.1 d_Day_overHours_0 (by decide) ?_
  refine lv_iload_n S.1 S.2.1 d_Day_overHours_1 rfl (lv_at hl 2 rfl) ?_
  refine lv_aload_n S.1 S.2.1 d_Day_overHours_2 rfl (lv_at hl 0 rfl) ?_
  refine dw_getf (fi := 13) (v := .ref (a 19)) S hw i_Day ds_ob1 (by decide) rfl wd_54 rfl d_Day_overHours_3 ?_
  refine lv_iload_n S.1 S.2.1 d_Day_overHours_6 rfl (lv_at hl 1 rfl) ?_
  refine dw_iald S.1 S.2.1 hw ds_k19 (by omega) d_Day_overHours_7 ?_
  refine lv_isub S.1 S.2.1 d_Day_overHours_8 ?_
  refine va_mmax (rest := []) S.1 S.2.1 (S.2.2.1.trans hl.1.symm) S.2.2.2.1 (S.2.2.2.2 _ wd_247) (S.2.2.2.2 _ wd_248) (S.2.2.2.2 _ wd_7) (S.2.2.2.2 _ wd_249) (Nat.le_trans (Nat.le_of_ble_eq_true rfl) hR.1) (Nat.le_trans (Nat.le_of_ble_eq_true rfl) hR.2) (Nat.zero_le _) (Nat.zero_le _) d_Day_overHours_9 ?_
  refine ds_topi (w := nI (t - f 19 v)) (ds_max0 (by omega) (by omega)) ?_
  exact hret H locs _ ls _ _ hw (⟨rfl, rfl⟩) d_Day_overHours_12
set_option maxHeartbeats 4000000 in
set_option maxRecDepth 100000 in
theorem c_addRound (l : Launch) (D : va_G) (g : Nat → ClassId) (a : Nat → Nat) (f : Nat → Nat → Nat) (v : Nat) (t : Nat) (K : Nat) (b : Nat) (ok : ds_ok f) (hv : v < f 1 0) (ht : t < 2 ^ 31) (hK : dw_Ci (ds_tys g) 77 (ds_ce g a) .int K 8) (hK2 : K = 21 ∨ (25 ≤ K ∧ K < 28)) (hb : b + (ds_rd f (fun x => t.testBit x) v).length ≤ 8) : ds_I l D g a y_Day_addRound b_Day_addRound 7 .int 1 21 [.ref (a 1), .int (nI v), .int (nI t), .ref (a K), .int (nI b)] f (fun r u => r = nI (b + (ds_rd f (fun x => t.testBit x) v).length) ∧ ∃ h : Nat → Nat, u = dw_su f K h ∧ (∀ i, i < b → h i = f K i) ∧ ds_is h b (ds_rd f (fun x => t.testBit x) v)) := by
  refine dw_ofI (by decide) (fun _ _ _ => rfl) (Nat.le_of_ble_eq_true rfl) ?_
  intro p e s m args below meth c ls A Q R H locs hR hA S hN hw hl hret
  have hl : lv_has ls 7 [(0, .ref (a 1)), (1, .int (nI v)), (2, .int (nI t)), (3, .ref (a K)), (4, .int (nI b))] := hl
  have S : CallFix p m c b_Day_addRound 7 s args ds_T R_Day := S
  obtain ⟨hV, hn, hex, hst, hve, hwy, hw0, hrw⟩ := id ok
  have r2 := dr_row_len hrw hv
  obtain ⟨h, eh⟩ : ∃ z, z = f K := ⟨_, rfl⟩
  refine lv_iload S.1 S.2.1 d_Day_addRound_0 (lv_at hl 4 rfl) ?_
  refine lv_istore (lv' := [(5, .int (nI b)), (0, .ref (a 1)), (1, .int (nI v)), (2, .int (nI t)), (3, .ref (a K)), (4, .int (nI b))]) S.1 S.2.1 d_Day_addRound_2 hl (by decide) rfl (fun ls hl => ?_)
  refine lv_iconst (v := nI 0) S.1 S.2.1 d_Day_addRound_4 (by decide) ?_
  refine lv_istore (lv' := [(6, .int (nI 0)), (5, .int (nI b)), (0, .ref (a 1)), (1, .int (nI v)), (2, .int (nI t)), (3, .ref (a K)), (4, .int (nI b))]) S.1 S.2.1 d_Day_addRound_5 hl (by decide) rfl (fun ls hl => ?_)
  have loop_7 : ∀ (n : Nat) (z : Nat) (i : Nat) (f2 : Nat → Nat → Nat) (h : Nat → Nat) (hi : i ≤ f 15 v) (ez : z = b + ((ds_row f v i).filter (fun x => t.testBit x)).length) (hh : f2 = dw_su f K h) (hk : ∀ j, j < b → h j = f K j) (hs : ds_is h b ((ds_row f v i).filter (fun x => t.testBit x))) (_ : f 15 v - i < n) (H : Heap) (locs : List Loc), dw_W D classes (ds_tys g) A s.heap (dw_l 77 (ds_ce g a) a f2) s H locs → ∀ (ls : Array Slot), lv_has ls 7 [(0, .ref (a 1)), (1, .int (nI v)), (2, .int (nI t)), (3, .ref (a K)), (4, .int (nI b)), (5, .int (nI z)), (6, .int (nI i))] → W p l e R s m args below meth c H locs 0 0 Q (F0 m 7 ls []) := by
    intro n
    induction n with
    | zero => intro z i f2 h hi ez hh hk hs h9; exact absurd h9 (Nat.not_lt_zero _)
    | succ n ih_7 =>
      intro z i f2 h hi ez hh hk hs hm_7 H locs hw ls hl
      have q15 : f2 15 v = f 15 v := by rw [hh, dw_su_ne (by omega)]
      have q22 : f2 (22 + v) i = f (22 + v) i := by rw [hh, dw_su_ne (by omega)]
      refine lv_iload S.1 S.2.1 d_Day_addRound_7 (lv_at hl 6 rfl) ?_
      refine lv_aload_n S.1 S.2.1 d_Day_addRound_9 rfl (lv_at hl 0 rfl) ?_
      refine dw_getf (fi := 9) (v := .ref (a 15)) S hw i_Day ds_ob1 (by decide) rfl wd_49 rfl d_Day_addRound_10 ?_
      refine lv_iload_n S.1 S.2.1 d_Day_addRound_13 rfl (lv_at hl 1 rfl) ?_
      refine dw_iald S.1 S.2.1 hw ds_k15 (by omega) d_Day_addRound_14 ?_
      refine dn_icmp_ge S.1 S.2.1 56 (by omega) (by omega) d_Day_addRound_15 (by decide) (fun h_15 => ?_) (fun h_15 => ?_)
      · refine lv_iconst (v := nI 0) S.1 S.2.1 d_Day_addRound_56 (by decide) ?_
        refine lv_istore (lv' := [(6, .int (nI 0)), (0, .ref (a 1)), (1, .int (nI v)), (2, .int (nI t)), (3, .ref (a K)), (4, .int (nI b)), (5, .int (nI z))]) S.1 S.2.1 d_Day_addRound_57 hl (by decide) rfl (fun ls hl => ?_)
        have loop_59 : ∀ (n : Nat) (z : Nat) (i : Nat) (f2 : Nat → Nat → Nat) (h : Nat → Nat) (hi : i ≤ f 1 1) (ez : z = b + ((ds_row f v (f 15 v)).filter (fun x => t.testBit x) ++ ds_oth f (fun x => t.testBit x) v i).length) (hh : f2 = dw_su f K h) (hk : ∀ j, j < b → h j = f K j) (hs : ds_is h b ((ds_row f v (f 15 v)).filter (fun x => t.testBit x) ++ ds_oth f (fun x => t.testBit x) v i)) (_ : f 1 1 - i < n) (H : Heap) (locs : List Loc), dw_W D classes (ds_tys g) A s.heap (dw_l 77 (ds_ce g a) a f2) s H locs → ∀ (ls : Array Slot), lv_has ls 7 [(0, .ref (a 1)), (1, .int (nI v)), (2, .int (nI t)), (3, .ref (a K)), (4, .int (nI b)), (5, .int (nI z)), (6, .int (nI i))] → W p l e R s m args below meth c H locs 0 0 Q (F0 m 59 ls []) := by
          intro n
          induction n with
          | zero => intro z i f2 h hi ez hh hk hs h9; exact absurd h9 (Nat.not_lt_zero _)
          | succ n ih_59 =>
            intro z i f2 h hi ez hh hk hs hm_59 H locs hw ls hl
            have q11 : f2 1 1 = f 1 1 := by rw [hh, dw_su_ne (by omega)]
            have q10 : f2 10 i = f 10 i := by rw [hh, dw_su_ne (by omega)]
            refine lv_iload S.1 S.2.1 d_Day_addRound_59 (lv_at hl 6 rfl) ?_
            refine lv_aload_n S.1 S.2.1 d_Day_addRound_61 rfl (lv_at hl 0 rfl) ?_
            refine dw_getf (fi := 1) (v := .int (nI (f2 1 1))) S hw i_Day ds_ob1 (by decide) rfl wd_37 rfl d_Day_addRound_62 ?_
            refine dn_icmp_ge S.1 S.2.1 103 (by omega) (by omega) d_Day_addRound_65 (by decide) (fun h_65 => ?_) (fun h_65 => ?_)
            · refine lv_iload S.1 S.2.1 d_Day_addRound_103 (lv_at hl 5 rfl) ?_
              exact hret H locs _ ls _ _ hw (⟨by rw [ez, show i = f 1 1 by omega]; rfl, h, hh, hk, by rw [show i = f 1 1 by omega] at hs; exact hs⟩) d_Day_addRound_105
            · have r4 := hrw.2 i (by omega)
              refine lv_iload_n S.1 S.2.1 d_Day_addRound_68 rfl (lv_at hl 2 rfl) ?_
              refine lv_iload S.1 S.2.1 d_Day_addRound_69 (lv_at hl 6 rfl) ?_
              refine dw_afti hw hA (dw_runSN (As := [.int (nI t), .int (nI i)]) (rest := []) S ds_good (c_isIn l D g a f2 t i (ht) (by omega) H.size) cw_DS_isIn hN wd_242 wd_219 dw_blind (dw_pre hw hN) rfl hl.1 rfl ⟨Nat.le_trans (Nat.le_of_ble_eq_true rfl) hR.1, Nat.le_trans (Nat.le_of_ble_eq_true rfl) hR.2⟩ (Nat.le_of_ble_eq_true rfl) ⟨Nat.zero_le _, Nat.zero_le _⟩ d_Day_addRound_71) (fun r_71 f_1 H locs hp hw => ?_)
              obtain ⟨er, ef⟩ := hp
              subst er
              rw [ef] at hw
              refine dn_ifb_eq S.1 S.2.1 97 d_Day_addRound_74 (by decide) (fun h_74 => ?_) (fun h_74 => ?_)
              · have hP : ¬ ((fun x => t.testBit x) i && (f 10 i != v)) = true := by simp [h_74]
                refine lv_iinc (v := nI (i + 1)) (lv' := [(6, .int (nI (i + 1))), (0, .ref (a 1)), (1, .int (nI v)), (2, .int (nI t)), (3, .ref (a K)), (4, .int (nI b)), (5, .int (nI z))]) S.1 S.2.1 d_Day_addRound_97 hl (k := 6) rfl (by rw [show Int32.ofInt 1 = nI 1 from rfl, nI_add]) (by decide) rfl (fun ls hl => ?_)
                refine lv_goto (tgt := 59) S.1 S.2.1 d_Day_addRound_100 (by decide) ?_
                exact ih_59 z (i + 1) f2 h (by omega) (by rw [ds_oth_s, if_neg hP, List.append_nil]; exact ez) (hh) (hk) (by rw [ds_oth_s, if_neg hP, List.append_nil]; exact hs) (by omega) H locs hw ls (lv_sub hl [1, 2, 3, 4, 5, 6, 0] rfl)
              · refine lv_aload_n S.1 S.2.1 d_Day_addRound_77 rfl (lv_at hl 0 rfl) ?_
                refine dw_getf (fi := 4) (v := .ref (a 10)) S hw i_Day ds_ob1 (by decide) rfl wd_40 rfl d_Day_addRound_78 ?_
                refine lv_iload S.1 S.2.1 d_Day_addRound_81 (lv_at hl 6 rfl) ?_
                refine dw_iald S.1 S.2.1 hw ds_k10 (by omega) d_Day_addRound_83 ?_
                refine lv_iload_n S.1 S.2.1 d_Day_addRound_84 rfl (lv_at hl 1 rfl) ?_
                refine dn_icmp_eq S.1 S.2.1 97 (by omega) (by omega) d_Day_addRound_85 (by decide) (fun h_85 => ?_) (fun h_85 => ?_)
                · have hP : ¬ ((fun x => t.testBit x) i && (f 10 i != v)) = true := by simp; intro _; omega
                  refine lv_iinc (v := nI (i + 1)) (lv' := [(6, .int (nI (i + 1))), (0, .ref (a 1)), (1, .int (nI v)), (2, .int (nI t)), (3, .ref (a K)), (4, .int (nI b)), (5, .int (nI z))]) S.1 S.2.1 d_Day_addRound_97 hl (k := 6) rfl (by rw [show Int32.ofInt 1 = nI 1 from rfl, nI_add]) (by decide) rfl (fun ls hl => ?_)
                  refine lv_goto (tgt := 59) S.1 S.2.1 d_Day_addRound_100 (by decide) ?_
                  exact ih_59 z (i + 1) f2 h (by omega) (by rw [ds_oth_s, if_neg hP, List.append_nil]; exact ez) (hh) (hk) (by rw [ds_oth_s, if_neg hP, List.append_nil]; exact hs) (by omega) H locs hw ls (lv_sub hl [1, 2, 3, 4, 5, 6, 0] rfl)
                · have hP : ((fun x => t.testBit x) i && (f 10 i != v)) = true := by simp [h_74]; omega
                  have hlt := ds_oth_lt (fun x => t.testBit x) hP (by omega)
                  refine lv_aload_n S.1 S.2.1 d_Day_addRound_88 rfl (lv_at hl 3 rfl) ?_
                  refine lv_iload S.1 S.2.1 d_Day_addRound_89 (lv_at hl 5 rfl) ?_
                  refine lv_iinc (v := nI (z + 1)) (lv' := [(5, .int (nI (z + 1))), (0, .ref (a 1)), (1, .int (nI v)), (2, .int (nI t)), (3, .ref (a K)), (4, .int (nI b)), (6, .int (nI i))]) S.1 S.2.1 d_Day_addRound_91 hl (k := 5) rfl (by rw [show Int32.ofInt 1 = nI 1 from rfl, nI_add]) (by decide) rfl (fun ls hl => ?_)
                  refine lv_iload S.1 S.2.1 d_Day_addRound_94 (lv_at hl 6 rfl) ?_
                  refine dw_iast S.1 S.2.1 hw hK (by omega) d_Day_addRound_96 (fun f_2 H locs ef_2 hw => ?_)
                  refine lv_iinc (v := nI (i + 1)) (lv' := [(6, .int (nI (i + 1))), (5, .int (nI (z + 1))), (0, .ref (a 1)), (1, .int (nI v)), (2, .int (nI t)), (3, .ref (a K)), (4, .int (nI b))]) S.1 S.2.1 d_Day_addRound_97 hl (k := 6) rfl (by rw [show Int32.ofInt 1 = nI 1 from rfl, nI_add]) (by decide) rfl (fun ls hl => ?_)
                  refine lv_goto (tgt := 59) S.1 S.2.1 d_Day_addRound_100 (by decide) ?_
                  exact ih_59 (z + 1) (i + 1) f_2 (dw_up h z i) (by omega) (by rw [ds_oth_s, if_pos hP, ← List.append_assoc, List.length_append, List.length_singleton, ez]; omega) (by rw [ef_2, hh, dw_w_su]) (fun j hj => by rw [dw_up_ne (by omega)]; exact hk j hj) (by rw [ds_oth_s, if_pos hP, ← List.append_assoc, ez]; exact ds_is_push _ hs) (by omega) H locs hw ls (lv_sub hl [2, 3, 4, 5, 6, 1, 0] rfl)
        exact loop_59 _ z 0 f2 h (Nat.zero_le _) (by rw [ez, show i = f 15 v by omega]; simp [ds_oth]) (hh) (hk) (by rw [show ds_oth f (fun x => t.testBit x) v 0 = [] from rfl, List.append_nil, ← show i = f 15 v by omega]; exact hs) (Nat.lt_succ_self _) H locs hw ls (lv_sub hl [1, 2, 3, 4, 5, 6, 0] rfl)
      · have r3 := hrw.1 v i hv (by omega)
        refine lv_iload_n S.1 S.2.1 d_Day_addRound_18 rfl (lv_at hl 2 rfl) ?_
        refine lv_aload_n S.1 S.2.1 d_Day_addRound_19 rfl (lv_at hl 0 rfl) ?_
        refine dw_getf (fi := 8) (v := .ref (a 14)) S hw i_Day ds_ob1 (by decide) rfl wd_48 rfl d_Day_addRound_20 ?_
        refine lv_iload_n S.1 S.2.1 d_Day_addRound_23 rfl (lv_at hl 1 rfl) ?_
        refine dw_aald S.1 S.2.1 hw ds_k14 (by omega) d_Day_addRound_24 ?_
        refine lv_iload S.1 S.2.1 d_Day_addRound_25 (lv_at hl 6 rfl) ?_
        refine dw_iald S.1 S.2.1 hw (ds_k22 (by omega)) (by omega) d_Day_addRound_27 ?_
        refine dw_afti hw hA (dw_runSN (As := [.int (nI t), .int (nI (f2 (22 + v) i))]) (rest := []) S ds_good (c_isIn l D g a f2 t (f2 (22 + v) i) (ht) (by omega) H.size) cw_DS_isIn hN wd_242 wd_219 dw_blind (dw_pre hw hN) rfl hl.1 rfl ⟨Nat.le_trans (Nat.le_of_ble_eq_true rfl) hR.1, Nat.le_trans (Nat.le_of_ble_eq_true rfl) hR.2⟩ (Nat.le_of_ble_eq_true rfl) ⟨Nat.zero_le _, Nat.zero_le _⟩ d_Day_addRound_28) (fun r_28 f_3 H locs hp hw => ?_)
        obtain ⟨er, ef⟩ := hp
        subst er
        rw [ef] at hw
        refine dn_ifb_eq S.1 S.2.1 50 d_Day_addRound_31 (by decide) (fun h_31 => ?_) (fun h_31 => ?_)
        · rw [q22] at h_31
          have hP : ¬ (fun x => t.testBit x) (f (22 + v) i) = true := h_31
          refine lv_iinc (v := nI (i + 1)) (lv' := [(6, .int (nI (i + 1))), (0, .ref (a 1)), (1, .int (nI v)), (2, .int (nI t)), (3, .ref (a K)), (4, .int (nI b)), (5, .int (nI z))]) S.1 S.2.1 d_Day_addRound_50 hl (k := 6) rfl (by rw [show Int32.ofInt 1 = nI 1 from rfl, nI_add]) (by decide) rfl (fun ls hl => ?_)
          refine lv_goto (tgt := 7) S.1 S.2.1 d_Day_addRound_53 (by decide) ?_
          exact ih_7 z (i + 1) f2 h (by omega) (by rw [ds_row_s, if_neg hP, List.append_nil]; exact ez) (hh) (hk) (by rw [ds_row_s, if_neg hP, List.append_nil]; exact hs) (by omega) H locs hw ls (lv_sub hl [1, 2, 3, 4, 5, 6, 0] rfl)
        · rw [q22] at h_31
          have hP : (fun x => t.testBit x) (f (22 + v) i) = true := h_31
          have hlt := ds_row_lt (fun x => t.testBit x) hP (by omega)
          refine lv_aload_n S.1 S.2.1 d_Day_addRound_34 rfl (lv_at hl 3 rfl) ?_
          refine lv_iload S.1 S.2.1 d_Day_addRound_35 (lv_at hl 5 rfl) ?_
          refine lv_iinc (v := nI (z + 1)) (lv' := [(5, .int (nI (z + 1))), (0, .ref (a 1)), (1, .int (nI v)), (2, .int (nI t)), (3, .ref (a K)), (4, .int (nI b)), (6, .int (nI i))]) S.1 S.2.1 d_Day_addRound_37 hl (k := 5) rfl (by rw [show Int32.ofInt 1 = nI 1 from rfl, nI_add]) (by decide) rfl (fun ls hl => ?_)
          refine lv_aload_n S.1 S.2.1 d_Day_addRound_40 rfl (lv_at hl 1 rfl) ?_
          refine dw_getf (fi := 8) (v := .ref (a 14)) S hw i_Day ds_ob1 (by decide) rfl wd_48 rfl d_Day_addRound_41 ?_
          refine lv_iload_n S.1 S.2.1 d_Day_addRound_44 rfl (lv_at hl 2 rfl) ?_
          refine dw_aald S.1 S.2.1 hw ds_k14 (by omega) d_Day_addRound_45 ?_
          refine lv_iload S.1 S.2.1 d_Day_addRound_46 (lv_at hl 6 rfl) ?_
          refine dw_iald S.1 S.2.1 hw (ds_k22 (by omega)) (by omega) d_Day_addRound_48 ?_
          refine dw_iast S.1 S.2.1 hw hK (by omega) d_Day_addRound_49 (fun f_4 H locs ef_4 hw => ?_)
          refine lv_iinc (v := nI (i + 1)) (lv' := [(6, .int (nI (i + 1))), (5, .int (nI (z + 1))), (0, .ref (a 1)), (1, .int (nI v)), (2, .int (nI t)), (3, .ref (a K)), (4, .int (nI b))]) S.1 S.2.1 d_Day_addRound_50 hl (k := 6) rfl (by rw [show Int32.ofInt 1 = nI 1 from rfl, nI_add]) (by decide) rfl (fun ls hl => ?_)
          refine lv_goto (tgt := 7) S.1 S.2.1 d_Day_addRound_53 (by decide) ?_
          exact ih_7 (z + 1) (i + 1) f_4 (dw_up h z (f (22 + v) i)) (by omega) (by rw [ds_row_s, if_pos hP, List.length_append, List.length_singleton, ez]; omega) (by rw [ef_4, hh, dw_w_su, dw_su_ne (by omega)]) (fun j hj => by rw [dw_up_ne (by omega)]; exact hk j hj) (by rw [ds_row_s, if_pos hP, ez]; exact ds_is_push _ hs) (by omega) H locs hw ls (lv_sub hl [2, 3, 4, 5, 6, 1, 0] rfl)
  exact loop_7 _ b 0 f (f K) (Nat.zero_le _) (rfl) (dw_su_self.symm) (fun _ _ => rfl) (ds_is_nil _ _) (Nat.lt_succ_self _) H locs hw ls (lv_sub hl [2, 3, 4, 5, 6, 1, 0] rfl)
end
section
/-! contracts of Day: rounds and times -/
set_option maxHeartbeats 4000000 in
set_option maxRecDepth 100000 in
theorem c_timeOf (l : Launch) (D : va_G) (g : Nat → ClassId) (a : Nat → Nat) (f : Nat → Nat → Nat) (v : Nat) (t : Nat) (ok : ds_ok f) (hv : v < f 1 0) (ht : t < 2 ^ 31) : ds_I l D g a y_Day_timeOf b_Day_timeOf 8 .int 2 47 [.ref (a 1), .int (nI v), .int (nI t)] f (fun r u => r = nI (ds_tm f (fun x => t.testBit x) v) ∧ ∃ h : Nat → Nat, u = dw_su f 21 h) := by
  refine dw_ofI (by decide) (fun _ _ _ => rfl) (Nat.le_of_ble_eq_true rfl) ?_
  intro p e s m args below meth c ls A Q R H locs hR hA S hN hw hl hret
  have hl : lv_has ls 8 [(0, .ref (a 1)), (1, .int (nI v)), (2, .int (nI t))] := hl
  have S : CallFix p m c b_Day_timeOf 8 s args ds_T R_Day := S
  obtain ⟨hV, hn, hex, hst, hve, hwy, hw0, hrw⟩ := id ok
  refine lv_aload_n S.1 S.2.1 d_Day_timeOf_0 rfl (lv_at hl 0 rfl) ?_
  refine lv_iload_n S.1 S.2.1 d_Day_timeOf_1 rfl (lv_at hl 1 rfl) ?_
  refine lv_iload_n S.1 S.2.1 d_Day_timeOf_2 rfl (lv_at hl 2 rfl) ?_
  refine lv_aload_n S.1 S.2.1 d_Day_timeOf_3 rfl (lv_at hl 0 rfl) ?_
  refine dw_getf (fi := 15) (v := .ref (a 21)) S hw i_Day ds_ob1 (by decide) rfl wd_58 rfl d_Day_timeOf_4 ?_
  refine lv_iconst (v := nI 0) S.1 S.2.1 d_Day_timeOf_7 (by decide) ?_
  refine dw_afti hw hA (dw_runV (As := [.int (nI v), .int (nI t), .ref (a 21), .int (nI 0)]) (rest := []) (ko := 1) hw S ds_good (c_addRound l D g a f v t 21 0 (ok) (hv) (ht) (ds_k21) (Or.inl rfl) (by have := dr_rd_len hrw (fun x => Nat.testBit t x) hv; omega) H.size) cw_Day_addRound wd_238 wd_240 ws_Day_addRound ds_ob1 dw_blind (dw_pre hw hN) rfl hl.1 rfl ⟨Nat.le_trans (Nat.le_of_ble_eq_true rfl) hR.1, Nat.le_trans (Nat.le_of_ble_eq_true rfl) hR.2⟩ (Nat.le_of_ble_eq_true rfl) ⟨Nat.zero_le _, Nat.zero_le _⟩ d_Day_timeOf_8) (fun r_8 f_1 H locs hp hw => ?_)
  obtain ⟨er, h, eh, hk, hs⟩ := hp
  subst er
  obtain ⟨L, eL⟩ : ∃ z, z = ds_rd f (fun x => t.testBit x) v := ⟨_, rfl⟩
  rw [← eL] at hs
  rw [← eL]
  have hLn : L.length ≤ f 1 1 := by rw [eL]; exact dr_rd_len hrw _ hv
  have hLm : ∀ x ∈ L, x < f 1 1 := fun x hx => (dr_rd_in hrw _ hv (by rw [eL] at hx; exact hx)).1
  refine ds_topi (w := nI L.length) (by rw [Nat.zero_add]) ?_
  refine lv_istore_n (lv' := [(3, .int (nI (L.length))), (0, .ref (a 1)), (1, .int (nI v)), (2, .int (nI t))]) S.1 S.2.1 d_Day_timeOf_11 rfl hl (by decide) rfl (fun ls hl => ?_)
  refine lv_iconst (v := nI 0) S.1 S.2.1 d_Day_timeOf_12 (by decide) ?_
  refine lv_istore (lv' := [(4, .int (nI 0)), (3, .int (nI (L.length))), (0, .ref (a 1)), (1, .int (nI v)), (2, .int (nI t))]) S.1 S.2.1 d_Day_timeOf_13 hl (by decide) rfl (fun ls hl => ?_)
  refine lv_iconst (v := nI 0) S.1 S.2.1 d_Day_timeOf_15 (by decide) ?_
  refine lv_istore (lv' := [(5, .int (nI 0)), (4, .int (nI 0)), (3, .int (nI (L.length))), (0, .ref (a 1)), (1, .int (nI v)), (2, .int (nI t))]) S.1 S.2.1 d_Day_timeOf_16 hl (by decide) rfl (fun ls hl => ?_)
  refine lv_iconst (v := nI 0) S.1 S.2.1 d_Day_timeOf_18 (by decide) ?_
  refine lv_istore (lv' := [(6, .int (nI 0)), (5, .int (nI 0)), (4, .int (nI 0)), (3, .int (nI (L.length))), (0, .ref (a 1)), (1, .int (nI v)), (2, .int (nI t))]) S.1 S.2.1 d_Day_timeOf_19 hl (by decide) rfl (fun ls hl => ?_)
  have loop_21 : ∀ (n : Nat) (y : Nat) (w : Nat) (i : Nat) (hi : i ≤ L.length) (ey : y = (ds_fo f (L.take i)).1) (ew : w = (ds_fo f (L.take i)).2) (_ : L.length - i < n) (H : Heap) (locs : List Loc), dw_W D classes (ds_tys g) A s.heap (dw_l 77 (ds_ce g a) a f_1) s H locs → ∀ (ls : Array Slot), lv_has ls 8 [(0, .ref (a 1)), (1, .int (nI v)), (2, .int (nI t)), (3, .int (nI (L.length))), (4, .int (nI y)), (5, .int (nI w)), (6, .int (nI i))] → W p l e R s m args below meth c H locs 0 0 Q (F0 m 21 ls []) := by
    intro n
    induction n with
    | zero => intro y w i hi ey ew h9; exact absurd h9 (Nat.not_lt_zero _)
    | succ n ih_21 =>
      intro y w i hi ey ew hm_21 H locs hw ls hl
      have fb := ds_fo_b ok hLm i
      rw [← ey, ← ew] at fb
      refine lv_iload S.1 S.2.1 d_Day_timeOf_21 (lv_at hl 6 rfl) ?_
      refine lv_iload_n S.1 S.2.1 d_Day_timeOf_23 rfl (lv_at hl 3 rfl) ?_
      refine dn_icmp_ge S.1 S.2.1 79 (by omega) (by omega) d_Day_timeOf_24 (by decide) (fun h_24 => ?_) (fun h_24 => ?_)
      · have e30 : f_1 (28 + w) 0 = f (28 + w) 0 := by rw [eh, dw_su_ne (by omega)]
        refine lv_iload S.1 S.2.1 d_Day_timeOf_79 (lv_at hl 4 rfl) ?_
        refine lv_aload_n S.1 S.2.1 d_Day_timeOf_81 rfl (lv_at hl 0 rfl) ?_
        refine dw_getf (fi := 14) (v := .ref (a 20)) S hw i_Day ds_ob1 (by decide) rfl wd_56 rfl d_Day_timeOf_82 ?_
        refine lv_iload S.1 S.2.1 d_Day_timeOf_85 (lv_at hl 5 rfl) ?_
        refine dw_aald S.1 S.2.1 hw ds_k20 (by omega) d_Day_timeOf_87 ?_
        refine lv_iconst (v := nI 0) S.1 S.2.1 d_Day_timeOf_88 (by decide) ?_
        refine dw_iald S.1 S.2.1 hw (ds_k28 (by omega)) (by omega) d_Day_timeOf_89 ?_
        refine dn_iadd S.1 S.2.1 d_Day_timeOf_90 ?_
        exact hret H locs _ ls _ _ hw (⟨by rw [e30, ds_fo_e, ← eL, ey, ew, show i = L.length by omega, List.take_length], h, eh⟩) d_Day_timeOf_91
      · obtain ⟨x, ex⟩ : ∃ z, z = L.getD i 0 := ⟨_, rfl⟩
        have q21 : f_1 21 i = x := by rw [eh, dw_su_eq, ex]; have q := hs i h_24; rwa [Nat.zero_add] at q
        have hx : x < f 1 1 := by rw [ex]; exact hLm _ (ds_getD_mem h_24)
        have s1 := hst x hx
        have e8 : f_1 8 (f_1 21 i) = f 8 x := by rw [q21, eh, dw_su_ne (by decide)]
        have e9 : f_1 9 (f_1 21 i) = f 9 x := by rw [q21, eh, dw_su_ne (by decide)]
        have e28 : f_1 (28 + w) (f_1 8 (f_1 21 i)) = f (28 + w) (f 8 x) := by rw [e8, eh, dw_su_ne (by omega)]
        refine lv_aload_n S.1 S.2.1 d_Day_timeOf_27 rfl (lv_at hl 0 rfl) ?_
        refine dw_getf (fi := 2) (v := .ref (a 8)) S hw i_Day ds_ob1 (by decide) rfl wd_38 rfl d_Day_timeOf_28 ?_
        refine lv_aload_n S.1 S.2.1 d_Day_timeOf_31 rfl (lv_at hl 0 rfl) ?_
        refine dw_getf (fi := 15) (v := .ref (a 21)) S hw i_Day ds_ob1 (by decide) rfl wd_58 rfl d_Day_timeOf_32 ?_
        refine lv_iload S.1 S.2.1 d_Day_timeOf_35 (lv_at hl 6 rfl) ?_
        refine dw_iald S.1 S.2.1 hw ds_k21 (by omega) d_Day_timeOf_37 ?_
        refine dw_iald S.1 S.2.1 hw ds_k8 (by omega) d_Day_timeOf_38 ?_
        refine lv_istore (lv' := [(7, .int (nI (f_1 8 (f_1 21 i)))), (0, .ref (a 1)), (1, .int (nI v)), (2, .int (nI t)), (3, .int (nI (L.length))), (4, .int (nI y)), (5, .int (nI w)), (6, .int (nI i))]) S.1 S.2.1 d_Day_timeOf_39 hl (by decide) rfl (fun ls hl => ?_)
        refine lv_iload S.1 S.2.1 d_Day_timeOf_41 (lv_at hl 5 rfl) ?_
        refine lv_aload_n S.1 S.2.1 d_Day_timeOf_43 rfl (lv_at hl 1 rfl) ?_
        refine dw_getf (fi := 14) (v := .ref (a 20)) S hw i_Day ds_ob1 (by decide) rfl wd_56 rfl d_Day_timeOf_44 ?_
        refine lv_iload S.1 S.2.1 d_Day_timeOf_47 (lv_at hl 6 rfl) ?_
        refine dw_aald S.1 S.2.1 hw ds_k20 (by omega) d_Day_timeOf_49 ?_
        refine lv_iload S.1 S.2.1 d_Day_timeOf_50 (lv_at hl 0 rfl) ?_
        refine dw_iald S.1 S.2.1 hw (ds_k28 (by omega)) (by omega) d_Day_timeOf_52 ?_
        refine lv_aload_n S.1 S.2.1 d_Day_timeOf_53 rfl (lv_at hl 1 rfl) ?_
        refine dw_getf (fi := 3) (v := .ref (a 9)) S hw i_Day ds_ob1 (by decide) rfl wd_39 rfl d_Day_timeOf_54 ?_
        refine lv_aload_n S.1 S.2.1 d_Day_timeOf_57 rfl (lv_at hl 1 rfl) ?_
        refine dw_getf (fi := 15) (v := .ref (a 21)) S hw i_Day ds_ob1 (by decide) rfl wd_58 rfl d_Day_timeOf_58 ?_
        refine lv_iload S.1 S.2.1 d_Day_timeOf_61 (lv_at hl 7 rfl) ?_
        refine dw_iald S.1 S.2.1 hw ds_k21 (by omega) d_Day_timeOf_63 ?_
        refine dw_iald S.1 S.2.1 hw ds_k9 (by omega) d_Day_timeOf_64 ?_
        refine dn_iadd S.1 S.2.1 d_Day_timeOf_65 ?_
        refine dn_iadd S.1 S.2.1 d_Day_timeOf_66 ?_
        refine lv_istore (lv' := [(4, .int (nI (y + ((f_1 (28 + w) (f_1 8 (f_1 21 i))) + (f_1 9 (f_1 21 i)))))), (7, .int (nI (f_1 8 (f_1 21 i)))), (0, .ref (a 1)), (1, .int (nI v)), (2, .int (nI t)), (3, .int (nI (L.length))), (5, .int (nI w)), (6, .int (nI i))]) S.1 S.2.1 d_Day_timeOf_67 hl (by decide) rfl (fun ls hl => ?_)
        refine lv_iload S.1 S.2.1 d_Day_timeOf_69 (lv_at hl 1 rfl) ?_
        refine lv_istore (lv' := [(5, .int (nI (f_1 8 (f_1 21 i)))), (4, .int (nI (y + ((f_1 (28 + w) (f_1 8 (f_1 21 i))) + (f_1 9 (f_1 21 i)))))), (7, .int (nI (f_1 8 (f_1 21 i)))), (0, .ref (a 1)), (1, .int (nI v)), (2, .int (nI t)), (3, .int (nI (L.length))), (6, .int (nI i))]) S.1 S.2.1 d_Day_timeOf_71 hl (by decide) rfl (fun ls hl => ?_)
        refine lv_iinc (v := nI (i + 1)) (lv' := [(6, .int (nI (i + 1))), (5, .int (nI (f_1 8 (f_1 21 i)))), (4, .int (nI (y + ((f_1 (28 + w) (f_1 8 (f_1 21 i))) + (f_1 9 (f_1 21 i)))))), (7, .int (nI (f_1 8 (f_1 21 i)))), (0, .ref (a 1)), (1, .int (nI v)), (2, .int (nI t)), (3, .int (nI (L.length)))]) S.1 S.2.1 d_Day_timeOf_73 hl (k := 7) rfl (by rw [show Int32.ofInt 1 = nI 1 from rfl, nI_add]) (by decide) rfl (fun ls hl => ?_)
        refine lv_goto (tgt := 21) S.1 S.2.1 d_Day_timeOf_76 (by decide) ?_
        exact ih_21 (y + ((f_1 (28 + w) (f_1 8 (f_1 21 i))) + (f_1 9 (f_1 21 i)))) (f_1 8 (f_1 21 i)) (i + 1) (by omega) (by rw [(ds_fo_s h_24).1, ← ey, ← ew, ← ex, e28, e9]) (by rw [(ds_fo_s h_24).2, ← ex, e8]) (by omega) H locs hw ls (lv_sub hl [4, 5, 6, 7, 2, 1, 0] rfl)
  exact loop_21 _ 0 0 0 (Nat.zero_le _) (rfl) (rfl) (Nat.lt_succ_self _) H locs hw ls (lv_sub hl [4, 5, 6, 3, 2, 1, 0] rfl)
set_option maxHeartbeats 4000000 in
set_option maxRecDepth 100000 in
theorem c_placeInRound (l : Launch) (D : va_G) (g : Nat → ClassId) (a : Nat → Nat) (f : Nat → Nat → Nat) (x : Nat) (v : Nat) (t : Nat) (ok : ds_ok f) (hv : v < f 1 0) (ht : t < 2 ^ 31) (hx : x < 2 ^ 31) : ds_I l D g a y_Day_placeInRound b_Day_placeInRound 6 .int 2 47 [.ref (a 1), .int (nI x), .int (nI v), .int (nI t)] f (fun r u => r = ds_pos x (ds_rd f (fun x => t.testBit x) v) 0 ∧ ∃ h : Nat → Nat, u = dw_su f 21 h) := by
  refine dw_ofI (by decide) (fun _ _ _ => rfl) (Nat.le_of_ble_eq_true rfl) ?_
  intro p e s m args below meth c ls A Q R H locs hR hA S hN hw hl hret
  have hl : lv_has ls 6 [(0, .ref (a 1)), (1, .int (nI x)), (2, .int (nI v)), (3, .int (nI t))] := hl
  have S : CallFix p m c b_Day_placeInRound 6 s args ds_T R_Day := S
  obtain ⟨hV, hn, hex, hst, hve, hwy, hw0, hrw⟩ := id ok
  refine lv_aload_n S.1 S.2.1 d_Day_placeInRound_0 rfl (lv_at hl 0 rfl) ?_
  refine lv_iload_n S.1 S.2.1 d_Day_placeInRound_1 rfl (lv_at hl 2 rfl) ?_
  refine lv_iload_n S.1 S.2.1 d_Day_placeInRound_2 rfl (lv_at hl 3 rfl) ?_
  refine lv_aload_n S.1 S.2.1 d_Day_placeInRound_3 rfl (lv_at hl 0 rfl) ?_
  refine dw_getf (fi := 15) (v := .ref (a 21)) S hw i_Day ds_ob1 (by decide) rfl wd_58 rfl d_Day_placeInRound_4 ?_
  refine lv_iconst (v := nI 0) S.1 S.2.1 d_Day_placeInRound_7 (by decide) ?_
  refine dw_afti hw hA (dw_runV (As := [.int (nI v), .int (nI t), .ref (a 21), .int (nI 0)]) (rest := []) (ko := 1) hw S ds_good (c_addRound l D g a f v t 21 0 (ok) (hv) (ht) (ds_k21) (Or.inl rfl) (by have := dr_rd_len hrw (fun x => Nat.testBit t x) hv; omega) H.size) cw_Day_addRound wd_238 wd_240 ws_Day_addRound ds_ob1 dw_blind (dw_pre hw hN) rfl hl.1 rfl ⟨Nat.le_trans (Nat.le_of_ble_eq_true rfl) hR.1, Nat.le_trans (Nat.le_of_ble_eq_true rfl) hR.2⟩ (Nat.le_of_ble_eq_true rfl) ⟨Nat.zero_le _, Nat.zero_le _⟩ d_Day_placeInRound_8) (fun r_8 f_1 H locs hp hw => ?_)
  obtain ⟨er, h, eh, hk, hs⟩ := hp
  subst er
  obtain ⟨L, eL⟩ : ∃ z, z = ds_rd f (fun x => t.testBit x) v := ⟨_, rfl⟩
  rw [← eL] at hs
  rw [← eL]
  have hLn : L.length ≤ f 1 1 := by rw [eL]; exact dr_rd_len hrw _ hv
  have hLm : ∀ x ∈ L, x < f 1 1 := fun x hx => (dr_rd_in hrw _ hv (by rw [eL] at hx; exact hx)).1
  refine ds_topi (w := nI L.length) (by rw [Nat.zero_add]) ?_
  refine lv_istore (lv' := [(4, .int (nI (L.length))), (0, .ref (a 1)), (1, .int (nI x)), (2, .int (nI v)), (3, .int (nI t))]) S.1 S.2.1 d_Day_placeInRound_11 hl (by decide) rfl (fun ls hl => ?_)
  refine lv_iconst (v := nI 0) S.1 S.2.1 d_Day_placeInRound_13 (by decide) ?_
  refine lv_istore (lv' := [(5, .int (nI 0)), (4, .int (nI (L.length))), (0, .ref (a 1)), (1, .int (nI x)), (2, .int (nI v)), (3, .int (nI t))]) S.1 S.2.1 d_Day_placeInRound_14 hl (by decide) rfl (fun ls hl => ?_)
  have loop_16 : ∀ (n : Nat) (i : Nat) (hi : i ≤ L.length) (hE : ds_pos x L 0 = ds_pos x (L.drop i) i) (_ : L.length - i < n) (H : Heap) (locs : List Loc), dw_W D classes (ds_tys g) A s.heap (dw_l 77 (ds_ce g a) a f_1) s H locs → ∀ (ls : Array Slot), lv_has ls 6 [(0, .ref (a 1)), (1, .int (nI x)), (2, .int (nI v)), (3, .int (nI t)), (4, .int (nI (L.length))), (5, .int (nI i))] → W p l e R s m args below meth c H locs 0 0 Q (F0 m 16 ls []) := by
    intro n
    induction n with
    | zero => intro i hi hE h9; exact absurd h9 (Nat.not_lt_zero _)
    | succ n ih_16 =>
      intro i hi hE hm_16 H locs hw ls hl
      refine lv_iload S.1 S.2.1 d_Day_placeInRound_16 (lv_at hl 5 rfl) ?_
      refine lv_iload S.1 S.2.1 d_Day_placeInRound_18 (lv_at hl 4 rfl) ?_
      refine dn_icmp_ge S.1 S.2.1 43 (by omega) (by omega) d_Day_placeInRound_20 (by decide) (fun h_20 => ?_) (fun h_20 => ?_)
      · refine lv_iconst (v := (-1)) S.1 S.2.1 d_Day_placeInRound_43 (by decide) ?_
        exact hret H locs _ ls _ _ hw (⟨by rw [← eL, hE, show i = L.length by omega, List.drop_length]; rfl, h, eh⟩) d_Day_placeInRound_44
      · have q21 : f_1 21 i = L.getD i 0 := by rw [eh, dw_su_eq]; have q := hs i h_20; rwa [Nat.zero_add] at q
        have hy := hLm _ (ds_getD_mem h_20)
        refine lv_aload_n S.1 S.2.1 d_Day_placeInRound_23 rfl (lv_at hl 0 rfl) ?_
        refine dw_getf (fi := 15) (v := .ref (a 21)) S hw i_Day ds_ob1 (by decide) rfl wd_58 rfl d_Day_placeInRound_24 ?_
        refine lv_iload S.1 S.2.1 d_Day_placeInRound_27 (lv_at hl 5 rfl) ?_
        refine dw_iald S.1 S.2.1 hw ds_k21 (by omega) d_Day_placeInRound_29 ?_
        refine lv_iload_n S.1 S.2.1 d_Day_placeInRound_30 rfl (lv_at hl 1 rfl) ?_
        refine dn_icmp_ne S.1 S.2.1 37 (by omega) (by omega) d_Day_placeInRound_31 (by decide) (fun h_31 => ?_) (fun h_31 => ?_)
        · refine lv_iinc (v := nI (i + 1)) (lv' := [(5, .int (nI (i + 1))), (0, .ref (a 1)), (1, .int (nI x)), (2, .int (nI v)), (3, .int (nI t)), (4, .int (nI (L.length)))]) S.1 S.2.1 d_Day_placeInRound_37 hl (k := 5) rfl (by rw [show Int32.ofInt 1 = nI 1 from rfl, nI_add]) (by decide) rfl (fun ls hl => ?_)
          refine lv_goto (tgt := 16) S.1 S.2.1 d_Day_placeInRound_40 (by decide) ?_
          exact ih_16 (i + 1) (by omega) (by rw [hE, ds_pos_s h_20, if_neg (by rw [← q21]; exact h_31)]) (by omega) H locs hw ls (lv_sub hl [1, 2, 3, 4, 5, 0] rfl)
        · refine lv_iload S.1 S.2.1 d_Day_placeInRound_34 (lv_at hl 5 rfl) ?_
          exact hret H locs _ ls _ _ hw (⟨by rw [← eL, hE, ds_pos_s h_20, if_pos (by rw [← q21]; exact h_31)], h, eh⟩) d_Day_placeInRound_36
  exact loop_16 _ 0 (Nat.zero_le _) (rfl) (Nat.lt_succ_self _) H locs hw ls (lv_sub hl [2, 3, 4, 5, 1, 0] rfl)
set_option maxHeartbeats 4000000 in
set_option maxRecDepth 100000 in
theorem c_vehicleIn (l : Launch) (D : va_G) (g : Nat → ClassId) (a : Nat → Nat) (f : Nat → Nat → Nat) (w : Nat) (i : Nat) (hw3 : w < 2 ^ 63) (hi : i < 8) : ds_I l D g a y_Se_vehicleIn b_Se_vehicleIn 3 .int 1 20 [.long (lN w), .int (nI i)] f (fun r u => r = nI (w / 2 ^ (2 * (7 - i)) &&& 3) ∧ u = f) := by
  refine dw_ofI (by decide) (fun _ _ _ => rfl) (Nat.le_of_ble_eq_true rfl) ?_
  intro p e s m args below meth c ls A Q R H locs hR hA S hN hw hl hret
  have hl : lv_has ls 3 [(0, .long (lN w)), (2, .int (nI i))] := hl
  have S : CallFix p m c b_Se_vehicleIn 3 s args ds_T R_Se := S
  refine lv_lload_n S.1 S.2.1 d_Se_vehicleIn_0 rfl (lv_at hl 0 rfl) ?_
  refine lv_iload_n S.1 S.2.1 d_Se_vehicleIn_1 rfl (lv_at hl 1 rfl) ?_
  refine dw_afti hw hA (dw_runS (As := [.int (nI i)]) (rest := [.long (lN w)]) S ds_good (c_digitShift l D g a f i (by omega) H.size) cw_Se_digitShift wd_230 wd_231 dw_blind (dw_pre hw hN) rfl hl.1 rfl ⟨Nat.le_trans (Nat.le_of_ble_eq_true rfl) hR.1, Nat.le_trans (Nat.le_of_ble_eq_true rfl) hR.2⟩ (Nat.le_of_ble_eq_true rfl) ⟨Nat.zero_le _, Nat.zero_le _⟩ d_Se_vehicleIn_2) (fun r_2 f_1 H locs hp hw => ?_)
  obtain ⟨er, ef⟩ := hp
  subst er
  rw [ef] at hw
  refine dn_lshrR S.1 S.2.1 (by omega) hw3 d_Se_vehicleIn_5 ?_
  refine dn_l2i S.1 S.2.1 d_Se_vehicleIn_6 ?_
  refine lv_iconst (v := nI 3) S.1 S.2.1 d_Se_vehicleIn_7 (by decide) ?_
  refine dn_iand S.1 S.2.1 d_Se_vehicleIn_8 ?_
  exact hret H locs _ ls _ _ hw (⟨rfl, rfl⟩) d_Se_vehicleIn_9
end
section
/-! contracts of the search -/
set_option maxHeartbeats 4000000 in
set_option maxRecDepth 100000 in
theorem c_weightOf (l : Launch) (D : va_G) (g : Nat → ClassId) (a : Nat → Nat) (f : Nat → Nat → Nat) (v : Nat) (t : Nat) (ok : ds_ok f) (hv : v ≤ f 1 0) (ht : t < 2 ^ 31) : ds_L l D g a y_Se_weightOf b_Se_weightOf 7 3 74 [.ref (a 2), .int (nI v), .int (nI t)] f (fun r u => r = lN (ds_wt f v t) ∧ ∃ h : Nat → Nat, u = dw_su f 21 h) := by
  refine dw_ofL (by decide) (Nat.le_of_ble_eq_true rfl) ?_
  intro p e s m args below meth c ls A Q R H locs hR hA S hN hw hl hret
  have hl : lv_has ls 7 [(0, .ref (a 2)), (1, .int (nI v)), (2, .int (nI t))] := hl
  have S : CallFix p m c b_Se_weightOf 7 s args ds_T R_Se := S
  obtain ⟨hV, hn, hex, hst, hve, hwy, hw0, hrw⟩ := id ok
  refine lv_lconst (v := lN 0) S.1 S.2.1 d_Se_weightOf_0 rfl ?_
  refine lv_lstore_n (lv' := [(3, .long (lN 0)), (0, .ref (a 2)), (1, .int (nI v)), (2, .int (nI t))]) S.1 S.2.1 d_Se_weightOf_1 rfl hl (by decide) rfl (fun ls hl => ?_)
  refine lv_iconst (v := nI 0) S.1 S.2.1 d_Se_weightOf_2 (by decide) ?_
  refine lv_istore (lv' := [(5, .int (nI 0)), (3, .long (lN 0)), (0, .ref (a 2)), (1, .int (nI v)), (2, .int (nI t))]) S.1 S.2.1 d_Se_weightOf_3 hl (by decide) rfl (fun ls hl => ?_)
  have loop_5 : ∀ (n : Nat) (y : Nat) (i : Nat) (hi : i ≤ f 1 1) (ey : y = ds_acc f v t i) (hb : ds_bad f v t i = false) (_ : f 1 1 - i < n) (H : Heap) (locs : List Loc), dw_W D classes (ds_tys g) A s.heap (dw_l 77 (ds_ce g a) a f) s H locs → ∀ (ls : Array Slot), lv_has ls 7 [(0, .ref (a 2)), (1, .int (nI v)), (2, .int (nI t)), (3, .long (lN y)), (5, .int (nI i))] → W p l e R s m args below meth c H locs 0 0 Q (F0 m 5 ls []) := by
    intro n
    induction n with
    | zero => intro y i hi ey hb h9; exact absurd h9 (Nat.not_lt_zero _)
    | succ n ih_5 =>
      intro y i hi ey hb hm_5 H locs hw ls hl
      refine lv_iload S.1 S.2.1 d_Se_weightOf_5 (lv_at hl 4 rfl) ?_
      refine lv_aload_n S.1 S.2.1 d_Se_weightOf_7 rfl (lv_at hl 0 rfl) ?_
      refine dw_getf (fi := 0) (v := .ref (a 1)) S hw i_Se ds_ob2 (by decide) rfl wd_104 rfl d_Se_weightOf_8 ?_
      refine dw_getN (fi := 1) (v := .int (nI (f 1 1))) S hw i_Day ds_ob1 (by decide) rfl hN wd_36 rfl d_Se_weightOf_11 ?_
      refine dn_icmp_ge S.1 S.2.1 84 (by omega) (by omega) d_Se_weightOf_14 (by decide) (fun h_14 => ?_) (fun h_14 => ?_)
      · refine lv_iload_n S.1 S.2.1 d_Se_weightOf_84 rfl (lv_at hl 1 rfl) ?_
        refine lv_aload_n S.1 S.2.1 d_Se_weightOf_85 rfl (lv_at hl 0 rfl) ?_
        refine dw_getf (fi := 0) (v := .ref (a 1)) S hw i_Se ds_ob2 (by decide) rfl wd_104 rfl d_Se_weightOf_86 ?_
        refine dw_getN (fi := 0) (v := .int (nI (f 1 0))) S hw i_Day ds_ob1 (by decide) rfl hN wd_33 rfl d_Se_weightOf_89 ?_
        refine dn_icmp_ne S.1 S.2.1 97 (by omega) (by omega) d_Se_weightOf_92 (by decide) (fun h_92 => ?_) (fun h_92 => ?_)
        · have hv2 : v < f 1 0 := by omega
          have tb := ds_tm_b ok (fun x => t.testBit x) hv2
          refine lv_aload_n S.1 S.2.1 d_Se_weightOf_97 rfl (lv_at hl 0 rfl) ?_
          refine dw_getf (fi := 0) (v := .ref (a 1)) S hw i_Se ds_ob2 (by decide) rfl wd_104 rfl d_Se_weightOf_98 ?_
          refine lv_iload_n S.1 S.2.1 d_Se_weightOf_101 rfl (lv_at hl 1 rfl) ?_
          refine lv_iload_n S.1 S.2.1 d_Se_weightOf_102 rfl (lv_at hl 2 rfl) ?_
          refine dw_afti hw hA (dw_runVN (As := [.int (nI v), .int (nI t)]) (rest := []) (ko := 1) hw S ds_good (c_timeOf l D g a f v t (ok) (hv2) (ht) H.size) cw_Day_timeOf hN wd_234 wd_236 ws_Day_timeOf ds_ob1 dw_blind (dw_pre hw hN) rfl hl.1 rfl ⟨Nat.le_trans (Nat.le_of_ble_eq_true rfl) hR.1, Nat.le_trans (Nat.le_of_ble_eq_true rfl) hR.2⟩ (Nat.le_of_ble_eq_true rfl) ⟨Nat.zero_le _, Nat.zero_le _⟩ d_Se_weightOf_103) (fun r_103 f_1 H locs hp hw => ?_)
          obtain ⟨er, h, ef_1⟩ := hp
          subst er
          refine lv_istore (lv' := [(5, .int (nI (ds_tm f (fun zz => Nat.testBit t zz) v))), (0, .ref (a 2)), (1, .int (nI v)), (2, .int (nI t)), (3, .long (lN y))]) S.1 S.2.1 d_Se_weightOf_106 hl (by decide) rfl (fun ls hl => ?_)
          have ok2 : ds_ok f_1 := by rw [ef_1]; exact ds_ok_congr (ds_su_agree (Or.inr (Or.inr (Or.inl rfl)))) ok
          have q1 : f_1 1 = f 1 := by rw [ef_1]; exact dw_su_ne (by decide)
          have q19 : f_1 19 = f 19 := by rw [ef_1]; exact dw_su_ne (by decide)
          refine lv_aload_n S.1 S.2.1 d_Se_weightOf_108 rfl (lv_at hl 1 rfl) ?_
          refine dw_getf (fi := 0) (v := .ref (a 1)) S hw i_Se ds_ob2 (by decide) rfl wd_104 rfl d_Se_weightOf_109 ?_
          refine lv_iload_n S.1 S.2.1 d_Se_weightOf_112 rfl (lv_at hl 2 rfl) ?_
          refine lv_iload S.1 S.2.1 d_Se_weightOf_113 (lv_at hl 0 rfl) ?_
          refine dw_afti hw hA (dw_runVN (As := [.int (nI v), .int (nI (ds_tm f (fun zz => Nat.testBit t zz) v))]) (rest := []) (ko := 1) hw S ds_good (c_overHours l D g a f_1 v (ds_tm f (fun zz => Nat.testBit t zz) v) (ok2) (by rw [q1]; exact hv2) (by omega) H.size) cw_Day_overHours hN wd_243 wd_245 ws_Day_overHours ds_ob1 dw_blind (dw_pre hw hN) rfl hl.1 rfl ⟨Nat.le_trans (Nat.le_of_ble_eq_true rfl) hR.1, Nat.le_trans (Nat.le_of_ble_eq_true rfl) hR.2⟩ (Nat.le_of_ble_eq_true rfl) ⟨Nat.zero_le _, Nat.zero_le _⟩ d_Se_weightOf_115) (fun r_115 f_2 H locs hp hw => ?_)
          obtain ⟨er, ef⟩ := hp
          subst er
          rw [ef] at hw
          refine ds_topi (w := nI (ds_tm f (fun x => t.testBit x) v - f 19 v)) (by rw [q19]) ?_
          refine lv_istore (lv' := [(6, .int (nI (ds_tm f (fun x => t.testBit x) v - f 19 v))), (5, .int (nI (ds_tm f (fun zz => Nat.testBit t zz) v))), (0, .ref (a 2)), (1, .int (nI v)), (2, .int (nI t)), (3, .long (lN y))]) S.1 S.2.1 d_Se_weightOf_118 hl (by decide) rfl (fun ls hl => ?_)
          refine lv_iload S.1 S.2.1 d_Se_weightOf_120 (lv_at hl 0 rfl) ?_
          refine lv_aload_n S.1 S.2.1 d_Se_weightOf_122 rfl (lv_at hl 2 rfl) ?_
          refine dw_getf (fi := 0) (v := .ref (a 1)) S hw i_Se ds_ob2 (by decide) rfl wd_104 rfl d_Se_weightOf_123 ?_
          refine dw_getN (fi := 16) (v := .int (nI (f_1 1 16))) S hw i_Day ds_ob1 (by decide) rfl hN wd_59 rfl d_Se_weightOf_126 ?_
          refine dn_icmp_le S.1 S.2.1 138 (by omega) (by rw [q1]; omega) d_Se_weightOf_129 (by decide) (fun h_129 => ?_) (fun h_129 => ?_)
          · refine lv_lload_n S.1 S.2.1 d_Se_weightOf_138 rfl (lv_at hl 5 rfl) ?_
            refine lv_iload S.1 S.2.1 d_Se_weightOf_139 (lv_at hl 1 rfl) ?_
            refine lv_iload S.1 S.2.1 d_Se_weightOf_141 (lv_at hl 0 rfl) ?_
            refine dn_iadd S.1 S.2.1 d_Se_weightOf_143 ?_
            refine dn_i2l S.1 S.2.1 (by omega) d_Se_weightOf_144 ?_
            refine lv_bipush (v := nI 16) S.1 S.2.1 d_Se_weightOf_145 (by decide) ?_
            refine dn_lshlR S.1 S.2.1 (by omega) d_Se_weightOf_147 ?_
            refine dn_ladd S.1 S.2.1 d_Se_weightOf_148 ?_
            exact hret H locs _ ls _ _ hw (⟨by rw [q1] at h_129; rw [ey, show i = f 1 1 by omega]; unfold ds_wt; rw [show i = f 1 1 by omega] at hb; rw [if_neg (by rw [hb]; decide), if_neg h_92, if_neg (by omega)], h, ef_1⟩) d_Se_weightOf_149
          · refine lv_ldc2 (v := lN 1152921504606846976) S.1 S.2.1 S.2.2.2.1 (S.2.2.2.2 _ wd_229) d_Se_weightOf_132 ?_
            refine lv_goto (tgt := 149) S.1 S.2.1 d_Se_weightOf_135 (by decide) ?_
            exact hret H locs _ ls _ _ hw (⟨by rw [q1] at h_129; unfold ds_wt; rw [show i = f 1 1 by omega] at hb; rw [if_neg (by rw [hb]; decide), if_neg h_92, if_pos (by omega)], h, ef_1⟩) d_Se_weightOf_149
        · refine lv_lload_n S.1 S.2.1 d_Se_weightOf_95 rfl (lv_at hl 3 rfl) ?_
          exact hret H locs _ ls _ _ hw (⟨by rw [ey, show i = f 1 1 by omega]; unfold ds_wt; rw [show i = f 1 1 by omega] at hb; rw [if_neg (by rw [hb]; decide), if_pos h_92], f 21, dw_su_self.symm⟩) d_Se_weightOf_96
      · have r4 := hrw.2 i (by omega)
        refine lv_iload_n S.1 S.2.1 d_Se_weightOf_17 rfl (lv_at hl 2 rfl) ?_
        refine lv_iload S.1 S.2.1 d_Se_weightOf_18 (lv_at hl 4 rfl) ?_
        refine dw_afti hw hA (dw_runSN (As := [.int (nI t), .int (nI i)]) (rest := []) S ds_good (c_isIn l D g a f t i (ht) (by omega) H.size) cw_DS_isIn hN wd_218 wd_219 dw_blind (dw_pre hw hN) rfl hl.1 rfl ⟨Nat.le_trans (Nat.le_of_ble_eq_true rfl) hR.1, Nat.le_trans (Nat.le_of_ble_eq_true rfl) hR.2⟩ (Nat.le_of_ble_eq_true rfl) ⟨Nat.zero_le _, Nat.zero_le _⟩ d_Se_weightOf_20) (fun r_20 f_3 H locs hp hw => ?_)
        obtain ⟨er, ef⟩ := hp
        subst er
        rw [ef] at hw
        refine dn_ifb_eq S.1 S.2.1 78 d_Se_weightOf_23 (by decide) (fun h_23 => ?_) (fun h_23 => ?_)
        · refine lv_iinc (v := nI (i + 1)) (lv' := [(5, .int (nI (i + 1))), (0, .ref (a 2)), (1, .int (nI v)), (2, .int (nI t)), (3, .long (lN y))]) S.1 S.2.1 d_Se_weightOf_78 hl (k := 4) rfl (by rw [show Int32.ofInt 1 = nI 1 from rfl, nI_add]) (by decide) rfl (fun ls hl => ?_)
          refine lv_goto (tgt := 5) S.1 S.2.1 d_Se_weightOf_81 (by decide) ?_
          exact ih_5 y (i + 1) (by omega) (by rw [ey]; simp [ds_acc, h_23]) (by simp [ds_bad, hb, h_23]) (by omega) H locs hw ls (lv_sub hl [1, 2, 3, 4, 0] rfl)
        · refine lv_aload_n S.1 S.2.1 d_Se_weightOf_26 rfl (lv_at hl 0 rfl) ?_
          refine dw_getf (fi := 0) (v := .ref (a 1)) S hw i_Se ds_ob2 (by decide) rfl wd_104 rfl d_Se_weightOf_27 ?_
          refine lv_iload S.1 S.2.1 d_Se_weightOf_30 (lv_at hl 4 rfl) ?_
          refine lv_iload_n S.1 S.2.1 d_Se_weightOf_32 rfl (lv_at hl 1 rfl) ?_
          refine dw_afti hw hA (dw_runVN (As := [.int (nI i), .int (nI v)]) (rest := []) (ko := 1) hw S ds_good (c_mayHave l D g a f i v (ok) (by omega) (hv) H.size) cw_Day_mayHave hN wd_221 wd_223 ws_Day_mayHave ds_ob1 dw_blind (dw_pre hw hN) rfl hl.1 rfl ⟨Nat.le_trans (Nat.le_of_ble_eq_true rfl) hR.1, Nat.le_trans (Nat.le_of_ble_eq_true rfl) hR.2⟩ (Nat.le_of_ble_eq_true rfl) ⟨Nat.zero_le _, Nat.zero_le _⟩ d_Se_weightOf_33) (fun r_33 f_4 H locs hp hw => ?_)
          obtain ⟨er, ef⟩ := hp
          subst er
          rw [ef] at hw
          refine dn_ifb_ne S.1 S.2.1 43 d_Se_weightOf_36 (by decide) (fun h_36 => ?_) (fun h_36 => ?_)
          · refine lv_lload_n S.1 S.2.1 d_Se_weightOf_43 rfl (lv_at hl 3 rfl) ?_
            refine lv_iload_n S.1 S.2.1 d_Se_weightOf_44 rfl (lv_at hl 1 rfl) ?_
            refine dn_i2l S.1 S.2.1 (by omega) d_Se_weightOf_45 ?_
            refine lv_iload S.1 S.2.1 d_Se_weightOf_46 (lv_at hl 4 rfl) ?_
            refine dw_afti hw hA (dw_runS (As := [.int (nI i)]) (rest := [.long (lN v), .long (lN y)]) S ds_good (c_digitShift l D g a f i (by omega) H.size) cw_Se_digitShift wd_230 wd_231 dw_blind (dw_pre hw hN) rfl hl.1 rfl ⟨Nat.le_trans (Nat.le_of_ble_eq_true rfl) hR.1, Nat.le_trans (Nat.le_of_ble_eq_true rfl) hR.2⟩ (Nat.le_of_ble_eq_true rfl) ⟨Nat.zero_le _, Nat.zero_le _⟩ d_Se_weightOf_48) (fun r_48 f_5 H locs hp hw => ?_)
            obtain ⟨er, ef⟩ := hp
            subst er
            rw [ef] at hw
            refine dn_lshlR S.1 S.2.1 (by omega) d_Se_weightOf_51 ?_
            refine dn_ladd S.1 S.2.1 d_Se_weightOf_52 ?_
            refine lv_lstore_n (lv' := [(3, .long (lN (y + (v * 2 ^ (2 * (7 - i)))))), (0, .ref (a 2)), (1, .int (nI v)), (2, .int (nI t)), (5, .int (nI i))]) S.1 S.2.1 d_Se_weightOf_53 rfl hl (by decide) rfl (fun ls hl => ?_)
            refine lv_lload_n S.1 S.2.1 d_Se_weightOf_54 rfl (lv_at hl 0 rfl) ?_
            refine lv_aload_n S.1 S.2.1 d_Se_weightOf_55 rfl (lv_at hl 1 rfl) ?_
            refine dw_getf (fi := 0) (v := .ref (a 1)) S hw i_Se ds_ob2 (by decide) rfl wd_104 rfl d_Se_weightOf_56 ?_
            refine dw_getN (fi := 4) (v := .ref (a 10)) S hw i_Day ds_ob1 (by decide) rfl hN wd_41 rfl d_Se_weightOf_59 ?_
            refine lv_iload S.1 S.2.1 d_Se_weightOf_62 (lv_at hl 4 rfl) ?_
            refine dw_iald S.1 S.2.1 hw ds_k10 (by omega) d_Se_weightOf_64 ?_
            refine lv_iload_n S.1 S.2.1 d_Se_weightOf_65 rfl (lv_at hl 2 rfl) ?_
            refine dn_icmp_ne S.1 S.2.1 73 (by omega) (by omega) d_Se_weightOf_66 (by decide) (fun h_66 => ?_) (fun h_66 => ?_)
            · refine lv_ldc2 (v := lN 1099511627776) S.1 S.2.1 S.2.2.2.1 (S.2.2.2.2 _ wd_233) d_Se_weightOf_73 ?_
              refine dn_ladd S.1 S.2.1 d_Se_weightOf_76 ?_
              refine lv_lstore_n (lv' := [(3, .long (lN ((y + (v * 2 ^ (2 * (7 - i)))) + 1099511627776))), (0, .ref (a 2)), (1, .int (nI v)), (2, .int (nI t)), (5, .int (nI i))]) S.1 S.2.1 d_Se_weightOf_77 rfl hl (by decide) rfl (fun ls hl => ?_)
              refine lv_iinc (v := nI (i + 1)) (lv' := [(5, .int (nI (i + 1))), (3, .long (lN ((y + (v * 2 ^ (2 * (7 - i)))) + 1099511627776))), (0, .ref (a 2)), (1, .int (nI v)), (2, .int (nI t))]) S.1 S.2.1 d_Se_weightOf_78 hl (k := 4) rfl (by rw [show Int32.ofInt 1 = nI 1 from rfl, nI_add]) (by decide) rfl (fun ls hl => ?_)
              refine lv_goto (tgt := 5) S.1 S.2.1 d_Se_weightOf_81 (by decide) ?_
              exact ih_5 ((y + (v * 2 ^ (2 * (7 - i)))) + 1099511627776) (i + 1) (by omega) (by rw [ey]; simp [ds_acc, h_23, h_66]) (by simp [ds_bad, hb, h_23, h_36]) (by omega) H locs hw ls (lv_sub hl [2, 3, 4, 1, 0] rfl)
            · refine lv_lconst (v := lN 0) S.1 S.2.1 d_Se_weightOf_69 rfl ?_
              refine lv_goto (tgt := 76) S.1 S.2.1 d_Se_weightOf_70 (by decide) ?_
              refine dn_ladd S.1 S.2.1 d_Se_weightOf_76 ?_
              refine lv_lstore_n (lv' := [(3, .long (lN ((y + (v * 2 ^ (2 * (7 - i)))) + 0))), (0, .ref (a 2)), (1, .int (nI v)), (2, .int (nI t)), (5, .int (nI i))]) S.1 S.2.1 d_Se_weightOf_77 rfl hl (by decide) rfl (fun ls hl => ?_)
              refine lv_iinc (v := nI (i + 1)) (lv' := [(5, .int (nI (i + 1))), (3, .long (lN ((y + (v * 2 ^ (2 * (7 - i)))) + 0))), (0, .ref (a 2)), (1, .int (nI v)), (2, .int (nI t))]) S.1 S.2.1 d_Se_weightOf_78 hl (k := 4) rfl (by rw [show Int32.ofInt 1 = nI 1 from rfl, nI_add]) (by decide) rfl (fun ls hl => ?_)
              refine lv_goto (tgt := 5) S.1 S.2.1 d_Se_weightOf_81 (by decide) ?_
              exact ih_5 ((y + (v * 2 ^ (2 * (7 - i)))) + 0) (i + 1) (by omega) (by rw [ey]; simp [ds_acc, h_23, h_66]) (by simp [ds_bad, hb, h_23, h_36]) (by omega) H locs hw ls (lv_sub hl [2, 3, 4, 1, 0] rfl)
          · refine lv_ldc2 (v := lN 1152921504606846976) S.1 S.2.1 S.2.2.2.1 (S.2.2.2.2 _ wd_229) d_Se_weightOf_39 ?_
            exact hret H locs _ ls _ _ hw (⟨by rw [show ds_wt f v t = 1152921504606846976 by unfold ds_wt; rw [if_pos (ds_bad_mono (i := i + 1) (by simp [ds_bad, h_23, h_36]) (by omega))]], f 21, dw_su_self.symm⟩) d_Se_weightOf_42
  exact loop_5 _ 0 0 (Nat.zero_le _) (rfl) (rfl) (Nat.lt_succ_self _) H locs hw ls (lv_sub hl [2, 3, 4, 1, 0] rfl)
set_option maxHeartbeats 4000000 in
set_option maxRecDepth 100000 in
theorem c_join (l : Launch) (D : va_G) (g : Nat → ClassId) (a : Nat → Nat) (f : Nat → Nat → Nat) (q : Nat) (hq : 1 ≤ q ∧ q ≤ 256) (hB : ∀ z, z < q → f 53 z ≤ 1152921504606846976 ∧ f 52 z ≤ 1152921504606846976) : ds_V l D g a y_Se_join b_Se_join 6 1 24 [.ref (a 2), .int (nI q)] f (fun u => ∃ h : Nat → Nat, u = dw_su f 53 h ∧ ∀ z, z < q → h z = dp_join (f 53) (f 52) z) := by
  refine dw_ofV (by decide) (Nat.le_of_ble_eq_true rfl) ?_
  intro p e s m args below meth c ls A Q R H locs hR hA S hN hw hl hret
  have hl : lv_has ls 6 [(0, .ref (a 2)), (1, .int (nI q))] := hl
  have S : CallFix p m c b_Se_join 6 s args ds_T R_Se := S
  refine lv_iload_n S.1 S.2.1 d_Se_join_0 rfl (lv_at hl 1 rfl) ?_
  refine lv_iconst (v := nI 1) S.1 S.2.1 d_Se_join_1 (by decide) ?_
  refine dn_isub S.1 S.2.1 (by omega) d_Se_join_2 ?_
  refine lv_istore_n (lv' := [(2, .int (nI (q - 1))), (0, .ref (a 2)), (1, .int (nI q))]) S.1 S.2.1 d_Se_join_3 rfl hl (by decide) rfl (fun ls hl => ?_)
  have loop_4 : ∀ (n : Nat) (t : Nat) (f2 : Nat → Nat → Nat) (h : Nat → Nat) (ht : t < q) (hh : f2 = dw_su f 53 h) (hA1 : ∀ z, t < z → z < q → h z = dp_join (f 53) (f 52) z) (hA2 : ∀ z, z ≤ t → h z = f 53 z) (_ : t < n) (H : Heap) (locs : List Loc), dw_W D classes (ds_tys g) A s.heap (dw_l 77 (ds_ce g a) a f2) s H locs → ∀ (ls : Array Slot), lv_has ls 6 [(0, .ref (a 2)), (1, .int (nI q)), (2, .int (nI t))] → W p l e R s m args below meth c H locs 0 0 Q (F0 m 4 ls []) := by
    intro n
    induction n with
    | zero => intro t f2 h ht hh hA1 hA2 h9; exact absurd h9 (Nat.not_lt_zero _)
    | succ n ih_4 =>
      intro t f2 h ht hh hA1 hA2 hm_4 H locs hw ls hl
      refine lv_iload_n S.1 S.2.1 d_Se_join_4 rfl (lv_at hl 2 rfl) ?_
      refine dn_if_le S.1 S.2.1 69 (by omega) d_Se_join_5 (by decide) (fun h_5 => ?_) (fun h_5 => ?_)
      · exact hret H locs _ ls _  hw (⟨h, hh, fun z hz => by
    by_cases ez : z = 0
    · rw [ez, dp_join0]; exact hA2 0 (by omega)
    · exact hA1 z (by omega) hz⟩) d_Se_join_69
      · have q53 : f2 53 t = f 53 t := by rw [hh, dw_su_eq]; exact hA2 t (Nat.le_refl _)
        refine lv_aload_n S.1 S.2.1 d_Se_join_8 rfl (lv_at hl 0 rfl) ?_
        refine dw_getf (fi := 2) (v := .ref (a 53)) S hw i_Se ds_ob2 (by decide) rfl wd_106 rfl d_Se_join_9 ?_
        refine lv_iload_n S.1 S.2.1 d_Se_join_12 rfl (lv_at hl 2 rfl) ?_
        refine dw_lald S.1 S.2.1 hw ds_k53 (by omega) d_Se_join_13 ?_
        refine lv_lstore_n (lv' := [(3, .long (lN (f2 53 t))), (0, .ref (a 2)), (1, .int (nI q)), (2, .int (nI t))]) S.1 S.2.1 d_Se_join_14 rfl hl (by decide) rfl (fun ls hl => ?_)
        refine lv_iload_n S.1 S.2.1 d_Se_join_15 rfl (lv_at hl 3 rfl) ?_
        refine lv_istore (lv' := [(5, .int (nI t)), (3, .long (lN (f2 53 t))), (0, .ref (a 2)), (1, .int (nI q)), (2, .int (nI t))]) S.1 S.2.1 d_Se_join_16 hl (by decide) rfl (fun ls hl => ?_)
        have loop_18 : ∀ (n : Nat) (y : Nat) (d : Nat) (hd : d &&& t = d) (hE : dp_part (f 53) (f 52) t (d + 1) d y = dp_join (f 53) (f 52) t) (hy : y ≤ 1152921504606846976) (_ : d < n) (H : Heap) (locs : List Loc), dw_W D classes (ds_tys g) A s.heap (dw_l 77 (ds_ce g a) a f2) s H locs → ∀ (ls : Array Slot), lv_has ls 6 [(0, .ref (a 2)), (1, .int (nI q)), (2, .int (nI t)), (3, .long (lN y)), (5, .int (nI d))] → W p l e R s m args below meth c H locs 0 0 Q (F0 m 18 ls []) := by
          intro n
          induction n with
          | zero => intro y d hd hE hy h9; exact absurd h9 (Nat.not_lt_zero _)
          | succ n ih_18 =>
            intro y d hd hE hy hm_18 H locs hw ls hl
            have dt : d ≤ t := by have h1 : d &&& t ≤ t := Nat.and_le_right; rwa [hd] at h1
            refine lv_iload S.1 S.2.1 d_Se_join_18 (lv_at hl 4 rfl) ?_
            refine dn_if_le S.1 S.2.1 56 (by omega) d_Se_join_20 (by decide) (fun h_20 => ?_) (fun h_20 => ?_)
            · refine lv_aload_n S.1 S.2.1 d_Se_join_56 rfl (lv_at hl 0 rfl) ?_
              refine dw_getf (fi := 2) (v := .ref (a 53)) S hw i_Se ds_ob2 (by decide) rfl wd_106 rfl d_Se_join_57 ?_
              refine lv_iload_n S.1 S.2.1 d_Se_join_60 rfl (lv_at hl 2 rfl) ?_
              refine lv_lload_n S.1 S.2.1 d_Se_join_61 rfl (lv_at hl 3 rfl) ?_
              refine dw_last S.1 S.2.1 hw ds_k53 (by omega) d_Se_join_62 (fun f_1 H locs ef_1 hw => ?_)
              refine lv_iinc (v := nI (t - 1)) (lv' := [(2, .int (nI (t - 1))), (0, .ref (a 2)), (1, .int (nI q)), (3, .long (lN y)), (5, .int (nI d))]) S.1 S.2.1 d_Se_join_63 hl (k := 2) rfl (by rw [show Int32.ofInt (-1) = -1 from rfl]; exact sb_m1 h_5) (by decide) rfl (fun ls hl => ?_)
              refine lv_goto (tgt := 4) S.1 S.2.1 d_Se_join_66 (by decide) ?_
              exact ih_4 (t - 1) f_1 (dw_up h t y) (by omega) (by rw [ef_1, hh, dw_w_su]) (fun z h1 h2 => by
    by_cases ez : z = t
    · rw [ez, dw_up_eq, ← hE, h_20]; rfl
    · rw [dw_up_ne ez]; exact hA1 z (by omega) h2) (fun z hz => by rw [dw_up_ne (by omega)]; exact hA2 z (by omega)) (by omega) H locs hw ls (lv_sub hl [1, 2, 0] rfl)
            · have xl := dp_xor_lt hd h_20
              have b53 : f2 53 (t ^^^ d) = f 53 (t ^^^ d) := by rw [hh, dw_su_eq]; exact hA2 _ (by omega)
              have b52 : f2 52 d = f 52 d := by rw [hh, dw_su_ne (by decide)]
              have c1 := hB (t ^^^ d) (by omega)
              have c2 := hB d (by omega)
              have nl : (d - 1) &&& t ≤ d - 1 := Nat.and_le_left
              refine lv_lload_n S.1 S.2.1 d_Se_join_23 rfl (lv_at hl 3 rfl) ?_
              refine lv_aload_n S.1 S.2.1 d_Se_join_24 rfl (lv_at hl 0 rfl) ?_
              refine dw_getf (fi := 2) (v := .ref (a 53)) S hw i_Se ds_ob2 (by decide) rfl wd_106 rfl d_Se_join_25 ?_
              refine lv_iload_n S.1 S.2.1 d_Se_join_28 rfl (lv_at hl 2 rfl) ?_
              refine lv_iload S.1 S.2.1 d_Se_join_29 (lv_at hl 4 rfl) ?_
              refine dn_ixor S.1 S.2.1 d_Se_join_31 ?_
              refine dw_lald S.1 S.2.1 hw ds_k53 (by omega) d_Se_join_32 ?_
              refine lv_aload_n S.1 S.2.1 d_Se_join_33 rfl (lv_at hl 0 rfl) ?_
              refine dw_getf (fi := 1) (v := .ref (a 52)) S hw i_Se ds_ob2 (by decide) rfl wd_105 rfl d_Se_join_34 ?_
              refine lv_iload S.1 S.2.1 d_Se_join_37 (lv_at hl 4 rfl) ?_
              refine dw_lald S.1 S.2.1 hw ds_k52 (by omega) d_Se_join_39 ?_
              refine dn_ladd S.1 S.2.1 d_Se_join_40 ?_
              refine va_mmin_long (rest := []) S.1 S.2.1 (S.2.2.1.trans hl.1.symm) S.2.2.2.1 (S.2.2.2.2 _ wd_254) (S.2.2.2.2 _ wd_255) (S.2.2.2.2 _ wd_7) (S.2.2.2.2 _ wd_256) (Nat.le_trans (Nat.le_of_ble_eq_true rfl) hR.1) (Nat.le_trans (Nat.le_of_ble_eq_true rfl) hR.2) (Nat.zero_le _) (Nat.zero_le _) d_Se_join_41 ?_
              refine ds_topl (w := lN (min y ((f2 53 (t ^^^ d)) + (f2 52 d)))) (ds_minl (by omega) (by omega)) ?_
              refine lv_lstore_n (lv' := [(3, .long (lN (min y ((f2 53 (t ^^^ d)) + (f2 52 d))))), (0, .ref (a 2)), (1, .int (nI q)), (2, .int (nI t)), (5, .int (nI d))]) S.1 S.2.1 d_Se_join_44 rfl hl (by decide) rfl (fun ls hl => ?_)
              refine lv_iload S.1 S.2.1 d_Se_join_45 (lv_at hl 4 rfl) ?_
              refine lv_iconst (v := nI 1) S.1 S.2.1 d_Se_join_47 (by decide) ?_
              refine dn_isub S.1 S.2.1 (by omega) d_Se_join_48 ?_
              refine lv_iload_n S.1 S.2.1 d_Se_join_49 rfl (lv_at hl 3 rfl) ?_
              refine dn_iand S.1 S.2.1 d_Se_join_50 ?_
              refine lv_istore (lv' := [(5, .int (nI ((d - 1) &&& t))), (3, .long (lN (min y ((f2 53 (t ^^^ d)) + (f2 52 d))))), (0, .ref (a 2)), (1, .int (nI q)), (2, .int (nI t))]) S.1 S.2.1 d_Se_join_51 hl (by decide) rfl (fun ls hl => ?_)
              refine lv_goto (tgt := 18) S.1 S.2.1 d_Se_join_53 (by decide) ?_
              exact ih_18 (min y ((f2 53 (t ^^^ d)) + (f2 52 d))) ((d - 1) &&& t) (by rw [Nat.and_assoc, Nat.and_self]) (by rw [← hE, b53, b52, show dp_part (f 53) (f 52) t (d + 1) d y = if d = 0 then y else dp_part (f 53) (f 52) t d ((d - 1) &&& t) (min y (f 53 (t ^^^ d) + f 52 d)) from rfl, if_neg (by omega), dp_part_fuel d _ _ (by omega)]) (Nat.le_trans (Nat.min_le_left _ _) hy) (by omega) H locs hw ls (lv_sub hl [2, 3, 4, 1, 0] rfl)
        exact loop_18 _ (f2 53 t) t (Nat.and_self _) (by rw [q53]; rfl) (by rw [q53]; exact (hB t ht).1) (Nat.lt_succ_self _) H locs hw ls (lv_sub hl [2, 3, 4, 1, 0] rfl)
  exact loop_4 _ (q - 1) f (f 53) (by omega) (dw_su_self.symm) (fun z h1 h2 => by omega) (fun _ _ => rfl) (Nat.lt_succ_self _) H locs hw ls (lv_sub hl [1, 2, 0] rfl)
set_option maxHeartbeats 4000000 in
set_option maxRecDepth 100000 in
theorem c_least (l : Launch) (D : va_G) (g : Nat → ClassId) (a : Nat → Nat) (f : Nat → Nat → Nat)  (ok : ds_ok f) : ds_L l D g a y_Se_least b_Se_least 4 4 100 [.ref (a 2)] f (fun r u => r = lN (dp_tab (ds_wt f) (f 1 0) (f 1 0) (2 ^ f 1 1 - 1)) ∧ ∀ k, k ≠ 21 → k ≠ 52 → k ≠ 53 → u k = f k) := by
  refine dw_ofL (by decide) (Nat.le_of_ble_eq_true rfl) ?_
  intro p e s m args below meth c ls A Q R H locs hR hA S hN hw hl hret
  have hl : lv_has ls 4 [(0, .ref (a 2))] := hl
  have S : CallFix p m c b_Se_least 4 s args ds_T R_Se := S
  obtain ⟨hV, hn, hex, hst, hve, hwy, hw0, hrw⟩ := id ok
  have p1 : 1 ≤ 1 * 2 ^ f 1 1 := by rw [Nat.one_mul]; exact Nat.one_le_two_pow
  have p2 : 1 * 2 ^ f 1 1 ≤ 256 := by rw [Nat.one_mul]; exact (Nat.pow_le_pow_right (by decide) hn : 2 ^ f 1 1 ≤ 2 ^ 8)
  obtain ⟨q, eq⟩ : ∃ z, z = 1 * 2 ^ f 1 1 := ⟨_, rfl⟩
  rw [← eq] at p1 p2
  refine lv_iconst (v := nI 1) S.1 S.2.1 d_Se_least_0 (by decide) ?_
  refine lv_aload_n S.1 S.2.1 d_Se_least_1 rfl (lv_at hl 0 rfl) ?_
  refine dw_getf (fi := 0) (v := .ref (a 1)) S hw i_Se ds_ob2 (by decide) rfl wd_104 rfl d_Se_least_2 ?_
  refine dw_getN (fi := 1) (v := .int (nI (f 1 1))) S hw i_Day ds_ob1 (by decide) rfl hN wd_36 rfl d_Se_least_5 ?_
  refine dn_ishl S.1 S.2.1 (by omega) (by rw [← eq]; omega) d_Se_least_8 ?_
  refine ds_topi (w := nI q) (by rw [eq]) ?_
  refine lv_istore_n (lv' := [(1, .int (nI q)), (0, .ref (a 2))]) S.1 S.2.1 d_Se_least_9 rfl hl (by decide) rfl (fun ls hl => ?_)
  refine lv_iconst (v := nI 0) S.1 S.2.1 d_Se_least_10 (by decide) ?_
  refine lv_istore_n (lv' := [(2, .int (nI 0)), (1, .int (nI q)), (0, .ref (a 2))]) S.1 S.2.1 d_Se_least_11 rfl hl (by decide) rfl (fun ls hl => ?_)
  have loop_12 : ∀ (n : Nat) (z : Nat) (f2 : Nat → Nat → Nat) (hz : z ≤ q) (hg : (∀ k, k ≠ 21 → k ≠ 52 → k ≠ 53 → f2 k = f k)) (hT : ∀ y, y < z → f2 53 y = dp_tab (ds_wt f) (f 1 0) 0 y) (_ : q - z < n) (H : Heap) (locs : List Loc), dw_W D classes (ds_tys g) A s.heap (dw_l 77 (ds_ce g a) a f2) s H locs → ∀ (ls : Array Slot), lv_has ls 4 [(0, .ref (a 2)), (1, .int (nI q)), (2, .int (nI z))] → W p l e R s m args below meth c H locs 0 0 Q (F0 m 12 ls []) := by
    intro n
    induction n with
    | zero => intro z f2 hz hg hT h9; exact absurd h9 (Nat.not_lt_zero _)
    | succ n ih_12 =>
      intro z f2 hz hg hT hm_12 H locs hw ls hl
      have ag : ∀ k, ¬ ds_scr k → f2 k = f k := fun k hk => hg k (fun e => hk (by rw [e]; unfold ds_scr; omega)) (fun e => hk (by rw [e]; unfold ds_scr; omega)) (fun e => hk (by rw [e]; unfold ds_scr; omega))
      have ok2 := ds_ok_congr ag ok
      have o1 : f2 1 = f 1 := hg 1 (by decide) (by decide) (by decide)
      refine lv_iload_n S.1 S.2.1 d_Se_least_12 rfl (lv_at hl 2 rfl) ?_
      refine lv_iload_n S.1 S.2.1 d_Se_least_13 rfl (lv_at hl 1 rfl) ?_
      refine dn_icmp_ge S.1 S.2.1 41 (by omega) (by omega) d_Se_least_14 (by decide) (fun h_14 => ?_) (fun h_14 => ?_)
      · refine lv_iconst (v := nI 0) S.1 S.2.1 d_Se_least_41 (by decide) ?_
        refine lv_istore_n (lv' := [(2, .int (nI 0)), (0, .ref (a 2)), (1, .int (nI q))]) S.1 S.2.1 d_Se_least_42 rfl hl (by decide) rfl (fun ls hl => ?_)
        have loop_43 : ∀ (n : Nat) (w : Nat) (f2 : Nat → Nat → Nat) (hw3 : w ≤ f 1 0) (hg : (∀ k, k ≠ 21 → k ≠ 52 → k ≠ 53 → f2 k = f k)) (hT : ∀ y, y < q → f2 53 y = dp_tab (ds_wt f) (f 1 0) w y) (_ : f 1 0 - w < n) (H : Heap) (locs : List Loc), dw_W D classes (ds_tys g) A s.heap (dw_l 77 (ds_ce g a) a f2) s H locs → ∀ (ls : Array Slot), lv_has ls 4 [(0, .ref (a 2)), (1, .int (nI q)), (2, .int (nI w))] → W p l e R s m args below meth c H locs 0 0 Q (F0 m 43 ls []) := by
          intro n
          induction n with
          | zero => intro w f2 hw3 hg hT h9; exact absurd h9 (Nat.not_lt_zero _)
          | succ n ih_43 =>
            intro w f2 hw3 hg hT hm_43 H locs hw ls hl
            have o1 : f2 1 = f 1 := hg 1 (by decide) (by decide) (by decide)
            have o2 : f2 1 0 = f 1 0 := by rw [o1]
            refine lv_iload_n S.1 S.2.1 d_Se_least_43 rfl (lv_at hl 2 rfl) ?_
            refine lv_aload_n S.1 S.2.1 d_Se_least_44 rfl (lv_at hl 0 rfl) ?_
            refine dw_getf (fi := 0) (v := .ref (a 1)) S hw i_Se ds_ob2 (by decide) rfl wd_104 rfl d_Se_least_45 ?_
            refine dw_getN (fi := 0) (v := .int (nI (f2 1 0))) S hw i_Day ds_ob1 (by decide) rfl hN wd_33 rfl d_Se_least_48 ?_
            refine dn_icmp_ge S.1 S.2.1 90 (by omega) (by omega) d_Se_least_51 (by decide) (fun h_51 => ?_) (fun h_51 => ?_)
            · refine lv_aload_n S.1 S.2.1 d_Se_least_90 rfl (lv_at hl 0 rfl) ?_
              refine dw_getf (fi := 2) (v := .ref (a 53)) S hw i_Se ds_ob2 (by decide) rfl wd_106 rfl d_Se_least_91 ?_
              refine lv_iload_n S.1 S.2.1 d_Se_least_94 rfl (lv_at hl 1 rfl) ?_
              refine lv_iconst (v := nI 1) S.1 S.2.1 d_Se_least_95 (by decide) ?_
              refine dn_isub S.1 S.2.1 (by omega) d_Se_least_96 ?_
              refine dw_lald S.1 S.2.1 hw ds_k53 (by omega) d_Se_least_97 ?_
              exact hret H locs _ ls _ _ hw (⟨by rw [hT (q - 1) (by omega), show w = f 1 0 by omega, show q - 1 = 2 ^ f 1 1 - 1 by rw [eq, Nat.one_mul]], hg⟩) d_Se_least_98
            · refine lv_iconst (v := nI 0) S.1 S.2.1 d_Se_least_54 (by decide) ?_
              refine lv_istore_n (lv' := [(3, .int (nI 0)), (0, .ref (a 2)), (1, .int (nI q)), (2, .int (nI w))]) S.1 S.2.1 d_Se_least_55 rfl hl (by decide) rfl (fun ls hl => ?_)
              have loop_56 : ∀ (n : Nat) (z : Nat) (f2 : Nat → Nat → Nat) (hz : z ≤ q) (hg : (∀ k, k ≠ 21 → k ≠ 52 → k ≠ 53 → f2 k = f k)) (hT : ∀ y, y < q → f2 53 y = dp_tab (ds_wt f) (f 1 0) w y) (hU : ∀ y, y < z → f2 52 y = ds_wt f w y) (_ : q - z < n) (H : Heap) (locs : List Loc), dw_W D classes (ds_tys g) A s.heap (dw_l 77 (ds_ce g a) a f2) s H locs → ∀ (ls : Array Slot), lv_has ls 4 [(0, .ref (a 2)), (1, .int (nI q)), (2, .int (nI w)), (3, .int (nI z))] → W p l e R s m args below meth c H locs 0 0 Q (F0 m 56 ls []) := by
                intro n
                induction n with
                | zero => intro z f2 hz hg hT hU h9; exact absurd h9 (Nat.not_lt_zero _)
                | succ n ih_56 =>
                  intro z f2 hz hg hT hU hm_56 H locs hw ls hl
                  have ag : ∀ k, ¬ ds_scr k → f2 k = f k := fun k hk => hg k (fun e => hk (by rw [e]; unfold ds_scr; omega)) (fun e => hk (by rw [e]; unfold ds_scr; omega)) (fun e => hk (by rw [e]; unfold ds_scr; omega))
                  have ok2 := ds_ok_congr ag ok
                  have o1 : f2 1 = f 1 := hg 1 (by decide) (by decide) (by decide)
                  have o2 : f2 1 0 = f 1 0 := by rw [o1]
                  refine lv_iload_n S.1 S.2.1 d_Se_least_56 rfl (lv_at hl 3 rfl) ?_
                  refine lv_iload_n S.1 S.2.1 d_Se_least_57 rfl (lv_at hl 1 rfl) ?_
                  refine dn_icmp_ge S.1 S.2.1 79 (by omega) (by omega) d_Se_least_58 (by decide) (fun h_58 => ?_) (fun h_58 => ?_)
                  · refine lv_aload_n S.1 S.2.1 d_Se_least_79 rfl (lv_at hl 0 rfl) ?_
                    refine lv_iload_n S.1 S.2.1 d_Se_least_80 rfl (lv_at hl 1 rfl) ?_
                    refine dw_aftv hw hA (dw_runV (As := [.int (nI q)]) (rest := []) (ko := 2) hw S ds_good (c_join l D g a f2 q (⟨p1, p2⟩) (fun y hy => by rw [hT y hy, hU y (by omega)]; exact ⟨dp_tab_b (fun v2 hv2 y2 => ds_wt_b ok hv2) (by omega) y, ds_wt_b ok (by omega)⟩) H.size) cw_Se_join wd_250 wd_252 ws_Se_join ds_ob2 dw_blind (dw_pre hw hN) rfl hl.1 rfl ⟨Nat.le_trans (Nat.le_of_ble_eq_true rfl) hR.1, Nat.le_trans (Nat.le_of_ble_eq_true rfl) hR.2⟩ (Nat.le_of_ble_eq_true rfl) ⟨Nat.zero_le _, Nat.zero_le _⟩ d_Se_least_81) (fun f_1 H locs hp hw => ?_)
                    obtain ⟨hj, ef_1, hjz⟩ := hp
                    refine lv_iinc (v := nI (w + 1)) (lv' := [(2, .int (nI (w + 1))), (0, .ref (a 2)), (1, .int (nI q)), (3, .int (nI z))]) S.1 S.2.1 d_Se_least_84 hl (k := 2) rfl (by rw [show Int32.ofInt 1 = nI 1 from rfl, nI_add]) (by decide) rfl (fun ls hl => ?_)
                    refine lv_goto (tgt := 43) S.1 S.2.1 d_Se_least_87 (by decide) ?_
                    exact ih_43 (w + 1) f_1 (by omega) (fun k h1 h2 h3 => by rw [ef_1, dw_su_ne h3]; exact hg k h1 h2 h3) (fun y hy => by rw [ef_1, dw_su_eq, hjz y hy]; exact dp_join_congr (fun z hz => hT z (by omega)) (fun z hz => hU z (by omega))) (by omega) H locs hw ls (lv_sub hl [1, 2, 0] rfl)
                  · refine lv_aload_n S.1 S.2.1 d_Se_least_61 rfl (lv_at hl 0 rfl) ?_
                    refine dw_getf (fi := 1) (v := .ref (a 52)) S hw i_Se ds_ob2 (by decide) rfl wd_105 rfl d_Se_least_62 ?_
                    refine lv_iload_n S.1 S.2.1 d_Se_least_65 rfl (lv_at hl 3 rfl) ?_
                    refine lv_aload_n S.1 S.2.1 d_Se_least_66 rfl (lv_at hl 0 rfl) ?_
                    refine lv_iload_n S.1 S.2.1 d_Se_least_67 rfl (lv_at hl 2 rfl) ?_
                    refine lv_iload_n S.1 S.2.1 d_Se_least_68 rfl (lv_at hl 3 rfl) ?_
                    refine dw_aftl hw hA (dw_runV (As := [.int (nI w), .int (nI z)]) (rest := [.int (nI z), .ref (a 52)]) (ko := 2) hw S ds_good (c_weightOf l D g a f2 w z (ok2) (by omega) (by omega) H.size) cw_Se_weightOf wd_214 wd_216 ws_Se_weightOf ds_ob2 dw_blind (dw_pre hw hN) rfl hl.1 rfl ⟨Nat.le_trans (Nat.le_of_ble_eq_true rfl) hR.1, Nat.le_trans (Nat.le_of_ble_eq_true rfl) hR.2⟩ (Nat.le_of_ble_eq_true rfl) ⟨Nat.zero_le _, Nat.zero_le _⟩ d_Se_least_69) (fun r_69 f_2 H locs hp hw => ?_)
                    obtain ⟨er, h, ef_2⟩ := hp
                    subst er
                    have eF := ef_2
                    refine dw_last S.1 S.2.1 hw ds_k52 (by omega) d_Se_least_72 (fun f_3 H locs ef_3 hw => ?_)
                    refine lv_iinc (v := nI (z + 1)) (lv' := [(3, .int (nI (z + 1))), (0, .ref (a 2)), (1, .int (nI q)), (2, .int (nI w))]) S.1 S.2.1 d_Se_least_73 hl (k := 3) rfl (by rw [show Int32.ofInt 1 = nI 1 from rfl, nI_add]) (by decide) rfl (fun ls hl => ?_)
                    refine lv_goto (tgt := 56) S.1 S.2.1 d_Se_least_76 (by decide) ?_
                    exact ih_56 (z + 1) f_3 (by omega) (fun k h1 h2 h3 => by rw [ef_3, dw_w_ne h2, eF, dw_su_ne h1]; exact hg k h1 h2 h3) (fun y hy => by rw [ef_3, dw_w_ne (by decide), eF, dw_su_ne (by decide)]; exact hT y hy) (fun y hy => by
    rw [ef_3, dw_w_eq]
    by_cases ez : y = z
    · rw [ez, dw_up_eq]; exact ds_wt_congr ag ok (by omega) z
    · rw [dw_up_ne ez, eF, dw_su_ne (by decide)]; exact hU y (by omega)) (by omega) H locs hw ls (lv_sub hl [1, 2, 3, 0] rfl)
              exact loop_56 _ 0 f2 (Nat.zero_le _) (hg) (hT) (fun y hy => absurd hy (Nat.not_lt_zero _)) (Nat.lt_succ_self _) H locs hw ls (lv_sub hl [1, 2, 3, 0] rfl)
        exact loop_43 _ 0 f2 (Nat.zero_le _) (hg) (fun y hy => hT y (by omega)) (Nat.lt_succ_self _) H locs hw ls (lv_sub hl [1, 2, 0] rfl)
      · refine lv_aload_n S.1 S.2.1 d_Se_least_17 rfl (lv_at hl 0 rfl) ?_
        refine dw_getf (fi := 2) (v := .ref (a 53)) S hw i_Se ds_ob2 (by decide) rfl wd_106 rfl d_Se_least_18 ?_
        refine lv_iload_n S.1 S.2.1 d_Se_least_21 rfl (lv_at hl 2 rfl) ?_
        refine lv_aload_n S.1 S.2.1 d_Se_least_22 rfl (lv_at hl 0 rfl) ?_
        refine lv_aload_n S.1 S.2.1 d_Se_least_23 rfl (lv_at hl 0 rfl) ?_
        refine dw_getf (fi := 0) (v := .ref (a 1)) S hw i_Se ds_ob2 (by decide) rfl wd_104 rfl d_Se_least_24 ?_
        refine dw_getN (fi := 0) (v := .int (nI (f2 1 0))) S hw i_Day ds_ob1 (by decide) rfl hN wd_33 rfl d_Se_least_27 ?_
        refine lv_iload_n S.1 S.2.1 d_Se_least_30 rfl (lv_at hl 2 rfl) ?_
        refine dw_aftl hw hA (dw_runV (As := [.int (nI (f2 1 0)), .int (nI z)]) (rest := [.int (nI z), .ref (a 53)]) (ko := 2) hw S ds_good (c_weightOf l D g a f2 (f2 1 0) z (ok2) (Nat.le_refl _) (by omega) H.size) cw_Se_weightOf wd_214 wd_216 ws_Se_weightOf ds_ob2 dw_blind (dw_pre hw hN) rfl hl.1 rfl ⟨Nat.le_trans (Nat.le_of_ble_eq_true rfl) hR.1, Nat.le_trans (Nat.le_of_ble_eq_true rfl) hR.2⟩ (Nat.le_of_ble_eq_true rfl) ⟨Nat.zero_le _, Nat.zero_le _⟩ d_Se_least_31) (fun r_31 f_4 H locs hp hw => ?_)
        obtain ⟨er, h, ef_4⟩ := hp
        subst er
        have eF := ef_4
        refine dw_last S.1 S.2.1 hw ds_k53 (by omega) d_Se_least_34 (fun f_5 H locs ef_5 hw => ?_)
        refine lv_iinc (v := nI (z + 1)) (lv' := [(2, .int (nI (z + 1))), (0, .ref (a 2)), (1, .int (nI q))]) S.1 S.2.1 d_Se_least_35 hl (k := 2) rfl (by rw [show Int32.ofInt 1 = nI 1 from rfl, nI_add]) (by decide) rfl (fun ls hl => ?_)
        refine lv_goto (tgt := 12) S.1 S.2.1 d_Se_least_38 (by decide) ?_
        exact ih_12 (z + 1) f_5 (by omega) (fun k h1 h2 h3 => by rw [ef_5, dw_w_ne h3, eF, dw_su_ne h1]; exact hg k h1 h2 h3) (fun y hy => by
    rw [ef_5, dw_w_eq]
    by_cases ez : y = z
    · rw [ez, dw_up_eq]; rw [o1]; exact ds_wt_congr ag ok (Nat.le_refl _) z
    · rw [dw_up_ne ez, eF, dw_su_ne (by decide)]; exact hT y (by omega)) (by omega) H locs hw ls (lv_sub hl [1, 2, 0] rfl)
  exact loop_12 _ 0 f (Nat.zero_le _) (fun _ _ _ _ => rfl) (fun y hy => absurd hy (Nat.not_lt_zero _)) (Nat.lt_succ_self _) H locs hw ls (lv_sub hl [2, 1, 0] rfl)
end
section
/-! contracts of the shelves -/
set_option maxHeartbeats 4000000 in
set_option maxRecDepth 100000 in
theorem c_putLatest3 (l : Launch) (D : va_G) (g : Nat → ClassId) (a : Nat → Nat) (f : Nat → Nat → Nat) (y : Nat) (hc : f 3 2 ≤ 6) : ds_V l D g a y_Sh_putLatest b_Sh_putLatest 4 1 40 [.ref (a 3), .ref (a 5), .int (nI y)] f (fun u => ∃ kk dd : Nat, ((f 3 2 < 6 ∧ kk = f 3 2 ∧ dd = 0) ∨ (f 3 2 = 6 ∧ kk = 5 ∧ dd = 1)) ∧ u 3 2 = kk + 1 ∧ (∀ j, j < kk → (∀ t, t < 8 → u (39 + j) t = f (39 + (j + dd)) t) ∧ u 45 j = f 45 (j + dd)) ∧ (∀ t, t < 8 → u (39 + kk) t = f 5 t) ∧ u 45 kk = y ∧ (∀ k, k ≠ 3 → k ≠ 45 → ¬ (39 ≤ k ∧ k < 45) → u k = f k)) := by
  refine dw_ofV (by decide) (Nat.le_of_ble_eq_true rfl) ?_
  intro p e s m args below meth c ls A Q R H locs hR hA S hN hw hl hret
  have hl : lv_has ls 4 [(0, .ref (a 3)), (1, .ref (a 5)), (2, .int (nI y))] := hl
  have S : CallFix p m c b_Sh_putLatest 4 s args ds_T R_Sh := S
  refine lv_aload_n S.1 S.2.1 d_Sh_putLatest_0 rfl (lv_at hl 0 rfl) ?_
  refine dw_getf (fi := 2) (v := .int (nI (f 3 2))) S hw i_Sh ds_ob3 (by decide) rfl wd_126 rfl d_Sh_putLatest_1 ?_
  refine lv_aload_n S.1 S.2.1 d_Sh_putLatest_4 rfl (lv_at hl 0 rfl) ?_
  refine dw_getf (fi := 0) (v := .ref (a 38)) S hw i_Sh ds_ob3 (by decide) rfl wd_122 rfl d_Sh_putLatest_5 ?_
  refine dw_alen S.1 S.2.1 hw ds_k38 d_Sh_putLatest_8 ?_
  refine dn_icmp_ne S.1 S.2.1 73 (by omega) (by decide) d_Sh_putLatest_9 (by decide) (fun h_9 => ?_) (fun h_9 => ?_)
  · have cut_73 : ∀ (f2 : Nat → Nat → Nat) (kk : Nat) (dd : Nat) (hkd : (f 3 2 < 6 ∧ kk = f 3 2 ∧ dd = 0) ∨ (f 3 2 = 6 ∧ kk = 5 ∧ dd = 1)) (hsz : f2 3 2 = kk) (hsh : (∀ j, j < kk → (∀ t, t < 8 → f2 (39 + j) t = f (39 + (j + dd)) t) ∧ f2 45 j = f 45 (j + dd))) (hoth : (∀ k, k ≠ 3 → k ≠ 45 → ¬ (39 ≤ k ∧ k < 45) → f2 k = f k)) (H : Heap) (locs : List Loc), dw_W D classes (ds_tys g) A s.heap (dw_l 77 (ds_ce g a) a f2) s H locs → ∀ (ls : Array Slot), lv_has ls 4 [(0, .ref (a 3)), (1, .ref (a 5)), (2, .int (nI y))] → W p l e R s m args below meth c H locs 0 0 Q (F0 m 73 ls []) := by
      intro f2 kk dd hkd hsz hsh hoth H locs hw ls hl
      refine lv_aload_n S.1 S.2.1 d_Sh_putLatest_73 rfl (lv_at hl 1 rfl) ?_
      refine lv_iconst (v := nI 0) S.1 S.2.1 d_Sh_putLatest_74 (by decide) ?_
      refine lv_aload_n S.1 S.2.1 d_Sh_putLatest_75 rfl (lv_at hl 0 rfl) ?_
      refine dw_getf (fi := 0) (v := .ref (a 38)) S hw i_Sh ds_ob3 (by decide) rfl wd_122 rfl d_Sh_putLatest_76 ?_
      refine lv_aload_n S.1 S.2.1 d_Sh_putLatest_79 rfl (lv_at hl 0 rfl) ?_
      refine dw_getf (fi := 2) (v := .int (nI (f2 3 2))) S hw i_Sh ds_ob3 (by decide) rfl wd_126 rfl d_Sh_putLatest_80 ?_
      refine dw_aald S.1 S.2.1 hw ds_k38 (by omega) d_Sh_putLatest_83 ?_
      refine lv_iconst (v := nI 0) S.1 S.2.1 d_Sh_putLatest_84 (by decide) ?_
      refine lv_bipush (v := nI 8) S.1 S.2.1 d_Sh_putLatest_85 (by decide) ?_
      refine dw_copy (rest := []) S hw wd_267 wd_269 wd_268 wd_8 ds_k5 (ds_k39 (by omega)) (by decide) (by decide) hl.1 (Nat.le_trans (Nat.le_of_ble_eq_true rfl) hR.1) (Nat.le_trans (Nat.le_of_ble_eq_true rfl) hR.2) d_Sh_putLatest_87 (fun f_1 H locs ef_1 hw => ?_)
      have eC := ef_1
      rw [hsz] at eC
      have qs : f_1 3 2 = kk := by rw [eC, dw_su_ne (by omega)]; exact hsz
      refine lv_aload_n S.1 S.2.1 d_Sh_putLatest_90 rfl (lv_at hl 0 rfl) ?_
      refine dw_getf (fi := 1) (v := .ref (a 45)) S hw i_Sh ds_ob3 (by decide) rfl wd_124 rfl d_Sh_putLatest_91 ?_
      refine lv_aload_n S.1 S.2.1 d_Sh_putLatest_94 rfl (lv_at hl 0 rfl) ?_
      refine dw_getf (fi := 2) (v := .int (nI (f_1 3 2))) S hw i_Sh ds_ob3 (by decide) rfl wd_126 rfl d_Sh_putLatest_95 ?_
      refine lv_iload_n S.1 S.2.1 d_Sh_putLatest_98 rfl (lv_at hl 2 rfl) ?_
      refine dw_iast S.1 S.2.1 hw ds_k45 (by omega) d_Sh_putLatest_99 (fun f_2 H locs ef_2 hw => ?_)
      have eD := ef_2
      rw [qs] at eD
      have qs2 : f_2 3 2 = kk := by rw [eD, dw_w_ne (by decide)]; exact qs
      refine lv_aload_n S.1 S.2.1 d_Sh_putLatest_100 rfl (lv_at hl 0 rfl) ?_
      refine lv_dup S.1 S.2.1 d_Sh_putLatest_101 rfl ?_
      refine dw_getf (fi := 2) (v := .int (nI (f_2 3 2))) S hw i_Sh ds_ob3 (by decide) rfl wd_126 rfl d_Sh_putLatest_102 ?_
      refine lv_iconst (v := nI 1) S.1 S.2.1 d_Sh_putLatest_105 (by decide) ?_
      refine dn_iadd S.1 S.2.1 d_Sh_putLatest_106 ?_
      refine dw_putf (fi := 2) S hw i_Sh t_Sh t_Sh_ok n_Sh ds_ob3 (by decide) rfl wd_126 rfl (by decide +kernel) (Nat.le_of_ble_eq_true rfl) rfl d_Sh_putLatest_107 (fun f_3 H locs ef_3 hw => ?_)
      exact hret H locs _ ls _  hw (by
    have eE := ef_3
    rw [qs2] at eE
    refine ⟨kk, dd, hkd, by rw [eE, dw_w_eq, dw_up_eq], fun j hj => ⟨fun t ht => ?_, ?_⟩, fun t ht => ?_, ?_, fun k k1 k2 k3 => ?_⟩
    · rw [eE, dw_w_ne (by omega), eD, dw_w_ne (by omega), eC, dw_su_ne (by omega)]; exact (hsh j hj).1 t ht
    · rw [eE, dw_w_ne (by decide), eD, dw_w_eq, dw_up_ne (by omega), eC, dw_su_ne (by omega)]; exact (hsh j hj).2
    · rw [eE, dw_w_ne (by omega), eD, dw_w_ne (by omega), eC, dw_su_eq]; simp only [ht, if_true]; rw [hoth 5 (by decide) (by decide) (by decide)]
    · rw [eE, dw_w_ne (by decide), eD, dw_w_eq, dw_up_eq]
    · rw [eE, dw_w_ne k1, eD, dw_w_ne k2, eC, dw_su_ne (by omega)]; exact hoth k k1 k2 k3) d_Sh_putLatest_110
    exact cut_73 f (f 3 2) 0 (Or.inl ⟨by omega, rfl, rfl⟩) (rfl) (fun _ _ => ⟨fun _ _ => rfl, rfl⟩) (fun _ _ _ _ => rfl) H locs hw ls (lv_sub hl [0, 1, 2] rfl)
  · refine lv_iconst (v := nI 1) S.1 S.2.1 d_Sh_putLatest_12 (by decide) ?_
    refine lv_istore_n (lv' := [(3, .int (nI 1)), (0, .ref (a 3)), (1, .ref (a 5)), (2, .int (nI y))]) S.1 S.2.1 d_Sh_putLatest_13 rfl hl (by decide) rfl (fun ls hl => ?_)
    have loop_14 : ∀ (n : Nat) (i : Nat) (f2 : Nat → Nat → Nat) (hi : 1 ≤ i ∧ i ≤ 6) (h1 : ∀ j, j + 1 < i → (∀ t, t < 8 → f2 (39 + j) t = f (39 + (j + 1)) t) ∧ f2 45 j = f 45 (j + 1)) (h2 : ∀ j, i ≤ j + 1 → j < 6 → f2 (39 + j) = f (39 + j) ∧ f2 45 j = f 45 j) (h3 : (∀ k, k ≠ 3 → k ≠ 45 → ¬ (39 ≤ k ∧ k < 45) → f2 k = f k)) (h4 : f2 3 2 = 6) (_ : 6 - i < n) (H : Heap) (locs : List Loc), dw_W D classes (ds_tys g) A s.heap (dw_l 77 (ds_ce g a) a f2) s H locs → ∀ (ls : Array Slot), lv_has ls 4 [(0, .ref (a 3)), (1, .ref (a 5)), (2, .int (nI y)), (3, .int (nI i))] → W p l e R s m args below meth c H locs 0 0 Q (F0 m 14 ls []) := by
      intro n
      induction n with
      | zero => intro i f2 hi h1 h2 h3 h4 h9; exact absurd h9 (Nat.not_lt_zero _)
      | succ n ih_14 =>
        intro i f2 hi h1 h2 h3 h4 hm_14 H locs hw ls hl
        refine lv_iload_n S.1 S.2.1 d_Sh_putLatest_14 rfl (lv_at hl 3 rfl) ?_
        refine lv_aload_n S.1 S.2.1 d_Sh_putLatest_15 rfl (lv_at hl 0 rfl) ?_
        refine dw_getf (fi := 2) (v := .int (nI (f2 3 2))) S hw i_Sh ds_ob3 (by decide) rfl wd_126 rfl d_Sh_putLatest_16 ?_
        refine dn_icmp_ge S.1 S.2.1 63 (by omega) (by omega) d_Sh_putLatest_19 (by decide) (fun h_19 => ?_) (fun h_19 => ?_)
        · refine lv_aload_n S.1 S.2.1 d_Sh_putLatest_63 rfl (lv_at hl 0 rfl) ?_
          refine lv_dup S.1 S.2.1 d_Sh_putLatest_64 rfl ?_
          refine dw_getf (fi := 2) (v := .int (nI (f2 3 2))) S hw i_Sh ds_ob3 (by decide) rfl wd_126 rfl d_Sh_putLatest_65 ?_
          refine lv_iconst (v := nI 1) S.1 S.2.1 d_Sh_putLatest_68 (by decide) ?_
          refine dn_isub S.1 S.2.1 (by omega) d_Sh_putLatest_69 ?_
          refine dw_putf (fi := 2) S hw i_Sh t_Sh t_Sh_ok n_Sh ds_ob3 (by decide) rfl wd_126 rfl (by decide +kernel) (Nat.le_of_ble_eq_true rfl) rfl d_Sh_putLatest_70 (fun f_4 H locs ef_4 hw => ?_)
          have cut_73 : ∀ (f2 : Nat → Nat → Nat) (kk : Nat) (dd : Nat) (hkd : (f 3 2 < 6 ∧ kk = f 3 2 ∧ dd = 0) ∨ (f 3 2 = 6 ∧ kk = 5 ∧ dd = 1)) (hsz : f2 3 2 = kk) (hsh : (∀ j, j < kk → (∀ t, t < 8 → f2 (39 + j) t = f (39 + (j + dd)) t) ∧ f2 45 j = f 45 (j + dd))) (hoth : (∀ k, k ≠ 3 → k ≠ 45 → ¬ (39 ≤ k ∧ k < 45) → f2 k = f k)) (H : Heap) (locs : List Loc), dw_W D classes (ds_tys g) A s.heap (dw_l 77 (ds_ce g a) a f2) s H locs → ∀ (ls : Array Slot), lv_has ls 4 [(0, .ref (a 3)), (1, .ref (a 5)), (2, .int (nI y))] → W p l e R s m args below meth c H locs 0 0 Q (F0 m 73 ls []) := by
            intro f2 kk dd hkd hsz hsh hoth H locs hw ls hl
            refine lv_aload_n S.1 S.2.1 d_Sh_putLatest_73 rfl (lv_at hl 1 rfl) ?_
            refine lv_iconst (v := nI 0) S.1 S.2.1 d_Sh_putLatest_74 (by decide) ?_
            refine lv_aload_n S.1 S.2.1 d_Sh_putLatest_75 rfl (lv_at hl 0 rfl) ?_
            refine dw_getf (fi := 0) (v := .ref (a 38)) S hw i_Sh ds_ob3 (by decide) rfl wd_122 rfl d_Sh_putLatest_76 ?_
            refine lv_aload_n S.1 S.2.1 d_Sh_putLatest_79 rfl (lv_at hl 0 rfl) ?_
            refine dw_getf (fi := 2) (v := .int (nI (f2 3 2))) S hw i_Sh ds_ob3 (by decide) rfl wd_126 rfl d_Sh_putLatest_80 ?_
            refine dw_aald S.1 S.2.1 hw ds_k38 (by omega) d_Sh_putLatest_83 ?_
            refine lv_iconst (v := nI 0) S.1 S.2.1 d_Sh_putLatest_84 (by decide) ?_
            refine lv_bipush (v := nI 8) S.1 S.2.1 d_Sh_putLatest_85 (by decide) ?_
            refine dw_copy (rest := []) S hw wd_267 wd_269 wd_268 wd_8 ds_k5 (ds_k39 (by omega)) (by decide) (by decide) hl.1 (Nat.le_trans (Nat.le_of_ble_eq_true rfl) hR.1) (Nat.le_trans (Nat.le_of_ble_eq_true rfl) hR.2) d_Sh_putLatest_87 (fun f_5 H locs ef_5 hw => ?_)
            have eC := ef_5
            rw [hsz] at eC
            have qs : f_5 3 2 = kk := by rw [eC, dw_su_ne (by omega)]; exact hsz
            refine lv_aload_n S.1 S.2.1 d_Sh_putLatest_90 rfl (lv_at hl 0 rfl) ?_
            refine dw_getf (fi := 1) (v := .ref (a 45)) S hw i_Sh ds_ob3 (by decide) rfl wd_124 rfl d_Sh_putLatest_91 ?_
            refine lv_aload_n S.1 S.2.1 d_Sh_putLatest_94 rfl (lv_at hl 0 rfl) ?_
            refine dw_getf (fi := 2) (v := .int (nI (f_5 3 2))) S hw i_Sh ds_ob3 (by decide) rfl wd_126 rfl d_Sh_putLatest_95 ?_
            refine lv_iload_n S.1 S.2.1 d_Sh_putLatest_98 rfl (lv_at hl 2 rfl) ?_
            refine dw_iast S.1 S.2.1 hw ds_k45 (by omega) d_Sh_putLatest_99 (fun f_6 H locs ef_6 hw => ?_)
            have eD := ef_6
            rw [qs] at eD
            have qs2 : f_6 3 2 = kk := by rw [eD, dw_w_ne (by decide)]; exact qs
            refine lv_aload_n S.1 S.2.1 d_Sh_putLatest_100 rfl (lv_at hl 0 rfl) ?_
            refine lv_dup S.1 S.2.1 d_Sh_putLatest_101 rfl ?_
            refine dw_getf (fi := 2) (v := .int (nI (f_6 3 2))) S hw i_Sh ds_ob3 (by decide) rfl wd_126 rfl d_Sh_putLatest_102 ?_
            refine lv_iconst (v := nI 1) S.1 S.2.1 d_Sh_putLatest_105 (by decide) ?_
            refine dn_iadd S.1 S.2.1 d_Sh_putLatest_106 ?_
            refine dw_putf (fi := 2) S hw i_Sh t_Sh t_Sh_ok n_Sh ds_ob3 (by decide) rfl wd_126 rfl (by decide +kernel) (Nat.le_of_ble_eq_true rfl) rfl d_Sh_putLatest_107 (fun f_7 H locs ef_7 hw => ?_)
            exact hret H locs _ ls _  hw (by
    have eE := ef_7
    rw [qs2] at eE
    refine ⟨kk, dd, hkd, by rw [eE, dw_w_eq, dw_up_eq], fun j hj => ⟨fun t ht => ?_, ?_⟩, fun t ht => ?_, ?_, fun k k1 k2 k3 => ?_⟩
    · rw [eE, dw_w_ne (by omega), eD, dw_w_ne (by omega), eC, dw_su_ne (by omega)]; exact (hsh j hj).1 t ht
    · rw [eE, dw_w_ne (by decide), eD, dw_w_eq, dw_up_ne (by omega), eC, dw_su_ne (by omega)]; exact (hsh j hj).2
    · rw [eE, dw_w_ne (by omega), eD, dw_w_ne (by omega), eC, dw_su_eq]; simp only [ht, if_true]; rw [hoth 5 (by decide) (by decide) (by decide)]
    · rw [eE, dw_w_ne (by decide), eD, dw_w_eq, dw_up_eq]
    · rw [eE, dw_w_ne k1, eD, dw_w_ne k2, eC, dw_su_ne (by omega)]; exact hoth k k1 k2 k3) d_Sh_putLatest_110
          exact cut_73 f_4 5 1 (Or.inr ⟨h_9, rfl, rfl⟩) (by rw [ef_4, dw_w_eq, dw_up_eq, h4]) (fun j hj => by have e3 := h1 j (by omega); exact ⟨fun t ht => by rw [ef_4, dw_w_ne (by omega)]; exact e3.1 t ht, by rw [ef_4, dw_w_ne (by decide)]; exact e3.2⟩) (fun k k1 k2 k3 => by rw [ef_4, dw_w_ne k1]; exact h3 k k1 k2 k3) H locs hw ls (lv_sub hl [0, 1, 2] rfl)
        · rw [h4] at h_19
          refine lv_aload_n S.1 S.2.1 d_Sh_putLatest_22 rfl (lv_at hl 0 rfl) ?_
          refine dw_getf (fi := 0) (v := .ref (a 38)) S hw i_Sh ds_ob3 (by decide) rfl wd_122 rfl d_Sh_putLatest_23 ?_
          refine lv_iload_n S.1 S.2.1 d_Sh_putLatest_26 rfl (lv_at hl 3 rfl) ?_
          refine dw_aald S.1 S.2.1 hw ds_k38 (by omega) d_Sh_putLatest_27 ?_
          refine lv_iconst (v := nI 0) S.1 S.2.1 d_Sh_putLatest_28 (by decide) ?_
          refine lv_aload_n S.1 S.2.1 d_Sh_putLatest_29 rfl (lv_at hl 0 rfl) ?_
          refine dw_getf (fi := 0) (v := .ref (a 38)) S hw i_Sh ds_ob3 (by decide) rfl wd_122 rfl d_Sh_putLatest_30 ?_
          refine lv_iload_n S.1 S.2.1 d_Sh_putLatest_33 rfl (lv_at hl 3 rfl) ?_
          refine lv_iconst (v := nI 1) S.1 S.2.1 d_Sh_putLatest_34 (by decide) ?_
          refine dn_isub S.1 S.2.1 (by omega) d_Sh_putLatest_35 ?_
          refine dw_aald S.1 S.2.1 hw ds_k38 (by omega) d_Sh_putLatest_36 ?_
          refine lv_iconst (v := nI 0) S.1 S.2.1 d_Sh_putLatest_37 (by decide) ?_
          refine lv_bipush (v := nI 8) S.1 S.2.1 d_Sh_putLatest_38 (by decide) ?_
          refine dw_copy (rest := []) S hw wd_267 wd_269 wd_268 wd_8 (ds_k39 (by omega)) (ds_k39 (by omega)) (by decide) (by decide) hl.1 (Nat.le_trans (Nat.le_of_ble_eq_true rfl) hR.1) (Nat.le_trans (Nat.le_of_ble_eq_true rfl) hR.2) d_Sh_putLatest_40 (fun f_8 H locs ef_8 hw => ?_)
          have eA := ef_8
          refine lv_aload_n S.1 S.2.1 d_Sh_putLatest_43 rfl (lv_at hl 0 rfl) ?_
          refine dw_getf (fi := 1) (v := .ref (a 45)) S hw i_Sh ds_ob3 (by decide) rfl wd_124 rfl d_Sh_putLatest_44 ?_
          refine lv_iload_n S.1 S.2.1 d_Sh_putLatest_47 rfl (lv_at hl 3 rfl) ?_
          refine lv_iconst (v := nI 1) S.1 S.2.1 d_Sh_putLatest_48 (by decide) ?_
          refine dn_isub S.1 S.2.1 (by omega) d_Sh_putLatest_49 ?_
          refine lv_aload_n S.1 S.2.1 d_Sh_putLatest_50 rfl (lv_at hl 0 rfl) ?_
          refine dw_getf (fi := 1) (v := .ref (a 45)) S hw i_Sh ds_ob3 (by decide) rfl wd_124 rfl d_Sh_putLatest_51 ?_
          refine lv_iload_n S.1 S.2.1 d_Sh_putLatest_54 rfl (lv_at hl 3 rfl) ?_
          refine dw_iald S.1 S.2.1 hw ds_k45 (by omega) d_Sh_putLatest_55 ?_
          refine dw_iast S.1 S.2.1 hw ds_k45 (by omega) d_Sh_putLatest_56 (fun f_9 H locs ef_9 hw => ?_)
          have eB := ef_9
          refine lv_iinc (v := nI (i + 1)) (lv' := [(3, .int (nI (i + 1))), (0, .ref (a 3)), (1, .ref (a 5)), (2, .int (nI y))]) S.1 S.2.1 d_Sh_putLatest_57 hl (k := 3) rfl (by rw [show Int32.ofInt 1 = nI 1 from rfl, nI_add]) (by decide) rfl (fun ls hl => ?_)
          refine lv_goto (tgt := 14) S.1 S.2.1 d_Sh_putLatest_60 (by decide) ?_
          exact ih_14 (i + 1) f_9 (by omega) (fun j hj => by
    by_cases ej : j + 1 = i
    · have e1 : i - 1 = j := by omega
      rw [e1] at eA eB
      have e2 := h2 i (by omega) (by omega)
      refine ⟨fun t ht => ?_, ?_⟩
      · rw [eB, dw_w_ne (by omega), eA, dw_su_eq]; simp only [ht, if_true]; rw [e2.1, ← ej]
      · rw [eB, dw_w_eq, dw_up_eq, eA, dw_su_ne (by omega), e2.2, ← ej]
    · have e3 := h1 j (by omega)
      refine ⟨fun t ht => ?_, ?_⟩
      · rw [eB, dw_w_ne (by omega), eA, dw_su_ne (by omega)]; exact e3.1 t ht
      · rw [eB, dw_w_eq, dw_up_ne (by omega), eA, dw_su_ne (by omega)]; exact e3.2) (fun j hj hj2 => by
    have e3 := h2 j (by omega) hj2
    refine ⟨?_, ?_⟩
    · rw [eB, dw_w_ne (by omega), eA, dw_su_ne (by omega)]; exact e3.1
    · rw [eB, dw_w_eq, dw_up_ne (by omega), eA, dw_su_ne (by omega)]; exact e3.2) (fun k k1 k2 k3 => by rw [eB, dw_w_ne k2, eA, dw_su_ne (by omega)]; exact h3 k k1 k2 k3) (by rw [eB, dw_w_ne (by decide), eA, dw_su_ne (by omega)]; exact h4) (by omega) H locs hw ls (lv_sub hl [1, 2, 3, 0] rfl)
    exact loop_14 _ 1 f (by decide) (fun j hj => by omega) (fun _ _ _ => ⟨rfl, rfl⟩) (fun _ _ _ _ => rfl) (h_9) (Nat.lt_succ_self _) H locs hw ls (lv_sub hl [1, 2, 3, 0] rfl)
set_option maxHeartbeats 4000000 in
set_option maxRecDepth 100000 in
theorem c_putLatest4 (l : Launch) (D : va_G) (g : Nat → ClassId) (a : Nat → Nat) (f : Nat → Nat → Nat) (y : Nat) (hc : f 4 2 ≤ 4) : ds_V l D g a y_Sh_putLatest b_Sh_putLatest 4 1 40 [.ref (a 4), .ref (a 5), .int (nI y)] f (fun u => ∃ kk dd : Nat, ((f 4 2 < 4 ∧ kk = f 4 2 ∧ dd = 0) ∨ (f 4 2 = 4 ∧ kk = 3 ∧ dd = 1)) ∧ u 4 2 = kk + 1 ∧ (∀ j, j < kk → (∀ t, t < 8 → u (47 + j) t = f (47 + (j + dd)) t) ∧ u 51 j = f 51 (j + dd)) ∧ (∀ t, t < 8 → u (47 + kk) t = f 5 t) ∧ u 51 kk = y ∧ (∀ k, k ≠ 4 → k ≠ 51 → ¬ (47 ≤ k ∧ k < 51) → u k = f k)) := by
  refine dw_ofV (by decide) (Nat.le_of_ble_eq_true rfl) ?_
  intro p e s m args below meth c ls A Q R H locs hR hA S hN hw hl hret
  have hl : lv_has ls 4 [(0, .ref (a 4)), (1, .ref (a 5)), (2, .int (nI y))] := hl
  have S : CallFix p m c b_Sh_putLatest 4 s args ds_T R_Sh := S
  refine lv_aload_n S.1 S.2.1 d_Sh_putLatest_0 rfl (lv_at hl 0 rfl) ?_
  refine dw_getf (fi := 2) (v := .int (nI (f 4 2))) S hw i_Sh ds_ob4 (by decide) rfl wd_126 rfl d_Sh_putLatest_1 ?_
  refine lv_aload_n S.1 S.2.1 d_Sh_putLatest_4 rfl (lv_at hl 0 rfl) ?_
  refine dw_getf (fi := 0) (v := .ref (a 46)) S hw i_Sh ds_ob4 (by decide) rfl wd_122 rfl d_Sh_putLatest_5 ?_
  refine dw_alen S.1 S.2.1 hw ds_k46 d_Sh_putLatest_8 ?_
  refine dn_icmp_ne S.1 S.2.1 73 (by omega) (by decide) d_Sh_putLatest_9 (by decide) (fun h_9 => ?_) (fun h_9 => ?_)
  · have cut_73 : ∀ (f2 : Nat → Nat → Nat) (kk : Nat) (dd : Nat) (hkd : (f 4 2 < 4 ∧ kk = f 4 2 ∧ dd = 0) ∨ (f 4 2 = 4 ∧ kk = 3 ∧ dd = 1)) (hsz : f2 4 2 = kk) (hsh : (∀ j, j < kk → (∀ t, t < 8 → f2 (47 + j) t = f (47 + (j + dd)) t) ∧ f2 51 j = f 51 (j + dd))) (hoth : (∀ k, k ≠ 4 → k ≠ 51 → ¬ (47 ≤ k ∧ k < 51) → f2 k = f k)) (H : Heap) (locs : List Loc), dw_W D classes (ds_tys g) A s.heap (dw_l 77 (ds_ce g a) a f2) s H locs → ∀ (ls : Array Slot), lv_has ls 4 [(0, .ref (a 4)), (1, .ref (a 5)), (2, .int (nI y))] → W p l e R s m args below meth c H locs 0 0 Q (F0 m 73 ls []) := by
      intro f2 kk dd hkd hsz hsh hoth H locs hw ls hl
      refine lv_aload_n S.1 S.2.1 d_Sh_putLatest_73 rfl (lv_at hl 1 rfl) ?_
      refine lv_iconst (v := nI 0) S.1 S.2.1 d_Sh_putLatest_74 (by decide) ?_
      refine lv_aload_n S.1 S.2.1 d_Sh_putLatest_75 rfl (lv_at hl 0 rfl) ?_
      refine dw_getf (fi := 0) (v := .ref (a 46)) S hw i_Sh ds_ob4 (by decide) rfl wd_122 rfl d_Sh_putLatest_76 ?_
      refine lv_aload_n S.1 S.2.1 d_Sh_putLatest_79 rfl (lv_at hl 0 rfl) ?_
      refine dw_getf (fi := 2) (v := .int (nI (f2 4 2))) S hw i_Sh ds_ob4 (by decide) rfl wd_126 rfl d_Sh_putLatest_80 ?_
      refine dw_aald S.1 S.2.1 hw ds_k46 (by omega) d_Sh_putLatest_83 ?_
      refine lv_iconst (v := nI 0) S.1 S.2.1 d_Sh_putLatest_84 (by decide) ?_
      refine lv_bipush (v := nI 8) S.1 S.2.1 d_Sh_putLatest_85 (by decide) ?_
      refine dw_copy (rest := []) S hw wd_267 wd_269 wd_268 wd_8 ds_k5 (ds_k47 (by omega)) (by decide) (by decide) hl.1 (Nat.le_trans (Nat.le_of_ble_eq_true rfl) hR.1) (Nat.le_trans (Nat.le_of_ble_eq_true rfl) hR.2) d_Sh_putLatest_87 (fun f_1 H locs ef_1 hw => ?_)
      have eC := ef_1
      rw [hsz] at eC
      have qs : f_1 4 2 = kk := by rw [eC, dw_su_ne (by omega)]; exact hsz
      refine lv_aload_n S.1 S.2.1 d_Sh_putLatest_90 rfl (lv_at hl 0 rfl) ?_
      refine dw_getf (fi := 1) (v := .ref (a 51)) S hw i_Sh ds_ob4 (by decide) rfl wd_124 rfl d_Sh_putLatest_91 ?_
      refine lv_aload_n S.1 S.2.1 d_Sh_putLatest_94 rfl (lv_at hl 0 rfl) ?_
      refine dw_getf (fi := 2) (v := .int (nI (f_1 4 2))) S hw i_Sh ds_ob4 (by decide) rfl wd_126 rfl d_Sh_putLatest_95 ?_
      refine lv_iload_n S.1 S.2.1 d_Sh_putLatest_98 rfl (lv_at hl 2 rfl) ?_
      refine dw_iast S.1 S.2.1 hw ds_k51 (by omega) d_Sh_putLatest_99 (fun f_2 H locs ef_2 hw => ?_)
      have eD := ef_2
      rw [qs] at eD
      have qs2 : f_2 4 2 = kk := by rw [eD, dw_w_ne (by decide)]; exact qs
      refine lv_aload_n S.1 S.2.1 d_Sh_putLatest_100 rfl (lv_at hl 0 rfl) ?_
      refine lv_dup S.1 S.2.1 d_Sh_putLatest_101 rfl ?_
      refine dw_getf (fi := 2) (v := .int (nI (f_2 4 2))) S hw i_Sh ds_ob4 (by decide) rfl wd_126 rfl d_Sh_putLatest_102 ?_
      refine lv_iconst (v := nI 1) S.1 S.2.1 d_Sh_putLatest_105 (by decide) ?_
      refine dn_iadd S.1 S.2.1 d_Sh_putLatest_106 ?_
      refine dw_putf (fi := 2) S hw i_Sh t_Sh t_Sh_ok n_Sh ds_ob4 (by decide) rfl wd_126 rfl (by decide +kernel) (Nat.le_of_ble_eq_true rfl) rfl d_Sh_putLatest_107 (fun f_3 H locs ef_3 hw => ?_)
      exact hret H locs _ ls _  hw (by
    have eE := ef_3
    rw [qs2] at eE
    refine ⟨kk, dd, hkd, by rw [eE, dw_w_eq, dw_up_eq], fun j hj => ⟨fun t ht => ?_, ?_⟩, fun t ht => ?_, ?_, fun k k1 k2 k3 => ?_⟩
    · rw [eE, dw_w_ne (by omega), eD, dw_w_ne (by omega), eC, dw_su_ne (by omega)]; exact (hsh j hj).1 t ht
    · rw [eE, dw_w_ne (by decide), eD, dw_w_eq, dw_up_ne (by omega), eC, dw_su_ne (by omega)]; exact (hsh j hj).2
    · rw [eE, dw_w_ne (by omega), eD, dw_w_ne (by omega), eC, dw_su_eq]; simp only [ht, if_true]; rw [hoth 5 (by decide) (by decide) (by decide)]
    · rw [eE, dw_w_ne (by decide), eD, dw_w_eq, dw_up_eq]
    · rw [eE, dw_w_ne k1, eD, dw_w_ne k2, eC, dw_su_ne (by omega)]; exact hoth k k1 k2 k3) d_Sh_putLatest_110
    exact cut_73 f (f 4 2) 0 (Or.inl ⟨by omega, rfl, rfl⟩) (rfl) (fun _ _ => ⟨fun _ _ => rfl, rfl⟩) (fun _ _ _ _ => rfl) H locs hw ls (lv_sub hl [0, 1, 2] rfl)
  · refine lv_iconst (v := nI 1) S.1 S.2.1 d_Sh_putLatest_12 (by decide) ?_
    refine lv_istore_n (lv' := [(3, .int (nI 1)), (0, .ref (a 4)), (1, .ref (a 5)), (2, .int (nI y))]) S.1 S.2.1 d_Sh_putLatest_13 rfl hl (by decide) rfl (fun ls hl => ?_)
    have loop_14 : ∀ (n : Nat) (i : Nat) (f2 : Nat → Nat → Nat) (hi : 1 ≤ i ∧ i ≤ 4) (h1 : ∀ j, j + 1 < i → (∀ t, t < 8 → f2 (47 + j) t = f (47 + (j + 1)) t) ∧ f2 51 j = f 51 (j + 1)) (h2 : ∀ j, i ≤ j + 1 → j < 4 → f2 (47 + j) = f (47 + j) ∧ f2 51 j = f 51 j) (h3 : (∀ k, k ≠ 4 → k ≠ 51 → ¬ (47 ≤ k ∧ k < 51) → f2 k = f k)) (h4 : f2 4 2 = 4) (_ : 4 - i < n) (H : Heap) (locs : List Loc), dw_W D classes (ds_tys g) A s.heap (dw_l 77 (ds_ce g a) a f2) s H locs → ∀ (ls : Array Slot), lv_has ls 4 [(0, .ref (a 4)), (1, .ref (a 5)), (2, .int (nI y)), (3, .int (nI i))] → W p l e R s m args below meth c H locs 0 0 Q (F0 m 14 ls []) := by
      intro n
      induction n with
      | zero => intro i f2 hi h1 h2 h3 h4 h9; exact absurd h9 (Nat.not_lt_zero _)
      | succ n ih_14 =>
        intro i f2 hi h1 h2 h3 h4 hm_14 H locs hw ls hl
        refine lv_iload_n S.1 S.2.1 d_Sh_putLatest_14 rfl (lv_at hl 3 rfl) ?_
        refine lv_aload_n S.1 S.2.1 d_Sh_putLatest_15 rfl (lv_at hl 0 rfl) ?_
        refine dw_getf (fi := 2) (v := .int (nI (f2 4 2))) S hw i_Sh ds_ob4 (by decide) rfl wd_126 rfl d_Sh_putLatest_16 ?_
        refine dn_icmp_ge S.1 S.2.1 63 (by omega) (by omega) d_Sh_putLatest_19 (by decide) (fun h_19 => ?_) (fun h_19 => ?_)
        · refine lv_aload_n S.1 S.2.1 d_Sh_putLatest_63 rfl (lv_at hl 0 rfl) ?_
          refine lv_dup S.1 S.2.1 d_Sh_putLatest_64 rfl ?_
          refine dw_getf (fi := 2) (v := .int (nI (f2 4 2))) S hw i_Sh ds_ob4 (by decide) rfl wd_126 rfl d_Sh_putLatest_65 ?_
          refine lv_iconst (v := nI 1) S.1 S.2.1 d_Sh_putLatest_68 (by decide) ?_
          refine dn_isub S.1 S.2.1 (by omega) d_Sh_putLatest_69 ?_
          refine dw_putf (fi := 2) S hw i_Sh t_Sh t_Sh_ok n_Sh ds_ob4 (by decide) rfl wd_126 rfl (by decide +kernel) (Nat.le_of_ble_eq_true rfl) rfl d_Sh_putLatest_70 (fun f_4 H locs ef_4 hw => ?_)
          have cut_73 : ∀ (f2 : Nat → Nat → Nat) (kk : Nat) (dd : Nat) (hkd : (f 4 2 < 4 ∧ kk = f 4 2 ∧ dd = 0) ∨ (f 4 2 = 4 ∧ kk = 3 ∧ dd = 1)) (hsz : f2 4 2 = kk) (hsh : (∀ j, j < kk → (∀ t, t < 8 → f2 (47 + j) t = f (47 + (j + dd)) t) ∧ f2 51 j = f 51 (j + dd))) (hoth : (∀ k, k ≠ 4 → k ≠ 51 → ¬ (47 ≤ k ∧ k < 51) → f2 k = f k)) (H : Heap) (locs : List Loc), dw_W D classes (ds_tys g) A s.heap (dw_l 77 (ds_ce g a) a f2) s H locs → ∀ (ls : Array Slot), lv_has ls 4 [(0, .ref (a 4)), (1, .ref (a 5)), (2, .int (nI y))] → W p l e R s m args below meth c H locs 0 0 Q (F0 m 73 ls []) := by
            intro f2 kk dd hkd hsz hsh hoth H locs hw ls hl
            refine lv_aload_n S.1 S.2.1 d_Sh_putLatest_73 rfl (lv_at hl 1 rfl) ?_
            refine lv_iconst (v := nI 0) S.1 S.2.1 d_Sh_putLatest_74 (by decide) ?_
            refine lv_aload_n S.1 S.2.1 d_Sh_putLatest_75 rfl (lv_at hl 0 rfl) ?_
            refine dw_getf (fi := 0) (v := .ref (a 46)) S hw i_Sh ds_ob4 (by decide) rfl wd_122 rfl d_Sh_putLatest_76 ?_
            refine lv_aload_n S.1 S.2.1 d_Sh_putLatest_79 rfl (lv_at hl 0 rfl) ?_
            refine dw_getf (fi := 2) (v := .int (nI (f2 4 2))) S hw i_Sh ds_ob4 (by decide) rfl wd_126 rfl d_Sh_putLatest_80 ?_
            refine dw_aald S.1 S.2.1 hw ds_k46 (by omega) d_Sh_putLatest_83 ?_
            refine lv_iconst (v := nI 0) S.1 S.2.1 d_Sh_putLatest_84 (by decide) ?_
            refine lv_bipush (v := nI 8) S.1 S.2.1 d_Sh_putLatest_85 (by decide) ?_
            refine dw_copy (rest := []) S hw wd_267 wd_269 wd_268 wd_8 ds_k5 (ds_k47 (by omega)) (by decide) (by decide) hl.1 (Nat.le_trans (Nat.le_of_ble_eq_true rfl) hR.1) (Nat.le_trans (Nat.le_of_ble_eq_true rfl) hR.2) d_Sh_putLatest_87 (fun f_5 H locs ef_5 hw => ?_)
            have eC := ef_5
            rw [hsz] at eC
            have qs : f_5 4 2 = kk := by rw [eC, dw_su_ne (by omega)]; exact hsz
            refine lv_aload_n S.1 S.2.1 d_Sh_putLatest_90 rfl (lv_at hl 0 rfl) ?_
            refine dw_getf (fi := 1) (v := .ref (a 51)) S hw i_Sh ds_ob4 (by decide) rfl wd_124 rfl d_Sh_putLatest_91 ?_
            refine lv_aload_n S.1 S.2.1 d_Sh_putLatest_94 rfl (lv_at hl 0 rfl) ?_
            refine dw_getf (fi := 2) (v := .int (nI (f_5 4 2))) S hw i_Sh ds_ob4 (by decide) rfl wd_126 rfl d_Sh_putLatest_95 ?_
            refine lv_iload_n S.1 S.2.1 d_Sh_putLatest_98 rfl (lv_at hl 2 rfl) ?_
            refine dw_iast S.1 S.2.1 hw ds_k51 (by omega) d_Sh_putLatest_99 (fun f_6 H locs ef_6 hw => ?_)
            have eD := ef_6
            rw [qs] at eD
            have qs2 : f_6 4 2 = kk := by rw [eD, dw_w_ne (by decide)]; exact qs
            refine lv_aload_n S.1 S.2.1 d_Sh_putLatest_100 rfl (lv_at hl 0 rfl) ?_
            refine lv_dup S.1 S.2.1 d_Sh_putLatest_101 rfl ?_
            refine dw_getf (fi := 2) (v := .int (nI (f_6 4 2))) S hw i_Sh ds_ob4 (by decide) rfl wd_126 rfl d_Sh_putLatest_102 ?_
            refine lv_iconst (v := nI 1) S.1 S.2.1 d_Sh_putLatest_105 (by decide) ?_
            refine dn_iadd S.1 S.2.1 d_Sh_putLatest_106 ?_
            refine dw_putf (fi := 2) S hw i_Sh t_Sh t_Sh_ok n_Sh ds_ob4 (by decide) rfl wd_126 rfl (by decide +kernel) (Nat.le_of_ble_eq_true rfl) rfl d_Sh_putLatest_107 (fun f_7 H locs ef_7 hw => ?_)
            exact hret H locs _ ls _  hw (by
    have eE := ef_7
    rw [qs2] at eE
    refine ⟨kk, dd, hkd, by rw [eE, dw_w_eq, dw_up_eq], fun j hj => ⟨fun t ht => ?_, ?_⟩, fun t ht => ?_, ?_, fun k k1 k2 k3 => ?_⟩
    · rw [eE, dw_w_ne (by omega), eD, dw_w_ne (by omega), eC, dw_su_ne (by omega)]; exact (hsh j hj).1 t ht
    · rw [eE, dw_w_ne (by decide), eD, dw_w_eq, dw_up_ne (by omega), eC, dw_su_ne (by omega)]; exact (hsh j hj).2
    · rw [eE, dw_w_ne (by omega), eD, dw_w_ne (by omega), eC, dw_su_eq]; simp only [ht, if_true]; rw [hoth 5 (by decide) (by decide) (by decide)]
    · rw [eE, dw_w_ne (by decide), eD, dw_w_eq, dw_up_eq]
    · rw [eE, dw_w_ne k1, eD, dw_w_ne k2, eC, dw_su_ne (by omega)]; exact hoth k k1 k2 k3) d_Sh_putLatest_110
          exact cut_73 f_4 3 1 (Or.inr ⟨h_9, rfl, rfl⟩) (by rw [ef_4, dw_w_eq, dw_up_eq, h4]) (fun j hj => by have e3 := h1 j (by omega); exact ⟨fun t ht => by rw [ef_4, dw_w_ne (by omega)]; exact e3.1 t ht, by rw [ef_4, dw_w_ne (by decide)]; exact e3.2⟩) (fun k k1 k2 k3 => by rw [ef_4, dw_w_ne k1]; exact h3 k k1 k2 k3) H locs hw ls (lv_sub hl [0, 1, 2] rfl)
        · rw [h4] at h_19
          refine lv_aload_n S.1 S.2.1 d_Sh_putLatest_22 rfl (lv_at hl 0 rfl) ?_
          refine dw_getf (fi := 0) (v := .ref (a 46)) S hw i_Sh ds_ob4 (by decide) rfl wd_122 rfl d_Sh_putLatest_23 ?_
          refine lv_iload_n S.1 S.2.1 d_Sh_putLatest_26 rfl (lv_at hl 3 rfl) ?_
          refine dw_aald S.1 S.2.1 hw ds_k46 (by omega) d_Sh_putLatest_27 ?_
          refine lv_iconst (v := nI 0) S.1 S.2.1 d_Sh_putLatest_28 (by decide) ?_
          refine lv_aload_n S.1 S.2.1 d_Sh_putLatest_29 rfl (lv_at hl 0 rfl) ?_
          refine dw_getf (fi := 0) (v := .ref (a 46)) S hw i_Sh ds_ob4 (by decide) rfl wd_122 rfl d_Sh_putLatest_30 ?_
          refine lv_iload_n S.1 S.2.1 d_Sh_putLatest_33 rfl (lv_at hl 3 rfl) ?_
          refine lv_iconst (v := nI 1) S.1 S.2.1 d_Sh_putLatest_34 (by decide) ?_
          refine dn_isub S.1 S.2.1 (by omega) d_Sh_putLatest_35 ?_
          refine dw_aald S.1 S.2.1 hw ds_k46 (by omega) d_Sh_putLatest_36 ?_
          refine lv_iconst (v := nI 0) S.1 S.2.1 d_Sh_putLatest_37 (by decide) ?_
          refine lv_bipush (v := nI 8) S.1 S.2.1 d_Sh_putLatest_38 (by decide) ?_
          refine dw_copy (rest := []) S hw wd_267 wd_269 wd_268 wd_8 (ds_k47 (by omega)) (ds_k47 (by omega)) (by decide) (by decide) hl.1 (Nat.le_trans (Nat.le_of_ble_eq_true rfl) hR.1) (Nat.le_trans (Nat.le_of_ble_eq_true rfl) hR.2) d_Sh_putLatest_40 (fun f_8 H locs ef_8 hw => ?_)
          have eA := ef_8
          refine lv_aload_n S.1 S.2.1 d_Sh_putLatest_43 rfl (lv_at hl 0 rfl) ?_
          refine dw_getf (fi := 1) (v := .ref (a 51)) S hw i_Sh ds_ob4 (by decide) rfl wd_124 rfl d_Sh_putLatest_44 ?_
          refine lv_iload_n S.1 S.2.1 d_Sh_putLatest_47 rfl (lv_at hl 3 rfl) ?_
          refine lv_iconst (v := nI 1) S.1 S.2.1 d_Sh_putLatest_48 (by decide) ?_
          refine dn_isub S.1 S.2.1 (by omega) d_Sh_putLatest_49 ?_
          refine lv_aload_n S.1 S.2.1 d_Sh_putLatest_50 rfl (lv_at hl 0 rfl) ?_
          refine dw_getf (fi := 1) (v := .ref (a 51)) S hw i_Sh ds_ob4 (by decide) rfl wd_124 rfl d_Sh_putLatest_51 ?_
          refine lv_iload_n S.1 S.2.1 d_Sh_putLatest_54 rfl (lv_at hl 3 rfl) ?_
          refine dw_iald S.1 S.2.1 hw ds_k51 (by omega) d_Sh_putLatest_55 ?_
          refine dw_iast S.1 S.2.1 hw ds_k51 (by omega) d_Sh_putLatest_56 (fun f_9 H locs ef_9 hw => ?_)
          have eB := ef_9
          refine lv_iinc (v := nI (i + 1)) (lv' := [(3, .int (nI (i + 1))), (0, .ref (a 4)), (1, .ref (a 5)), (2, .int (nI y))]) S.1 S.2.1 d_Sh_putLatest_57 hl (k := 3) rfl (by rw [show Int32.ofInt 1 = nI 1 from rfl, nI_add]) (by decide) rfl (fun ls hl => ?_)
          refine lv_goto (tgt := 14) S.1 S.2.1 d_Sh_putLatest_60 (by decide) ?_
          exact ih_14 (i + 1) f_9 (by omega) (fun j hj => by
    by_cases ej : j + 1 = i
    · have e1 : i - 1 = j := by omega
      rw [e1] at eA eB
      have e2 := h2 i (by omega) (by omega)
      refine ⟨fun t ht => ?_, ?_⟩
      · rw [eB, dw_w_ne (by omega), eA, dw_su_eq]; simp only [ht, if_true]; rw [e2.1, ← ej]
      · rw [eB, dw_w_eq, dw_up_eq, eA, dw_su_ne (by omega), e2.2, ← ej]
    · have e3 := h1 j (by omega)
      refine ⟨fun t ht => ?_, ?_⟩
      · rw [eB, dw_w_ne (by omega), eA, dw_su_ne (by omega)]; exact e3.1 t ht
      · rw [eB, dw_w_eq, dw_up_ne (by omega), eA, dw_su_ne (by omega)]; exact e3.2) (fun j hj hj2 => by
    have e3 := h2 j (by omega) hj2
    refine ⟨?_, ?_⟩
    · rw [eB, dw_w_ne (by omega), eA, dw_su_ne (by omega)]; exact e3.1
    · rw [eB, dw_w_eq, dw_up_ne (by omega), eA, dw_su_ne (by omega)]; exact e3.2) (fun k k1 k2 k3 => by rw [eB, dw_w_ne k2, eA, dw_su_ne (by omega)]; exact h3 k k1 k2 k3) (by rw [eB, dw_w_ne (by decide), eA, dw_su_ne (by omega)]; exact h4) (by omega) H locs hw ls (lv_sub hl [1, 2, 3, 0] rfl)
    exact loop_14 _ 1 f (by decide) (fun j hj => by omega) (fun _ _ _ => ⟨rfl, rfl⟩) (fun _ _ _ _ => rfl) (h_9) (Nat.lt_succ_self _) H locs hw ls (lv_sub hl [1, 2, 3, 0] rfl)
end
section
/-! contracts: bits, why, rows of the next day -/
set_option maxHeartbeats 4000000 in
set_option maxRecDepth 100000 in
theorem c_bitCount (l : Launch) (D : va_G) (g : Nat → ClassId) (a : Nat → Nat) (f : Nat → Nat → Nat) (x : Nat) (hx : x < 256) : ds_I l D g a y_In_bitCount b_In_bitCount 1 .int 0 0 [.int (nI x)] f (fun r u => r = nI (ds_cnt (fun i => x.testBit i) 8) ∧ u = f) := by
  refine dw_ofI (by decide) (fun _ _ _ => rfl) (Nat.le_of_ble_eq_true rfl) ?_
  intro p e s m args below meth c ls A Q R H locs hR hA S hN hw hl hret
  have hl : lv_has ls 1 [(0, .int (nI x))] := hl
  have S : CallFix p m c b_In_bitCount 1 s args ds_T "java/lang/Integer" := S
  refine lv_iload_n S.1 S.2.1 d_In_bitCount_0 rfl (lv_at hl 0 rfl) ?_
  refine lv_iload_n S.1 S.2.1 d_In_bitCount_1 rfl (lv_at hl 0 rfl) ?_
  refine lv_iconst (v := nI 1) S.1 S.2.1 d_In_bitCount_2 (by decide) ?_
  refine lv_iushr S.1 S.2.1 d_In_bitCount_3 rfl ?_
  refine lv_ldcw (v := nI 1431655765) S.1 S.2.1 S.2.2.2.1 (S.2.2.2.2 _ wd_280) d_In_bitCount_4 ?_
  refine lv_iand S.1 S.2.1 d_In_bitCount_7 ?_
  refine lv_isub S.1 S.2.1 d_In_bitCount_8 ?_
  refine lv_istore_n (lv' := [(0, .int ((nI x) - ((((nI x).toUInt32 >>> ((nI 1).toUInt32 &&& Int32.toUInt32 31)).toInt32) &&& (nI 1431655765))))]) S.1 S.2.1 d_In_bitCount_9 rfl hl (by decide) rfl (fun ls hl => ?_)
  refine lv_iload_n S.1 S.2.1 d_In_bitCount_10 rfl (lv_at hl 0 rfl) ?_
  refine lv_ldcw (v := nI 858993459) S.1 S.2.1 S.2.2.2.1 (S.2.2.2.2 _ wd_281) d_In_bitCount_11 ?_
  refine lv_iand S.1 S.2.1 d_In_bitCount_14 ?_
  refine lv_iload_n S.1 S.2.1 d_In_bitCount_15 rfl (lv_at hl 0 rfl) ?_
  refine lv_iconst (v := nI 2) S.1 S.2.1 d_In_bitCount_16 (by decide) ?_
  refine lv_iushr S.1 S.2.1 d_In_bitCount_17 rfl ?_
  refine lv_ldcw (v := nI 858993459) S.1 S.2.1 S.2.2.2.1 (S.2.2.2.2 _ wd_281) d_In_bitCount_18 ?_
  refine lv_iand S.1 S.2.1 d_In_bitCount_21 ?_
  refine lv_iadd S.1 S.2.1 d_In_bitCount_22 ?_
  refine lv_istore_n (lv' := [(0, .int ((((nI x) - ((((nI x).toUInt32 >>> ((nI 1).toUInt32 &&& Int32.toUInt32 31)).toInt32) &&& (nI 1431655765))) &&& (nI 858993459)) + (((((nI x) - ((((nI x).toUInt32 >>> ((nI 1).toUInt32 &&& Int32.toUInt32 31)).toInt32) &&& (nI 1431655765))).toUInt32 >>> ((nI 2).toUInt32 &&& Int32.toUInt32 31)).toInt32) &&& (nI 858993459))))]) S.1 S.2.1 d_In_bitCount_23 rfl hl (by decide) rfl (fun ls hl => ?_)
  refine lv_iload_n S.1 S.2.1 d_In_bitCount_24 rfl (lv_at hl 0 rfl) ?_
  refine lv_iload_n S.1 S.2.1 d_In_bitCount_25 rfl (lv_at hl 0 rfl) ?_
  refine lv_iconst (v := nI 4) S.1 S.2.1 d_In_bitCount_26 (by decide) ?_
  refine lv_iushr S.1 S.2.1 d_In_bitCount_27 rfl ?_
  refine lv_iadd S.1 S.2.1 d_In_bitCount_28 ?_
  refine lv_ldcw (v := nI 252645135) S.1 S.2.1 S.2.2.2.1 (S.2.2.2.2 _ wd_282) d_In_bitCount_29 ?_
  refine lv_iand S.1 S.2.1 d_In_bitCount_32 ?_
  refine lv_istore_n (lv' := [(0, .int ((((((nI x) - ((((nI x).toUInt32 >>> ((nI 1).toUInt32 &&& Int32.toUInt32 31)).toInt32) &&& (nI 1431655765))) &&& (nI 858993459)) + (((((nI x) - ((((nI x).toUInt32 >>> ((nI 1).toUInt32 &&& Int32.toUInt32 31)).toInt32) &&& (nI 1431655765))).toUInt32 >>> ((nI 2).toUInt32 &&& Int32.toUInt32 31)).toInt32) &&& (nI 858993459))) + ((((((nI x) - ((((nI x).toUInt32 >>> ((nI 1).toUInt32 &&& Int32.toUInt32 31)).toInt32) &&& (nI 1431655765))) &&& (nI 858993459)) + (((((nI x) - ((((nI x).toUInt32 >>> ((nI 1).toUInt32 &&& Int32.toUInt32 31)).toInt32) &&& (nI 1431655765))).toUInt32 >>> ((nI 2).toUInt32 &&& Int32.toUInt32 31)).toInt32) &&& (nI 858993459))).toUInt32 >>> ((nI 4).toUInt32 &&& Int32.toUInt32 31)).toInt32)) &&& (nI 252645135)))]) S.1 S.2.1 d_In_bitCount_33 rfl hl (by decide) rfl (fun ls hl => ?_)
  refine lv_iload_n S.1 S.2.1 d_In_bitCount_34 rfl (lv_at hl 0 rfl) ?_
  refine lv_iload_n S.1 S.2.1 d_In_bitCount_35 rfl (lv_at hl 0 rfl) ?_
  refine lv_bipush (v := nI 8) S.1 S.2.1 d_In_bitCount_36 (by decide) ?_
  refine lv_iushr S.1 S.2.1 d_In_bitCount_38 rfl ?_
  refine lv_iadd S.1 S.2.1 d_In_bitCount_39 ?_
  refine lv_istore_n (lv' := [(0, .int (((((((nI x) - ((((nI x).toUInt32 >>> ((nI 1).toUInt32 &&& Int32.toUInt32 31)).toInt32) &&& (nI 1431655765))) &&& (nI 858993459)) + (((((nI x) - ((((nI x).toUInt32 >>> ((nI 1).toUInt32 &&& Int32.toUInt32 31)).toInt32) &&& (nI 1431655765))).toUInt32 >>> ((nI 2).toUInt32 &&& Int32.toUInt32 31)).toInt32) &&& (nI 858993459))) + ((((((nI x) - ((((nI x).toUInt32 >>> ((nI 1).toUInt32 &&& Int32.toUInt32 31)).toInt32) &&& (nI 1431655765))) &&& (nI 858993459)) + (((((nI x) - ((((nI x).toUInt32 >>> ((nI 1).toUInt32 &&& Int32.toUInt32 31)).toInt32) &&& (nI 1431655765))).toUInt32 >>> ((nI 2).toUInt32 &&& Int32.toUInt32 31)).toInt32) &&& (nI 858993459))).toUInt32 >>> ((nI 4).toUInt32 &&& Int32.toUInt32 31)).toInt32)) &&& (nI 252645135)) + ((((((((nI x) - ((((nI x).toUInt32 >>> ((nI 1).toUInt32 &&& Int32.toUInt32 31)).toInt32) &&& (nI 1431655765))) &&& (nI 858993459)) + (((((nI x) - ((((nI x).toUInt32 >>> ((nI 1).toUInt32 &&& Int32.toUInt32 31)).toInt32) &&& (nI 1431655765))).toUInt32 >>> ((nI 2).toUInt32 &&& Int32.toUInt32 31)).toInt32) &&& (nI 858993459))) + ((((((nI x) - ((((nI x).toUInt32 >>> ((nI 1).toUInt32 &&& Int32.toUInt32 31)).toInt32) &&& (nI 1431655765))) &&& (nI 858993459)) + (((((nI x) - ((((nI x).toUInt32 >>> ((nI 1).toUInt32 &&& Int32.toUInt32 31)).toInt32) &&& (nI 1431655765))).toUInt32 >>> ((nI 2).toUInt32 &&& Int32.toUInt32 31)).toInt32) &&& (nI 858993459))).toUInt32 >>> ((nI 4).toUInt32 &&& Int32.toUInt32 31)).toInt32)) &&& (nI 252645135)).toUInt32 >>> ((nI 8).toUInt32 &&& Int32.toUInt32 31)).toInt32)))]) S.1 S.2.1 d_In_bitCount_40 rfl hl (by decide) rfl (fun ls hl => ?_)
  refine lv_iload_n S.1 S.2.1 d_In_bitCount_41 rfl (lv_at hl 0 rfl) ?_
  refine lv_iload_n S.1 S.2.1 d_In_bitCount_42 rfl (lv_at hl 0 rfl) ?_
  refine lv_bipush (v := nI 16) S.1 S.2.1 d_In_bitCount_43 (by decide) ?_
  refine lv_iushr S.1 S.2.1 d_In_bitCount_45 rfl ?_
  refine lv_iadd S.1 S.2.1 d_In_bitCount_46 ?_
  refine lv_istore_n (lv' := [(0, .int ((((((((nI x) - ((((nI x).toUInt32 >>> ((nI 1).toUInt32 &&& Int32.toUInt32 31)).toInt32) &&& (nI 1431655765))) &&& (nI 858993459)) + (((((nI x) - ((((nI x).toUInt32 >>> ((nI 1).toUInt32 &&& Int32.toUInt32 31)).toInt32) &&& (nI 1431655765))).toUInt32 >>> ((nI 2).toUInt32 &&& Int32.toUInt32 31)).toInt32) &&& (nI 858993459))) + ((((((nI x) - ((((nI x).toUInt32 >>> ((nI 1).toUInt32 &&& Int32.toUInt32 31)).toInt32) &&& (nI 1431655765))) &&& (nI 858993459)) + (((((nI x) - ((((nI x).toUInt32 >>> ((nI 1).toUInt32 &&& Int32.toUInt32 31)).toInt32) &&& (nI 1431655765))).toUInt32 >>> ((nI 2).toUInt32 &&& Int32.toUInt32 31)).toInt32) &&& (nI 858993459))).toUInt32 >>> ((nI 4).toUInt32 &&& Int32.toUInt32 31)).toInt32)) &&& (nI 252645135)) + ((((((((nI x) - ((((nI x).toUInt32 >>> ((nI 1).toUInt32 &&& Int32.toUInt32 31)).toInt32) &&& (nI 1431655765))) &&& (nI 858993459)) + (((((nI x) - ((((nI x).toUInt32 >>> ((nI 1).toUInt32 &&& Int32.toUInt32 31)).toInt32) &&& (nI 1431655765))).toUInt32 >>> ((nI 2).toUInt32 &&& Int32.toUInt32 31)).toInt32) &&& (nI 858993459))) + ((((((nI x) - ((((nI x).toUInt32 >>> ((nI 1).toUInt32 &&& Int32.toUInt32 31)).toInt32) &&& (nI 1431655765))) &&& (nI 858993459)) + (((((nI x) - ((((nI x).toUInt32 >>> ((nI 1).toUInt32 &&& Int32.toUInt32 31)).toInt32) &&& (nI 1431655765))).toUInt32 >>> ((nI 2).toUInt32 &&& Int32.toUInt32 31)).toInt32) &&& (nI 858993459))).toUInt32 >>> ((nI 4).toUInt32 &&& Int32.toUInt32 31)).toInt32)) &&& (nI 252645135)).toUInt32 >>> ((nI 8).toUInt32 &&& Int32.toUInt32 31)).toInt32)) + (((((((((nI x) - ((((nI x).toUInt32 >>> ((nI 1).toUInt32 &&& Int32.toUInt32 31)).toInt32) &&& (nI 1431655765))) &&& (nI 858993459)) + (((((nI x) - ((((nI x).toUInt32 >>> ((nI 1).toUInt32 &&& Int32.toUInt32 31)).toInt32) &&& (nI 1431655765))).toUInt32 >>> ((nI 2).toUInt32 &&& Int32.toUInt32 31)).toInt32) &&& (nI 858993459))) + ((((((nI x) - ((((nI x).toUInt32 >>> ((nI 1).toUInt32 &&& Int32.toUInt32 31)).toInt32) &&& (nI 1431655765))) &&& (nI 858993459)) + (((((nI x) - ((((nI x).toUInt32 >>> ((nI 1).toUInt32 &&& Int32.toUInt32 31)).toInt32) &&& (nI 1431655765))).toUInt32 >>> ((nI 2).toUInt32 &&& Int32.toUInt32 31)).toInt32) &&& (nI 858993459))).toUInt32 >>> ((nI 4).toUInt32 &&& Int32.toUInt32 31)).toInt32)) &&& (nI 252645135)) + ((((((((nI x) - ((((nI x).toUInt32 >>> ((nI 1).toUInt32 &&& Int32.toUInt32 31)).toInt32) &&& (nI 1431655765))) &&& (nI 858993459)) + (((((nI x) - ((((nI x).toUInt32 >>> ((nI 1).toUInt32 &&& Int32.toUInt32 31)).toInt32) &&& (nI 1431655765))).toUInt32 >>> ((nI 2).toUInt32 &&& Int32.toUInt32 31)).toInt32) &&& (nI 858993459))) + ((((((nI x) - ((((nI x).toUInt32 >>> ((nI 1).toUInt32 &&& Int32.toUInt32 31)).toInt32) &&& (nI 1431655765))) &&& (nI 858993459)) + (((((nI x) - ((((nI x).toUInt32 >>> ((nI 1).toUInt32 &&& Int32.toUInt32 31)).toInt32) &&& (nI 1431655765))).toUInt32 >>> ((nI 2).toUInt32 &&& Int32.toUInt32 31)).toInt32) &&& (nI 858993459))).toUInt32 >>> ((nI 4).toUInt32 &&& Int32.toUInt32 31)).toInt32)) &&& (nI 252645135)).toUInt32 >>> ((nI 8).toUInt32 &&& Int32.toUInt32 31)).toInt32)).toUInt32 >>> ((nI 16).toUInt32 &&& Int32.toUInt32 31)).toInt32)))]) S.1 S.2.1 d_In_bitCount_47 rfl hl (by decide) rfl (fun ls hl => ?_)
  refine lv_iload_n S.1 S.2.1 d_In_bitCount_48 rfl (lv_at hl 0 rfl) ?_
  refine lv_bipush (v := nI 63) S.1 S.2.1 d_In_bitCount_49 (by decide) ?_
  refine lv_iand S.1 S.2.1 d_In_bitCount_51 ?_
  exact hret H locs _ ls _ _ hw (⟨(show ∀ x, x < 256 → ((((((((nI x) - ((((nI x).toUInt32 >>> ((nI 1).toUInt32 &&& Int32.toUInt32 31)).toInt32) &&& (nI 1431655765))) &&& (nI 858993459)) + (((((nI x) - ((((nI x).toUInt32 >>> ((nI 1).toUInt32 &&& Int32.toUInt32 31)).toInt32) &&& (nI 1431655765))).toUInt32 >>> ((nI 2).toUInt32 &&& Int32.toUInt32 31)).toInt32) &&& (nI 858993459))) + ((((((nI x) - ((((nI x).toUInt32 >>> ((nI 1).toUInt32 &&& Int32.toUInt32 31)).toInt32) &&& (nI 1431655765))) &&& (nI 858993459)) + (((((nI x) - ((((nI x).toUInt32 >>> ((nI 1).toUInt32 &&& Int32.toUInt32 31)).toInt32) &&& (nI 1431655765))).toUInt32 >>> ((nI 2).toUInt32 &&& Int32.toUInt32 31)).toInt32) &&& (nI 858993459))).toUInt32 >>> ((nI 4).toUInt32 &&& Int32.toUInt32 31)).toInt32)) &&& (nI 252645135)) + ((((((((nI x) - ((((nI x).toUInt32 >>> ((nI 1).toUInt32 &&& Int32.toUInt32 31)).toInt32) &&& (nI 1431655765))) &&& (nI 858993459)) + (((((nI x) - ((((nI x).toUInt32 >>> ((nI 1).toUInt32 &&& Int32.toUInt32 31)).toInt32) &&& (nI 1431655765))).toUInt32 >>> ((nI 2).toUInt32 &&& Int32.toUInt32 31)).toInt32) &&& (nI 858993459))) + ((((((nI x) - ((((nI x).toUInt32 >>> ((nI 1).toUInt32 &&& Int32.toUInt32 31)).toInt32) &&& (nI 1431655765))) &&& (nI 858993459)) + (((((nI x) - ((((nI x).toUInt32 >>> ((nI 1).toUInt32 &&& Int32.toUInt32 31)).toInt32) &&& (nI 1431655765))).toUInt32 >>> ((nI 2).toUInt32 &&& Int32.toUInt32 31)).toInt32) &&& (nI 858993459))).toUInt32 >>> ((nI 4).toUInt32 &&& Int32.toUInt32 31)).toInt32)) &&& (nI 252645135)).toUInt32 >>> ((nI 8).toUInt32 &&& Int32.toUInt32 31)).toInt32)) + (((((((((nI x) - ((((nI x).toUInt32 >>> ((nI 1).toUInt32 &&& Int32.toUInt32 31)).toInt32) &&& (nI 1431655765))) &&& (nI 858993459)) + (((((nI x) - ((((nI x).toUInt32 >>> ((nI 1).toUInt32 &&& Int32.toUInt32 31)).toInt32) &&& (nI 1431655765))).toUInt32 >>> ((nI 2).toUInt32 &&& Int32.toUInt32 31)).toInt32) &&& (nI 858993459))) + ((((((nI x) - ((((nI x).toUInt32 >>> ((nI 1).toUInt32 &&& Int32.toUInt32 31)).toInt32) &&& (nI 1431655765))) &&& (nI 858993459)) + (((((nI x) - ((((nI x).toUInt32 >>> ((nI 1).toUInt32 &&& Int32.toUInt32 31)).toInt32) &&& (nI 1431655765))).toUInt32 >>> ((nI 2).toUInt32 &&& Int32.toUInt32 31)).toInt32) &&& (nI 858993459))).toUInt32 >>> ((nI 4).toUInt32 &&& Int32.toUInt32 31)).toInt32)) &&& (nI 252645135)) + ((((((((nI x) - ((((nI x).toUInt32 >>> ((nI 1).toUInt32 &&& Int32.toUInt32 31)).toInt32) &&& (nI 1431655765))) &&& (nI 858993459)) + (((((nI x) - ((((nI x).toUInt32 >>> ((nI 1).toUInt32 &&& Int32.toUInt32 31)).toInt32) &&& (nI 1431655765))).toUInt32 >>> ((nI 2).toUInt32 &&& Int32.toUInt32 31)).toInt32) &&& (nI 858993459))) + ((((((nI x) - ((((nI x).toUInt32 >>> ((nI 1).toUInt32 &&& Int32.toUInt32 31)).toInt32) &&& (nI 1431655765))) &&& (nI 858993459)) + (((((nI x) - ((((nI x).toUInt32 >>> ((nI 1).toUInt32 &&& Int32.toUInt32 31)).toInt32) &&& (nI 1431655765))).toUInt32 >>> ((nI 2).toUInt32 &&& Int32.toUInt32 31)).toInt32) &&& (nI 858993459))).toUInt32 >>> ((nI 4).toUInt32 &&& Int32.toUInt32 31)).toInt32)) &&& (nI 252645135)).toUInt32 >>> ((nI 8).toUInt32 &&& Int32.toUInt32 31)).toInt32)).toUInt32 >>> ((nI 16).toUInt32 &&& Int32.toUInt32 31)).toInt32)) &&& (nI 63) = nI (ds_cnt (fun i => x.testBit i) 8) by decide +kernel) x hx, rfl⟩) d_In_bitCount_52
set_option maxHeartbeats 4000000 in
set_option maxRecDepth 100000 in
theorem c_whyNoPlan (l : Launch) (D : va_G) (g : Nat → ClassId) (a : Nat → Nat) (f : Nat → Nat → Nat)  (ok : ds_ok f) : ds_I l D g a y_DS_whyNoPlan b_DS_whyNoPlan 2 .int 1 22 [.ref (a 0)] f (fun r u => r = (if ds_any (fun x => f 12 x != 0 && f 13 x != 0) (f 1 1) = true then (-2) else if ds_any (fun x => f 12 x != 0 && !ds_can f (f 10 x) x) (f 1 1) = true then (-3) else (-4)) ∧ u = f) := by
  refine dw_ofI (by decide) (fun _ _ _ => rfl) (Nat.le_of_ble_eq_true rfl) ?_
  intro p e s m args below meth c ls A Q R H locs hR hA S hN hw hl hret
  have hl : lv_has ls 2 [(0, .ref (a 0))] := hl
  have S : CallFix p m c b_DS_whyNoPlan 2 s args ds_T R_DS := S
  obtain ⟨hV, hn, hex, hst, hve, hwy, hw0, hrw⟩ := id ok
  refine lv_iconst (v := nI 0) S.1 S.2.1 d_DS_whyNoPlan_0 (by decide) ?_
  refine lv_istore_n (lv' := [(1, .int (nI 0)), (0, .ref (a 0))]) S.1 S.2.1 d_DS_whyNoPlan_1 rfl hl (by decide) rfl (fun ls hl => ?_)
  have loop_2 : ∀ (n : Nat) (i : Nat) (hi : i ≤ f 1 1) (h1 : ds_any (fun x => f 12 x != 0 && f 13 x != 0) i = false) (_ : f 1 1 - i < n) (H : Heap) (locs : List Loc), dw_W D classes (ds_tys g) A s.heap (dw_l 77 (ds_ce g a) a f) s H locs → ∀ (ls : Array Slot), lv_has ls 2 [(0, .ref (a 0)), (1, .int (nI i))] → W p l e R s m args below meth c H locs 0 0 Q (F0 m 2 ls []) := by
    intro n
    induction n with
    | zero => intro i hi h1 h9; exact absurd h9 (Nat.not_lt_zero _)
    | succ n ih_2 =>
      intro i hi h1 hm_2 H locs hw ls hl
      refine lv_iload_n S.1 S.2.1 d_DS_whyNoPlan_2 rfl (lv_at hl 1 rfl) ?_
      refine lv_aload_n S.1 S.2.1 d_DS_whyNoPlan_3 rfl (lv_at hl 0 rfl) ?_
      refine dw_getf (fi := 0) (v := .ref (a 1)) S hw i_DS ds_ob0 (by decide) rfl wd_135 rfl d_DS_whyNoPlan_4 ?_
      refine dw_getN (fi := 1) (v := .int (nI (f 1 1))) S hw i_Day ds_ob1 (by decide) rfl hN wd_35 rfl d_DS_whyNoPlan_7 ?_
      refine dn_icmp_ge S.1 S.2.1 46 (by omega) (by omega) d_DS_whyNoPlan_10 (by decide) (fun h_10 => ?_) (fun h_10 => ?_)
      · have h1 : ds_any (fun x => f 12 x != 0 && f 13 x != 0) (f 1 1) = false := by rw [← show i = f 1 1 by omega]; exact h1
        refine lv_iconst (v := nI 0) S.1 S.2.1 d_DS_whyNoPlan_46 (by decide) ?_
        refine lv_istore_n (lv' := [(1, .int (nI 0)), (0, .ref (a 0))]) S.1 S.2.1 d_DS_whyNoPlan_47 rfl hl (by decide) rfl (fun ls hl => ?_)
        have loop_48 : ∀ (n : Nat) (i : Nat) (hi : i ≤ f 1 1) (h2 : ds_any (fun x => f 12 x != 0 && !ds_can f (f 10 x) x) i = false) (_ : f 1 1 - i < n) (H : Heap) (locs : List Loc), dw_W D classes (ds_tys g) A s.heap (dw_l 77 (ds_ce g a) a f) s H locs → ∀ (ls : Array Slot), lv_has ls 2 [(0, .ref (a 0)), (1, .int (nI i))] → W p l e R s m args below meth c H locs 0 0 Q (F0 m 48 ls []) := by
          intro n
          induction n with
          | zero => intro i hi h2 h9; exact absurd h9 (Nat.not_lt_zero _)
          | succ n ih_48 =>
            intro i hi h2 hm_48 H locs hw ls hl
            refine lv_iload_n S.1 S.2.1 d_DS_whyNoPlan_48 rfl (lv_at hl 1 rfl) ?_
            refine lv_aload_n S.1 S.2.1 d_DS_whyNoPlan_49 rfl (lv_at hl 0 rfl) ?_
            refine dw_getf (fi := 0) (v := .ref (a 1)) S hw i_DS ds_ob0 (by decide) rfl wd_135 rfl d_DS_whyNoPlan_50 ?_
            refine dw_getN (fi := 1) (v := .int (nI (f 1 1))) S hw i_Day ds_ob1 (by decide) rfl hN wd_35 rfl d_DS_whyNoPlan_53 ?_
            refine dn_icmp_ge S.1 S.2.1 100 (by omega) (by omega) d_DS_whyNoPlan_56 (by decide) (fun h_56 => ?_) (fun h_56 => ?_)
            · refine lv_bipush (v := (-4)) S.1 S.2.1 d_DS_whyNoPlan_100 (by decide) ?_
              exact hret H locs _ ls _ _ hw (⟨by rw [if_neg (by rw [h1]; decide), if_neg (by rw [← show i = f 1 1 by omega, h2]; decide)], rfl⟩) d_DS_whyNoPlan_102
            · have s1 := hst i (by omega)
              have r1 := hrw.2 i (by omega)
              refine lv_aload_n S.1 S.2.1 d_DS_whyNoPlan_59 rfl (lv_at hl 0 rfl) ?_
              refine dw_getf (fi := 0) (v := .ref (a 1)) S hw i_DS ds_ob0 (by decide) rfl wd_135 rfl d_DS_whyNoPlan_60 ?_
              refine dw_getN (fi := 6) (v := .ref (a 12)) S hw i_Day ds_ob1 (by decide) rfl hN wd_45 rfl d_DS_whyNoPlan_63 ?_
              refine lv_iload_n S.1 S.2.1 d_DS_whyNoPlan_66 rfl (lv_at hl 1 rfl) ?_
              refine dw_zald S.1 S.2.1 hw ds_k12 (by omega) d_DS_whyNoPlan_67 ?_
              refine dn_if_eq S.1 S.2.1 94 (by omega) d_DS_whyNoPlan_68 (by decide) (fun h_68 => ?_) (fun h_68 => ?_)
              · refine lv_iinc (v := nI (i + 1)) (lv' := [(1, .int (nI (i + 1))), (0, .ref (a 0))]) S.1 S.2.1 d_DS_whyNoPlan_94 hl (k := 1) rfl (by rw [show Int32.ofInt 1 = nI 1 from rfl, nI_add]) (by decide) rfl (fun ls hl => ?_)
                refine lv_goto (tgt := 48) S.1 S.2.1 d_DS_whyNoPlan_97 (by decide) ?_
                exact ih_48 (i + 1) (by omega) (by simp [ds_any, h2, h_68]) (by omega) H locs hw ls (lv_sub hl [1, 0] rfl)
              · refine lv_aload_n S.1 S.2.1 d_DS_whyNoPlan_71 rfl (lv_at hl 0 rfl) ?_
                refine dw_getf (fi := 0) (v := .ref (a 1)) S hw i_DS ds_ob0 (by decide) rfl wd_135 rfl d_DS_whyNoPlan_72 ?_
                refine lv_aload_n S.1 S.2.1 d_DS_whyNoPlan_75 rfl (lv_at hl 0 rfl) ?_
                refine dw_getf (fi := 0) (v := .ref (a 1)) S hw i_DS ds_ob0 (by decide) rfl wd_135 rfl d_DS_whyNoPlan_76 ?_
                refine dw_getN (fi := 4) (v := .ref (a 10)) S hw i_Day ds_ob1 (by decide) rfl hN wd_42 rfl d_DS_whyNoPlan_79 ?_
                refine lv_iload_n S.1 S.2.1 d_DS_whyNoPlan_82 rfl (lv_at hl 1 rfl) ?_
                refine dw_iald S.1 S.2.1 hw ds_k10 (by omega) d_DS_whyNoPlan_83 ?_
                refine lv_iload_n S.1 S.2.1 d_DS_whyNoPlan_84 rfl (lv_at hl 1 rfl) ?_
                refine dw_afti hw hA (dw_runVN (As := [.int (nI (f 10 i)), .int (nI i)]) (rest := []) (ko := 1) hw S ds_good (c_canDo l D g a f (f 10 i) i (ok) (r1.1) (by omega) H.size) cw_Day_canDo hN wd_262 wd_227 ws_Day_canDo ds_ob1 dw_blind (dw_pre hw hN) rfl hl.1 rfl ⟨Nat.le_trans (Nat.le_of_ble_eq_true rfl) hR.1, Nat.le_trans (Nat.le_of_ble_eq_true rfl) hR.2⟩ (Nat.le_of_ble_eq_true rfl) ⟨Nat.zero_le _, Nat.zero_le _⟩ d_DS_whyNoPlan_85) (fun r_85 f_1 H locs hp hw => ?_)
                obtain ⟨er, ef⟩ := hp
                subst er
                rw [ef] at hw
                refine dn_ifb_ne S.1 S.2.1 94 d_DS_whyNoPlan_88 (by decide) (fun h_88 => ?_) (fun h_88 => ?_)
                · refine lv_iinc (v := nI (i + 1)) (lv' := [(1, .int (nI (i + 1))), (0, .ref (a 0))]) S.1 S.2.1 d_DS_whyNoPlan_94 hl (k := 1) rfl (by rw [show Int32.ofInt 1 = nI 1 from rfl, nI_add]) (by decide) rfl (fun ls hl => ?_)
                  refine lv_goto (tgt := 48) S.1 S.2.1 d_DS_whyNoPlan_97 (by decide) ?_
                  exact ih_48 (i + 1) (by omega) (by simp [ds_any, h2, h_88]) (by omega) H locs hw ls (lv_sub hl [1, 0] rfl)
                · refine lv_bipush (v := (-3)) S.1 S.2.1 d_DS_whyNoPlan_91 (by decide) ?_
                  exact hret H locs _ ls _ _ hw (⟨by rw [if_neg (by rw [h1]; decide), if_pos (ds_any_mono (i := i + 1) (by simp [ds_any, h_68, h_88]) (by omega))], rfl⟩) d_DS_whyNoPlan_93
        exact loop_48 _ 0 (Nat.zero_le _) (rfl) (Nat.lt_succ_self _) H locs hw ls (lv_sub hl [1, 0] rfl)
      · have s1 := hst i (by omega)
        refine lv_aload_n S.1 S.2.1 d_DS_whyNoPlan_13 rfl (lv_at hl 0 rfl) ?_
        refine dw_getf (fi := 0) (v := .ref (a 1)) S hw i_DS ds_ob0 (by decide) rfl wd_135 rfl d_DS_whyNoPlan_14 ?_
        refine dw_getN (fi := 6) (v := .ref (a 12)) S hw i_Day ds_ob1 (by decide) rfl hN wd_45 rfl d_DS_whyNoPlan_17 ?_
        refine lv_iload_n S.1 S.2.1 d_DS_whyNoPlan_20 rfl (lv_at hl 1 rfl) ?_
        refine dw_zald S.1 S.2.1 hw ds_k12 (by omega) d_DS_whyNoPlan_21 ?_
        refine dn_if_eq S.1 S.2.1 40 (by omega) d_DS_whyNoPlan_22 (by decide) (fun h_22 => ?_) (fun h_22 => ?_)
        · refine lv_iinc (v := nI (i + 1)) (lv' := [(1, .int (nI (i + 1))), (0, .ref (a 0))]) S.1 S.2.1 d_DS_whyNoPlan_40 hl (k := 1) rfl (by rw [show Int32.ofInt 1 = nI 1 from rfl, nI_add]) (by decide) rfl (fun ls hl => ?_)
          refine lv_goto (tgt := 2) S.1 S.2.1 d_DS_whyNoPlan_43 (by decide) ?_
          exact ih_2 (i + 1) (by omega) (by simp [ds_any, h1, h_22]) (by omega) H locs hw ls (lv_sub hl [1, 0] rfl)
        · refine lv_aload_n S.1 S.2.1 d_DS_whyNoPlan_25 rfl (lv_at hl 0 rfl) ?_
          refine dw_getf (fi := 0) (v := .ref (a 1)) S hw i_DS ds_ob0 (by decide) rfl wd_135 rfl d_DS_whyNoPlan_26 ?_
          refine dw_getN (fi := 7) (v := .ref (a 13)) S hw i_Day ds_ob1 (by decide) rfl hN wd_47 rfl d_DS_whyNoPlan_29 ?_
          refine lv_iload_n S.1 S.2.1 d_DS_whyNoPlan_32 rfl (lv_at hl 1 rfl) ?_
          refine dw_zald S.1 S.2.1 hw ds_k13 (by omega) d_DS_whyNoPlan_33 ?_
          refine dn_if_eq S.1 S.2.1 40 (by omega) d_DS_whyNoPlan_34 (by decide) (fun h_34 => ?_) (fun h_34 => ?_)
          · refine lv_iinc (v := nI (i + 1)) (lv' := [(1, .int (nI (i + 1))), (0, .ref (a 0))]) S.1 S.2.1 d_DS_whyNoPlan_40 hl (k := 1) rfl (by rw [show Int32.ofInt 1 = nI 1 from rfl, nI_add]) (by decide) rfl (fun ls hl => ?_)
            refine lv_goto (tgt := 2) S.1 S.2.1 d_DS_whyNoPlan_43 (by decide) ?_
            exact ih_2 (i + 1) (by omega) (by simp [ds_any, h1, h_34]) (by omega) H locs hw ls (lv_sub hl [1, 0] rfl)
          · refine lv_bipush (v := (-2)) S.1 S.2.1 d_DS_whyNoPlan_37 (by decide) ?_
            exact hret H locs _ ls _ _ hw (⟨by rw [if_pos (ds_any_mono (i := i + 1) (by simp [ds_any, h_22, h_34]) (by omega))], rfl⟩) d_DS_whyNoPlan_39
  exact loop_2 _ 0 (Nat.zero_le _) (rfl) (Nat.lt_succ_self _) H locs hw ls (lv_sub hl [1, 0] rfl)
set_option maxHeartbeats 4000000 in
set_option maxRecDepth 100000 in
theorem c_prepareRow (l : Launch) (D : va_G) (g : Nat → ClassId) (a : Nat → Nat) (f : Nat → Nat → Nat) (v : Nat) (t : Nat) (w : Nat) (ok : ds_ok f) (hv : v < f 1 0) (ht : t < 2 ^ 31) (hw3 : w < 2 ^ 31) (hb : (ds_own f (fun x => t.testBit x) v (f 1 1)).length + (ds_rd f (fun x => w.testBit x) v).length ≤ 8) : ds_V l D g a y_Day_prepareRow b_Day_prepareRow 6 2 47 [.ref (a 1), .int (nI v), .int (nI t), .int (nI w)] f (fun u => ∃ h : Nat → Nat, u = dw_w (dw_su f (25 + v) h) 17 v ((ds_own f (fun x => t.testBit x) v (f 1 1)).length + (ds_rd f (fun x => w.testBit x) v).length) ∧ ds_is h 0 (ds_own f (fun x => t.testBit x) v (f 1 1) ++ ds_rd f (fun x => w.testBit x) v)) := by
  refine dw_ofV (by decide) (Nat.le_of_ble_eq_true rfl) ?_
  intro p e s m args below meth c ls A Q R H locs hR hA S hN hw hl hret
  have hl : lv_has ls 6 [(0, .ref (a 1)), (1, .int (nI v)), (2, .int (nI t)), (3, .int (nI w))] := hl
  have S : CallFix p m c b_Day_prepareRow 6 s args ds_T R_Day := S
  obtain ⟨hV, hn, hex, hst, hve, hwy, hw0, hrw⟩ := id ok
  refine lv_iconst (v := nI 0) S.1 S.2.1 d_Day_prepareRow_0 (by decide) ?_
  refine lv_istore (lv' := [(4, .int (nI 0)), (0, .ref (a 1)), (1, .int (nI v)), (2, .int (nI t)), (3, .int (nI w))]) S.1 S.2.1 d_Day_prepareRow_1 hl (by decide) rfl (fun ls hl => ?_)
  refine lv_iconst (v := nI 0) S.1 S.2.1 d_Day_prepareRow_3 (by decide) ?_
  refine lv_istore (lv' := [(5, .int (nI 0)), (4, .int (nI 0)), (0, .ref (a 1)), (1, .int (nI v)), (2, .int (nI t)), (3, .int (nI w))]) S.1 S.2.1 d_Day_prepareRow_4 hl (by decide) rfl (fun ls hl => ?_)
  have loop_6 : ∀ (n : Nat) (z : Nat) (i : Nat) (f2 : Nat → Nat → Nat) (h : Nat → Nat) (hi : i ≤ f 1 1) (ez : z = (ds_own f (fun x => t.testBit x) v i).length) (hh : f2 = dw_su f (25 + v) h) (hs : ds_is h 0 (ds_own f (fun x => t.testBit x) v i)) (_ : f 1 1 - i < n) (H : Heap) (locs : List Loc), dw_W D classes (ds_tys g) A s.heap (dw_l 77 (ds_ce g a) a f2) s H locs → ∀ (ls : Array Slot), lv_has ls 6 [(0, .ref (a 1)), (1, .int (nI v)), (2, .int (nI t)), (3, .int (nI w)), (4, .int (nI z)), (5, .int (nI i))] → W p l e R s m args below meth c H locs 0 0 Q (F0 m 6 ls []) := by
    intro n
    induction n with
    | zero => intro z i f2 h hi ez hh hs h9; exact absurd h9 (Nat.not_lt_zero _)
    | succ n ih_6 =>
      intro z i f2 h hi ez hh hs hm_6 H locs hw ls hl
      have q11 : f2 1 1 = f 1 1 := by rw [hh, dw_su_ne (by omega)]
      have q10 : f2 10 i = f 10 i := by rw [hh, dw_su_ne (by omega)]
      have zl : z ≤ i := by rw [ez]; exact ds_own_len _ _ _ _
      refine lv_iload S.1 S.2.1 d_Day_prepareRow_6 (lv_at hl 5 rfl) ?_
      refine lv_aload_n S.1 S.2.1 d_Day_prepareRow_8 rfl (lv_at hl 0 rfl) ?_
      refine dw_getf (fi := 1) (v := .int (nI (f2 1 1))) S hw i_Day ds_ob1 (by decide) rfl wd_37 rfl d_Day_prepareRow_9 ?_
      refine dn_icmp_ge S.1 S.2.1 55 (by omega) (by omega) d_Day_prepareRow_12 (by decide) (fun h_12 => ?_) (fun h_12 => ?_)
      · have ag : ∀ k, ¬ ds_scr k → f2 k = f k := by rw [hh]; exact ds_su_agree (by unfold ds_scr; omega)
        have ok2 := ds_ok_congr ag ok
        have eR : ds_rd f2 (fun x => w.testBit x) v = ds_rd f (fun x => w.testBit x) v := ds_rd_congr ag _ (by omega)
        have q1 : f2 1 = f 1 := by rw [hh, dw_su_ne (by omega)]
        rw [show i = f 1 1 by omega] at ez hs
        refine lv_aload_n S.1 S.2.1 d_Day_prepareRow_55 rfl (lv_at hl 0 rfl) ?_
        refine dw_getf (fi := 11) (v := .ref (a 17)) S hw i_Day ds_ob1 (by decide) rfl wd_51 rfl d_Day_prepareRow_56 ?_
        refine lv_iload_n S.1 S.2.1 d_Day_prepareRow_59 rfl (lv_at hl 1 rfl) ?_
        refine lv_aload_n S.1 S.2.1 d_Day_prepareRow_60 rfl (lv_at hl 0 rfl) ?_
        refine lv_iload_n S.1 S.2.1 d_Day_prepareRow_61 rfl (lv_at hl 1 rfl) ?_
        refine lv_iload_n S.1 S.2.1 d_Day_prepareRow_62 rfl (lv_at hl 3 rfl) ?_
        refine lv_aload_n S.1 S.2.1 d_Day_prepareRow_63 rfl (lv_at hl 0 rfl) ?_
        refine dw_getf (fi := 10) (v := .ref (a 16)) S hw i_Day ds_ob1 (by decide) rfl wd_50 rfl d_Day_prepareRow_64 ?_
        refine lv_iload_n S.1 S.2.1 d_Day_prepareRow_67 rfl (lv_at hl 1 rfl) ?_
        refine dw_aald S.1 S.2.1 hw ds_k16 (by omega) d_Day_prepareRow_68 ?_
        refine lv_iload S.1 S.2.1 d_Day_prepareRow_69 (lv_at hl 4 rfl) ?_
        refine dw_afti hw hA (dw_runV (As := [.int (nI v), .int (nI w), .ref (a (25 + v)), .int (nI z)]) (rest := [.int (nI v), .ref (a 17)]) (ko := 1) hw S ds_good (c_addRound l D g a f2 v w (25 + v) z (ok2) (by rw [q1]; exact hv) (hw3) (ds_k25 (by omega)) (Or.inr (by omega)) (by rw [eR, ez]; exact hb) H.size) cw_Day_addRound wd_238 wd_240 ws_Day_addRound ds_ob1 dw_blind (dw_pre hw hN) rfl hl.1 rfl ⟨Nat.le_trans (Nat.le_of_ble_eq_true rfl) hR.1, Nat.le_trans (Nat.le_of_ble_eq_true rfl) hR.2⟩ (Nat.le_of_ble_eq_true rfl) ⟨Nat.zero_le _, Nat.zero_le _⟩ d_Day_prepareRow_71) (fun r_71 f_1 H locs hp hw => ?_)
        obtain ⟨er, h2, ef_1, hk2, hs2⟩ := hp
        subst er
        rw [eR] at hs2
        refine ds_topi (w := nI (z + (ds_rd f (fun x => w.testBit x) v).length)) (by rw [eR]) ?_
        refine dw_iast S.1 S.2.1 hw ds_k17 (by omega) d_Day_prepareRow_74 (fun f_2 H locs ef_2 hw => ?_)
        exact hret H locs _ ls _  hw (by
    have eE := ef_2
    refine ⟨h2, ?_, ?_⟩
    · rw [eE, ef_1, hh, ez]
      congr 1
      funext k
      by_cases ek : k = 25 + v
      · rw [ek, dw_su_eq, dw_su_eq]
      · rw [dw_su_ne ek, dw_su_ne ek, dw_su_ne ek]
    · refine ds_is_app (ds_is_keep hs (fun i hi => ?_)) (by rw [Nat.zero_add, ← ez]; exact hs2)
      have q := hk2 i (by omega)
      rw [q, hh, dw_su_eq]) d_Day_prepareRow_75
      · have r4 := hrw.2 i (by omega)
        refine lv_iload_n S.1 S.2.1 d_Day_prepareRow_15 rfl (lv_at hl 2 rfl) ?_
        refine lv_iload S.1 S.2.1 d_Day_prepareRow_16 (lv_at hl 5 rfl) ?_
        refine dw_afti hw hA (dw_runSN (As := [.int (nI t), .int (nI i)]) (rest := []) S ds_good (c_isIn l D g a f2 t i (ht) (by omega) H.size) cw_DS_isIn hN wd_242 wd_219 dw_blind (dw_pre hw hN) rfl hl.1 rfl ⟨Nat.le_trans (Nat.le_of_ble_eq_true rfl) hR.1, Nat.le_trans (Nat.le_of_ble_eq_true rfl) hR.2⟩ (Nat.le_of_ble_eq_true rfl) ⟨Nat.zero_le _, Nat.zero_le _⟩ d_Day_prepareRow_18) (fun r_18 f_3 H locs hp hw => ?_)
        obtain ⟨er, ef⟩ := hp
        subst er
        rw [ef] at hw
        refine dn_ifb_eq S.1 S.2.1 49 d_Day_prepareRow_21 (by decide) (fun h_21 => ?_) (fun h_21 => ?_)
        · have hP : ¬ ((fun x => t.testBit x) i && f 10 i == v) = true := by simp [h_21]
          refine lv_iinc (v := nI (i + 1)) (lv' := [(5, .int (nI (i + 1))), (0, .ref (a 1)), (1, .int (nI v)), (2, .int (nI t)), (3, .int (nI w)), (4, .int (nI z))]) S.1 S.2.1 d_Day_prepareRow_49 hl (k := 5) rfl (by rw [show Int32.ofInt 1 = nI 1 from rfl, nI_add]) (by decide) rfl (fun ls hl => ?_)
          refine lv_goto (tgt := 6) S.1 S.2.1 d_Day_prepareRow_52 (by decide) ?_
          exact ih_6 z (i + 1) f2 h (by omega) (by rw [ds_own_s, if_neg hP, List.append_nil]; exact ez) (hh) (by rw [ds_own_s, if_neg hP, List.append_nil]; exact hs) (by omega) H locs hw ls (lv_sub hl [1, 2, 3, 4, 5, 0] rfl)
        · refine lv_aload_n S.1 S.2.1 d_Day_prepareRow_24 rfl (lv_at hl 0 rfl) ?_
          refine dw_getf (fi := 4) (v := .ref (a 10)) S hw i_Day ds_ob1 (by decide) rfl wd_40 rfl d_Day_prepareRow_25 ?_
          refine lv_iload S.1 S.2.1 d_Day_prepareRow_28 (lv_at hl 5 rfl) ?_
          refine dw_iald S.1 S.2.1 hw ds_k10 (by omega) d_Day_prepareRow_30 ?_
          refine lv_iload_n S.1 S.2.1 d_Day_prepareRow_31 rfl (lv_at hl 1 rfl) ?_
          refine dn_icmp_ne S.1 S.2.1 49 (by omega) (by omega) d_Day_prepareRow_32 (by decide) (fun h_32 => ?_) (fun h_32 => ?_)
          · have hP : ¬ ((fun x => t.testBit x) i && f 10 i == v) = true := by simp; intro _; omega
            refine lv_iinc (v := nI (i + 1)) (lv' := [(5, .int (nI (i + 1))), (0, .ref (a 1)), (1, .int (nI v)), (2, .int (nI t)), (3, .int (nI w)), (4, .int (nI z))]) S.1 S.2.1 d_Day_prepareRow_49 hl (k := 5) rfl (by rw [show Int32.ofInt 1 = nI 1 from rfl, nI_add]) (by decide) rfl (fun ls hl => ?_)
            refine lv_goto (tgt := 6) S.1 S.2.1 d_Day_prepareRow_52 (by decide) ?_
            exact ih_6 z (i + 1) f2 h (by omega) (by rw [ds_own_s, if_neg hP, List.append_nil]; exact ez) (hh) (by rw [ds_own_s, if_neg hP, List.append_nil]; exact hs) (by omega) H locs hw ls (lv_sub hl [1, 2, 3, 4, 5, 0] rfl)
          · have hP : ((fun x => t.testBit x) i && f 10 i == v) = true := by simp [h_21]; omega
            refine lv_aload_n S.1 S.2.1 d_Day_prepareRow_35 rfl (lv_at hl 0 rfl) ?_
            refine dw_getf (fi := 10) (v := .ref (a 16)) S hw i_Day ds_ob1 (by decide) rfl wd_50 rfl d_Day_prepareRow_36 ?_
            refine lv_iload_n S.1 S.2.1 d_Day_prepareRow_39 rfl (lv_at hl 1 rfl) ?_
            refine dw_aald S.1 S.2.1 hw ds_k16 (by omega) d_Day_prepareRow_40 ?_
            refine lv_iload S.1 S.2.1 d_Day_prepareRow_41 (lv_at hl 4 rfl) ?_
            refine lv_iinc (v := nI (z + 1)) (lv' := [(4, .int (nI (z + 1))), (0, .ref (a 1)), (1, .int (nI v)), (2, .int (nI t)), (3, .int (nI w)), (5, .int (nI i))]) S.1 S.2.1 d_Day_prepareRow_43 hl (k := 4) rfl (by rw [show Int32.ofInt 1 = nI 1 from rfl, nI_add]) (by decide) rfl (fun ls hl => ?_)
            refine lv_iload S.1 S.2.1 d_Day_prepareRow_46 (lv_at hl 5 rfl) ?_
            refine dw_iast S.1 S.2.1 hw (ds_k25 (by omega)) (by omega) d_Day_prepareRow_48 (fun f_4 H locs ef_4 hw => ?_)
            refine lv_iinc (v := nI (i + 1)) (lv' := [(5, .int (nI (i + 1))), (4, .int (nI (z + 1))), (0, .ref (a 1)), (1, .int (nI v)), (2, .int (nI t)), (3, .int (nI w))]) S.1 S.2.1 d_Day_prepareRow_49 hl (k := 5) rfl (by rw [show Int32.ofInt 1 = nI 1 from rfl, nI_add]) (by decide) rfl (fun ls hl => ?_)
            refine lv_goto (tgt := 6) S.1 S.2.1 d_Day_prepareRow_52 (by decide) ?_
            exact ih_6 (z + 1) (i + 1) f_4 (dw_up h z i) (by omega) (by rw [ds_own_s, if_pos hP, List.length_append, List.length_singleton, ez]) (by rw [ef_4, hh, dw_w_su]) (by rw [ds_own_s, if_pos hP, ez]; have q := ds_is_push i hs; rwa [Nat.zero_add] at q) (by omega) H locs hw ls (lv_sub hl [2, 3, 4, 5, 1, 0] rfl)
  exact loop_6 _ 0 0 f (f (25 + v)) (Nat.zero_le _) (rfl) (dw_su_self.symm) (ds_is_nil _ _) (Nat.lt_succ_self _) H locs hw ls (lv_sub hl [2, 3, 4, 5, 1, 0] rfl)
set_option maxHeartbeats 4000000 in
set_option maxRecDepth 100000 in
theorem c_turn (l : Launch) (D : va_G) (g : Nat → ClassId) (a : Nat → Nat) (f : Nat → Nat → Nat)  (hV : f 1 0 ≤ 3) (hn : f 1 1 ≤ 8) (hL : ∀ v r, v < f 1 0 → r < f 17 v → r < 8 ∧ f (25 + v) r < 8) (hI : ∀ v r v2 r2, v < f 1 0 → v2 < f 1 0 → r < f 17 v → r2 < f 17 v2 → f (25 + v) r = f (25 + v2) r2 → v = v2 ∧ r = r2) (hB : ∀ v, v < f 1 0 → f 17 v ≤ 8) : ds_V l D g a y_Day_turn b_Day_turn 3 1 23 [.ref (a 1)] f (fun u => ds_trn f u (f 1 0) ∧ (∀ x, x < f 1 1 → u 12 x = 0 ∧ u 13 x = 0) ∧ (∀ k, k ≠ 10 → k ≠ 11 → k ≠ 12 → k ≠ 13 → k ≠ 15 → k ≠ 18 → ¬ (22 ≤ k ∧ k < 25) → u k = f k)) := by
  refine dw_ofV (by decide) (Nat.le_of_ble_eq_true rfl) ?_
  intro p e s m args below meth c ls A Q R H locs hR hA S hN hw hl hret
  have hl : lv_has ls 3 [(0, .ref (a 1))] := hl
  have S : CallFix p m c b_Day_turn 3 s args ds_T R_Day := S
  refine lv_iconst (v := nI 0) S.1 S.2.1 d_Day_turn_0 (by decide) ?_
  refine lv_istore_n (lv' := [(1, .int (nI 0)), (0, .ref (a 1))]) S.1 S.2.1 d_Day_turn_1 rfl hl (by decide) rfl (fun ls hl => ?_)
  have loop_2 : ∀ (n : Nat) (v : Nat) (f2 : Nat → Nat → Nat) (hv : v ≤ f 1 0) (hT : ds_trn f f2 v) (hg : (∀ k, k ≠ 10 → k ≠ 11 → k ≠ 12 → k ≠ 13 → k ≠ 15 → k ≠ 18 → ¬ (22 ≤ k ∧ k < 25) → f2 k = f k)) (_ : f 1 0 - v < n) (H : Heap) (locs : List Loc), dw_W D classes (ds_tys g) A s.heap (dw_l 77 (ds_ce g a) a f2) s H locs → ∀ (ls : Array Slot), lv_has ls 3 [(0, .ref (a 1)), (1, .int (nI v))] → W p l e R s m args below meth c H locs 0 0 Q (F0 m 2 ls []) := by
    intro n
    induction n with
    | zero => intro v f2 hv hT hg h9; exact absurd h9 (Nat.not_lt_zero _)
    | succ n ih_2 =>
      intro v f2 hv hT hg hm_2 H locs hw ls hl
      have q1 : f2 1 = f 1 := hg 1 (by decide) (by decide) (by decide) (by decide) (by decide) (by decide) (by decide)
      have q10 : f2 1 0 = f 1 0 := by rw [q1]
      refine lv_iload_n S.1 S.2.1 d_Day_turn_2 rfl (lv_at hl 1 rfl) ?_
      refine lv_aload_n S.1 S.2.1 d_Day_turn_3 rfl (lv_at hl 0 rfl) ?_
      refine dw_getf (fi := 0) (v := .int (nI (f2 1 0))) S hw i_Day ds_ob1 (by decide) rfl wd_32 rfl d_Day_turn_4 ?_
      refine dn_icmp_ge S.1 S.2.1 62 (by omega) (by omega) d_Day_turn_7 (by decide) (fun h_7 => ?_) (fun h_7 => ?_)
      · refine lv_iconst (v := nI 0) S.1 S.2.1 d_Day_turn_62 (by decide) ?_
        refine lv_istore_n (lv' := [(1, .int (nI 0)), (0, .ref (a 1))]) S.1 S.2.1 d_Day_turn_63 rfl hl (by decide) rfl (fun ls hl => ?_)
        have loop_64 : ∀ (n : Nat) (i : Nat) (f2 : Nat → Nat → Nat) (hi : i ≤ f 1 1) (hT : ds_trn f f2 (f 1 0)) (hg : (∀ k, k ≠ 10 → k ≠ 11 → k ≠ 12 → k ≠ 13 → k ≠ 15 → k ≠ 18 → ¬ (22 ≤ k ∧ k < 25) → f2 k = f k)) (hZ : ∀ x, x < i → f2 12 x = 0 ∧ f2 13 x = 0) (_ : f 1 1 - i < n) (H : Heap) (locs : List Loc), dw_W D classes (ds_tys g) A s.heap (dw_l 77 (ds_ce g a) a f2) s H locs → ∀ (ls : Array Slot), lv_has ls 3 [(0, .ref (a 1)), (1, .int (nI i))] → W p l e R s m args below meth c H locs 0 0 Q (F0 m 64 ls []) := by
          intro n
          induction n with
          | zero => intro i f2 hi hT hg hZ h9; exact absurd h9 (Nat.not_lt_zero _)
          | succ n ih_64 =>
            intro i f2 hi hT hg hZ hm_64 H locs hw ls hl
            have q11 : f2 1 1 = f 1 1 := by rw [hg 1 (by decide) (by decide) (by decide) (by decide) (by decide) (by decide) (by decide)]
            refine lv_iload_n S.1 S.2.1 d_Day_turn_64 rfl (lv_at hl 1 rfl) ?_
            refine lv_aload_n S.1 S.2.1 d_Day_turn_65 rfl (lv_at hl 0 rfl) ?_
            refine dw_getf (fi := 1) (v := .int (nI (f2 1 1))) S hw i_Day ds_ob1 (by decide) rfl wd_37 rfl d_Day_turn_66 ?_
            refine dn_icmp_ge S.1 S.2.1 92 (by omega) (by omega) d_Day_turn_69 (by decide) (fun h_69 => ?_) (fun h_69 => ?_)
            · exact hret H locs _ ls _  hw (⟨hT, fun x hx => hZ x (by omega), hg⟩) d_Day_turn_92
            · refine lv_aload_n S.1 S.2.1 d_Day_turn_72 rfl (lv_at hl 0 rfl) ?_
              refine dw_getf (fi := 6) (v := .ref (a 12)) S hw i_Day ds_ob1 (by decide) rfl wd_44 rfl d_Day_turn_73 ?_
              refine lv_iload_n S.1 S.2.1 d_Day_turn_76 rfl (lv_at hl 1 rfl) ?_
              refine lv_iconst (v := nI 0) S.1 S.2.1 d_Day_turn_77 (by decide) ?_
              refine dw_zast S.1 S.2.1 hw (by decide) ds_k12 (by omega) d_Day_turn_78 (fun f_1 H locs ef_1 hw => ?_)
              have eA := ef_1
              refine lv_aload_n S.1 S.2.1 d_Day_turn_79 rfl (lv_at hl 0 rfl) ?_
              refine dw_getf (fi := 7) (v := .ref (a 13)) S hw i_Day ds_ob1 (by decide) rfl wd_46 rfl d_Day_turn_80 ?_
              refine lv_iload_n S.1 S.2.1 d_Day_turn_83 rfl (lv_at hl 1 rfl) ?_
              refine lv_iconst (v := nI 0) S.1 S.2.1 d_Day_turn_84 (by decide) ?_
              refine dw_zast S.1 S.2.1 hw (by decide) ds_k13 (by omega) d_Day_turn_85 (fun f_2 H locs ef_2 hw => ?_)
              have eB := ef_2
              refine lv_iinc (v := nI (i + 1)) (lv' := [(1, .int (nI (i + 1))), (0, .ref (a 1))]) S.1 S.2.1 d_Day_turn_86 hl (k := 1) rfl (by rw [show Int32.ofInt 1 = nI 1 from rfl, nI_add]) (by decide) rfl (fun ls hl => ?_)
              refine lv_goto (tgt := 64) S.1 S.2.1 d_Day_turn_89 (by decide) ?_
              exact ih_64 (i + 1) f_2 (by omega) (fun v2 h2 => by have q := hT v2 h2; rw [eB, eA, dw_w_ne (by decide), dw_w_ne (by decide), dw_w_ne (by decide), dw_w_ne (by decide)]; refine ⟨q.1, q.2.1, fun r hr => ?_⟩; rw [dw_w_ne (by omega), dw_w_ne (by omega), dw_w_ne (by decide), dw_w_ne (by decide), dw_w_ne (by decide), dw_w_ne (by decide)]; exact q.2.2 r hr) (fun k k1 k2 k3 k4 k5 k6 k7 => by rw [eB, eA, dw_w_ne k4, dw_w_ne k3]; exact hg k k1 k2 k3 k4 k5 k6 k7) (fun x hx => by
    rw [eB, eA, dw_w_ne (by decide), dw_w_eq, dw_w_eq, dw_w_ne (by decide)]
    by_cases ex : x = i
    · rw [ex, dw_up_eq, dw_up_eq]; exact ⟨rfl, rfl⟩
    · rw [dw_up_ne ex, dw_up_ne ex]; exact hZ x (by omega)) (by omega) H locs hw ls (lv_sub hl [1, 0] rfl)
        exact loop_64 _ 0 f2 (Nat.zero_le _) (by rw [← show v = f 1 0 by omega]; exact hT) (hg) (fun x hx => absurd hx (Nat.not_lt_zero _)) (Nat.lt_succ_self _) H locs hw ls (lv_sub hl [1, 0] rfl)
      · refine lv_aload_n S.1 S.2.1 d_Day_turn_10 rfl (lv_at hl 0 rfl) ?_
        refine dw_getf (fi := 9) (v := .ref (a 15)) S hw i_Day ds_ob1 (by decide) rfl wd_49 rfl d_Day_turn_11 ?_
        refine lv_iload_n S.1 S.2.1 d_Day_turn_14 rfl (lv_at hl 1 rfl) ?_
        refine lv_iconst (v := nI 0) S.1 S.2.1 d_Day_turn_15 (by decide) ?_
        refine dw_iast S.1 S.2.1 hw ds_k15 (by omega) d_Day_turn_16 (fun f_3 H locs ef_3 hw => ?_)
        have eA := ef_3
        refine lv_aload_n S.1 S.2.1 d_Day_turn_17 rfl (lv_at hl 0 rfl) ?_
        refine dw_getf (fi := 12) (v := .ref (a 18)) S hw i_Day ds_ob1 (by decide) rfl wd_52 rfl d_Day_turn_18 ?_
        refine lv_iload_n S.1 S.2.1 d_Day_turn_21 rfl (lv_at hl 1 rfl) ?_
        refine lv_bipush (v := nI 8) S.1 S.2.1 d_Day_turn_22 (by decide) ?_
        refine dw_iast S.1 S.2.1 hw ds_k18 (by omega) d_Day_turn_24 (fun f_4 H locs ef_4 hw => ?_)
        have eB := ef_4
        refine lv_iconst (v := nI 0) S.1 S.2.1 d_Day_turn_25 (by decide) ?_
        refine lv_istore_n (lv' := [(2, .int (nI 0)), (0, .ref (a 1)), (1, .int (nI v))]) S.1 S.2.1 d_Day_turn_26 rfl hl (by decide) rfl (fun ls hl => ?_)
        have loop_27 : ∀ (n : Nat) (z : Nat) (f2 : Nat → Nat → Nat) (hz : z ≤ f 17 v) (hT : ds_trn f f2 v) (hg : (∀ k, k ≠ 10 → k ≠ 11 → k ≠ 12 → k ≠ 13 → k ≠ 15 → k ≠ 18 → ¬ (22 ≤ k ∧ k < 25) → f2 k = f k)) (h15 : f2 15 v = z) (h18 : f2 18 v = 8) (hR2 : ∀ r, r < z → f2 (22 + v) r = f (25 + v) r ∧ f2 10 (f (25 + v) r) = v ∧ f2 11 (f (25 + v) r) = r) (_ : f 17 v - z < n) (H : Heap) (locs : List Loc), dw_W D classes (ds_tys g) A s.heap (dw_l 77 (ds_ce g a) a f2) s H locs → ∀ (ls : Array Slot), lv_has ls 3 [(0, .ref (a 1)), (1, .int (nI v)), (2, .int (nI z))] → W p l e R s m args below meth c H locs 0 0 Q (F0 m 27 ls []) := by
          intro n
          induction n with
          | zero => intro z f2 hz hT hg h15 h18 hR2 h9; exact absurd h9 (Nat.not_lt_zero _)
          | succ n ih_27 =>
            intro z f2 hz hT hg h15 h18 hR2 hm_27 H locs hw ls hl
            have q17 : f2 17 v = f 17 v := by rw [hg 17 (by decide) (by decide) (by decide) (by decide) (by decide) (by decide) (by decide)]
            have q25 : f2 (25 + v) z = f (25 + v) z := by rw [hg (25 + v) (by omega) (by omega) (by omega) (by omega) (by omega) (by omega) (by omega)]
            have b17 := hB v (by omega)
            refine lv_iload_n S.1 S.2.1 d_Day_turn_27 rfl (lv_at hl 2 rfl) ?_
            refine lv_aload_n S.1 S.2.1 d_Day_turn_28 rfl (lv_at hl 0 rfl) ?_
            refine dw_getf (fi := 11) (v := .ref (a 17)) S hw i_Day ds_ob1 (by decide) rfl wd_51 rfl d_Day_turn_29 ?_
            refine lv_iload_n S.1 S.2.1 d_Day_turn_32 rfl (lv_at hl 1 rfl) ?_
            refine dw_iald S.1 S.2.1 hw ds_k17 (by omega) d_Day_turn_33 ?_
            refine dn_icmp_ge S.1 S.2.1 56 (by omega) (by omega) d_Day_turn_34 (by decide) (fun h_34 => ?_) (fun h_34 => ?_)
            · refine lv_iinc (v := nI (v + 1)) (lv' := [(1, .int (nI (v + 1))), (0, .ref (a 1)), (2, .int (nI z))]) S.1 S.2.1 d_Day_turn_56 hl (k := 1) rfl (by rw [show Int32.ofInt 1 = nI 1 from rfl, nI_add]) (by decide) rfl (fun ls hl => ?_)
              refine lv_goto (tgt := 2) S.1 S.2.1 d_Day_turn_59 (by decide) ?_
              exact ih_2 (v + 1) f2 (by omega) (fun v2 h2 => by
    by_cases e2 : v2 = v
    · rw [e2]; exact ⟨by rw [h15]; omega, h18, fun r hr => hR2 r (by omega)⟩
    · exact hT v2 (by omega)) (hg) (by omega) H locs hw ls (lv_sub hl [1, 0] rfl)
            · have l1 := hL v z (by omega) (by omega)
              refine lv_aload_n S.1 S.2.1 d_Day_turn_37 rfl (lv_at hl 0 rfl) ?_
              refine lv_aload_n S.1 S.2.1 d_Day_turn_38 rfl (lv_at hl 0 rfl) ?_
              refine dw_getf (fi := 10) (v := .ref (a 16)) S hw i_Day ds_ob1 (by decide) rfl wd_50 rfl d_Day_turn_39 ?_
              refine lv_iload_n S.1 S.2.1 d_Day_turn_42 rfl (lv_at hl 1 rfl) ?_
              refine dw_aald S.1 S.2.1 hw ds_k16 (by omega) d_Day_turn_43 ?_
              refine lv_iload_n S.1 S.2.1 d_Day_turn_44 rfl (lv_at hl 2 rfl) ?_
              refine dw_iald S.1 S.2.1 hw (ds_k25 (by omega)) (by omega) d_Day_turn_45 ?_
              refine lv_iload_n S.1 S.2.1 d_Day_turn_46 rfl (lv_at hl 1 rfl) ?_
              refine dw_aftv hw hA (dw_runV (As := [.int (nI (f2 (25 + v) z)), .int (nI v)]) (rest := []) (ko := 1) hw S ds_good (c_append l D g a f2 (f2 (25 + v) z) v (by omega) (by omega) (by omega) H.size) cw_Day_append wd_173 wd_175 ws_Day_append ds_ob1 dw_blind (dw_pre hw hN) rfl hl.1 rfl ⟨Nat.le_trans (Nat.le_of_ble_eq_true rfl) hR.1, Nat.le_trans (Nat.le_of_ble_eq_true rfl) hR.2⟩ (Nat.le_of_ble_eq_true rfl) ⟨Nat.zero_le _, Nat.zero_le _⟩ d_Day_turn_47) (fun f_5 H locs hp hw => ?_)
              have ef_5 := hp
              have eC : f_5 = ds_app f2 (f (25 + v) z) v := by rw [← q25]; exact ef_5
              refine lv_iinc (v := nI (z + 1)) (lv' := [(2, .int (nI (z + 1))), (0, .ref (a 1)), (1, .int (nI v))]) S.1 S.2.1 d_Day_turn_50 hl (k := 2) rfl (by rw [show Int32.ofInt 1 = nI 1 from rfl, nI_add]) (by decide) rfl (fun ls hl => ?_)
              refine lv_goto (tgt := 27) S.1 S.2.1 d_Day_turn_53 (by decide) ?_
              exact ih_27 (z + 1) f_5 (by omega) (fun v2 h2 => by
    have q := hT v2 h2
    rw [eC]
    refine ⟨?_, ?_, fun r hr => ?_⟩
    · unfold ds_app; rw [dw_w_eq, dw_up_ne (by omega), dw_w_ne (by decide), dw_w_ne (by decide), dw_w_ne (by omega)]; exact q.1
    · rw [ds_app_ne (by omega)]; exact q.2.1
    · have q2 := q.2.2 r hr
      have ne : f (25 + v2) r ≠ f (25 + v) z := fun e => by have := hI v2 r v z (by omega) (by omega) hr (by omega) e; omega
      refine ⟨by rw [ds_app_ne (by omega)]; exact q2.1, ?_, ?_⟩
      · unfold ds_app; rw [dw_w_ne (by decide), dw_w_ne (by decide), dw_w_eq, dw_up_ne ne, dw_w_ne (by omega)]; exact q2.2.1
      · unfold ds_app; rw [dw_w_ne (by decide), dw_w_eq, dw_up_ne ne, dw_w_ne (by decide), dw_w_ne (by omega)]; exact q2.2.2) (fun k k1 k2 k3 k4 k5 k6 k7 => by rw [eC, ds_app_ne (by omega)]; exact hg k k1 k2 k3 k4 k5 k6 k7) (by rw [eC]; unfold ds_app; rw [dw_w_eq, dw_up_eq, h15]) (by rw [eC, ds_app_ne (by omega)]; exact h18) (fun r hr => by
    rw [eC]
    by_cases er : r = z
    · rw [er]
      unfold ds_app
      refine ⟨?_, ?_, ?_⟩
      · rw [dw_w_ne (by omega), dw_w_ne (by omega), dw_w_ne (by omega), dw_w_eq, h15, dw_up_eq]
      · rw [dw_w_ne (by decide), dw_w_ne (by decide), dw_w_eq, dw_up_eq]
      · rw [dw_w_ne (by decide), dw_w_eq, dw_up_eq, h15]
    · have q2 := hR2 r (by omega)
      have ne : f (25 + v) r ≠ f (25 + v) z := fun e => by have := hI v r v z (by omega) (by omega) (by omega) (by omega) e; omega
      unfold ds_app
      refine ⟨?_, ?_, ?_⟩
      · rw [dw_w_ne (by omega), dw_w_ne (by omega), dw_w_ne (by omega), dw_w_eq, h15, dw_up_ne er]; exact q2.1
      · rw [dw_w_ne (by decide), dw_w_ne (by decide), dw_w_eq, dw_up_ne ne, dw_w_ne (by omega)]; exact q2.2.1
      · rw [dw_w_ne (by decide), dw_w_eq, dw_up_ne ne, dw_w_ne (by decide), dw_w_ne (by omega)]; exact q2.2.2) (by omega) H locs hw ls (lv_sub hl [1, 2, 0] rfl)
        exact loop_27 _ 0 f_4 (Nat.zero_le _) (fun v2 h2 => by
    have q := hT v2 h2
    rw [eB, eA, dw_w_ne (by decide), dw_w_eq, dw_w_eq, dw_up_ne (by omega), dw_up_ne (by omega), dw_w_ne (by decide)]
    refine ⟨q.1, q.2.1, fun r hr => ?_⟩
    have q2 := q.2.2 r hr
    rw [dw_w_ne (by omega), dw_w_ne (by omega), dw_w_ne (by decide), dw_w_ne (by decide), dw_w_ne (by decide), dw_w_ne (by decide)]
    exact q2) (fun k k1 k2 k3 k4 k5 k6 k7 => by rw [eB, eA, dw_w_ne k6, dw_w_ne k5]; exact hg k k1 k2 k3 k4 k5 k6 k7) (by rw [eB, eA, dw_w_ne (by decide), dw_w_eq, dw_up_eq]) (by rw [eB, dw_w_eq, dw_up_eq]) (fun r hr => absurd hr (Nat.not_lt_zero _)) (Nat.lt_succ_self _) H locs hw ls (lv_sub hl [1, 2, 0] rfl)
  exact loop_2 _ 0 f (Nat.zero_le _) (fun v2 h2 => absurd h2 (Nat.not_lt_zero _)) (fun _ _ _ _ _ _ _ _ => rfl) (Nat.lt_succ_self _) H locs hw ls (lv_sub hl [1, 0] rfl)
end
section
/-! contracts of the public methods -/
set_option maxHeartbeats 4000000 in
set_option maxRecDepth 100000 in
theorem c_stop (l : Launch) (D : va_G) (g : Nat → ClassId) (a : Nat → Nat) (f : Nat → Nat → Nat) (x : Int32) (y : Int32) (z : Int32) (ok : ds_ok f) : ds_I l D g a y_DS_stop b_DS_stop 5 .int 2 47 [.ref (a 0), .int x, .int y, .int z] f (fun r u => if f 1 1 < 8 ∧ ds_in x (f 1 0) ∧ ds_in y 10 ∧ ds_in z 10001 then r = nI (f 1 1) ∧ u = ds_stop f x.toNatClampNeg y.toNatClampNeg z.toNatClampNeg else r = (-1) ∧ u = f) := by
  refine dw_ofI (by decide) (fun _ _ _ => rfl) (Nat.le_of_ble_eq_true rfl) ?_
  intro p e s m args below meth c ls A Q R H locs hR hA S hN hw hl hret
  have hl : lv_has ls 5 [(0, .ref (a 0)), (1, .int x), (2, .int y), (3, .int z)] := hl
  have S : CallFix p m c b_DS_stop 5 s args ds_T R_DS := S
  obtain ⟨hV, hn, hex, hst, hve, hwy, hw0, hrw⟩ := id ok
  refine lv_aload_n S.1 S.2.1 d_DS_stop_0 rfl (lv_at hl 0 rfl) ?_
  refine dw_getf (fi := 0) (v := .ref (a 1)) S hw i_DS ds_ob0 (by decide) rfl wd_135 rfl d_DS_stop_1 ?_
  refine dw_getN (fi := 1) (v := .int (nI (f 1 1))) S hw i_Day ds_ob1 (by decide) rfl hN wd_35 rfl d_DS_stop_4 ?_
  refine lv_bipush (v := nI 8) S.1 S.2.1 d_DS_stop_7 (by decide) ?_
  refine dn_icmp_ge S.1 S.2.1 23 (by omega) (by decide) d_DS_stop_9 (by decide) (fun h_9 => ?_) (fun h_9 => ?_)
  · refine lv_iconst (v := (-1)) S.1 S.2.1 d_DS_stop_23 (by decide) ?_
    exact hret H locs _ ls _ _ hw (by rw [if_neg (fun q => absurd q.1 (by omega))]; exact ⟨rfl, rfl⟩) d_DS_stop_24
  · refine lv_aload_n S.1 S.2.1 d_DS_stop_12 rfl (lv_at hl 0 rfl) ?_
    refine dw_getf (fi := 0) (v := .ref (a 1)) S hw i_DS ds_ob0 (by decide) rfl wd_135 rfl d_DS_stop_13 ?_
    refine lv_iload_n S.1 S.2.1 d_DS_stop_16 rfl (lv_at hl 1 rfl) ?_
    refine dw_afti hw hA (dw_runVN (As := [.int x]) (rest := []) (ko := 1) hw S ds_good (c_isVehicle l D g a f x (hV) H.size) cw_Day_isVehicle hN wd_161 wd_163 ws_Day_isVehicle ds_ob1 dw_blind (dw_pre hw hN) rfl hl.1 rfl ⟨Nat.le_trans (Nat.le_of_ble_eq_true rfl) hR.1, Nat.le_trans (Nat.le_of_ble_eq_true rfl) hR.2⟩ (Nat.le_of_ble_eq_true rfl) ⟨Nat.zero_le _, Nat.zero_le _⟩ d_DS_stop_17) (fun r_17 f_1 H locs hp hw => ?_)
    obtain ⟨er, ef⟩ := hp
    subst er
    rw [ef] at hw
    refine dn_ifb_ne S.1 S.2.1 25 d_DS_stop_20 (by decide) (fun h_20 => ?_) (fun h_20 => ?_)
    · refine lv_iload_n S.1 S.2.1 d_DS_stop_25 rfl (lv_at hl 2 rfl) ?_
      refine dw_afti hw hA (dw_runS (As := [.int y]) (rest := []) S ds_good (c_isPlace l D g a f y H.size) cw_DS_isPlace wd_166 wd_167 dw_blind (dw_pre hw hN) rfl hl.1 rfl ⟨Nat.le_trans (Nat.le_of_ble_eq_true rfl) hR.1, Nat.le_trans (Nat.le_of_ble_eq_true rfl) hR.2⟩ (Nat.le_of_ble_eq_true rfl) ⟨Nat.zero_le _, Nat.zero_le _⟩ d_DS_stop_26) (fun r_26 f_2 H locs hp hw => ?_)
      obtain ⟨er, ef⟩ := hp
      subst er
      rw [ef] at hw
      refine dn_ifb_eq S.1 S.2.1 43 d_DS_stop_29 (by decide) (fun h_29 => ?_) (fun h_29 => ?_)
      · refine lv_iconst (v := (-1)) S.1 S.2.1 d_DS_stop_43 (by decide) ?_
        exact hret H locs _ ls _ _ hw (by rw [if_neg (fun q => h_29 q.2.2.1)]; exact ⟨rfl, rfl⟩) d_DS_stop_44
      · refine lv_iload_n S.1 S.2.1 d_DS_stop_32 rfl (lv_at hl 3 rfl) ?_
        refine lv_iconst (v := nI 0) S.1 S.2.1 d_DS_stop_33 (by decide) ?_
        refine lv_sipush (v := nI 10000) S.1 S.2.1 d_DS_stop_34 (by decide) ?_
        refine dw_afti hw hA (dw_runS (As := [.int z, .int (nI 0), .int (nI 10000)]) (rest := []) S ds_good (c_isWithin l D g a f z (nI 0) (nI 10000) H.size) cw_DS_isWithin wd_20 wd_21 dw_blind (dw_pre hw hN) rfl hl.1 rfl ⟨Nat.le_trans (Nat.le_of_ble_eq_true rfl) hR.1, Nat.le_trans (Nat.le_of_ble_eq_true rfl) hR.2⟩ (Nat.le_of_ble_eq_true rfl) ⟨Nat.zero_le _, Nat.zero_le _⟩ d_DS_stop_37) (fun r_37 f_3 H locs hp hw => ?_)
        obtain ⟨er, ef⟩ := hp
        subst er
        rw [ef] at hw
        refine dn_ifb_ne S.1 S.2.1 45 d_DS_stop_40 (by decide) (fun h_40 => ?_) (fun h_40 => ?_)
        · obtain ⟨ex1, hx1⟩ := ds_in_nI h_20
          obtain ⟨ex2, hx2⟩ := ds_in_nI h_29
          have h_41 := (ds_le_in (x := z) (n := 10000) (by decide)).mp h_40
          obtain ⟨ex3, hx3⟩ := ds_in_nI h_41
          have hl : lv_has ls 5 [(0, .ref (a 0)), (1, .int (nI (x.toNatClampNeg))), (2, .int y), (3, .int z)] := by have hl2 := hl; rw [ex1] at hl2; exact hl2
          have hl : lv_has ls 5 [(0, .ref (a 0)), (1, .int (nI (x.toNatClampNeg))), (2, .int (nI (y.toNatClampNeg))), (3, .int z)] := by have hl2 := hl; rw [ex2] at hl2; exact hl2
          have hl : lv_has ls 5 [(0, .ref (a 0)), (1, .int (nI (x.toNatClampNeg))), (2, .int (nI (y.toNatClampNeg))), (3, .int (nI (z.toNatClampNeg)))] := by have hl2 := hl; rw [ex3] at hl2; exact hl2
          refine lv_aload_n S.1 S.2.1 d_DS_stop_45 rfl (lv_at hl 0 rfl) ?_
          refine dw_getf (fi := 0) (v := .ref (a 1)) S hw i_DS ds_ob0 (by decide) rfl wd_135 rfl d_DS_stop_46 ?_
          refine lv_iload_n S.1 S.2.1 d_DS_stop_49 rfl (lv_at hl 1 rfl) ?_
          refine lv_iload_n S.1 S.2.1 d_DS_stop_50 rfl (lv_at hl 2 rfl) ?_
          refine lv_iload_n S.1 S.2.1 d_DS_stop_51 rfl (lv_at hl 3 rfl) ?_
          refine dw_afti hw hA (dw_runVN (As := [.int (nI (x.toNatClampNeg)), .int (nI (y.toNatClampNeg)), .int (nI (z.toNatClampNeg))]) (rest := []) (ko := 1) hw S ds_good (c_tell l D g a f (x.toNatClampNeg) (y.toNatClampNeg) (z.toNatClampNeg) (ok) (hx1) (h_9) H.size) cw_Day_tell hN wd_169 wd_171 ws_Day_tell ds_ob1 dw_blind (dw_pre hw hN) rfl hl.1 rfl ⟨Nat.le_trans (Nat.le_of_ble_eq_true rfl) hR.1, Nat.le_trans (Nat.le_of_ble_eq_true rfl) hR.2⟩ (Nat.le_of_ble_eq_true rfl) ⟨Nat.zero_le _, Nat.zero_le _⟩ d_DS_stop_52) (fun r_52 f_4 H locs hp hw => ?_)
          obtain ⟨er, ef_4⟩ := hp
          subst er
          refine lv_istore (lv' := [(4, .int (nI (f 1 1))), (0, .ref (a 0)), (1, .int (nI (x.toNatClampNeg))), (2, .int (nI (y.toNatClampNeg))), (3, .int (nI (z.toNatClampNeg)))]) S.1 S.2.1 d_DS_stop_55 hl (by decide) rfl (fun ls hl => ?_)
          refine lv_aload_n S.1 S.2.1 d_DS_stop_57 rfl (lv_at hl 1 rfl) ?_
          refine dw_getf (fi := 4) (v := .ref (a 5)) S hw i_DS ds_ob0 (by decide) rfl wd_139 rfl d_DS_stop_58 ?_
          refine lv_iload S.1 S.2.1 d_DS_stop_61 (lv_at hl 0 rfl) ?_
          refine lv_iload_n S.1 S.2.1 d_DS_stop_63 rfl (lv_at hl 2 rfl) ?_
          refine dw_iast S.1 S.2.1 hw ds_k5 (by omega) d_DS_stop_64 (fun f_5 H locs ef_5 hw => ?_)
          refine lv_aload_n S.1 S.2.1 d_DS_stop_65 rfl (lv_at hl 1 rfl) ?_
          refine dw_getf (fi := 5) (v := .ref (a 6)) S hw i_DS ds_ob0 (by decide) rfl wd_140 rfl d_DS_stop_66 ?_
          refine lv_iload S.1 S.2.1 d_DS_stop_69 (lv_at hl 0 rfl) ?_
          refine lv_iload_n S.1 S.2.1 d_DS_stop_71 rfl (lv_at hl 2 rfl) ?_
          refine dw_iast S.1 S.2.1 hw ds_k6 (by omega) d_DS_stop_72 (fun f_6 H locs ef_6 hw => ?_)
          refine lv_iload S.1 S.2.1 d_DS_stop_73 (lv_at hl 0 rfl) ?_
          exact hret H locs _ ls _ _ hw (by rw [if_pos ⟨h_9, h_20, h_29, h_41⟩]; exact ⟨rfl, by rw [ef_6, ef_5, ef_4]; rfl⟩) d_DS_stop_75
        · refine lv_iconst (v := (-1)) S.1 S.2.1 d_DS_stop_43 (by decide) ?_
          exact hret H locs _ ls _ _ hw (by rw [if_neg (fun q => h_40 ((ds_le_in (by decide)).mpr q.2.2.2))]; exact ⟨rfl, rfl⟩) d_DS_stop_44
    · refine lv_iconst (v := (-1)) S.1 S.2.1 d_DS_stop_23 (by decide) ?_
      exact hret H locs _ ls _ _ hw (by rw [if_neg (fun q => h_20 q.2.1)]; exact ⟨rfl, rfl⟩) d_DS_stop_24
set_option maxHeartbeats 4000000 in
set_option maxRecDepth 100000 in
theorem c_freeze (l : Launch) (D : va_G) (g : Nat → ClassId) (a : Nat → Nat) (f : Nat → Nat → Nat) (x : Int32) (y : Nat) (hn : f 1 1 ≤ 8) (hy : y ≤ 1) : ds_I l D g a y_DS_freeze b_DS_freeze 3 .boolean 2 43 [.ref (a 0), .int x, .int (nI y)] f (fun r u => if ds_in x (f 1 1) then r = nI 1 ∧ u = dw_w f 12 x.toNatClampNeg y else r = nI 0 ∧ u = f) := by
  refine dw_ofI (by decide) (fun v u h => by split at h <;> (rw [h.1]; rfl)) (Nat.le_of_ble_eq_true rfl) ?_
  intro p e s m args below meth c ls A Q R H locs hR hA S hN hw hl hret
  have hl : lv_has ls 3 [(0, .ref (a 0)), (1, .int x), (2, .int (nI y))] := hl
  have S : CallFix p m c b_DS_freeze 3 s args ds_T R_DS := S
  refine lv_aload_n S.1 S.2.1 d_DS_freeze_0 rfl (lv_at hl 0 rfl) ?_
  refine dw_getf (fi := 0) (v := .ref (a 1)) S hw i_DS ds_ob0 (by decide) rfl wd_135 rfl d_DS_freeze_1 ?_
  refine lv_iload_n S.1 S.2.1 d_DS_freeze_4 rfl (lv_at hl 1 rfl) ?_
  refine dw_afti hw hA (dw_runVN (As := [.int x]) (rest := []) (ko := 1) hw S ds_good (c_isStop l D g a f x (hn) H.size) cw_Day_isStop hN wd_181 wd_183 ws_Day_isStop ds_ob1 dw_blind (dw_pre hw hN) rfl hl.1 rfl ⟨Nat.le_trans (Nat.le_of_ble_eq_true rfl) hR.1, Nat.le_trans (Nat.le_of_ble_eq_true rfl) hR.2⟩ (Nat.le_of_ble_eq_true rfl) ⟨Nat.zero_le _, Nat.zero_le _⟩ d_DS_freeze_5) (fun r_5 f_1 H locs hp hw => ?_)
  obtain ⟨er, ef⟩ := hp
  subst er
  rw [ef] at hw
  refine dn_ifb_ne S.1 S.2.1 13 d_DS_freeze_8 (by decide) (fun h_8 => ?_) (fun h_8 => ?_)
  · obtain ⟨ex1, hx1⟩ := ds_in_nI h_8
    have hl : lv_has ls 3 [(0, .ref (a 0)), (1, .int (nI (x.toNatClampNeg))), (2, .int (nI y))] := by have hl2 := hl; rw [ex1] at hl2; exact hl2
    refine lv_aload_n S.1 S.2.1 d_DS_freeze_13 rfl (lv_at hl 0 rfl) ?_
    refine dw_getf (fi := 0) (v := .ref (a 1)) S hw i_DS ds_ob0 (by decide) rfl wd_135 rfl d_DS_freeze_14 ?_
    refine dw_getN (fi := 6) (v := .ref (a 12)) S hw i_Day ds_ob1 (by decide) rfl hN wd_45 rfl d_DS_freeze_17 ?_
    refine lv_iload_n S.1 S.2.1 d_DS_freeze_20 rfl (lv_at hl 1 rfl) ?_
    refine lv_iload_n S.1 S.2.1 d_DS_freeze_21 rfl (lv_at hl 2 rfl) ?_
    refine dw_zast S.1 S.2.1 hw hy ds_k12 (by omega) d_DS_freeze_22 (fun f_2 H locs ef_2 hw => ?_)
    refine lv_iconst (v := nI 1) S.1 S.2.1 d_DS_freeze_23 (by decide) ?_
    exact hret H locs _ ls _ _ hw (by rw [if_pos h_8]; exact ⟨rfl, ef_2⟩) d_DS_freeze_24
  · refine lv_iconst (v := nI 0) S.1 S.2.1 d_DS_freeze_11 (by decide) ?_
    exact hret H locs _ ls _ _ hw (by rw [if_neg h_8]; exact ⟨rfl, rfl⟩) d_DS_freeze_12
set_option maxHeartbeats 4000000 in
set_option maxRecDepth 100000 in
theorem c_block (l : Launch) (D : va_G) (g : Nat → ClassId) (a : Nat → Nat) (f : Nat → Nat → Nat) (x : Int32) (y : Nat) (hn : f 1 1 ≤ 8) (hy : y ≤ 1) : ds_I l D g a y_DS_block b_DS_block 3 .boolean 2 43 [.ref (a 0), .int x, .int (nI y)] f (fun r u => if ds_in x (f 1 1) then r = nI 1 ∧ u = dw_w f 13 x.toNatClampNeg y else r = nI 0 ∧ u = f) := by
  refine dw_ofI (by decide) (fun v u h => by split at h <;> (rw [h.1]; rfl)) (Nat.le_of_ble_eq_true rfl) ?_
  intro p e s m args below meth c ls A Q R H locs hR hA S hN hw hl hret
  have hl : lv_has ls 3 [(0, .ref (a 0)), (1, .int x), (2, .int (nI y))] := hl
  have S : CallFix p m c b_DS_block 3 s args ds_T R_DS := S
  refine lv_aload_n S.1 S.2.1 d_DS_block_0 rfl (lv_at hl 0 rfl) ?_
  refine dw_getf (fi := 0) (v := .ref (a 1)) S hw i_DS ds_ob0 (by decide) rfl wd_135 rfl d_DS_block_1 ?_
  refine lv_iload_n S.1 S.2.1 d_DS_block_4 rfl (lv_at hl 1 rfl) ?_
  refine dw_afti hw hA (dw_runVN (As := [.int x]) (rest := []) (ko := 1) hw S ds_good (c_isStop l D g a f x (hn) H.size) cw_Day_isStop hN wd_181 wd_183 ws_Day_isStop ds_ob1 dw_blind (dw_pre hw hN) rfl hl.1 rfl ⟨Nat.le_trans (Nat.le_of_ble_eq_true rfl) hR.1, Nat.le_trans (Nat.le_of_ble_eq_true rfl) hR.2⟩ (Nat.le_of_ble_eq_true rfl) ⟨Nat.zero_le _, Nat.zero_le _⟩ d_DS_block_5) (fun r_5 f_1 H locs hp hw => ?_)
  obtain ⟨er, ef⟩ := hp
  subst er
  rw [ef] at hw
  refine dn_ifb_ne S.1 S.2.1 13 d_DS_block_8 (by decide) (fun h_8 => ?_) (fun h_8 => ?_)
  · obtain ⟨ex1, hx1⟩ := ds_in_nI h_8
    have hl : lv_has ls 3 [(0, .ref (a 0)), (1, .int (nI (x.toNatClampNeg))), (2, .int (nI y))] := by have hl2 := hl; rw [ex1] at hl2; exact hl2
    refine lv_aload_n S.1 S.2.1 d_DS_block_13 rfl (lv_at hl 0 rfl) ?_
    refine dw_getf (fi := 0) (v := .ref (a 1)) S hw i_DS ds_ob0 (by decide) rfl wd_135 rfl d_DS_block_14 ?_
    refine dw_getN (fi := 7) (v := .ref (a 13)) S hw i_Day ds_ob1 (by decide) rfl hN wd_47 rfl d_DS_block_17 ?_
    refine lv_iload_n S.1 S.2.1 d_DS_block_20 rfl (lv_at hl 1 rfl) ?_
    refine lv_iload_n S.1 S.2.1 d_DS_block_21 rfl (lv_at hl 2 rfl) ?_
    refine dw_zast S.1 S.2.1 hw hy ds_k13 (by omega) d_DS_block_22 (fun f_2 H locs ef_2 hw => ?_)
    refine lv_iconst (v := nI 1) S.1 S.2.1 d_DS_block_23 (by decide) ?_
    exact hret H locs _ ls _ _ hw (by rw [if_pos h_8]; exact ⟨rfl, ef_2⟩) d_DS_block_24
  · refine lv_iconst (v := nI 0) S.1 S.2.1 d_DS_block_11 (by decide) ?_
    exact hret H locs _ ls _ _ hw (by rw [if_neg h_8]; exact ⟨rfl, rfl⟩) d_DS_block_12
set_option maxHeartbeats 4000000 in
set_option maxRecDepth 100000 in
theorem c_out (l : Launch) (D : va_G) (g : Nat → ClassId) (a : Nat → Nat) (f : Nat → Nat → Nat) (x : Int32) (y : Int32) (hV : 1 ≤ f 1 0 ∧ f 1 0 ≤ 3) : ds_I l D g a y_DS_out b_DS_out 3 .boolean 2 43 [.ref (a 0), .int x, .int y] f (fun r u => if ds_in x (f 1 0) ∧ ds_in y 9 then r = nI 1 ∧ u = dw_w f 18 x.toNatClampNeg y.toNatClampNeg else r = nI 0 ∧ u = f) := by
  refine dw_ofI (by decide) (fun v u h => by split at h <;> (rw [h.1]; rfl)) (Nat.le_of_ble_eq_true rfl) ?_
  intro p e s m args below meth c ls A Q R H locs hR hA S hN hw hl hret
  have hl : lv_has ls 3 [(0, .ref (a 0)), (1, .int x), (2, .int y)] := hl
  have S : CallFix p m c b_DS_out 3 s args ds_T R_DS := S
  refine lv_aload_n S.1 S.2.1 d_DS_out_0 rfl (lv_at hl 0 rfl) ?_
  refine dw_getf (fi := 0) (v := .ref (a 1)) S hw i_DS ds_ob0 (by decide) rfl wd_135 rfl d_DS_out_1 ?_
  refine lv_iload_n S.1 S.2.1 d_DS_out_4 rfl (lv_at hl 1 rfl) ?_
  refine dw_afti hw hA (dw_runVN (As := [.int x]) (rest := []) (ko := 1) hw S ds_good (c_isVehicle l D g a f x (hV) H.size) cw_Day_isVehicle hN wd_161 wd_163 ws_Day_isVehicle ds_ob1 dw_blind (dw_pre hw hN) rfl hl.1 rfl ⟨Nat.le_trans (Nat.le_of_ble_eq_true rfl) hR.1, Nat.le_trans (Nat.le_of_ble_eq_true rfl) hR.2⟩ (Nat.le_of_ble_eq_true rfl) ⟨Nat.zero_le _, Nat.zero_le _⟩ d_DS_out_5) (fun r_5 f_1 H locs hp hw => ?_)
  obtain ⟨er, ef⟩ := hp
  subst er
  rw [ef] at hw
  refine dn_ifb_eq S.1 S.2.1 21 d_DS_out_8 (by decide) (fun h_8 => ?_) (fun h_8 => ?_)
  · refine lv_iconst (v := nI 0) S.1 S.2.1 d_DS_out_21 (by decide) ?_
    exact hret H locs _ ls _ _ hw (by rw [if_neg (fun q => h_8 q.1)]; exact ⟨rfl, rfl⟩) d_DS_out_22
  · refine lv_iload_n S.1 S.2.1 d_DS_out_11 rfl (lv_at hl 2 rfl) ?_
    refine lv_iconst (v := nI 0) S.1 S.2.1 d_DS_out_12 (by decide) ?_
    refine lv_bipush (v := nI 8) S.1 S.2.1 d_DS_out_13 (by decide) ?_
    refine dw_afti hw hA (dw_runS (As := [.int y, .int (nI 0), .int (nI 8)]) (rest := []) S ds_good (c_isWithin l D g a f y (nI 0) (nI 8) H.size) cw_DS_isWithin wd_20 wd_21 dw_blind (dw_pre hw hN) rfl hl.1 rfl ⟨Nat.le_trans (Nat.le_of_ble_eq_true rfl) hR.1, Nat.le_trans (Nat.le_of_ble_eq_true rfl) hR.2⟩ (Nat.le_of_ble_eq_true rfl) ⟨Nat.zero_le _, Nat.zero_le _⟩ d_DS_out_15) (fun r_15 f_2 H locs hp hw => ?_)
    obtain ⟨er, ef⟩ := hp
    subst er
    rw [ef] at hw
    refine dn_ifb_ne S.1 S.2.1 23 d_DS_out_18 (by decide) (fun h_18 => ?_) (fun h_18 => ?_)
    · obtain ⟨ex1, hx1⟩ := ds_in_nI h_8
      have h_19 := (ds_le_in (x := y) (n := 8) (by decide)).mp h_18
      obtain ⟨ex2, hx2⟩ := ds_in_nI h_19
      have hl : lv_has ls 3 [(0, .ref (a 0)), (1, .int (nI (x.toNatClampNeg))), (2, .int y)] := by have hl2 := hl; rw [ex1] at hl2; exact hl2
      have hl : lv_has ls 3 [(0, .ref (a 0)), (1, .int (nI (x.toNatClampNeg))), (2, .int (nI (y.toNatClampNeg)))] := by have hl2 := hl; rw [ex2] at hl2; exact hl2
      refine lv_aload_n S.1 S.2.1 d_DS_out_23 rfl (lv_at hl 0 rfl) ?_
      refine dw_getf (fi := 0) (v := .ref (a 1)) S hw i_DS ds_ob0 (by decide) rfl wd_135 rfl d_DS_out_24 ?_
      refine dw_getN (fi := 12) (v := .ref (a 18)) S hw i_Day ds_ob1 (by decide) rfl hN wd_53 rfl d_DS_out_27 ?_
      refine lv_iload_n S.1 S.2.1 d_DS_out_30 rfl (lv_at hl 1 rfl) ?_
      refine lv_iload_n S.1 S.2.1 d_DS_out_31 rfl (lv_at hl 2 rfl) ?_
      refine dw_iast S.1 S.2.1 hw ds_k18 (by omega) d_DS_out_32 (fun f_3 H locs ef_3 hw => ?_)
      refine lv_iconst (v := nI 1) S.1 S.2.1 d_DS_out_33 (by decide) ?_
      exact hret H locs _ ls _ _ hw (by rw [if_pos ⟨h_8, h_19⟩]; exact ⟨rfl, ef_3⟩) d_DS_out_34
    · refine lv_iconst (v := nI 0) S.1 S.2.1 d_DS_out_21 (by decide) ?_
      exact hret H locs _ ls _ _ hw (by rw [if_neg (fun q => h_18 ((ds_le_in (by decide)).mpr q.2))]; exact ⟨rfl, rfl⟩) d_DS_out_22
set_option maxHeartbeats 4000000 in
set_option maxRecDepth 100000 in
theorem c_hours (l : Launch) (D : va_G) (g : Nat → ClassId) (a : Nat → Nat) (f : Nat → Nat → Nat) (x : Int32) (y : Int32) (hV : 1 ≤ f 1 0 ∧ f 1 0 ≤ 3) : ds_I l D g a y_DS_hours b_DS_hours 3 .boolean 2 43 [.ref (a 0), .int x, .int y] f (fun r u => if ds_in x (f 1 0) ∧ ds_in y 100001 then r = nI 1 ∧ u = dw_w f 19 x.toNatClampNeg y.toNatClampNeg else r = nI 0 ∧ u = f) := by
  refine dw_ofI (by decide) (fun v u h => by split at h <;> (rw [h.1]; rfl)) (Nat.le_of_ble_eq_true rfl) ?_
  intro p e s m args below meth c ls A Q R H locs hR hA S hN hw hl hret
  have hl : lv_has ls 3 [(0, .ref (a 0)), (1, .int x), (2, .int y)] := hl
  have S : CallFix p m c b_DS_hours 3 s args ds_T R_DS := S
  refine lv_aload_n S.1 S.2.1 d_DS_hours_0 rfl (lv_at hl 0 rfl) ?_
  refine dw_getf (fi := 0) (v := .ref (a 1)) S hw i_DS ds_ob0 (by decide) rfl wd_135 rfl d_DS_hours_1 ?_
  refine lv_iload_n S.1 S.2.1 d_DS_hours_4 rfl (lv_at hl 1 rfl) ?_
  refine dw_afti hw hA (dw_runVN (As := [.int x]) (rest := []) (ko := 1) hw S ds_good (c_isVehicle l D g a f x (hV) H.size) cw_Day_isVehicle hN wd_161 wd_163 ws_Day_isVehicle ds_ob1 dw_blind (dw_pre hw hN) rfl hl.1 rfl ⟨Nat.le_trans (Nat.le_of_ble_eq_true rfl) hR.1, Nat.le_trans (Nat.le_of_ble_eq_true rfl) hR.2⟩ (Nat.le_of_ble_eq_true rfl) ⟨Nat.zero_le _, Nat.zero_le _⟩ d_DS_hours_5) (fun r_5 f_1 H locs hp hw => ?_)
  obtain ⟨er, ef⟩ := hp
  subst er
  rw [ef] at hw
  refine dn_ifb_eq S.1 S.2.1 21 d_DS_hours_8 (by decide) (fun h_8 => ?_) (fun h_8 => ?_)
  · refine lv_iconst (v := nI 0) S.1 S.2.1 d_DS_hours_21 (by decide) ?_
    exact hret H locs _ ls _ _ hw (by rw [if_neg (fun q => h_8 q.1)]; exact ⟨rfl, rfl⟩) d_DS_hours_22
  · refine lv_iload_n S.1 S.2.1 d_DS_hours_11 rfl (lv_at hl 2 rfl) ?_
    refine lv_iconst (v := nI 0) S.1 S.2.1 d_DS_hours_12 (by decide) ?_
    refine lv_ldc (v := nI 100000) S.1 S.2.1 S.2.2.2.1 (S.2.2.2.2 _ wd_201) d_DS_hours_13 ?_
    refine dw_afti hw hA (dw_runS (As := [.int y, .int (nI 0), .int (nI 100000)]) (rest := []) S ds_good (c_isWithin l D g a f y (nI 0) (nI 100000) H.size) cw_DS_isWithin wd_20 wd_21 dw_blind (dw_pre hw hN) rfl hl.1 rfl ⟨Nat.le_trans (Nat.le_of_ble_eq_true rfl) hR.1, Nat.le_trans (Nat.le_of_ble_eq_true rfl) hR.2⟩ (Nat.le_of_ble_eq_true rfl) ⟨Nat.zero_le _, Nat.zero_le _⟩ d_DS_hours_15) (fun r_15 f_2 H locs hp hw => ?_)
    obtain ⟨er, ef⟩ := hp
    subst er
    rw [ef] at hw
    refine dn_ifb_ne S.1 S.2.1 23 d_DS_hours_18 (by decide) (fun h_18 => ?_) (fun h_18 => ?_)
    · obtain ⟨ex1, hx1⟩ := ds_in_nI h_8
      have h_19 := (ds_le_in (x := y) (n := 100000) (by decide)).mp h_18
      obtain ⟨ex2, hx2⟩ := ds_in_nI h_19
      have hl : lv_has ls 3 [(0, .ref (a 0)), (1, .int (nI (x.toNatClampNeg))), (2, .int y)] := by have hl2 := hl; rw [ex1] at hl2; exact hl2
      have hl : lv_has ls 3 [(0, .ref (a 0)), (1, .int (nI (x.toNatClampNeg))), (2, .int (nI (y.toNatClampNeg)))] := by have hl2 := hl; rw [ex2] at hl2; exact hl2
      refine lv_aload_n S.1 S.2.1 d_DS_hours_23 rfl (lv_at hl 0 rfl) ?_
      refine dw_getf (fi := 0) (v := .ref (a 1)) S hw i_DS ds_ob0 (by decide) rfl wd_135 rfl d_DS_hours_24 ?_
      refine dw_getN (fi := 13) (v := .ref (a 19)) S hw i_Day ds_ob1 (by decide) rfl hN wd_55 rfl d_DS_hours_27 ?_
      refine lv_iload_n S.1 S.2.1 d_DS_hours_30 rfl (lv_at hl 1 rfl) ?_
      refine lv_iload_n S.1 S.2.1 d_DS_hours_31 rfl (lv_at hl 2 rfl) ?_
      refine dw_iast S.1 S.2.1 hw ds_k19 (by omega) d_DS_hours_32 (fun f_3 H locs ef_3 hw => ?_)
      refine lv_iconst (v := nI 1) S.1 S.2.1 d_DS_hours_33 (by decide) ?_
      exact hret H locs _ ls _ _ hw (by rw [if_pos ⟨h_8, h_19⟩]; exact ⟨rfl, ef_3⟩) d_DS_hours_34
    · refine lv_iconst (v := nI 0) S.1 S.2.1 d_DS_hours_21 (by decide) ?_
      exact hret H locs _ ls _ _ hw (by rw [if_neg (fun q => h_18 ((ds_le_in (by decide)).mpr q.2))]; exact ⟨rfl, rfl⟩) d_DS_hours_22
set_option maxHeartbeats 4000000 in
set_option maxRecDepth 100000 in
theorem c_way (l : Launch) (D : va_G) (g : Nat → ClassId) (a : Nat → Nat) (f : Nat → Nat → Nat) (x : Int32) (y : Int32) (z : Int32)  : ds_I l D g a y_DS_way b_DS_way 4 .boolean 2 42 [.ref (a 0), .int x, .int y, .int z] f (fun r u => if ds_in x 10 ∧ ds_in y 10 ∧ ¬ x = y ∧ ds_in z 10001 then r = nI 1 ∧ u = dw_w (dw_w f (28 + x.toNatClampNeg) y.toNatClampNeg z.toNatClampNeg) (28 + y.toNatClampNeg) x.toNatClampNeg z.toNatClampNeg else r = nI 0 ∧ u = f) := by
  refine dw_ofI (by decide) (fun v u h => by split at h <;> (rw [h.1]; rfl)) (Nat.le_of_ble_eq_true rfl) ?_
  intro p e s m args below meth c ls A Q R H locs hR hA S hN hw hl hret
  have hl : lv_has ls 4 [(0, .ref (a 0)), (1, .int x), (2, .int y), (3, .int z)] := hl
  have S : CallFix p m c b_DS_way 4 s args ds_T R_DS := S
  refine lv_iload_n S.1 S.2.1 d_DS_way_0 rfl (lv_at hl 1 rfl) ?_
  refine dw_afti hw hA (dw_runS (As := [.int x]) (rest := []) S ds_good (c_isPlace l D g a f x H.size) cw_DS_isPlace wd_166 wd_167 dw_blind (dw_pre hw hN) rfl hl.1 rfl ⟨Nat.le_trans (Nat.le_of_ble_eq_true rfl) hR.1, Nat.le_trans (Nat.le_of_ble_eq_true rfl) hR.2⟩ (Nat.le_of_ble_eq_true rfl) ⟨Nat.zero_le _, Nat.zero_le _⟩ d_DS_way_1) (fun r_1 f_1 H locs hp hw => ?_)
  obtain ⟨er, ef⟩ := hp
  subst er
  rw [ef] at hw
  refine dn_ifb_eq S.1 S.2.1 30 d_DS_way_4 (by decide) (fun h_4 => ?_) (fun h_4 => ?_)
  · refine lv_iconst (v := nI 0) S.1 S.2.1 d_DS_way_30 (by decide) ?_
    exact hret H locs _ ls _ _ hw (by rw [if_neg (fun q => h_4 q.1)]; exact ⟨rfl, rfl⟩) d_DS_way_31
  · refine lv_iload_n S.1 S.2.1 d_DS_way_7 rfl (lv_at hl 2 rfl) ?_
    refine dw_afti hw hA (dw_runS (As := [.int y]) (rest := []) S ds_good (c_isPlace l D g a f y H.size) cw_DS_isPlace wd_166 wd_167 dw_blind (dw_pre hw hN) rfl hl.1 rfl ⟨Nat.le_trans (Nat.le_of_ble_eq_true rfl) hR.1, Nat.le_trans (Nat.le_of_ble_eq_true rfl) hR.2⟩ (Nat.le_of_ble_eq_true rfl) ⟨Nat.zero_le _, Nat.zero_le _⟩ d_DS_way_8) (fun r_8 f_2 H locs hp hw => ?_)
    obtain ⟨er, ef⟩ := hp
    subst er
    rw [ef] at hw
    refine dn_ifb_eq S.1 S.2.1 30 d_DS_way_11 (by decide) (fun h_11 => ?_) (fun h_11 => ?_)
    · refine lv_iconst (v := nI 0) S.1 S.2.1 d_DS_way_30 (by decide) ?_
      exact hret H locs _ ls _ _ hw (by rw [if_neg (fun q => h_11 q.2.1)]; exact ⟨rfl, rfl⟩) d_DS_way_31
    · refine lv_iload_n S.1 S.2.1 d_DS_way_14 rfl (lv_at hl 1 rfl) ?_
      refine lv_iload_n S.1 S.2.1 d_DS_way_15 rfl (lv_at hl 2 rfl) ?_
      refine lv_icmp_eq (tgt := 30) S.1 S.2.1 d_DS_way_16 (by decide) (fun h_16 => ?_) (fun h_16 => ?_)
      · refine lv_iconst (v := nI 0) S.1 S.2.1 d_DS_way_30 (by decide) ?_
        exact hret H locs _ ls _ _ hw (by rw [if_neg (fun q => q.2.2.1 h_16)]; exact ⟨rfl, rfl⟩) d_DS_way_31
      · refine lv_iload_n S.1 S.2.1 d_DS_way_19 rfl (lv_at hl 3 rfl) ?_
        refine lv_iconst (v := nI 0) S.1 S.2.1 d_DS_way_20 (by decide) ?_
        refine lv_sipush (v := nI 10000) S.1 S.2.1 d_DS_way_21 (by decide) ?_
        refine dw_afti hw hA (dw_runS (As := [.int z, .int (nI 0), .int (nI 10000)]) (rest := []) S ds_good (c_isWithin l D g a f z (nI 0) (nI 10000) H.size) cw_DS_isWithin wd_20 wd_21 dw_blind (dw_pre hw hN) rfl hl.1 rfl ⟨Nat.le_trans (Nat.le_of_ble_eq_true rfl) hR.1, Nat.le_trans (Nat.le_of_ble_eq_true rfl) hR.2⟩ (Nat.le_of_ble_eq_true rfl) ⟨Nat.zero_le _, Nat.zero_le _⟩ d_DS_way_24) (fun r_24 f_3 H locs hp hw => ?_)
        obtain ⟨er, ef⟩ := hp
        subst er
        rw [ef] at hw
        refine dn_ifb_ne S.1 S.2.1 32 d_DS_way_27 (by decide) (fun h_27 => ?_) (fun h_27 => ?_)
        · obtain ⟨ex1, hx1⟩ := ds_in_nI h_4
          obtain ⟨ex2, hx2⟩ := ds_in_nI h_11
          have h_28 := (ds_le_in (x := z) (n := 10000) (by decide)).mp h_27
          obtain ⟨ex3, hx3⟩ := ds_in_nI h_28
          have hl : lv_has ls 4 [(0, .ref (a 0)), (1, .int (nI (x.toNatClampNeg))), (2, .int y), (3, .int z)] := by have hl2 := hl; rw [ex1] at hl2; exact hl2
          have hl : lv_has ls 4 [(0, .ref (a 0)), (1, .int (nI (x.toNatClampNeg))), (2, .int (nI (y.toNatClampNeg))), (3, .int z)] := by have hl2 := hl; rw [ex2] at hl2; exact hl2
          have hl : lv_has ls 4 [(0, .ref (a 0)), (1, .int (nI (x.toNatClampNeg))), (2, .int (nI (y.toNatClampNeg))), (3, .int (nI (z.toNatClampNeg)))] := by have hl2 := hl; rw [ex3] at hl2; exact hl2
          refine lv_aload_n S.1 S.2.1 d_DS_way_32 rfl (lv_at hl 0 rfl) ?_
          refine dw_getf (fi := 0) (v := .ref (a 1)) S hw i_DS ds_ob0 (by decide) rfl wd_135 rfl d_DS_way_33 ?_
          refine dw_getN (fi := 14) (v := .ref (a 20)) S hw i_Day ds_ob1 (by decide) rfl hN wd_57 rfl d_DS_way_36 ?_
          refine lv_iload_n S.1 S.2.1 d_DS_way_39 rfl (lv_at hl 1 rfl) ?_
          refine dw_aald S.1 S.2.1 hw ds_k20 (by omega) d_DS_way_40 ?_
          refine lv_iload_n S.1 S.2.1 d_DS_way_41 rfl (lv_at hl 2 rfl) ?_
          refine lv_iload_n S.1 S.2.1 d_DS_way_42 rfl (lv_at hl 3 rfl) ?_
          refine dw_iast S.1 S.2.1 hw (ds_k28 (by omega)) (by omega) d_DS_way_43 (fun f_4 H locs ef_4 hw => ?_)
          refine lv_aload_n S.1 S.2.1 d_DS_way_44 rfl (lv_at hl 0 rfl) ?_
          refine dw_getf (fi := 0) (v := .ref (a 1)) S hw i_DS ds_ob0 (by decide) rfl wd_135 rfl d_DS_way_45 ?_
          refine dw_getN (fi := 14) (v := .ref (a 20)) S hw i_Day ds_ob1 (by decide) rfl hN wd_57 rfl d_DS_way_48 ?_
          refine lv_iload_n S.1 S.2.1 d_DS_way_51 rfl (lv_at hl 2 rfl) ?_
          refine dw_aald S.1 S.2.1 hw ds_k20 (by omega) d_DS_way_52 ?_
          refine lv_iload_n S.1 S.2.1 d_DS_way_53 rfl (lv_at hl 1 rfl) ?_
          refine lv_iload_n S.1 S.2.1 d_DS_way_54 rfl (lv_at hl 3 rfl) ?_
          refine dw_iast S.1 S.2.1 hw (ds_k28 (by omega)) (by omega) d_DS_way_55 (fun f_5 H locs ef_5 hw => ?_)
          refine lv_iconst (v := nI 1) S.1 S.2.1 d_DS_way_56 (by decide) ?_
          exact hret H locs _ ls _ _ hw (by rw [if_pos ⟨h_4, h_11, h_16, h_28⟩]; exact ⟨rfl, by rw [ef_5, ef_4]⟩) d_DS_way_57
        · refine lv_iconst (v := nI 0) S.1 S.2.1 d_DS_way_30 (by decide) ?_
          exact hret H locs _ ls _ _ hw (by rw [if_neg (fun q => h_27 ((ds_le_in (by decide)).mpr q.2.2.2))]; exact ⟨rfl, rfl⟩) d_DS_way_31
set_option maxHeartbeats 4000000 in
set_option maxRecDepth 100000 in
theorem c_extra (l : Launch) (D : va_G) (g : Nat → ClassId) (a : Nat → Nat) (f : Nat → Nat → Nat) (x : Int32)  : ds_I l D g a y_DS_extra b_DS_extra 2 .boolean 1 22 [.ref (a 0), .int x] f (fun r u => if ds_in x 100001 then r = nI 1 ∧ u = dw_w f 1 16 x.toNatClampNeg else r = nI 0 ∧ u = f) := by
  refine dw_ofI (by decide) (fun v u h => by split at h <;> (rw [h.1]; rfl)) (Nat.le_of_ble_eq_true rfl) ?_
  intro p e s m args below meth c ls A Q R H locs hR hA S hN hw hl hret
  have hl : lv_has ls 2 [(0, .ref (a 0)), (1, .int x)] := hl
  have S : CallFix p m c b_DS_extra 2 s args ds_T R_DS := S
  refine lv_iload_n S.1 S.2.1 d_DS_extra_0 rfl (lv_at hl 1 rfl) ?_
  refine lv_iconst (v := nI 0) S.1 S.2.1 d_DS_extra_1 (by decide) ?_
  refine lv_ldc (v := nI 100000) S.1 S.2.1 S.2.2.2.1 (S.2.2.2.2 _ wd_201) d_DS_extra_2 ?_
  refine dw_afti hw hA (dw_runS (As := [.int x, .int (nI 0), .int (nI 100000)]) (rest := []) S ds_good (c_isWithin l D g a f x (nI 0) (nI 100000) H.size) cw_DS_isWithin wd_20 wd_21 dw_blind (dw_pre hw hN) rfl hl.1 rfl ⟨Nat.le_trans (Nat.le_of_ble_eq_true rfl) hR.1, Nat.le_trans (Nat.le_of_ble_eq_true rfl) hR.2⟩ (Nat.le_of_ble_eq_true rfl) ⟨Nat.zero_le _, Nat.zero_le _⟩ d_DS_extra_4) (fun r_4 f_1 H locs hp hw => ?_)
  obtain ⟨er, ef⟩ := hp
  subst er
  rw [ef] at hw
  refine dn_ifb_ne S.1 S.2.1 12 d_DS_extra_7 (by decide) (fun h_7 => ?_) (fun h_7 => ?_)
  · have h_8 := (ds_le_in (x := x) (n := 100000) (by decide)).mp h_7
    obtain ⟨ex1, hx1⟩ := ds_in_nI h_8
    have hl : lv_has ls 2 [(0, .ref (a 0)), (1, .int (nI (x.toNatClampNeg)))] := by have hl2 := hl; rw [ex1] at hl2; exact hl2
    refine lv_aload_n S.1 S.2.1 d_DS_extra_12 rfl (lv_at hl 0 rfl) ?_
    refine dw_getf (fi := 0) (v := .ref (a 1)) S hw i_DS ds_ob0 (by decide) rfl wd_135 rfl d_DS_extra_13 ?_
    refine lv_iload_n S.1 S.2.1 d_DS_extra_16 rfl (lv_at hl 1 rfl) ?_
    refine dw_putN (fi := 16) S hw i_Day t_Day t_Day_ok n_Day ds_ob1 (by decide) rfl hN wd_60 rfl (by decide +kernel) (Nat.le_of_ble_eq_true rfl) rfl d_DS_extra_17 (fun f_2 H locs ef_2 hw => ?_)
    refine lv_iconst (v := nI 1) S.1 S.2.1 d_DS_extra_20 (by decide) ?_
    exact hret H locs _ ls _ _ hw (by rw [if_pos h_8]; exact ⟨rfl, ef_2⟩) d_DS_extra_21
  · refine lv_iconst (v := nI 0) S.1 S.2.1 d_DS_extra_10 (by decide) ?_
    exact hret H locs _ ls _ _ hw (by rw [if_neg (fun q => h_7 ((ds_le_in (by decide)).mpr q))]; exact ⟨rfl, rfl⟩) d_DS_extra_11
set_option maxHeartbeats 4000000 in
set_option maxRecDepth 100000 in
theorem c_vehicleOf (l : Launch) (D : va_G) (g : Nat → ClassId) (a : Nat → Nat) (f : Nat → Nat → Nat) (x : Int32) (hn : f 1 1 ≤ 8) : ds_I l D g a y_DS_vehicleOf b_DS_vehicleOf 2 .int 2 43 [.ref (a 0), .int x] f (fun r u => (if ds_in x (f 1 1) then r = nI (f 5 x.toNatClampNeg) else r = (-1)) ∧ u = f) := by
  refine dw_ofI (by decide) (fun _ _ _ => rfl) (Nat.le_of_ble_eq_true rfl) ?_
  intro p e s m args below meth c ls A Q R H locs hR hA S hN hw hl hret
  have hl : lv_has ls 2 [(0, .ref (a 0)), (1, .int x)] := hl
  have S : CallFix p m c b_DS_vehicleOf 2 s args ds_T R_DS := S
  refine lv_aload_n S.1 S.2.1 d_DS_vehicleOf_0 rfl (lv_at hl 0 rfl) ?_
  refine dw_getf (fi := 0) (v := .ref (a 1)) S hw i_DS ds_ob0 (by decide) rfl wd_135 rfl d_DS_vehicleOf_1 ?_
  refine lv_iload_n S.1 S.2.1 d_DS_vehicleOf_4 rfl (lv_at hl 1 rfl) ?_
  refine dw_afti hw hA (dw_runVN (As := [.int x]) (rest := []) (ko := 1) hw S ds_good (c_isStop l D g a f x (hn) H.size) cw_Day_isStop hN wd_181 wd_183 ws_Day_isStop ds_ob1 dw_blind (dw_pre hw hN) rfl hl.1 rfl ⟨Nat.le_trans (Nat.le_of_ble_eq_true rfl) hR.1, Nat.le_trans (Nat.le_of_ble_eq_true rfl) hR.2⟩ (Nat.le_of_ble_eq_true rfl) ⟨Nat.zero_le _, Nat.zero_le _⟩ d_DS_vehicleOf_5) (fun r_5 f_1 H locs hp hw => ?_)
  obtain ⟨er, ef⟩ := hp
  subst er
  rw [ef] at hw
  refine dn_ifb_eq S.1 S.2.1 20 d_DS_vehicleOf_8 (by decide) (fun h_8 => ?_) (fun h_8 => ?_)
  · refine lv_iconst (v := (-1)) S.1 S.2.1 d_DS_vehicleOf_20 (by decide) ?_
    exact hret H locs _ ls _ _ hw (⟨by rw [if_neg h_8], rfl⟩) d_DS_vehicleOf_21
  · obtain ⟨ex1, hx1⟩ := ds_in_nI h_8
    have hl : lv_has ls 2 [(0, .ref (a 0)), (1, .int (nI (x.toNatClampNeg)))] := by have hl2 := hl; rw [ex1] at hl2; exact hl2
    refine lv_aload_n S.1 S.2.1 d_DS_vehicleOf_11 rfl (lv_at hl 0 rfl) ?_
    refine dw_getf (fi := 4) (v := .ref (a 5)) S hw i_DS ds_ob0 (by decide) rfl wd_139 rfl d_DS_vehicleOf_12 ?_
    refine lv_iload_n S.1 S.2.1 d_DS_vehicleOf_15 rfl (lv_at hl 1 rfl) ?_
    refine dw_iald S.1 S.2.1 hw ds_k5 (by omega) d_DS_vehicleOf_16 ?_
    refine lv_goto (tgt := 21) S.1 S.2.1 d_DS_vehicleOf_17 (by decide) ?_
    exact hret H locs _ ls _ _ hw (⟨by rw [if_pos h_8], rfl⟩) d_DS_vehicleOf_21
set_option maxHeartbeats 4000000 in
set_option maxRecDepth 100000 in
theorem c_sent (l : Launch) (D : va_G) (g : Nat → ClassId) (a : Nat → Nat) (f : Nat → Nat → Nat) (x : Int32) (hn : f 1 1 ≤ 8) : ds_I l D g a y_DS_sent b_DS_sent 2 .int 2 43 [.ref (a 0), .int x] f (fun r u => (if ds_in x (f 1 1) then r = nI (f 7 x.toNatClampNeg) else r = (-1)) ∧ u = f) := by
  refine dw_ofI (by decide) (fun _ _ _ => rfl) (Nat.le_of_ble_eq_true rfl) ?_
  intro p e s m args below meth c ls A Q R H locs hR hA S hN hw hl hret
  have hl : lv_has ls 2 [(0, .ref (a 0)), (1, .int x)] := hl
  have S : CallFix p m c b_DS_sent 2 s args ds_T R_DS := S
  refine lv_aload_n S.1 S.2.1 d_DS_sent_0 rfl (lv_at hl 0 rfl) ?_
  refine dw_getf (fi := 0) (v := .ref (a 1)) S hw i_DS ds_ob0 (by decide) rfl wd_135 rfl d_DS_sent_1 ?_
  refine lv_iload_n S.1 S.2.1 d_DS_sent_4 rfl (lv_at hl 1 rfl) ?_
  refine dw_afti hw hA (dw_runVN (As := [.int x]) (rest := []) (ko := 1) hw S ds_good (c_isStop l D g a f x (hn) H.size) cw_Day_isStop hN wd_181 wd_183 ws_Day_isStop ds_ob1 dw_blind (dw_pre hw hN) rfl hl.1 rfl ⟨Nat.le_trans (Nat.le_of_ble_eq_true rfl) hR.1, Nat.le_trans (Nat.le_of_ble_eq_true rfl) hR.2⟩ (Nat.le_of_ble_eq_true rfl) ⟨Nat.zero_le _, Nat.zero_le _⟩ d_DS_sent_5) (fun r_5 f_1 H locs hp hw => ?_)
  obtain ⟨er, ef⟩ := hp
  subst er
  rw [ef] at hw
  refine dn_ifb_eq S.1 S.2.1 20 d_DS_sent_8 (by decide) (fun h_8 => ?_) (fun h_8 => ?_)
  · refine lv_iconst (v := (-1)) S.1 S.2.1 d_DS_sent_20 (by decide) ?_
    exact hret H locs _ ls _ _ hw (⟨by rw [if_neg h_8], rfl⟩) d_DS_sent_21
  · obtain ⟨ex1, hx1⟩ := ds_in_nI h_8
    have hl : lv_has ls 2 [(0, .ref (a 0)), (1, .int (nI (x.toNatClampNeg)))] := by have hl2 := hl; rw [ex1] at hl2; exact hl2
    refine lv_aload_n S.1 S.2.1 d_DS_sent_11 rfl (lv_at hl 0 rfl) ?_
    refine dw_getf (fi := 6) (v := .ref (a 7)) S hw i_DS ds_ob0 (by decide) rfl wd_141 rfl d_DS_sent_12 ?_
    refine lv_iload_n S.1 S.2.1 d_DS_sent_15 rfl (lv_at hl 1 rfl) ?_
    refine dw_iald S.1 S.2.1 hw ds_k7 (by omega) d_DS_sent_16 ?_
    refine lv_goto (tgt := 21) S.1 S.2.1 d_DS_sent_17 (by decide) ?_
    exact hret H locs _ ls _ _ hw (⟨by rw [if_pos h_8], rfl⟩) d_DS_sent_21
set_option maxHeartbeats 4000000 in
set_option maxRecDepth 100000 in
theorem c_place (l : Launch) (D : va_G) (g : Nat → ClassId) (a : Nat → Nat) (f : Nat → Nat → Nat) (x : Int32) (ok : ds_ok f) : ds_I l D g a y_DS_place b_DS_place 2 .int 3 72 [.ref (a 0), .int x] f (fun r u => (if ds_in x (f 1 1) ∧ f 5 x.toNatClampNeg < f 1 0 then r = ds_pos x.toNatClampNeg (ds_rd f (fun z => Nat.testBit (ds_bits (fun s => f 5 s == (f 5 x.toNatClampNeg)) (f 1 1)) z) (f 5 x.toNatClampNeg)) 0 else r = (-1)) ∧ ∃ h : Nat → Nat, u = dw_su f 21 h) := by
  refine dw_ofI (by decide) (fun _ _ _ => rfl) (Nat.le_of_ble_eq_true rfl) ?_
  intro p e s m args below meth c ls A Q R H locs hR hA S hN hw hl hret
  have hl : lv_has ls 2 [(0, .ref (a 0)), (1, .int x)] := hl
  have S : CallFix p m c b_DS_place 2 s args ds_T R_DS := S
  obtain ⟨hV, hn, hex, hst, hve, hwy, hw0, hrw⟩ := id ok
  refine lv_aload_n S.1 S.2.1 d_DS_place_0 rfl (lv_at hl 0 rfl) ?_
  refine dw_getf (fi := 0) (v := .ref (a 1)) S hw i_DS ds_ob0 (by decide) rfl wd_135 rfl d_DS_place_1 ?_
  refine lv_iload_n S.1 S.2.1 d_DS_place_4 rfl (lv_at hl 1 rfl) ?_
  refine dw_afti hw hA (dw_runVN (As := [.int x]) (rest := []) (ko := 1) hw S ds_good (c_isStop l D g a f x (hn) H.size) cw_Day_isStop hN wd_181 wd_183 ws_Day_isStop ds_ob1 dw_blind (dw_pre hw hN) rfl hl.1 rfl ⟨Nat.le_trans (Nat.le_of_ble_eq_true rfl) hR.1, Nat.le_trans (Nat.le_of_ble_eq_true rfl) hR.2⟩ (Nat.le_of_ble_eq_true rfl) ⟨Nat.zero_le _, Nat.zero_le _⟩ d_DS_place_5) (fun r_5 f_1 H locs hp hw => ?_)
  obtain ⟨er, ef⟩ := hp
  subst er
  rw [ef] at hw
  refine dn_ifb_eq S.1 S.2.1 27 d_DS_place_8 (by decide) (fun h_8 => ?_) (fun h_8 => ?_)
  · refine lv_iconst (v := (-1)) S.1 S.2.1 d_DS_place_27 (by decide) ?_
    exact hret H locs _ ls _ _ hw (⟨by rw [if_neg (fun q => h_8 q.1)], f 21, dw_su_self.symm⟩) d_DS_place_28
  · obtain ⟨ex1, hx1⟩ := ds_in_nI h_8
    have s1 := hst _ hx1
    have hl : lv_has ls 2 [(0, .ref (a 0)), (1, .int (nI (x.toNatClampNeg)))] := by have hl2 := hl; rw [ex1] at hl2; exact hl2
    refine lv_aload_n S.1 S.2.1 d_DS_place_11 rfl (lv_at hl 0 rfl) ?_
    refine dw_getf (fi := 0) (v := .ref (a 1)) S hw i_DS ds_ob0 (by decide) rfl wd_135 rfl d_DS_place_12 ?_
    refine lv_aload_n S.1 S.2.1 d_DS_place_15 rfl (lv_at hl 0 rfl) ?_
    refine dw_getf (fi := 4) (v := .ref (a 5)) S hw i_DS ds_ob0 (by decide) rfl wd_139 rfl d_DS_place_16 ?_
    refine lv_iload_n S.1 S.2.1 d_DS_place_19 rfl (lv_at hl 1 rfl) ?_
    refine dw_iald S.1 S.2.1 hw ds_k5 (by omega) d_DS_place_20 ?_
    refine dw_afti hw hA (dw_runVN (As := [.int (nI (f 5 (x.toNatClampNeg)))]) (rest := []) (ko := 1) hw S ds_good (c_isVehicle l D g a f (nI (f 5 (x.toNatClampNeg))) (hV) H.size) cw_Day_isVehicle hN wd_161 wd_163 ws_Day_isVehicle ds_ob1 dw_blind (dw_pre hw hN) rfl hl.1 rfl ⟨Nat.le_trans (Nat.le_of_ble_eq_true rfl) hR.1, Nat.le_trans (Nat.le_of_ble_eq_true rfl) hR.2⟩ (Nat.le_of_ble_eq_true rfl) ⟨Nat.zero_le _, Nat.zero_le _⟩ d_DS_place_21) (fun r_21 f_2 H locs hp hw => ?_)
    obtain ⟨er, ef⟩ := hp
    subst er
    rw [ef] at hw
    refine dn_ifb_ne S.1 S.2.1 29 d_DS_place_24 (by decide) (fun h_24 => ?_) (fun h_24 => ?_)
    · have hx3 : f 5 x.toNatClampNeg < f 1 0 := (ds_nI_in (by omega)).mp h_24
      refine lv_aload_n S.1 S.2.1 d_DS_place_29 rfl (lv_at hl 0 rfl) ?_
      refine dw_getf (fi := 0) (v := .ref (a 1)) S hw i_DS ds_ob0 (by decide) rfl wd_135 rfl d_DS_place_30 ?_
      refine lv_iload_n S.1 S.2.1 d_DS_place_33 rfl (lv_at hl 1 rfl) ?_
      refine lv_aload_n S.1 S.2.1 d_DS_place_34 rfl (lv_at hl 0 rfl) ?_
      refine dw_getf (fi := 4) (v := .ref (a 5)) S hw i_DS ds_ob0 (by decide) rfl wd_139 rfl d_DS_place_35 ?_
      refine lv_iload_n S.1 S.2.1 d_DS_place_38 rfl (lv_at hl 1 rfl) ?_
      refine dw_iald S.1 S.2.1 hw ds_k5 (by omega) d_DS_place_39 ?_
      refine lv_aload_n S.1 S.2.1 d_DS_place_40 rfl (lv_at hl 0 rfl) ?_
      refine lv_aload_n S.1 S.2.1 d_DS_place_41 rfl (lv_at hl 0 rfl) ?_
      refine dw_getf (fi := 4) (v := .ref (a 5)) S hw i_DS ds_ob0 (by decide) rfl wd_139 rfl d_DS_place_42 ?_
      refine lv_iload_n S.1 S.2.1 d_DS_place_45 rfl (lv_at hl 1 rfl) ?_
      refine dw_iald S.1 S.2.1 hw ds_k5 (by omega) d_DS_place_46 ?_
      refine dw_afti hw hA (dw_runV (As := [.int (nI (f 5 (x.toNatClampNeg)))]) (rest := [.int (nI (f 5 (x.toNatClampNeg))), .int (nI (x.toNatClampNeg)), .ref (a 1)]) (ko := 0) hw S ds_good (c_setOf l D g a f (f 5 (x.toNatClampNeg)) (hn) (by omega) (fun x hx => by have := hst x hx; omega) H.size) cw_DS_setOf wd_291 wd_293 ws_DS_setOf ds_ob0 dw_blind (dw_pre hw hN) rfl hl.1 rfl ⟨Nat.le_trans (Nat.le_of_ble_eq_true rfl) hR.1, Nat.le_trans (Nat.le_of_ble_eq_true rfl) hR.2⟩ (Nat.le_of_ble_eq_true rfl) ⟨Nat.zero_le _, Nat.zero_le _⟩ d_DS_place_47) (fun r_47 f_3 H locs hp hw => ?_)
      obtain ⟨er, ef⟩ := hp
      subst er
      rw [ef] at hw
      refine dw_afti hw hA (dw_runVN (As := [.int (nI (x.toNatClampNeg)), .int (nI (f 5 (x.toNatClampNeg))), .int (nI (ds_bits (fun s => f 5 s == (f 5 (x.toNatClampNeg))) (f 1 1)))]) (rest := []) (ko := 1) hw S ds_good (c_placeInRound l D g a f (x.toNatClampNeg) (f 5 (x.toNatClampNeg)) (ds_bits (fun s => f 5 s == (f 5 (x.toNatClampNeg))) (f 1 1)) (ok) (hx3) (Nat.lt_trans (ds_bits_256 _ hn) (by decide)) (by omega) H.size) cw_Day_placeInRound hN wd_295 wd_297 ws_Day_placeInRound ds_ob1 dw_blind (dw_pre hw hN) rfl hl.1 rfl ⟨Nat.le_trans (Nat.le_of_ble_eq_true rfl) hR.1, Nat.le_trans (Nat.le_of_ble_eq_true rfl) hR.2⟩ (Nat.le_of_ble_eq_true rfl) ⟨Nat.zero_le _, Nat.zero_le _⟩ d_DS_place_50) (fun r_50 f_4 H locs hp hw => ?_)
      obtain ⟨er, h, ef_4⟩ := hp
      subst er
      exact hret H locs _ ls _ _ hw (⟨by rw [if_pos ⟨h_8, hx3⟩], h, ef_4⟩) d_DS_place_53
    · refine lv_iconst (v := (-1)) S.1 S.2.1 d_DS_place_27 (by decide) ?_
      exact hret H locs _ ls _ _ hw (⟨by rw [if_neg (fun q => h_24 ((ds_nI_in (by omega)).mpr q.2))], f 21, dw_su_self.symm⟩) d_DS_place_28
set_option maxHeartbeats 4000000 in
set_option maxRecDepth 100000 in
theorem c_moved (l : Launch) (D : va_G) (g : Nat → ClassId) (a : Nat → Nat) (f : Nat → Nat → Nat) (k : Int32) (ok : ds_ok f) : ds_I l D g a y_DS_moved b_DS_moved 2 .int 2 44 [.ref (a 0), .int k] f (fun r u => r = ds_find (fun s => (ds_bits (fun s => f 5 s != f 10 s) (f 1 1)).testBit s) k 8 0 0 ∧ u = f) := by
  refine dw_ofI (by decide) (fun _ _ _ => rfl) (Nat.le_of_ble_eq_true rfl) ?_
  intro p e s m args below meth c ls A Q R H locs hR hA S hN hw hl hret
  have hl : lv_has ls 2 [(0, .ref (a 0)), (1, .int k)] := hl
  have S : CallFix p m c b_DS_moved 2 s args ds_T R_DS := S
  obtain ⟨hV, hn, hex, hst, hve, hwy, hw0, hrw⟩ := id ok
  refine lv_aload_n S.1 S.2.1 d_DS_moved_0 rfl (lv_at hl 0 rfl) ?_
  refine dw_afti hw hA (dw_runV (As := []) (rest := []) (ko := 0) hw S ds_good (c_movedSet l D g a f (hn) (fun x hx => by have := hst x hx; have := hrw.2 x hx; omega) H.size) cw_DS_movedSet wd_273 wd_275 ws_DS_movedSet ds_ob0 dw_blind (dw_pre hw hN) rfl hl.1 rfl ⟨Nat.le_trans (Nat.le_of_ble_eq_true rfl) hR.1, Nat.le_trans (Nat.le_of_ble_eq_true rfl) hR.2⟩ (Nat.le_of_ble_eq_true rfl) ⟨Nat.zero_le _, Nat.zero_le _⟩ d_DS_moved_1) (fun r_1 f_1 H locs hp hw => ?_)
  obtain ⟨er, ef⟩ := hp
  subst er
  rw [ef] at hw
  refine lv_iload_n S.1 S.2.1 d_DS_moved_4 rfl (lv_at hl 1 rfl) ?_
  refine dw_afti hw hA (dw_runS (As := [.int (nI (ds_bits (fun s => f 5 s != f 10 s) (f 1 1))), .int k]) (rest := []) S ds_good (c_stopAt l D g a f (ds_bits (fun s => f 5 s != f 10 s) (f 1 1)) k (Nat.lt_trans (ds_bits_256 _ hn) (by decide)) H.size) cw_DS_stopAt wd_303 wd_304 dw_blind (dw_pre hw hN) rfl hl.1 rfl ⟨Nat.le_trans (Nat.le_of_ble_eq_true rfl) hR.1, Nat.le_trans (Nat.le_of_ble_eq_true rfl) hR.2⟩ (Nat.le_of_ble_eq_true rfl) ⟨Nat.zero_le _, Nat.zero_le _⟩ d_DS_moved_5) (fun r_5 f_2 H locs hp hw => ?_)
  obtain ⟨er, ef⟩ := hp
  subst er
  rw [ef] at hw
  exact hret H locs _ ls _ _ hw (⟨rfl, rfl⟩) d_DS_moved_8
set_option maxHeartbeats 4000000 in
set_option maxRecDepth 100000 in
theorem c_carried (l : Launch) (D : va_G) (g : Nat → ClassId) (a : Nat → Nat) (f : Nat → Nat → Nat) (k : Int32) (ok : ds_ok f) : ds_I l D g a y_DS_carried b_DS_carried 2 .int 2 44 [.ref (a 0), .int k] f (fun r u => r = ds_find (fun s => (ds_bits (fun s => f 5 s == f 1 0) (f 1 1)).testBit s) k 8 0 0 ∧ u = f) := by
  refine dw_ofI (by decide) (fun _ _ _ => rfl) (Nat.le_of_ble_eq_true rfl) ?_
  intro p e s m args below meth c ls A Q R H locs hR hA S hN hw hl hret
  have hl : lv_has ls 2 [(0, .ref (a 0)), (1, .int k)] := hl
  have S : CallFix p m c b_DS_carried 2 s args ds_T R_DS := S
  obtain ⟨hV, hn, hex, hst, hve, hwy, hw0, hrw⟩ := id ok
  refine lv_aload_n S.1 S.2.1 d_DS_carried_0 rfl (lv_at hl 0 rfl) ?_
  refine lv_aload_n S.1 S.2.1 d_DS_carried_1 rfl (lv_at hl 0 rfl) ?_
  refine dw_getf (fi := 0) (v := .ref (a 1)) S hw i_DS ds_ob0 (by decide) rfl wd_135 rfl d_DS_carried_2 ?_
  refine dw_getN (fi := 0) (v := .int (nI (f 1 0))) S hw i_Day ds_ob1 (by decide) rfl hN wd_34 rfl d_DS_carried_5 ?_
  refine dw_afti hw hA (dw_runV (As := [.int (nI (f 1 0))]) (rest := []) (ko := 0) hw S ds_good (c_setOf l D g a f (f 1 0) (hn) (by omega) (fun x hx => by have := hst x hx; omega) H.size) cw_DS_setOf wd_291 wd_293 ws_DS_setOf ds_ob0 dw_blind (dw_pre hw hN) rfl hl.1 rfl ⟨Nat.le_trans (Nat.le_of_ble_eq_true rfl) hR.1, Nat.le_trans (Nat.le_of_ble_eq_true rfl) hR.2⟩ (Nat.le_of_ble_eq_true rfl) ⟨Nat.zero_le _, Nat.zero_le _⟩ d_DS_carried_8) (fun r_8 f_1 H locs hp hw => ?_)
  obtain ⟨er, ef⟩ := hp
  subst er
  rw [ef] at hw
  refine lv_iload_n S.1 S.2.1 d_DS_carried_11 rfl (lv_at hl 1 rfl) ?_
  refine dw_afti hw hA (dw_runS (As := [.int (nI (ds_bits (fun s => f 5 s == (f 1 0)) (f 1 1))), .int k]) (rest := []) S ds_good (c_stopAt l D g a f (ds_bits (fun s => f 5 s == (f 1 0)) (f 1 1)) k (Nat.lt_trans (ds_bits_256 _ hn) (by decide)) H.size) cw_DS_stopAt wd_303 wd_304 dw_blind (dw_pre hw hN) rfl hl.1 rfl ⟨Nat.le_trans (Nat.le_of_ble_eq_true rfl) hR.1, Nat.le_trans (Nat.le_of_ble_eq_true rfl) hR.2⟩ (Nat.le_of_ble_eq_true rfl) ⟨Nat.zero_le _, Nat.zero_le _⟩ d_DS_carried_12) (fun r_12 f_2 H locs hp hw => ?_)
  obtain ⟨er, ef⟩ := hp
  subst er
  rw [ef] at hw
  exact hret H locs _ ls _ _ hw (⟨rfl, rfl⟩) d_DS_carried_15
end
section
/-! contracts of the public methods -/
set_option maxHeartbeats 4000000 in
set_option maxRecDepth 100000 in
theorem c_send (l : Launch) (D : va_G) (g : Nat → ClassId) (a : Nat → Nat) (f : Nat → Nat → Nat)  (ok : ds_ok f) : ds_I l D g a y_DS_send b_DS_send 3 .int 0 0 [.ref (a 0)] f (fun r u => r = nI (ds_cnt (fun x => f 5 x != f 6 x) (f 1 1)) ∧ (∀ x, u 6 x = (if x < f 1 1 then f 5 x else f 6 x) ∧ u 7 x = (if x < f 1 1 ∧ f 5 x ≠ f 6 x then f 7 x + 1 else f 7 x)) ∧ ∀ k, k ≠ 6 → k ≠ 7 → u k = f k) := by
  refine dw_ofI (by decide) (fun _ _ _ => rfl) (Nat.le_of_ble_eq_true rfl) ?_
  intro p e s m args below meth c ls A Q R H locs hR hA S hN hw hl hret
  have hl : lv_has ls 3 [(0, .ref (a 0))] := hl
  have S : CallFix p m c b_DS_send 3 s args ds_T R_DS := S
  obtain ⟨hV, hn, hex, hst, hve, hwy, hw0, hrw⟩ := id ok
  refine lv_iconst (v := nI 0) S.1 S.2.1 d_DS_send_0 (by decide) ?_
  refine lv_istore_n (lv' := [(1, .int (nI 0)), (0, .ref (a 0))]) S.1 S.2.1 d_DS_send_1 rfl hl (by decide) rfl (fun ls hl => ?_)
  refine lv_iconst (v := nI 0) S.1 S.2.1 d_DS_send_2 (by decide) ?_
  refine lv_istore_n (lv' := [(2, .int (nI 0)), (1, .int (nI 0)), (0, .ref (a 0))]) S.1 S.2.1 d_DS_send_3 rfl hl (by decide) rfl (fun ls hl => ?_)
  have loop_4 : ∀ (n : Nat) (z : Nat) (i : Nat) (f2 : Nat → Nat → Nat) (hi : i ≤ f 1 1) (ez : z = ds_cnt (fun x => f 5 x != f 6 x) i) (hU : ∀ x, f2 6 x = (if x < i then f 5 x else f 6 x) ∧ f2 7 x = (if x < i ∧ f 5 x ≠ f 6 x then f 7 x + 1 else f 7 x)) (hg : ∀ k, k ≠ 6 → k ≠ 7 → f2 k = f k) (_ : f 1 1 - i < n) (H : Heap) (locs : List Loc), dw_W D classes (ds_tys g) A s.heap (dw_l 77 (ds_ce g a) a f2) s H locs → ∀ (ls : Array Slot), lv_has ls 3 [(0, .ref (a 0)), (1, .int (nI z)), (2, .int (nI i))] → W p l e R s m args below meth c H locs 0 0 Q (F0 m 4 ls []) := by
    intro n
    induction n with
    | zero => intro z i f2 hi ez hU hg h9; exact absurd h9 (Nat.not_lt_zero _)
    | succ n ih_4 =>
      intro z i f2 hi ez hU hg hm_4 H locs hw ls hl
      have q11 : f2 1 1 = f 1 1 := by rw [hg 1 (by decide) (by decide)]
      have q5 : f2 5 i = f 5 i := by rw [hg 5 (by decide) (by decide)]
      have q6 : f2 6 i = f 6 i := by rw [(hU i).1, if_neg (by omega)]
      refine lv_iload_n S.1 S.2.1 d_DS_send_4 rfl (lv_at hl 2 rfl) ?_
      refine lv_aload_n S.1 S.2.1 d_DS_send_5 rfl (lv_at hl 0 rfl) ?_
      refine dw_getf (fi := 0) (v := .ref (a 1)) S hw i_DS ds_ob0 (by decide) rfl wd_135 rfl d_DS_send_6 ?_
      refine dw_getN (fi := 1) (v := .int (nI (f2 1 1))) S hw i_Day ds_ob1 (by decide) rfl hN wd_35 rfl d_DS_send_9 ?_
      refine dn_icmp_ge S.1 S.2.1 61 (by omega) (by omega) d_DS_send_12 (by decide) (fun h_12 => ?_) (fun h_12 => ?_)
      · refine lv_iload_n S.1 S.2.1 d_DS_send_61 rfl (lv_at hl 1 rfl) ?_
        exact hret H locs _ ls _ _ hw (⟨by rw [ez, show i = f 1 1 by omega], by rw [show f 1 1 = i by omega]; exact hU, hg⟩) d_DS_send_62
      · have s1 := hst i (by omega)
        refine lv_aload_n S.1 S.2.1 d_DS_send_15 rfl (lv_at hl 0 rfl) ?_
        refine dw_getf (fi := 4) (v := .ref (a 5)) S hw i_DS ds_ob0 (by decide) rfl wd_139 rfl d_DS_send_16 ?_
        refine lv_iload_n S.1 S.2.1 d_DS_send_19 rfl (lv_at hl 2 rfl) ?_
        refine dw_iald S.1 S.2.1 hw ds_k5 (by omega) d_DS_send_20 ?_
        refine lv_aload_n S.1 S.2.1 d_DS_send_21 rfl (lv_at hl 0 rfl) ?_
        refine dw_getf (fi := 5) (v := .ref (a 6)) S hw i_DS ds_ob0 (by decide) rfl wd_140 rfl d_DS_send_22 ?_
        refine lv_iload_n S.1 S.2.1 d_DS_send_25 rfl (lv_at hl 2 rfl) ?_
        refine dw_iald S.1 S.2.1 hw ds_k6 (by omega) d_DS_send_26 ?_
        refine dn_icmp_eq S.1 S.2.1 55 (by omega) (by omega) d_DS_send_27 (by decide) (fun h_27 => ?_) (fun h_27 => ?_)
        · have heq : f 5 i = f 6 i := by omega
          refine lv_iinc (v := nI (i + 1)) (lv' := [(2, .int (nI (i + 1))), (0, .ref (a 0)), (1, .int (nI z))]) S.1 S.2.1 d_DS_send_55 hl (k := 2) rfl (by rw [show Int32.ofInt 1 = nI 1 from rfl, nI_add]) (by decide) rfl (fun ls hl => ?_)
          refine lv_goto (tgt := 4) S.1 S.2.1 d_DS_send_58 (by decide) ?_
          exact ih_4 z (i + 1) f2 (by omega) (by rw [ez]; simp [ds_cnt, heq]) (fun x => by
    have q := hU x
    by_cases ex : x = i
    · subst ex
      simp [heq] at q ⊢
      exact q
    · have e1 : (x < i + 1) = (x < i) := propext (by omega)
      simp only [e1]
      exact q) (hg) (by omega) H locs hw ls (lv_sub hl [1, 2, 0] rfl)
        · have hne : ¬ f 5 i = f 6 i := by omega
          refine lv_aload_n S.1 S.2.1 d_DS_send_30 rfl (lv_at hl 0 rfl) ?_
          refine dw_getf (fi := 5) (v := .ref (a 6)) S hw i_DS ds_ob0 (by decide) rfl wd_140 rfl d_DS_send_31 ?_
          refine lv_iload_n S.1 S.2.1 d_DS_send_34 rfl (lv_at hl 2 rfl) ?_
          refine lv_aload_n S.1 S.2.1 d_DS_send_35 rfl (lv_at hl 0 rfl) ?_
          refine dw_getf (fi := 4) (v := .ref (a 5)) S hw i_DS ds_ob0 (by decide) rfl wd_139 rfl d_DS_send_36 ?_
          refine lv_iload_n S.1 S.2.1 d_DS_send_39 rfl (lv_at hl 2 rfl) ?_
          refine dw_iald S.1 S.2.1 hw ds_k5 (by omega) d_DS_send_40 ?_
          refine dw_iast S.1 S.2.1 hw ds_k6 (by omega) d_DS_send_41 (fun f_1 H locs ef_1 hw => ?_)
          have eA := ef_1
          refine lv_aload_n S.1 S.2.1 d_DS_send_42 rfl (lv_at hl 0 rfl) ?_
          refine dw_getf (fi := 6) (v := .ref (a 7)) S hw i_DS ds_ob0 (by decide) rfl wd_141 rfl d_DS_send_43 ?_
          refine lv_iload_n S.1 S.2.1 d_DS_send_46 rfl (lv_at hl 2 rfl) ?_
          refine lv_dup2_11 S.1 S.2.1 d_DS_send_47 rfl rfl ?_
          refine dw_iald S.1 S.2.1 hw ds_k7 (by omega) d_DS_send_48 ?_
          refine lv_iconst (v := nI 1) S.1 S.2.1 d_DS_send_49 (by decide) ?_
          refine dn_iadd S.1 S.2.1 d_DS_send_50 ?_
          refine dw_iast S.1 S.2.1 hw ds_k7 (by omega) d_DS_send_51 (fun f_2 H locs ef_2 hw => ?_)
          have eB := ef_2
          refine lv_iinc (v := nI (z + 1)) (lv' := [(1, .int (nI (z + 1))), (0, .ref (a 0)), (2, .int (nI i))]) S.1 S.2.1 d_DS_send_52 hl (k := 1) rfl (by rw [show Int32.ofInt 1 = nI 1 from rfl, nI_add]) (by decide) rfl (fun ls hl => ?_)
          refine lv_iinc (v := nI (i + 1)) (lv' := [(2, .int (nI (i + 1))), (1, .int (nI (z + 1))), (0, .ref (a 0))]) S.1 S.2.1 d_DS_send_55 hl (k := 2) rfl (by rw [show Int32.ofInt 1 = nI 1 from rfl, nI_add]) (by decide) rfl (fun ls hl => ?_)
          refine lv_goto (tgt := 4) S.1 S.2.1 d_DS_send_58 (by decide) ?_
          exact ih_4 (z + 1) (i + 1) f_2 (by omega) (by rw [ez]; simp [ds_cnt, hne]) (fun x => by
    have q := hU x
    have q2 := hU i
    rw [eB, eA]
    by_cases ex : x = i
    · subst ex
      rw [dw_w_ne (by decide), dw_w_eq, dw_up_eq, dw_w_eq, dw_up_eq, dw_w_ne (by decide), q5]
      simp [hne] at q2 ⊢
      exact q2.2
    · rw [dw_w_ne (by decide), dw_w_eq, dw_up_ne ex, dw_w_eq, dw_up_ne ex, dw_w_ne (by decide)]
      have e1 : (x < i + 1) = (x < i) := propext (by omega)
      simp only [e1]
      exact q) (fun k k1 k2 => by rw [eB, eA, dw_w_ne k2, dw_w_ne k1]; exact hg k k1 k2) (by omega) H locs hw ls (lv_sub hl [2, 1, 0] rfl)
  exact loop_4 _ 0 0 f (Nat.zero_le _) (rfl) (fun x => by simp) (fun _ _ _ => rfl) (Nat.lt_succ_self _) H locs hw ls (lv_sub hl [2, 1, 0] rfl)
set_option maxHeartbeats 4000000 in
set_option maxRecDepth 100000 in
theorem c_undo (l : Launch) (D : va_G) (g : Nat → ClassId) (a : Nat → Nat) (f : Nat → Nat → Nat)  (ok : ds_ok f) (hk : f 3 2 ≤ 6) (hks : ∀ k, k < f 3 2 → f 45 k ≤ 8) : ds_I l D g a y_DS_undo b_DS_undo 4 .boolean 0 0 [.ref (a 0)] f (fun r u => if f 3 2 = 0 then r = nI 0 ∧ u = f else r = nI 1 ∧ u 3 2 = f 3 2 - 1 ∧ (∀ x, x < f 1 1 → u 5 x = if x < f 45 (f 3 2 - 1) then f (39 + (f 3 2 - 1)) x else f 10 x) ∧ ∀ k, k ≠ 3 → k ≠ 5 → u k = f k) := by
  refine dw_ofI (by decide) (fun v u h => by split at h <;> (rw [h.1]; rfl)) (Nat.le_of_ble_eq_true rfl) ?_
  intro p e s m args below meth c ls A Q R H locs hR hA S hN hw hl hret
  have hl : lv_has ls 4 [(0, .ref (a 0))] := hl
  have S : CallFix p m c b_DS_undo 4 s args ds_T R_DS := S
  obtain ⟨hV, hn, hex, hst, hve, hwy, hw0, hrw⟩ := id ok
  refine lv_aload_n S.1 S.2.1 d_DS_undo_0 rfl (lv_at hl 0 rfl) ?_
  refine dw_getf (fi := 2) (v := .ref (a 3)) S hw i_DS ds_ob0 (by decide) rfl wd_137 rfl d_DS_undo_1 ?_
  refine dw_getN (fi := 2) (v := .int (nI (f 3 2))) S hw i_Sh ds_ob3 (by decide) rfl hN wd_127 rfl d_DS_undo_4 ?_
  refine dn_if_ne S.1 S.2.1 12 (by omega) d_DS_undo_7 (by decide) (fun h_7 => ?_) (fun h_7 => ?_)
  · refine lv_aload_n S.1 S.2.1 d_DS_undo_12 rfl (lv_at hl 0 rfl) ?_
    refine dw_getf (fi := 2) (v := .ref (a 3)) S hw i_DS ds_ob0 (by decide) rfl wd_137 rfl d_DS_undo_13 ?_
    refine dw_getN (fi := 2) (v := .int (nI (f 3 2))) S hw i_Sh ds_ob3 (by decide) rfl hN wd_127 rfl d_DS_undo_16 ?_
    refine lv_iconst (v := nI 1) S.1 S.2.1 d_DS_undo_19 (by decide) ?_
    refine dn_isub S.1 S.2.1 (by omega) d_DS_undo_20 ?_
    refine lv_istore_n (lv' := [(1, .int (nI ((f 3 2) - 1))), (0, .ref (a 0))]) S.1 S.2.1 d_DS_undo_21 rfl hl (by decide) rfl (fun ls hl => ?_)
    refine lv_iconst (v := nI 0) S.1 S.2.1 d_DS_undo_22 (by decide) ?_
    refine lv_istore_n (lv' := [(2, .int (nI 0)), (1, .int (nI ((f 3 2) - 1))), (0, .ref (a 0))]) S.1 S.2.1 d_DS_undo_23 rfl hl (by decide) rfl (fun ls hl => ?_)
    have loop_24 : ∀ (n : Nat) (i : Nat) (f2 : Nat → Nat → Nat) (b : Nat) (hi : i ≤ f 1 1) (eb : b = f 3 2 - 1) (hU : ∀ x, x < i → f2 5 x = if x < f 45 (f 3 2 - 1) then f (39 + (f 3 2 - 1)) x else f 10 x) (hg : ∀ k, k ≠ 5 → f2 k = f k) (_ : f 1 1 - i < n) (H : Heap) (locs : List Loc), dw_W D classes (ds_tys g) A s.heap (dw_l 77 (ds_ce g a) a f2) s H locs → ∀ (ls : Array Slot), lv_has ls 4 [(0, .ref (a 0)), (1, .int (nI b)), (2, .int (nI i))] → W p l e R s m args below meth c H locs 0 0 Q (F0 m 24 ls []) := by
      intro n
      induction n with
      | zero => intro i f2 b hi eb hU hg h9; exact absurd h9 (Nat.not_lt_zero _)
      | succ n ih_24 =>
        intro i f2 b hi eb hU hg hm_24 H locs hw ls hl
        have q11 : f2 1 1 = f 1 1 := by rw [hg 1 (by decide)]
        have q45 : f2 45 b = f 45 b := by rw [hg 45 (by decide)]
        have kb := hks b (by omega)
        refine lv_iload_n S.1 S.2.1 d_DS_undo_24 rfl (lv_at hl 2 rfl) ?_
        refine lv_aload_n S.1 S.2.1 d_DS_undo_25 rfl (lv_at hl 0 rfl) ?_
        refine dw_getf (fi := 0) (v := .ref (a 1)) S hw i_DS ds_ob0 (by decide) rfl wd_135 rfl d_DS_undo_26 ?_
        refine dw_getN (fi := 1) (v := .int (nI (f2 1 1))) S hw i_Day ds_ob1 (by decide) rfl hN wd_35 rfl d_DS_undo_29 ?_
        refine dn_icmp_ge S.1 S.2.1 93 (by omega) (by omega) d_DS_undo_32 (by decide) (fun h_32 => ?_) (fun h_32 => ?_)
        · refine lv_aload_n S.1 S.2.1 d_DS_undo_93 rfl (lv_at hl 0 rfl) ?_
          refine dw_getf (fi := 2) (v := .ref (a 3)) S hw i_DS ds_ob0 (by decide) rfl wd_137 rfl d_DS_undo_94 ?_
          refine lv_iload_n S.1 S.2.1 d_DS_undo_97 rfl (lv_at hl 1 rfl) ?_
          refine dw_putN (fi := 2) S hw i_Sh t_Sh t_Sh_ok n_Sh ds_ob3 (by decide) rfl hN wd_127 rfl (by decide +kernel) (Nat.le_of_ble_eq_true rfl) rfl d_DS_undo_98 (fun f_1 H locs ef_1 hw => ?_)
          refine lv_iconst (v := nI 1) S.1 S.2.1 d_DS_undo_101 (by decide) ?_
          exact hret H locs _ ls _ _ hw (by
    rw [if_neg h_7]
    refine ⟨rfl, by rw [ef_1, dw_w_eq, dw_up_eq, eb], fun x hx => by rw [ef_1, dw_w_ne (by decide)]; exact hU x (by omega), fun k k1 k2 => by rw [ef_1, dw_w_ne k1]; exact hg k k2⟩) d_DS_undo_102
        · refine lv_iload_n S.1 S.2.1 d_DS_undo_35 rfl (lv_at hl 2 rfl) ?_
          refine lv_aload_n S.1 S.2.1 d_DS_undo_36 rfl (lv_at hl 0 rfl) ?_
          refine dw_getf (fi := 2) (v := .ref (a 3)) S hw i_DS ds_ob0 (by decide) rfl wd_137 rfl d_DS_undo_37 ?_
          refine dw_getN (fi := 1) (v := .ref (a 45)) S hw i_Sh ds_ob3 (by decide) rfl hN wd_125 rfl d_DS_undo_40 ?_
          refine lv_iload_n S.1 S.2.1 d_DS_undo_43 rfl (lv_at hl 1 rfl) ?_
          refine dw_iald S.1 S.2.1 hw ds_k45 (by omega) d_DS_undo_44 ?_
          refine dn_icmp_ge S.1 S.2.1 52 (by omega) (by omega) d_DS_undo_45 (by decide) (fun h_45 => ?_) (fun h_45 => ?_)
          · refine lv_iconst (v := nI 0) S.1 S.2.1 d_DS_undo_52 (by decide) ?_
            refine lv_istore_n (lv' := [(3, .int (nI 0)), (0, .ref (a 0)), (1, .int (nI b)), (2, .int (nI i))]) S.1 S.2.1 d_DS_undo_53 rfl hl (by decide) rfl (fun ls hl => ?_)
            refine lv_aload_n S.1 S.2.1 d_DS_undo_54 rfl (lv_at hl 1 rfl) ?_
            refine dw_getf (fi := 4) (v := .ref (a 5)) S hw i_DS ds_ob0 (by decide) rfl wd_139 rfl d_DS_undo_55 ?_
            refine lv_iload_n S.1 S.2.1 d_DS_undo_58 rfl (lv_at hl 3 rfl) ?_
            refine lv_iload_n S.1 S.2.1 d_DS_undo_59 rfl (lv_at hl 0 rfl) ?_
            refine dn_if_eq S.1 S.2.1 77 (by decide) d_DS_undo_60 (by decide) (fun h_60 => ?_) (fun h_60 => absurd h_60 (by decide))
            refine lv_aload_n S.1 S.2.1 d_DS_undo_77 rfl (lv_at hl 1 rfl) ?_
            refine dw_getf (fi := 0) (v := .ref (a 1)) S hw i_DS ds_ob0 (by decide) rfl wd_135 rfl d_DS_undo_78 ?_
            refine dw_getN (fi := 4) (v := .ref (a 10)) S hw i_Day ds_ob1 (by decide) rfl hN wd_42 rfl d_DS_undo_81 ?_
            refine lv_iload_n S.1 S.2.1 d_DS_undo_84 rfl (lv_at hl 3 rfl) ?_
            refine dw_iald S.1 S.2.1 hw ds_k10 (by omega) d_DS_undo_85 ?_
            refine dw_iast S.1 S.2.1 hw ds_k5 (by omega) d_DS_undo_86 (fun f_2 H locs ef_2 hw => ?_)
            refine lv_iinc (v := nI (i + 1)) (lv' := [(2, .int (nI (i + 1))), (3, .int (nI 0)), (0, .ref (a 0)), (1, .int (nI b))]) S.1 S.2.1 d_DS_undo_87 hl (k := 3) rfl (by rw [show Int32.ofInt 1 = nI 1 from rfl, nI_add]) (by decide) rfl (fun ls hl => ?_)
            refine lv_goto (tgt := 24) S.1 S.2.1 d_DS_undo_90 (by decide) ?_
            exact ih_24 (i + 1) f_2 b (by omega) (eb) (fun x hx => by
    rw [ef_2, dw_w_eq]
    by_cases ex : x = i
    · rw [ex, dw_up_eq, ← eb, if_neg (by omega), hg 10 (by decide)]
    · rw [dw_up_ne ex]; exact hU x (by omega)) (fun k k1 => by rw [ef_2, dw_w_ne k1]; exact hg k k1) (by omega) H locs hw ls (lv_sub hl [2, 3, 0] rfl)
          · refine lv_iconst (v := nI 1) S.1 S.2.1 d_DS_undo_48 (by decide) ?_
            refine lv_goto (tgt := 53) S.1 S.2.1 d_DS_undo_49 (by decide) ?_
            refine lv_istore_n (lv' := [(3, .int (nI 1)), (0, .ref (a 0)), (1, .int (nI b)), (2, .int (nI i))]) S.1 S.2.1 d_DS_undo_53 rfl hl (by decide) rfl (fun ls hl => ?_)
            refine lv_aload_n S.1 S.2.1 d_DS_undo_54 rfl (lv_at hl 1 rfl) ?_
            refine dw_getf (fi := 4) (v := .ref (a 5)) S hw i_DS ds_ob0 (by decide) rfl wd_139 rfl d_DS_undo_55 ?_
            refine lv_iload_n S.1 S.2.1 d_DS_undo_58 rfl (lv_at hl 3 rfl) ?_
            refine lv_iload_n S.1 S.2.1 d_DS_undo_59 rfl (lv_at hl 0 rfl) ?_
            refine dn_if_eq S.1 S.2.1 77 (by decide) d_DS_undo_60 (by decide) (fun h_60 => absurd h_60 (by decide)) (fun h_60 => ?_)
            refine lv_aload_n S.1 S.2.1 d_DS_undo_63 rfl (lv_at hl 1 rfl) ?_
            refine dw_getf (fi := 2) (v := .ref (a 3)) S hw i_DS ds_ob0 (by decide) rfl wd_137 rfl d_DS_undo_64 ?_
            refine dw_getN (fi := 0) (v := .ref (a 38)) S hw i_Sh ds_ob3 (by decide) rfl hN wd_123 rfl d_DS_undo_67 ?_
            refine lv_iload_n S.1 S.2.1 d_DS_undo_70 rfl (lv_at hl 2 rfl) ?_
            refine dw_aald S.1 S.2.1 hw ds_k38 (by omega) d_DS_undo_71 ?_
            refine lv_iload_n S.1 S.2.1 d_DS_undo_72 rfl (lv_at hl 3 rfl) ?_
            refine dw_iald S.1 S.2.1 hw (ds_k39 (by omega)) (by omega) d_DS_undo_73 ?_
            refine lv_goto (tgt := 86) S.1 S.2.1 d_DS_undo_74 (by decide) ?_
            refine dw_iast S.1 S.2.1 hw ds_k5 (by omega) d_DS_undo_86 (fun f_3 H locs ef_3 hw => ?_)
            refine lv_iinc (v := nI (i + 1)) (lv' := [(2, .int (nI (i + 1))), (3, .int (nI 1)), (0, .ref (a 0)), (1, .int (nI b))]) S.1 S.2.1 d_DS_undo_87 hl (k := 3) rfl (by rw [show Int32.ofInt 1 = nI 1 from rfl, nI_add]) (by decide) rfl (fun ls hl => ?_)
            refine lv_goto (tgt := 24) S.1 S.2.1 d_DS_undo_90 (by decide) ?_
            exact ih_24 (i + 1) f_3 b (by omega) (eb) (fun x hx => by
    rw [ef_3, dw_w_eq]
    by_cases ex : x = i
    · rw [ex, dw_up_eq, ← eb, if_pos (by omega), hg (39 + b) (by omega)]
    · rw [dw_up_ne ex]; exact hU x (by omega)) (fun k k1 => by rw [ef_3, dw_w_ne k1]; exact hg k k1) (by omega) H locs hw ls (lv_sub hl [2, 3, 0] rfl)
    exact loop_24 _ 0 f ((f 3 2) - 1) (Nat.zero_le _) (rfl) (fun x hx => absurd hx (Nat.not_lt_zero _)) (fun _ _ => rfl) (Nat.lt_succ_self _) H locs hw ls (lv_sub hl [2, 1, 0] rfl)
  · refine lv_iconst (v := nI 0) S.1 S.2.1 d_DS_undo_10 (by decide) ?_
    exact hret H locs _ ls _ _ hw (by rw [if_pos h_7]; exact ⟨rfl, rfl⟩) d_DS_undo_11
set_option maxHeartbeats 4000000 in
set_option maxRecDepth 100000 in
theorem c_copy (l : Launch) (D : va_G) (g : Nat → ClassId) (a : Nat → Nat) (f : Nat → Nat → Nat)  (hk : f 4 2 ≤ 4) : ds_I l D g a y_DS_copy b_DS_copy 1 .int 2 63 [.ref (a 0)] f (fun r u => if f 4 2 < 4 then r = nI (f 4 2) ∧ u 4 2 = f 4 2 + 1 ∧ (∀ j, j < f 4 2 → (∀ t, t < 8 → u (47 + j) t = f (47 + j) t) ∧ u 51 j = f 51 j) ∧ (∀ t, t < 8 → u (47 + f 4 2) t = f 5 t) ∧ u 51 (f 4 2) = f 1 1 ∧ (∀ k, k ≠ 4 → k ≠ 51 → ¬ (47 ≤ k ∧ k < 51) → u k = f k) else r = (-1) ∧ u = f) := by
  refine dw_ofI (by decide) (fun _ _ _ => rfl) (Nat.le_of_ble_eq_true rfl) ?_
  intro p e s m args below meth c ls A Q R H locs hR hA S hN hw hl hret
  have hl : lv_has ls 1 [(0, .ref (a 0))] := hl
  have S : CallFix p m c b_DS_copy 1 s args ds_T R_DS := S
  refine lv_aload_n S.1 S.2.1 d_DS_copy_0 rfl (lv_at hl 0 rfl) ?_
  refine dw_getf (fi := 3) (v := .ref (a 4)) S hw i_DS ds_ob0 (by decide) rfl wd_138 rfl d_DS_copy_1 ?_
  refine dw_getN (fi := 2) (v := .int (nI (f 4 2))) S hw i_Sh ds_ob4 (by decide) rfl hN wd_127 rfl d_DS_copy_4 ?_
  refine lv_iconst (v := nI 4) S.1 S.2.1 d_DS_copy_7 (by decide) ?_
  refine dn_icmp_lt S.1 S.2.1 13 (by omega) (by decide) d_DS_copy_8 (by decide) (fun h_8 => ?_) (fun h_8 => ?_)
  · refine lv_aload_n S.1 S.2.1 d_DS_copy_13 rfl (lv_at hl 0 rfl) ?_
    refine dw_getf (fi := 3) (v := .ref (a 4)) S hw i_DS ds_ob0 (by decide) rfl wd_138 rfl d_DS_copy_14 ?_
    refine lv_aload_n S.1 S.2.1 d_DS_copy_17 rfl (lv_at hl 0 rfl) ?_
    refine dw_getf (fi := 4) (v := .ref (a 5)) S hw i_DS ds_ob0 (by decide) rfl wd_139 rfl d_DS_copy_18 ?_
    refine lv_aload_n S.1 S.2.1 d_DS_copy_21 rfl (lv_at hl 0 rfl) ?_
    refine dw_getf (fi := 0) (v := .ref (a 1)) S hw i_DS ds_ob0 (by decide) rfl wd_135 rfl d_DS_copy_22 ?_
    refine dw_getN (fi := 1) (v := .int (nI (f 1 1))) S hw i_Day ds_ob1 (by decide) rfl hN wd_35 rfl d_DS_copy_25 ?_
    refine dw_aftv hw hA (dw_runVN (As := [.ref (a 5), .int (nI (f 1 1))]) (rest := []) (ko := 4) hw S ds_good (c_putLatest4 l D g a f (f 1 1) (hk) H.size) cw_Sh_putLatest hN wd_263 wd_265 ws_Sh_putLatest ds_ob4 dw_blind (dw_pre hw hN) rfl hl.1 rfl ⟨Nat.le_trans (Nat.le_of_ble_eq_true rfl) hR.1, Nat.le_trans (Nat.le_of_ble_eq_true rfl) hR.2⟩ (Nat.le_of_ble_eq_true rfl) ⟨Nat.zero_le _, Nat.zero_le _⟩ d_DS_copy_28) (fun f_1 H locs hp hw => ?_)
    obtain ⟨kk, dd, hkd, hsz, hsh, hnew, hnst, hoth⟩ := hp
    obtain ⟨e1, e2, e3⟩ : f 4 2 < 4 ∧ kk = f 4 2 ∧ dd = 0 := by rcases hkd with q | q; exact q; omega
    rw [e2, e3] at hsh
    rw [e2] at hsz hnew hnst
    refine lv_aload_n S.1 S.2.1 d_DS_copy_31 rfl (lv_at hl 0 rfl) ?_
    refine dw_getf (fi := 3) (v := .ref (a 4)) S hw i_DS ds_ob0 (by decide) rfl wd_138 rfl d_DS_copy_32 ?_
    refine dw_getN (fi := 2) (v := .int (nI (f_1 4 2))) S hw i_Sh ds_ob4 (by decide) rfl hN wd_127 rfl d_DS_copy_35 ?_
    refine lv_iconst (v := nI 1) S.1 S.2.1 d_DS_copy_38 (by decide) ?_
    refine dn_isub S.1 S.2.1 (by omega) d_DS_copy_39 ?_
    exact hret H locs _ ls _ _ hw (by rw [if_pos h_8]; exact ⟨by rw [hsz]; rfl, hsz, hsh, hnew, hnst, hoth⟩) d_DS_copy_40
  · refine lv_iconst (v := (-1)) S.1 S.2.1 d_DS_copy_11 (by decide) ?_
    exact hret H locs _ ls _ _ hw (by rw [if_neg (by omega)]; exact ⟨rfl, rfl⟩) d_DS_copy_12
set_option maxHeartbeats 4000000 in
set_option maxRecDepth 100000 in
theorem c_compare (l : Launch) (D : va_G) (g : Nat → ClassId) (a : Nat → Nat) (f : Nat → Nat → Nat) (x : Int32) (k : Int32) (hk : f 4 2 ≤ 4) (hks : ∀ j, j < f 4 2 → f 51 j ≤ 8 ∧ ∀ t, t < f 51 j → f (47 + j) t < 2 ^ 31 ∧ f 5 t < 2 ^ 31) : ds_I l D g a y_DS_compare b_DS_compare 5 .int 2 44 [.ref (a 0), .int x, .int k] f (fun r u => (if ds_in x (f 4 2) then r = ds_find (fun s => (ds_bits (fun s => f (47 + x.toNatClampNeg) s != f 5 s) (f 51 x.toNatClampNeg)).testBit s) k 8 0 0 else r = (-1)) ∧ u = f) := by
  refine dw_ofI (by decide) (fun _ _ _ => rfl) (Nat.le_of_ble_eq_true rfl) ?_
  intro p e s m args below meth c ls A Q R H locs hR hA S hN hw hl hret
  have hl : lv_has ls 5 [(0, .ref (a 0)), (1, .int x), (2, .int k)] := hl
  have S : CallFix p m c b_DS_compare 5 s args ds_T R_DS := S
  refine lv_iload_n S.1 S.2.1 d_DS_compare_0 rfl (lv_at hl 1 rfl) ?_
  refine lv_iconst (v := nI 0) S.1 S.2.1 d_DS_compare_1 (by decide) ?_
  refine lv_aload_n S.1 S.2.1 d_DS_compare_2 rfl (lv_at hl 0 rfl) ?_
  refine dw_getf (fi := 3) (v := .ref (a 4)) S hw i_DS ds_ob0 (by decide) rfl wd_138 rfl d_DS_compare_3 ?_
  refine dw_getN (fi := 2) (v := .int (nI (f 4 2))) S hw i_Sh ds_ob4 (by decide) rfl hN wd_127 rfl d_DS_compare_6 ?_
  refine lv_iconst (v := nI 1) S.1 S.2.1 d_DS_compare_9 (by decide) ?_
  refine lv_isub S.1 S.2.1 d_DS_compare_10 ?_
  refine dw_afti hw hA (dw_runS (As := [.int x, .int (nI 0), .int ((nI (f 4 2)) - (nI 1))]) (rest := []) S ds_good (c_isWithin l D g a f x (nI 0) ((nI (f 4 2)) - (nI 1)) H.size) cw_DS_isWithin wd_20 wd_21 dw_blind (dw_pre hw hN) rfl hl.1 rfl ⟨Nat.le_trans (Nat.le_of_ble_eq_true rfl) hR.1, Nat.le_trans (Nat.le_of_ble_eq_true rfl) hR.2⟩ (Nat.le_of_ble_eq_true rfl) ⟨Nat.zero_le _, Nat.zero_le _⟩ d_DS_compare_11) (fun r_11 f_1 H locs hp hw => ?_)
  obtain ⟨er, ef⟩ := hp
  subst er
  rw [ef] at hw
  refine dn_ifb_ne S.1 S.2.1 19 d_DS_compare_14 (by decide) (fun h_14 => ?_) (fun h_14 => ?_)
  · have h_15 := (ds_le_in3 (x := x) (n := f 4 2) (by omega)).mp h_14
    obtain ⟨ex1, hx1⟩ := ds_in_nI h_15
    have kb := hks _ hx1
    have hl : lv_has ls 5 [(0, .ref (a 0)), (1, .int (nI (x.toNatClampNeg))), (2, .int k)] := by have hl2 := hl; rw [ex1] at hl2; exact hl2
    refine lv_iconst (v := nI 0) S.1 S.2.1 d_DS_compare_19 (by decide) ?_
    refine lv_istore_n (lv' := [(3, .int (nI 0)), (0, .ref (a 0)), (1, .int (nI (x.toNatClampNeg))), (2, .int k)]) S.1 S.2.1 d_DS_compare_20 rfl hl (by decide) rfl (fun ls hl => ?_)
    refine lv_iconst (v := nI 0) S.1 S.2.1 d_DS_compare_21 (by decide) ?_
    refine lv_istore (lv' := [(4, .int (nI 0)), (3, .int (nI 0)), (0, .ref (a 0)), (1, .int (nI (x.toNatClampNeg))), (2, .int k)]) S.1 S.2.1 d_DS_compare_22 hl (by decide) rfl (fun ls hl => ?_)
    have loop_24 : ∀ (n : Nat) (t : Nat) (i : Nat) (hi : i ≤ f 51 x.toNatClampNeg) (et : t = ds_bits (fun s => f (47 + x.toNatClampNeg) s != f 5 s) i) (_ : f 51 x.toNatClampNeg - i < n) (H : Heap) (locs : List Loc), dw_W D classes (ds_tys g) A s.heap (dw_l 77 (ds_ce g a) a f) s H locs → ∀ (ls : Array Slot), lv_has ls 5 [(0, .ref (a 0)), (1, .int (nI (x.toNatClampNeg))), (2, .int k), (3, .int (nI t)), (4, .int (nI i))] → W p l e R s m args below meth c H locs 0 0 Q (F0 m 24 ls []) := by
      intro n
      induction n with
      | zero => intro t i hi et h9; exact absurd h9 (Nat.not_lt_zero _)
      | succ n ih_24 =>
        intro t i hi et hm_24 H locs hw ls hl
        refine lv_iload S.1 S.2.1 d_DS_compare_24 (lv_at hl 4 rfl) ?_
        refine lv_aload_n S.1 S.2.1 d_DS_compare_26 rfl (lv_at hl 0 rfl) ?_
        refine dw_getf (fi := 3) (v := .ref (a 4)) S hw i_DS ds_ob0 (by decide) rfl wd_138 rfl d_DS_compare_27 ?_
        refine dw_getN (fi := 1) (v := .ref (a 51)) S hw i_Sh ds_ob4 (by decide) rfl hN wd_125 rfl d_DS_compare_30 ?_
        refine lv_iload_n S.1 S.2.1 d_DS_compare_33 rfl (lv_at hl 1 rfl) ?_
        refine dw_iald S.1 S.2.1 hw ds_k51 (by omega) d_DS_compare_34 ?_
        refine dn_icmp_ge S.1 S.2.1 73 (by omega) (by omega) d_DS_compare_35 (by decide) (fun h_35 => ?_) (fun h_35 => ?_)
        · refine lv_iload_n S.1 S.2.1 d_DS_compare_73 rfl (lv_at hl 3 rfl) ?_
          refine lv_iload_n S.1 S.2.1 d_DS_compare_74 rfl (lv_at hl 2 rfl) ?_
          refine dw_afti hw hA (dw_runS (As := [.int (nI t), .int k]) (rest := []) S ds_good (c_stopAt l D g a f t k (by rw [et]; exact Nat.lt_trans (ds_bits_256 _ (by omega)) (by decide)) H.size) cw_DS_stopAt wd_303 wd_304 dw_blind (dw_pre hw hN) rfl hl.1 rfl ⟨Nat.le_trans (Nat.le_of_ble_eq_true rfl) hR.1, Nat.le_trans (Nat.le_of_ble_eq_true rfl) hR.2⟩ (Nat.le_of_ble_eq_true rfl) ⟨Nat.zero_le _, Nat.zero_le _⟩ d_DS_compare_75) (fun r_75 f_2 H locs hp hw => ?_)
          obtain ⟨er, ef⟩ := hp
          subst er
          rw [ef] at hw
          exact hret H locs _ ls _ _ hw (⟨by rw [if_pos h_15, et, show i = f 51 x.toNatClampNeg by omega], rfl⟩) d_DS_compare_78
        · have kt := kb.2 i h_35
          refine lv_aload_n S.1 S.2.1 d_DS_compare_38 rfl (lv_at hl 0 rfl) ?_
          refine dw_getf (fi := 3) (v := .ref (a 4)) S hw i_DS ds_ob0 (by decide) rfl wd_138 rfl d_DS_compare_39 ?_
          refine dw_getN (fi := 0) (v := .ref (a 46)) S hw i_Sh ds_ob4 (by decide) rfl hN wd_123 rfl d_DS_compare_42 ?_
          refine lv_iload_n S.1 S.2.1 d_DS_compare_45 rfl (lv_at hl 1 rfl) ?_
          refine dw_aald S.1 S.2.1 hw ds_k46 (by omega) d_DS_compare_46 ?_
          refine lv_iload S.1 S.2.1 d_DS_compare_47 (lv_at hl 4 rfl) ?_
          refine dw_iald S.1 S.2.1 hw (ds_k47 (by omega)) (by omega) d_DS_compare_49 ?_
          refine lv_aload_n S.1 S.2.1 d_DS_compare_50 rfl (lv_at hl 0 rfl) ?_
          refine dw_getf (fi := 4) (v := .ref (a 5)) S hw i_DS ds_ob0 (by decide) rfl wd_139 rfl d_DS_compare_51 ?_
          refine lv_iload S.1 S.2.1 d_DS_compare_54 (lv_at hl 4 rfl) ?_
          refine dw_iald S.1 S.2.1 hw ds_k5 (by omega) d_DS_compare_56 ?_
          refine dn_icmp_eq S.1 S.2.1 67 (by omega) (by omega) d_DS_compare_57 (by decide) (fun h_57 => ?_) (fun h_57 => ?_)
          · refine lv_iinc (v := nI (i + 1)) (lv' := [(4, .int (nI (i + 1))), (0, .ref (a 0)), (1, .int (nI (x.toNatClampNeg))), (2, .int k), (3, .int (nI t))]) S.1 S.2.1 d_DS_compare_67 hl (k := 4) rfl (by rw [show Int32.ofInt 1 = nI 1 from rfl, nI_add]) (by decide) rfl (fun ls hl => ?_)
            refine lv_goto (tgt := 24) S.1 S.2.1 d_DS_compare_70 (by decide) ?_
            exact ih_24 t (i + 1) (by omega) (by rw [et]; simp [ds_bits, h_57]) (by omega) H locs hw ls (lv_sub hl [1, 2, 3, 4, 0] rfl)
          · refine lv_iload_n S.1 S.2.1 d_DS_compare_60 rfl (lv_at hl 3 rfl) ?_
            refine lv_iconst (v := nI 1) S.1 S.2.1 d_DS_compare_61 (by decide) ?_
            refine lv_iload S.1 S.2.1 d_DS_compare_62 (lv_at hl 4 rfl) ?_
            refine dn_ishl S.1 S.2.1 (by omega) (ds_sh (by omega)) d_DS_compare_64 ?_
            refine dn_ior S.1 S.2.1 d_DS_compare_65 ?_
            refine lv_istore_n (lv' := [(3, .int (nI (t ||| (1 * 2 ^ i)))), (0, .ref (a 0)), (1, .int (nI (x.toNatClampNeg))), (2, .int k), (4, .int (nI i))]) S.1 S.2.1 d_DS_compare_66 rfl hl (by decide) rfl (fun ls hl => ?_)
            refine lv_iinc (v := nI (i + 1)) (lv' := [(4, .int (nI (i + 1))), (3, .int (nI (t ||| (1 * 2 ^ i)))), (0, .ref (a 0)), (1, .int (nI (x.toNatClampNeg))), (2, .int k)]) S.1 S.2.1 d_DS_compare_67 hl (k := 4) rfl (by rw [show Int32.ofInt 1 = nI 1 from rfl, nI_add]) (by decide) rfl (fun ls hl => ?_)
            refine lv_goto (tgt := 24) S.1 S.2.1 d_DS_compare_70 (by decide) ?_
            exact ih_24 (t ||| (1 * 2 ^ i)) (i + 1) (by omega) (by rw [et]; simp [ds_bits, h_57]) (by omega) H locs hw ls (lv_sub hl [2, 3, 4, 1, 0] rfl)
    exact loop_24 _ 0 0 (Nat.zero_le _) (rfl) (Nat.lt_succ_self _) H locs hw ls (lv_sub hl [2, 3, 4, 1, 0] rfl)
  · refine lv_iconst (v := (-1)) S.1 S.2.1 d_DS_compare_17 (by decide) ?_
    exact hret H locs _ ls _ _ hw (⟨by rw [if_neg (fun q => h_14 ((ds_le_in3 (by omega)).mpr q))], rfl⟩) d_DS_compare_18
set_option maxHeartbeats 4000000 in
set_option maxRecDepth 100000 in
theorem c_overtime (l : Launch) (D : va_G) (g : Nat → ClassId) (a : Nat → Nat) (f : Nat → Nat → Nat) (x : Int32) (ok : ds_ok f) : ds_I l D g a y_DS_overtime b_DS_overtime 2 .int 3 74 [.ref (a 0), .int x] f (fun r u => (if ds_in x (f 1 0) then r = nI (ds_tm f (fun z => Nat.testBit (ds_bits (fun s => f 5 s == x.toNatClampNeg) (f 1 1)) z) x.toNatClampNeg - f 19 x.toNatClampNeg) else r = (-1)) ∧ ∃ h : Nat → Nat, u = dw_su f 21 h) := by
  refine dw_ofI (by decide) (fun _ _ _ => rfl) (Nat.le_of_ble_eq_true rfl) ?_
  intro p e s m args below meth c ls A Q R H locs hR hA S hN hw hl hret
  have hl : lv_has ls 2 [(0, .ref (a 0)), (1, .int x)] := hl
  have S : CallFix p m c b_DS_overtime 2 s args ds_T R_DS := S
  obtain ⟨hV, hn, hex, hst, hve, hwy, hw0, hrw⟩ := id ok
  refine lv_aload_n S.1 S.2.1 d_DS_overtime_0 rfl (lv_at hl 0 rfl) ?_
  refine dw_getf (fi := 0) (v := .ref (a 1)) S hw i_DS ds_ob0 (by decide) rfl wd_135 rfl d_DS_overtime_1 ?_
  refine lv_iload_n S.1 S.2.1 d_DS_overtime_4 rfl (lv_at hl 1 rfl) ?_
  refine dw_afti hw hA (dw_runVN (As := [.int x]) (rest := []) (ko := 1) hw S ds_good (c_isVehicle l D g a f x (hV) H.size) cw_Day_isVehicle hN wd_161 wd_163 ws_Day_isVehicle ds_ob1 dw_blind (dw_pre hw hN) rfl hl.1 rfl ⟨Nat.le_trans (Nat.le_of_ble_eq_true rfl) hR.1, Nat.le_trans (Nat.le_of_ble_eq_true rfl) hR.2⟩ (Nat.le_of_ble_eq_true rfl) ⟨Nat.zero_le _, Nat.zero_le _⟩ d_DS_overtime_5) (fun r_5 f_1 H locs hp hw => ?_)
  obtain ⟨er, ef⟩ := hp
  subst er
  rw [ef] at hw
  refine dn_ifb_ne S.1 S.2.1 13 d_DS_overtime_8 (by decide) (fun h_8 => ?_) (fun h_8 => ?_)
  · obtain ⟨ex1, hx1⟩ := ds_in_nI h_8
    have hl : lv_has ls 2 [(0, .ref (a 0)), (1, .int (nI (x.toNatClampNeg)))] := by have hl2 := hl; rw [ex1] at hl2; exact hl2
    refine lv_aload_n S.1 S.2.1 d_DS_overtime_13 rfl (lv_at hl 0 rfl) ?_
    refine dw_getf (fi := 0) (v := .ref (a 1)) S hw i_DS ds_ob0 (by decide) rfl wd_135 rfl d_DS_overtime_14 ?_
    refine lv_iload_n S.1 S.2.1 d_DS_overtime_17 rfl (lv_at hl 1 rfl) ?_
    refine lv_aload_n S.1 S.2.1 d_DS_overtime_18 rfl (lv_at hl 0 rfl) ?_
    refine dw_getf (fi := 0) (v := .ref (a 1)) S hw i_DS ds_ob0 (by decide) rfl wd_135 rfl d_DS_overtime_19 ?_
    refine lv_iload_n S.1 S.2.1 d_DS_overtime_22 rfl (lv_at hl 1 rfl) ?_
    refine lv_aload_n S.1 S.2.1 d_DS_overtime_23 rfl (lv_at hl 0 rfl) ?_
    refine lv_iload_n S.1 S.2.1 d_DS_overtime_24 rfl (lv_at hl 1 rfl) ?_
    refine dw_afti hw hA (dw_runV (As := [.int (nI (x.toNatClampNeg))]) (rest := [.int (nI (x.toNatClampNeg)), .ref (a 1), .int (nI (x.toNatClampNeg)), .ref (a 1)]) (ko := 0) hw S ds_good (c_setOf l D g a f (x.toNatClampNeg) (hn) (by omega) (fun x hx => by have := hst x hx; omega) H.size) cw_DS_setOf wd_291 wd_293 ws_DS_setOf ds_ob0 dw_blind (dw_pre hw hN) rfl hl.1 rfl ⟨Nat.le_trans (Nat.le_of_ble_eq_true rfl) hR.1, Nat.le_trans (Nat.le_of_ble_eq_true rfl) hR.2⟩ (Nat.le_of_ble_eq_true rfl) ⟨Nat.zero_le _, Nat.zero_le _⟩ d_DS_overtime_25) (fun r_25 f_2 H locs hp hw => ?_)
    obtain ⟨er, ef⟩ := hp
    subst er
    rw [ef] at hw
    refine dw_afti hw hA (dw_runVN (As := [.int (nI (x.toNatClampNeg)), .int (nI (ds_bits (fun s => f 5 s == (x.toNatClampNeg)) (f 1 1)))]) (rest := [.int (nI (x.toNatClampNeg)), .ref (a 1)]) (ko := 1) hw S ds_good (c_timeOf l D g a f (x.toNatClampNeg) (ds_bits (fun s => f 5 s == (x.toNatClampNeg)) (f 1 1)) (ok) (hx1) (Nat.lt_trans (ds_bits_256 _ hn) (by decide)) H.size) cw_Day_timeOf hN wd_335 wd_236 ws_Day_timeOf ds_ob1 dw_blind (dw_pre hw hN) rfl hl.1 rfl ⟨Nat.le_trans (Nat.le_of_ble_eq_true rfl) hR.1, Nat.le_trans (Nat.le_of_ble_eq_true rfl) hR.2⟩ (Nat.le_of_ble_eq_true rfl) ⟨Nat.zero_le _, Nat.zero_le _⟩ d_DS_overtime_28) (fun r_28 f_3 H locs hp hw => ?_)
    obtain ⟨er, h, ef_3⟩ := hp
    subst er
    have ag : ∀ k, ¬ ds_scr k → f_3 k = f k := by rw [ef_3]; exact ds_su_agree (by unfold ds_scr; omega)
    have ok2 := ds_ok_congr ag ok
    have q1 : f_3 1 = f 1 := by rw [ef_3, dw_su_ne (by decide)]
    have q19 : f_3 19 = f 19 := by rw [ef_3, dw_su_ne (by decide)]
    have tb := ds_tm_b ok (fun z => Nat.testBit (ds_bits (fun s => f 5 s == x.toNatClampNeg) (f 1 1)) z) hx1
    have eF := ef_3
    refine dw_afti hw hA (dw_runVN (As := [.int (nI (x.toNatClampNeg)), .int (nI (ds_tm f (fun zz => Nat.testBit (ds_bits (fun s => f 5 s == (x.toNatClampNeg)) (f 1 1)) zz) (x.toNatClampNeg)))]) (rest := []) (ko := 1) hw S ds_good (c_overHours l D g a f_3 (x.toNatClampNeg) (ds_tm f (fun zz => Nat.testBit (ds_bits (fun s => f 5 s == (x.toNatClampNeg)) (f 1 1)) zz) (x.toNatClampNeg)) (ok2) (by rw [q1]; exact hx1) (by omega) H.size) cw_Day_overHours hN wd_336 wd_245 ws_Day_overHours ds_ob1 dw_blind (dw_pre hw hN) rfl hl.1 rfl ⟨Nat.le_trans (Nat.le_of_ble_eq_true rfl) hR.1, Nat.le_trans (Nat.le_of_ble_eq_true rfl) hR.2⟩ (Nat.le_of_ble_eq_true rfl) ⟨Nat.zero_le _, Nat.zero_le _⟩ d_DS_overtime_31) (fun r_31 f_4 H locs hp hw => ?_)
    obtain ⟨er, ef⟩ := hp
    subst er
    rw [ef] at hw
    exact hret H locs _ ls _ _ hw (⟨by rw [if_pos h_8, q19], h, eF⟩) d_DS_overtime_34
  · refine lv_iconst (v := (-1)) S.1 S.2.1 d_DS_overtime_11 (by decide) ?_
    exact hret H locs _ ls _ _ hw (⟨by rw [if_neg h_8], f 21, dw_su_self.symm⟩) d_DS_overtime_12
set_option maxHeartbeats 4000000 in
set_option maxRecDepth 100000 in
theorem c_cost (l : Launch) (D : va_G) (g : Nat → ClassId) (a : Nat → Nat) (f : Nat → Nat → Nat)  (ok : ds_ok f) : ds_L l D g a y_DS_cost b_DS_cost 5 3 74 [.ref (a 0)] f (fun r u => r = lN (ds_cost f (f 1 0)) ∧ ∃ h : Nat → Nat, u = dw_su f 21 h) := by
  refine dw_ofL (by decide) (Nat.le_of_ble_eq_true rfl) ?_
  intro p e s m args below meth c ls A Q R H locs hR hA S hN hw hl hret
  have hl : lv_has ls 5 [(0, .ref (a 0))] := hl
  have S : CallFix p m c b_DS_cost 5 s args ds_T R_DS := S
  obtain ⟨hV, hn, hex, hst, hve, hwy, hw0, hrw⟩ := id ok
  refine lv_lconst (v := lN 0) S.1 S.2.1 d_DS_cost_0 rfl ?_
  refine lv_lstore_n (lv' := [(1, .long (lN 0)), (0, .ref (a 0))]) S.1 S.2.1 d_DS_cost_1 rfl hl (by decide) rfl (fun ls hl => ?_)
  refine lv_iconst (v := nI 0) S.1 S.2.1 d_DS_cost_2 (by decide) ?_
  refine lv_istore_n (lv' := [(3, .int (nI 0)), (1, .long (lN 0)), (0, .ref (a 0))]) S.1 S.2.1 d_DS_cost_3 rfl hl (by decide) rfl (fun ls hl => ?_)
  have loop_4 : ∀ (n : Nat) (y : Nat) (v : Nat) (f2 : Nat → Nat → Nat) (h : Nat → Nat) (hv : v ≤ f 1 0) (ey : y = ds_cost f v) (hh : f2 = dw_su f 21 h) (_ : f 1 0 - v < n) (H : Heap) (locs : List Loc), dw_W D classes (ds_tys g) A s.heap (dw_l 77 (ds_ce g a) a f2) s H locs → ∀ (ls : Array Slot), lv_has ls 5 [(0, .ref (a 0)), (1, .long (lN y)), (3, .int (nI v))] → W p l e R s m args below meth c H locs 0 0 Q (F0 m 4 ls []) := by
    intro n
    induction n with
    | zero => intro y v f2 h hv ey hh h9; exact absurd h9 (Nat.not_lt_zero _)
    | succ n ih_4 =>
      intro y v f2 h hv ey hh hm_4 H locs hw ls hl
      have ag : ∀ k, ¬ ds_scr k → f2 k = f k := by rw [hh]; exact ds_su_agree (by unfold ds_scr; omega)
      have ok2 := ds_ok_congr ag ok
      have q1 : f2 1 = f 1 := by rw [hh, dw_su_ne (by decide)]
      have q5 : f2 5 = f 5 := by rw [hh, dw_su_ne (by decide)]
      have q10 : f2 1 0 = f 1 0 := by rw [q1]
      refine lv_iload_n S.1 S.2.1 d_DS_cost_4 rfl (lv_at hl 2 rfl) ?_
      refine lv_aload_n S.1 S.2.1 d_DS_cost_5 rfl (lv_at hl 0 rfl) ?_
      refine dw_getf (fi := 0) (v := .ref (a 1)) S hw i_DS ds_ob0 (by decide) rfl wd_135 rfl d_DS_cost_6 ?_
      refine dw_getN (fi := 0) (v := .int (nI (f2 1 0))) S hw i_Day ds_ob1 (by decide) rfl hN wd_34 rfl d_DS_cost_9 ?_
      refine dn_icmp_ge S.1 S.2.1 53 (by omega) (by omega) d_DS_cost_12 (by decide) (fun h_12 => ?_) (fun h_12 => ?_)
      · refine lv_lload_n S.1 S.2.1 d_DS_cost_53 rfl (lv_at hl 1 rfl) ?_
        exact hret H locs _ ls _ _ hw (⟨by rw [ey, show v = f 1 0 by omega], h, hh⟩) d_DS_cost_54
      · have hv2 : v < f 1 0 := by omega
        refine lv_aload_n S.1 S.2.1 d_DS_cost_15 rfl (lv_at hl 0 rfl) ?_
        refine dw_getf (fi := 0) (v := .ref (a 1)) S hw i_DS ds_ob0 (by decide) rfl wd_135 rfl d_DS_cost_16 ?_
        refine lv_iload_n S.1 S.2.1 d_DS_cost_19 rfl (lv_at hl 2 rfl) ?_
        refine lv_aload_n S.1 S.2.1 d_DS_cost_20 rfl (lv_at hl 0 rfl) ?_
        refine lv_iload_n S.1 S.2.1 d_DS_cost_21 rfl (lv_at hl 2 rfl) ?_
        refine dw_afti hw hA (dw_runV (As := [.int (nI v)]) (rest := [.int (nI v), .ref (a 1)]) (ko := 0) hw S ds_good (c_setOf l D g a f2 v (by rw [q1]; exact hn) (by omega) (fun x hx => by rw [q1] at hx; rw [q5]; have := hst x hx; omega) H.size) cw_DS_setOf wd_291 wd_293 ws_DS_setOf ds_ob0 dw_blind (dw_pre hw hN) rfl hl.1 rfl ⟨Nat.le_trans (Nat.le_of_ble_eq_true rfl) hR.1, Nat.le_trans (Nat.le_of_ble_eq_true rfl) hR.2⟩ (Nat.le_of_ble_eq_true rfl) ⟨Nat.zero_le _, Nat.zero_le _⟩ d_DS_cost_22) (fun r_22 f_1 H locs hp hw => ?_)
        obtain ⟨er, ef⟩ := hp
        subst er
        rw [ef] at hw
        refine dw_afti hw hA (dw_runVN (As := [.int (nI v), .int (nI (ds_bits (fun s => f2 5 s == v) (f2 1 1)))]) (rest := []) (ko := 1) hw S ds_good (c_timeOf l D g a f2 v (ds_bits (fun s => f2 5 s == v) (f2 1 1)) (ok2) (by rw [q1]; exact hv2) (Nat.lt_trans (ds_bits_256 _ (by rw [q1]; exact hn)) (by decide)) H.size) cw_Day_timeOf hN wd_335 wd_236 ws_Day_timeOf ds_ob1 dw_blind (dw_pre hw hN) rfl hl.1 rfl ⟨Nat.le_trans (Nat.le_of_ble_eq_true rfl) hR.1, Nat.le_trans (Nat.le_of_ble_eq_true rfl) hR.2⟩ (Nat.le_of_ble_eq_true rfl) ⟨Nat.zero_le _, Nat.zero_le _⟩ d_DS_cost_25) (fun r_25 f_2 H locs hp hw => ?_)
        obtain ⟨er, h, ef_2⟩ := hp
        subst er
        refine ds_topi (w := nI (ds_tm f (fun z => Nat.testBit (ds_bits (fun s => f 5 s == v) (f 1 1)) z) v)) (by rw [q5, q1, ds_tm_congr ag ok _ hv2]) ?_
        have h3 := h
        obtain ⟨h3, e3⟩ : ∃ z, z = h := ⟨_, rfl⟩
        have eG : f_2 = dw_su f 21 h3 := by rw [e3, ef_2, hh]; funext k; by_cases ek : k = 21; rw [ek, dw_su_eq, dw_su_eq]; rw [dw_su_ne ek, dw_su_ne ek, dw_su_ne ek]
        have ag2 : ∀ k, ¬ ds_scr k → f_2 k = f k := by rw [eG]; exact ds_su_agree (by unfold ds_scr; omega)
        have ok3 := ds_ok_congr ag2 ok
        have w1 : f_2 1 = f 1 := by rw [eG, dw_su_ne (by decide)]
        have w19 : f_2 19 = f 19 := by rw [eG, dw_su_ne (by decide)]
        have tb := ds_tm_b ok (fun z => Nat.testBit (ds_bits (fun s => f 5 s == v) (f 1 1)) z) hv2
        refine lv_istore (lv' := [(4, .int (nI (ds_tm f (fun z => Nat.testBit (ds_bits (fun s => f 5 s == v) (f 1 1)) z) v))), (0, .ref (a 0)), (1, .long (lN y)), (3, .int (nI v))]) S.1 S.2.1 d_DS_cost_28 hl (by decide) rfl (fun ls hl => ?_)
        refine lv_lload_n S.1 S.2.1 d_DS_cost_30 rfl (lv_at hl 2 rfl) ?_
        refine lv_iload S.1 S.2.1 d_DS_cost_31 (lv_at hl 0 rfl) ?_
        refine lv_aload_n S.1 S.2.1 d_DS_cost_33 rfl (lv_at hl 1 rfl) ?_
        refine dw_getf (fi := 0) (v := .ref (a 1)) S hw i_DS ds_ob0 (by decide) rfl wd_135 rfl d_DS_cost_34 ?_
        refine lv_iload_n S.1 S.2.1 d_DS_cost_37 rfl (lv_at hl 3 rfl) ?_
        refine lv_iload S.1 S.2.1 d_DS_cost_38 (lv_at hl 0 rfl) ?_
        refine dw_afti hw hA (dw_runVN (As := [.int (nI v), .int (nI (ds_tm f (fun z => Nat.testBit (ds_bits (fun s => f 5 s == v) (f 1 1)) z) v))]) (rest := [.int (nI (ds_tm f (fun z => Nat.testBit (ds_bits (fun s => f 5 s == v) (f 1 1)) z) v)), .long (lN y)]) (ko := 1) hw S ds_good (c_overHours l D g a f_2 v (ds_tm f (fun z => Nat.testBit (ds_bits (fun s => f 5 s == v) (f 1 1)) z) v) (ok3) (by rw [w1]; exact hv2) (by omega) H.size) cw_Day_overHours hN wd_336 wd_245 ws_Day_overHours ds_ob1 dw_blind (dw_pre hw hN) rfl hl.1 rfl ⟨Nat.le_trans (Nat.le_of_ble_eq_true rfl) hR.1, Nat.le_trans (Nat.le_of_ble_eq_true rfl) hR.2⟩ (Nat.le_of_ble_eq_true rfl) ⟨Nat.zero_le _, Nat.zero_le _⟩ d_DS_cost_40) (fun r_40 f_3 H locs hp hw => ?_)
        obtain ⟨er, ef⟩ := hp
        subst er
        rw [ef] at hw
        refine ds_topi (w := nI (ds_tm f (fun z => Nat.testBit (ds_bits (fun s => f 5 s == v) (f 1 1)) z) v - f 19 v)) (by rw [w19]) ?_
        refine dn_iadd S.1 S.2.1 d_DS_cost_43 ?_
        refine dn_i2l S.1 S.2.1 (by omega) d_DS_cost_44 ?_
        refine dn_ladd S.1 S.2.1 d_DS_cost_45 ?_
        refine lv_lstore_n (lv' := [(1, .long (lN (y + ((ds_tm f (fun z => Nat.testBit (ds_bits (fun s => f 5 s == v) (f 1 1)) z) v) + (ds_tm f (fun z => Nat.testBit (ds_bits (fun s => f 5 s == v) (f 1 1)) z) v - f 19 v))))), (4, .int (nI (ds_tm f (fun z => Nat.testBit (ds_bits (fun s => f 5 s == v) (f 1 1)) z) v))), (0, .ref (a 0)), (3, .int (nI v))]) S.1 S.2.1 d_DS_cost_46 rfl hl (by decide) rfl (fun ls hl => ?_)
        refine lv_iinc (v := nI (v + 1)) (lv' := [(3, .int (nI (v + 1))), (1, .long (lN (y + ((ds_tm f (fun z => Nat.testBit (ds_bits (fun s => f 5 s == v) (f 1 1)) z) v) + (ds_tm f (fun z => Nat.testBit (ds_bits (fun s => f 5 s == v) (f 1 1)) z) v - f 19 v))))), (4, .int (nI (ds_tm f (fun z => Nat.testBit (ds_bits (fun s => f 5 s == v) (f 1 1)) z) v))), (0, .ref (a 0))]) S.1 S.2.1 d_DS_cost_47 hl (k := 3) rfl (by rw [show Int32.ofInt 1 = nI 1 from rfl, nI_add]) (by decide) rfl (fun ls hl => ?_)
        refine lv_goto (tgt := 4) S.1 S.2.1 d_DS_cost_50 (by decide) ?_
        exact ih_4 (y + ((ds_tm f (fun z => Nat.testBit (ds_bits (fun s => f 5 s == v) (f 1 1)) z) v) + (ds_tm f (fun z => Nat.testBit (ds_bits (fun s => f 5 s == v) (f 1 1)) z) v - f 19 v))) (v + 1) f_2 h3 (by omega) (by rw [ey]; rfl) (eG) (by omega) H locs hw ls (lv_sub hl [3, 1, 0] rfl)
  exact loop_4 _ 0 0 f (f 21) (Nat.zero_le _) (rfl) (dw_su_self.symm) (Nat.lt_succ_self _) H locs hw ls (lv_sub hl [2, 1, 0] rfl)
end
section
/-! run and next -/
set_option maxHeartbeats 4000000 in
set_option maxRecDepth 100000 in
theorem c_run (l : Launch) (D : va_G) (g : Nat → ClassId) (a : Nat → Nat) (f : Nat → Nat → Nat)  (ok : ds_ok f) (hk : f 3 2 ≤ 6) : ds_I l D g a y_DS_run b_DS_run 4 .int 5 123 [.ref (a 0)] f (fun r u => if ds_best f < 1152921504606846976 then r = nI (ds_cnt (fun x => u 5 x != f 10 x) (f 1 1)) ∧ (∀ x, x < f 1 1 → u 5 x = ds_best f / 2 ^ (2 * (7 - x)) &&& 3) ∧ (∃ kk dd : Nat, ((f 3 2 < 6 ∧ kk = f 3 2 ∧ dd = 0) ∨ (f 3 2 = 6 ∧ kk = 5 ∧ dd = 1)) ∧ u 3 2 = kk + 1 ∧ (∀ j, j < kk → (∀ t, t < 8 → u (39 + j) t = f (39 + (j + dd)) t) ∧ u 45 j = f 45 (j + dd)) ∧ (∀ t, t < 8 → u (39 + kk) t = f 5 t) ∧ u 45 kk = f 1 1) ∧ (∀ k, k ≠ 3 → k ≠ 5 → k ≠ 21 → k ≠ 45 → k ≠ 52 → k ≠ 53 → ¬ (39 ≤ k ∧ k < 45) → u k = f k) else r = ds_why f ∧ ∀ k, k ≠ 21 → k ≠ 52 → k ≠ 53 → u k = f k) := by
  refine dw_ofI (by decide) (fun _ _ _ => rfl) (Nat.le_of_ble_eq_true rfl) ?_
  intro p e s m args below meth c ls A Q R H locs hR hA S hN hw hl hret
  have hl : lv_has ls 4 [(0, .ref (a 0))] := hl
  have S : CallFix p m c b_DS_run 4 s args ds_T R_DS := S
  obtain ⟨hV, hn, hex, hst, hve, hwy, hw0, hrw⟩ := id ok
  have bb := ds_best_b ok
  refine lv_aload_n S.1 S.2.1 d_DS_run_0 rfl (lv_at hl 0 rfl) ?_
  refine dw_getf (fi := 1) (v := .ref (a 2)) S hw i_DS ds_ob0 (by decide) rfl wd_136 rfl d_DS_run_1 ?_
  refine dw_aftl hw hA (dw_runVN (As := []) (rest := []) (ko := 2) hw S ds_good (c_least l D g a f (ok) H.size) cw_Se_least hN wd_210 wd_212 ws_Se_least ds_ob2 dw_blind (dw_pre hw hN) rfl hl.1 rfl ⟨Nat.le_trans (Nat.le_of_ble_eq_true rfl) hR.1, Nat.le_trans (Nat.le_of_ble_eq_true rfl) hR.2⟩ (Nat.le_of_ble_eq_true rfl) ⟨Nat.zero_le _, Nat.zero_le _⟩ d_DS_run_4) (fun r_4 f_1 H locs hp hw => ?_)
  obtain ⟨er, ef_1⟩ := hp
  subst er
  refine ds_topl (w := lN (ds_best f)) (rfl) ?_
  have ag : ∀ k, ¬ ds_scr k → f_1 k = f k := fun k hk => ef_1 k (fun e => hk (by rw [e]; unfold ds_scr; omega)) (fun e => hk (by rw [e]; unfold ds_scr; omega)) (fun e => hk (by rw [e]; unfold ds_scr; omega))
  have ok1 := ds_ok_congr ag ok
  have g1 : f_1 1 = f 1 := ef_1 1 (by decide) (by decide) (by decide)
  have g3 : f_1 3 = f 3 := ef_1 3 (by decide) (by decide) (by decide)
  refine lv_lstore_n (lv' := [(1, .long (lN (ds_best f))), (0, .ref (a 0))]) S.1 S.2.1 d_DS_run_7 rfl hl (by decide) rfl (fun ls hl => ?_)
  refine lv_lload_n S.1 S.2.1 d_DS_run_8 rfl (lv_at hl 0 rfl) ?_
  refine lv_ldc2 (v := lN 1152921504606846976) S.1 S.2.1 S.2.2.2.1 (S.2.2.2.2 _ wd_257) d_DS_run_9 ?_
  refine dn_lcmp_lt S.1 S.2.1 21 (by omega) (by decide) d_DS_run_12 d_DS_run_13 (by decide) (fun h_12 => ?_) (fun h_12 => ?_)
  · refine lv_aload_n S.1 S.2.1 d_DS_run_21 rfl (lv_at hl 1 rfl) ?_
    refine dw_getf (fi := 2) (v := .ref (a 3)) S hw i_DS ds_ob0 (by decide) rfl wd_137 rfl d_DS_run_22 ?_
    refine lv_aload_n S.1 S.2.1 d_DS_run_25 rfl (lv_at hl 1 rfl) ?_
    refine dw_getf (fi := 4) (v := .ref (a 5)) S hw i_DS ds_ob0 (by decide) rfl wd_139 rfl d_DS_run_26 ?_
    refine lv_aload_n S.1 S.2.1 d_DS_run_29 rfl (lv_at hl 1 rfl) ?_
    refine dw_getf (fi := 0) (v := .ref (a 1)) S hw i_DS ds_ob0 (by decide) rfl wd_135 rfl d_DS_run_30 ?_
    refine dw_getN (fi := 1) (v := .int (nI (f_1 1 1))) S hw i_Day ds_ob1 (by decide) rfl hN wd_35 rfl d_DS_run_33 ?_
    refine dw_aftv hw hA (dw_runVN (As := [.ref (a 5), .int (nI (f_1 1 1))]) (rest := []) (ko := 3) hw S ds_good (c_putLatest3 l D g a f_1 (f_1 1 1) (by rw [g3]; exact hk) H.size) cw_Sh_putLatest hN wd_263 wd_265 ws_Sh_putLatest ds_ob3 dw_blind (dw_pre hw hN) rfl hl.1 rfl ⟨Nat.le_trans (Nat.le_of_ble_eq_true rfl) hR.1, Nat.le_trans (Nat.le_of_ble_eq_true rfl) hR.2⟩ (Nat.le_of_ble_eq_true rfl) ⟨Nat.zero_le _, Nat.zero_le _⟩ d_DS_run_36) (fun f_2 H locs hp hw => ?_)
    obtain ⟨kk, dd, hkd, hsz, hsh, hnew, hnst, hoth⟩ := hp
    refine lv_iconst (v := nI 0) S.1 S.2.1 d_DS_run_39 (by decide) ?_
    refine lv_istore_n (lv' := [(3, .int (nI 0)), (1, .long (lN (ds_best f))), (0, .ref (a 0))]) S.1 S.2.1 d_DS_run_40 rfl hl (by decide) rfl (fun ls hl => ?_)
    have loop_41 : ∀ (n : Nat) (i : Nat) (f2 : Nat → Nat → Nat) (hi : i ≤ f 1 1) (hU : ∀ x, x < i → f2 5 x = ds_best f / 2 ^ (2 * (7 - x)) &&& 3) (hg : ∀ k, k ≠ 5 → f2 k = f_2 k) (_ : f 1 1 - i < n) (H : Heap) (locs : List Loc), dw_W D classes (ds_tys g) A s.heap (dw_l 77 (ds_ce g a) a f2) s H locs → ∀ (ls : Array Slot), lv_has ls 4 [(0, .ref (a 0)), (1, .long (lN (ds_best f))), (3, .int (nI i))] → W p l e R s m args below meth c H locs 0 0 Q (F0 m 41 ls []) := by
      intro n
      induction n with
      | zero => intro i f2 hi hU hg h9; exact absurd h9 (Nat.not_lt_zero _)
      | succ n ih_41 =>
        intro i f2 hi hU hg hm_41 H locs hw ls hl
        have q11 : f2 1 1 = f 1 1 := by rw [hg 1 (by decide), hoth 1 (by decide) (by decide) (by decide), g1]
        have q10 : f2 10 = f 10 := by rw [hg 10 (by decide), hoth 10 (by decide) (by decide) (by decide), ef_1 10 (by decide) (by decide) (by decide)]
        refine lv_iload_n S.1 S.2.1 d_DS_run_41 rfl (lv_at hl 2 rfl) ?_
        refine lv_aload_n S.1 S.2.1 d_DS_run_42 rfl (lv_at hl 0 rfl) ?_
        refine dw_getf (fi := 0) (v := .ref (a 1)) S hw i_DS ds_ob0 (by decide) rfl wd_135 rfl d_DS_run_43 ?_
        refine dw_getN (fi := 1) (v := .int (nI (f2 1 1))) S hw i_Day ds_ob1 (by decide) rfl hN wd_35 rfl d_DS_run_46 ?_
        refine dn_icmp_ge S.1 S.2.1 69 (by omega) (by omega) d_DS_run_49 (by decide) (fun h_49 => ?_) (fun h_49 => ?_)
        · refine lv_aload_n S.1 S.2.1 d_DS_run_69 rfl (lv_at hl 0 rfl) ?_
          refine dw_afti hw hA (dw_runV (As := []) (rest := []) (ko := 0) hw S ds_good (c_movedSet l D g a f2 (by omega) (fun x hx => by rw [hU x (by omega), q10]; exact ⟨Nat.lt_of_le_of_lt Nat.and_le_right (by decide), by have := hrw.2 x (by omega); omega⟩) H.size) cw_DS_movedSet wd_273 wd_275 ws_DS_movedSet ds_ob0 dw_blind (dw_pre hw hN) rfl hl.1 rfl ⟨Nat.le_trans (Nat.le_of_ble_eq_true rfl) hR.1, Nat.le_trans (Nat.le_of_ble_eq_true rfl) hR.2⟩ (Nat.le_of_ble_eq_true rfl) ⟨Nat.zero_le _, Nat.zero_le _⟩ d_DS_run_70) (fun r_70 f_3 H locs hp hw => ?_)
          obtain ⟨er, ef⟩ := hp
          subst er
          rw [ef] at hw
          refine dw_afti hw hA (dw_runS (As := [.int (nI (ds_bits (fun s => f2 5 s != f2 10 s) (f2 1 1)))]) (rest := []) S ds_good (c_bitCount l D g a f2 (ds_bits (fun s => f2 5 s != f2 10 s) (f2 1 1)) (ds_bits_256 _ (by omega)) H.size) cw_In_bitCount wd_277 wd_278 dw_blind (dw_pre hw hN) rfl hl.1 rfl ⟨Nat.le_trans (Nat.le_of_ble_eq_true rfl) hR.1, Nat.le_trans (Nat.le_of_ble_eq_true rfl) hR.2⟩ (Nat.le_of_ble_eq_true rfl) ⟨Nat.zero_le _, Nat.zero_le _⟩ d_DS_run_73) (fun r_73 f_4 H locs hp hw => ?_)
          obtain ⟨er, ef⟩ := hp
          subst er
          rw [ef] at hw
          exact hret H locs _ ls _ _ hw (by
    rw [if_pos h_12]
    refine ⟨?_, fun x hx => hU x (by omega), ⟨kk, dd, by rw [g3] at hkd; exact hkd, by rw [hg 3 (by decide)]; exact hsz, fun j hj => ⟨fun t ht => ?_, ?_⟩, fun t ht => ?_, ?_⟩, fun k k1 k2 k3 k4 k5 k6 k7 => ?_⟩
    · rw [ds_cnt_bits _ (by omega), q10, q11]
    · rw [hg (39 + j) (by omega), (hsh j hj).1 t ht, ef_1 (39 + (j + dd)) (by omega) (by omega) (by omega)]
    · rw [hg 45 (by decide), (hsh j hj).2, ef_1 45 (by decide) (by decide) (by decide)]
    · rw [hg (39 + kk) (by omega), hnew t ht, ef_1 5 (by decide) (by decide) (by decide)]
    · rw [hg 45 (by decide), hnst, g1]
    · rw [hg k k2, hoth k k1 k4 k7, ef_1 k k3 k5 k6]) d_DS_run_76
        · refine lv_aload_n S.1 S.2.1 d_DS_run_52 rfl (lv_at hl 0 rfl) ?_
          refine dw_getf (fi := 4) (v := .ref (a 5)) S hw i_DS ds_ob0 (by decide) rfl wd_139 rfl d_DS_run_53 ?_
          refine lv_iload_n S.1 S.2.1 d_DS_run_56 rfl (lv_at hl 2 rfl) ?_
          refine lv_lload_n S.1 S.2.1 d_DS_run_57 rfl (lv_at hl 1 rfl) ?_
          refine lv_iload_n S.1 S.2.1 d_DS_run_58 rfl (lv_at hl 2 rfl) ?_
          refine dw_afti hw hA (dw_runSN (As := [.long (lN (ds_best f)), .int (nI i)]) (rest := [.int (nI i), .ref (a 5)]) S ds_good (c_vehicleIn l D g a f2 (ds_best f) i (by omega) (by omega) H.size) cw_Se_vehicleIn hN wd_270 wd_271 dw_blind (dw_pre hw hN) rfl hl.1 rfl ⟨Nat.le_trans (Nat.le_of_ble_eq_true rfl) hR.1, Nat.le_trans (Nat.le_of_ble_eq_true rfl) hR.2⟩ (Nat.le_of_ble_eq_true rfl) ⟨Nat.zero_le _, Nat.zero_le _⟩ d_DS_run_59) (fun r_59 f_5 H locs hp hw => ?_)
          obtain ⟨er, ef⟩ := hp
          subst er
          rw [ef] at hw
          refine dw_iast S.1 S.2.1 hw ds_k5 (by omega) d_DS_run_62 (fun f_6 H locs ef_6 hw => ?_)
          refine lv_iinc (v := nI (i + 1)) (lv' := [(3, .int (nI (i + 1))), (0, .ref (a 0)), (1, .long (lN (ds_best f)))]) S.1 S.2.1 d_DS_run_63 hl (k := 2) rfl (by rw [show Int32.ofInt 1 = nI 1 from rfl, nI_add]) (by decide) rfl (fun ls hl => ?_)
          refine lv_goto (tgt := 41) S.1 S.2.1 d_DS_run_66 (by decide) ?_
          exact ih_41 (i + 1) f_6 (by omega) (fun x hx => by
    rw [ef_6, dw_w_eq]
    by_cases ex : x = i
    · rw [ex, dw_up_eq]
    · rw [dw_up_ne ex]; exact hU x (by omega)) (fun k k1 => by rw [ef_6, dw_w_ne k1]; exact hg k k1) (by omega) H locs hw ls (lv_sub hl [1, 2, 0] rfl)
    exact loop_41 _ 0 f_2 (Nat.zero_le _) (fun x hx => absurd hx (Nat.not_lt_zero _)) (fun _ _ => rfl) (Nat.lt_succ_self _) H locs hw ls (lv_sub hl [2, 1, 0] rfl)
  · refine lv_aload_n S.1 S.2.1 d_DS_run_16 rfl (lv_at hl 1 rfl) ?_
    refine dw_afti hw hA (dw_runV (As := []) (rest := []) (ko := 0) hw S ds_good (c_whyNoPlan l D g a f_1 (ok1) H.size) cw_DS_whyNoPlan wd_258 wd_260 ws_DS_whyNoPlan ds_ob0 dw_blind (dw_pre hw hN) rfl hl.1 rfl ⟨Nat.le_trans (Nat.le_of_ble_eq_true rfl) hR.1, Nat.le_trans (Nat.le_of_ble_eq_true rfl) hR.2⟩ (Nat.le_of_ble_eq_true rfl) ⟨Nat.zero_le _, Nat.zero_le _⟩ d_DS_run_17) (fun r_17 f_7 H locs hp hw => ?_)
    obtain ⟨er, ef⟩ := hp
    subst er
    rw [ef] at hw
    refine ds_topi (w := ds_why f) (show ds_why f_1 = ds_why f from ds_why_congr ag) ?_
    exact hret H locs _ ls _ _ hw (by rw [if_neg (by omega)]; exact ⟨rfl, ef_1⟩) d_DS_run_20
set_option maxHeartbeats 4000000 in
set_option maxRecDepth 100000 in
theorem c_next (l : Launch) (D : va_G) (g : Nat → ClassId) (a : Nat → Nat) (f : Nat → Nat → Nat)  (ok : ds_ok f) : ds_I l D g a y_DS_next b_DS_next 3 .int 3 72 [.ref (a 0)] f (fun r u => r = nI (ds_cnt (fun x => f 5 x == f 1 0) (f 1 1)) ∧ (∀ v, v < f 1 0 → u 15 v = (ds_nl f v).length ∧ u 18 v = 8 ∧ ∀ r, r < (ds_nl f v).length → u (22 + v) r = (ds_nl f v).getD r 0 ∧ u 10 ((ds_nl f v).getD r 0) = v ∧ u 11 ((ds_nl f v).getD r 0) = r) ∧ (∀ x, x < f 1 1 → u 12 x = 0 ∧ u 13 x = 0 ∧ u 5 x = u 10 x) ∧ u 3 2 = 0 ∧ u 4 2 = 0 ∧ ∀ k, k ≠ 3 → k ≠ 4 → k ≠ 5 → k ≠ 10 → k ≠ 11 → k ≠ 12 → k ≠ 13 → k ≠ 15 → k ≠ 17 → k ≠ 18 → ¬ (22 ≤ k ∧ k < 28) → u k = f k) := by
  refine dw_ofI (by decide) (fun _ _ _ => rfl) (Nat.le_of_ble_eq_true rfl) ?_
  intro p e s m args below meth c ls A Q R H locs hR hA S hN hw hl hret
  have hl : lv_has ls 3 [(0, .ref (a 0))] := hl
  have S : CallFix p m c b_DS_next 3 s args ds_T R_DS := S
  obtain ⟨hV, hn, hex, hst, hve, hwy, hw0, hrw⟩ := id ok
  refine lv_aload_n S.1 S.2.1 d_DS_next_0 rfl (lv_at hl 0 rfl) ?_
  refine lv_aload_n S.1 S.2.1 d_DS_next_1 rfl (lv_at hl 0 rfl) ?_
  refine dw_getf (fi := 0) (v := .ref (a 1)) S hw i_DS ds_ob0 (by decide) rfl wd_135 rfl d_DS_next_2 ?_
  refine dw_getN (fi := 0) (v := .int (nI (f 1 0))) S hw i_Day ds_ob1 (by decide) rfl hN wd_34 rfl d_DS_next_5 ?_
  refine dw_afti hw hA (dw_runV (As := [.int (nI (f 1 0))]) (rest := []) (ko := 0) hw S ds_good (c_setOf l D g a f (f 1 0) (hn) (by omega) (fun x hx => by have := hst x hx; omega) H.size) cw_DS_setOf wd_291 wd_293 ws_DS_setOf ds_ob0 dw_blind (dw_pre hw hN) rfl hl.1 rfl ⟨Nat.le_trans (Nat.le_of_ble_eq_true rfl) hR.1, Nat.le_trans (Nat.le_of_ble_eq_true rfl) hR.2⟩ (Nat.le_of_ble_eq_true rfl) ⟨Nat.zero_le _, Nat.zero_le _⟩ d_DS_next_8) (fun r_8 f_1 H locs hp hw => ?_)
  obtain ⟨er, ef⟩ := hp
  subst er
  rw [ef] at hw
  refine dw_afti hw hA (dw_runS (As := [.int (nI (ds_bits (fun s => f 5 s == (f 1 0)) (f 1 1)))]) (rest := []) S ds_good (c_bitCount l D g a f (ds_bits (fun s => f 5 s == (f 1 0)) (f 1 1)) (ds_bits_256 _ hn) H.size) cw_In_bitCount wd_277 wd_278 dw_blind (dw_pre hw hN) rfl hl.1 rfl ⟨Nat.le_trans (Nat.le_of_ble_eq_true rfl) hR.1, Nat.le_trans (Nat.le_of_ble_eq_true rfl) hR.2⟩ (Nat.le_of_ble_eq_true rfl) ⟨Nat.zero_le _, Nat.zero_le _⟩ d_DS_next_11) (fun r_11 f_2 H locs hp hw => ?_)
  obtain ⟨er, ef⟩ := hp
  subst er
  rw [ef] at hw
  refine ds_topi (w := nI (ds_cnt (fun x => f 5 x == f 1 0) (f 1 1))) (by rw [ds_cnt_bits _ hn]) ?_
  refine lv_istore_n (lv' := [(1, .int (nI (ds_cnt (fun x => f 5 x == f 1 0) (f 1 1)))), (0, .ref (a 0))]) S.1 S.2.1 d_DS_next_14 rfl hl (by decide) rfl (fun ls hl => ?_)
  refine lv_iconst (v := nI 0) S.1 S.2.1 d_DS_next_15 (by decide) ?_
  refine lv_istore_n (lv' := [(2, .int (nI 0)), (1, .int (nI (ds_cnt (fun x => f 5 x == f 1 0) (f 1 1)))), (0, .ref (a 0))]) S.1 S.2.1 d_DS_next_16 rfl hl (by decide) rfl (fun ls hl => ?_)
  have loop_17 : ∀ (n : Nat) (v : Nat) (f2 : Nat → Nat → Nat) (hv : v ≤ f 1 0) (hPr : ds_prep f f2 v) (_ : f 1 0 - v < n) (H : Heap) (locs : List Loc), dw_W D classes (ds_tys g) A s.heap (dw_l 77 (ds_ce g a) a f2) s H locs → ∀ (ls : Array Slot), lv_has ls 3 [(0, .ref (a 0)), (1, .int (nI (ds_cnt (fun x => f 5 x == f 1 0) (f 1 1)))), (2, .int (nI v))] → W p l e R s m args below meth c H locs 0 0 Q (F0 m 17 ls []) := by
    intro n
    induction n with
    | zero => intro v f2 hv hPr h9; exact absurd h9 (Nat.not_lt_zero _)
    | succ n ih_17 =>
      intro v f2 hv hPr hm_17 H locs hw ls hl
      have q1 : f2 1 = f 1 := hPr.2 1 (by decide) (by decide)
      have q5 : f2 5 = f 5 := hPr.2 5 (by decide) (by decide)
      have q10 : f2 1 0 = f 1 0 := by rw [q1]
      have ag : ∀ k, ¬ ds_scr k → f2 k = f k := fun k hk => hPr.2 k (fun e => hk (by rw [e]; unfold ds_scr; omega)) (fun e => hk (by unfold ds_scr; omega))
      have ok2 := ds_ok_congr ag ok
      refine lv_iload_n S.1 S.2.1 d_DS_next_17 rfl (lv_at hl 2 rfl) ?_
      refine lv_aload_n S.1 S.2.1 d_DS_next_18 rfl (lv_at hl 0 rfl) ?_
      refine dw_getf (fi := 0) (v := .ref (a 1)) S hw i_DS ds_ob0 (by decide) rfl wd_135 rfl d_DS_next_19 ?_
      refine dw_getN (fi := 0) (v := .int (nI (f2 1 0))) S hw i_Day ds_ob1 (by decide) rfl hN wd_34 rfl d_DS_next_22 ?_
      refine dn_icmp_ge S.1 S.2.1 58 (by omega) (by omega) d_DS_next_25 (by decide) (fun h_25 => ?_) (fun h_25 => ?_)
      · have hPr2 : ds_prep f f2 (f 1 0) := by rw [← show v = f 1 0 by omega]; exact hPr
        refine lv_aload_n S.1 S.2.1 d_DS_next_58 rfl (lv_at hl 0 rfl) ?_
        refine dw_getf (fi := 0) (v := .ref (a 1)) S hw i_DS ds_ob0 (by decide) rfl wd_135 rfl d_DS_next_59 ?_
        refine dw_aftv hw hA (dw_runVN (As := []) (rest := []) (ko := 1) hw S ds_good (c_turn l D g a f2 (by rw [q1]; omega) (by rw [q1]; exact hn) (fun v2 r h1 h2 => by rw [q1] at h1; obtain ⟨z1, z2⟩ := ds_prep_at hPr2 h1 h2; have z3 := ds_nl_len hrw h1; have z4 := (ds_nl_in hrw h1 (ds_getD_mem z1)).1; rw [z2]; omega) (fun v1 r v2 r2 h1 h2 h3 h4 h5 => ds_prep_inj ok hPr2 (by rw [q1] at h1; exact h1) (by rw [q1] at h2; exact h2) h3 h4 h5) (fun v2 h1 => by rw [q1] at h1; rw [(hPr2.1 v2 h1).1]; exact Nat.le_trans (ds_nl_len hrw h1) hn) H.size) cw_Day_turn hN wd_349 wd_351 ws_Day_turn ds_ob1 dw_blind (dw_pre hw hN) rfl hl.1 rfl ⟨Nat.le_trans (Nat.le_of_ble_eq_true rfl) hR.1, Nat.le_trans (Nat.le_of_ble_eq_true rfl) hR.2⟩ (Nat.le_of_ble_eq_true rfl) ⟨Nat.zero_le _, Nat.zero_le _⟩ d_DS_next_62) (fun f_3 H locs hp hw => ?_)
        obtain ⟨ht1, ht2, ht3⟩ := hp
        obtain ⟨f_t, eft⟩ : ∃ z, z = f_3 := ⟨_, rfl⟩
        rw [← eft] at hw ht1 ht2 ht3
        refine lv_iconst (v := nI 0) S.1 S.2.1 d_DS_next_65 (by decide) ?_
        refine lv_istore_n (lv' := [(2, .int (nI 0)), (0, .ref (a 0)), (1, .int (nI (ds_cnt (fun x => f 5 x == f 1 0) (f 1 1))))]) S.1 S.2.1 d_DS_next_66 rfl hl (by decide) rfl (fun ls hl => ?_)
        have loop_67 : ∀ (n : Nat) (i : Nat) (f4 : Nat → Nat → Nat) (hi : i ≤ f 1 1) (hU : ∀ x, x < i → f4 5 x = f_t 10 x) (hg : ∀ k, k ≠ 5 → f4 k = f_t k) (_ : f 1 1 - i < n) (H : Heap) (locs : List Loc), dw_W D classes (ds_tys g) A s.heap (dw_l 77 (ds_ce g a) a f4) s H locs → ∀ (ls : Array Slot), lv_has ls 3 [(0, .ref (a 0)), (1, .int (nI (ds_cnt (fun x => f 5 x == f 1 0) (f 1 1)))), (2, .int (nI i))] → W p l e R s m args below meth c H locs 0 0 Q (F0 m 67 ls []) := by
          intro n
          induction n with
          | zero => intro i f4 hi hU hg h9; exact absurd h9 (Nat.not_lt_zero _)
          | succ n ih_67 =>
            intro i f4 hi hU hg hm_67 H locs hw ls hl
            have w11 : f4 1 1 = f 1 1 := by rw [hg 1 (by decide), ht3 1 (by decide) (by decide) (by decide) (by decide) (by decide) (by decide) (by decide), q1]
            have w10 : f4 10 = f_t 10 := by rw [hg 10 (by decide)]
            refine lv_iload_n S.1 S.2.1 d_DS_next_67 rfl (lv_at hl 2 rfl) ?_
            refine lv_aload_n S.1 S.2.1 d_DS_next_68 rfl (lv_at hl 0 rfl) ?_
            refine dw_getf (fi := 0) (v := .ref (a 1)) S hw i_DS ds_ob0 (by decide) rfl wd_135 rfl d_DS_next_69 ?_
            refine dw_getN (fi := 1) (v := .int (nI (f4 1 1))) S hw i_Day ds_ob1 (by decide) rfl hN wd_35 rfl d_DS_next_72 ?_
            refine dn_icmp_ge S.1 S.2.1 99 (by omega) (by omega) d_DS_next_75 (by decide) (fun h_75 => ?_) (fun h_75 => ?_)
            · refine lv_aload_n S.1 S.2.1 d_DS_next_99 rfl (lv_at hl 0 rfl) ?_
              refine dw_getf (fi := 2) (v := .ref (a 3)) S hw i_DS ds_ob0 (by decide) rfl wd_137 rfl d_DS_next_100 ?_
              refine lv_iconst (v := nI 0) S.1 S.2.1 d_DS_next_103 (by decide) ?_
              refine dw_putN (fi := 2) S hw i_Sh t_Sh t_Sh_ok n_Sh ds_ob3 (by decide) rfl hN wd_127 rfl (by decide +kernel) (Nat.le_of_ble_eq_true rfl) rfl d_DS_next_104 (fun f_4 H locs ef_4 hw => ?_)
              refine lv_aload_n S.1 S.2.1 d_DS_next_107 rfl (lv_at hl 0 rfl) ?_
              refine dw_getf (fi := 3) (v := .ref (a 4)) S hw i_DS ds_ob0 (by decide) rfl wd_138 rfl d_DS_next_108 ?_
              refine lv_iconst (v := nI 0) S.1 S.2.1 d_DS_next_111 (by decide) ?_
              refine dw_putN (fi := 2) S hw i_Sh t_Sh t_Sh_ok n_Sh ds_ob4 (by decide) rfl hN wd_127 rfl (by decide +kernel) (Nat.le_of_ble_eq_true rfl) rfl d_DS_next_112 (fun f_5 H locs ef_5 hw => ?_)
              refine lv_iload_n S.1 S.2.1 d_DS_next_115 rfl (lv_at hl 1 rfl) ?_
              exact hret H locs _ ls _ _ hw (by
    have eY := ef_5
    have eX := ef_4
    refine ⟨rfl, fun v2 h2 => ?_, fun x hx => ?_, by rw [eY, dw_w_ne (by decide), eX, dw_w_eq, dw_up_eq], by rw [eY, dw_w_eq, dw_up_eq], fun k k1 k2 k3 k4 k5 k6 k7 k8 k9 k10 k11 => ?_⟩
    · have q := ht1 v2 (by rw [q1]; exact h2)
      have q17 := hPr2.1 v2 h2
      rw [q17.1] at q
      rw [eY, eX, dw_w_ne (by decide), dw_w_ne (by decide), dw_w_ne (by decide), dw_w_ne (by decide), hg 15 (by decide), hg 18 (by decide)]
      refine ⟨q.1, q.2.1, fun r hr => ?_⟩
      have z2 := (ds_prep_at hPr2 h2 (by rw [q17.1]; exact hr)).2
      have q3 := q.2.2 r hr
      rw [z2] at q3
      rw [dw_w_ne (by omega), dw_w_ne (by omega), hg (22 + v2) (by omega), dw_w_ne (by decide), dw_w_ne (by decide), hg 10 (by decide), dw_w_ne (by decide), dw_w_ne (by decide), hg 11 (by decide)]
      exact q3
    · have q := ht2 x (by rw [q1]; exact hx)
      rw [eY, eX, dw_w_ne (by decide), dw_w_ne (by decide), dw_w_ne (by decide), dw_w_ne (by decide), dw_w_ne (by decide), dw_w_ne (by decide), dw_w_ne (by decide), dw_w_ne (by decide), hg 12 (by decide), hg 13 (by decide), hg 10 (by decide)]
      exact ⟨q.1, q.2, hU x (by omega)⟩
    · rw [eY, dw_w_ne k2, eX, dw_w_ne k1, hg k k3, ht3 k k4 k5 k6 k7 k8 k10 (by omega)]
      exact hPr2.2 k k9 (by omega)) d_DS_next_116
            · refine lv_aload_n S.1 S.2.1 d_DS_next_78 rfl (lv_at hl 0 rfl) ?_
              refine dw_getf (fi := 4) (v := .ref (a 5)) S hw i_DS ds_ob0 (by decide) rfl wd_139 rfl d_DS_next_79 ?_
              refine lv_iload_n S.1 S.2.1 d_DS_next_82 rfl (lv_at hl 2 rfl) ?_
              refine lv_aload_n S.1 S.2.1 d_DS_next_83 rfl (lv_at hl 0 rfl) ?_
              refine dw_getf (fi := 0) (v := .ref (a 1)) S hw i_DS ds_ob0 (by decide) rfl wd_135 rfl d_DS_next_84 ?_
              refine dw_getN (fi := 4) (v := .ref (a 10)) S hw i_Day ds_ob1 (by decide) rfl hN wd_42 rfl d_DS_next_87 ?_
              refine lv_iload_n S.1 S.2.1 d_DS_next_90 rfl (lv_at hl 2 rfl) ?_
              refine dw_iald S.1 S.2.1 hw ds_k10 (by omega) d_DS_next_91 ?_
              refine dw_iast S.1 S.2.1 hw ds_k5 (by omega) d_DS_next_92 (fun f_6 H locs ef_6 hw => ?_)
              refine lv_iinc (v := nI (i + 1)) (lv' := [(2, .int (nI (i + 1))), (0, .ref (a 0)), (1, .int (nI (ds_cnt (fun x => f 5 x == f 1 0) (f 1 1))))]) S.1 S.2.1 d_DS_next_93 hl (k := 2) rfl (by rw [show Int32.ofInt 1 = nI 1 from rfl, nI_add]) (by decide) rfl (fun ls hl => ?_)
              refine lv_goto (tgt := 67) S.1 S.2.1 d_DS_next_96 (by decide) ?_
              exact ih_67 (i + 1) f_6 (by omega) (fun x hx => by
    rw [ef_6, dw_w_eq]
    by_cases ex : x = i
    · rw [ex, dw_up_eq, w10]
    · rw [dw_up_ne ex]; exact hU x (by omega)) (fun k k1 => by rw [ef_6, dw_w_ne k1]; exact hg k k1) (by omega) H locs hw ls (lv_sub hl [1, 2, 0] rfl)
        exact loop_67 _ 0 f_t (Nat.zero_le _) (fun x hx => absurd hx (Nat.not_lt_zero _)) (fun _ _ => rfl) (Nat.lt_succ_self _) H locs hw ls (lv_sub hl [1, 2, 0] rfl)
      · have hv2 : v < f 1 0 := by omega
        have eN1 : ds_own f2 (ds_pb f (f 1 0)) v (f2 1 1) = ds_own f (ds_pb f (f 1 0)) v (f 1 1) := by unfold ds_own; rw [hPr.2 10 (by decide) (by decide), q1]
        have eN2 : ds_rd f2 (ds_pb f v) v = ds_rd f (ds_pb f v) v := ds_rd_congr ag _ (by omega)
        refine lv_aload_n S.1 S.2.1 d_DS_next_28 rfl (lv_at hl 0 rfl) ?_
        refine dw_getf (fi := 0) (v := .ref (a 1)) S hw i_DS ds_ob0 (by decide) rfl wd_135 rfl d_DS_next_29 ?_
        refine lv_iload_n S.1 S.2.1 d_DS_next_32 rfl (lv_at hl 2 rfl) ?_
        refine lv_aload_n S.1 S.2.1 d_DS_next_33 rfl (lv_at hl 0 rfl) ?_
        refine lv_aload_n S.1 S.2.1 d_DS_next_34 rfl (lv_at hl 0 rfl) ?_
        refine dw_getf (fi := 0) (v := .ref (a 1)) S hw i_DS ds_ob0 (by decide) rfl wd_135 rfl d_DS_next_35 ?_
        refine dw_getN (fi := 0) (v := .int (nI (f2 1 0))) S hw i_Day ds_ob1 (by decide) rfl hN wd_34 rfl d_DS_next_38 ?_
        refine dw_afti hw hA (dw_runV (As := [.int (nI (f2 1 0))]) (rest := [.int (nI v), .ref (a 1)]) (ko := 0) hw S ds_good (c_setOf l D g a f2 (f2 1 0) (by rw [q1]; exact hn) (by rw [q1]; omega) (fun x hx => by rw [q1] at hx; rw [q5]; have := hst x hx; omega) H.size) cw_DS_setOf wd_291 wd_293 ws_DS_setOf ds_ob0 dw_blind (dw_pre hw hN) rfl hl.1 rfl ⟨Nat.le_trans (Nat.le_of_ble_eq_true rfl) hR.1, Nat.le_trans (Nat.le_of_ble_eq_true rfl) hR.2⟩ (Nat.le_of_ble_eq_true rfl) ⟨Nat.zero_le _, Nat.zero_le _⟩ d_DS_next_41) (fun r_41 f_7 H locs hp hw => ?_)
        obtain ⟨er, ef⟩ := hp
        subst er
        rw [ef] at hw
        refine ds_topi (w := nI (ds_bits (fun s => f 5 s == f 1 0) (f 1 1))) (by rw [q5, q1]) ?_
        refine lv_aload_n S.1 S.2.1 d_DS_next_44 rfl (lv_at hl 0 rfl) ?_
        refine lv_iload_n S.1 S.2.1 d_DS_next_45 rfl (lv_at hl 2 rfl) ?_
        refine dw_afti hw hA (dw_runV (As := [.int (nI v)]) (rest := [.int (nI (ds_bits (fun s => f 5 s == f 1 0) (f 1 1))), .int (nI v), .ref (a 1)]) (ko := 0) hw S ds_good (c_setOf l D g a f2 v (by rw [q1]; exact hn) (by omega) (fun x hx => by rw [q1] at hx; rw [q5]; have := hst x hx; omega) H.size) cw_DS_setOf wd_291 wd_293 ws_DS_setOf ds_ob0 dw_blind (dw_pre hw hN) rfl hl.1 rfl ⟨Nat.le_trans (Nat.le_of_ble_eq_true rfl) hR.1, Nat.le_trans (Nat.le_of_ble_eq_true rfl) hR.2⟩ (Nat.le_of_ble_eq_true rfl) ⟨Nat.zero_le _, Nat.zero_le _⟩ d_DS_next_46) (fun r_46 f_8 H locs hp hw => ?_)
        obtain ⟨er, ef⟩ := hp
        subst er
        rw [ef] at hw
        refine ds_topi (w := nI (ds_bits (fun s => f 5 s == v) (f 1 1))) (by rw [q5, q1]) ?_
        refine dw_aftv hw hA (dw_runVN (As := [.int (nI v), .int (nI (ds_bits (fun s => f 5 s == f 1 0) (f 1 1))), .int (nI (ds_bits (fun s => f 5 s == v) (f 1 1)))]) (rest := []) (ko := 1) hw S ds_good (c_prepareRow l D g a f2 v (ds_bits (fun s => f 5 s == f 1 0) (f 1 1)) (ds_bits (fun s => f 5 s == v) (f 1 1)) (ok2) (by omega) (Nat.lt_trans (ds_bits_256 _ hn) (by decide)) (Nat.lt_trans (ds_bits_256 _ hn) (by decide)) (by rw [eN1, eN2, ← List.length_append]; exact Nat.le_trans (ds_nl_len hrw hv2) hn) H.size) cw_Day_prepareRow hN wd_345 wd_347 ws_Day_prepareRow ds_ob1 dw_blind (dw_pre hw hN) rfl hl.1 rfl ⟨Nat.le_trans (Nat.le_of_ble_eq_true rfl) hR.1, Nat.le_trans (Nat.le_of_ble_eq_true rfl) hR.2⟩ (Nat.le_of_ble_eq_true rfl) ⟨Nat.zero_le _, Nat.zero_le _⟩ d_DS_next_49) (fun f_9 H locs hp hw => ?_)
        obtain ⟨hj, ef_9, hjs⟩ := hp
        refine lv_iinc (v := nI (v + 1)) (lv' := [(2, .int (nI (v + 1))), (0, .ref (a 0)), (1, .int (nI (ds_cnt (fun x => f 5 x == f 1 0) (f 1 1))))]) S.1 S.2.1 d_DS_next_52 hl (k := 2) rfl (by rw [show Int32.ofInt 1 = nI 1 from rfl, nI_add]) (by decide) rfl (fun ls hl => ?_)
        refine lv_goto (tgt := 17) S.1 S.2.1 d_DS_next_55 (by decide) ?_
        exact ih_17 (v + 1) f_9 (by omega) (by
    refine ⟨fun w hw2 => ?_, fun k k1 k2 => by rw [ef_9, dw_w_ne k1, dw_su_ne (by omega)]; exact hPr.2 k k1 k2⟩
    by_cases ew : w = v
    · subst ew
      rw [ef_9, dw_w_eq, dw_up_eq, dw_w_ne (by omega), dw_su_eq]
      rw [eN1, eN2] at hjs
      exact ⟨by rw [eN1, eN2]; unfold ds_nl; rw [List.length_append], hjs⟩
    · have q := hPr.1 w (by omega)
      rw [ef_9, dw_w_eq, dw_up_ne ew, dw_su_ne (by omega), dw_w_ne (by omega), dw_su_ne (by omega)]
      exact q) (by omega) H locs hw ls (lv_sub hl [1, 2, 0] rfl)
  exact loop_17 _ 0 f (Nat.zero_le _) (⟨fun w hw => absurd hw (Nat.not_lt_zero _), fun _ _ _ => rfl⟩) (Nat.lt_succ_self _) H locs hw ls (lv_sub hl [2, 1, 0] rfl)
end
section
/-! contracts of the reference: simple methods -/
set_option maxHeartbeats 4000000 in
set_option maxRecDepth 100000 in
theorem m_isIn (l : Launch) (D : va_G) (g : Nat → ClassId) (a : Nat → Nat) (f : Nat → Nat → Nat) (x : Int64) (y : Int64) (z : Int64)  : ds_I l D g a y_Mo_isIn b_Mo_isIn 6 .boolean 0 0 [.long x, .long y, .long z] f (fun r u => r = nI (dn_b (y ≤ x ∧ x ≤ z)) ∧ u = f) := by
  refine dw_ofI (by decide) (fun _ _ h => h.1 ▸ dn_nar) (Nat.le_of_ble_eq_true rfl) ?_
  intro p e s m args below meth c ls A Q R H locs hR hA S hN hw hl hret
  have hl : lv_has ls 6 [(0, .long x), (2, .long y), (4, .long z)] := hl
  have S : CallFix p m c b_Mo_isIn 6 s args ds_T R_Mo := S
  refine lv_lload_n S.1 S.2.1 d_Mo_isIn_0 rfl (lv_at hl 0 rfl) ?_
  refine lv_lload_n S.1 S.2.1 d_Mo_isIn_1 rfl (lv_at hl 1 rfl) ?_
  refine ds_lcmp_lt S.1 S.2.1 17 d_Mo_isIn_2 d_Mo_isIn_3 (by decide) (fun h_2 => ?_) (fun h_2 => ?_)
  · refine lv_iconst (v := nI 0) S.1 S.2.1 d_Mo_isIn_17 (by decide) ?_
    exact hret H locs _ ls _ _ hw (⟨by rw [dn_b0 (fun q => absurd q.1 (Int64.not_le.mpr h_2))], rfl⟩) d_Mo_isIn_18
  · refine lv_lload_n S.1 S.2.1 d_Mo_isIn_6 rfl (lv_at hl 0 rfl) ?_
    refine lv_lload S.1 S.2.1 d_Mo_isIn_7 (lv_at hl 2 rfl) ?_
    refine ds_lcmp_gt S.1 S.2.1 17 d_Mo_isIn_9 d_Mo_isIn_10 (by decide) (fun h_9 => ?_) (fun h_9 => ?_)
    · refine lv_iconst (v := nI 0) S.1 S.2.1 d_Mo_isIn_17 (by decide) ?_
      exact hret H locs _ ls _ _ hw (⟨by rw [dn_b0 (fun q => absurd q.2 (Int64.not_le.mpr h_9))], rfl⟩) d_Mo_isIn_18
    · refine lv_iconst (v := nI 1) S.1 S.2.1 d_Mo_isIn_13 (by decide) ?_
      refine lv_goto (tgt := 18) S.1 S.2.1 d_Mo_isIn_14 (by decide) ?_
      exact hret H locs _ ls _ _ hw (⟨by rw [dn_b1 ⟨Int64.not_lt.mp h_2, Int64.not_lt.mp h_9⟩], rfl⟩) d_Mo_isIn_18
set_option maxHeartbeats 4000000 in
set_option maxRecDepth 100000 in
theorem m_isVehicle (l : Launch) (D : va_G) (g : Nat → ClassId) (a : Nat → Nat) (f : Nat → Nat → Nat) (x : Int32) (hn : f 54 0 ≤ 8) : ds_I l D g a y_Mo_isVehicle b_Mo_isVehicle 2 .boolean 0 0 [.ref (a 54), .int x] f (fun r u => r = nI (dn_b (ds_in x (f 54 0))) ∧ u = f) := by
  refine dw_ofI (by decide) (fun _ _ h => h.1 ▸ dn_nar) (Nat.le_of_ble_eq_true rfl) ?_
  intro p e s m args below meth c ls A Q R H locs hR hA S hN hw hl hret
  have hl : lv_has ls 2 [(0, .ref (a 54)), (1, .int x)] := hl
  have S : CallFix p m c b_Mo_isVehicle 2 s args ds_T R_Mo := S
  refine lv_iload_n S.1 S.2.1 d_Mo_isVehicle_0 rfl (lv_at hl 1 rfl) ?_
  refine lv_if_lt (tgt := 16) S.1 S.2.1 d_Mo_isVehicle_1 (by decide) (fun h_1 => ?_) (fun h_1 => ?_)
  · refine lv_iconst (v := nI 0) S.1 S.2.1 d_Mo_isVehicle_16 (by decide) ?_
    exact hret H locs _ ls _ _ hw (⟨by rw [dn_b0 (fun q => ((ds_in_iff (by omega)).mp q).1 h_1)], rfl⟩) d_Mo_isVehicle_17
  · refine lv_iload_n S.1 S.2.1 d_Mo_isVehicle_4 rfl (lv_at hl 1 rfl) ?_
    refine lv_aload_n S.1 S.2.1 d_Mo_isVehicle_5 rfl (lv_at hl 0 rfl) ?_
    refine dw_getf (fi := 0) (v := .int (nI (f 54 0))) S hw i_Mo ds_ob54 (by decide) rfl wd_362 rfl d_Mo_isVehicle_6 ?_
    refine lv_icmp_ge (tgt := 16) S.1 S.2.1 d_Mo_isVehicle_9 (by decide) (fun h_9 => ?_) (fun h_9 => ?_)
    · refine lv_iconst (v := nI 0) S.1 S.2.1 d_Mo_isVehicle_16 (by decide) ?_
      exact hret H locs _ ls _ _ hw (⟨by rw [dn_b0 (fun q => ((ds_in_iff (by omega)).mp q).2 h_9)], rfl⟩) d_Mo_isVehicle_17
    · refine lv_iconst (v := nI 1) S.1 S.2.1 d_Mo_isVehicle_12 (by decide) ?_
      refine lv_goto (tgt := 17) S.1 S.2.1 d_Mo_isVehicle_13 (by decide) ?_
      exact hret H locs _ ls _ _ hw (⟨by rw [dn_b1 ((ds_in_iff (by omega)).mpr ⟨h_1, h_9⟩)], rfl⟩) d_Mo_isVehicle_17
set_option maxHeartbeats 4000000 in
set_option maxRecDepth 100000 in
theorem m_isStop (l : Launch) (D : va_G) (g : Nat → ClassId) (a : Nat → Nat) (f : Nat → Nat → Nat) (x : Int32) (hn : f 54 1 ≤ 8) : ds_I l D g a y_Mo_isStop b_Mo_isStop 2 .boolean 0 0 [.ref (a 54), .int x] f (fun r u => r = nI (dn_b (ds_in x (f 54 1))) ∧ u = f) := by
  refine dw_ofI (by decide) (fun _ _ h => h.1 ▸ dn_nar) (Nat.le_of_ble_eq_true rfl) ?_
  intro p e s m args below meth c ls A Q R H locs hR hA S hN hw hl hret
  have hl : lv_has ls 2 [(0, .ref (a 54)), (1, .int x)] := hl
  have S : CallFix p m c b_Mo_isStop 2 s args ds_T R_Mo := S
  refine lv_iload_n S.1 S.2.1 d_Mo_isStop_0 rfl (lv_at hl 1 rfl) ?_
  refine lv_if_lt (tgt := 16) S.1 S.2.1 d_Mo_isStop_1 (by decide) (fun h_1 => ?_) (fun h_1 => ?_)
  · refine lv_iconst (v := nI 0) S.1 S.2.1 d_Mo_isStop_16 (by decide) ?_
    exact hret H locs _ ls _ _ hw (⟨by rw [dn_b0 (fun q => ((ds_in_iff (by omega)).mp q).1 h_1)], rfl⟩) d_Mo_isStop_17
  · refine lv_iload_n S.1 S.2.1 d_Mo_isStop_4 rfl (lv_at hl 1 rfl) ?_
    refine lv_aload_n S.1 S.2.1 d_Mo_isStop_5 rfl (lv_at hl 0 rfl) ?_
    refine dw_getf (fi := 1) (v := .int (nI (f 54 1))) S hw i_Mo ds_ob54 (by decide) rfl wd_363 rfl d_Mo_isStop_6 ?_
    refine lv_icmp_ge (tgt := 16) S.1 S.2.1 d_Mo_isStop_9 (by decide) (fun h_9 => ?_) (fun h_9 => ?_)
    · refine lv_iconst (v := nI 0) S.1 S.2.1 d_Mo_isStop_16 (by decide) ?_
      exact hret H locs _ ls _ _ hw (⟨by rw [dn_b0 (fun q => ((ds_in_iff (by omega)).mp q).2 h_9)], rfl⟩) d_Mo_isStop_17
    · refine lv_iconst (v := nI 1) S.1 S.2.1 d_Mo_isStop_12 (by decide) ?_
      refine lv_goto (tgt := 17) S.1 S.2.1 d_Mo_isStop_13 (by decide) ?_
      exact hret H locs _ ls _ _ hw (⟨by rw [dn_b1 ((ds_in_iff (by omega)).mpr ⟨h_1, h_9⟩)], rfl⟩) d_Mo_isStop_17
set_option maxHeartbeats 4000000 in
set_option maxRecDepth 100000 in
theorem m_stop (l : Launch) (D : va_G) (g : Nat → ClassId) (a : Nat → Nat) (f : Nat → Nat → Nat) (x : Int32) (y : Int32) (z : Int32) (hV : f 54 0 ≤ 3) (hn : f 54 1 ≤ 8) : ds_I l D g a y_Mo_stop b_Mo_stop 4 .int 1 25 [.ref (a 54), .int x, .int y, .int z] f (fun r u => if f 54 1 < 8 ∧ ds_in x (f 54 0) ∧ ds_in y 10 ∧ ds_in z 10001 then r = nI (f 54 1) ∧ u = md_stop f x.toNatClampNeg y.toNatClampNeg z.toNatClampNeg else r = (-1) ∧ u = f) := by
  refine dw_ofI (by decide) (fun _ _ _ => rfl) (Nat.le_of_ble_eq_true rfl) ?_
  intro p e s m args below meth c ls A Q R H locs hR hA S hN hw hl hret
  have hl : lv_has ls 4 [(0, .ref (a 54)), (1, .int x), (2, .int y), (3, .int z)] := hl
  have S : CallFix p m c b_Mo_stop 4 s args ds_T R_Mo := S
  refine lv_aload_n S.1 S.2.1 d_Mo_stop_0 rfl (lv_at hl 0 rfl) ?_
  refine dw_getf (fi := 1) (v := .int (nI (f 54 1))) S hw i_Mo ds_ob54 (by decide) rfl wd_363 rfl d_Mo_stop_1 ?_
  refine lv_bipush (v := nI 8) S.1 S.2.1 d_Mo_stop_4 (by decide) ?_
  refine dn_icmp_eq S.1 S.2.1 41 (by omega) (by decide) d_Mo_stop_6 (by decide) (fun h_6 => ?_) (fun h_6 => ?_)
  · refine lv_iconst (v := (-1)) S.1 S.2.1 d_Mo_stop_41 (by decide) ?_
    exact hret H locs _ ls _ _ hw (by rw [if_neg (fun q => absurd q.1 (by omega))]; exact ⟨rfl, rfl⟩) d_Mo_stop_42
  · refine lv_aload_n S.1 S.2.1 d_Mo_stop_9 rfl (lv_at hl 0 rfl) ?_
    refine lv_iload_n S.1 S.2.1 d_Mo_stop_10 rfl (lv_at hl 1 rfl) ?_
    refine dw_afti hw hA (dw_runV (As := [.int x]) (rest := []) (ko := 54) hw S ds_good (m_isVehicle l D g a f x (by omega) H.size) cw_Mo_isVehicle wd_451 wd_453 ws_Mo_isVehicle ds_ob54 dw_blind (dw_pre hw hN) rfl hl.1 rfl ⟨Nat.le_trans (Nat.le_of_ble_eq_true rfl) hR.1, Nat.le_trans (Nat.le_of_ble_eq_true rfl) hR.2⟩ (Nat.le_of_ble_eq_true rfl) ⟨Nat.zero_le _, Nat.zero_le _⟩ d_Mo_stop_11) (fun r_11 f_1 H locs hp hw => ?_)
    obtain ⟨er, ef⟩ := hp
    subst er
    rw [ef] at hw
    refine dn_ifb_eq S.1 S.2.1 41 d_Mo_stop_14 (by decide) (fun h_14 => ?_) (fun h_14 => ?_)
    · refine lv_iconst (v := (-1)) S.1 S.2.1 d_Mo_stop_41 (by decide) ?_
      exact hret H locs _ ls _ _ hw (by rw [if_neg (fun q => h_14 q.2.1)]; exact ⟨rfl, rfl⟩) d_Mo_stop_42
    · refine lv_iload_n S.1 S.2.1 d_Mo_stop_17 rfl (lv_at hl 2 rfl) ?_
      refine lv_i2l (v := y.toInt64) S.1 S.2.1 d_Mo_stop_18 rfl ?_
      refine lv_lconst (v := lN 0) S.1 S.2.1 d_Mo_stop_19 rfl ?_
      refine lv_ldc2 (v := lN 9) S.1 S.2.1 S.2.2.2.1 (S.2.2.2.2 _ wd_455) d_Mo_stop_20 ?_
      refine dw_afti hw hA (dw_runS (As := [.long (y.toInt64), .long (lN 0), .long (lN 9)]) (rest := []) S ds_good (m_isIn l D g a f (y.toInt64) (lN 0) (lN 9) H.size) cw_Mo_isIn wd_456 wd_457 dw_blind (dw_pre hw hN) rfl hl.1 rfl ⟨Nat.le_trans (Nat.le_of_ble_eq_true rfl) hR.1, Nat.le_trans (Nat.le_of_ble_eq_true rfl) hR.2⟩ (Nat.le_of_ble_eq_true rfl) ⟨Nat.zero_le _, Nat.zero_le _⟩ d_Mo_stop_23) (fun r_23 f_2 H locs hp hw => ?_)
      obtain ⟨er, ef⟩ := hp
      subst er
      rw [ef] at hw
      refine dn_ifb_eq S.1 S.2.1 41 d_Mo_stop_26 (by decide) (fun h_26 => ?_) (fun h_26 => ?_)
      · refine lv_iconst (v := (-1)) S.1 S.2.1 d_Mo_stop_41 (by decide) ?_
        exact hret H locs _ ls _ _ hw (by rw [if_neg (fun q => h_26 ((ds_lin (by decide)).mpr q.2.2.1))]; exact ⟨rfl, rfl⟩) d_Mo_stop_42
      · refine lv_iload_n S.1 S.2.1 d_Mo_stop_29 rfl (lv_at hl 3 rfl) ?_
        refine lv_i2l (v := z.toInt64) S.1 S.2.1 d_Mo_stop_30 rfl ?_
        refine lv_lconst (v := lN 0) S.1 S.2.1 d_Mo_stop_31 rfl ?_
        refine lv_ldc2 (v := lN 10000) S.1 S.2.1 S.2.2.2.1 (S.2.2.2.2 _ wd_459) d_Mo_stop_32 ?_
        refine dw_afti hw hA (dw_runS (As := [.long (z.toInt64), .long (lN 0), .long (lN 10000)]) (rest := []) S ds_good (m_isIn l D g a f (z.toInt64) (lN 0) (lN 10000) H.size) cw_Mo_isIn wd_456 wd_457 dw_blind (dw_pre hw hN) rfl hl.1 rfl ⟨Nat.le_trans (Nat.le_of_ble_eq_true rfl) hR.1, Nat.le_trans (Nat.le_of_ble_eq_true rfl) hR.2⟩ (Nat.le_of_ble_eq_true rfl) ⟨Nat.zero_le _, Nat.zero_le _⟩ d_Mo_stop_35) (fun r_35 f_3 H locs hp hw => ?_)
        obtain ⟨er, ef⟩ := hp
        subst er
        rw [ef] at hw
        refine dn_ifb_ne S.1 S.2.1 43 d_Mo_stop_38 (by decide) (fun h_38 => ?_) (fun h_38 => ?_)
        · obtain ⟨ex1, hx1⟩ := ds_in_nI h_14
          have h_27 := (ds_lin (x := y) (n := 9) (by decide)).mp h_26
          obtain ⟨ex2, hx2⟩ := ds_in_nI h_27
          have h_39 := (ds_lin (x := z) (n := 10000) (by decide)).mp h_38
          obtain ⟨ex3, hx3⟩ := ds_in_nI h_39
          have hl : lv_has ls 4 [(0, .ref (a 54)), (1, .int (nI (x.toNatClampNeg))), (2, .int y), (3, .int z)] := by have hl2 := hl; rw [ex1] at hl2; exact hl2
          have hl : lv_has ls 4 [(0, .ref (a 54)), (1, .int (nI (x.toNatClampNeg))), (2, .int (nI (y.toNatClampNeg))), (3, .int z)] := by have hl2 := hl; rw [ex2] at hl2; exact hl2
          have hl : lv_has ls 4 [(0, .ref (a 54)), (1, .int (nI (x.toNatClampNeg))), (2, .int (nI (y.toNatClampNeg))), (3, .int (nI (z.toNatClampNeg)))] := by have hl2 := hl; rw [ex3] at hl2; exact hl2
          refine lv_aload_n S.1 S.2.1 d_Mo_stop_43 rfl (lv_at hl 0 rfl) ?_
          refine dw_getf (fi := 2) (v := .ref (a 55)) S hw i_Mo ds_ob54 (by decide) rfl wd_364 rfl d_Mo_stop_44 ?_
          refine lv_aload_n S.1 S.2.1 d_Mo_stop_47 rfl (lv_at hl 0 rfl) ?_
          refine dw_getf (fi := 1) (v := .int (nI (f 54 1))) S hw i_Mo ds_ob54 (by decide) rfl wd_363 rfl d_Mo_stop_48 ?_
          refine lv_iload_n S.1 S.2.1 d_Mo_stop_51 rfl (lv_at hl 2 rfl) ?_
          refine dw_iast S.1 S.2.1 hw ds_k55 (by omega) d_Mo_stop_52 (fun f_4 H locs ef_4 hw => ?_)
          have g1 : f_4 54 1 = f 54 1 := by rw [ef_4, dw_w_ne (by decide)]
          have y1 : f_4 59 x.toNatClampNeg = f 59 x.toNatClampNeg := by rw [ef_4, dw_w_ne (by decide)]
          refine lv_aload_n S.1 S.2.1 d_Mo_stop_53 rfl (lv_at hl 0 rfl) ?_
          refine dw_getf (fi := 3) (v := .ref (a 56)) S hw i_Mo ds_ob54 (by decide) rfl wd_365 rfl d_Mo_stop_54 ?_
          refine lv_aload_n S.1 S.2.1 d_Mo_stop_57 rfl (lv_at hl 0 rfl) ?_
          refine dw_getf (fi := 1) (v := .int (nI (f_4 54 1))) S hw i_Mo ds_ob54 (by decide) rfl wd_363 rfl d_Mo_stop_58 ?_
          refine lv_iload_n S.1 S.2.1 d_Mo_stop_61 rfl (lv_at hl 3 rfl) ?_
          refine dw_iast S.1 S.2.1 hw ds_k56 (by omega) d_Mo_stop_62 (fun f_5 H locs ef_5 hw => ?_)
          have g2 : f_5 54 1 = f 54 1 := by rw [ef_5, dw_w_ne (by decide)]; exact g1
          have y2 : f_5 59 x.toNatClampNeg = f 59 x.toNatClampNeg := by rw [ef_5, dw_w_ne (by decide)]; exact y1
          refine lv_aload_n S.1 S.2.1 d_Mo_stop_63 rfl (lv_at hl 0 rfl) ?_
          refine dw_getf (fi := 4) (v := .ref (a 57)) S hw i_Mo ds_ob54 (by decide) rfl wd_366 rfl d_Mo_stop_64 ?_
          refine lv_aload_n S.1 S.2.1 d_Mo_stop_67 rfl (lv_at hl 0 rfl) ?_
          refine dw_getf (fi := 1) (v := .int (nI (f_5 54 1))) S hw i_Mo ds_ob54 (by decide) rfl wd_363 rfl d_Mo_stop_68 ?_
          refine lv_iload_n S.1 S.2.1 d_Mo_stop_71 rfl (lv_at hl 1 rfl) ?_
          refine dw_iast S.1 S.2.1 hw ds_k57 (by omega) d_Mo_stop_72 (fun f_6 H locs ef_6 hw => ?_)
          have g3 : f_6 54 1 = f 54 1 := by rw [ef_6, dw_w_ne (by decide)]; exact g2
          have y3 : f_6 59 x.toNatClampNeg = f 59 x.toNatClampNeg := by rw [ef_6, dw_w_ne (by decide)]; exact y2
          refine lv_aload_n S.1 S.2.1 d_Mo_stop_73 rfl (lv_at hl 0 rfl) ?_
          refine dw_getf (fi := 5) (v := .ref (a 58)) S hw i_Mo ds_ob54 (by decide) rfl wd_367 rfl d_Mo_stop_74 ?_
          refine lv_aload_n S.1 S.2.1 d_Mo_stop_77 rfl (lv_at hl 0 rfl) ?_
          refine dw_getf (fi := 1) (v := .int (nI (f_6 54 1))) S hw i_Mo ds_ob54 (by decide) rfl wd_363 rfl d_Mo_stop_78 ?_
          refine lv_aload_n S.1 S.2.1 d_Mo_stop_81 rfl (lv_at hl 0 rfl) ?_
          refine dw_getf (fi := 6) (v := .ref (a 59)) S hw i_Mo ds_ob54 (by decide) rfl wd_368 rfl d_Mo_stop_82 ?_
          refine lv_iload_n S.1 S.2.1 d_Mo_stop_85 rfl (lv_at hl 1 rfl) ?_
          refine dw_iald S.1 S.2.1 hw ds_k59 (by omega) d_Mo_stop_86 ?_
          refine dw_iast S.1 S.2.1 hw ds_k58 (by omega) d_Mo_stop_87 (fun f_7 H locs ef_7 hw => ?_)
          have g4 : f_7 54 1 = f 54 1 := by rw [ef_7, dw_w_ne (by decide)]; exact g3
          have y4 : f_7 59 x.toNatClampNeg = f 59 x.toNatClampNeg := by rw [ef_7, dw_w_ne (by decide)]; exact y3
          refine lv_aload_n S.1 S.2.1 d_Mo_stop_88 rfl (lv_at hl 0 rfl) ?_
          refine dw_getf (fi := 6) (v := .ref (a 59)) S hw i_Mo ds_ob54 (by decide) rfl wd_368 rfl d_Mo_stop_89 ?_
          refine lv_iload_n S.1 S.2.1 d_Mo_stop_92 rfl (lv_at hl 1 rfl) ?_
          refine lv_dup2_11 S.1 S.2.1 d_Mo_stop_93 rfl rfl ?_
          refine dw_iald S.1 S.2.1 hw ds_k59 (by omega) d_Mo_stop_94 ?_
          refine lv_iconst (v := nI 1) S.1 S.2.1 d_Mo_stop_95 (by decide) ?_
          refine dn_iadd S.1 S.2.1 d_Mo_stop_96 ?_
          refine dw_iast S.1 S.2.1 hw ds_k59 (by omega) d_Mo_stop_97 (fun f_8 H locs ef_8 hw => ?_)
          have g5 : f_8 54 1 = f 54 1 := by rw [ef_8, dw_w_ne (by decide)]; exact g4
          refine lv_aload_n S.1 S.2.1 d_Mo_stop_98 rfl (lv_at hl 0 rfl) ?_
          refine dw_getf (fi := 13) (v := .ref (a 65)) S hw i_Mo ds_ob54 (by decide) rfl wd_375 rfl d_Mo_stop_99 ?_
          refine lv_aload_n S.1 S.2.1 d_Mo_stop_102 rfl (lv_at hl 0 rfl) ?_
          refine dw_getf (fi := 1) (v := .int (nI (f_8 54 1))) S hw i_Mo ds_ob54 (by decide) rfl wd_363 rfl d_Mo_stop_103 ?_
          refine lv_iload_n S.1 S.2.1 d_Mo_stop_106 rfl (lv_at hl 1 rfl) ?_
          refine dw_iast S.1 S.2.1 hw ds_k65 (by omega) d_Mo_stop_107 (fun f_9 H locs ef_9 hw => ?_)
          have g6 : f_9 54 1 = f 54 1 := by rw [ef_9, dw_w_ne (by decide)]; exact g5
          refine lv_aload_n S.1 S.2.1 d_Mo_stop_108 rfl (lv_at hl 0 rfl) ?_
          refine dw_getf (fi := 22) (v := .ref (a 72)) S hw i_Mo ds_ob54 (by decide) rfl wd_384 rfl d_Mo_stop_109 ?_
          refine lv_aload_n S.1 S.2.1 d_Mo_stop_112 rfl (lv_at hl 0 rfl) ?_
          refine dw_getf (fi := 1) (v := .int (nI (f_9 54 1))) S hw i_Mo ds_ob54 (by decide) rfl wd_363 rfl d_Mo_stop_113 ?_
          refine lv_iload_n S.1 S.2.1 d_Mo_stop_116 rfl (lv_at hl 1 rfl) ?_
          refine dw_iast S.1 S.2.1 hw ds_k72 (by omega) d_Mo_stop_117 (fun f_10 H locs ef_10 hw => ?_)
          have g7 : f_10 54 1 = f 54 1 := by rw [ef_10, dw_w_ne (by decide)]; exact g6
          refine lv_aload_n S.1 S.2.1 d_Mo_stop_118 rfl (lv_at hl 0 rfl) ?_
          refine lv_dup S.1 S.2.1 d_Mo_stop_119 rfl ?_
          refine dw_getf (fi := 1) (v := .int (nI (f_10 54 1))) S hw i_Mo ds_ob54 (by decide) rfl wd_363 rfl d_Mo_stop_120 ?_
          refine lv_iconst (v := nI 1) S.1 S.2.1 d_Mo_stop_123 (by decide) ?_
          refine dn_iadd S.1 S.2.1 d_Mo_stop_124 ?_
          refine dw_putf (fi := 1) S hw i_Mo t_Mo t_Mo_ok n_Mo ds_ob54 (by decide) rfl wd_363 rfl (by decide +kernel) (Nat.le_of_ble_eq_true rfl) rfl d_Mo_stop_125 (fun f_11 H locs ef_11 hw => ?_)
          refine lv_aload_n S.1 S.2.1 d_Mo_stop_128 rfl (lv_at hl 0 rfl) ?_
          refine dw_getf (fi := 1) (v := .int (nI (f_11 54 1))) S hw i_Mo ds_ob54 (by decide) rfl wd_363 rfl d_Mo_stop_129 ?_
          refine lv_iconst (v := nI 1) S.1 S.2.1 d_Mo_stop_132 (by decide) ?_
          refine dn_isub S.1 S.2.1 (by rw [ef_11, dw_w_eq, dw_up_eq]; omega) d_Mo_stop_133 ?_
          exact hret H locs _ ls _ _ hw (by
    rw [if_pos ⟨by omega, h_14, h_27, h_39⟩]
    refine ⟨by rw [ef_11, dw_w_eq, dw_up_eq, g7]; rfl, ?_⟩
    rw [g7] at ef_11; rw [g6] at ef_10; rw [g5] at ef_9; rw [y4] at ef_8; rw [g3, y3] at ef_7; rw [g2] at ef_6; rw [g1] at ef_5
    rw [ef_11, ef_10, ef_9, ef_8, ef_7, ef_6, ef_5, ef_4]; rfl) d_Mo_stop_134
        · refine lv_iconst (v := (-1)) S.1 S.2.1 d_Mo_stop_41 (by decide) ?_
          exact hret H locs _ ls _ _ hw (by rw [if_neg (fun q => h_38 ((ds_lin (by decide)).mpr q.2.2.2))]; exact ⟨rfl, rfl⟩) d_Mo_stop_42
set_option maxHeartbeats 4000000 in
set_option maxRecDepth 100000 in
theorem m_freeze (l : Launch) (D : va_G) (g : Nat → ClassId) (a : Nat → Nat) (f : Nat → Nat → Nat) (x : Int32) (y : Nat) (hn : f 54 1 ≤ 8) (hy : y ≤ 1) : ds_I l D g a y_Mo_freeze b_Mo_freeze 3 .boolean 1 21 [.ref (a 54), .int x, .int (nI y)] f (fun r u => if ds_in x (f 54 1) then r = nI 1 ∧ u = dw_w f 60 x.toNatClampNeg y else r = nI 0 ∧ u = f) := by
  refine dw_ofI (by decide) (fun v u h => by split at h <;> (rw [h.1]; rfl)) (Nat.le_of_ble_eq_true rfl) ?_
  intro p e s m args below meth c ls A Q R H locs hR hA S hN hw hl hret
  have hl : lv_has ls 3 [(0, .ref (a 54)), (1, .int x), (2, .int (nI y))] := hl
  have S : CallFix p m c b_Mo_freeze 3 s args ds_T R_Mo := S
  refine lv_aload_n S.1 S.2.1 d_Mo_freeze_0 rfl (lv_at hl 0 rfl) ?_
  refine lv_iload_n S.1 S.2.1 d_Mo_freeze_1 rfl (lv_at hl 1 rfl) ?_
  refine dw_afti hw hA (dw_runV (As := [.int x]) (rest := []) (ko := 54) hw S ds_good (m_isStop l D g a f x (hn) H.size) cw_Mo_isStop wd_464 wd_466 ws_Mo_isStop ds_ob54 dw_blind (dw_pre hw hN) rfl hl.1 rfl ⟨Nat.le_trans (Nat.le_of_ble_eq_true rfl) hR.1, Nat.le_trans (Nat.le_of_ble_eq_true rfl) hR.2⟩ (Nat.le_of_ble_eq_true rfl) ⟨Nat.zero_le _, Nat.zero_le _⟩ d_Mo_freeze_2) (fun r_2 f_1 H locs hp hw => ?_)
  obtain ⟨er, ef⟩ := hp
  subst er
  rw [ef] at hw
  refine dn_ifb_ne S.1 S.2.1 10 d_Mo_freeze_5 (by decide) (fun h_5 => ?_) (fun h_5 => ?_)
  · obtain ⟨ex1, hx1⟩ := ds_in_nI h_5
    have hl : lv_has ls 3 [(0, .ref (a 54)), (1, .int (nI (x.toNatClampNeg))), (2, .int (nI y))] := by have hl2 := hl; rw [ex1] at hl2; exact hl2
    refine lv_aload_n S.1 S.2.1 d_Mo_freeze_10 rfl (lv_at hl 0 rfl) ?_
    refine dw_getf (fi := 7) (v := .ref (a 60)) S hw i_Mo ds_ob54 (by decide) rfl wd_369 rfl d_Mo_freeze_11 ?_
    refine lv_iload_n S.1 S.2.1 d_Mo_freeze_14 rfl (lv_at hl 1 rfl) ?_
    refine lv_iload_n S.1 S.2.1 d_Mo_freeze_15 rfl (lv_at hl 2 rfl) ?_
    refine dw_zast S.1 S.2.1 hw hy ds_k60 (by omega) d_Mo_freeze_16 (fun f_2 H locs ef_2 hw => ?_)
    refine lv_iconst (v := nI 1) S.1 S.2.1 d_Mo_freeze_17 (by decide) ?_
    exact hret H locs _ ls _ _ hw (by rw [if_pos h_5]; exact ⟨rfl, ef_2⟩) d_Mo_freeze_18
  · refine lv_iconst (v := nI 0) S.1 S.2.1 d_Mo_freeze_8 (by decide) ?_
    exact hret H locs _ ls _ _ hw (by rw [if_neg h_5]; exact ⟨rfl, rfl⟩) d_Mo_freeze_9
set_option maxHeartbeats 4000000 in
set_option maxRecDepth 100000 in
theorem m_block (l : Launch) (D : va_G) (g : Nat → ClassId) (a : Nat → Nat) (f : Nat → Nat → Nat) (x : Int32) (y : Nat) (hn : f 54 1 ≤ 8) (hy : y ≤ 1) : ds_I l D g a y_Mo_block b_Mo_block 3 .boolean 1 21 [.ref (a 54), .int x, .int (nI y)] f (fun r u => if ds_in x (f 54 1) then r = nI 1 ∧ u = dw_w f 61 x.toNatClampNeg y else r = nI 0 ∧ u = f) := by
  refine dw_ofI (by decide) (fun v u h => by split at h <;> (rw [h.1]; rfl)) (Nat.le_of_ble_eq_true rfl) ?_
  intro p e s m args below meth c ls A Q R H locs hR hA S hN hw hl hret
  have hl : lv_has ls 3 [(0, .ref (a 54)), (1, .int x), (2, .int (nI y))] := hl
  have S : CallFix p m c b_Mo_block 3 s args ds_T R_Mo := S
  refine lv_aload_n S.1 S.2.1 d_Mo_block_0 rfl (lv_at hl 0 rfl) ?_
  refine lv_iload_n S.1 S.2.1 d_Mo_block_1 rfl (lv_at hl 1 rfl) ?_
  refine dw_afti hw hA (dw_runV (As := [.int x]) (rest := []) (ko := 54) hw S ds_good (m_isStop l D g a f x (hn) H.size) cw_Mo_isStop wd_464 wd_466 ws_Mo_isStop ds_ob54 dw_blind (dw_pre hw hN) rfl hl.1 rfl ⟨Nat.le_trans (Nat.le_of_ble_eq_true rfl) hR.1, Nat.le_trans (Nat.le_of_ble_eq_true rfl) hR.2⟩ (Nat.le_of_ble_eq_true rfl) ⟨Nat.zero_le _, Nat.zero_le _⟩ d_Mo_block_2) (fun r_2 f_1 H locs hp hw => ?_)
  obtain ⟨er, ef⟩ := hp
  subst er
  rw [ef] at hw
  refine dn_ifb_ne S.1 S.2.1 10 d_Mo_block_5 (by decide) (fun h_5 => ?_) (fun h_5 => ?_)
  · obtain ⟨ex1, hx1⟩ := ds_in_nI h_5
    have hl : lv_has ls 3 [(0, .ref (a 54)), (1, .int (nI (x.toNatClampNeg))), (2, .int (nI y))] := by have hl2 := hl; rw [ex1] at hl2; exact hl2
    refine lv_aload_n S.1 S.2.1 d_Mo_block_10 rfl (lv_at hl 0 rfl) ?_
    refine dw_getf (fi := 8) (v := .ref (a 61)) S hw i_Mo ds_ob54 (by decide) rfl wd_370 rfl d_Mo_block_11 ?_
    refine lv_iload_n S.1 S.2.1 d_Mo_block_14 rfl (lv_at hl 1 rfl) ?_
    refine lv_iload_n S.1 S.2.1 d_Mo_block_15 rfl (lv_at hl 2 rfl) ?_
    refine dw_zast S.1 S.2.1 hw hy ds_k61 (by omega) d_Mo_block_16 (fun f_2 H locs ef_2 hw => ?_)
    refine lv_iconst (v := nI 1) S.1 S.2.1 d_Mo_block_17 (by decide) ?_
    exact hret H locs _ ls _ _ hw (by rw [if_pos h_5]; exact ⟨rfl, ef_2⟩) d_Mo_block_18
  · refine lv_iconst (v := nI 0) S.1 S.2.1 d_Mo_block_8 (by decide) ?_
    exact hret H locs _ ls _ _ hw (by rw [if_neg h_5]; exact ⟨rfl, rfl⟩) d_Mo_block_9
set_option maxHeartbeats 4000000 in
set_option maxRecDepth 100000 in
theorem m_out (l : Launch) (D : va_G) (g : Nat → ClassId) (a : Nat → Nat) (f : Nat → Nat → Nat) (x : Int32) (y : Int32) (hV : f 54 0 ≤ 3) : ds_I l D g a y_Mo_out b_Mo_out 3 .boolean 1 25 [.ref (a 54), .int x, .int y] f (fun r u => if ds_in x (f 54 0) ∧ ds_in y 9 then r = nI 1 ∧ u = dw_w f 62 x.toNatClampNeg y.toNatClampNeg else r = nI 0 ∧ u = f) := by
  refine dw_ofI (by decide) (fun v u h => by split at h <;> (rw [h.1]; rfl)) (Nat.le_of_ble_eq_true rfl) ?_
  intro p e s m args below meth c ls A Q R H locs hR hA S hN hw hl hret
  have hl : lv_has ls 3 [(0, .ref (a 54)), (1, .int x), (2, .int y)] := hl
  have S : CallFix p m c b_Mo_out 3 s args ds_T R_Mo := S
  refine lv_aload_n S.1 S.2.1 d_Mo_out_0 rfl (lv_at hl 0 rfl) ?_
  refine lv_iload_n S.1 S.2.1 d_Mo_out_1 rfl (lv_at hl 1 rfl) ?_
  refine dw_afti hw hA (dw_runV (As := [.int x]) (rest := []) (ko := 54) hw S ds_good (m_isVehicle l D g a f x (by omega) H.size) cw_Mo_isVehicle wd_451 wd_453 ws_Mo_isVehicle ds_ob54 dw_blind (dw_pre hw hN) rfl hl.1 rfl ⟨Nat.le_trans (Nat.le_of_ble_eq_true rfl) hR.1, Nat.le_trans (Nat.le_of_ble_eq_true rfl) hR.2⟩ (Nat.le_of_ble_eq_true rfl) ⟨Nat.zero_le _, Nat.zero_le _⟩ d_Mo_out_2) (fun r_2 f_1 H locs hp hw => ?_)
  obtain ⟨er, ef⟩ := hp
  subst er
  rw [ef] at hw
  refine dn_ifb_eq S.1 S.2.1 20 d_Mo_out_5 (by decide) (fun h_5 => ?_) (fun h_5 => ?_)
  · refine lv_iconst (v := nI 0) S.1 S.2.1 d_Mo_out_20 (by decide) ?_
    exact hret H locs _ ls _ _ hw (by rw [if_neg (fun q => h_5 q.1)]; exact ⟨rfl, rfl⟩) d_Mo_out_21
  · refine lv_iload_n S.1 S.2.1 d_Mo_out_8 rfl (lv_at hl 2 rfl) ?_
    refine lv_i2l (v := y.toInt64) S.1 S.2.1 d_Mo_out_9 rfl ?_
    refine lv_lconst (v := lN 0) S.1 S.2.1 d_Mo_out_10 rfl ?_
    refine lv_ldc2 (v := lN 8) S.1 S.2.1 S.2.2.2.1 (S.2.2.2.2 _ wd_476) d_Mo_out_11 ?_
    refine dw_afti hw hA (dw_runS (As := [.long (y.toInt64), .long (lN 0), .long (lN 8)]) (rest := []) S ds_good (m_isIn l D g a f (y.toInt64) (lN 0) (lN 8) H.size) cw_Mo_isIn wd_456 wd_457 dw_blind (dw_pre hw hN) rfl hl.1 rfl ⟨Nat.le_trans (Nat.le_of_ble_eq_true rfl) hR.1, Nat.le_trans (Nat.le_of_ble_eq_true rfl) hR.2⟩ (Nat.le_of_ble_eq_true rfl) ⟨Nat.zero_le _, Nat.zero_le _⟩ d_Mo_out_14) (fun r_14 f_2 H locs hp hw => ?_)
    obtain ⟨er, ef⟩ := hp
    subst er
    rw [ef] at hw
    refine dn_ifb_ne S.1 S.2.1 22 d_Mo_out_17 (by decide) (fun h_17 => ?_) (fun h_17 => ?_)
    · obtain ⟨ex1, hx1⟩ := ds_in_nI h_5
      have h_18 := (ds_lin (x := y) (n := 8) (by decide)).mp h_17
      obtain ⟨ex2, hx2⟩ := ds_in_nI h_18
      have hl : lv_has ls 3 [(0, .ref (a 54)), (1, .int (nI (x.toNatClampNeg))), (2, .int y)] := by have hl2 := hl; rw [ex1] at hl2; exact hl2
      have hl : lv_has ls 3 [(0, .ref (a 54)), (1, .int (nI (x.toNatClampNeg))), (2, .int (nI (y.toNatClampNeg)))] := by have hl2 := hl; rw [ex2] at hl2; exact hl2
      refine lv_aload_n S.1 S.2.1 d_Mo_out_22 rfl (lv_at hl 0 rfl) ?_
      refine dw_getf (fi := 9) (v := .ref (a 62)) S hw i_Mo ds_ob54 (by decide) rfl wd_371 rfl d_Mo_out_23 ?_
      refine lv_iload_n S.1 S.2.1 d_Mo_out_26 rfl (lv_at hl 1 rfl) ?_
      refine lv_iload_n S.1 S.2.1 d_Mo_out_27 rfl (lv_at hl 2 rfl) ?_
      refine dw_iast S.1 S.2.1 hw ds_k62 (by omega) d_Mo_out_28 (fun f_3 H locs ef_3 hw => ?_)
      refine lv_iconst (v := nI 1) S.1 S.2.1 d_Mo_out_29 (by decide) ?_
      exact hret H locs _ ls _ _ hw (by rw [if_pos ⟨h_5, h_18⟩]; exact ⟨rfl, ef_3⟩) d_Mo_out_30
    · refine lv_iconst (v := nI 0) S.1 S.2.1 d_Mo_out_20 (by decide) ?_
      exact hret H locs _ ls _ _ hw (by rw [if_neg (fun q => h_17 ((ds_lin (by decide)).mpr q.2))]; exact ⟨rfl, rfl⟩) d_Mo_out_21
set_option maxHeartbeats 4000000 in
set_option maxRecDepth 100000 in
theorem m_hours (l : Launch) (D : va_G) (g : Nat → ClassId) (a : Nat → Nat) (f : Nat → Nat → Nat) (x : Int32) (y : Int32) (hV : f 54 0 ≤ 3) : ds_I l D g a y_Mo_hours b_Mo_hours 3 .boolean 1 25 [.ref (a 54), .int x, .int y] f (fun r u => if ds_in x (f 54 0) ∧ ds_in y 100001 then r = nI 1 ∧ u = dw_w f 63 x.toNatClampNeg y.toNatClampNeg else r = nI 0 ∧ u = f) := by
  refine dw_ofI (by decide) (fun v u h => by split at h <;> (rw [h.1]; rfl)) (Nat.le_of_ble_eq_true rfl) ?_
  intro p e s m args below meth c ls A Q R H locs hR hA S hN hw hl hret
  have hl : lv_has ls 3 [(0, .ref (a 54)), (1, .int x), (2, .int y)] := hl
  have S : CallFix p m c b_Mo_hours 3 s args ds_T R_Mo := S
  refine lv_aload_n S.1 S.2.1 d_Mo_hours_0 rfl (lv_at hl 0 rfl) ?_
  refine lv_iload_n S.1 S.2.1 d_Mo_hours_1 rfl (lv_at hl 1 rfl) ?_
  refine dw_afti hw hA (dw_runV (As := [.int x]) (rest := []) (ko := 54) hw S ds_good (m_isVehicle l D g a f x (by omega) H.size) cw_Mo_isVehicle wd_451 wd_453 ws_Mo_isVehicle ds_ob54 dw_blind (dw_pre hw hN) rfl hl.1 rfl ⟨Nat.le_trans (Nat.le_of_ble_eq_true rfl) hR.1, Nat.le_trans (Nat.le_of_ble_eq_true rfl) hR.2⟩ (Nat.le_of_ble_eq_true rfl) ⟨Nat.zero_le _, Nat.zero_le _⟩ d_Mo_hours_2) (fun r_2 f_1 H locs hp hw => ?_)
  obtain ⟨er, ef⟩ := hp
  subst er
  rw [ef] at hw
  refine dn_ifb_eq S.1 S.2.1 20 d_Mo_hours_5 (by decide) (fun h_5 => ?_) (fun h_5 => ?_)
  · refine lv_iconst (v := nI 0) S.1 S.2.1 d_Mo_hours_20 (by decide) ?_
    exact hret H locs _ ls _ _ hw (by rw [if_neg (fun q => h_5 q.1)]; exact ⟨rfl, rfl⟩) d_Mo_hours_21
  · refine lv_iload_n S.1 S.2.1 d_Mo_hours_8 rfl (lv_at hl 2 rfl) ?_
    refine lv_i2l (v := y.toInt64) S.1 S.2.1 d_Mo_hours_9 rfl ?_
    refine lv_lconst (v := lN 0) S.1 S.2.1 d_Mo_hours_10 rfl ?_
    refine lv_ldc2 (v := lN 100000) S.1 S.2.1 S.2.2.2.1 (S.2.2.2.2 _ wd_485) d_Mo_hours_11 ?_
    refine dw_afti hw hA (dw_runS (As := [.long (y.toInt64), .long (lN 0), .long (lN 100000)]) (rest := []) S ds_good (m_isIn l D g a f (y.toInt64) (lN 0) (lN 100000) H.size) cw_Mo_isIn wd_456 wd_457 dw_blind (dw_pre hw hN) rfl hl.1 rfl ⟨Nat.le_trans (Nat.le_of_ble_eq_true rfl) hR.1, Nat.le_trans (Nat.le_of_ble_eq_true rfl) hR.2⟩ (Nat.le_of_ble_eq_true rfl) ⟨Nat.zero_le _, Nat.zero_le _⟩ d_Mo_hours_14) (fun r_14 f_2 H locs hp hw => ?_)
    obtain ⟨er, ef⟩ := hp
    subst er
    rw [ef] at hw
    refine dn_ifb_ne S.1 S.2.1 22 d_Mo_hours_17 (by decide) (fun h_17 => ?_) (fun h_17 => ?_)
    · obtain ⟨ex1, hx1⟩ := ds_in_nI h_5
      have h_18 := (ds_lin (x := y) (n := 100000) (by decide)).mp h_17
      obtain ⟨ex2, hx2⟩ := ds_in_nI h_18
      have hl : lv_has ls 3 [(0, .ref (a 54)), (1, .int (nI (x.toNatClampNeg))), (2, .int y)] := by have hl2 := hl; rw [ex1] at hl2; exact hl2
      have hl : lv_has ls 3 [(0, .ref (a 54)), (1, .int (nI (x.toNatClampNeg))), (2, .int (nI (y.toNatClampNeg)))] := by have hl2 := hl; rw [ex2] at hl2; exact hl2
      refine lv_aload_n S.1 S.2.1 d_Mo_hours_22 rfl (lv_at hl 0 rfl) ?_
      refine dw_getf (fi := 10) (v := .ref (a 63)) S hw i_Mo ds_ob54 (by decide) rfl wd_372 rfl d_Mo_hours_23 ?_
      refine lv_iload_n S.1 S.2.1 d_Mo_hours_26 rfl (lv_at hl 1 rfl) ?_
      refine lv_iload_n S.1 S.2.1 d_Mo_hours_27 rfl (lv_at hl 2 rfl) ?_
      refine dw_iast S.1 S.2.1 hw ds_k63 (by omega) d_Mo_hours_28 (fun f_3 H locs ef_3 hw => ?_)
      refine lv_iconst (v := nI 1) S.1 S.2.1 d_Mo_hours_29 (by decide) ?_
      exact hret H locs _ ls _ _ hw (by rw [if_pos ⟨h_5, h_18⟩]; exact ⟨rfl, ef_3⟩) d_Mo_hours_30
    · refine lv_iconst (v := nI 0) S.1 S.2.1 d_Mo_hours_20 (by decide) ?_
      exact hret H locs _ ls _ _ hw (by rw [if_neg (fun q => h_17 ((ds_lin (by decide)).mpr q.2))]; exact ⟨rfl, rfl⟩) d_Mo_hours_21
set_option maxHeartbeats 4000000 in
set_option maxRecDepth 100000 in
theorem m_way (l : Launch) (D : va_G) (g : Nat → ClassId) (a : Nat → Nat) (f : Nat → Nat → Nat) (x : Int32) (y : Int32) (z : Int32)  : ds_I l D g a y_Mo_way b_Mo_way 4 .boolean 1 25 [.ref (a 54), .int x, .int y, .int z] f (fun r u => if ds_in x 10 ∧ ds_in y 10 ∧ ¬ x = y ∧ ds_in z 10001 then r = nI 1 ∧ u = dw_w (dw_w f 64 (10 * x.toNatClampNeg + y.toNatClampNeg) z.toNatClampNeg) 64 (10 * y.toNatClampNeg + x.toNatClampNeg) z.toNatClampNeg else r = nI 0 ∧ u = f) := by
  refine dw_ofI (by decide) (fun v u h => by split at h <;> (rw [h.1]; rfl)) (Nat.le_of_ble_eq_true rfl) ?_
  intro p e s m args below meth c ls A Q R H locs hR hA S hN hw hl hret
  have hl : lv_has ls 4 [(0, .ref (a 54)), (1, .int x), (2, .int y), (3, .int z)] := hl
  have S : CallFix p m c b_Mo_way 4 s args ds_T R_Mo := S
  refine lv_iload_n S.1 S.2.1 d_Mo_way_0 rfl (lv_at hl 1 rfl) ?_
  refine lv_i2l (v := x.toInt64) S.1 S.2.1 d_Mo_way_1 rfl ?_
  refine lv_lconst (v := lN 0) S.1 S.2.1 d_Mo_way_2 rfl ?_
  refine lv_ldc2 (v := lN 9) S.1 S.2.1 S.2.2.2.1 (S.2.2.2.2 _ wd_455) d_Mo_way_3 ?_
  refine dw_afti hw hA (dw_runS (As := [.long (x.toInt64), .long (lN 0), .long (lN 9)]) (rest := []) S ds_good (m_isIn l D g a f (x.toInt64) (lN 0) (lN 9) H.size) cw_Mo_isIn wd_456 wd_457 dw_blind (dw_pre hw hN) rfl hl.1 rfl ⟨Nat.le_trans (Nat.le_of_ble_eq_true rfl) hR.1, Nat.le_trans (Nat.le_of_ble_eq_true rfl) hR.2⟩ (Nat.le_of_ble_eq_true rfl) ⟨Nat.zero_le _, Nat.zero_le _⟩ d_Mo_way_6) (fun r_6 f_1 H locs hp hw => ?_)
  obtain ⟨er, ef⟩ := hp
  subst er
  rw [ef] at hw
  refine dn_ifb_eq S.1 S.2.1 41 d_Mo_way_9 (by decide) (fun h_9 => ?_) (fun h_9 => ?_)
  · refine lv_iconst (v := nI 0) S.1 S.2.1 d_Mo_way_41 (by decide) ?_
    exact hret H locs _ ls _ _ hw (by rw [if_neg (fun q => h_9 ((ds_lin (by decide)).mpr q.1))]; exact ⟨rfl, rfl⟩) d_Mo_way_42
  · refine lv_iload_n S.1 S.2.1 d_Mo_way_12 rfl (lv_at hl 2 rfl) ?_
    refine lv_i2l (v := y.toInt64) S.1 S.2.1 d_Mo_way_13 rfl ?_
    refine lv_lconst (v := lN 0) S.1 S.2.1 d_Mo_way_14 rfl ?_
    refine lv_ldc2 (v := lN 9) S.1 S.2.1 S.2.2.2.1 (S.2.2.2.2 _ wd_455) d_Mo_way_15 ?_
    refine dw_afti hw hA (dw_runS (As := [.long (y.toInt64), .long (lN 0), .long (lN 9)]) (rest := []) S ds_good (m_isIn l D g a f (y.toInt64) (lN 0) (lN 9) H.size) cw_Mo_isIn wd_456 wd_457 dw_blind (dw_pre hw hN) rfl hl.1 rfl ⟨Nat.le_trans (Nat.le_of_ble_eq_true rfl) hR.1, Nat.le_trans (Nat.le_of_ble_eq_true rfl) hR.2⟩ (Nat.le_of_ble_eq_true rfl) ⟨Nat.zero_le _, Nat.zero_le _⟩ d_Mo_way_18) (fun r_18 f_2 H locs hp hw => ?_)
    obtain ⟨er, ef⟩ := hp
    subst er
    rw [ef] at hw
    refine dn_ifb_eq S.1 S.2.1 41 d_Mo_way_21 (by decide) (fun h_21 => ?_) (fun h_21 => ?_)
    · refine lv_iconst (v := nI 0) S.1 S.2.1 d_Mo_way_41 (by decide) ?_
      exact hret H locs _ ls _ _ hw (by rw [if_neg (fun q => h_21 ((ds_lin (by decide)).mpr q.2.1))]; exact ⟨rfl, rfl⟩) d_Mo_way_42
    · refine lv_iload_n S.1 S.2.1 d_Mo_way_24 rfl (lv_at hl 1 rfl) ?_
      refine lv_iload_n S.1 S.2.1 d_Mo_way_25 rfl (lv_at hl 2 rfl) ?_
      refine lv_icmp_eq (tgt := 41) S.1 S.2.1 d_Mo_way_26 (by decide) (fun h_26 => ?_) (fun h_26 => ?_)
      · refine lv_iconst (v := nI 0) S.1 S.2.1 d_Mo_way_41 (by decide) ?_
        exact hret H locs _ ls _ _ hw (by rw [if_neg (fun q => q.2.2.1 h_26)]; exact ⟨rfl, rfl⟩) d_Mo_way_42
      · refine lv_iload_n S.1 S.2.1 d_Mo_way_29 rfl (lv_at hl 3 rfl) ?_
        refine lv_i2l (v := z.toInt64) S.1 S.2.1 d_Mo_way_30 rfl ?_
        refine lv_lconst (v := lN 0) S.1 S.2.1 d_Mo_way_31 rfl ?_
        refine lv_ldc2 (v := lN 10000) S.1 S.2.1 S.2.2.2.1 (S.2.2.2.2 _ wd_459) d_Mo_way_32 ?_
        refine dw_afti hw hA (dw_runS (As := [.long (z.toInt64), .long (lN 0), .long (lN 10000)]) (rest := []) S ds_good (m_isIn l D g a f (z.toInt64) (lN 0) (lN 10000) H.size) cw_Mo_isIn wd_456 wd_457 dw_blind (dw_pre hw hN) rfl hl.1 rfl ⟨Nat.le_trans (Nat.le_of_ble_eq_true rfl) hR.1, Nat.le_trans (Nat.le_of_ble_eq_true rfl) hR.2⟩ (Nat.le_of_ble_eq_true rfl) ⟨Nat.zero_le _, Nat.zero_le _⟩ d_Mo_way_35) (fun r_35 f_3 H locs hp hw => ?_)
        obtain ⟨er, ef⟩ := hp
        subst er
        rw [ef] at hw
        refine dn_ifb_ne S.1 S.2.1 43 d_Mo_way_38 (by decide) (fun h_38 => ?_) (fun h_38 => ?_)
        · have h_10 := (ds_lin (x := x) (n := 9) (by decide)).mp h_9
          have h_22 := (ds_lin (x := y) (n := 9) (by decide)).mp h_21
          have h_39 := (ds_lin (x := z) (n := 10000) (by decide)).mp h_38
          obtain ⟨ex1, hx1⟩ := ds_in_nI h_10
          obtain ⟨ex2, hx2⟩ := ds_in_nI h_22
          obtain ⟨ex3, hx3⟩ := ds_in_nI h_39
          have hl : lv_has ls 4 [(0, .ref (a 54)), (1, .int (nI (x.toNatClampNeg))), (2, .int y), (3, .int z)] := by have hl2 := hl; rw [ex1] at hl2; exact hl2
          have hl : lv_has ls 4 [(0, .ref (a 54)), (1, .int (nI (x.toNatClampNeg))), (2, .int (nI (y.toNatClampNeg))), (3, .int z)] := by have hl2 := hl; rw [ex2] at hl2; exact hl2
          have hl : lv_has ls 4 [(0, .ref (a 54)), (1, .int (nI (x.toNatClampNeg))), (2, .int (nI (y.toNatClampNeg))), (3, .int (nI (z.toNatClampNeg)))] := by have hl2 := hl; rw [ex3] at hl2; exact hl2
          refine lv_aload_n S.1 S.2.1 d_Mo_way_43 rfl (lv_at hl 0 rfl) ?_
          refine dw_getf (fi := 11) (v := .ref (a 64)) S hw i_Mo ds_ob54 (by decide) rfl wd_373 rfl d_Mo_way_44 ?_
          refine lv_bipush (v := nI 10) S.1 S.2.1 d_Mo_way_47 (by decide) ?_
          refine lv_iload_n S.1 S.2.1 d_Mo_way_49 rfl (lv_at hl 1 rfl) ?_
          refine dn_imul S.1 S.2.1 d_Mo_way_50 ?_
          refine lv_iload_n S.1 S.2.1 d_Mo_way_51 rfl (lv_at hl 2 rfl) ?_
          refine dn_iadd S.1 S.2.1 d_Mo_way_52 ?_
          refine lv_iload_n S.1 S.2.1 d_Mo_way_53 rfl (lv_at hl 3 rfl) ?_
          refine dw_iast S.1 S.2.1 hw ds_k64 (by omega) d_Mo_way_54 (fun f_4 H locs ef_4 hw => ?_)
          refine lv_aload_n S.1 S.2.1 d_Mo_way_55 rfl (lv_at hl 0 rfl) ?_
          refine dw_getf (fi := 11) (v := .ref (a 64)) S hw i_Mo ds_ob54 (by decide) rfl wd_373 rfl d_Mo_way_56 ?_
          refine lv_bipush (v := nI 10) S.1 S.2.1 d_Mo_way_59 (by decide) ?_
          refine lv_iload_n S.1 S.2.1 d_Mo_way_61 rfl (lv_at hl 2 rfl) ?_
          refine dn_imul S.1 S.2.1 d_Mo_way_62 ?_
          refine lv_iload_n S.1 S.2.1 d_Mo_way_63 rfl (lv_at hl 1 rfl) ?_
          refine dn_iadd S.1 S.2.1 d_Mo_way_64 ?_
          refine lv_iload_n S.1 S.2.1 d_Mo_way_65 rfl (lv_at hl 3 rfl) ?_
          refine dw_iast S.1 S.2.1 hw ds_k64 (by omega) d_Mo_way_66 (fun f_5 H locs ef_5 hw => ?_)
          refine lv_iconst (v := nI 1) S.1 S.2.1 d_Mo_way_67 (by decide) ?_
          exact hret H locs _ ls _ _ hw (by rw [if_pos ⟨h_10, h_22, h_26, h_39⟩]; exact ⟨rfl, by rw [ef_5, ef_4]⟩) d_Mo_way_68
        · refine lv_iconst (v := nI 0) S.1 S.2.1 d_Mo_way_41 (by decide) ?_
          exact hret H locs _ ls _ _ hw (by rw [if_neg (fun q => h_38 ((ds_lin (by decide)).mpr q.2.2.2))]; exact ⟨rfl, rfl⟩) d_Mo_way_42
set_option maxHeartbeats 4000000 in
set_option maxRecDepth 100000 in
theorem m_extra (l : Launch) (D : va_G) (g : Nat → ClassId) (a : Nat → Nat) (f : Nat → Nat → Nat) (x : Int32)  : ds_I l D g a y_Mo_extra b_Mo_extra 2 .boolean 1 25 [.ref (a 54), .int x] f (fun r u => if ds_in x 100001 then r = nI 1 ∧ u = dw_w f 54 12 x.toNatClampNeg else r = nI 0 ∧ u = f) := by
  refine dw_ofI (by decide) (fun v u h => by split at h <;> (rw [h.1]; rfl)) (Nat.le_of_ble_eq_true rfl) ?_
  intro p e s m args below meth c ls A Q R H locs hR hA S hN hw hl hret
  have hl : lv_has ls 2 [(0, .ref (a 54)), (1, .int x)] := hl
  have S : CallFix p m c b_Mo_extra 2 s args ds_T R_Mo := S
  refine lv_iload_n S.1 S.2.1 d_Mo_extra_0 rfl (lv_at hl 1 rfl) ?_
  refine lv_i2l (v := x.toInt64) S.1 S.2.1 d_Mo_extra_1 rfl ?_
  refine lv_lconst (v := lN 0) S.1 S.2.1 d_Mo_extra_2 rfl ?_
  refine lv_ldc2 (v := lN 100000) S.1 S.2.1 S.2.2.2.1 (S.2.2.2.2 _ wd_485) d_Mo_extra_3 ?_
  refine dw_afti hw hA (dw_runS (As := [.long (x.toInt64), .long (lN 0), .long (lN 100000)]) (rest := []) S ds_good (m_isIn l D g a f (x.toInt64) (lN 0) (lN 100000) H.size) cw_Mo_isIn wd_456 wd_457 dw_blind (dw_pre hw hN) rfl hl.1 rfl ⟨Nat.le_trans (Nat.le_of_ble_eq_true rfl) hR.1, Nat.le_trans (Nat.le_of_ble_eq_true rfl) hR.2⟩ (Nat.le_of_ble_eq_true rfl) ⟨Nat.zero_le _, Nat.zero_le _⟩ d_Mo_extra_6) (fun r_6 f_1 H locs hp hw => ?_)
  obtain ⟨er, ef⟩ := hp
  subst er
  rw [ef] at hw
  refine dn_ifb_ne S.1 S.2.1 14 d_Mo_extra_9 (by decide) (fun h_9 => ?_) (fun h_9 => ?_)
  · have h_10 := (ds_lin (x := x) (n := 100000) (by decide)).mp h_9
    obtain ⟨ex1, hx1⟩ := ds_in_nI h_10
    have hl : lv_has ls 2 [(0, .ref (a 54)), (1, .int (nI (x.toNatClampNeg)))] := by have hl2 := hl; rw [ex1] at hl2; exact hl2
    refine lv_aload_n S.1 S.2.1 d_Mo_extra_14 rfl (lv_at hl 0 rfl) ?_
    refine lv_iload_n S.1 S.2.1 d_Mo_extra_15 rfl (lv_at hl 1 rfl) ?_
    refine dw_putf (fi := 12) S hw i_Mo t_Mo t_Mo_ok n_Mo ds_ob54 (by decide) rfl wd_374 rfl (by decide +kernel) (Nat.le_of_ble_eq_true rfl) rfl d_Mo_extra_16 (fun f_2 H locs ef_2 hw => ?_)
    refine lv_iconst (v := nI 1) S.1 S.2.1 d_Mo_extra_19 (by decide) ?_
    exact hret H locs _ ls _ _ hw (by rw [if_pos h_10]; exact ⟨rfl, ef_2⟩) d_Mo_extra_20
  · refine lv_iconst (v := nI 0) S.1 S.2.1 d_Mo_extra_12 (by decide) ?_
    exact hret H locs _ ls _ _ hw (by rw [if_neg (fun q => h_9 ((ds_lin (by decide)).mpr q))]; exact ⟨rfl, rfl⟩) d_Mo_extra_13
set_option maxHeartbeats 4000000 in
set_option maxRecDepth 100000 in
theorem m_vehicleOf (l : Launch) (D : va_G) (g : Nat → ClassId) (a : Nat → Nat) (f : Nat → Nat → Nat) (x : Int32) (hn : f 54 1 ≤ 8) : ds_I l D g a y_Mo_vehicleOf b_Mo_vehicleOf 2 .int 1 21 [.ref (a 54), .int x] f (fun r u => (if ds_in x (f 54 1) then r = nI (f 65 x.toNatClampNeg) else r = (-1)) ∧ u = f) := by
  refine dw_ofI (by decide) (fun _ _ _ => rfl) (Nat.le_of_ble_eq_true rfl) ?_
  intro p e s m args below meth c ls A Q R H locs hR hA S hN hw hl hret
  have hl : lv_has ls 2 [(0, .ref (a 54)), (1, .int x)] := hl
  have S : CallFix p m c b_Mo_vehicleOf 2 s args ds_T R_Mo := S
  refine lv_aload_n S.1 S.2.1 d_Mo_vehicleOf_0 rfl (lv_at hl 0 rfl) ?_
  refine lv_iload_n S.1 S.2.1 d_Mo_vehicleOf_1 rfl (lv_at hl 1 rfl) ?_
  refine dw_afti hw hA (dw_runV (As := [.int x]) (rest := []) (ko := 54) hw S ds_good (m_isStop l D g a f x (hn) H.size) cw_Mo_isStop wd_464 wd_466 ws_Mo_isStop ds_ob54 dw_blind (dw_pre hw hN) rfl hl.1 rfl ⟨Nat.le_trans (Nat.le_of_ble_eq_true rfl) hR.1, Nat.le_trans (Nat.le_of_ble_eq_true rfl) hR.2⟩ (Nat.le_of_ble_eq_true rfl) ⟨Nat.zero_le _, Nat.zero_le _⟩ d_Mo_vehicleOf_2) (fun r_2 f_1 H locs hp hw => ?_)
  obtain ⟨er, ef⟩ := hp
  subst er
  rw [ef] at hw
  refine dn_ifb_eq S.1 S.2.1 17 d_Mo_vehicleOf_5 (by decide) (fun h_5 => ?_) (fun h_5 => ?_)
  · refine lv_iconst (v := (-1)) S.1 S.2.1 d_Mo_vehicleOf_17 (by decide) ?_
    exact hret H locs _ ls _ _ hw (⟨by rw [if_neg h_5], rfl⟩) d_Mo_vehicleOf_18
  · obtain ⟨ex1, hx1⟩ := ds_in_nI h_5
    have hl : lv_has ls 2 [(0, .ref (a 54)), (1, .int (nI (x.toNatClampNeg)))] := by have hl2 := hl; rw [ex1] at hl2; exact hl2
    refine lv_aload_n S.1 S.2.1 d_Mo_vehicleOf_8 rfl (lv_at hl 0 rfl) ?_
    refine dw_getf (fi := 13) (v := .ref (a 65)) S hw i_Mo ds_ob54 (by decide) rfl wd_375 rfl d_Mo_vehicleOf_9 ?_
    refine lv_iload_n S.1 S.2.1 d_Mo_vehicleOf_12 rfl (lv_at hl 1 rfl) ?_
    refine dw_iald S.1 S.2.1 hw ds_k65 (by omega) d_Mo_vehicleOf_13 ?_
    refine lv_goto (tgt := 18) S.1 S.2.1 d_Mo_vehicleOf_14 (by decide) ?_
    exact hret H locs _ ls _ _ hw (⟨by rw [if_pos h_5], rfl⟩) d_Mo_vehicleOf_18
set_option maxHeartbeats 4000000 in
set_option maxRecDepth 100000 in
theorem m_sent (l : Launch) (D : va_G) (g : Nat → ClassId) (a : Nat → Nat) (f : Nat → Nat → Nat) (x : Int32) (hn : f 54 1 ≤ 8) : ds_I l D g a y_Mo_sent b_Mo_sent 2 .int 1 21 [.ref (a 54), .int x] f (fun r u => (if ds_in x (f 54 1) then r = nI (f 73 x.toNatClampNeg) else r = (-1)) ∧ u = f) := by
  refine dw_ofI (by decide) (fun _ _ _ => rfl) (Nat.le_of_ble_eq_true rfl) ?_
  intro p e s m args below meth c ls A Q R H locs hR hA S hN hw hl hret
  have hl : lv_has ls 2 [(0, .ref (a 54)), (1, .int x)] := hl
  have S : CallFix p m c b_Mo_sent 2 s args ds_T R_Mo := S
  refine lv_aload_n S.1 S.2.1 d_Mo_sent_0 rfl (lv_at hl 0 rfl) ?_
  refine lv_iload_n S.1 S.2.1 d_Mo_sent_1 rfl (lv_at hl 1 rfl) ?_
  refine dw_afti hw hA (dw_runV (As := [.int x]) (rest := []) (ko := 54) hw S ds_good (m_isStop l D g a f x (hn) H.size) cw_Mo_isStop wd_464 wd_466 ws_Mo_isStop ds_ob54 dw_blind (dw_pre hw hN) rfl hl.1 rfl ⟨Nat.le_trans (Nat.le_of_ble_eq_true rfl) hR.1, Nat.le_trans (Nat.le_of_ble_eq_true rfl) hR.2⟩ (Nat.le_of_ble_eq_true rfl) ⟨Nat.zero_le _, Nat.zero_le _⟩ d_Mo_sent_2) (fun r_2 f_1 H locs hp hw => ?_)
  obtain ⟨er, ef⟩ := hp
  subst er
  rw [ef] at hw
  refine dn_ifb_eq S.1 S.2.1 17 d_Mo_sent_5 (by decide) (fun h_5 => ?_) (fun h_5 => ?_)
  · refine lv_iconst (v := (-1)) S.1 S.2.1 d_Mo_sent_17 (by decide) ?_
    exact hret H locs _ ls _ _ hw (⟨by rw [if_neg h_5], rfl⟩) d_Mo_sent_18
  · obtain ⟨ex1, hx1⟩ := ds_in_nI h_5
    have hl : lv_has ls 2 [(0, .ref (a 54)), (1, .int (nI (x.toNatClampNeg)))] := by have hl2 := hl; rw [ex1] at hl2; exact hl2
    refine lv_aload_n S.1 S.2.1 d_Mo_sent_8 rfl (lv_at hl 0 rfl) ?_
    refine dw_getf (fi := 23) (v := .ref (a 73)) S hw i_Mo ds_ob54 (by decide) rfl wd_385 rfl d_Mo_sent_9 ?_
    refine lv_iload_n S.1 S.2.1 d_Mo_sent_12 rfl (lv_at hl 1 rfl) ?_
    refine dw_iald S.1 S.2.1 hw ds_k73 (by omega) d_Mo_sent_13 ?_
    refine lv_goto (tgt := 18) S.1 S.2.1 d_Mo_sent_14 (by decide) ?_
    exact hret H locs _ ls _ _ hw (⟨by rw [if_pos h_5], rfl⟩) d_Mo_sent_18
set_option maxHeartbeats 4000000 in
set_option maxRecDepth 100000 in
theorem m_moved (l : Launch) (D : va_G) (g : Nat → ClassId) (a : Nat → Nat) (f : Nat → Nat → Nat) (k : Int32) (hn : f 54 1 ≤ 8) (hb : ∀ x, x < f 54 1 → f 65 x < 2 ^ 31 ∧ f 57 x < 2 ^ 31) : ds_I l D g a y_Mo_moved b_Mo_moved 4 .int 0 0 [.ref (a 54), .int k] f (fun r u => r = ds_find (fun x => f 65 x != f 57 x) k (f 54 1) 0 0 ∧ u = f) := by
  refine dw_ofI (by decide) (fun _ _ _ => rfl) (Nat.le_of_ble_eq_true rfl) ?_
  intro p e s m args below meth c ls A Q R H locs hR hA S hN hw hl hret
  have hl : lv_has ls 4 [(0, .ref (a 54)), (1, .int k)] := hl
  have S : CallFix p m c b_Mo_moved 4 s args ds_T R_Mo := S
  refine lv_iconst (v := nI 0) S.1 S.2.1 d_Mo_moved_0 (by decide) ?_
  refine lv_istore_n (lv' := [(2, .int (nI 0)), (0, .ref (a 54)), (1, .int k)]) S.1 S.2.1 d_Mo_moved_1 rfl hl (by decide) rfl (fun ls hl => ?_)
  refine lv_iconst (v := nI 0) S.1 S.2.1 d_Mo_moved_2 (by decide) ?_
  refine lv_istore_n (lv' := [(3, .int (nI 0)), (2, .int (nI 0)), (0, .ref (a 54)), (1, .int k)]) S.1 S.2.1 d_Mo_moved_3 rfl hl (by decide) rfl (fun ls hl => ?_)
  have loop_4 : ∀ (n : Nat) (b : Nat) (i : Nat) (hi : i ≤ f 54 1) (hE : ds_find (fun x => f 65 x != f 57 x) k (f 54 1) 0 0 = ds_find (fun x => f 65 x != f 57 x) k (f 54 1 - i) i b) (_ : f 54 1 - i < n) (H : Heap) (locs : List Loc), dw_W D classes (ds_tys g) A s.heap (dw_l 77 (ds_ce g a) a f) s H locs → ∀ (ls : Array Slot), lv_has ls 4 [(0, .ref (a 54)), (1, .int k), (2, .int (nI b)), (3, .int (nI i))] → W p l e R s m args below meth c H locs 0 0 Q (F0 m 4 ls []) := by
    intro n
    induction n with
    | zero => intro b i hi hE h9; exact absurd h9 (Nat.not_lt_zero _)
    | succ n ih_4 =>
      intro b i hi hE hm_4 H locs hw ls hl
      refine lv_iload_n S.1 S.2.1 d_Mo_moved_4 rfl (lv_at hl 3 rfl) ?_
      refine lv_aload_n S.1 S.2.1 d_Mo_moved_5 rfl (lv_at hl 0 rfl) ?_
      refine dw_getf (fi := 1) (v := .int (nI (f 54 1))) S hw i_Mo ds_ob54 (by decide) rfl wd_363 rfl d_Mo_moved_6 ?_
      refine dn_icmp_ge S.1 S.2.1 43 (by omega) (by omega) d_Mo_moved_9 (by decide) (fun h_9 => ?_) (fun h_9 => ?_)
      · refine lv_iconst (v := (-1)) S.1 S.2.1 d_Mo_moved_43 (by decide) ?_
        exact hret H locs _ ls _ _ hw (⟨by rw [hE, show f 54 1 - i = 0 by omega]; rfl, rfl⟩) d_Mo_moved_44
      · have b1 := hb i (by omega)
        refine lv_aload_n S.1 S.2.1 d_Mo_moved_12 rfl (lv_at hl 0 rfl) ?_
        refine dw_getf (fi := 13) (v := .ref (a 65)) S hw i_Mo ds_ob54 (by decide) rfl wd_375 rfl d_Mo_moved_13 ?_
        refine lv_iload_n S.1 S.2.1 d_Mo_moved_16 rfl (lv_at hl 3 rfl) ?_
        refine dw_iald S.1 S.2.1 hw ds_k65 (by omega) d_Mo_moved_17 ?_
        refine lv_aload_n S.1 S.2.1 d_Mo_moved_18 rfl (lv_at hl 0 rfl) ?_
        refine dw_getf (fi := 4) (v := .ref (a 57)) S hw i_Mo ds_ob54 (by decide) rfl wd_366 rfl d_Mo_moved_19 ?_
        refine lv_iload_n S.1 S.2.1 d_Mo_moved_22 rfl (lv_at hl 3 rfl) ?_
        refine dw_iald S.1 S.2.1 hw ds_k57 (by omega) d_Mo_moved_23 ?_
        refine dn_icmp_eq S.1 S.2.1 37 (by omega) (by omega) d_Mo_moved_24 (by decide) (fun h_24 => ?_) (fun h_24 => ?_)
        · refine lv_iinc (v := nI (i + 1)) (lv' := [(3, .int (nI (i + 1))), (0, .ref (a 54)), (1, .int k), (2, .int (nI b))]) S.1 S.2.1 d_Mo_moved_37 hl (k := 3) rfl (by rw [show Int32.ofInt 1 = nI 1 from rfl, nI_add]) (by decide) rfl (fun ls hl => ?_)
          refine lv_goto (tgt := 4) S.1 S.2.1 d_Mo_moved_40 (by decide) ?_
          exact ih_4 b (i + 1) (by omega) (by rw [hE, show f 54 1 - i = (f 54 1 - (i + 1)) + 1 by omega]; simp [ds_find, h_24]) (by omega) H locs hw ls (lv_sub hl [1, 2, 3, 0] rfl)
        · refine lv_iload_n S.1 S.2.1 d_Mo_moved_27 rfl (lv_at hl 2 rfl) ?_
          refine lv_iload_n S.1 S.2.1 d_Mo_moved_28 rfl (lv_at hl 1 rfl) ?_
          refine lv_icmp_ne (tgt := 34) S.1 S.2.1 d_Mo_moved_29 (by decide) (fun h_29 => ?_) (fun h_29 => ?_)
          · refine lv_iinc (v := nI (b + 1)) (lv' := [(2, .int (nI (b + 1))), (0, .ref (a 54)), (1, .int k), (3, .int (nI i))]) S.1 S.2.1 d_Mo_moved_34 hl (k := 2) rfl (by rw [show Int32.ofInt 1 = nI 1 from rfl, nI_add]) (by decide) rfl (fun ls hl => ?_)
            refine lv_iinc (v := nI (i + 1)) (lv' := [(3, .int (nI (i + 1))), (2, .int (nI (b + 1))), (0, .ref (a 54)), (1, .int k)]) S.1 S.2.1 d_Mo_moved_37 hl (k := 3) rfl (by rw [show Int32.ofInt 1 = nI 1 from rfl, nI_add]) (by decide) rfl (fun ls hl => ?_)
            refine lv_goto (tgt := 4) S.1 S.2.1 d_Mo_moved_40 (by decide) ?_
            exact ih_4 (b + 1) (i + 1) (by omega) (by rw [hE, show f 54 1 - i = (f 54 1 - (i + 1)) + 1 by omega]; simp [ds_find, h_24, h_29]) (by omega) H locs hw ls (lv_sub hl [2, 3, 1, 0] rfl)
          · refine lv_iload_n S.1 S.2.1 d_Mo_moved_32 rfl (lv_at hl 3 rfl) ?_
            exact hret H locs _ ls _ _ hw (⟨by rw [hE, show f 54 1 - i = (f 54 1 - (i + 1)) + 1 by omega]; simp [ds_find, h_24, h_29], rfl⟩) d_Mo_moved_33
  exact loop_4 _ 0 0 (Nat.zero_le _) (rfl) (Nat.lt_succ_self _) H locs hw ls (lv_sub hl [2, 3, 1, 0] rfl)
set_option maxHeartbeats 4000000 in
set_option maxRecDepth 100000 in
theorem m_carried (l : Launch) (D : va_G) (g : Nat → ClassId) (a : Nat → Nat) (f : Nat → Nat → Nat) (k : Int32) (hn : f 54 1 ≤ 8) (hV : f 54 0 ≤ 3) (hb : ∀ x, x < f 54 1 → f 65 x < 2 ^ 31) : ds_I l D g a y_Mo_carried b_Mo_carried 4 .int 0 0 [.ref (a 54), .int k] f (fun r u => r = ds_find (fun x => f 65 x == f 54 0) k (f 54 1) 0 0 ∧ u = f) := by
  refine dw_ofI (by decide) (fun _ _ _ => rfl) (Nat.le_of_ble_eq_true rfl) ?_
  intro p e s m args below meth c ls A Q R H locs hR hA S hN hw hl hret
  have hl : lv_has ls 4 [(0, .ref (a 54)), (1, .int k)] := hl
  have S : CallFix p m c b_Mo_carried 4 s args ds_T R_Mo := S
  refine lv_iconst (v := nI 0) S.1 S.2.1 d_Mo_carried_0 (by decide) ?_
  refine lv_istore_n (lv' := [(2, .int (nI 0)), (0, .ref (a 54)), (1, .int k)]) S.1 S.2.1 d_Mo_carried_1 rfl hl (by decide) rfl (fun ls hl => ?_)
  refine lv_iconst (v := nI 0) S.1 S.2.1 d_Mo_carried_2 (by decide) ?_
  refine lv_istore_n (lv' := [(3, .int (nI 0)), (2, .int (nI 0)), (0, .ref (a 54)), (1, .int k)]) S.1 S.2.1 d_Mo_carried_3 rfl hl (by decide) rfl (fun ls hl => ?_)
  have loop_4 : ∀ (n : Nat) (b : Nat) (i : Nat) (hi : i ≤ f 54 1) (hE : ds_find (fun x => f 65 x == f 54 0) k (f 54 1) 0 0 = ds_find (fun x => f 65 x == f 54 0) k (f 54 1 - i) i b) (_ : f 54 1 - i < n) (H : Heap) (locs : List Loc), dw_W D classes (ds_tys g) A s.heap (dw_l 77 (ds_ce g a) a f) s H locs → ∀ (ls : Array Slot), lv_has ls 4 [(0, .ref (a 54)), (1, .int k), (2, .int (nI b)), (3, .int (nI i))] → W p l e R s m args below meth c H locs 0 0 Q (F0 m 4 ls []) := by
    intro n
    induction n with
    | zero => intro b i hi hE h9; exact absurd h9 (Nat.not_lt_zero _)
    | succ n ih_4 =>
      intro b i hi hE hm_4 H locs hw ls hl
      refine lv_iload_n S.1 S.2.1 d_Mo_carried_4 rfl (lv_at hl 3 rfl) ?_
      refine lv_aload_n S.1 S.2.1 d_Mo_carried_5 rfl (lv_at hl 0 rfl) ?_
      refine dw_getf (fi := 1) (v := .int (nI (f 54 1))) S hw i_Mo ds_ob54 (by decide) rfl wd_363 rfl d_Mo_carried_6 ?_
      refine dn_icmp_ge S.1 S.2.1 41 (by omega) (by omega) d_Mo_carried_9 (by decide) (fun h_9 => ?_) (fun h_9 => ?_)
      · refine lv_iconst (v := (-1)) S.1 S.2.1 d_Mo_carried_41 (by decide) ?_
        exact hret H locs _ ls _ _ hw (⟨by rw [hE, show f 54 1 - i = 0 by omega]; rfl, rfl⟩) d_Mo_carried_42
      · have b1 := hb i (by omega)
        refine lv_aload_n S.1 S.2.1 d_Mo_carried_12 rfl (lv_at hl 0 rfl) ?_
        refine dw_getf (fi := 13) (v := .ref (a 65)) S hw i_Mo ds_ob54 (by decide) rfl wd_375 rfl d_Mo_carried_13 ?_
        refine lv_iload_n S.1 S.2.1 d_Mo_carried_16 rfl (lv_at hl 3 rfl) ?_
        refine dw_iald S.1 S.2.1 hw ds_k65 (by omega) d_Mo_carried_17 ?_
        refine lv_aload_n S.1 S.2.1 d_Mo_carried_18 rfl (lv_at hl 0 rfl) ?_
        refine dw_getf (fi := 0) (v := .int (nI (f 54 0))) S hw i_Mo ds_ob54 (by decide) rfl wd_362 rfl d_Mo_carried_19 ?_
        refine dn_icmp_ne S.1 S.2.1 35 (by omega) (by omega) d_Mo_carried_22 (by decide) (fun h_22 => ?_) (fun h_22 => ?_)
        · refine lv_iinc (v := nI (i + 1)) (lv' := [(3, .int (nI (i + 1))), (0, .ref (a 54)), (1, .int k), (2, .int (nI b))]) S.1 S.2.1 d_Mo_carried_35 hl (k := 3) rfl (by rw [show Int32.ofInt 1 = nI 1 from rfl, nI_add]) (by decide) rfl (fun ls hl => ?_)
          refine lv_goto (tgt := 4) S.1 S.2.1 d_Mo_carried_38 (by decide) ?_
          exact ih_4 b (i + 1) (by omega) (by rw [hE, show f 54 1 - i = (f 54 1 - (i + 1)) + 1 by omega]; simp [ds_find, h_22]) (by omega) H locs hw ls (lv_sub hl [1, 2, 3, 0] rfl)
        · refine lv_iload_n S.1 S.2.1 d_Mo_carried_25 rfl (lv_at hl 2 rfl) ?_
          refine lv_iload_n S.1 S.2.1 d_Mo_carried_26 rfl (lv_at hl 1 rfl) ?_
          refine lv_icmp_ne (tgt := 32) S.1 S.2.1 d_Mo_carried_27 (by decide) (fun h_27 => ?_) (fun h_27 => ?_)
          · refine lv_iinc (v := nI (b + 1)) (lv' := [(2, .int (nI (b + 1))), (0, .ref (a 54)), (1, .int k), (3, .int (nI i))]) S.1 S.2.1 d_Mo_carried_32 hl (k := 2) rfl (by rw [show Int32.ofInt 1 = nI 1 from rfl, nI_add]) (by decide) rfl (fun ls hl => ?_)
            refine lv_iinc (v := nI (i + 1)) (lv' := [(3, .int (nI (i + 1))), (2, .int (nI (b + 1))), (0, .ref (a 54)), (1, .int k)]) S.1 S.2.1 d_Mo_carried_35 hl (k := 3) rfl (by rw [show Int32.ofInt 1 = nI 1 from rfl, nI_add]) (by decide) rfl (fun ls hl => ?_)
            refine lv_goto (tgt := 4) S.1 S.2.1 d_Mo_carried_38 (by decide) ?_
            exact ih_4 (b + 1) (i + 1) (by omega) (by rw [hE, show f 54 1 - i = (f 54 1 - (i + 1)) + 1 by omega]; simp [ds_find, h_22, h_27]) (by omega) H locs hw ls (lv_sub hl [2, 3, 1, 0] rfl)
          · refine lv_iload_n S.1 S.2.1 d_Mo_carried_30 rfl (lv_at hl 3 rfl) ?_
            exact hret H locs _ ls _ _ hw (⟨by rw [hE, show f 54 1 - i = (f 54 1 - (i + 1)) + 1 by omega]; simp [ds_find, h_22, h_27], rfl⟩) d_Mo_carried_31
  exact loop_4 _ 0 0 (Nat.zero_le _) (rfl) (Nat.lt_succ_self _) H locs hw ls (lv_sub hl [2, 3, 1, 0] rfl)
end
section
/-! contracts of the reference: rounds -/
set_option maxHeartbeats 4000000 in
set_option maxRecDepth 100000 in
theorem m_can (l : Launch) (D : va_G) (g : Nat → ClassId) (a : Nat → Nat) (f : Nat → Nat → Nat) (rw : Nat → Nat → Nat) (v : Nat) (x : Nat) (ok : ds_ok (md_v f rw)) (hv : v < f 54 0) (hx : x < f 54 1) : ds_I l D g a y_Mo_can b_Mo_can 3 .boolean 0 0 [.ref (a 54), .int (nI v), .int (nI x)] f (fun r u => r = nI (dn_b (ds_can (md_v f rw) v x = true)) ∧ u = f) := by
  refine dw_ofI (by decide) (fun _ _ h => h.1 ▸ dn_nar) (Nat.le_of_ble_eq_true rfl) ?_
  intro p e s m args below meth c ls A Q R H locs hR hA S hN hw hl hret
  have hl : lv_has ls 3 [(0, .ref (a 54)), (1, .int (nI v)), (2, .int (nI x))] := hl
  have S : CallFix p m c b_Mo_can 3 s args ds_T R_Mo := S
  obtain ⟨hV, hn, hex, hst, hve, hrA, hrB, hrl, hwy⟩ := md_facts ok
  have r1 := hrB x hx
  have v1 := hve v hv
  have r2 := hrl _ r1.1
  have ec : ds_can (md_v f rw) v x = (f 62 v == 8 || (f 57 x == v && decide (f 58 x < f 62 v))) := rfl
  refine lv_aload_n S.1 S.2.1 d_Mo_can_0 rfl (lv_at hl 0 rfl) ?_
  refine dw_getf (fi := 9) (v := .ref (a 62)) S hw i_Mo ds_ob54 (by decide) rfl wd_371 rfl d_Mo_can_1 ?_
  refine lv_iload_n S.1 S.2.1 d_Mo_can_4 rfl (lv_at hl 1 rfl) ?_
  refine dw_iald S.1 S.2.1 hw ds_k62 (by omega) d_Mo_can_5 ?_
  refine lv_bipush (v := nI 8) S.1 S.2.1 d_Mo_can_6 (by decide) ?_
  refine dn_icmp_eq S.1 S.2.1 36 (by omega) (by decide) d_Mo_can_8 (by decide) (fun h_8 => ?_) (fun h_8 => ?_)
  · refine lv_iconst (v := nI 1) S.1 S.2.1 d_Mo_can_36 (by decide) ?_
    refine lv_goto (tgt := 41) S.1 S.2.1 d_Mo_can_37 (by decide) ?_
    exact hret H locs _ ls _ _ hw (⟨by rw [dn_b1 (by rw [ec]; simp [h_8])], rfl⟩) d_Mo_can_41
  · refine lv_aload_n S.1 S.2.1 d_Mo_can_11 rfl (lv_at hl 0 rfl) ?_
    refine dw_getf (fi := 4) (v := .ref (a 57)) S hw i_Mo ds_ob54 (by decide) rfl wd_366 rfl d_Mo_can_12 ?_
    refine lv_iload_n S.1 S.2.1 d_Mo_can_15 rfl (lv_at hl 2 rfl) ?_
    refine dw_iald S.1 S.2.1 hw ds_k57 (by omega) d_Mo_can_16 ?_
    refine lv_iload_n S.1 S.2.1 d_Mo_can_17 rfl (lv_at hl 1 rfl) ?_
    refine dn_icmp_ne S.1 S.2.1 40 (by omega) (by omega) d_Mo_can_18 (by decide) (fun h_18 => ?_) (fun h_18 => ?_)
    · refine lv_iconst (v := nI 0) S.1 S.2.1 d_Mo_can_40 (by decide) ?_
      exact hret H locs _ ls _ _ hw (⟨by rw [dn_b0 (by rw [ec]; simp [h_8, h_18])], rfl⟩) d_Mo_can_41
    · refine lv_aload_n S.1 S.2.1 d_Mo_can_21 rfl (lv_at hl 0 rfl) ?_
      refine dw_getf (fi := 5) (v := .ref (a 58)) S hw i_Mo ds_ob54 (by decide) rfl wd_367 rfl d_Mo_can_22 ?_
      refine lv_iload_n S.1 S.2.1 d_Mo_can_25 rfl (lv_at hl 2 rfl) ?_
      refine dw_iald S.1 S.2.1 hw ds_k58 (by omega) d_Mo_can_26 ?_
      refine lv_aload_n S.1 S.2.1 d_Mo_can_27 rfl (lv_at hl 0 rfl) ?_
      refine dw_getf (fi := 9) (v := .ref (a 62)) S hw i_Mo ds_ob54 (by decide) rfl wd_371 rfl d_Mo_can_28 ?_
      refine lv_iload_n S.1 S.2.1 d_Mo_can_31 rfl (lv_at hl 1 rfl) ?_
      refine dw_iald S.1 S.2.1 hw ds_k62 (by omega) d_Mo_can_32 ?_
      refine dn_icmp_ge S.1 S.2.1 40 (by omega) (by omega) d_Mo_can_33 (by decide) (fun h_33 => ?_) (fun h_33 => ?_)
      · refine lv_iconst (v := nI 0) S.1 S.2.1 d_Mo_can_40 (by decide) ?_
        exact hret H locs _ ls _ _ hw (⟨by rw [dn_b0 (by rw [ec]; simp [h_8, h_18]; omega)], rfl⟩) d_Mo_can_41
      · refine lv_iconst (v := nI 1) S.1 S.2.1 d_Mo_can_36 (by decide) ?_
        refine lv_goto (tgt := 41) S.1 S.2.1 d_Mo_can_37 (by decide) ?_
        exact hret H locs _ ls _ _ hw (⟨by rw [dn_b1 (by rw [ec]; simp [h_8, h_18, h_33])], rfl⟩) d_Mo_can_41
set_option maxHeartbeats 4000000 in
set_option maxRecDepth 100000 in
theorem m_go (l : Launch) (D : va_G) (g : Nat → ClassId) (a : Nat → Nat) (f : Nat → Nat → Nat) (rw : Nat → Nat → Nat) (K : Nat) (v : Nat) (ok : ds_ok (md_v f rw)) (hv : v < f 54 0) (hK : dw_Ci (ds_tys g) 77 (ds_ce g a) .int K 8) (hK2 : K = 65 ∨ K = 66) (hb : ∀ x, x < f 54 1 → f K x < 2 ^ 31) : ds_V l D g a y_Mo_go b_Mo_go 5 0 0 [.ref (a 54), .ref (a K), .int (nI v)] f (fun u => ∃ h : Nat → Nat, u = md_r f h (ds_rd (md_v f rw) (fun x => f K x == v) v).length ∧ ds_is h 0 (ds_rd (md_v f rw) (fun x => f K x == v) v)) := by
  refine dw_ofV (by decide) (Nat.le_of_ble_eq_true rfl) ?_
  intro p e s m args below meth c ls A Q R H locs hR hA S hN hw hl hret
  have hl : lv_has ls 5 [(0, .ref (a 54)), (1, .ref (a K)), (2, .int (nI v))] := hl
  have S : CallFix p m c b_Mo_go 5 s args ds_T R_Mo := S
  obtain ⟨hV, hn, hex, hst, hve, hrA, hrB, hrl, hwy⟩ := md_facts ok
  have hrw := ok.2.2.2.2.2.2.2
  have hLn : (ds_rd (md_v f rw) (fun x => f K x == v) v).length ≤ f 54 1 := dr_rd_len hrw _ hv
  have v3 : v < 3 := by omega
  have r9 := hrl v hv
  refine lv_aload_n S.1 S.2.1 d_Mo_go_0 rfl (lv_at hl 0 rfl) ?_
  refine lv_iconst (v := nI 0) S.1 S.2.1 d_Mo_go_1 (by decide) ?_
  refine dw_putf (fi := 25) S hw i_Mo t_Mo t_Mo_ok n_Mo ds_ob54 (by decide) rfl wd_387 rfl (by decide +kernel) (Nat.le_of_ble_eq_true rfl) rfl d_Mo_go_2 (fun f_1 H locs ef_1 hw => ?_)
  refine lv_iconst (v := nI 0) S.1 S.2.1 d_Mo_go_5 (by decide) ?_
  refine lv_istore_n (lv' := [(3, .int (nI 0)), (0, .ref (a 54)), (1, .ref (a K)), (2, .int (nI v))]) S.1 S.2.1 d_Mo_go_6 rfl hl (by decide) rfl (fun ls hl => ?_)
  have loop_7 : ∀ (n : Nat) (d : Nat) (f2 : Nat → Nat → Nat) (h : Nat → Nat) (hd : d ≤ f 59 v) (hh : f2 = md_r f h ((ds_row (md_v f rw) v d).filter (fun x => f K x == v)).length) (hs : ds_is h 0 ((ds_row (md_v f rw) v d).filter (fun x => f K x == v))) (_ : f 59 v - d < n) (H : Heap) (locs : List Loc), dw_W D classes (ds_tys g) A s.heap (dw_l 77 (ds_ce g a) a f2) s H locs → ∀ (ls : Array Slot), lv_has ls 5 [(0, .ref (a 54)), (1, .ref (a K)), (2, .int (nI v)), (3, .int (nI d))] → W p l e R s m args below meth c H locs 0 0 Q (F0 m 7 ls []) := by
    intro n
    induction n with
    | zero => intro d f2 h hd hh hs h9; exact absurd h9 (Nat.not_lt_zero _)
    | succ n ih_7 =>
      intro d f2 h hd hh hs hm_7 H locs hw ls hl
      have q59 : f2 59 v = f 59 v := by rw [hh, md_r_ne (by decide) (by decide)]
      refine lv_iload_n S.1 S.2.1 d_Mo_go_7 rfl (lv_at hl 3 rfl) ?_
      refine lv_aload_n S.1 S.2.1 d_Mo_go_8 rfl (lv_at hl 0 rfl) ?_
      refine dw_getf (fi := 6) (v := .ref (a 59)) S hw i_Mo ds_ob54 (by decide) rfl wd_368 rfl d_Mo_go_9 ?_
      refine lv_iload_n S.1 S.2.1 d_Mo_go_12 rfl (lv_at hl 2 rfl) ?_
      refine dw_iald S.1 S.2.1 hw ds_k59 (by omega) d_Mo_go_13 ?_
      refine dn_icmp_ge S.1 S.2.1 92 (by omega) (by omega) d_Mo_go_14 (by decide) (fun h_14 => ?_) (fun h_14 => ?_)
      · refine lv_iconst (v := nI 0) S.1 S.2.1 d_Mo_go_92 (by decide) ?_
        refine lv_istore_n (lv' := [(3, .int (nI 0)), (0, .ref (a 54)), (1, .ref (a K)), (2, .int (nI v))]) S.1 S.2.1 d_Mo_go_93 rfl hl (by decide) rfl (fun ls hl => ?_)
        have loop_94 : ∀ (n : Nat) (i : Nat) (f2 : Nat → Nat → Nat) (h : Nat → Nat) (hi : i ≤ f 54 1) (hh : f2 = md_r f h ((ds_row (md_v f rw) v (f 59 v)).filter (fun x => f K x == v) ++ ds_oth (md_v f rw) (fun x => f K x == v) v i).length) (hs : ds_is h 0 ((ds_row (md_v f rw) v (f 59 v)).filter (fun x => f K x == v) ++ ds_oth (md_v f rw) (fun x => f K x == v) v i)) (_ : f 54 1 - i < n) (H : Heap) (locs : List Loc), dw_W D classes (ds_tys g) A s.heap (dw_l 77 (ds_ce g a) a f2) s H locs → ∀ (ls : Array Slot), lv_has ls 5 [(0, .ref (a 54)), (1, .ref (a K)), (2, .int (nI v)), (3, .int (nI i))] → W p l e R s m args below meth c H locs 0 0 Q (F0 m 94 ls []) := by
          intro n
          induction n with
          | zero => intro i f2 h hi hh hs h9; exact absurd h9 (Nat.not_lt_zero _)
          | succ n ih_94 =>
            intro i f2 h hi hh hs hm_94 H locs hw ls hl
            have q1 : f2 54 1 = f 54 1 := by rw [hh, md_r_54 (by decide)]
            have qz : f2 54 25 = ((ds_row (md_v f rw) v (f 59 v)).filter (fun x => f K x == v) ++ ds_oth (md_v f rw) (fun x => f K x == v) v i).length := by rw [hh, md_r_z]
            have q57 : f2 57 i = f 57 i := by rw [hh, md_r_ne (by decide) (by decide)]
            have qK : f2 K i = f K i := by rw [hh, md_r_ne (by omega) (by omega)]
            refine lv_iload_n S.1 S.2.1 d_Mo_go_94 rfl (lv_at hl 3 rfl) ?_
            refine lv_aload_n S.1 S.2.1 d_Mo_go_95 rfl (lv_at hl 0 rfl) ?_
            refine dw_getf (fi := 1) (v := .int (nI (f2 54 1))) S hw i_Mo ds_ob54 (by decide) rfl wd_363 rfl d_Mo_go_96 ?_
            refine dn_icmp_ge S.1 S.2.1 145 (by omega) (by omega) d_Mo_go_99 (by decide) (fun h_99 => ?_) (fun h_99 => ?_)
            · exact hret H locs _ ls _  hw (⟨h, by rw [hh, show i = f 54 1 by omega]; rfl, by rw [show i = f 54 1 by omega] at hs; exact hs⟩) d_Mo_go_145
            · have r4 := hrB i (by omega)
              have b4 := hb i (by omega)
              refine lv_aload_n S.1 S.2.1 d_Mo_go_102 rfl (lv_at hl 0 rfl) ?_
              refine dw_getf (fi := 4) (v := .ref (a 57)) S hw i_Mo ds_ob54 (by decide) rfl wd_366 rfl d_Mo_go_103 ?_
              refine lv_iload_n S.1 S.2.1 d_Mo_go_106 rfl (lv_at hl 3 rfl) ?_
              refine dw_iald S.1 S.2.1 hw ds_k57 (by omega) d_Mo_go_107 ?_
              refine lv_iload_n S.1 S.2.1 d_Mo_go_108 rfl (lv_at hl 2 rfl) ?_
              refine dn_icmp_eq S.1 S.2.1 139 (by omega) (by omega) d_Mo_go_109 (by decide) (fun h_109 => ?_) (fun h_109 => ?_)
              · have hPi : ¬ ((fun x => f K x == v) i && ((md_v f rw) 10 i != v)) = true := by show ¬ ((f K i == v) && (f 57 i != v)) = true; simp; omega
                refine lv_iinc (v := nI (i + 1)) (lv' := [(3, .int (nI (i + 1))), (0, .ref (a 54)), (1, .ref (a K)), (2, .int (nI v))]) S.1 S.2.1 d_Mo_go_139 hl (k := 3) rfl (by rw [show Int32.ofInt 1 = nI 1 from rfl, nI_add]) (by decide) rfl (fun ls hl => ?_)
                refine lv_goto (tgt := 94) S.1 S.2.1 d_Mo_go_142 (by decide) ?_
                exact ih_94 (i + 1) f2 h (by omega) (by rw [ds_oth_s, if_neg hPi, List.append_nil]; exact hh) (by rw [ds_oth_s, if_neg hPi, List.append_nil]; exact hs) (by omega) H locs hw ls (lv_sub hl [1, 2, 3, 0] rfl)
              · refine lv_aload_n S.1 S.2.1 d_Mo_go_112 rfl (lv_at hl 1 rfl) ?_
                refine lv_iload_n S.1 S.2.1 d_Mo_go_113 rfl (lv_at hl 3 rfl) ?_
                refine dw_iald S.1 S.2.1 hw hK (by omega) d_Mo_go_114 ?_
                refine lv_iload_n S.1 S.2.1 d_Mo_go_115 rfl (lv_at hl 2 rfl) ?_
                refine dn_icmp_ne S.1 S.2.1 139 (by omega) (by omega) d_Mo_go_116 (by decide) (fun h_116 => ?_) (fun h_116 => ?_)
                · have hPi : ¬ ((fun x => f K x == v) i && ((md_v f rw) 10 i != v)) = true := by show ¬ ((f K i == v) && (f 57 i != v)) = true; simp; omega
                  refine lv_iinc (v := nI (i + 1)) (lv' := [(3, .int (nI (i + 1))), (0, .ref (a 54)), (1, .ref (a K)), (2, .int (nI v))]) S.1 S.2.1 d_Mo_go_139 hl (k := 3) rfl (by rw [show Int32.ofInt 1 = nI 1 from rfl, nI_add]) (by decide) rfl (fun ls hl => ?_)
                  refine lv_goto (tgt := 94) S.1 S.2.1 d_Mo_go_142 (by decide) ?_
                  exact ih_94 (i + 1) f2 h (by omega) (by rw [ds_oth_s, if_neg hPi, List.append_nil]; exact hh) (by rw [ds_oth_s, if_neg hPi, List.append_nil]; exact hs) (by omega) H locs hw ls (lv_sub hl [1, 2, 3, 0] rfl)
                · have hPi : ((fun x => f K x == v) i && ((md_v f rw) 10 i != v)) = true := by show ((f K i == v) && (f 57 i != v)) = true; simp; omega
                  have hlt := ds_oth_lt (f := (md_v f rw)) (fun x => f K x == v) hPi (by show i < f 54 1; omega)
                  rw [show (md_v f rw) 15 v = f 59 v from rfl] at hlt
                  refine lv_aload_n S.1 S.2.1 d_Mo_go_119 rfl (lv_at hl 0 rfl) ?_
                  refine dw_getf (fi := 24) (v := .ref (a 74)) S hw i_Mo ds_ob54 (by decide) rfl wd_386 rfl d_Mo_go_120 ?_
                  refine lv_aload_n S.1 S.2.1 d_Mo_go_123 rfl (lv_at hl 0 rfl) ?_
                  refine dw_getf (fi := 25) (v := .int (nI (f2 54 25))) S hw i_Mo ds_ob54 (by decide) rfl wd_387 rfl d_Mo_go_124 ?_
                  refine lv_iload_n S.1 S.2.1 d_Mo_go_127 rfl (lv_at hl 3 rfl) ?_
                  refine dw_iast S.1 S.2.1 hw ds_k74 (by omega) d_Mo_go_128 (fun f_2 H locs ef_2 hw => ?_)
                  have eA := ef_2
                  refine lv_aload_n S.1 S.2.1 d_Mo_go_129 rfl (lv_at hl 0 rfl) ?_
                  refine lv_dup S.1 S.2.1 d_Mo_go_130 rfl ?_
                  refine dw_getf (fi := 25) (v := .int (nI (f_2 54 25))) S hw i_Mo ds_ob54 (by decide) rfl wd_387 rfl d_Mo_go_131 ?_
                  refine lv_iconst (v := nI 1) S.1 S.2.1 d_Mo_go_134 (by decide) ?_
                  refine dn_iadd S.1 S.2.1 d_Mo_go_135 ?_
                  refine dw_putf (fi := 25) S hw i_Mo t_Mo t_Mo_ok n_Mo ds_ob54 (by decide) rfl wd_387 rfl (by decide +kernel) (Nat.le_of_ble_eq_true rfl) rfl d_Mo_go_136 (fun f_3 H locs ef_3 hw => ?_)
                  refine lv_iinc (v := nI (i + 1)) (lv' := [(3, .int (nI (i + 1))), (0, .ref (a 54)), (1, .ref (a K)), (2, .int (nI v))]) S.1 S.2.1 d_Mo_go_139 hl (k := 3) rfl (by rw [show Int32.ofInt 1 = nI 1 from rfl, nI_add]) (by decide) rfl (fun ls hl => ?_)
                  refine lv_goto (tgt := 94) S.1 S.2.1 d_Mo_go_142 (by decide) ?_
                  exact ih_94 (i + 1) f_3 (dw_up h ((ds_row (md_v f rw) v (f 59 v)).filter (fun x => f K x == v) ++ ds_oth (md_v f rw) (fun x => f K x == v) v i).length i) (by omega) (by rw [ds_oth_s, if_pos hPi, ← List.append_assoc]; exact md_pushed hh eA ef_3) (by rw [ds_oth_s, if_pos hPi, ← List.append_assoc]; have q := ds_is_push i hs; rwa [Nat.zero_add] at q) (by omega) H locs hw ls (lv_sub hl [1, 2, 3, 0] rfl)
        exact loop_94 _ 0 f2 h (Nat.zero_le _) (by rw [show ds_oth (md_v f rw) (fun x => f K x == v) v 0 = [] from rfl, List.append_nil, ← show d = f 59 v by omega]; exact hh) (by rw [show ds_oth (md_v f rw) (fun x => f K x == v) v 0 = [] from rfl, List.append_nil, ← show d = f 59 v by omega]; exact hs) (Nat.lt_succ_self _) H locs hw ls (lv_sub hl [1, 2, 3, 0] rfl)
      · refine lv_iconst (v := nI 0) S.1 S.2.1 d_Mo_go_17 (by decide) ?_
        refine lv_istore (lv' := [(4, .int (nI 0)), (0, .ref (a 54)), (1, .ref (a K)), (2, .int (nI v)), (3, .int (nI d))]) S.1 S.2.1 d_Mo_go_18 hl (by decide) rfl (fun ls hl => ?_)
        have loop_20 : ∀ (n : Nat) (i : Nat) (f2 : Nat → Nat → Nat) (h : Nat → Nat) (hi : i ≤ f 54 1) (hh : f2 = md_r f h (((ds_row (md_v f rw) v d).filter (fun x => f K x == v)) ++ md_m rw (fun x => f K x == v) v d i).length) (hs : ds_is h 0 (((ds_row (md_v f rw) v d).filter (fun x => f K x == v)) ++ md_m rw (fun x => f K x == v) v d i)) (_ : f 54 1 - i < n) (H : Heap) (locs : List Loc), dw_W D classes (ds_tys g) A s.heap (dw_l 77 (ds_ce g a) a f2) s H locs → ∀ (ls : Array Slot), lv_has ls 5 [(0, .ref (a 54)), (1, .ref (a K)), (2, .int (nI v)), (3, .int (nI d)), (4, .int (nI i))] → W p l e R s m args below meth c H locs 0 0 Q (F0 m 20 ls []) := by
          intro n
          induction n with
          | zero => intro i f2 h hi hh hs h9; exact absurd h9 (Nat.not_lt_zero _)
          | succ n ih_20 =>
            intro i f2 h hi hh hs hm_20 H locs hw ls hl
            have q1 : f2 54 1 = f 54 1 := by rw [hh, md_r_54 (by decide)]
            have qz : f2 54 25 = (((ds_row (md_v f rw) v d).filter (fun x => f K x == v)) ++ md_m rw (fun x => f K x == v) v d i).length := by rw [hh, md_r_z]
            have q57 : f2 57 i = f 57 i := by rw [hh, md_r_ne (by decide) (by decide)]
            have q58 : f2 58 i = f 58 i := by rw [hh, md_r_ne (by decide) (by decide)]
            have qK : f2 K i = f K i := by rw [hh, md_r_ne (by omega) (by omega)]
            refine lv_iload S.1 S.2.1 d_Mo_go_20 (lv_at hl 4 rfl) ?_
            refine lv_aload_n S.1 S.2.1 d_Mo_go_22 rfl (lv_at hl 0 rfl) ?_
            refine dw_getf (fi := 1) (v := .int (nI (f2 54 1))) S hw i_Mo ds_ob54 (by decide) rfl wd_363 rfl d_Mo_go_23 ?_
            refine dn_icmp_ge S.1 S.2.1 86 (by omega) (by omega) d_Mo_go_26 (by decide) (fun h_26 => ?_) (fun h_26 => ?_)
            · refine lv_iinc (v := nI (d + 1)) (lv' := [(3, .int (nI (d + 1))), (0, .ref (a 54)), (1, .ref (a K)), (2, .int (nI v)), (4, .int (nI i))]) S.1 S.2.1 d_Mo_go_86 hl (k := 3) rfl (by rw [show Int32.ofInt 1 = nI 1 from rfl, nI_add]) (by decide) rfl (fun ls hl => ?_)
              refine lv_goto (tgt := 7) S.1 S.2.1 d_Mo_go_89 (by decide) ?_
              exact ih_7 (d + 1) f2 h (by omega) (by rw [md_m_end v3 (hrA v d hv (by omega)).1]; rw [show f 54 1 = i by omega]; exact hh) (by rw [md_m_end v3 (hrA v d hv (by omega)).1]; rw [show f 54 1 = i by omega]; exact hs) (by omega) H locs hw ls (lv_sub hl [1, 2, 3, 0] rfl)
            · have r4 := hrB i (by omega)
              have r5 := hrl _ r4.1
              have b4 := hb i (by omega)
              refine lv_aload_n S.1 S.2.1 d_Mo_go_29 rfl (lv_at hl 0 rfl) ?_
              refine dw_getf (fi := 4) (v := .ref (a 57)) S hw i_Mo ds_ob54 (by decide) rfl wd_366 rfl d_Mo_go_30 ?_
              refine lv_iload S.1 S.2.1 d_Mo_go_33 (lv_at hl 4 rfl) ?_
              refine dw_iald S.1 S.2.1 hw ds_k57 (by omega) d_Mo_go_35 ?_
              refine lv_iload_n S.1 S.2.1 d_Mo_go_36 rfl (lv_at hl 2 rfl) ?_
              refine dn_icmp_ne S.1 S.2.1 80 (by omega) (by omega) d_Mo_go_37 (by decide) (fun h_37 => ?_) (fun h_37 => ?_)
              · have hsk : ¬ (rw v d = i ∧ (fun x => f K x == v) i = true) := by
                  intro q
                  have q2 := hrA v d hv (by omega)
                  rw [q.1] at q2
                  have q3 := q.2
                  simp at q3
                  omega
                refine lv_iinc (v := nI (i + 1)) (lv' := [(4, .int (nI (i + 1))), (0, .ref (a 54)), (1, .ref (a K)), (2, .int (nI v)), (3, .int (nI d))]) S.1 S.2.1 d_Mo_go_80 hl (k := 4) rfl (by rw [show Int32.ofInt 1 = nI 1 from rfl, nI_add]) (by decide) rfl (fun ls hl => ?_)
                refine lv_goto (tgt := 20) S.1 S.2.1 d_Mo_go_83 (by decide) ?_
                exact ih_20 (i + 1) f2 h (by omega) (by rw [md_m_skip hsk]; exact hh) (by rw [md_m_skip hsk]; exact hs) (by omega) H locs hw ls (lv_sub hl [1, 2, 3, 4, 0] rfl)
              · refine lv_aload_n S.1 S.2.1 d_Mo_go_40 rfl (lv_at hl 0 rfl) ?_
                refine dw_getf (fi := 5) (v := .ref (a 58)) S hw i_Mo ds_ob54 (by decide) rfl wd_367 rfl d_Mo_go_41 ?_
                refine lv_iload S.1 S.2.1 d_Mo_go_44 (lv_at hl 4 rfl) ?_
                refine dw_iald S.1 S.2.1 hw ds_k58 (by omega) d_Mo_go_46 ?_
                refine lv_iload_n S.1 S.2.1 d_Mo_go_47 rfl (lv_at hl 3 rfl) ?_
                refine dn_icmp_ne S.1 S.2.1 80 (by omega) (by omega) d_Mo_go_48 (by decide) (fun h_48 => ?_) (fun h_48 => ?_)
                · have hsk : ¬ (rw v d = i ∧ (fun x => f K x == v) i = true) := by
                    intro q
                    have q2 := hrA v d hv (by omega)
                    rw [q.1] at q2
                    have q3 := q.2
                    simp at q3
                    omega
                  refine lv_iinc (v := nI (i + 1)) (lv' := [(4, .int (nI (i + 1))), (0, .ref (a 54)), (1, .ref (a K)), (2, .int (nI v)), (3, .int (nI d))]) S.1 S.2.1 d_Mo_go_80 hl (k := 4) rfl (by rw [show Int32.ofInt 1 = nI 1 from rfl, nI_add]) (by decide) rfl (fun ls hl => ?_)
                  refine lv_goto (tgt := 20) S.1 S.2.1 d_Mo_go_83 (by decide) ?_
                  exact ih_20 (i + 1) f2 h (by omega) (by rw [md_m_skip hsk]; exact hh) (by rw [md_m_skip hsk]; exact hs) (by omega) H locs hw ls (lv_sub hl [1, 2, 3, 4, 0] rfl)
                · refine lv_aload_n S.1 S.2.1 d_Mo_go_51 rfl (lv_at hl 1 rfl) ?_
                  refine lv_iload S.1 S.2.1 d_Mo_go_52 (lv_at hl 4 rfl) ?_
                  refine dw_iald S.1 S.2.1 hw hK (by omega) d_Mo_go_54 ?_
                  refine lv_iload_n S.1 S.2.1 d_Mo_go_55 rfl (lv_at hl 2 rfl) ?_
                  refine dn_icmp_ne S.1 S.2.1 80 (by omega) (by omega) d_Mo_go_56 (by decide) (fun h_56 => ?_) (fun h_56 => ?_)
                  · have hsk : ¬ (rw v d = i ∧ (fun x => f K x == v) i = true) := by
                      intro q
                      have q2 := hrA v d hv (by omega)
                      rw [q.1] at q2
                      have q3 := q.2
                      simp at q3
                      omega
                    refine lv_iinc (v := nI (i + 1)) (lv' := [(4, .int (nI (i + 1))), (0, .ref (a 54)), (1, .ref (a K)), (2, .int (nI v)), (3, .int (nI d))]) S.1 S.2.1 d_Mo_go_80 hl (k := 4) rfl (by rw [show Int32.ofInt 1 = nI 1 from rfl, nI_add]) (by decide) rfl (fun ls hl => ?_)
                    refine lv_goto (tgt := 20) S.1 S.2.1 d_Mo_go_83 (by decide) ?_
                    exact ih_20 (i + 1) f2 h (by omega) (by rw [md_m_skip hsk]; exact hh) (by rw [md_m_skip hsk]; exact hs) (by omega) H locs hw ls (lv_sub hl [1, 2, 3, 4, 0] rfl)
                  · have hri : rw v d = i := by have q := r4.2.2; rw [show f 57 i = v by omega, show f 58 i = d by omega] at q; exact q
                    have hPi : (fun x => f K x == v) i = true := by simp; omega
                    have hlt := md_row_lt (f := f) (P := (fun x => f K x == v)) v3 (by omega) hri hPi
                    refine lv_aload_n S.1 S.2.1 d_Mo_go_59 rfl (lv_at hl 0 rfl) ?_
                    refine dw_getf (fi := 24) (v := .ref (a 74)) S hw i_Mo ds_ob54 (by decide) rfl wd_386 rfl d_Mo_go_60 ?_
                    refine lv_aload_n S.1 S.2.1 d_Mo_go_63 rfl (lv_at hl 0 rfl) ?_
                    refine dw_getf (fi := 25) (v := .int (nI (f2 54 25))) S hw i_Mo ds_ob54 (by decide) rfl wd_387 rfl d_Mo_go_64 ?_
                    refine lv_iload S.1 S.2.1 d_Mo_go_67 (lv_at hl 4 rfl) ?_
                    refine dw_iast S.1 S.2.1 hw ds_k74 (by omega) d_Mo_go_69 (fun f_4 H locs ef_4 hw => ?_)
                    have eA := ef_4
                    refine lv_aload_n S.1 S.2.1 d_Mo_go_70 rfl (lv_at hl 0 rfl) ?_
                    refine lv_dup S.1 S.2.1 d_Mo_go_71 rfl ?_
                    refine dw_getf (fi := 25) (v := .int (nI (f_4 54 25))) S hw i_Mo ds_ob54 (by decide) rfl wd_387 rfl d_Mo_go_72 ?_
                    refine lv_iconst (v := nI 1) S.1 S.2.1 d_Mo_go_75 (by decide) ?_
                    refine dn_iadd S.1 S.2.1 d_Mo_go_76 ?_
                    refine dw_putf (fi := 25) S hw i_Mo t_Mo t_Mo_ok n_Mo ds_ob54 (by decide) rfl wd_387 rfl (by decide +kernel) (Nat.le_of_ble_eq_true rfl) rfl d_Mo_go_77 (fun f_5 H locs ef_5 hw => ?_)
                    refine lv_iinc (v := nI (i + 1)) (lv' := [(4, .int (nI (i + 1))), (0, .ref (a 54)), (1, .ref (a K)), (2, .int (nI v)), (3, .int (nI d))]) S.1 S.2.1 d_Mo_go_80 hl (k := 4) rfl (by rw [show Int32.ofInt 1 = nI 1 from rfl, nI_add]) (by decide) rfl (fun ls hl => ?_)
                    refine lv_goto (tgt := 20) S.1 S.2.1 d_Mo_go_83 (by decide) ?_
                    exact ih_20 (i + 1) f_5 (dw_up h (((ds_row (md_v f rw) v d).filter (fun x => f K x == v)) ++ md_m rw (fun x => f K x == v) v d i).length i) (by omega) (by rw [md_m_hit hri hPi, ← List.append_assoc]; exact md_pushed hh eA ef_5) (by rw [md_m_hit hri hPi, ← List.append_assoc]; have q := ds_is_push i hs; rwa [Nat.zero_add] at q) (by omega) H locs hw ls (lv_sub hl [1, 2, 3, 4, 0] rfl)
        exact loop_20 _ 0 f2 h (Nat.zero_le _) (by rw [md_m_0, List.append_nil]; exact hh) (by rw [md_m_0, List.append_nil]; exact hs) (Nat.lt_succ_self _) H locs hw ls (lv_sub hl [1, 2, 3, 4, 0] rfl)
  exact loop_7 _ 0 f_1 (f 74) (Nat.zero_le _) (by rw [ef_1, md_r_self]; rfl) (ds_is_nil _ _) (Nat.lt_succ_self _) H locs hw ls (lv_sub hl [1, 2, 3, 0] rfl)
end
section
/-! the reference: views, costs, tests -/
theorem md_v_r {f rw : Nat → Nat → Nat} {h : Nat → Nat} {z : Nat} : md_v (md_r f h z) rw = md_v f rw := md_congr (fun k h1 h2 _ => md_r_ne (by omega) (by omega)) (md_r_54 (by decide)) (md_r_54 (by decide)) (md_r_54 (by decide))
theorem md_r_id {f : Nat → Nat → Nat} : f = md_r f (f 74) (f 54 25) := by
  rw [md_r, dw_su_self]
  funext k
  by_cases h1 : k = 54
  · subst h1
    rw [dw_w_eq]
    funext j
    by_cases h2 : j = 25
    · rw [h2, dw_up_eq]
    · rw [dw_up_ne h2]
  · rw [dw_w_ne h1]
theorem md_r_r {f : Nat → Nat → Nat} {h h2 : Nat → Nat} {z z2 : Nat} : md_r (md_r f h z) h2 z2 = md_r f h2 z2 := by
  funext k
  by_cases h1 : k = 54
  · subst h1
    funext j
    by_cases e : j = 25
    · rw [e, md_r_z, md_r_z]
    · rw [md_r_54 e, md_r_54 e, md_r_54 e]
  · by_cases e : k = 74
    · rw [e, md_r_74, md_r_74]
    · rw [md_r_ne h1 e, md_r_ne h1 e, md_r_ne h1 e]
theorem ds_ov {t h : Nat} (ht : t < 2 ^ 30) (hh : h < 2 ^ 30) : (nI t - nI h ≤ 0) ↔ t ≤ h := by
  rw [Int32.le_iff_toInt_le, pk_sub_toInt ht hh, Int32.toInt_zero]
  omega
/-- times and overtimes of the plan p, of the vehicles below v -/
def ds_cst (F : Nat → Nat → Nat) (p : Nat → Nat) : Nat → Nat
  | 0 => 0
  | v + 1 => ds_cst F p v + (ds_tm F (fun x => p x == v) v + (ds_tm F (fun x => p x == v) v - F 19 v))
/-- the plan p keeps what is frozen, blocked, out, of the stops below i -/
def md_ap (F : Nat → Nat → Nat) (p : Nat → Nat) : Nat → Bool
  | 0 => true
  | i + 1 => md_ap F p i && ds_may F i (p i)
/-- no overtime of the vehicles below v is above the extra -/
def md_ho (F : Nat → Nat → Nat) (p : Nat → Nat) : Nat → Bool
  | 0 => true
  | v + 1 => md_ho F p v && decide (ds_tm F (fun x => p x == v) v - F 19 v ≤ F 1 16)
theorem md_may {f rw : Nat → Nat → Nat} {x v : Nat} : ds_may (md_v f rw) x v = (!(f 60 x != 0 && f 57 x != v) && (v == f 54 0 || (f 61 x == 0 && ds_can (md_v f rw) v x))) := rfl
theorem ds_cst_b {F : Nat → Nat → Nat} (ok : ds_ok F) (p : Nat → Nat) : ∀ v, v ≤ F 1 0 → ds_cst F p v ≤ 340000 * v
  | 0, _ => by simp [ds_cst]
  | v + 1, h => by
    have ih := ds_cst_b ok p v (by omega)
    have h1 := ds_tm_b ok (fun x => p x == v) (v := v) (by omega)
    unfold ds_cst
    omega
end
section
/-! contracts of the reference: times and costs -/
set_option maxHeartbeats 4000000 in
set_option maxRecDepth 100000 in
theorem m_timeOf (l : Launch) (D : va_G) (g : Nat → ClassId) (a : Nat → Nat) (f : Nat → Nat → Nat) (rw : Nat → Nat → Nat) (K : Nat) (v : Nat) (ok : ds_ok (md_v f rw)) (hv : v < f 54 0) (hK : dw_Ci (ds_tys g) 77 (ds_ce g a) .int K 8) (hK2 : K = 65 ∨ K = 66) (hb : ∀ x, x < f 54 1 → f K x < 2 ^ 31) : ds_I l D g a y_Mo_timeOf b_Mo_timeOf 6 .int 1 24 [.ref (a 54), .ref (a K), .int (nI v)] f (fun r u => r = nI (ds_tm (md_v f rw) (fun x => f K x == v) v) ∧ ∃ (h : Nat → Nat) (z : Nat), u = md_r f h z) := by
  refine dw_ofI (by decide) (fun _ _ _ => rfl) (Nat.le_of_ble_eq_true rfl) ?_
  intro p e s m args below meth c ls A Q R H locs hR hA S hN hw hl hret
  have hl : lv_has ls 6 [(0, .ref (a 54)), (1, .ref (a K)), (2, .int (nI v))] := hl
  have S : CallFix p m c b_Mo_timeOf 6 s args ds_T R_Mo := S
  obtain ⟨hV, hn, hex, hst, hve, hrA, hrB, hrl, hwy⟩ := md_facts ok
  have hrw := ok.2.2.2.2.2.2.2
  refine lv_aload_n S.1 S.2.1 d_Mo_timeOf_0 rfl (lv_at hl 0 rfl) ?_
  refine lv_aload_n S.1 S.2.1 d_Mo_timeOf_1 rfl (lv_at hl 1 rfl) ?_
  refine lv_iload_n S.1 S.2.1 d_Mo_timeOf_2 rfl (lv_at hl 2 rfl) ?_
  refine dw_aftv hw hA (dw_runV (As := [.ref (a K), .int (nI v)]) (rest := []) (ko := 54) hw S ds_good (m_go l D g a f rw K v (ok) (hv) (hK) (hK2) (hb) H.size) cw_Mo_go wd_502 wd_504 ws_Mo_go ds_ob54 dw_blind (dw_pre hw hN) rfl hl.1 rfl ⟨Nat.le_trans (Nat.le_of_ble_eq_true rfl) hR.1, Nat.le_trans (Nat.le_of_ble_eq_true rfl) hR.2⟩ (Nat.le_of_ble_eq_true rfl) ⟨Nat.zero_le _, Nat.zero_le _⟩ d_Mo_timeOf_3) (fun f_1 H locs hp hw => ?_)
  obtain ⟨hgo, ef_1, hgs⟩ := hp
  obtain ⟨L, eL⟩ : ∃ z, z = (ds_rd (md_v f rw) (fun x => f K x == v) v) := ⟨_, rfl⟩
  rw [← eL] at ef_1 hgs
  have hLn : L.length ≤ f 54 1 := by rw [eL]; exact dr_rd_len hrw _ hv
  have hLm : ∀ x ∈ L, x < f 54 1 := fun x hx => (dr_rd_in hrw _ hv (by rw [eL] at hx; exact hx)).1
  have qz : f_1 54 25 = L.length := by rw [ef_1, md_r_z]
  have q64 : f_1 64 = f 64 := by rw [ef_1, md_r_ne (by decide) (by decide)]
  refine lv_iconst (v := nI 0) S.1 S.2.1 d_Mo_timeOf_6 (by decide) ?_
  refine lv_istore_n (lv' := [(3, .int (nI 0)), (0, .ref (a 54)), (1, .ref (a K)), (2, .int (nI v))]) S.1 S.2.1 d_Mo_timeOf_7 rfl hl (by decide) rfl (fun ls hl => ?_)
  refine lv_iconst (v := nI 0) S.1 S.2.1 d_Mo_timeOf_8 (by decide) ?_
  refine lv_istore (lv' := [(4, .int (nI 0)), (3, .int (nI 0)), (0, .ref (a 54)), (1, .ref (a K)), (2, .int (nI v))]) S.1 S.2.1 d_Mo_timeOf_9 hl (by decide) rfl (fun ls hl => ?_)
  refine lv_iconst (v := nI 0) S.1 S.2.1 d_Mo_timeOf_11 (by decide) ?_
  refine lv_istore (lv' := [(5, .int (nI 0)), (4, .int (nI 0)), (3, .int (nI 0)), (0, .ref (a 54)), (1, .ref (a K)), (2, .int (nI v))]) S.1 S.2.1 d_Mo_timeOf_12 hl (by decide) rfl (fun ls hl => ?_)
  have loop_14 : ∀ (n : Nat) (y : Nat) (w : Nat) (i : Nat) (hi : i ≤ L.length) (ey : y = (ds_fo (md_v f rw) (L.take i)).1) (ew : w = (ds_fo (md_v f rw) (L.take i)).2) (_ : L.length - i < n) (H : Heap) (locs : List Loc), dw_W D classes (ds_tys g) A s.heap (dw_l 77 (ds_ce g a) a f_1) s H locs → ∀ (ls : Array Slot), lv_has ls 6 [(0, .ref (a 54)), (1, .ref (a K)), (2, .int (nI v)), (3, .int (nI y)), (4, .int (nI w)), (5, .int (nI i))] → W p l e R s m args below meth c H locs 0 0 Q (F0 m 14 ls []) := by
    intro n
    induction n with
    | zero => intro y w i hi ey ew h9; exact absurd h9 (Nat.not_lt_zero _)
    | succ n ih_14 =>
      intro y w i hi ey ew hm_14 H locs hw ls hl
      have fb := ds_fo_b ok hLm i
      rw [← ey, ← ew] at fb
      refine lv_iload S.1 S.2.1 d_Mo_timeOf_14 (lv_at hl 5 rfl) ?_
      refine lv_aload_n S.1 S.2.1 d_Mo_timeOf_16 rfl (lv_at hl 0 rfl) ?_
      refine dw_getf (fi := 25) (v := .int (nI (f_1 54 25))) S hw i_Mo ds_ob54 (by decide) rfl wd_387 rfl d_Mo_timeOf_17 ?_
      refine dn_icmp_ge S.1 S.2.1 82 (by omega) (by omega) d_Mo_timeOf_20 (by decide) (fun h_20 => ?_) (fun h_20 => ?_)
      · have e82 : f_1 64 (10 * w) = f 64 (10 * w + 0) := by rw [q64]; rfl
        refine lv_iload_n S.1 S.2.1 d_Mo_timeOf_82 rfl (lv_at hl 3 rfl) ?_
        refine lv_aload_n S.1 S.2.1 d_Mo_timeOf_83 rfl (lv_at hl 0 rfl) ?_
        refine dw_getf (fi := 11) (v := .ref (a 64)) S hw i_Mo ds_ob54 (by decide) rfl wd_373 rfl d_Mo_timeOf_84 ?_
        refine lv_bipush (v := nI 10) S.1 S.2.1 d_Mo_timeOf_87 (by decide) ?_
        refine lv_iload S.1 S.2.1 d_Mo_timeOf_89 (lv_at hl 4 rfl) ?_
        refine dn_imul S.1 S.2.1 d_Mo_timeOf_91 ?_
        refine dw_iald S.1 S.2.1 hw ds_k64 (by omega) d_Mo_timeOf_92 ?_
        refine dn_iadd S.1 S.2.1 d_Mo_timeOf_93 ?_
        exact hret H locs _ ls _ _ hw (⟨by rw [e82, ds_fo_e, ← eL, ey, ew, show i = L.length by omega, List.take_length, md_28 (by have q := (ds_fo_b ok hLm L.length).2; rw [List.take_length] at q; exact q)], hgo, L.length, ef_1⟩) d_Mo_timeOf_94
      · have h_21 : i < L.length := by omega
        obtain ⟨x, ex⟩ : ∃ z, z = L.getD i 0 := ⟨_, rfl⟩
        have q74 : f_1 74 i = x := by rw [ef_1, md_r_74, ex]; have q := hgs i h_21; rwa [Nat.zero_add] at q
        have hx : x < f 54 1 := by rw [ex]; exact hLm _ (ds_getD_mem h_21)
        have s1 := hst x hx
        have e55 : f_1 55 (f_1 74 i) = f 55 x := by rw [q74, ef_1, md_r_ne (by decide) (by decide)]
        have e56 : f_1 56 (f_1 74 i) = f 56 x := by rw [q74, ef_1, md_r_ne (by decide) (by decide)]
        have e64 : f_1 64 ((10 * w) + (f_1 55 (f_1 74 i))) = f 64 (10 * w + f 55 x) := by rw [e55, q64]
        refine lv_iload_n S.1 S.2.1 d_Mo_timeOf_23 rfl (lv_at hl 3 rfl) ?_
        refine lv_aload_n S.1 S.2.1 d_Mo_timeOf_24 rfl (lv_at hl 0 rfl) ?_
        refine dw_getf (fi := 11) (v := .ref (a 64)) S hw i_Mo ds_ob54 (by decide) rfl wd_373 rfl d_Mo_timeOf_25 ?_
        refine lv_bipush (v := nI 10) S.1 S.2.1 d_Mo_timeOf_28 (by decide) ?_
        refine lv_iload S.1 S.2.1 d_Mo_timeOf_30 (lv_at hl 4 rfl) ?_
        refine dn_imul S.1 S.2.1 d_Mo_timeOf_32 ?_
        refine lv_aload_n S.1 S.2.1 d_Mo_timeOf_33 rfl (lv_at hl 0 rfl) ?_
        refine dw_getf (fi := 2) (v := .ref (a 55)) S hw i_Mo ds_ob54 (by decide) rfl wd_364 rfl d_Mo_timeOf_34 ?_
        refine lv_aload_n S.1 S.2.1 d_Mo_timeOf_37 rfl (lv_at hl 0 rfl) ?_
        refine dw_getf (fi := 24) (v := .ref (a 74)) S hw i_Mo ds_ob54 (by decide) rfl wd_386 rfl d_Mo_timeOf_38 ?_
        refine lv_iload S.1 S.2.1 d_Mo_timeOf_41 (lv_at hl 5 rfl) ?_
        refine dw_iald S.1 S.2.1 hw ds_k74 (by omega) d_Mo_timeOf_43 ?_
        refine dw_iald S.1 S.2.1 hw ds_k55 (by omega) d_Mo_timeOf_44 ?_
        refine dn_iadd S.1 S.2.1 d_Mo_timeOf_45 ?_
        refine dw_iald S.1 S.2.1 hw ds_k64 (by omega) d_Mo_timeOf_46 ?_
        refine lv_aload_n S.1 S.2.1 d_Mo_timeOf_47 rfl (lv_at hl 0 rfl) ?_
        refine dw_getf (fi := 3) (v := .ref (a 56)) S hw i_Mo ds_ob54 (by decide) rfl wd_365 rfl d_Mo_timeOf_48 ?_
        refine lv_aload_n S.1 S.2.1 d_Mo_timeOf_51 rfl (lv_at hl 0 rfl) ?_
        refine dw_getf (fi := 24) (v := .ref (a 74)) S hw i_Mo ds_ob54 (by decide) rfl wd_386 rfl d_Mo_timeOf_52 ?_
        refine lv_iload S.1 S.2.1 d_Mo_timeOf_55 (lv_at hl 5 rfl) ?_
        refine dw_iald S.1 S.2.1 hw ds_k74 (by omega) d_Mo_timeOf_57 ?_
        refine dw_iald S.1 S.2.1 hw ds_k56 (by omega) d_Mo_timeOf_58 ?_
        refine dn_iadd S.1 S.2.1 d_Mo_timeOf_59 ?_
        refine dn_iadd S.1 S.2.1 d_Mo_timeOf_60 ?_
        refine lv_istore_n (lv' := [(3, .int (nI (y + ((f_1 64 ((10 * w) + (f_1 55 (f_1 74 i)))) + (f_1 56 (f_1 74 i)))))), (0, .ref (a 54)), (1, .ref (a K)), (2, .int (nI v)), (4, .int (nI w)), (5, .int (nI i))]) S.1 S.2.1 d_Mo_timeOf_61 rfl hl (by decide) rfl (fun ls hl => ?_)
        refine lv_aload_n S.1 S.2.1 d_Mo_timeOf_62 rfl (lv_at hl 1 rfl) ?_
        refine dw_getf (fi := 2) (v := .ref (a 55)) S hw i_Mo ds_ob54 (by decide) rfl wd_364 rfl d_Mo_timeOf_63 ?_
        refine lv_aload_n S.1 S.2.1 d_Mo_timeOf_66 rfl (lv_at hl 1 rfl) ?_
        refine dw_getf (fi := 24) (v := .ref (a 74)) S hw i_Mo ds_ob54 (by decide) rfl wd_386 rfl d_Mo_timeOf_67 ?_
        refine lv_iload S.1 S.2.1 d_Mo_timeOf_70 (lv_at hl 5 rfl) ?_
        refine dw_iald S.1 S.2.1 hw ds_k74 (by omega) d_Mo_timeOf_72 ?_
        refine dw_iald S.1 S.2.1 hw ds_k55 (by omega) d_Mo_timeOf_73 ?_
        refine lv_istore (lv' := [(4, .int (nI (f_1 55 (f_1 74 i)))), (3, .int (nI (y + ((f_1 64 ((10 * w) + (f_1 55 (f_1 74 i)))) + (f_1 56 (f_1 74 i)))))), (0, .ref (a 54)), (1, .ref (a K)), (2, .int (nI v)), (5, .int (nI i))]) S.1 S.2.1 d_Mo_timeOf_74 hl (by decide) rfl (fun ls hl => ?_)
        refine lv_iinc (v := nI (i + 1)) (lv' := [(5, .int (nI (i + 1))), (4, .int (nI (f_1 55 (f_1 74 i)))), (3, .int (nI (y + ((f_1 64 ((10 * w) + (f_1 55 (f_1 74 i)))) + (f_1 56 (f_1 74 i)))))), (0, .ref (a 54)), (1, .ref (a K)), (2, .int (nI v))]) S.1 S.2.1 d_Mo_timeOf_76 hl (k := 5) rfl (by rw [show Int32.ofInt 1 = nI 1 from rfl, nI_add]) (by decide) rfl (fun ls hl => ?_)
        refine lv_goto (tgt := 14) S.1 S.2.1 d_Mo_timeOf_79 (by decide) ?_
        exact ih_14 (y + ((f_1 64 ((10 * w) + (f_1 55 (f_1 74 i)))) + (f_1 56 (f_1 74 i)))) (f_1 55 (f_1 74 i)) (i + 1) (by omega) (by rw [(ds_fo_s h_21).1, ← ey, ← ew, ← ex, md_28 (by omega), e64, e56]; rfl) (by rw [(ds_fo_s h_21).2, ← ex, e55]; rfl) (by omega) H locs hw ls (lv_sub hl [3, 4, 5, 2, 1, 0] rfl)
  exact loop_14 _ 0 0 0 (Nat.zero_le _) (rfl) (rfl) (Nat.lt_succ_self _) H locs hw ls (lv_sub hl [3, 4, 5, 2, 1, 0] rfl)
set_option maxHeartbeats 4000000 in
set_option maxRecDepth 100000 in
theorem m_overtimeOf (l : Launch) (D : va_G) (g : Nat → ClassId) (a : Nat → Nat) (f : Nat → Nat → Nat) (rw : Nat → Nat → Nat) (K : Nat) (v : Nat) (ok : ds_ok (md_v f rw)) (hv : v < f 54 0) (hK : dw_Ci (ds_tys g) 77 (ds_ce g a) .int K 8) (hK2 : K = 65 ∨ K = 66) (hb : ∀ x, x < f 54 1 → f K x < 2 ^ 31) : ds_I l D g a y_Mo_overtimeOf b_Mo_overtimeOf 4 .int 2 49 [.ref (a 54), .ref (a K), .int (nI v)] f (fun r u => r = nI (ds_tm (md_v f rw) (fun x => f K x == v) v - f 63 v) ∧ ∃ (h : Nat → Nat) (z : Nat), u = md_r f h z) := by
  refine dw_ofI (by decide) (fun _ _ _ => rfl) (Nat.le_of_ble_eq_true rfl) ?_
  intro p e s m args below meth c ls A Q R H locs hR hA S hN hw hl hret
  have hl : lv_has ls 4 [(0, .ref (a 54)), (1, .ref (a K)), (2, .int (nI v))] := hl
  have S : CallFix p m c b_Mo_overtimeOf 4 s args ds_T R_Mo := S
  obtain ⟨hV, hn, hex, hst, hve, hrA, hrB, hrl, hwy⟩ := md_facts ok
  have tb := ds_tm_b ok (fun x => f K x == v) hv
  have v1 := hve v hv
  refine lv_aload_n S.1 S.2.1 d_Mo_overtimeOf_0 rfl (lv_at hl 0 rfl) ?_
  refine lv_aload_n S.1 S.2.1 d_Mo_overtimeOf_1 rfl (lv_at hl 1 rfl) ?_
  refine lv_iload_n S.1 S.2.1 d_Mo_overtimeOf_2 rfl (lv_at hl 2 rfl) ?_
  refine dw_afti hw hA (dw_runV (As := [.ref (a K), .int (nI v)]) (rest := []) (ko := 54) hw S ds_good (m_timeOf l D g a f rw K v (ok) (hv) (hK) (hK2) (hb) H.size) cw_Mo_timeOf wd_498 wd_500 ws_Mo_timeOf ds_ob54 dw_blind (dw_pre hw hN) rfl hl.1 rfl ⟨Nat.le_trans (Nat.le_of_ble_eq_true rfl) hR.1, Nat.le_trans (Nat.le_of_ble_eq_true rfl) hR.2⟩ (Nat.le_of_ble_eq_true rfl) ⟨Nat.zero_le _, Nat.zero_le _⟩ d_Mo_overtimeOf_3) (fun r_3 f_1 H locs hp hw => ?_)
  obtain ⟨er, hr1, zr1, ef_1⟩ := hp
  subst er
  have q63 : f_1 63 v = f 63 v := by rw [ef_1, md_r_ne (by decide) (by decide)]
  rw [← q63] at v1
  refine lv_aload_n S.1 S.2.1 d_Mo_overtimeOf_6 rfl (lv_at hl 0 rfl) ?_
  refine dw_getf (fi := 10) (v := .ref (a 63)) S hw i_Mo ds_ob54 (by decide) rfl wd_372 rfl d_Mo_overtimeOf_7 ?_
  refine lv_iload_n S.1 S.2.1 d_Mo_overtimeOf_10 rfl (lv_at hl 2 rfl) ?_
  refine dw_iald S.1 S.2.1 hw ds_k63 (by omega) d_Mo_overtimeOf_11 ?_
  refine lv_isub S.1 S.2.1 d_Mo_overtimeOf_12 ?_
  refine lv_istore_n (lv' := [(3, .int ((nI (ds_tm (md_v f rw) (fun zz => f K zz == v) v)) - (nI (f_1 63 v)))), (0, .ref (a 54)), (1, .ref (a K)), (2, .int (nI v))]) S.1 S.2.1 d_Mo_overtimeOf_13 rfl hl (by decide) rfl (fun ls hl => ?_)
  refine lv_iload_n S.1 S.2.1 d_Mo_overtimeOf_14 rfl (lv_at hl 0 rfl) ?_
  refine lv_if_le (tgt := 22) S.1 S.2.1 d_Mo_overtimeOf_15 (by decide) (fun h_15 => ?_) (fun h_15 => ?_)
  · refine lv_iconst (v := nI 0) S.1 S.2.1 d_Mo_overtimeOf_22 (by decide) ?_
    exact hret H locs _ ls _ _ hw (⟨by rw [← q63]; rw [show ds_tm (md_v f rw) (fun x => f K x == v) v - f_1 63 v = 0 by have := (ds_ov (by omega) (by omega)).mp h_15; omega], hr1, zr1, ef_1⟩) d_Mo_overtimeOf_23
  · refine lv_iload_n S.1 S.2.1 d_Mo_overtimeOf_18 rfl (lv_at hl 0 rfl) ?_
    refine lv_goto (tgt := 23) S.1 S.2.1 d_Mo_overtimeOf_19 (by decide) ?_
    exact hret H locs _ ls _ _ hw (⟨by rw [← q63]; exact pk_sub (by have q : ¬ _ ≤ _ := fun z => h_15 ((ds_ov (by omega) (by omega)).mpr z); omega), hr1, zr1, ef_1⟩) d_Mo_overtimeOf_23
set_option maxHeartbeats 4000000 in
set_option maxRecDepth 100000 in
theorem m_costOf (l : Launch) (D : va_G) (g : Nat → ClassId) (a : Nat → Nat) (f : Nat → Nat → Nat) (rw : Nat → Nat → Nat) (K : Nat) (ok : ds_ok (md_v f rw)) (hK : dw_Ci (ds_tys g) 77 (ds_ce g a) .int K 8) (hK2 : K = 65 ∨ K = 66) (hb : ∀ x, x < f 54 1 → f K x < 2 ^ 31) : ds_L l D g a y_Mo_costOf b_Mo_costOf 5 3 72 [.ref (a 54), .ref (a K)] f (fun r u => r = lN (ds_cst (md_v f rw) (f K) (f 54 0)) ∧ ∃ (h : Nat → Nat) (z : Nat), u = md_r f h z) := by
  refine dw_ofL (by decide) (Nat.le_of_ble_eq_true rfl) ?_
  intro p e s m args below meth c ls A Q R H locs hR hA S hN hw hl hret
  have hl : lv_has ls 5 [(0, .ref (a 54)), (1, .ref (a K))] := hl
  have S : CallFix p m c b_Mo_costOf 5 s args ds_T R_Mo := S
  obtain ⟨hV, hn, hex, hst, hve, hrA, hrB, hrl, hwy⟩ := md_facts ok
  refine lv_lconst (v := lN 0) S.1 S.2.1 d_Mo_costOf_0 rfl ?_
  refine lv_lstore_n (lv' := [(2, .long (lN 0)), (0, .ref (a 54)), (1, .ref (a K))]) S.1 S.2.1 d_Mo_costOf_1 rfl hl (by decide) rfl (fun ls hl => ?_)
  refine lv_iconst (v := nI 0) S.1 S.2.1 d_Mo_costOf_2 (by decide) ?_
  refine lv_istore (lv' := [(4, .int (nI 0)), (2, .long (lN 0)), (0, .ref (a 54)), (1, .ref (a K))]) S.1 S.2.1 d_Mo_costOf_3 hl (by decide) rfl (fun ls hl => ?_)
  have loop_5 : ∀ (n : Nat) (y : Nat) (v : Nat) (f2 : Nat → Nat → Nat) (h : Nat → Nat) (z : Nat) (hv : v ≤ f 54 0) (ey : y = ds_cst (md_v f rw) (f K) v) (hh : f2 = md_r f h z) (_ : f 54 0 - v < n) (H : Heap) (locs : List Loc), dw_W D classes (ds_tys g) A s.heap (dw_l 77 (ds_ce g a) a f2) s H locs → ∀ (ls : Array Slot), lv_has ls 5 [(0, .ref (a 54)), (1, .ref (a K)), (2, .long (lN y)), (4, .int (nI v))] → W p l e R s m args below meth c H locs 0 0 Q (F0 m 5 ls []) := by
    intro n
    induction n with
    | zero => intro y v f2 h z hv ey hh h9; exact absurd h9 (Nat.not_lt_zero _)
    | succ n ih_5 =>
      intro y v f2 h z hv ey hh hm_5 H locs hw ls hl
      have q0 : f2 54 0 = f 54 0 := by rw [hh, md_r_54 (by decide)]
      refine lv_iload S.1 S.2.1 d_Mo_costOf_5 (lv_at hl 3 rfl) ?_
      refine lv_aload_n S.1 S.2.1 d_Mo_costOf_7 rfl (lv_at hl 0 rfl) ?_
      refine dw_getf (fi := 0) (v := .int (nI (f2 54 0))) S hw i_Mo ds_ob54 (by decide) rfl wd_362 rfl d_Mo_costOf_8 ?_
      refine dn_icmp_ge S.1 S.2.1 39 (by omega) (by omega) d_Mo_costOf_11 (by decide) (fun h_11 => ?_) (fun h_11 => ?_)
      · refine lv_lload_n S.1 S.2.1 d_Mo_costOf_39 rfl (lv_at hl 2 rfl) ?_
        exact hret H locs _ ls _ _ hw (⟨by rw [ey, show v = f 54 0 by omega], h, z, hh⟩) d_Mo_costOf_40
      · have hv2 : v < f 54 0 := by omega
        have qK : f2 K = f K := by rw [hh, md_r_ne (by omega) (by omega)]
        have tb := ds_tm_b ok (fun zz => f K zz == v) hv2
        refine lv_lload_n S.1 S.2.1 d_Mo_costOf_14 rfl (lv_at hl 2 rfl) ?_
        refine lv_aload_n S.1 S.2.1 d_Mo_costOf_15 rfl (lv_at hl 0 rfl) ?_
        refine lv_aload_n S.1 S.2.1 d_Mo_costOf_16 rfl (lv_at hl 1 rfl) ?_
        refine lv_iload S.1 S.2.1 d_Mo_costOf_17 (lv_at hl 3 rfl) ?_
        refine dw_afti hw hA (dw_runV (As := [.ref (a K), .int (nI v)]) (rest := [.long (lN y)]) (ko := 54) hw S ds_good (m_timeOf l D g a f2 rw K v (by rw [hh, md_v_r]; exact ok) (by rw [hh, md_r_54 (by decide)]; exact hv2) (hK) (hK2) (fun x hx => by rw [hh] at hx ⊢; rw [md_r_54 (by decide)] at hx; rw [md_r_ne (by omega) (by omega)]; exact hb x hx) H.size) cw_Mo_timeOf wd_498 wd_500 ws_Mo_timeOf ds_ob54 dw_blind (dw_pre hw hN) rfl hl.1 rfl ⟨Nat.le_trans (Nat.le_of_ble_eq_true rfl) hR.1, Nat.le_trans (Nat.le_of_ble_eq_true rfl) hR.2⟩ (Nat.le_of_ble_eq_true rfl) ⟨Nat.zero_le _, Nat.zero_le _⟩ d_Mo_costOf_19) (fun r_19 f_1 H locs hp hw => ?_)
        obtain ⟨er, hr1, zr1, ef_1⟩ := hp
        subst er
        refine ds_topi (w := nI (ds_tm (md_v f rw) (fun zz => f K zz == v) v)) (by rw [qK, hh, md_v_r]) ?_
        have h1s : f_1 = md_r f hr1 zr1 := by rw [ef_1, hh, md_r_r]
        have qK2 : f_1 K = f K := by rw [h1s, md_r_ne (by omega) (by omega)]
        refine lv_aload_n S.1 S.2.1 d_Mo_costOf_22 rfl (lv_at hl 0 rfl) ?_
        refine lv_aload_n S.1 S.2.1 d_Mo_costOf_23 rfl (lv_at hl 1 rfl) ?_
        refine lv_iload S.1 S.2.1 d_Mo_costOf_24 (lv_at hl 3 rfl) ?_
        refine dw_afti hw hA (dw_runV (As := [.ref (a K), .int (nI v)]) (rest := [.int (nI (ds_tm (md_v f rw) (fun zz => f K zz == v) v)), .long (lN y)]) (ko := 54) hw S ds_good (m_overtimeOf l D g a f_1 rw K v (by rw [h1s, md_v_r]; exact ok) (by rw [h1s, md_r_54 (by decide)]; exact hv2) (hK) (hK2) (fun x hx => by rw [h1s] at hx ⊢; rw [md_r_54 (by decide)] at hx; rw [md_r_ne (by omega) (by omega)]; exact hb x hx) H.size) cw_Mo_overtimeOf wd_506 wd_508 ws_Mo_overtimeOf ds_ob54 dw_blind (dw_pre hw hN) rfl hl.1 rfl ⟨Nat.le_trans (Nat.le_of_ble_eq_true rfl) hR.1, Nat.le_trans (Nat.le_of_ble_eq_true rfl) hR.2⟩ (Nat.le_of_ble_eq_true rfl) ⟨Nat.zero_le _, Nat.zero_le _⟩ d_Mo_costOf_26) (fun r_26 f_2 H locs hp hw => ?_)
        obtain ⟨er, hr2, zr2, ef_2⟩ := hp
        subst er
        refine ds_topi (w := nI (ds_tm (md_v f rw) (fun zz => f K zz == v) v - f 63 v)) (by rw [qK2, h1s, md_v_r, md_r_ne (by decide) (by decide)]) ?_
        refine dn_iadd S.1 S.2.1 d_Mo_costOf_29 ?_
        refine dn_i2l S.1 S.2.1 (by omega) d_Mo_costOf_30 ?_
        refine dn_ladd S.1 S.2.1 d_Mo_costOf_31 ?_
        refine lv_lstore_n (lv' := [(2, .long (lN (y + ((ds_tm (md_v f rw) (fun zz => f K zz == v) v) + (ds_tm (md_v f rw) (fun zz => f K zz == v) v - f 63 v))))), (0, .ref (a 54)), (1, .ref (a K)), (4, .int (nI v))]) S.1 S.2.1 d_Mo_costOf_32 rfl hl (by decide) rfl (fun ls hl => ?_)
        refine lv_iinc (v := nI (v + 1)) (lv' := [(4, .int (nI (v + 1))), (2, .long (lN (y + ((ds_tm (md_v f rw) (fun zz => f K zz == v) v) + (ds_tm (md_v f rw) (fun zz => f K zz == v) v - f 63 v))))), (0, .ref (a 54)), (1, .ref (a K))]) S.1 S.2.1 d_Mo_costOf_33 hl (k := 3) rfl (by rw [show Int32.ofInt 1 = nI 1 from rfl, nI_add]) (by decide) rfl (fun ls hl => ?_)
        refine lv_goto (tgt := 5) S.1 S.2.1 d_Mo_costOf_36 (by decide) ?_
        exact ih_5 (y + ((ds_tm (md_v f rw) (fun zz => f K zz == v) v) + (ds_tm (md_v f rw) (fun zz => f K zz == v) v - f 63 v))) (v + 1) f_2 hr2 zr2 (by omega) (by rw [ey]; rfl) (by rw [ef_2, h1s, md_r_r]) (by omega) H locs hw ls (lv_sub hl [2, 3, 1, 0] rfl)
  exact loop_5 _ 0 0 f (f 74) (f 54 25) (Nat.zero_le _) (rfl) (md_r_id) (Nat.lt_succ_self _) H locs hw ls (lv_sub hl [2, 3, 1, 0] rfl)
set_option maxHeartbeats 4000000 in
set_option maxRecDepth 100000 in
theorem m_cost (l : Launch) (D : va_G) (g : Nat → ClassId) (a : Nat → Nat) (f : Nat → Nat → Nat) (rw : Nat → Nat → Nat) (ok : ds_ok (md_v f rw)) : ds_L l D g a y_Mo_cost b_Mo_cost 1 4 96 [.ref (a 54)] f (fun r u => r = lN (ds_cst (md_v f rw) (f 65) (f 54 0)) ∧ ∃ (h : Nat → Nat) (z : Nat), u = md_r f h z) := by
  refine dw_ofL (by decide) (Nat.le_of_ble_eq_true rfl) ?_
  intro p e s m args below meth c ls A Q R H locs hR hA S hN hw hl hret
  have hl : lv_has ls 1 [(0, .ref (a 54))] := hl
  have S : CallFix p m c b_Mo_cost 1 s args ds_T R_Mo := S
  obtain ⟨hV, hn, hex, hst, hve, hrA, hrB, hrl, hwy⟩ := md_facts ok
  refine lv_aload_n S.1 S.2.1 d_Mo_cost_0 rfl (lv_at hl 0 rfl) ?_
  refine lv_aload_n S.1 S.2.1 d_Mo_cost_1 rfl (lv_at hl 0 rfl) ?_
  refine dw_getf (fi := 13) (v := .ref (a 65)) S hw i_Mo ds_ob54 (by decide) rfl wd_375 rfl d_Mo_cost_2 ?_
  refine dw_aftl hw hA (dw_runV (As := [.ref (a 65)]) (rest := []) (ko := 54) hw S ds_good (m_costOf l D g a f rw 65 (ok) (ds_k65) (Or.inl rfl) (fun x hx => by have := hst x hx; omega) H.size) cw_Mo_costOf wd_494 wd_496 ws_Mo_costOf ds_ob54 dw_blind (dw_pre hw hN) rfl hl.1 rfl ⟨Nat.le_trans (Nat.le_of_ble_eq_true rfl) hR.1, Nat.le_trans (Nat.le_of_ble_eq_true rfl) hR.2⟩ (Nat.le_of_ble_eq_true rfl) ⟨Nat.zero_le _, Nat.zero_le _⟩ d_Mo_cost_5) (fun r_5 f_1 H locs hp hw => ?_)
  obtain ⟨er, hr3, zr3, ef_1⟩ := hp
  subst er
  exact hret H locs _ ls _ _ hw (⟨rfl, hr3, zr3, ef_1⟩) d_Mo_cost_8
set_option maxHeartbeats 4000000 in
set_option maxRecDepth 100000 in
theorem m_overtime (l : Launch) (D : va_G) (g : Nat → ClassId) (a : Nat → Nat) (f : Nat → Nat → Nat) (rw : Nat → Nat → Nat) (x : Int32) (ok : ds_ok (md_v f rw)) : ds_I l D g a y_Mo_overtime b_Mo_overtime 2 .int 3 72 [.ref (a 54), .int x] f (fun r u => (if ds_in x (f 54 0) then r = nI (ds_tm (md_v f rw) (fun zz => f 65 zz == x.toNatClampNeg) x.toNatClampNeg - f 63 x.toNatClampNeg) else r = (-1)) ∧ ∃ (h : Nat → Nat) (z : Nat), u = md_r f h z) := by
  refine dw_ofI (by decide) (fun _ _ _ => rfl) (Nat.le_of_ble_eq_true rfl) ?_
  intro p e s m args below meth c ls A Q R H locs hR hA S hN hw hl hret
  have hl : lv_has ls 2 [(0, .ref (a 54)), (1, .int x)] := hl
  have S : CallFix p m c b_Mo_overtime 2 s args ds_T R_Mo := S
  obtain ⟨hV, hn, hex, hst, hve, hrA, hrB, hrl, hwy⟩ := md_facts ok
  refine lv_aload_n S.1 S.2.1 d_Mo_overtime_0 rfl (lv_at hl 0 rfl) ?_
  refine lv_iload_n S.1 S.2.1 d_Mo_overtime_1 rfl (lv_at hl 1 rfl) ?_
  refine dw_afti hw hA (dw_runV (As := [.int x]) (rest := []) (ko := 54) hw S ds_good (m_isVehicle l D g a f x (by omega) H.size) cw_Mo_isVehicle wd_451 wd_453 ws_Mo_isVehicle ds_ob54 dw_blind (dw_pre hw hN) rfl hl.1 rfl ⟨Nat.le_trans (Nat.le_of_ble_eq_true rfl) hR.1, Nat.le_trans (Nat.le_of_ble_eq_true rfl) hR.2⟩ (Nat.le_of_ble_eq_true rfl) ⟨Nat.zero_le _, Nat.zero_le _⟩ d_Mo_overtime_2) (fun r_2 f_1 H locs hp hw => ?_)
  obtain ⟨er, ef⟩ := hp
  subst er
  rw [ef] at hw
  refine dn_ifb_eq S.1 S.2.1 20 d_Mo_overtime_5 (by decide) (fun h_5 => ?_) (fun h_5 => ?_)
  · refine lv_iconst (v := (-1)) S.1 S.2.1 d_Mo_overtime_20 (by decide) ?_
    exact hret H locs _ ls _ _ hw (⟨by rw [if_neg h_5], f 74, f 54 25, md_r_id⟩) d_Mo_overtime_21
  · obtain ⟨ex1, hx1⟩ := ds_in_nI h_5
    have hl : lv_has ls 2 [(0, .ref (a 54)), (1, .int (nI (x.toNatClampNeg)))] := by have hl2 := hl; rw [ex1] at hl2; exact hl2
    refine lv_aload_n S.1 S.2.1 d_Mo_overtime_8 rfl (lv_at hl 0 rfl) ?_
    refine lv_aload_n S.1 S.2.1 d_Mo_overtime_9 rfl (lv_at hl 0 rfl) ?_
    refine dw_getf (fi := 13) (v := .ref (a 65)) S hw i_Mo ds_ob54 (by decide) rfl wd_375 rfl d_Mo_overtime_10 ?_
    refine lv_iload_n S.1 S.2.1 d_Mo_overtime_13 rfl (lv_at hl 1 rfl) ?_
    refine dw_afti hw hA (dw_runV (As := [.ref (a 65), .int (nI (x.toNatClampNeg))]) (rest := []) (ko := 54) hw S ds_good (m_overtimeOf l D g a f rw 65 (x.toNatClampNeg) (ok) (hx1) (ds_k65) (Or.inl rfl) (fun x hx => by have := hst x hx; omega) H.size) cw_Mo_overtimeOf wd_506 wd_508 ws_Mo_overtimeOf ds_ob54 dw_blind (dw_pre hw hN) rfl hl.1 rfl ⟨Nat.le_trans (Nat.le_of_ble_eq_true rfl) hR.1, Nat.le_trans (Nat.le_of_ble_eq_true rfl) hR.2⟩ (Nat.le_of_ble_eq_true rfl) ⟨Nat.zero_le _, Nat.zero_le _⟩ d_Mo_overtime_14) (fun r_14 f_2 H locs hp hw => ?_)
    obtain ⟨er, hr2, zr2, ef_2⟩ := hp
    subst er
    refine lv_goto (tgt := 21) S.1 S.2.1 d_Mo_overtime_17 (by decide) ?_
    exact hret H locs _ ls _ _ hw (⟨by rw [if_pos h_5], hr2, zr2, ef_2⟩) d_Mo_overtime_21
set_option maxHeartbeats 4000000 in
set_option maxRecDepth 100000 in
theorem m_movedBy (l : Launch) (D : va_G) (g : Nat → ClassId) (a : Nat → Nat) (f : Nat → Nat → Nat) (K : Nat) (hn : f 54 1 ≤ 8) (hK : dw_Ci (ds_tys g) 77 (ds_ce g a) .int K 8) (hK2 : K = 65 ∨ K = 66) (hb : ∀ x, x < f 54 1 → f K x < 2 ^ 31) (hb2 : ∀ x, x < f 54 1 → f 57 x < 2 ^ 31) : ds_I l D g a y_Mo_movedBy b_Mo_movedBy 4 .int 0 0 [.ref (a 54), .ref (a K)] f (fun r u => r = nI (ds_cnt (fun x => f K x != f 57 x) (f 54 1)) ∧ u = f) := by
  refine dw_ofI (by decide) (fun _ _ _ => rfl) (Nat.le_of_ble_eq_true rfl) ?_
  intro p e s m args below meth c ls A Q R H locs hR hA S hN hw hl hret
  have hl : lv_has ls 4 [(0, .ref (a 54)), (1, .ref (a K))] := hl
  have S : CallFix p m c b_Mo_movedBy 4 s args ds_T R_Mo := S
  refine lv_iconst (v := nI 0) S.1 S.2.1 d_Mo_movedBy_0 (by decide) ?_
  refine lv_istore_n (lv' := [(2, .int (nI 0)), (0, .ref (a 54)), (1, .ref (a K))]) S.1 S.2.1 d_Mo_movedBy_1 rfl hl (by decide) rfl (fun ls hl => ?_)
  refine lv_iconst (v := nI 0) S.1 S.2.1 d_Mo_movedBy_2 (by decide) ?_
  refine lv_istore_n (lv' := [(3, .int (nI 0)), (2, .int (nI 0)), (0, .ref (a 54)), (1, .ref (a K))]) S.1 S.2.1 d_Mo_movedBy_3 rfl hl (by decide) rfl (fun ls hl => ?_)
  have loop_4 : ∀ (n : Nat) (z : Nat) (i : Nat) (hi : i ≤ f 54 1) (ez : z = ds_cnt (fun x => f K x != f 57 x) i) (_ : f 54 1 - i < n) (H : Heap) (locs : List Loc), dw_W D classes (ds_tys g) A s.heap (dw_l 77 (ds_ce g a) a f) s H locs → ∀ (ls : Array Slot), lv_has ls 4 [(0, .ref (a 54)), (1, .ref (a K)), (2, .int (nI z)), (3, .int (nI i))] → W p l e R s m args below meth c H locs 0 0 Q (F0 m 4 ls []) := by
    intro n
    induction n with
    | zero => intro z i hi ez h9; exact absurd h9 (Nat.not_lt_zero _)
    | succ n ih_4 =>
      intro z i hi ez hm_4 H locs hw ls hl
      refine lv_iload_n S.1 S.2.1 d_Mo_movedBy_4 rfl (lv_at hl 3 rfl) ?_
      refine lv_aload_n S.1 S.2.1 d_Mo_movedBy_5 rfl (lv_at hl 0 rfl) ?_
      refine dw_getf (fi := 1) (v := .int (nI (f 54 1))) S hw i_Mo ds_ob54 (by decide) rfl wd_363 rfl d_Mo_movedBy_6 ?_
      refine dn_icmp_ge S.1 S.2.1 38 (by omega) (by omega) d_Mo_movedBy_9 (by decide) (fun h_9 => ?_) (fun h_9 => ?_)
      · refine lv_iload_n S.1 S.2.1 d_Mo_movedBy_38 rfl (lv_at hl 2 rfl) ?_
        exact hret H locs _ ls _ _ hw (⟨by rw [ez, show i = f 54 1 by omega], rfl⟩) d_Mo_movedBy_39
      · have b1 := hb i (by omega)
        have b2 := hb2 i (by omega)
        refine lv_iload_n S.1 S.2.1 d_Mo_movedBy_12 rfl (lv_at hl 2 rfl) ?_
        refine lv_aload_n S.1 S.2.1 d_Mo_movedBy_13 rfl (lv_at hl 1 rfl) ?_
        refine lv_iload_n S.1 S.2.1 d_Mo_movedBy_14 rfl (lv_at hl 3 rfl) ?_
        refine dw_iald S.1 S.2.1 hw hK (by omega) d_Mo_movedBy_15 ?_
        refine lv_aload_n S.1 S.2.1 d_Mo_movedBy_16 rfl (lv_at hl 0 rfl) ?_
        refine dw_getf (fi := 4) (v := .ref (a 57)) S hw i_Mo ds_ob54 (by decide) rfl wd_366 rfl d_Mo_movedBy_17 ?_
        refine lv_iload_n S.1 S.2.1 d_Mo_movedBy_20 rfl (lv_at hl 3 rfl) ?_
        refine dw_iald S.1 S.2.1 hw ds_k57 (by omega) d_Mo_movedBy_21 ?_
        refine dn_icmp_eq S.1 S.2.1 29 (by omega) (by omega) d_Mo_movedBy_22 (by decide) (fun h_22 => ?_) (fun h_22 => ?_)
        · refine lv_iconst (v := nI 0) S.1 S.2.1 d_Mo_movedBy_29 (by decide) ?_
          refine dn_iadd S.1 S.2.1 d_Mo_movedBy_30 ?_
          refine lv_istore_n (lv' := [(2, .int (nI (z + 0))), (0, .ref (a 54)), (1, .ref (a K)), (3, .int (nI i))]) S.1 S.2.1 d_Mo_movedBy_31 rfl hl (by decide) rfl (fun ls hl => ?_)
          refine lv_iinc (v := nI (i + 1)) (lv' := [(3, .int (nI (i + 1))), (2, .int (nI (z + 0))), (0, .ref (a 54)), (1, .ref (a K))]) S.1 S.2.1 d_Mo_movedBy_32 hl (k := 3) rfl (by rw [show Int32.ofInt 1 = nI 1 from rfl, nI_add]) (by decide) rfl (fun ls hl => ?_)
          refine lv_goto (tgt := 4) S.1 S.2.1 d_Mo_movedBy_35 (by decide) ?_
          exact ih_4 (z + 0) (i + 1) (by omega) (by rw [ez]; simp [ds_cnt, h_22]) (by omega) H locs hw ls (lv_sub hl [2, 3, 1, 0] rfl)
        · refine lv_iconst (v := nI 1) S.1 S.2.1 d_Mo_movedBy_25 (by decide) ?_
          refine lv_goto (tgt := 30) S.1 S.2.1 d_Mo_movedBy_26 (by decide) ?_
          refine dn_iadd S.1 S.2.1 d_Mo_movedBy_30 ?_
          refine lv_istore_n (lv' := [(2, .int (nI (z + 1))), (0, .ref (a 54)), (1, .ref (a K)), (3, .int (nI i))]) S.1 S.2.1 d_Mo_movedBy_31 rfl hl (by decide) rfl (fun ls hl => ?_)
          refine lv_iinc (v := nI (i + 1)) (lv' := [(3, .int (nI (i + 1))), (2, .int (nI (z + 1))), (0, .ref (a 54)), (1, .ref (a K))]) S.1 S.2.1 d_Mo_movedBy_32 hl (k := 3) rfl (by rw [show Int32.ofInt 1 = nI 1 from rfl, nI_add]) (by decide) rfl (fun ls hl => ?_)
          refine lv_goto (tgt := 4) S.1 S.2.1 d_Mo_movedBy_35 (by decide) ?_
          exact ih_4 (z + 1) (i + 1) (by omega) (by rw [ez]; simp [ds_cnt, h_22]) (by omega) H locs hw ls (lv_sub hl [2, 3, 1, 0] rfl)
  exact loop_4 _ 0 0 (Nat.zero_le _) (rfl) (Nat.lt_succ_self _) H locs hw ls (lv_sub hl [2, 3, 1, 0] rfl)
end
section
/-! small rows for the reference's search -/
theorem dn_bnz {P : Prop} [Decidable P] {b : Nat} (e : b = dn_b P) (h : b ≠ 0) : P := Decidable.byContradiction (fun q => h (by rw [e, dn_b0 q]))
theorem dn_bz0 {P : Prop} [Decidable P] {b : Nat} (e : b = dn_b P) (h : b = 0) : ¬ P := fun q => by rw [e, dn_b1 q] at h; omega
theorem ds_neg1 {j : Nat} (hj : j < 2 ^ 30) : (nI j - nI 1 < 0) ↔ j = 0 := by
  rw [Int32.lt_iff_toInt_lt, pk_sub_toInt hj (by decide), Int32.toInt_zero]
  omega
theorem ds_dec1 (x : Int32) : x + Int32.ofInt (-1) = x - nI 1 := by
  rw [Int32.sub_eq_add_neg]
  rfl
end
section
/-! contracts of the reference: tests of its search -/
set_option maxHeartbeats 4000000 in
set_option maxRecDepth 100000 in
theorem m_holdsApart (l : Launch) (D : va_G) (g : Nat → ClassId) (a : Nat → Nat) (f : Nat → Nat → Nat) (rw : Nat → Nat → Nat) (ok : ds_ok (md_v f rw)) (ht : ∀ x, x < f 54 1 → f 66 x ≤ f 54 0) : ds_I l D g a y_Mo_holdsApart b_Mo_holdsApart 4 .boolean 1 22 [.ref (a 54)] f (fun r u => r = nI (dn_b (md_ap (md_v f rw) (f 66) (f 54 1) = true)) ∧ u = f) := by
  refine dw_ofI (by decide) (fun _ _ h => h.1 ▸ dn_nar) (Nat.le_of_ble_eq_true rfl) ?_
  intro p e s m args below meth c ls A Q R H locs hR hA S hN hw hl hret
  have hl : lv_has ls 4 [(0, .ref (a 54))] := hl
  have S : CallFix p m c b_Mo_holdsApart 4 s args ds_T R_Mo := S
  obtain ⟨hV, hn, hex, hst, hve, hrA, hrB, hrl, hwy⟩ := md_facts ok
  refine lv_iconst (v := nI 1) S.1 S.2.1 d_Mo_holdsApart_0 (by decide) ?_
  refine lv_istore_n (lv' := [(1, .int (nI 1)), (0, .ref (a 54))]) S.1 S.2.1 d_Mo_holdsApart_1 rfl hl (by decide) rfl (fun ls hl => ?_)
  refine lv_iconst (v := nI 0) S.1 S.2.1 d_Mo_holdsApart_2 (by decide) ?_
  refine lv_istore_n (lv' := [(2, .int (nI 0)), (1, .int (nI 1)), (0, .ref (a 54))]) S.1 S.2.1 d_Mo_holdsApart_3 rfl hl (by decide) rfl (fun ls hl => ?_)
  have loop_4 : ∀ (n : Nat) (b : Nat) (i : Nat) (hi : i ≤ f 54 1) (eb : b = dn_b (md_ap (md_v f rw) (f 66) i = true)) (_ : f 54 1 - i < n) (H : Heap) (locs : List Loc), dw_W D classes (ds_tys g) A s.heap (dw_l 77 (ds_ce g a) a f) s H locs → ∀ (ls : Array Slot), lv_has ls 4 [(0, .ref (a 54)), (1, .int (nI b)), (2, .int (nI i))] → W p l e R s m args below meth c H locs 0 0 Q (F0 m 4 ls []) := by
    intro n
    induction n with
    | zero => intro b i hi eb h9; exact absurd h9 (Nat.not_lt_zero _)
    | succ n ih_4 =>
      intro b i hi eb hm_4 H locs hw ls hl
      have b1 : b ≤ 1 := by rw [eb]; exact dn_ble
      refine lv_iload_n S.1 S.2.1 d_Mo_holdsApart_4 rfl (lv_at hl 2 rfl) ?_
      refine lv_aload_n S.1 S.2.1 d_Mo_holdsApart_5 rfl (lv_at hl 0 rfl) ?_
      refine dw_getf (fi := 1) (v := .int (nI (f 54 1))) S hw i_Mo ds_ob54 (by decide) rfl wd_363 rfl d_Mo_holdsApart_6 ?_
      refine dn_icmp_ge S.1 S.2.1 108 (by omega) (by omega) d_Mo_holdsApart_9 (by decide) (fun h_9 => ?_) (fun h_9 => ?_)
      · refine lv_iload_n S.1 S.2.1 d_Mo_holdsApart_108 rfl (lv_at hl 1 rfl) ?_
        exact hret H locs _ ls _ _ hw (⟨by rw [eb, show i = f 54 1 by omega], rfl⟩) d_Mo_holdsApart_109
      · have t1 := ht i (by omega)
        have s1 := hst i (by omega)
        have r1 := hrB i (by omega)
        refine lv_aload_n S.1 S.2.1 d_Mo_holdsApart_12 rfl (lv_at hl 0 rfl) ?_
        refine dw_getf (fi := 14) (v := .ref (a 66)) S hw i_Mo ds_ob54 (by decide) rfl wd_376 rfl d_Mo_holdsApart_13 ?_
        refine lv_iload_n S.1 S.2.1 d_Mo_holdsApart_16 rfl (lv_at hl 2 rfl) ?_
        refine dw_iald S.1 S.2.1 hw ds_k66 (by omega) d_Mo_holdsApart_17 ?_
        refine lv_aload_n S.1 S.2.1 d_Mo_holdsApart_18 rfl (lv_at hl 0 rfl) ?_
        refine dw_getf (fi := 0) (v := .int (nI (f 54 0))) S hw i_Mo ds_ob54 (by decide) rfl wd_362 rfl d_Mo_holdsApart_19 ?_
        refine dn_icmp_ne S.1 S.2.1 29 (by omega) (by omega) d_Mo_holdsApart_22 (by decide) (fun h_22 => ?_) (fun h_22 => ?_)
        · refine lv_iconst (v := nI 0) S.1 S.2.1 d_Mo_holdsApart_29 (by decide) ?_
          refine lv_istore_n (lv' := [(3, .int (nI 0)), (0, .ref (a 54)), (1, .int (nI b)), (2, .int (nI i))]) S.1 S.2.1 d_Mo_holdsApart_30 rfl hl (by decide) rfl (fun ls hl => ?_)
          refine lv_iload_n S.1 S.2.1 d_Mo_holdsApart_31 rfl (lv_at hl 2 rfl) ?_
          refine dn_if_eq S.1 S.2.1 63 (by omega) d_Mo_holdsApart_32 (by decide) (fun h_32 => ?_) (fun h_32 => ?_)
          · have hap := dn_bz0 eb h_32
            refine lv_iconst (v := nI 0) S.1 S.2.1 d_Mo_holdsApart_63 (by decide) ?_
            refine lv_istore_n (lv' := [(1, .int (nI 0)), (3, .int (nI 0)), (0, .ref (a 54)), (2, .int (nI i))]) S.1 S.2.1 d_Mo_holdsApart_64 rfl hl (by decide) rfl (fun ls hl => ?_)
            refine lv_iload_n S.1 S.2.1 d_Mo_holdsApart_65 rfl (lv_at hl 0 rfl) ?_
            refine dn_if_eq S.1 S.2.1 100 (by decide) d_Mo_holdsApart_66 (by decide) (fun h_66 => ?_) (fun h_66 => absurd h_66 (by decide))
            refine lv_iconst (v := nI 0) S.1 S.2.1 d_Mo_holdsApart_100 (by decide) ?_
            refine lv_istore_n (lv' := [(1, .int (nI 0)), (3, .int (nI 0)), (0, .ref (a 54)), (2, .int (nI i))]) S.1 S.2.1 d_Mo_holdsApart_101 rfl hl (by decide) rfl (fun ls hl => ?_)
            refine lv_iinc (v := nI (i + 1)) (lv' := [(2, .int (nI (i + 1))), (1, .int (nI 0)), (3, .int (nI 0)), (0, .ref (a 54))]) S.1 S.2.1 d_Mo_holdsApart_102 hl (k := 3) rfl (by rw [show Int32.ofInt 1 = nI 1 from rfl, nI_add]) (by decide) rfl (fun ls hl => ?_)
            refine lv_goto (tgt := 4) S.1 S.2.1 d_Mo_holdsApart_105 (by decide) ?_
            exact ih_4 0 (i + 1) (by omega) (by rw [dn_b0 (by rw [show md_ap (md_v f rw) (f 66) (i + 1) = (md_ap (md_v f rw) (f 66) i && ds_may (md_v f rw) i (f 66 i)) from rfl, md_may]; simp [hap, h_22] <;> omega)]) (by omega) H locs hw ls (lv_sub hl [3, 1, 0] rfl)
          · have hap := dn_bnz eb h_32
            refine lv_aload_n S.1 S.2.1 d_Mo_holdsApart_35 rfl (lv_at hl 1 rfl) ?_
            refine dw_getf (fi := 7) (v := .ref (a 60)) S hw i_Mo ds_ob54 (by decide) rfl wd_369 rfl d_Mo_holdsApart_36 ?_
            refine lv_iload_n S.1 S.2.1 d_Mo_holdsApart_39 rfl (lv_at hl 3 rfl) ?_
            refine dw_zald S.1 S.2.1 hw ds_k60 (by omega) d_Mo_holdsApart_40 ?_
            refine dn_if_eq S.1 S.2.1 59 (by omega) d_Mo_holdsApart_41 (by decide) (fun h_41 => ?_) (fun h_41 => ?_)
            · refine lv_iconst (v := nI 1) S.1 S.2.1 d_Mo_holdsApart_59 (by decide) ?_
              refine lv_goto (tgt := 64) S.1 S.2.1 d_Mo_holdsApart_60 (by decide) ?_
              refine lv_istore_n (lv' := [(1, .int (nI 1)), (3, .int (nI 0)), (0, .ref (a 54)), (2, .int (nI i))]) S.1 S.2.1 d_Mo_holdsApart_64 rfl hl (by decide) rfl (fun ls hl => ?_)
              refine lv_iload_n S.1 S.2.1 d_Mo_holdsApart_65 rfl (lv_at hl 0 rfl) ?_
              refine dn_if_eq S.1 S.2.1 100 (by decide) d_Mo_holdsApart_66 (by decide) (fun h_66 => absurd h_66 (by decide)) (fun h_66 => ?_)
              refine lv_iload_n S.1 S.2.1 d_Mo_holdsApart_69 rfl (lv_at hl 1 rfl) ?_
              refine dn_if_ne S.1 S.2.1 96 (by decide) d_Mo_holdsApart_70 (by decide) (fun h_70 => absurd h_70 (by decide)) (fun h_70 => ?_)
              refine lv_aload_n S.1 S.2.1 d_Mo_holdsApart_73 rfl (lv_at hl 2 rfl) ?_
              refine dw_getf (fi := 8) (v := .ref (a 61)) S hw i_Mo ds_ob54 (by decide) rfl wd_370 rfl d_Mo_holdsApart_74 ?_
              refine lv_iload_n S.1 S.2.1 d_Mo_holdsApart_77 rfl (lv_at hl 3 rfl) ?_
              refine dw_zald S.1 S.2.1 hw ds_k61 (by omega) d_Mo_holdsApart_78 ?_
              refine dn_if_ne S.1 S.2.1 100 (by omega) d_Mo_holdsApart_79 (by decide) (fun h_79 => ?_) (fun h_79 => ?_)
              · refine lv_iconst (v := nI 0) S.1 S.2.1 d_Mo_holdsApart_100 (by decide) ?_
                refine lv_istore_n (lv' := [(1, .int (nI 0)), (3, .int (nI 0)), (0, .ref (a 54)), (2, .int (nI i))]) S.1 S.2.1 d_Mo_holdsApart_101 rfl hl (by decide) rfl (fun ls hl => ?_)
                refine lv_iinc (v := nI (i + 1)) (lv' := [(2, .int (nI (i + 1))), (1, .int (nI 0)), (3, .int (nI 0)), (0, .ref (a 54))]) S.1 S.2.1 d_Mo_holdsApart_102 hl (k := 3) rfl (by rw [show Int32.ofInt 1 = nI 1 from rfl, nI_add]) (by decide) rfl (fun ls hl => ?_)
                refine lv_goto (tgt := 4) S.1 S.2.1 d_Mo_holdsApart_105 (by decide) ?_
                exact ih_4 0 (i + 1) (by omega) (by rw [dn_b0 (by rw [show md_ap (md_v f rw) (f 66) (i + 1) = (md_ap (md_v f rw) (f 66) i && ds_may (md_v f rw) i (f 66 i)) from rfl, md_may]; simp [hap, h_22, h_41, h_79] <;> omega)]) (by omega) H locs hw ls (lv_sub hl [3, 1, 0] rfl)
              · refine lv_aload_n S.1 S.2.1 d_Mo_holdsApart_82 rfl (lv_at hl 2 rfl) ?_
                refine lv_aload_n S.1 S.2.1 d_Mo_holdsApart_83 rfl (lv_at hl 2 rfl) ?_
                refine dw_getf (fi := 14) (v := .ref (a 66)) S hw i_Mo ds_ob54 (by decide) rfl wd_376 rfl d_Mo_holdsApart_84 ?_
                refine lv_iload_n S.1 S.2.1 d_Mo_holdsApart_87 rfl (lv_at hl 3 rfl) ?_
                refine dw_iald S.1 S.2.1 hw ds_k66 (by omega) d_Mo_holdsApart_88 ?_
                refine lv_iload_n S.1 S.2.1 d_Mo_holdsApart_89 rfl (lv_at hl 3 rfl) ?_
                refine dw_afti hw hA (dw_runV (As := [.int (nI (f 66 i)), .int (nI i)]) (rest := []) (ko := 54) hw S ds_good (m_can l D g a f rw (f 66 i) i (ok) (by omega) (by omega) H.size) cw_Mo_can wd_526 wd_528 ws_Mo_can ds_ob54 dw_blind (dw_pre hw hN) rfl hl.1 rfl ⟨Nat.le_trans (Nat.le_of_ble_eq_true rfl) hR.1, Nat.le_trans (Nat.le_of_ble_eq_true rfl) hR.2⟩ (Nat.le_of_ble_eq_true rfl) ⟨Nat.zero_le _, Nat.zero_le _⟩ d_Mo_holdsApart_90) (fun r_90 f_1 H locs hp hw => ?_)
                obtain ⟨er, ef⟩ := hp
                subst er
                rw [ef] at hw
                refine dn_ifb_eq S.1 S.2.1 100 d_Mo_holdsApart_93 (by decide) (fun h_93 => ?_) (fun h_93 => ?_)
                · refine lv_iconst (v := nI 0) S.1 S.2.1 d_Mo_holdsApart_100 (by decide) ?_
                  refine lv_istore_n (lv' := [(1, .int (nI 0)), (3, .int (nI 0)), (0, .ref (a 54)), (2, .int (nI i))]) S.1 S.2.1 d_Mo_holdsApart_101 rfl hl (by decide) rfl (fun ls hl => ?_)
                  refine lv_iinc (v := nI (i + 1)) (lv' := [(2, .int (nI (i + 1))), (1, .int (nI 0)), (3, .int (nI 0)), (0, .ref (a 54))]) S.1 S.2.1 d_Mo_holdsApart_102 hl (k := 3) rfl (by rw [show Int32.ofInt 1 = nI 1 from rfl, nI_add]) (by decide) rfl (fun ls hl => ?_)
                  refine lv_goto (tgt := 4) S.1 S.2.1 d_Mo_holdsApart_105 (by decide) ?_
                  exact ih_4 0 (i + 1) (by omega) (by rw [dn_b0 (by rw [show md_ap (md_v f rw) (f 66) (i + 1) = (md_ap (md_v f rw) (f 66) i && ds_may (md_v f rw) i (f 66 i)) from rfl, md_may]; simp [hap, h_22, h_41, h_79, h_93] <;> omega)]) (by omega) H locs hw ls (lv_sub hl [3, 1, 0] rfl)
                · refine lv_iconst (v := nI 1) S.1 S.2.1 d_Mo_holdsApart_96 (by decide) ?_
                  refine lv_goto (tgt := 101) S.1 S.2.1 d_Mo_holdsApart_97 (by decide) ?_
                  refine lv_istore_n (lv' := [(1, .int (nI 1)), (3, .int (nI 0)), (0, .ref (a 54)), (2, .int (nI i))]) S.1 S.2.1 d_Mo_holdsApart_101 rfl hl (by decide) rfl (fun ls hl => ?_)
                  refine lv_iinc (v := nI (i + 1)) (lv' := [(2, .int (nI (i + 1))), (1, .int (nI 1)), (3, .int (nI 0)), (0, .ref (a 54))]) S.1 S.2.1 d_Mo_holdsApart_102 hl (k := 3) rfl (by rw [show Int32.ofInt 1 = nI 1 from rfl, nI_add]) (by decide) rfl (fun ls hl => ?_)
                  refine lv_goto (tgt := 4) S.1 S.2.1 d_Mo_holdsApart_105 (by decide) ?_
                  exact ih_4 1 (i + 1) (by omega) (by rw [dn_b1 (by rw [show md_ap (md_v f rw) (f 66) (i + 1) = (md_ap (md_v f rw) (f 66) i && ds_may (md_v f rw) i (f 66 i)) from rfl, md_may]; simp [hap, h_22, h_41, h_79, h_93] <;> omega)]) (by omega) H locs hw ls (lv_sub hl [3, 1, 0] rfl)
            · refine lv_aload_n S.1 S.2.1 d_Mo_holdsApart_44 rfl (lv_at hl 1 rfl) ?_
              refine dw_getf (fi := 14) (v := .ref (a 66)) S hw i_Mo ds_ob54 (by decide) rfl wd_376 rfl d_Mo_holdsApart_45 ?_
              refine lv_iload_n S.1 S.2.1 d_Mo_holdsApart_48 rfl (lv_at hl 3 rfl) ?_
              refine dw_iald S.1 S.2.1 hw ds_k66 (by omega) d_Mo_holdsApart_49 ?_
              refine lv_aload_n S.1 S.2.1 d_Mo_holdsApart_50 rfl (lv_at hl 1 rfl) ?_
              refine dw_getf (fi := 4) (v := .ref (a 57)) S hw i_Mo ds_ob54 (by decide) rfl wd_366 rfl d_Mo_holdsApart_51 ?_
              refine lv_iload_n S.1 S.2.1 d_Mo_holdsApart_54 rfl (lv_at hl 3 rfl) ?_
              refine dw_iald S.1 S.2.1 hw ds_k57 (by omega) d_Mo_holdsApart_55 ?_
              refine dn_icmp_ne S.1 S.2.1 63 (by omega) (by omega) d_Mo_holdsApart_56 (by decide) (fun h_56 => ?_) (fun h_56 => ?_)
              · have h_57 : ¬ f 57 i = f 66 i := by omega
                refine lv_iconst (v := nI 0) S.1 S.2.1 d_Mo_holdsApart_63 (by decide) ?_
                refine lv_istore_n (lv' := [(1, .int (nI 0)), (3, .int (nI 0)), (0, .ref (a 54)), (2, .int (nI i))]) S.1 S.2.1 d_Mo_holdsApart_64 rfl hl (by decide) rfl (fun ls hl => ?_)
                refine lv_iload_n S.1 S.2.1 d_Mo_holdsApart_65 rfl (lv_at hl 0 rfl) ?_
                refine dn_if_eq S.1 S.2.1 100 (by decide) d_Mo_holdsApart_66 (by decide) (fun h_66 => ?_) (fun h_66 => absurd h_66 (by decide))
                refine lv_iconst (v := nI 0) S.1 S.2.1 d_Mo_holdsApart_100 (by decide) ?_
                refine lv_istore_n (lv' := [(1, .int (nI 0)), (3, .int (nI 0)), (0, .ref (a 54)), (2, .int (nI i))]) S.1 S.2.1 d_Mo_holdsApart_101 rfl hl (by decide) rfl (fun ls hl => ?_)
                refine lv_iinc (v := nI (i + 1)) (lv' := [(2, .int (nI (i + 1))), (1, .int (nI 0)), (3, .int (nI 0)), (0, .ref (a 54))]) S.1 S.2.1 d_Mo_holdsApart_102 hl (k := 3) rfl (by rw [show Int32.ofInt 1 = nI 1 from rfl, nI_add]) (by decide) rfl (fun ls hl => ?_)
                refine lv_goto (tgt := 4) S.1 S.2.1 d_Mo_holdsApart_105 (by decide) ?_
                exact ih_4 0 (i + 1) (by omega) (by rw [dn_b0 (by rw [show md_ap (md_v f rw) (f 66) (i + 1) = (md_ap (md_v f rw) (f 66) i && ds_may (md_v f rw) i (f 66 i)) from rfl, md_may]; simp [hap, h_22, h_41, h_57] <;> omega)]) (by omega) H locs hw ls (lv_sub hl [3, 1, 0] rfl)
              · have h_57 : f 57 i = f 66 i := by omega
                refine lv_iconst (v := nI 1) S.1 S.2.1 d_Mo_holdsApart_59 (by decide) ?_
                refine lv_goto (tgt := 64) S.1 S.2.1 d_Mo_holdsApart_60 (by decide) ?_
                refine lv_istore_n (lv' := [(1, .int (nI 1)), (3, .int (nI 0)), (0, .ref (a 54)), (2, .int (nI i))]) S.1 S.2.1 d_Mo_holdsApart_64 rfl hl (by decide) rfl (fun ls hl => ?_)
                refine lv_iload_n S.1 S.2.1 d_Mo_holdsApart_65 rfl (lv_at hl 0 rfl) ?_
                refine dn_if_eq S.1 S.2.1 100 (by decide) d_Mo_holdsApart_66 (by decide) (fun h_66 => absurd h_66 (by decide)) (fun h_66 => ?_)
                refine lv_iload_n S.1 S.2.1 d_Mo_holdsApart_69 rfl (lv_at hl 1 rfl) ?_
                refine dn_if_ne S.1 S.2.1 96 (by decide) d_Mo_holdsApart_70 (by decide) (fun h_70 => absurd h_70 (by decide)) (fun h_70 => ?_)
                refine lv_aload_n S.1 S.2.1 d_Mo_holdsApart_73 rfl (lv_at hl 2 rfl) ?_
                refine dw_getf (fi := 8) (v := .ref (a 61)) S hw i_Mo ds_ob54 (by decide) rfl wd_370 rfl d_Mo_holdsApart_74 ?_
                refine lv_iload_n S.1 S.2.1 d_Mo_holdsApart_77 rfl (lv_at hl 3 rfl) ?_
                refine dw_zald S.1 S.2.1 hw ds_k61 (by omega) d_Mo_holdsApart_78 ?_
                refine dn_if_ne S.1 S.2.1 100 (by omega) d_Mo_holdsApart_79 (by decide) (fun h_79 => ?_) (fun h_79 => ?_)
                · refine lv_iconst (v := nI 0) S.1 S.2.1 d_Mo_holdsApart_100 (by decide) ?_
                  refine lv_istore_n (lv' := [(1, .int (nI 0)), (3, .int (nI 0)), (0, .ref (a 54)), (2, .int (nI i))]) S.1 S.2.1 d_Mo_holdsApart_101 rfl hl (by decide) rfl (fun ls hl => ?_)
                  refine lv_iinc (v := nI (i + 1)) (lv' := [(2, .int (nI (i + 1))), (1, .int (nI 0)), (3, .int (nI 0)), (0, .ref (a 54))]) S.1 S.2.1 d_Mo_holdsApart_102 hl (k := 3) rfl (by rw [show Int32.ofInt 1 = nI 1 from rfl, nI_add]) (by decide) rfl (fun ls hl => ?_)
                  refine lv_goto (tgt := 4) S.1 S.2.1 d_Mo_holdsApart_105 (by decide) ?_
                  exact ih_4 0 (i + 1) (by omega) (by rw [dn_b0 (by rw [show md_ap (md_v f rw) (f 66) (i + 1) = (md_ap (md_v f rw) (f 66) i && ds_may (md_v f rw) i (f 66 i)) from rfl, md_may]; simp [hap, h_22, h_41, h_79, h_57] <;> omega)]) (by omega) H locs hw ls (lv_sub hl [3, 1, 0] rfl)
                · refine lv_aload_n S.1 S.2.1 d_Mo_holdsApart_82 rfl (lv_at hl 2 rfl) ?_
                  refine lv_aload_n S.1 S.2.1 d_Mo_holdsApart_83 rfl (lv_at hl 2 rfl) ?_
                  refine dw_getf (fi := 14) (v := .ref (a 66)) S hw i_Mo ds_ob54 (by decide) rfl wd_376 rfl d_Mo_holdsApart_84 ?_
                  refine lv_iload_n S.1 S.2.1 d_Mo_holdsApart_87 rfl (lv_at hl 3 rfl) ?_
                  refine dw_iald S.1 S.2.1 hw ds_k66 (by omega) d_Mo_holdsApart_88 ?_
                  refine lv_iload_n S.1 S.2.1 d_Mo_holdsApart_89 rfl (lv_at hl 3 rfl) ?_
                  refine dw_afti hw hA (dw_runV (As := [.int (nI (f 66 i)), .int (nI i)]) (rest := []) (ko := 54) hw S ds_good (m_can l D g a f rw (f 66 i) i (ok) (by omega) (by omega) H.size) cw_Mo_can wd_526 wd_528 ws_Mo_can ds_ob54 dw_blind (dw_pre hw hN) rfl hl.1 rfl ⟨Nat.le_trans (Nat.le_of_ble_eq_true rfl) hR.1, Nat.le_trans (Nat.le_of_ble_eq_true rfl) hR.2⟩ (Nat.le_of_ble_eq_true rfl) ⟨Nat.zero_le _, Nat.zero_le _⟩ d_Mo_holdsApart_90) (fun r_90 f_2 H locs hp hw => ?_)
                  obtain ⟨er, ef⟩ := hp
                  subst er
                  rw [ef] at hw
                  refine dn_ifb_eq S.1 S.2.1 100 d_Mo_holdsApart_93 (by decide) (fun h_93 => ?_) (fun h_93 => ?_)
                  · refine lv_iconst (v := nI 0) S.1 S.2.1 d_Mo_holdsApart_100 (by decide) ?_
                    refine lv_istore_n (lv' := [(1, .int (nI 0)), (3, .int (nI 0)), (0, .ref (a 54)), (2, .int (nI i))]) S.1 S.2.1 d_Mo_holdsApart_101 rfl hl (by decide) rfl (fun ls hl => ?_)
                    refine lv_iinc (v := nI (i + 1)) (lv' := [(2, .int (nI (i + 1))), (1, .int (nI 0)), (3, .int (nI 0)), (0, .ref (a 54))]) S.1 S.2.1 d_Mo_holdsApart_102 hl (k := 3) rfl (by rw [show Int32.ofInt 1 = nI 1 from rfl, nI_add]) (by decide) rfl (fun ls hl => ?_)
                    refine lv_goto (tgt := 4) S.1 S.2.1 d_Mo_holdsApart_105 (by decide) ?_
                    exact ih_4 0 (i + 1) (by omega) (by rw [dn_b0 (by rw [show md_ap (md_v f rw) (f 66) (i + 1) = (md_ap (md_v f rw) (f 66) i && ds_may (md_v f rw) i (f 66 i)) from rfl, md_may]; simp [hap, h_22, h_41, h_79, h_93, h_57] <;> omega)]) (by omega) H locs hw ls (lv_sub hl [3, 1, 0] rfl)
                  · refine lv_iconst (v := nI 1) S.1 S.2.1 d_Mo_holdsApart_96 (by decide) ?_
                    refine lv_goto (tgt := 101) S.1 S.2.1 d_Mo_holdsApart_97 (by decide) ?_
                    refine lv_istore_n (lv' := [(1, .int (nI 1)), (3, .int (nI 0)), (0, .ref (a 54)), (2, .int (nI i))]) S.1 S.2.1 d_Mo_holdsApart_101 rfl hl (by decide) rfl (fun ls hl => ?_)
                    refine lv_iinc (v := nI (i + 1)) (lv' := [(2, .int (nI (i + 1))), (1, .int (nI 1)), (3, .int (nI 0)), (0, .ref (a 54))]) S.1 S.2.1 d_Mo_holdsApart_102 hl (k := 3) rfl (by rw [show Int32.ofInt 1 = nI 1 from rfl, nI_add]) (by decide) rfl (fun ls hl => ?_)
                    refine lv_goto (tgt := 4) S.1 S.2.1 d_Mo_holdsApart_105 (by decide) ?_
                    exact ih_4 1 (i + 1) (by omega) (by rw [dn_b1 (by rw [show md_ap (md_v f rw) (f 66) (i + 1) = (md_ap (md_v f rw) (f 66) i && ds_may (md_v f rw) i (f 66 i)) from rfl, md_may]; simp [hap, h_22, h_41, h_79, h_93, h_57] <;> omega)]) (by omega) H locs hw ls (lv_sub hl [3, 1, 0] rfl)
        · refine lv_iconst (v := nI 1) S.1 S.2.1 d_Mo_holdsApart_25 (by decide) ?_
          refine lv_goto (tgt := 30) S.1 S.2.1 d_Mo_holdsApart_26 (by decide) ?_
          refine lv_istore_n (lv' := [(3, .int (nI 1)), (0, .ref (a 54)), (1, .int (nI b)), (2, .int (nI i))]) S.1 S.2.1 d_Mo_holdsApart_30 rfl hl (by decide) rfl (fun ls hl => ?_)
          refine lv_iload_n S.1 S.2.1 d_Mo_holdsApart_31 rfl (lv_at hl 2 rfl) ?_
          refine dn_if_eq S.1 S.2.1 63 (by omega) d_Mo_holdsApart_32 (by decide) (fun h_32 => ?_) (fun h_32 => ?_)
          · have hap := dn_bz0 eb h_32
            refine lv_iconst (v := nI 0) S.1 S.2.1 d_Mo_holdsApart_63 (by decide) ?_
            refine lv_istore_n (lv' := [(1, .int (nI 0)), (3, .int (nI 1)), (0, .ref (a 54)), (2, .int (nI i))]) S.1 S.2.1 d_Mo_holdsApart_64 rfl hl (by decide) rfl (fun ls hl => ?_)
            refine lv_iload_n S.1 S.2.1 d_Mo_holdsApart_65 rfl (lv_at hl 0 rfl) ?_
            refine dn_if_eq S.1 S.2.1 100 (by decide) d_Mo_holdsApart_66 (by decide) (fun h_66 => ?_) (fun h_66 => absurd h_66 (by decide))
            refine lv_iconst (v := nI 0) S.1 S.2.1 d_Mo_holdsApart_100 (by decide) ?_
            refine lv_istore_n (lv' := [(1, .int (nI 0)), (3, .int (nI 1)), (0, .ref (a 54)), (2, .int (nI i))]) S.1 S.2.1 d_Mo_holdsApart_101 rfl hl (by decide) rfl (fun ls hl => ?_)
            refine lv_iinc (v := nI (i + 1)) (lv' := [(2, .int (nI (i + 1))), (1, .int (nI 0)), (3, .int (nI 1)), (0, .ref (a 54))]) S.1 S.2.1 d_Mo_holdsApart_102 hl (k := 3) rfl (by rw [show Int32.ofInt 1 = nI 1 from rfl, nI_add]) (by decide) rfl (fun ls hl => ?_)
            refine lv_goto (tgt := 4) S.1 S.2.1 d_Mo_holdsApart_105 (by decide) ?_
            exact ih_4 0 (i + 1) (by omega) (by rw [dn_b0 (by rw [show md_ap (md_v f rw) (f 66) (i + 1) = (md_ap (md_v f rw) (f 66) i && ds_may (md_v f rw) i (f 66 i)) from rfl, md_may]; simp [hap, h_22] <;> omega)]) (by omega) H locs hw ls (lv_sub hl [3, 1, 0] rfl)
          · have hap := dn_bnz eb h_32
            refine lv_aload_n S.1 S.2.1 d_Mo_holdsApart_35 rfl (lv_at hl 1 rfl) ?_
            refine dw_getf (fi := 7) (v := .ref (a 60)) S hw i_Mo ds_ob54 (by decide) rfl wd_369 rfl d_Mo_holdsApart_36 ?_
            refine lv_iload_n S.1 S.2.1 d_Mo_holdsApart_39 rfl (lv_at hl 3 rfl) ?_
            refine dw_zald S.1 S.2.1 hw ds_k60 (by omega) d_Mo_holdsApart_40 ?_
            refine dn_if_eq S.1 S.2.1 59 (by omega) d_Mo_holdsApart_41 (by decide) (fun h_41 => ?_) (fun h_41 => ?_)
            · refine lv_iconst (v := nI 1) S.1 S.2.1 d_Mo_holdsApart_59 (by decide) ?_
              refine lv_goto (tgt := 64) S.1 S.2.1 d_Mo_holdsApart_60 (by decide) ?_
              refine lv_istore_n (lv' := [(1, .int (nI 1)), (3, .int (nI 1)), (0, .ref (a 54)), (2, .int (nI i))]) S.1 S.2.1 d_Mo_holdsApart_64 rfl hl (by decide) rfl (fun ls hl => ?_)
              refine lv_iload_n S.1 S.2.1 d_Mo_holdsApart_65 rfl (lv_at hl 0 rfl) ?_
              refine dn_if_eq S.1 S.2.1 100 (by decide) d_Mo_holdsApart_66 (by decide) (fun h_66 => absurd h_66 (by decide)) (fun h_66 => ?_)
              refine lv_iload_n S.1 S.2.1 d_Mo_holdsApart_69 rfl (lv_at hl 1 rfl) ?_
              refine dn_if_ne S.1 S.2.1 96 (by decide) d_Mo_holdsApart_70 (by decide) (fun h_70 => ?_) (fun h_70 => absurd h_70 (by decide))
              refine lv_iconst (v := nI 1) S.1 S.2.1 d_Mo_holdsApart_96 (by decide) ?_
              refine lv_goto (tgt := 101) S.1 S.2.1 d_Mo_holdsApart_97 (by decide) ?_
              refine lv_istore_n (lv' := [(1, .int (nI 1)), (3, .int (nI 1)), (0, .ref (a 54)), (2, .int (nI i))]) S.1 S.2.1 d_Mo_holdsApart_101 rfl hl (by decide) rfl (fun ls hl => ?_)
              refine lv_iinc (v := nI (i + 1)) (lv' := [(2, .int (nI (i + 1))), (1, .int (nI 1)), (3, .int (nI 1)), (0, .ref (a 54))]) S.1 S.2.1 d_Mo_holdsApart_102 hl (k := 3) rfl (by rw [show Int32.ofInt 1 = nI 1 from rfl, nI_add]) (by decide) rfl (fun ls hl => ?_)
              refine lv_goto (tgt := 4) S.1 S.2.1 d_Mo_holdsApart_105 (by decide) ?_
              exact ih_4 1 (i + 1) (by omega) (by rw [dn_b1 (by rw [show md_ap (md_v f rw) (f 66) (i + 1) = (md_ap (md_v f rw) (f 66) i && ds_may (md_v f rw) i (f 66 i)) from rfl, md_may]; simp [hap, h_22, h_41] <;> omega)]) (by omega) H locs hw ls (lv_sub hl [3, 1, 0] rfl)
            · refine lv_aload_n S.1 S.2.1 d_Mo_holdsApart_44 rfl (lv_at hl 1 rfl) ?_
              refine dw_getf (fi := 14) (v := .ref (a 66)) S hw i_Mo ds_ob54 (by decide) rfl wd_376 rfl d_Mo_holdsApart_45 ?_
              refine lv_iload_n S.1 S.2.1 d_Mo_holdsApart_48 rfl (lv_at hl 3 rfl) ?_
              refine dw_iald S.1 S.2.1 hw ds_k66 (by omega) d_Mo_holdsApart_49 ?_
              refine lv_aload_n S.1 S.2.1 d_Mo_holdsApart_50 rfl (lv_at hl 1 rfl) ?_
              refine dw_getf (fi := 4) (v := .ref (a 57)) S hw i_Mo ds_ob54 (by decide) rfl wd_366 rfl d_Mo_holdsApart_51 ?_
              refine lv_iload_n S.1 S.2.1 d_Mo_holdsApart_54 rfl (lv_at hl 3 rfl) ?_
              refine dw_iald S.1 S.2.1 hw ds_k57 (by omega) d_Mo_holdsApart_55 ?_
              refine dn_icmp_ne S.1 S.2.1 63 (by omega) (by omega) d_Mo_holdsApart_56 (by decide) (fun h_56 => ?_) (fun h_56 => ?_)
              · have h_57 : ¬ f 57 i = f 66 i := by omega
                refine lv_iconst (v := nI 0) S.1 S.2.1 d_Mo_holdsApart_63 (by decide) ?_
                refine lv_istore_n (lv' := [(1, .int (nI 0)), (3, .int (nI 1)), (0, .ref (a 54)), (2, .int (nI i))]) S.1 S.2.1 d_Mo_holdsApart_64 rfl hl (by decide) rfl (fun ls hl => ?_)
                refine lv_iload_n S.1 S.2.1 d_Mo_holdsApart_65 rfl (lv_at hl 0 rfl) ?_
                refine dn_if_eq S.1 S.2.1 100 (by decide) d_Mo_holdsApart_66 (by decide) (fun h_66 => ?_) (fun h_66 => absurd h_66 (by decide))
                refine lv_iconst (v := nI 0) S.1 S.2.1 d_Mo_holdsApart_100 (by decide) ?_
                refine lv_istore_n (lv' := [(1, .int (nI 0)), (3, .int (nI 1)), (0, .ref (a 54)), (2, .int (nI i))]) S.1 S.2.1 d_Mo_holdsApart_101 rfl hl (by decide) rfl (fun ls hl => ?_)
                refine lv_iinc (v := nI (i + 1)) (lv' := [(2, .int (nI (i + 1))), (1, .int (nI 0)), (3, .int (nI 1)), (0, .ref (a 54))]) S.1 S.2.1 d_Mo_holdsApart_102 hl (k := 3) rfl (by rw [show Int32.ofInt 1 = nI 1 from rfl, nI_add]) (by decide) rfl (fun ls hl => ?_)
                refine lv_goto (tgt := 4) S.1 S.2.1 d_Mo_holdsApart_105 (by decide) ?_
                exact ih_4 0 (i + 1) (by omega) (by rw [dn_b0 (by rw [show md_ap (md_v f rw) (f 66) (i + 1) = (md_ap (md_v f rw) (f 66) i && ds_may (md_v f rw) i (f 66 i)) from rfl, md_may]; simp [hap, h_22, h_41, h_57] <;> omega)]) (by omega) H locs hw ls (lv_sub hl [3, 1, 0] rfl)
              · have h_57 : f 57 i = f 66 i := by omega
                refine lv_iconst (v := nI 1) S.1 S.2.1 d_Mo_holdsApart_59 (by decide) ?_
                refine lv_goto (tgt := 64) S.1 S.2.1 d_Mo_holdsApart_60 (by decide) ?_
                refine lv_istore_n (lv' := [(1, .int (nI 1)), (3, .int (nI 1)), (0, .ref (a 54)), (2, .int (nI i))]) S.1 S.2.1 d_Mo_holdsApart_64 rfl hl (by decide) rfl (fun ls hl => ?_)
                refine lv_iload_n S.1 S.2.1 d_Mo_holdsApart_65 rfl (lv_at hl 0 rfl) ?_
                refine dn_if_eq S.1 S.2.1 100 (by decide) d_Mo_holdsApart_66 (by decide) (fun h_66 => absurd h_66 (by decide)) (fun h_66 => ?_)
                refine lv_iload_n S.1 S.2.1 d_Mo_holdsApart_69 rfl (lv_at hl 1 rfl) ?_
                refine dn_if_ne S.1 S.2.1 96 (by decide) d_Mo_holdsApart_70 (by decide) (fun h_70 => ?_) (fun h_70 => absurd h_70 (by decide))
                refine lv_iconst (v := nI 1) S.1 S.2.1 d_Mo_holdsApart_96 (by decide) ?_
                refine lv_goto (tgt := 101) S.1 S.2.1 d_Mo_holdsApart_97 (by decide) ?_
                refine lv_istore_n (lv' := [(1, .int (nI 1)), (3, .int (nI 1)), (0, .ref (a 54)), (2, .int (nI i))]) S.1 S.2.1 d_Mo_holdsApart_101 rfl hl (by decide) rfl (fun ls hl => ?_)
                refine lv_iinc (v := nI (i + 1)) (lv' := [(2, .int (nI (i + 1))), (1, .int (nI 1)), (3, .int (nI 1)), (0, .ref (a 54))]) S.1 S.2.1 d_Mo_holdsApart_102 hl (k := 3) rfl (by rw [show Int32.ofInt 1 = nI 1 from rfl, nI_add]) (by decide) rfl (fun ls hl => ?_)
                refine lv_goto (tgt := 4) S.1 S.2.1 d_Mo_holdsApart_105 (by decide) ?_
                exact ih_4 1 (i + 1) (by omega) (by rw [dn_b1 (by rw [show md_ap (md_v f rw) (f 66) (i + 1) = (md_ap (md_v f rw) (f 66) i && ds_may (md_v f rw) i (f 66 i)) from rfl, md_may]; simp [hap, h_22, h_41, h_57] <;> omega)]) (by omega) H locs hw ls (lv_sub hl [3, 1, 0] rfl)
  exact loop_4 _ 1 0 (Nat.zero_le _) (rfl) (Nat.lt_succ_self _) H locs hw ls (lv_sub hl [2, 1, 0] rfl)
set_option maxHeartbeats 4000000 in
set_option maxRecDepth 100000 in
theorem m_holdsOvertime (l : Launch) (D : va_G) (g : Nat → ClassId) (a : Nat → Nat) (f : Nat → Nat → Nat) (rw : Nat → Nat → Nat) (ok : ds_ok (md_v f rw)) (ht : ∀ x, x < f 54 1 → f 66 x ≤ f 54 0) : ds_I l D g a y_Mo_holdsOvertime b_Mo_holdsOvertime 3 .boolean 3 72 [.ref (a 54)] f (fun r u => r = nI (dn_b (md_ho (md_v f rw) (f 66) (f 54 0) = true)) ∧ ∃ (h : Nat → Nat) (z : Nat), u = md_r f h z) := by
  refine dw_ofI (by decide) (fun _ _ h => h.1 ▸ dn_nar) (Nat.le_of_ble_eq_true rfl) ?_
  intro p e s m args below meth c ls A Q R H locs hR hA S hN hw hl hret
  have hl : lv_has ls 3 [(0, .ref (a 54))] := hl
  have S : CallFix p m c b_Mo_holdsOvertime 3 s args ds_T R_Mo := S
  obtain ⟨hV, hn, hex, hst, hve, hrA, hrB, hrl, hwy⟩ := md_facts ok
  refine lv_iconst (v := nI 1) S.1 S.2.1 d_Mo_holdsOvertime_0 (by decide) ?_
  refine lv_istore_n (lv' := [(1, .int (nI 1)), (0, .ref (a 54))]) S.1 S.2.1 d_Mo_holdsOvertime_1 rfl hl (by decide) rfl (fun ls hl => ?_)
  refine lv_iconst (v := nI 0) S.1 S.2.1 d_Mo_holdsOvertime_2 (by decide) ?_
  refine lv_istore_n (lv' := [(2, .int (nI 0)), (1, .int (nI 1)), (0, .ref (a 54))]) S.1 S.2.1 d_Mo_holdsOvertime_3 rfl hl (by decide) rfl (fun ls hl => ?_)
  have loop_4 : ∀ (n : Nat) (b : Nat) (v : Nat) (f2 : Nat → Nat → Nat) (h : Nat → Nat) (z : Nat) (hv : v ≤ f 54 0) (eb : b = dn_b (md_ho (md_v f rw) (f 66) v = true)) (hh : f2 = md_r f h z) (_ : f 54 0 - v < n) (H : Heap) (locs : List Loc), dw_W D classes (ds_tys g) A s.heap (dw_l 77 (ds_ce g a) a f2) s H locs → ∀ (ls : Array Slot), lv_has ls 3 [(0, .ref (a 54)), (1, .int (nI b)), (2, .int (nI v))] → W p l e R s m args below meth c H locs 0 0 Q (F0 m 4 ls []) := by
    intro n
    induction n with
    | zero => intro b v f2 h z hv eb hh h9; exact absurd h9 (Nat.not_lt_zero _)
    | succ n ih_4 =>
      intro b v f2 h z hv eb hh hm_4 H locs hw ls hl
      have b1 : b ≤ 1 := by rw [eb]; exact dn_ble
      have q0 : f2 54 0 = f 54 0 := by rw [hh, md_r_54 (by decide)]
      refine lv_iload_n S.1 S.2.1 d_Mo_holdsOvertime_4 rfl (lv_at hl 2 rfl) ?_
      refine lv_aload_n S.1 S.2.1 d_Mo_holdsOvertime_5 rfl (lv_at hl 0 rfl) ?_
      refine dw_getf (fi := 0) (v := .int (nI (f2 54 0))) S hw i_Mo ds_ob54 (by decide) rfl wd_362 rfl d_Mo_holdsOvertime_6 ?_
      refine dn_icmp_ge S.1 S.2.1 44 (by omega) (by omega) d_Mo_holdsOvertime_9 (by decide) (fun h_9 => ?_) (fun h_9 => ?_)
      · refine lv_iload_n S.1 S.2.1 d_Mo_holdsOvertime_44 rfl (lv_at hl 1 rfl) ?_
        exact hret H locs _ ls _ _ hw (⟨by rw [eb, show v = f 54 0 by omega], h, z, hh⟩) d_Mo_holdsOvertime_45
      · refine lv_iload_n S.1 S.2.1 d_Mo_holdsOvertime_12 rfl (lv_at hl 1 rfl) ?_
        refine dn_if_eq S.1 S.2.1 36 (by omega) d_Mo_holdsOvertime_13 (by decide) (fun h_13 => ?_) (fun h_13 => ?_)
        · have hap := dn_bz0 eb h_13
          refine lv_iconst (v := nI 0) S.1 S.2.1 d_Mo_holdsOvertime_36 (by decide) ?_
          refine lv_istore_n (lv' := [(1, .int (nI 0)), (0, .ref (a 54)), (2, .int (nI v))]) S.1 S.2.1 d_Mo_holdsOvertime_37 rfl hl (by decide) rfl (fun ls hl => ?_)
          refine lv_iinc (v := nI (v + 1)) (lv' := [(2, .int (nI (v + 1))), (1, .int (nI 0)), (0, .ref (a 54))]) S.1 S.2.1 d_Mo_holdsOvertime_38 hl (k := 2) rfl (by rw [show Int32.ofInt 1 = nI 1 from rfl, nI_add]) (by decide) rfl (fun ls hl => ?_)
          refine lv_goto (tgt := 4) S.1 S.2.1 d_Mo_holdsOvertime_41 (by decide) ?_
          exact ih_4 0 (v + 1) f2 h z (by omega) (by rw [dn_b0 (by rw [show md_ho (md_v f rw) (f 66) (v + 1) = (md_ho (md_v f rw) (f 66) v && decide (ds_tm (md_v f rw) (fun x => f 66 x == v) v - f 63 v ≤ f 54 12)) from rfl]; simp [hap])]) (hh) (by omega) H locs hw ls (lv_sub hl [2, 1, 0] rfl)
        · have hap := dn_bnz eb h_13
          have hv2 : v < f 54 0 := by omega
          have tb := ds_tm_b ok (fun zz => f 66 zz == v) hv2
          have q66 : f2 66 = f 66 := by rw [hh, md_r_ne (by decide) (by decide)]
          refine lv_aload_n S.1 S.2.1 d_Mo_holdsOvertime_16 rfl (lv_at hl 0 rfl) ?_
          refine lv_aload_n S.1 S.2.1 d_Mo_holdsOvertime_17 rfl (lv_at hl 0 rfl) ?_
          refine dw_getf (fi := 14) (v := .ref (a 66)) S hw i_Mo ds_ob54 (by decide) rfl wd_376 rfl d_Mo_holdsOvertime_18 ?_
          refine lv_iload_n S.1 S.2.1 d_Mo_holdsOvertime_21 rfl (lv_at hl 2 rfl) ?_
          refine dw_afti hw hA (dw_runV (As := [.ref (a 66), .int (nI v)]) (rest := []) (ko := 54) hw S ds_good (m_overtimeOf l D g a f2 rw 66 v (by rw [hh, md_v_r]; exact ok) (by rw [q0]; exact hv2) (ds_k66) (Or.inr rfl) (fun x hx => by rw [hh, md_r_54 (by decide)] at hx; rw [q66]; have := ht x hx; omega) H.size) cw_Mo_overtimeOf wd_506 wd_508 ws_Mo_overtimeOf ds_ob54 dw_blind (dw_pre hw hN) rfl hl.1 rfl ⟨Nat.le_trans (Nat.le_of_ble_eq_true rfl) hR.1, Nat.le_trans (Nat.le_of_ble_eq_true rfl) hR.2⟩ (Nat.le_of_ble_eq_true rfl) ⟨Nat.zero_le _, Nat.zero_le _⟩ d_Mo_holdsOvertime_22) (fun r_22 f_1 H locs hp hw => ?_)
          obtain ⟨er, hr2, zr2, ef_1⟩ := hp
          subst er
          refine ds_topi (w := nI (ds_tm (md_v f rw) (fun zz => f 66 zz == v) v - f 63 v)) (by rw [q66, hh, md_v_r, md_r_ne (by decide) (by decide)]) ?_
          have h1s : f_1 = md_r f hr2 zr2 := by rw [ef_1, hh, md_r_r]
          have q12 : f_1 54 12 = f 54 12 := by rw [h1s, md_r_54 (by decide)]
          refine lv_aload_n S.1 S.2.1 d_Mo_holdsOvertime_25 rfl (lv_at hl 0 rfl) ?_
          refine dw_getf (fi := 12) (v := .int (nI (f_1 54 12))) S hw i_Mo ds_ob54 (by decide) rfl wd_374 rfl d_Mo_holdsOvertime_26 ?_
          refine dn_icmp_gt S.1 S.2.1 36 (by omega) (by omega) d_Mo_holdsOvertime_29 (by decide) (fun h_29 => ?_) (fun h_29 => ?_)
          · have h_30 : ¬ ds_tm (md_v f rw) (fun x => f 66 x == v) v - f 63 v ≤ f 54 12 := by omega
            refine lv_iconst (v := nI 0) S.1 S.2.1 d_Mo_holdsOvertime_36 (by decide) ?_
            refine lv_istore_n (lv' := [(1, .int (nI 0)), (0, .ref (a 54)), (2, .int (nI v))]) S.1 S.2.1 d_Mo_holdsOvertime_37 rfl hl (by decide) rfl (fun ls hl => ?_)
            refine lv_iinc (v := nI (v + 1)) (lv' := [(2, .int (nI (v + 1))), (1, .int (nI 0)), (0, .ref (a 54))]) S.1 S.2.1 d_Mo_holdsOvertime_38 hl (k := 2) rfl (by rw [show Int32.ofInt 1 = nI 1 from rfl, nI_add]) (by decide) rfl (fun ls hl => ?_)
            refine lv_goto (tgt := 4) S.1 S.2.1 d_Mo_holdsOvertime_41 (by decide) ?_
            exact ih_4 0 (v + 1) f_1 hr2 zr2 (by omega) (by rw [dn_b0 (by rw [show md_ho (md_v f rw) (f 66) (v + 1) = (md_ho (md_v f rw) (f 66) v && decide (ds_tm (md_v f rw) (fun x => f 66 x == v) v - f 63 v ≤ f 54 12)) from rfl]; simp [hap, h_30])]) (h1s) (by omega) H locs hw ls (lv_sub hl [2, 1, 0] rfl)
          · have h_30 : ds_tm (md_v f rw) (fun x => f 66 x == v) v - f 63 v ≤ f 54 12 := by omega
            refine lv_iconst (v := nI 1) S.1 S.2.1 d_Mo_holdsOvertime_32 (by decide) ?_
            refine lv_goto (tgt := 37) S.1 S.2.1 d_Mo_holdsOvertime_33 (by decide) ?_
            refine lv_istore_n (lv' := [(1, .int (nI 1)), (0, .ref (a 54)), (2, .int (nI v))]) S.1 S.2.1 d_Mo_holdsOvertime_37 rfl hl (by decide) rfl (fun ls hl => ?_)
            refine lv_iinc (v := nI (v + 1)) (lv' := [(2, .int (nI (v + 1))), (1, .int (nI 1)), (0, .ref (a 54))]) S.1 S.2.1 d_Mo_holdsOvertime_38 hl (k := 2) rfl (by rw [show Int32.ofInt 1 = nI 1 from rfl, nI_add]) (by decide) rfl (fun ls hl => ?_)
            refine lv_goto (tgt := 4) S.1 S.2.1 d_Mo_holdsOvertime_41 (by decide) ?_
            exact ih_4 1 (v + 1) f_1 hr2 zr2 (by omega) (by rw [dn_b1 (by rw [show md_ho (md_v f rw) (f 66) (v + 1) = (md_ho (md_v f rw) (f 66) v && decide (ds_tm (md_v f rw) (fun x => f 66 x == v) v - f 63 v ≤ f 54 12)) from rfl]; simp [hap, h_30])]) (h1s) (by omega) H locs hw ls (lv_sub hl [2, 1, 0] rfl)
  exact loop_4 _ 1 0 f (f 74) (f 54 25) (Nat.zero_le _) (rfl) (md_r_id) (Nat.lt_succ_self _) H locs hw ls (lv_sub hl [2, 1, 0] rfl)
set_option maxHeartbeats 4000000 in
set_option maxRecDepth 100000 in
theorem m_why (l : Launch) (D : va_G) (g : Nat → ClassId) (a : Nat → Nat) (f : Nat → Nat → Nat) (rw : Nat → Nat → Nat) (ok : ds_ok (md_v f rw)) : ds_I l D g a y_Mo_why b_Mo_why 4 .int 1 22 [.ref (a 54)] f (fun r u => r = ds_why (md_v f rw) ∧ u = f) := by
  refine dw_ofI (by decide) (fun _ _ _ => rfl) (Nat.le_of_ble_eq_true rfl) ?_
  intro p e s m args below meth c ls A Q R H locs hR hA S hN hw hl hret
  have hl : lv_has ls 4 [(0, .ref (a 54))] := hl
  have S : CallFix p m c b_Mo_why 4 s args ds_T R_Mo := S
  obtain ⟨hV, hn, hex, hst, hve, hrA, hrB, hrl, hwy⟩ := md_facts ok
  have ew : ds_why (md_v f rw) = (if ds_any (fun x => f 60 x != 0 && f 61 x != 0) (f 54 1) = true then (-2) else if ds_any (fun x => f 60 x != 0 && !ds_can (md_v f rw) (f 57 x) x) (f 54 1) = true then (-3) else (-4)) := rfl
  refine lv_iconst (v := nI 0) S.1 S.2.1 d_Mo_why_0 (by decide) ?_
  refine lv_istore_n (lv' := [(1, .int (nI 0)), (0, .ref (a 54))]) S.1 S.2.1 d_Mo_why_1 rfl hl (by decide) rfl (fun ls hl => ?_)
  refine lv_iconst (v := nI 0) S.1 S.2.1 d_Mo_why_2 (by decide) ?_
  refine lv_istore_n (lv' := [(2, .int (nI 0)), (1, .int (nI 0)), (0, .ref (a 54))]) S.1 S.2.1 d_Mo_why_3 rfl hl (by decide) rfl (fun ls hl => ?_)
  refine lv_iconst (v := nI 0) S.1 S.2.1 d_Mo_why_4 (by decide) ?_
  refine lv_istore_n (lv' := [(3, .int (nI 0)), (2, .int (nI 0)), (1, .int (nI 0)), (0, .ref (a 54))]) S.1 S.2.1 d_Mo_why_5 rfl hl (by decide) rfl (fun ls hl => ?_)
  have loop_6 : ∀ (n : Nat) (b : Nat) (d : Nat) (i : Nat) (hi : i ≤ f 54 1) (e1 : b = dn_b (ds_any (fun x => f 60 x != 0 && f 61 x != 0) i = true)) (e2 : d = dn_b (ds_any (fun x => f 60 x != 0 && !ds_can (md_v f rw) (f 57 x) x) i = true)) (_ : f 54 1 - i < n) (H : Heap) (locs : List Loc), dw_W D classes (ds_tys g) A s.heap (dw_l 77 (ds_ce g a) a f) s H locs → ∀ (ls : Array Slot), lv_has ls 4 [(0, .ref (a 54)), (1, .int (nI b)), (2, .int (nI d)), (3, .int (nI i))] → W p l e R s m args below meth c H locs 0 0 Q (F0 m 6 ls []) := by
    intro n
    induction n with
    | zero => intro b d i hi e1 e2 h9; exact absurd h9 (Nat.not_lt_zero _)
    | succ n ih_6 =>
      intro b d i hi e1 e2 hm_6 H locs hw ls hl
      have b1 : b ≤ 1 := by rw [e1]; exact dn_ble
      have b2 : d ≤ 1 := by rw [e2]; exact dn_ble
      refine lv_iload_n S.1 S.2.1 d_Mo_why_6 rfl (lv_at hl 3 rfl) ?_
      refine lv_aload_n S.1 S.2.1 d_Mo_why_7 rfl (lv_at hl 0 rfl) ?_
      refine dw_getf (fi := 1) (v := .int (nI (f 54 1))) S hw i_Mo ds_ob54 (by decide) rfl wd_363 rfl d_Mo_why_8 ?_
      refine dn_icmp_ge S.1 S.2.1 81 (by omega) (by omega) d_Mo_why_11 (by decide) (fun h_11 => ?_) (fun h_11 => ?_)
      · rw [show i = f 54 1 by omega] at e1 e2
        refine lv_iload_n S.1 S.2.1 d_Mo_why_81 rfl (lv_at hl 1 rfl) ?_
        refine dn_if_eq S.1 S.2.1 90 (by omega) d_Mo_why_82 (by decide) (fun h_82 => ?_) (fun h_82 => ?_)
        · refine lv_iload_n S.1 S.2.1 d_Mo_why_90 rfl (lv_at hl 2 rfl) ?_
          refine dn_if_eq S.1 S.2.1 99 (by omega) d_Mo_why_91 (by decide) (fun h_91 => ?_) (fun h_91 => ?_)
          · refine lv_bipush (v := (-4)) S.1 S.2.1 d_Mo_why_99 (by decide) ?_
            exact hret H locs _ ls _ _ hw (⟨by rw [ew, if_neg (dn_bz0 e1 h_82), if_neg (dn_bz0 e2 h_91)], rfl⟩) d_Mo_why_101
          · refine lv_bipush (v := (-3)) S.1 S.2.1 d_Mo_why_94 (by decide) ?_
            refine lv_goto (tgt := 101) S.1 S.2.1 d_Mo_why_96 (by decide) ?_
            exact hret H locs _ ls _ _ hw (⟨by rw [ew, if_neg (dn_bz0 e1 h_82), if_pos (dn_bnz e2 h_91)], rfl⟩) d_Mo_why_101
        · refine lv_bipush (v := (-2)) S.1 S.2.1 d_Mo_why_85 (by decide) ?_
          refine lv_goto (tgt := 101) S.1 S.2.1 d_Mo_why_87 (by decide) ?_
          exact hret H locs _ ls _ _ hw (⟨by rw [ew, if_pos (dn_bnz e1 h_82)], rfl⟩) d_Mo_why_101
      · have s1 := hst i (by omega)
        have r1 := hrB i (by omega)
        refine lv_iload_n S.1 S.2.1 d_Mo_why_14 rfl (lv_at hl 1 rfl) ?_
        refine dn_if_ne S.1 S.2.1 36 (by omega) d_Mo_why_15 (by decide) (fun h_15 => ?_) (fun h_15 => ?_)
        · have g1 := dn_bnz e1 h_15
          refine lv_iconst (v := nI 1) S.1 S.2.1 d_Mo_why_36 (by decide) ?_
          refine lv_goto (tgt := 41) S.1 S.2.1 d_Mo_why_37 (by decide) ?_
          refine lv_istore_n (lv' := [(1, .int (nI 1)), (0, .ref (a 54)), (2, .int (nI d)), (3, .int (nI i))]) S.1 S.2.1 d_Mo_why_41 rfl hl (by decide) rfl (fun ls hl => ?_)
          refine lv_iload_n S.1 S.2.1 d_Mo_why_42 rfl (lv_at hl 2 rfl) ?_
          refine dn_if_ne S.1 S.2.1 69 (by omega) d_Mo_why_43 (by decide) (fun h_43 => ?_) (fun h_43 => ?_)
          · have g2 := dn_bnz e2 h_43
            refine lv_iconst (v := nI 1) S.1 S.2.1 d_Mo_why_69 (by decide) ?_
            refine lv_goto (tgt := 74) S.1 S.2.1 d_Mo_why_70 (by decide) ?_
            refine lv_istore_n (lv' := [(2, .int (nI 1)), (1, .int (nI 1)), (0, .ref (a 54)), (3, .int (nI i))]) S.1 S.2.1 d_Mo_why_74 rfl hl (by decide) rfl (fun ls hl => ?_)
            refine lv_iinc (v := nI (i + 1)) (lv' := [(3, .int (nI (i + 1))), (2, .int (nI 1)), (1, .int (nI 1)), (0, .ref (a 54))]) S.1 S.2.1 d_Mo_why_75 hl (k := 3) rfl (by rw [show Int32.ofInt 1 = nI 1 from rfl, nI_add]) (by decide) rfl (fun ls hl => ?_)
            refine lv_goto (tgt := 6) S.1 S.2.1 d_Mo_why_78 (by decide) ?_
            exact ih_6 1 1 (i + 1) (by omega) (by rw [dn_b1 (by simp [ds_any, g1])]) (by rw [dn_b1 (by simp [ds_any, g2])]) (by omega) H locs hw ls (lv_sub hl [3, 2, 1, 0] rfl)
          · have g2 := dn_bz0 e2 h_43
            refine lv_aload_n S.1 S.2.1 d_Mo_why_46 rfl (lv_at hl 1 rfl) ?_
            refine dw_getf (fi := 7) (v := .ref (a 60)) S hw i_Mo ds_ob54 (by decide) rfl wd_369 rfl d_Mo_why_47 ?_
            refine lv_iload_n S.1 S.2.1 d_Mo_why_50 rfl (lv_at hl 3 rfl) ?_
            refine dw_zald S.1 S.2.1 hw ds_k60 (by omega) d_Mo_why_51 ?_
            refine dn_if_eq S.1 S.2.1 73 (by omega) d_Mo_why_52 (by decide) (fun h_52 => ?_) (fun h_52 => ?_)
            · refine lv_iconst (v := nI 0) S.1 S.2.1 d_Mo_why_73 (by decide) ?_
              refine lv_istore_n (lv' := [(2, .int (nI 0)), (1, .int (nI 1)), (0, .ref (a 54)), (3, .int (nI i))]) S.1 S.2.1 d_Mo_why_74 rfl hl (by decide) rfl (fun ls hl => ?_)
              refine lv_iinc (v := nI (i + 1)) (lv' := [(3, .int (nI (i + 1))), (2, .int (nI 0)), (1, .int (nI 1)), (0, .ref (a 54))]) S.1 S.2.1 d_Mo_why_75 hl (k := 3) rfl (by rw [show Int32.ofInt 1 = nI 1 from rfl, nI_add]) (by decide) rfl (fun ls hl => ?_)
              refine lv_goto (tgt := 6) S.1 S.2.1 d_Mo_why_78 (by decide) ?_
              exact ih_6 1 0 (i + 1) (by omega) (by rw [dn_b1 (by simp [ds_any, g1])]) (by rw [dn_b0 (by simp [ds_any, g2, h_52])]) (by omega) H locs hw ls (lv_sub hl [3, 2, 1, 0] rfl)
            · refine lv_aload_n S.1 S.2.1 d_Mo_why_55 rfl (lv_at hl 1 rfl) ?_
              refine lv_aload_n S.1 S.2.1 d_Mo_why_56 rfl (lv_at hl 1 rfl) ?_
              refine dw_getf (fi := 4) (v := .ref (a 57)) S hw i_Mo ds_ob54 (by decide) rfl wd_366 rfl d_Mo_why_57 ?_
              refine lv_iload_n S.1 S.2.1 d_Mo_why_60 rfl (lv_at hl 3 rfl) ?_
              refine dw_iald S.1 S.2.1 hw ds_k57 (by omega) d_Mo_why_61 ?_
              refine lv_iload_n S.1 S.2.1 d_Mo_why_62 rfl (lv_at hl 3 rfl) ?_
              refine dw_afti hw hA (dw_runV (As := [.int (nI (f 57 i)), .int (nI i)]) (rest := []) (ko := 54) hw S ds_good (m_can l D g a f rw (f 57 i) i (ok) (r1.1) (by omega) H.size) cw_Mo_can wd_526 wd_528 ws_Mo_can ds_ob54 dw_blind (dw_pre hw hN) rfl hl.1 rfl ⟨Nat.le_trans (Nat.le_of_ble_eq_true rfl) hR.1, Nat.le_trans (Nat.le_of_ble_eq_true rfl) hR.2⟩ (Nat.le_of_ble_eq_true rfl) ⟨Nat.zero_le _, Nat.zero_le _⟩ d_Mo_why_63) (fun r_63 f_1 H locs hp hw => ?_)
              obtain ⟨er, ef⟩ := hp
              subst er
              rw [ef] at hw
              refine dn_ifb_ne S.1 S.2.1 73 d_Mo_why_66 (by decide) (fun h_66 => ?_) (fun h_66 => ?_)
              · refine lv_iconst (v := nI 0) S.1 S.2.1 d_Mo_why_73 (by decide) ?_
                refine lv_istore_n (lv' := [(2, .int (nI 0)), (1, .int (nI 1)), (0, .ref (a 54)), (3, .int (nI i))]) S.1 S.2.1 d_Mo_why_74 rfl hl (by decide) rfl (fun ls hl => ?_)
                refine lv_iinc (v := nI (i + 1)) (lv' := [(3, .int (nI (i + 1))), (2, .int (nI 0)), (1, .int (nI 1)), (0, .ref (a 54))]) S.1 S.2.1 d_Mo_why_75 hl (k := 3) rfl (by rw [show Int32.ofInt 1 = nI 1 from rfl, nI_add]) (by decide) rfl (fun ls hl => ?_)
                refine lv_goto (tgt := 6) S.1 S.2.1 d_Mo_why_78 (by decide) ?_
                exact ih_6 1 0 (i + 1) (by omega) (by rw [dn_b1 (by simp [ds_any, g1])]) (by rw [dn_b0 (by simp [ds_any, g2, h_52, h_66])]) (by omega) H locs hw ls (lv_sub hl [3, 2, 1, 0] rfl)
              · refine lv_iconst (v := nI 1) S.1 S.2.1 d_Mo_why_69 (by decide) ?_
                refine lv_goto (tgt := 74) S.1 S.2.1 d_Mo_why_70 (by decide) ?_
                refine lv_istore_n (lv' := [(2, .int (nI 1)), (1, .int (nI 1)), (0, .ref (a 54)), (3, .int (nI i))]) S.1 S.2.1 d_Mo_why_74 rfl hl (by decide) rfl (fun ls hl => ?_)
                refine lv_iinc (v := nI (i + 1)) (lv' := [(3, .int (nI (i + 1))), (2, .int (nI 1)), (1, .int (nI 1)), (0, .ref (a 54))]) S.1 S.2.1 d_Mo_why_75 hl (k := 3) rfl (by rw [show Int32.ofInt 1 = nI 1 from rfl, nI_add]) (by decide) rfl (fun ls hl => ?_)
                refine lv_goto (tgt := 6) S.1 S.2.1 d_Mo_why_78 (by decide) ?_
                exact ih_6 1 1 (i + 1) (by omega) (by rw [dn_b1 (by simp [ds_any, g1])]) (by rw [dn_b1 (by simp [ds_any, g2, h_52, h_66])]) (by omega) H locs hw ls (lv_sub hl [3, 2, 1, 0] rfl)
        · have g1 := dn_bz0 e1 h_15
          refine lv_aload_n S.1 S.2.1 d_Mo_why_18 rfl (lv_at hl 0 rfl) ?_
          refine dw_getf (fi := 7) (v := .ref (a 60)) S hw i_Mo ds_ob54 (by decide) rfl wd_369 rfl d_Mo_why_19 ?_
          refine lv_iload_n S.1 S.2.1 d_Mo_why_22 rfl (lv_at hl 3 rfl) ?_
          refine dw_zald S.1 S.2.1 hw ds_k60 (by omega) d_Mo_why_23 ?_
          refine dn_if_eq S.1 S.2.1 40 (by omega) d_Mo_why_24 (by decide) (fun h_24 => ?_) (fun h_24 => ?_)
          · refine lv_iconst (v := nI 0) S.1 S.2.1 d_Mo_why_40 (by decide) ?_
            refine lv_istore_n (lv' := [(1, .int (nI 0)), (0, .ref (a 54)), (2, .int (nI d)), (3, .int (nI i))]) S.1 S.2.1 d_Mo_why_41 rfl hl (by decide) rfl (fun ls hl => ?_)
            refine lv_iload_n S.1 S.2.1 d_Mo_why_42 rfl (lv_at hl 2 rfl) ?_
            refine dn_if_ne S.1 S.2.1 69 (by omega) d_Mo_why_43 (by decide) (fun h_43 => ?_) (fun h_43 => ?_)
            · have g2 := dn_bnz e2 h_43
              refine lv_iconst (v := nI 1) S.1 S.2.1 d_Mo_why_69 (by decide) ?_
              refine lv_goto (tgt := 74) S.1 S.2.1 d_Mo_why_70 (by decide) ?_
              refine lv_istore_n (lv' := [(2, .int (nI 1)), (1, .int (nI 0)), (0, .ref (a 54)), (3, .int (nI i))]) S.1 S.2.1 d_Mo_why_74 rfl hl (by decide) rfl (fun ls hl => ?_)
              refine lv_iinc (v := nI (i + 1)) (lv' := [(3, .int (nI (i + 1))), (2, .int (nI 1)), (1, .int (nI 0)), (0, .ref (a 54))]) S.1 S.2.1 d_Mo_why_75 hl (k := 3) rfl (by rw [show Int32.ofInt 1 = nI 1 from rfl, nI_add]) (by decide) rfl (fun ls hl => ?_)
              refine lv_goto (tgt := 6) S.1 S.2.1 d_Mo_why_78 (by decide) ?_
              exact ih_6 0 1 (i + 1) (by omega) (by rw [dn_b0 (by simp [ds_any, g1, h_24])]) (by rw [dn_b1 (by simp [ds_any, g2])]) (by omega) H locs hw ls (lv_sub hl [3, 2, 1, 0] rfl)
            · have g2 := dn_bz0 e2 h_43
              refine lv_aload_n S.1 S.2.1 d_Mo_why_46 rfl (lv_at hl 1 rfl) ?_
              refine dw_getf (fi := 7) (v := .ref (a 60)) S hw i_Mo ds_ob54 (by decide) rfl wd_369 rfl d_Mo_why_47 ?_
              refine lv_iload_n S.1 S.2.1 d_Mo_why_50 rfl (lv_at hl 3 rfl) ?_
              refine dw_zald S.1 S.2.1 hw ds_k60 (by omega) d_Mo_why_51 ?_
              refine dn_if_eq S.1 S.2.1 73 (by omega) d_Mo_why_52 (by decide) (fun h_52 => ?_) (fun h_52 => ?_)
              · refine lv_iconst (v := nI 0) S.1 S.2.1 d_Mo_why_73 (by decide) ?_
                refine lv_istore_n (lv' := [(2, .int (nI 0)), (1, .int (nI 0)), (0, .ref (a 54)), (3, .int (nI i))]) S.1 S.2.1 d_Mo_why_74 rfl hl (by decide) rfl (fun ls hl => ?_)
                refine lv_iinc (v := nI (i + 1)) (lv' := [(3, .int (nI (i + 1))), (2, .int (nI 0)), (1, .int (nI 0)), (0, .ref (a 54))]) S.1 S.2.1 d_Mo_why_75 hl (k := 3) rfl (by rw [show Int32.ofInt 1 = nI 1 from rfl, nI_add]) (by decide) rfl (fun ls hl => ?_)
                refine lv_goto (tgt := 6) S.1 S.2.1 d_Mo_why_78 (by decide) ?_
                exact ih_6 0 0 (i + 1) (by omega) (by rw [dn_b0 (by simp [ds_any, g1, h_24])]) (by rw [dn_b0 (by simp [ds_any, g2, h_52])]) (by omega) H locs hw ls (lv_sub hl [3, 2, 1, 0] rfl)
              · refine lv_aload_n S.1 S.2.1 d_Mo_why_55 rfl (lv_at hl 1 rfl) ?_
                refine lv_aload_n S.1 S.2.1 d_Mo_why_56 rfl (lv_at hl 1 rfl) ?_
                refine dw_getf (fi := 4) (v := .ref (a 57)) S hw i_Mo ds_ob54 (by decide) rfl wd_366 rfl d_Mo_why_57 ?_
                refine lv_iload_n S.1 S.2.1 d_Mo_why_60 rfl (lv_at hl 3 rfl) ?_
                refine dw_iald S.1 S.2.1 hw ds_k57 (by omega) d_Mo_why_61 ?_
                refine lv_iload_n S.1 S.2.1 d_Mo_why_62 rfl (lv_at hl 3 rfl) ?_
                refine dw_afti hw hA (dw_runV (As := [.int (nI (f 57 i)), .int (nI i)]) (rest := []) (ko := 54) hw S ds_good (m_can l D g a f rw (f 57 i) i (ok) (r1.1) (by omega) H.size) cw_Mo_can wd_526 wd_528 ws_Mo_can ds_ob54 dw_blind (dw_pre hw hN) rfl hl.1 rfl ⟨Nat.le_trans (Nat.le_of_ble_eq_true rfl) hR.1, Nat.le_trans (Nat.le_of_ble_eq_true rfl) hR.2⟩ (Nat.le_of_ble_eq_true rfl) ⟨Nat.zero_le _, Nat.zero_le _⟩ d_Mo_why_63) (fun r_63 f_2 H locs hp hw => ?_)
                obtain ⟨er, ef⟩ := hp
                subst er
                rw [ef] at hw
                refine dn_ifb_ne S.1 S.2.1 73 d_Mo_why_66 (by decide) (fun h_66 => ?_) (fun h_66 => ?_)
                · refine lv_iconst (v := nI 0) S.1 S.2.1 d_Mo_why_73 (by decide) ?_
                  refine lv_istore_n (lv' := [(2, .int (nI 0)), (1, .int (nI 0)), (0, .ref (a 54)), (3, .int (nI i))]) S.1 S.2.1 d_Mo_why_74 rfl hl (by decide) rfl (fun ls hl => ?_)
                  refine lv_iinc (v := nI (i + 1)) (lv' := [(3, .int (nI (i + 1))), (2, .int (nI 0)), (1, .int (nI 0)), (0, .ref (a 54))]) S.1 S.2.1 d_Mo_why_75 hl (k := 3) rfl (by rw [show Int32.ofInt 1 = nI 1 from rfl, nI_add]) (by decide) rfl (fun ls hl => ?_)
                  refine lv_goto (tgt := 6) S.1 S.2.1 d_Mo_why_78 (by decide) ?_
                  exact ih_6 0 0 (i + 1) (by omega) (by rw [dn_b0 (by simp [ds_any, g1, h_24])]) (by rw [dn_b0 (by simp [ds_any, g2, h_52, h_66])]) (by omega) H locs hw ls (lv_sub hl [3, 2, 1, 0] rfl)
                · refine lv_iconst (v := nI 1) S.1 S.2.1 d_Mo_why_69 (by decide) ?_
                  refine lv_goto (tgt := 74) S.1 S.2.1 d_Mo_why_70 (by decide) ?_
                  refine lv_istore_n (lv' := [(2, .int (nI 1)), (1, .int (nI 0)), (0, .ref (a 54)), (3, .int (nI i))]) S.1 S.2.1 d_Mo_why_74 rfl hl (by decide) rfl (fun ls hl => ?_)
                  refine lv_iinc (v := nI (i + 1)) (lv' := [(3, .int (nI (i + 1))), (2, .int (nI 1)), (1, .int (nI 0)), (0, .ref (a 54))]) S.1 S.2.1 d_Mo_why_75 hl (k := 3) rfl (by rw [show Int32.ofInt 1 = nI 1 from rfl, nI_add]) (by decide) rfl (fun ls hl => ?_)
                  refine lv_goto (tgt := 6) S.1 S.2.1 d_Mo_why_78 (by decide) ?_
                  exact ih_6 0 1 (i + 1) (by omega) (by rw [dn_b0 (by simp [ds_any, g1, h_24])]) (by rw [dn_b1 (by simp [ds_any, g2, h_52, h_66])]) (by omega) H locs hw ls (lv_sub hl [3, 2, 1, 0] rfl)
          · refine lv_aload_n S.1 S.2.1 d_Mo_why_27 rfl (lv_at hl 0 rfl) ?_
            refine dw_getf (fi := 8) (v := .ref (a 61)) S hw i_Mo ds_ob54 (by decide) rfl wd_370 rfl d_Mo_why_28 ?_
            refine lv_iload_n S.1 S.2.1 d_Mo_why_31 rfl (lv_at hl 3 rfl) ?_
            refine dw_zald S.1 S.2.1 hw ds_k61 (by omega) d_Mo_why_32 ?_
            refine dn_if_eq S.1 S.2.1 40 (by omega) d_Mo_why_33 (by decide) (fun h_33 => ?_) (fun h_33 => ?_)
            · refine lv_iconst (v := nI 0) S.1 S.2.1 d_Mo_why_40 (by decide) ?_
              refine lv_istore_n (lv' := [(1, .int (nI 0)), (0, .ref (a 54)), (2, .int (nI d)), (3, .int (nI i))]) S.1 S.2.1 d_Mo_why_41 rfl hl (by decide) rfl (fun ls hl => ?_)
              refine lv_iload_n S.1 S.2.1 d_Mo_why_42 rfl (lv_at hl 2 rfl) ?_
              refine dn_if_ne S.1 S.2.1 69 (by omega) d_Mo_why_43 (by decide) (fun h_43 => ?_) (fun h_43 => ?_)
              · have g2 := dn_bnz e2 h_43
                refine lv_iconst (v := nI 1) S.1 S.2.1 d_Mo_why_69 (by decide) ?_
                refine lv_goto (tgt := 74) S.1 S.2.1 d_Mo_why_70 (by decide) ?_
                refine lv_istore_n (lv' := [(2, .int (nI 1)), (1, .int (nI 0)), (0, .ref (a 54)), (3, .int (nI i))]) S.1 S.2.1 d_Mo_why_74 rfl hl (by decide) rfl (fun ls hl => ?_)
                refine lv_iinc (v := nI (i + 1)) (lv' := [(3, .int (nI (i + 1))), (2, .int (nI 1)), (1, .int (nI 0)), (0, .ref (a 54))]) S.1 S.2.1 d_Mo_why_75 hl (k := 3) rfl (by rw [show Int32.ofInt 1 = nI 1 from rfl, nI_add]) (by decide) rfl (fun ls hl => ?_)
                refine lv_goto (tgt := 6) S.1 S.2.1 d_Mo_why_78 (by decide) ?_
                exact ih_6 0 1 (i + 1) (by omega) (by rw [dn_b0 (by simp [ds_any, g1, h_24, h_33])]) (by rw [dn_b1 (by simp [ds_any, g2])]) (by omega) H locs hw ls (lv_sub hl [3, 2, 1, 0] rfl)
              · have g2 := dn_bz0 e2 h_43
                refine lv_aload_n S.1 S.2.1 d_Mo_why_46 rfl (lv_at hl 1 rfl) ?_
                refine dw_getf (fi := 7) (v := .ref (a 60)) S hw i_Mo ds_ob54 (by decide) rfl wd_369 rfl d_Mo_why_47 ?_
                refine lv_iload_n S.1 S.2.1 d_Mo_why_50 rfl (lv_at hl 3 rfl) ?_
                refine dw_zald S.1 S.2.1 hw ds_k60 (by omega) d_Mo_why_51 ?_
                refine dn_if_eq S.1 S.2.1 73 (by omega) d_Mo_why_52 (by decide) (fun h_52 => ?_) (fun h_52 => ?_)
                · refine lv_iconst (v := nI 0) S.1 S.2.1 d_Mo_why_73 (by decide) ?_
                  refine lv_istore_n (lv' := [(2, .int (nI 0)), (1, .int (nI 0)), (0, .ref (a 54)), (3, .int (nI i))]) S.1 S.2.1 d_Mo_why_74 rfl hl (by decide) rfl (fun ls hl => ?_)
                  refine lv_iinc (v := nI (i + 1)) (lv' := [(3, .int (nI (i + 1))), (2, .int (nI 0)), (1, .int (nI 0)), (0, .ref (a 54))]) S.1 S.2.1 d_Mo_why_75 hl (k := 3) rfl (by rw [show Int32.ofInt 1 = nI 1 from rfl, nI_add]) (by decide) rfl (fun ls hl => ?_)
                  refine lv_goto (tgt := 6) S.1 S.2.1 d_Mo_why_78 (by decide) ?_
                  exact ih_6 0 0 (i + 1) (by omega) (by rw [dn_b0 (by simp [ds_any, g1, h_24, h_33])]) (by rw [dn_b0 (by simp [ds_any, g2, h_52])]) (by omega) H locs hw ls (lv_sub hl [3, 2, 1, 0] rfl)
                · refine lv_aload_n S.1 S.2.1 d_Mo_why_55 rfl (lv_at hl 1 rfl) ?_
                  refine lv_aload_n S.1 S.2.1 d_Mo_why_56 rfl (lv_at hl 1 rfl) ?_
                  refine dw_getf (fi := 4) (v := .ref (a 57)) S hw i_Mo ds_ob54 (by decide) rfl wd_366 rfl d_Mo_why_57 ?_
                  refine lv_iload_n S.1 S.2.1 d_Mo_why_60 rfl (lv_at hl 3 rfl) ?_
                  refine dw_iald S.1 S.2.1 hw ds_k57 (by omega) d_Mo_why_61 ?_
                  refine lv_iload_n S.1 S.2.1 d_Mo_why_62 rfl (lv_at hl 3 rfl) ?_
                  refine dw_afti hw hA (dw_runV (As := [.int (nI (f 57 i)), .int (nI i)]) (rest := []) (ko := 54) hw S ds_good (m_can l D g a f rw (f 57 i) i (ok) (r1.1) (by omega) H.size) cw_Mo_can wd_526 wd_528 ws_Mo_can ds_ob54 dw_blind (dw_pre hw hN) rfl hl.1 rfl ⟨Nat.le_trans (Nat.le_of_ble_eq_true rfl) hR.1, Nat.le_trans (Nat.le_of_ble_eq_true rfl) hR.2⟩ (Nat.le_of_ble_eq_true rfl) ⟨Nat.zero_le _, Nat.zero_le _⟩ d_Mo_why_63) (fun r_63 f_3 H locs hp hw => ?_)
                  obtain ⟨er, ef⟩ := hp
                  subst er
                  rw [ef] at hw
                  refine dn_ifb_ne S.1 S.2.1 73 d_Mo_why_66 (by decide) (fun h_66 => ?_) (fun h_66 => ?_)
                  · refine lv_iconst (v := nI 0) S.1 S.2.1 d_Mo_why_73 (by decide) ?_
                    refine lv_istore_n (lv' := [(2, .int (nI 0)), (1, .int (nI 0)), (0, .ref (a 54)), (3, .int (nI i))]) S.1 S.2.1 d_Mo_why_74 rfl hl (by decide) rfl (fun ls hl => ?_)
                    refine lv_iinc (v := nI (i + 1)) (lv' := [(3, .int (nI (i + 1))), (2, .int (nI 0)), (1, .int (nI 0)), (0, .ref (a 54))]) S.1 S.2.1 d_Mo_why_75 hl (k := 3) rfl (by rw [show Int32.ofInt 1 = nI 1 from rfl, nI_add]) (by decide) rfl (fun ls hl => ?_)
                    refine lv_goto (tgt := 6) S.1 S.2.1 d_Mo_why_78 (by decide) ?_
                    exact ih_6 0 0 (i + 1) (by omega) (by rw [dn_b0 (by simp [ds_any, g1, h_24, h_33])]) (by rw [dn_b0 (by simp [ds_any, g2, h_52, h_66])]) (by omega) H locs hw ls (lv_sub hl [3, 2, 1, 0] rfl)
                  · refine lv_iconst (v := nI 1) S.1 S.2.1 d_Mo_why_69 (by decide) ?_
                    refine lv_goto (tgt := 74) S.1 S.2.1 d_Mo_why_70 (by decide) ?_
                    refine lv_istore_n (lv' := [(2, .int (nI 1)), (1, .int (nI 0)), (0, .ref (a 54)), (3, .int (nI i))]) S.1 S.2.1 d_Mo_why_74 rfl hl (by decide) rfl (fun ls hl => ?_)
                    refine lv_iinc (v := nI (i + 1)) (lv' := [(3, .int (nI (i + 1))), (2, .int (nI 1)), (1, .int (nI 0)), (0, .ref (a 54))]) S.1 S.2.1 d_Mo_why_75 hl (k := 3) rfl (by rw [show Int32.ofInt 1 = nI 1 from rfl, nI_add]) (by decide) rfl (fun ls hl => ?_)
                    refine lv_goto (tgt := 6) S.1 S.2.1 d_Mo_why_78 (by decide) ?_
                    exact ih_6 0 1 (i + 1) (by omega) (by rw [dn_b0 (by simp [ds_any, g1, h_24, h_33])]) (by rw [dn_b1 (by simp [ds_any, g2, h_52, h_66])]) (by omega) H locs hw ls (lv_sub hl [3, 2, 1, 0] rfl)
            · refine lv_iconst (v := nI 1) S.1 S.2.1 d_Mo_why_36 (by decide) ?_
              refine lv_goto (tgt := 41) S.1 S.2.1 d_Mo_why_37 (by decide) ?_
              refine lv_istore_n (lv' := [(1, .int (nI 1)), (0, .ref (a 54)), (2, .int (nI d)), (3, .int (nI i))]) S.1 S.2.1 d_Mo_why_41 rfl hl (by decide) rfl (fun ls hl => ?_)
              refine lv_iload_n S.1 S.2.1 d_Mo_why_42 rfl (lv_at hl 2 rfl) ?_
              refine dn_if_ne S.1 S.2.1 69 (by omega) d_Mo_why_43 (by decide) (fun h_43 => ?_) (fun h_43 => ?_)
              · have g2 := dn_bnz e2 h_43
                refine lv_iconst (v := nI 1) S.1 S.2.1 d_Mo_why_69 (by decide) ?_
                refine lv_goto (tgt := 74) S.1 S.2.1 d_Mo_why_70 (by decide) ?_
                refine lv_istore_n (lv' := [(2, .int (nI 1)), (1, .int (nI 1)), (0, .ref (a 54)), (3, .int (nI i))]) S.1 S.2.1 d_Mo_why_74 rfl hl (by decide) rfl (fun ls hl => ?_)
                refine lv_iinc (v := nI (i + 1)) (lv' := [(3, .int (nI (i + 1))), (2, .int (nI 1)), (1, .int (nI 1)), (0, .ref (a 54))]) S.1 S.2.1 d_Mo_why_75 hl (k := 3) rfl (by rw [show Int32.ofInt 1 = nI 1 from rfl, nI_add]) (by decide) rfl (fun ls hl => ?_)
                refine lv_goto (tgt := 6) S.1 S.2.1 d_Mo_why_78 (by decide) ?_
                exact ih_6 1 1 (i + 1) (by omega) (by rw [dn_b1 (by simp [ds_any, g1, h_24, h_33])]) (by rw [dn_b1 (by simp [ds_any, g2])]) (by omega) H locs hw ls (lv_sub hl [3, 2, 1, 0] rfl)
              · have g2 := dn_bz0 e2 h_43
                refine lv_aload_n S.1 S.2.1 d_Mo_why_46 rfl (lv_at hl 1 rfl) ?_
                refine dw_getf (fi := 7) (v := .ref (a 60)) S hw i_Mo ds_ob54 (by decide) rfl wd_369 rfl d_Mo_why_47 ?_
                refine lv_iload_n S.1 S.2.1 d_Mo_why_50 rfl (lv_at hl 3 rfl) ?_
                refine dw_zald S.1 S.2.1 hw ds_k60 (by omega) d_Mo_why_51 ?_
                refine dn_if_eq S.1 S.2.1 73 (by omega) d_Mo_why_52 (by decide) (fun h_52 => ?_) (fun h_52 => ?_)
                · refine lv_iconst (v := nI 0) S.1 S.2.1 d_Mo_why_73 (by decide) ?_
                  refine lv_istore_n (lv' := [(2, .int (nI 0)), (1, .int (nI 1)), (0, .ref (a 54)), (3, .int (nI i))]) S.1 S.2.1 d_Mo_why_74 rfl hl (by decide) rfl (fun ls hl => ?_)
                  refine lv_iinc (v := nI (i + 1)) (lv' := [(3, .int (nI (i + 1))), (2, .int (nI 0)), (1, .int (nI 1)), (0, .ref (a 54))]) S.1 S.2.1 d_Mo_why_75 hl (k := 3) rfl (by rw [show Int32.ofInt 1 = nI 1 from rfl, nI_add]) (by decide) rfl (fun ls hl => ?_)
                  refine lv_goto (tgt := 6) S.1 S.2.1 d_Mo_why_78 (by decide) ?_
                  exact ih_6 1 0 (i + 1) (by omega) (by rw [dn_b1 (by simp [ds_any, g1, h_24, h_33])]) (by rw [dn_b0 (by simp [ds_any, g2, h_52])]) (by omega) H locs hw ls (lv_sub hl [3, 2, 1, 0] rfl)
                · refine lv_aload_n S.1 S.2.1 d_Mo_why_55 rfl (lv_at hl 1 rfl) ?_
                  refine lv_aload_n S.1 S.2.1 d_Mo_why_56 rfl (lv_at hl 1 rfl) ?_
                  refine dw_getf (fi := 4) (v := .ref (a 57)) S hw i_Mo ds_ob54 (by decide) rfl wd_366 rfl d_Mo_why_57 ?_
                  refine lv_iload_n S.1 S.2.1 d_Mo_why_60 rfl (lv_at hl 3 rfl) ?_
                  refine dw_iald S.1 S.2.1 hw ds_k57 (by omega) d_Mo_why_61 ?_
                  refine lv_iload_n S.1 S.2.1 d_Mo_why_62 rfl (lv_at hl 3 rfl) ?_
                  refine dw_afti hw hA (dw_runV (As := [.int (nI (f 57 i)), .int (nI i)]) (rest := []) (ko := 54) hw S ds_good (m_can l D g a f rw (f 57 i) i (ok) (r1.1) (by omega) H.size) cw_Mo_can wd_526 wd_528 ws_Mo_can ds_ob54 dw_blind (dw_pre hw hN) rfl hl.1 rfl ⟨Nat.le_trans (Nat.le_of_ble_eq_true rfl) hR.1, Nat.le_trans (Nat.le_of_ble_eq_true rfl) hR.2⟩ (Nat.le_of_ble_eq_true rfl) ⟨Nat.zero_le _, Nat.zero_le _⟩ d_Mo_why_63) (fun r_63 f_4 H locs hp hw => ?_)
                  obtain ⟨er, ef⟩ := hp
                  subst er
                  rw [ef] at hw
                  refine dn_ifb_ne S.1 S.2.1 73 d_Mo_why_66 (by decide) (fun h_66 => ?_) (fun h_66 => ?_)
                  · refine lv_iconst (v := nI 0) S.1 S.2.1 d_Mo_why_73 (by decide) ?_
                    refine lv_istore_n (lv' := [(2, .int (nI 0)), (1, .int (nI 1)), (0, .ref (a 54)), (3, .int (nI i))]) S.1 S.2.1 d_Mo_why_74 rfl hl (by decide) rfl (fun ls hl => ?_)
                    refine lv_iinc (v := nI (i + 1)) (lv' := [(3, .int (nI (i + 1))), (2, .int (nI 0)), (1, .int (nI 1)), (0, .ref (a 54))]) S.1 S.2.1 d_Mo_why_75 hl (k := 3) rfl (by rw [show Int32.ofInt 1 = nI 1 from rfl, nI_add]) (by decide) rfl (fun ls hl => ?_)
                    refine lv_goto (tgt := 6) S.1 S.2.1 d_Mo_why_78 (by decide) ?_
                    exact ih_6 1 0 (i + 1) (by omega) (by rw [dn_b1 (by simp [ds_any, g1, h_24, h_33])]) (by rw [dn_b0 (by simp [ds_any, g2, h_52, h_66])]) (by omega) H locs hw ls (lv_sub hl [3, 2, 1, 0] rfl)
                  · refine lv_iconst (v := nI 1) S.1 S.2.1 d_Mo_why_69 (by decide) ?_
                    refine lv_goto (tgt := 74) S.1 S.2.1 d_Mo_why_70 (by decide) ?_
                    refine lv_istore_n (lv' := [(2, .int (nI 1)), (1, .int (nI 1)), (0, .ref (a 54)), (3, .int (nI i))]) S.1 S.2.1 d_Mo_why_74 rfl hl (by decide) rfl (fun ls hl => ?_)
                    refine lv_iinc (v := nI (i + 1)) (lv' := [(3, .int (nI (i + 1))), (2, .int (nI 1)), (1, .int (nI 1)), (0, .ref (a 54))]) S.1 S.2.1 d_Mo_why_75 hl (k := 3) rfl (by rw [show Int32.ofInt 1 = nI 1 from rfl, nI_add]) (by decide) rfl (fun ls hl => ?_)
                    refine lv_goto (tgt := 6) S.1 S.2.1 d_Mo_why_78 (by decide) ?_
                    exact ih_6 1 1 (i + 1) (by omega) (by rw [dn_b1 (by simp [ds_any, g1, h_24, h_33])]) (by rw [dn_b1 (by simp [ds_any, g2, h_52, h_66])]) (by omega) H locs hw ls (lv_sub hl [3, 2, 1, 0] rfl)
  exact loop_6 _ 0 0 0 (Nat.zero_le _) (rfl) (rfl) (Nat.lt_succ_self _) H locs hw ls (lv_sub hl [3, 2, 1, 0] rfl)
set_option maxHeartbeats 4000000 in
set_option maxRecDepth 100000 in
theorem m_turn (l : Launch) (D : va_G) (g : Nat → ClassId) (a : Nat → Nat) (f : Nat → Nat → Nat)  (hn : f 54 1 ≤ 8) (hV : f 54 0 ≤ 3) (ht : ∀ x, x < f 54 1 → f 66 x ≤ f 54 0) : ds_I l D g a y_Mo_turn b_Mo_turn 2 .boolean 0 0 [.ref (a 54)] f (fun r u => ((∃ j, j < f 54 1 ∧ (∀ x, j < x → x < f 54 1 → f 66 x = f 54 0 ∧ u 66 x = 0) ∧ f 66 j ≠ f 54 0 ∧ u 66 j = f 66 j + 1 ∧ (∀ x, x < j → u 66 x = f 66 x) ∧ r = nI (dn_b True)) ∨ ((∀ x, x < f 54 1 → f 66 x = f 54 0) ∧ (∀ x, x < f 54 1 → u 66 x = 0) ∧ r = nI (dn_b False))) ∧ ∀ k, k ≠ 66 → u k = f k) := by
  refine dw_ofI (by decide) (fun v u h => by rcases h.1 with ⟨j, _, _, _, _, _, q⟩ | ⟨_, _, q⟩ <;> (rw [q]; exact dn_nar)) (Nat.le_of_ble_eq_true rfl) ?_
  intro p e s m args below meth c ls A Q R H locs hR hA S hN hw hl hret
  have hl : lv_has ls 2 [(0, .ref (a 54))] := hl
  have S : CallFix p m c b_Mo_turn 2 s args ds_T R_Mo := S
  refine lv_aload_n S.1 S.2.1 d_Mo_turn_0 rfl (lv_at hl 0 rfl) ?_
  refine dw_getf (fi := 1) (v := .int (nI (f 54 1))) S hw i_Mo ds_ob54 (by decide) rfl wd_363 rfl d_Mo_turn_1 ?_
  refine lv_iconst (v := nI 1) S.1 S.2.1 d_Mo_turn_4 (by decide) ?_
  refine lv_isub S.1 S.2.1 d_Mo_turn_5 ?_
  refine lv_istore_n (lv' := [(1, .int ((nI (f 54 1)) - (nI 1))), (0, .ref (a 54))]) S.1 S.2.1 d_Mo_turn_6 rfl hl (by decide) rfl (fun ls hl => ?_)
  have loop_7 : ∀ (n : Nat) (w : Int32) (j : Nat) (f2 : Nat → Nat → Nat) (hj : j ≤ f 54 1) (ew : w = nI j - nI 1) (hz : ∀ x, j ≤ x → x < f 54 1 → f 66 x = f 54 0 ∧ f2 66 x = 0) (hk : ∀ x, x < j → f2 66 x = f 66 x) (hg : ∀ k, k ≠ 66 → f2 k = f k) (_ : j < n) (H : Heap) (locs : List Loc), dw_W D classes (ds_tys g) A s.heap (dw_l 77 (ds_ce g a) a f2) s H locs → ∀ (ls : Array Slot), lv_has ls 2 [(0, .ref (a 54)), (1, .int w)] → W p l e R s m args below meth c H locs 0 0 Q (F0 m 7 ls []) := by
    intro n
    induction n with
    | zero => intro w j f2 hj ew hz hk hg h9; exact absurd h9 (Nat.not_lt_zero _)
    | succ n ih_7 =>
      intro w j f2 hj ew hz hk hg hm_7 H locs hw ls hl
      refine lv_iload_n S.1 S.2.1 d_Mo_turn_7 rfl (lv_at hl 1 rfl) ?_
      refine lv_if_lt (tgt := 37) S.1 S.2.1 d_Mo_turn_8 (by decide) (fun h_8 => ?_) (fun h_8 => ?_)
      · refine lv_iload_n S.1 S.2.1 d_Mo_turn_37 rfl (lv_at hl 1 rfl) ?_
        refine lv_if_lt (tgt := 51) S.1 S.2.1 d_Mo_turn_38 (by decide) (fun h_38 => ?_) (fun h_38 => ?_)
        · refine lv_iload_n S.1 S.2.1 d_Mo_turn_51 rfl (lv_at hl 1 rfl) ?_
          refine lv_if_lt (tgt := 59) S.1 S.2.1 d_Mo_turn_52 (by decide) (fun h_52 => ?_) (fun h_52 => ?_)
          · refine lv_iconst (v := nI 0) S.1 S.2.1 d_Mo_turn_59 (by decide) ?_
            exact hret H locs _ ls _ _ hw (by
    have j0 : j = 0 := (ds_neg1 (by omega)).mp (by rw [← ew]; exact h_8)
    refine ⟨Or.inr ⟨fun x hx => (hz x (by omega) hx).1, fun x hx => (hz x (by omega) hx).2, rfl⟩, hg⟩) d_Mo_turn_60
          · exact absurd h_8 h_52
        · exact absurd h_8 h_38
      · have j1 : 1 ≤ j := by have q : ¬ j = 0 := fun q => h_8 (by rw [ew]; exact (ds_neg1 (by omega)).mpr q); omega
        have ew2 : w = nI (j - 1) := by rw [ew]; exact pk_sub j1
        have q66 := hk (j - 1) (by omega)
        have q0 : f2 54 0 = f 54 0 := by rw [hg 54 (by decide)]
        have t1 := ht (j - 1) (by omega)
        have hl : lv_has ls 2 [(0, .ref (a 54)), (1, .int (nI (j - 1)))] := by have hl2 := hl; rw [ew2] at hl2; exact hl2
        refine lv_aload_n S.1 S.2.1 d_Mo_turn_11 rfl (lv_at hl 0 rfl) ?_
        refine dw_getf (fi := 14) (v := .ref (a 66)) S hw i_Mo ds_ob54 (by decide) rfl wd_376 rfl d_Mo_turn_12 ?_
        refine lv_iload_n S.1 S.2.1 d_Mo_turn_15 rfl (lv_at hl 1 rfl) ?_
        refine dw_iald S.1 S.2.1 hw ds_k66 (by omega) d_Mo_turn_16 ?_
        refine lv_aload_n S.1 S.2.1 d_Mo_turn_17 rfl (lv_at hl 0 rfl) ?_
        refine dw_getf (fi := 0) (v := .int (nI (f2 54 0))) S hw i_Mo ds_ob54 (by decide) rfl wd_362 rfl d_Mo_turn_18 ?_
        refine dn_icmp_ne S.1 S.2.1 37 (by omega) (by omega) d_Mo_turn_21 (by decide) (fun h_21 => ?_) (fun h_21 => ?_)
        · refine lv_iload_n S.1 S.2.1 d_Mo_turn_37 rfl (lv_at hl 1 rfl) ?_
          refine dn_if_lt S.1 S.2.1 51 (by omega) d_Mo_turn_38 (by decide) ?_
          refine lv_aload_n S.1 S.2.1 d_Mo_turn_41 rfl (lv_at hl 0 rfl) ?_
          refine dw_getf (fi := 14) (v := .ref (a 66)) S hw i_Mo ds_ob54 (by decide) rfl wd_376 rfl d_Mo_turn_42 ?_
          refine lv_iload_n S.1 S.2.1 d_Mo_turn_45 rfl (lv_at hl 1 rfl) ?_
          refine lv_dup2_11 S.1 S.2.1 d_Mo_turn_46 rfl rfl ?_
          refine dw_iald S.1 S.2.1 hw ds_k66 (by omega) d_Mo_turn_47 ?_
          refine lv_iconst (v := nI 1) S.1 S.2.1 d_Mo_turn_48 (by decide) ?_
          refine dn_iadd S.1 S.2.1 d_Mo_turn_49 ?_
          refine dw_iast S.1 S.2.1 hw ds_k66 (by omega) d_Mo_turn_50 (fun f_1 H locs ef_1 hw => ?_)
          refine lv_iload_n S.1 S.2.1 d_Mo_turn_51 rfl (lv_at hl 1 rfl) ?_
          refine dn_if_lt S.1 S.2.1 59 (by omega) d_Mo_turn_52 (by decide) ?_
          refine lv_iconst (v := nI 1) S.1 S.2.1 d_Mo_turn_55 (by decide) ?_
          refine lv_goto (tgt := 60) S.1 S.2.1 d_Mo_turn_56 (by decide) ?_
          exact hret H locs _ ls _ _ hw (by
    refine ⟨Or.inl ⟨j - 1, by omega, fun x h1 h2 => ?_, by omega, ?_, fun x hx => ?_, rfl⟩, fun k k1 => by rw [ef_1, dw_w_ne k1]; exact hg k k1⟩
    · rw [ef_1, dw_w_eq, dw_up_ne (by omega)]; exact hz x (by omega) h2
    · rw [ef_1, dw_w_eq, dw_up_eq, q66]
    · rw [ef_1, dw_w_eq, dw_up_ne (by omega)]; exact hk x (by omega)) d_Mo_turn_60
        · refine lv_aload_n S.1 S.2.1 d_Mo_turn_24 rfl (lv_at hl 0 rfl) ?_
          refine dw_getf (fi := 14) (v := .ref (a 66)) S hw i_Mo ds_ob54 (by decide) rfl wd_376 rfl d_Mo_turn_25 ?_
          refine lv_iload_n S.1 S.2.1 d_Mo_turn_28 rfl (lv_at hl 1 rfl) ?_
          refine lv_iconst (v := nI 0) S.1 S.2.1 d_Mo_turn_29 (by decide) ?_
          refine dw_iast S.1 S.2.1 hw ds_k66 (by omega) d_Mo_turn_30 (fun f_2 H locs ef_2 hw => ?_)
          refine lv_iinc (v := (nI (j - 1)) - (nI 1)) (lv' := [(1, .int ((nI (j - 1)) - (nI 1))), (0, .ref (a 54))]) S.1 S.2.1 d_Mo_turn_31 hl (k := 1) rfl (ds_dec1 _) (by decide) rfl (fun ls hl => ?_)
          refine lv_goto (tgt := 7) S.1 S.2.1 d_Mo_turn_34 (by decide) ?_
          exact ih_7 ((nI (j - 1)) - (nI 1)) (j - 1) f_2 (by omega) (rfl) (fun x h1 h2 => by
    rw [ef_2, dw_w_eq]
    by_cases ex : x = j - 1
    · rw [ex, dw_up_eq]; exact ⟨by omega, rfl⟩
    · rw [dw_up_ne ex]; exact hz x (by omega) h2) (fun x h1 => by rw [ef_2, dw_w_eq, dw_up_ne (by omega)]; exact hk x (by omega)) (fun k k1 => by rw [ef_2, dw_w_ne k1]; exact hg k k1) (by omega) H locs hw ls (lv_sub hl [1, 0] rfl)
  exact loop_7 _ ((nI (f 54 1)) - (nI 1)) (f 54 1) f (Nat.le_refl _) (rfl) (fun x h1 h2 => by omega) (fun _ _ => rfl) (fun _ _ => rfl) (Nat.lt_succ_self _) H locs hw ls (lv_sub hl [1, 0] rfl)
end
