section
/-- a private method of a class that the tables say can be made, by its rows of tables_1 -/
def lw_okq (q : MethodName × Nat) : Prop := (q.1.cls ≠ "java/lang/invoke/MethodHandle" ∧ q.1.cls ≠ "java/lang/invoke/VarHandle") ∧ Cond.instantiable q.1.cls q.2 ∈ tables_1 ∧ Cond.privateMethod q.1 ∈ tables_1 ∧ Cond.instanceMethod q.1 ∈ tables_1
theorem lw_p0 : lw_okq (⟨"EvenSwitch", "isOfferedFor", "(I)Z"⟩, 4) := ⟨⟨by decide +kernel, by decide +kernel⟩, List.mem_of_getElem? (i := 9) (by decide +kernel), List.mem_of_getElem? (i := 90) (by decide +kernel), List.mem_of_getElem? (i := 91) (by decide +kernel)⟩
theorem lw_p1 : lw_okq (⟨"EvenSwitch", "takeOfferedCells", "()V"⟩, 4) := ⟨⟨by decide +kernel, by decide +kernel⟩, List.mem_of_getElem? (i := 9) (by decide +kernel), List.mem_of_getElem? (i := 149) (by decide +kernel), List.mem_of_getElem? (i := 150) (by decide +kernel)⟩
theorem lw_p2 : lw_okq (⟨"EvenSwitch$Output", "stamp", "(LEvenSwitch$Cell;I)V"⟩, 6) := ⟨⟨by decide +kernel, by decide +kernel⟩, List.mem_of_getElem? (i := 34) (by decide +kernel), List.mem_of_getElem? (i := 157) (by decide +kernel), List.mem_of_getElem? (i := 158) (by decide +kernel)⟩
theorem lw_p3 : lw_okq (⟨"EvenSwitch$Output", "putInOrder", "(LEvenSwitch$Cell;)V"⟩, 6) := ⟨⟨by decide +kernel, by decide +kernel⟩, List.mem_of_getElem? (i := 34) (by decide +kernel), List.mem_of_getElem? (i := 165) (by decide +kernel), List.mem_of_getElem? (i := 166) (by decide +kernel)⟩
theorem lw_p4 : lw_okq (⟨"EvenSwitch$Output", "isBefore", "(LEvenSwitch$Cell;LEvenSwitch$Cell;)Z"⟩, 6) := ⟨⟨by decide +kernel, by decide +kernel⟩, List.mem_of_getElem? (i := 34) (by decide +kernel), List.mem_of_getElem? (i := 169) (by decide +kernel), List.mem_of_getElem? (i := 170) (by decide +kernel)⟩
theorem lw_p5 : lw_okq (⟨"EvenSwitch", "sendFirstCells", "()I"⟩, 4) := ⟨⟨by decide +kernel, by decide +kernel⟩, List.mem_of_getElem? (i := 9) (by decide +kernel), List.mem_of_getElem? (i := 173) (by decide +kernel), List.mem_of_getElem? (i := 174) (by decide +kernel)⟩
theorem lw_p6 : lw_okq (⟨"EvenSwitch$Output", "forgetTimes", "()V"⟩, 6) := ⟨⟨by decide +kernel, by decide +kernel⟩, List.mem_of_getElem? (i := 34) (by decide +kernel), List.mem_of_getElem? (i := 181) (by decide +kernel), List.mem_of_getElem? (i := 182) (by decide +kernel)⟩
theorem lw_p7 : lw_okq (⟨"EvenSwitch", "latestSent", "(I)LEvenSwitch$Cell;"⟩, 4) := ⟨⟨by decide +kernel, by decide +kernel⟩, List.mem_of_getElem? (i := 9) (by decide +kernel), List.mem_of_getElem? (i := 196) (by decide +kernel), List.mem_of_getElem? (i := 197) (by decide +kernel)⟩
theorem lw_p8 : lw_okq (⟨"EvenSwitch", "cellInOrder", "(II)LEvenSwitch$Cell;"⟩, 4) := ⟨⟨by decide +kernel, by decide +kernel⟩, List.mem_of_getElem? (i := 9) (by decide +kernel), List.mem_of_getElem? (i := 224) (by decide +kernel), List.mem_of_getElem? (i := 225) (by decide +kernel)⟩
theorem lw_p9 : lw_okq (⟨"EvenSwitchModel", "empty", "()V"⟩, 20) := ⟨⟨by decide +kernel, by decide +kernel⟩, List.mem_of_getElem? (i := 249) (by decide +kernel), List.mem_of_getElem? (i := 255) (by decide +kernel), List.mem_of_getElem? (i := 256) (by decide +kernel)⟩
theorem lw_p10 : lw_okq (⟨"EvenSwitchModel", "isWanted", "(I)Z"⟩, 20) := ⟨⟨by decide +kernel, by decide +kernel⟩, List.mem_of_getElem? (i := 249) (by decide +kernel), List.mem_of_getElem? (i := 327) (by decide +kernel), List.mem_of_getElem? (i := 328) (by decide +kernel)⟩
theorem lw_p11 : lw_okq (⟨"EvenSwitchModel", "insideOf", "(I)I"⟩, 20) := ⟨⟨by decide +kernel, by decide +kernel⟩, List.mem_of_getElem? (i := 249) (by decide +kernel), List.mem_of_getElem? (i := 339) (by decide +kernel), List.mem_of_getElem? (i := 340) (by decide +kernel)⟩
theorem lw_p12 : lw_okq (⟨"EvenSwitchModel", "come", "(I)V"⟩, 20) := ⟨⟨by decide +kernel, by decide +kernel⟩, List.mem_of_getElem? (i := 249) (by decide +kernel), List.mem_of_getElem? (i := 347) (by decide +kernel), List.mem_of_getElem? (i := 348) (by decide +kernel)⟩
theorem lw_p13 : lw_okq (⟨"EvenSwitchModel", "timeOf", "(II)J"⟩, 20) := ⟨⟨by decide +kernel, by decide +kernel⟩, List.mem_of_getElem? (i := 249) (by decide +kernel), List.mem_of_getElem? (i := 351) (by decide +kernel), List.mem_of_getElem? (i := 352) (by decide +kernel)⟩
theorem lw_p14 : lw_okq (⟨"EvenSwitchModel", "isBehind", "(IIIJ)Z"⟩, 20) := ⟨⟨by decide +kernel, by decide +kernel⟩, List.mem_of_getElem? (i := 249) (by decide +kernel), List.mem_of_getElem? (i := 357) (by decide +kernel), List.mem_of_getElem? (i := 358) (by decide +kernel)⟩
theorem lw_p15 : lw_okq (⟨"EvenSwitchModel", "copy", "(II)V"⟩, 20) := ⟨⟨by decide +kernel, by decide +kernel⟩, List.mem_of_getElem? (i := 249) (by decide +kernel), List.mem_of_getElem? (i := 361) (by decide +kernel), List.mem_of_getElem? (i := 362) (by decide +kernel)⟩
def lw_privs_1 : List (MethodName × Nat) := [(⟨"EvenSwitch", "isOfferedFor", "(I)Z"⟩, 4), (⟨"EvenSwitch", "takeOfferedCells", "()V"⟩, 4), (⟨"EvenSwitch$Output", "stamp", "(LEvenSwitch$Cell;I)V"⟩, 6), (⟨"EvenSwitch$Output", "putInOrder", "(LEvenSwitch$Cell;)V"⟩, 6), (⟨"EvenSwitch$Output", "isBefore", "(LEvenSwitch$Cell;LEvenSwitch$Cell;)Z"⟩, 6), (⟨"EvenSwitch", "sendFirstCells", "()I"⟩, 4), (⟨"EvenSwitch$Output", "forgetTimes", "()V"⟩, 6), (⟨"EvenSwitch", "latestSent", "(I)LEvenSwitch$Cell;"⟩, 4), (⟨"EvenSwitch", "cellInOrder", "(II)LEvenSwitch$Cell;"⟩, 4), (⟨"EvenSwitchModel", "empty", "()V"⟩, 20), (⟨"EvenSwitchModel", "isWanted", "(I)Z"⟩, 20), (⟨"EvenSwitchModel", "insideOf", "(I)I"⟩, 20), (⟨"EvenSwitchModel", "come", "(I)V"⟩, 20), (⟨"EvenSwitchModel", "timeOf", "(II)J"⟩, 20), (⟨"EvenSwitchModel", "isBehind", "(IIIJ)Z"⟩, 20), (⟨"EvenSwitchModel", "copy", "(II)V"⟩, 20)]
theorem lw_r1 : ∀ q ∈ lw_privs_1, lw_okq q := List.forall_mem_cons.mpr ⟨lw_p0, List.forall_mem_cons.mpr ⟨lw_p1, List.forall_mem_cons.mpr ⟨lw_p2, List.forall_mem_cons.mpr ⟨lw_p3, List.forall_mem_cons.mpr ⟨lw_p4, List.forall_mem_cons.mpr ⟨lw_p5, List.forall_mem_cons.mpr ⟨lw_p6, List.forall_mem_cons.mpr ⟨lw_p7, List.forall_mem_cons.mpr ⟨lw_p8, List.forall_mem_cons.mpr ⟨lw_p9, List.forall_mem_cons.mpr ⟨lw_p10, List.forall_mem_cons.mpr ⟨lw_p11, List.forall_mem_cons.mpr ⟨lw_p12, List.forall_mem_cons.mpr ⟨lw_p13, List.forall_mem_cons.mpr ⟨lw_p14, List.forall_mem_cons.mpr ⟨lw_p15, fun _ h => absurd h List.not_mem_nil⟩⟩⟩⟩⟩⟩⟩⟩⟩⟩⟩⟩⟩⟩⟩⟩
theorem lw_p16 : lw_okq (⟨"EvenSwitchModel", "send", "(I)I"⟩, 20) := ⟨⟨by decide +kernel, by decide +kernel⟩, List.mem_of_getElem? (i := 249) (by decide +kernel), List.mem_of_getElem? (i := 365) (by decide +kernel), List.mem_of_getElem? (i := 366) (by decide +kernel)⟩
theorem lw_p17 : lw_okq (⟨"EvenSwitchModel", "sentOne", "(I)Z"⟩, 20) := ⟨⟨by decide +kernel, by decide +kernel⟩, List.mem_of_getElem? (i := 249) (by decide +kernel), List.mem_of_getElem? (i := 377) (by decide +kernel), List.mem_of_getElem? (i := 378) (by decide +kernel)⟩
theorem lw_p18 : lw_okq (⟨"EvenSwitchModel", "isCell", "(II)Z"⟩, 20) := ⟨⟨by decide +kernel, by decide +kernel⟩, List.mem_of_getElem? (i := 249) (by decide +kernel), List.mem_of_getElem? (i := 405) (by decide +kernel), List.mem_of_getElem? (i := 406) (by decide +kernel)⟩
def lw_privs_2 : List (MethodName × Nat) := [(⟨"EvenSwitchModel", "send", "(I)I"⟩, 20), (⟨"EvenSwitchModel", "sentOne", "(I)Z"⟩, 20), (⟨"EvenSwitchModel", "isCell", "(II)Z"⟩, 20)]
theorem lw_r2 : ∀ q ∈ lw_privs_2, lw_okq q := List.forall_mem_cons.mpr ⟨lw_p16, List.forall_mem_cons.mpr ⟨lw_p17, List.forall_mem_cons.mpr ⟨lw_p18, fun _ h => absurd h List.not_mem_nil⟩⟩⟩
def lw_privs : List (MethodName × Nat) := lw_privs_1 ++ (lw_privs_2)
def lw_tbl : List Cond := k2_sels lw_privs ++ tables_1
theorem lw_privs_ok : ∀ q ∈ lw_privs, lw_okq q := by
  show ∀ q ∈ lw_privs_1 ++ (lw_privs_2), lw_okq q
  exact List.forall_mem_append.mpr ⟨lw_r1, lw_r2⟩
end
section
def R_Ce : String := "EvenSwitch$Cell"
def F_Ce : u_T := fun k => match k with
  | 0 => ("EvenSwitch$Cell", "input", "I", true)
  | 1 => ("EvenSwitch$Cell", "output", "I", true)
  | 2 => ("EvenSwitch$Cell", "group", "I", true)
  | 3 => ("EvenSwitch$Cell", "tag", "I", true)
  | 4 => ("EvenSwitch$Cell", "serial", "J", true)
  | 5 => ("EvenSwitch$Cell", "cameInSlot", "I", false)
  | 6 => ("EvenSwitch$Cell", "time", "J", false)
  | _ => ("EvenSwitch$Cell", "next", "LEvenSwitch$Cell;", false)
def t_Ce : Nat → FieldType := fun k => match k with
  | 0 => .int
  | 1 => .int
  | 2 => .int
  | 3 => .int
  | 4 => .long
  | 5 => .int
  | 6 => .long
  | _ => .object "EvenSwitch$Cell"
theorem n_Ce : ∀ a, a < 8 → ∀ b, b < 8 → a ≠ b → (F_Ce a).2.1 ≠ (F_Ce b).2.1 := by decide +kernel
theorem t_Ce_ok : ∀ k, k < 8 → parseFieldDescriptor (F_Ce k).2.2.1 = some (t_Ce k) := by decide +kernel
def R_In : String := "EvenSwitch$Input"
def F_In : u_T := fun k => match k with
  | 0 => ("EvenSwitch$Input", "offered", "LEvenSwitch$Cell;", false)
  | _ => ("EvenSwitch$Input", "held", "I", false)
def t_In : Nat → FieldType := fun k => match k with
  | 0 => .object "EvenSwitch$Cell"
  | _ => .int
theorem n_In : ∀ a, a < 2 → ∀ b, b < 2 → a ≠ b → (F_In a).2.1 ≠ (F_In b).2.1 := by decide +kernel
theorem t_In_ok : ∀ k, k < 2 → parseFieldDescriptor (F_In k).2.2.1 = some (t_In k) := by decide +kernel
def R_Ou : String := "EvenSwitch$Output"
def F_Ou : u_T := fun k => match k with
  | 0 => ("EvenSwitch$Output", "kind", "I", false)
  | 1 => ("EvenSwitch$Output", "steps", "[I", true)
  | 2 => ("EvenSwitch$Output", "lastTimes", "[J", true)
  | 3 => ("EvenSwitch$Output", "head", "LEvenSwitch$Cell;", false)
  | 4 => ("EvenSwitch$Output", "length", "I", false)
  | _ => ("EvenSwitch$Output", "latest", "LEvenSwitch$Cell;", false)
def t_Ou : Nat → FieldType := fun k => match k with
  | 0 => .int
  | 1 => .array .int
  | 2 => .array .long
  | 3 => .object "EvenSwitch$Cell"
  | 4 => .int
  | _ => .object "EvenSwitch$Cell"
theorem n_Ou : ∀ a, a < 6 → ∀ b, b < 6 → a ≠ b → (F_Ou a).2.1 ≠ (F_Ou b).2.1 := by decide +kernel
theorem t_Ou_ok : ∀ k, k < 6 → parseFieldDescriptor (F_Ou k).2.2.1 = some (t_Ou k) := by decide +kernel
def R_Sw : String := "EvenSwitch"
def F_Sw : u_T := fun k => match k with
  | 0 => ("EvenSwitch", "inputs", "[LEvenSwitch$Input;", true)
  | 1 => ("EvenSwitch", "outputs", "[LEvenSwitch$Output;", true)
  | 2 => ("EvenSwitch", "slotNumber", "I", false)
  | _ => ("EvenSwitch", "acceptedCells", "J", false)
def t_Sw : Nat → FieldType := fun k => match k with
  | 0 => .array (.object "EvenSwitch$Input")
  | 1 => .array (.object "EvenSwitch$Output")
  | 2 => .int
  | _ => .long
theorem n_Sw : ∀ a, a < 4 → ∀ b, b < 4 → a ≠ b → (F_Sw a).2.1 ≠ (F_Sw b).2.1 := by decide +kernel
theorem t_Sw_ok : ∀ k, k < 4 → parseFieldDescriptor (F_Sw k).2.2.1 = some (t_Sw k) := by decide +kernel
def R_Md : String := "EvenSwitchModel"
def F_Md : u_T := fun k => match k with
  | 0 => ("EvenSwitchModel", "thrown", "I", false)
  | 1 => ("EvenSwitchModel", "many", "[I", true)
  | 2 => ("EvenSwitchModel", "inputs", "[I", true)
  | 3 => ("EvenSwitchModel", "classes", "[I", true)
  | 4 => ("EvenSwitchModel", "tags", "[I", true)
  | 5 => ("EvenSwitchModel", "times", "[J", true)
  | 6 => ("EvenSwitchModel", "came", "[I", true)
  | 7 => ("EvenSwitchModel", "accepted", "[I", true)
  | 8 => ("EvenSwitchModel", "kinds", "[I", true)
  | 9 => ("EvenSwitchModel", "weights", "[I", true)
  | 10 => ("EvenSwitchModel", "lastTimes", "[J", true)
  | 11 => ("EvenSwitchModel", "offeredTo", "[I", true)
  | 12 => ("EvenSwitchModel", "offeredClass", "[I", true)
  | 13 => ("EvenSwitchModel", "offeredTag", "[I", true)
  | 14 => ("EvenSwitchModel", "offeredAs", "[I", true)
  | 15 => ("EvenSwitchModel", "offers", "I", false)
  | 16 => ("EvenSwitchModel", "slots", "I", false)
  | 17 => ("EvenSwitchModel", "sentInput", "[I", true)
  | 18 => ("EvenSwitchModel", "sentTag", "[I", true)
  | _ => ("EvenSwitchModel", "sentWait", "[I", true)
def t_Md : Nat → FieldType := fun k => match k with
  | 0 => .int
  | 1 => .array .int
  | 2 => .array .int
  | 3 => .array .int
  | 4 => .array .int
  | 5 => .array .long
  | 6 => .array .int
  | 7 => .array .int
  | 8 => .array .int
  | 9 => .array .int
  | 10 => .array .long
  | 11 => .array .int
  | 12 => .array .int
  | 13 => .array .int
  | 14 => .array .int
  | 15 => .int
  | 16 => .int
  | 17 => .array .int
  | 18 => .array .int
  | _ => .array .int
theorem n_Md : ∀ a, a < 20 → ∀ b, b < 20 → a ≠ b → (F_Md a).2.1 ≠ (F_Md b).2.1 := by decide +kernel
theorem t_Md_ok : ∀ k, k < 20 → parseFieldDescriptor (F_Md k).2.2.1 = some (t_Md k) := by decide +kernel
def R_Ar : String := "java/util/Arrays"
abbrev ix_ce : Nat := 0
abbrev ix_in : Nat := 1
abbrev ix_ou : Nat := 2
abbrev ix_sw : Nat := 3
abbrev ix_md : Nat := 4
abbrev classes : List vw_C := [(R_Ce, F_Ce, 8), (R_In, F_In, 2), (R_Ou, F_Ou, 6), (R_Sw, F_Sw, 4), (R_Md, F_Md, 20)]
abbrev b_Sw_init : ByteArray := prog_1_method_1_code
def y_Sw_init : MethodName := ⟨R_Sw, "<init>", "()V"⟩
abbrev b_In_init : ByteArray := prog_3_method_1_code
def y_In_init : MethodName := ⟨R_In, "<init>", "()V"⟩
abbrev b_Ou_init : ByteArray := prog_4_method_1_code
def y_Ou_init : MethodName := ⟨R_Ou, "<init>", "()V"⟩
abbrev b_Ar_fill_i : ByteArray := prog_8_method_103_code
def y_Ar_fill_i : MethodName := ⟨R_Ar, "fill", "([II)V"⟩
abbrev b_Sw_setOrder : ByteArray := prog_1_method_2_code
def y_Sw_setOrder : MethodName := ⟨R_Sw, "setOrder", "(II)Z"⟩
abbrev b_Sw_isPort : ByteArray := prog_1_method_17_code
def y_Sw_isPort : MethodName := ⟨R_Sw, "isPort", "(I)Z"⟩
abbrev b_Sw_isOfferedFor : ByteArray := prog_1_method_19_code
def y_Sw_isOfferedFor : MethodName := ⟨R_Sw, "isOfferedFor", "(I)Z"⟩
abbrev b_Sw_setWeight : ByteArray := prog_1_method_3_code
def y_Sw_setWeight : MethodName := ⟨R_Sw, "setWeight", "(III)Z"⟩
abbrev b_Sw_isClass : ByteArray := prog_1_method_18_code
def y_Sw_isClass : MethodName := ⟨R_Sw, "isClass", "(I)Z"⟩
abbrev b_Sw_offer : ByteArray := prog_1_method_4_code
def y_Sw_offer : MethodName := ⟨R_Sw, "offer", "(IIII)Z"⟩
abbrev b_Ce_init : ByteArray := prog_2_method_1_code
def y_Ce_init : MethodName := ⟨R_Ce, "<init>", "(IIIIJ)V"⟩
abbrev b_Sw_slot : ByteArray := prog_1_method_5_code
def y_Sw_slot : MethodName := ⟨R_Sw, "slot", "()I"⟩
abbrev b_Sw_takeOfferedCells : ByteArray := prog_1_method_20_code
def y_Sw_takeOfferedCells : MethodName := ⟨R_Sw, "takeOfferedCells", "()V"⟩
abbrev b_Ou_admit : ByteArray := prog_4_method_2_code
def y_Ou_admit : MethodName := ⟨R_Ou, "admit", "(LEvenSwitch$Cell;I)V"⟩
abbrev b_Ou_stamp : ByteArray := prog_4_method_3_code
def y_Ou_stamp : MethodName := ⟨R_Ou, "stamp", "(LEvenSwitch$Cell;I)V"⟩
abbrev b_Ou_putInOrder : ByteArray := prog_4_method_4_code
def y_Ou_putInOrder : MethodName := ⟨R_Ou, "putInOrder", "(LEvenSwitch$Cell;)V"⟩
abbrev b_Ou_isBefore : ByteArray := prog_4_method_5_code
def y_Ou_isBefore : MethodName := ⟨R_Ou, "isBefore", "(LEvenSwitch$Cell;LEvenSwitch$Cell;)Z"⟩
abbrev b_Sw_sendFirstCells : ByteArray := prog_1_method_21_code
def y_Sw_sendFirstCells : MethodName := ⟨R_Sw, "sendFirstCells", "()I"⟩
abbrev b_Ou_sendHead : ByteArray := prog_4_method_6_code
def y_Ou_sendHead : MethodName := ⟨R_Ou, "sendHead", "()LEvenSwitch$Cell;"⟩
abbrev b_Ou_forgetTimes : ByteArray := prog_4_method_8_code
def y_Ou_forgetTimes : MethodName := ⟨R_Ou, "forgetTimes", "()V"⟩
abbrev b_Ar_fill_l : ByteArray := prog_8_method_101_code
def y_Ar_fill_l : MethodName := ⟨R_Ar, "fill", "([JJ)V"⟩
abbrev b_Sw_slots : ByteArray := prog_1_method_6_code
def y_Sw_slots : MethodName := ⟨R_Sw, "slots", "()I"⟩
abbrev b_Sw_hasSent : ByteArray := prog_1_method_7_code
def y_Sw_hasSent : MethodName := ⟨R_Sw, "hasSent", "(I)Z"⟩
abbrev b_Sw_latestSent : ByteArray := prog_1_method_22_code
def y_Sw_latestSent : MethodName := ⟨R_Sw, "latestSent", "(I)LEvenSwitch$Cell;"⟩
abbrev b_Sw_sent : ByteArray := prog_1_method_8_code
def y_Sw_sent : MethodName := ⟨R_Sw, "sent", "(I)I"⟩
abbrev b_Sw_sentFrom : ByteArray := prog_1_method_9_code
def y_Sw_sentFrom : MethodName := ⟨R_Sw, "sentFrom", "(I)I"⟩
abbrev b_Sw_waited : ByteArray := prog_1_method_10_code
def y_Sw_waited : MethodName := ⟨R_Sw, "waited", "(I)I"⟩
abbrev b_Sw_inside : ByteArray := prog_1_method_11_code
def y_Sw_inside : MethodName := ⟨R_Sw, "inside", "(I)I"⟩
abbrev b_Sw_waiting : ByteArray := prog_1_method_12_code
def y_Sw_waiting : MethodName := ⟨R_Sw, "waiting", "(I)I"⟩
abbrev b_Sw_first : ByteArray := prog_1_method_13_code
def y_Sw_first : MethodName := ⟨R_Sw, "first", "(II)I"⟩
abbrev b_Sw_cellInOrder : ByteArray := prog_1_method_23_code
def y_Sw_cellInOrder : MethodName := ⟨R_Sw, "cellInOrder", "(II)LEvenSwitch$Cell;"⟩
abbrev b_Sw_time : ByteArray := prog_1_method_14_code
def y_Sw_time : MethodName := ⟨R_Sw, "time", "(II)J"⟩
abbrev b_Sw_leaves : ByteArray := prog_1_method_15_code
def y_Sw_leaves : MethodName := ⟨R_Sw, "leaves", "(I)I"⟩
abbrev b_Sw_reset : ByteArray := prog_1_method_16_code
def y_Sw_reset : MethodName := ⟨R_Sw, "reset", "()V"⟩
abbrev b_In_dropCells : ByteArray := prog_3_method_2_code
def y_In_dropCells : MethodName := ⟨R_In, "dropCells", "()V"⟩
abbrev b_Ou_dropCells : ByteArray := prog_4_method_7_code
def y_Ou_dropCells : MethodName := ⟨R_Ou, "dropCells", "()V"⟩
abbrev b_Md_init : ByteArray := prog_6_method_1_code
def y_Md_init : MethodName := ⟨R_Md, "<init>", "()V"⟩
abbrev b_Md_empty : ByteArray := prog_6_method_3_code
def y_Md_empty : MethodName := ⟨R_Md, "empty", "()V"⟩
abbrev b_Md_setOrder : ByteArray := prog_6_method_6_code
def y_Md_setOrder : MethodName := ⟨R_Md, "setOrder", "(II)Z"⟩
abbrev b_Md_isOne : ByteArray := prog_6_method_4_code
def y_Md_isOne : MethodName := ⟨R_Md, "isOne", "(I)Z"⟩
abbrev b_Md_isWanted : ByteArray := prog_6_method_5_code
def y_Md_isWanted : MethodName := ⟨R_Md, "isWanted", "(I)Z"⟩
abbrev b_Md_setWeight : ByteArray := prog_6_method_7_code
def y_Md_setWeight : MethodName := ⟨R_Md, "setWeight", "(III)Z"⟩
abbrev b_Md_offer : ByteArray := prog_6_method_9_code
def y_Md_offer : MethodName := ⟨R_Md, "offer", "(IIII)Z"⟩
abbrev b_Md_insideOf : ByteArray := prog_6_method_8_code
def y_Md_insideOf : MethodName := ⟨R_Md, "insideOf", "(I)I"⟩
abbrev b_Md_slot : ByteArray := prog_6_method_15_code
def y_Md_slot : MethodName := ⟨R_Md, "slot", "()I"⟩
abbrev b_Md_come : ByteArray := prog_6_method_13_code
def y_Md_come : MethodName := ⟨R_Md, "come", "(I)V"⟩
abbrev b_Md_timeOf : ByteArray := prog_6_method_11_code
def y_Md_timeOf : MethodName := ⟨R_Md, "timeOf", "(II)J"⟩
abbrev b_Md_isBehind : ByteArray := prog_6_method_12_code
def y_Md_isBehind : MethodName := ⟨R_Md, "isBehind", "(IIIJ)Z"⟩
abbrev b_Md_copy : ByteArray := prog_6_method_10_code
def y_Md_copy : MethodName := ⟨R_Md, "copy", "(II)V"⟩
abbrev b_Md_send : ByteArray := prog_6_method_14_code
def y_Md_send : MethodName := ⟨R_Md, "send", "(I)I"⟩
abbrev b_Md_slots : ByteArray := prog_6_method_16_code
def y_Md_slots : MethodName := ⟨R_Md, "slots", "()I"⟩
abbrev b_Md_hasSent : ByteArray := prog_6_method_18_code
def y_Md_hasSent : MethodName := ⟨R_Md, "hasSent", "(I)Z"⟩
abbrev b_Md_sentOne : ByteArray := prog_6_method_17_code
def y_Md_sentOne : MethodName := ⟨R_Md, "sentOne", "(I)Z"⟩
abbrev b_Md_sent : ByteArray := prog_6_method_19_code
def y_Md_sent : MethodName := ⟨R_Md, "sent", "(I)I"⟩
abbrev b_Md_sentFrom : ByteArray := prog_6_method_20_code
def y_Md_sentFrom : MethodName := ⟨R_Md, "sentFrom", "(I)I"⟩
abbrev b_Md_waited : ByteArray := prog_6_method_21_code
def y_Md_waited : MethodName := ⟨R_Md, "waited", "(I)I"⟩
abbrev b_Md_inside : ByteArray := prog_6_method_22_code
def y_Md_inside : MethodName := ⟨R_Md, "inside", "(I)I"⟩
abbrev b_Md_waiting : ByteArray := prog_6_method_23_code
def y_Md_waiting : MethodName := ⟨R_Md, "waiting", "(I)I"⟩
abbrev b_Md_first : ByteArray := prog_6_method_25_code
def y_Md_first : MethodName := ⟨R_Md, "first", "(II)I"⟩
abbrev b_Md_isCell : ByteArray := prog_6_method_24_code
def y_Md_isCell : MethodName := ⟨R_Md, "isCell", "(II)Z"⟩
abbrev b_Md_time : ByteArray := prog_6_method_26_code
def y_Md_time : MethodName := ⟨R_Md, "time", "(II)J"⟩
abbrev b_Md_leaves : ByteArray := prog_6_method_27_code
def y_Md_leaves : MethodName := ⟨R_Md, "leaves", "(I)I"⟩
abbrev b_Md_reset : ByteArray := prog_6_method_28_code
def y_Md_reset : MethodName := ⟨R_Md, "reset", "()V"⟩
end
section
/-! One list of words for every method: what of the tables' words keeps. -/
def wd_T : List Cond := lw_tbl.filter goodWord
abbrev wd_c (y : MethodName) (b : ByteArray) (n : Nat) (r : Option FieldType) : List Cond := Cond.code y b n r :: wd_T
theorem wd_in {w : Cond} (h : w ∈ lw_tbl) (hg : goodWord w = true) : w ∈ wd_T := List.mem_filter.mpr ⟨h, hg⟩
theorem wd_out {w : Cond} (h : w ∈ wd_T) : w ∈ lw_tbl := (List.mem_filter.mp h).1
theorem wd_good {y : MethodName} {b : ByteArray} {n : Nat} {r : Option FieldType} (hc : Cond.code y b n r ∈ wd_T) : GoodIn wd_T (wd_c y b n r) := by
  intro w hw
  have h : w ∈ wd_T := by
    rcases List.mem_cons.mp hw with h | h
    · rw [h]; exact hc
    · exact h
  exact ⟨h, good_of_word (List.mem_filter.mp h).2⟩
end
section
/-! A LOGICAL HEAP: M maps an address to its cell; hp_H says that the heap holds M, and nothing of M lies below B. Every row of the kit over a list of cells becomes a row over M. -/
def hp_ub (B : Nat) : Nat → Prop := fun q => B ≤ q
abbrev hp_M : Type := Nat → Option va_E
/-- the array classes: int[], long[], Input[], Output[] -/
abbrev hp_T (D : va_G) : List (ClassId × FieldType) := [(D.1 10, .int), (D.1 11, .long), (D.1 12, .object "EvenSwitch$Input"), (D.1 13, .object "EvenSwitch$Output")]
abbrev hp_ai (D : va_G) (n : Nat) (f : Nat → Int32) : va_E := .inl (D.1 10, n, .inl f)
abbrev hp_al (D : va_G) (n : Nat) (f : Nat → Int64) : va_E := .inl (D.1 11, n, .inr (.inl f))
abbrev hp_aq (D : va_G) (k n : Nat) (f : Nat → Option Nat) : va_E := .inl (D.1 k, n, .inr (.inr (.inr (.inr f))))
abbrev hp_ob (ci : Nat) (fs : List Value) : va_E := .inr (ci, fs)
def hp_L (M : hp_M) (ws : va_W) : Prop := ∀ (a : Nat) (e : va_E), M a = some e ↔ ∃ k : Nat, ws[k]? = some (a, e)
def hp_H (D : va_G) (B : Nat) (M : hp_M) (H : Heap) : Prop := B ≤ H.size ∧ ∃ ws : va_W, va_P D classes ws H ∧ va_D (hp_ub B) ws ∧ hp_L M ws
def hp_C (D : va_G) (B : Nat) (M : hp_M) (U : State) : Prop := hp_H D B M U.heap ∧ va_K D classes (hp_T D) U
theorem hp_set {M : hp_M} {ws : va_W} {A : Nat → Prop} {k a : Nat} {e0 : va_E} (hL : hp_L M ws) (hD : va_D A ws) (hk : ws[k]? = some (a, e0)) (e1 : va_E) : hp_L (va_up M a (some e1)) (ws.set k (a, e1)) := by
  have hlt : k < ws.length := (List.getElem?_eq_some_iff.mp hk).1
  intro b x
  by_cases hb : b = a
  · subst hb
    rw [va_up_self]
    constructor
    · intro h
      cases h
      exact ⟨k, List.getElem?_set_self hlt⟩
    · rintro ⟨j, hj⟩
      by_cases hjk : j = k
      · subst hjk
        rw [List.getElem?_set_self hlt] at hj
        cases hj
        rfl
      · rw [List.getElem?_set_ne (Ne.symm hjk)] at hj
        exact absurd (hD.1 _ _ _ _ hj hk rfl) hjk
  · rw [va_up_ne _ _ hb, hL b x]
    constructor
    · rintro ⟨j, hj⟩
      have hjk : j ≠ k := by
        rintro rfl
        rw [hk] at hj
        cases hj
        exact hb rfl
      exact ⟨j, by rw [List.getElem?_set_ne (Ne.symm hjk)]; exact hj⟩
    · rintro ⟨j, hj⟩
      have hjk : j ≠ k := by
        rintro rfl
        rw [List.getElem?_set_self hlt] at hj
        cases hj
        exact hb rfl
      rw [List.getElem?_set_ne (Ne.symm hjk)] at hj
      exact ⟨j, hj⟩
theorem hp_push {M : hp_M} {ws : va_W} {A : Nat → Prop} {q : Nat} {e1 : va_E} (hL : hp_L M ws) (hD : va_D A (ws ++ [(q, e1)])) : M q = none ∧ hp_L (va_up M q (some e1)) (ws ++ [(q, e1)]) := by
  have hlast : (ws ++ [(q, e1)])[ws.length]? = some (q, e1) := by simp
  have hold : ∀ (j : Nat) (x : Nat × va_E), ws[j]? = some x → (ws ++ [(q, e1)])[j]? = some x := fun j x h => by
    rw [List.getElem?_append_left (List.getElem?_eq_some_iff.mp h).1]; exact h
  have hne : ∀ (j : Nat) (x : Nat × va_E), ws[j]? = some x → x.1 ≠ q := fun j x h e => by
    have h1 := hD.1 _ _ _ _ (hold j x h) hlast e
    have h2 := (List.getElem?_eq_some_iff.mp h).1
    omega
  refine ⟨?_, fun b x => ?_⟩
  · cases hM : M q with
    | none => rfl
    | some x =>
      obtain ⟨j, hj⟩ := (hL q x).mp hM
      exact absurd rfl (hne j _ hj)
  · by_cases hb : b = q
    · subst hb
      rw [va_up_self]
      constructor
      · intro h
        cases h
        exact ⟨_, hlast⟩
      · rintro ⟨j, hj⟩
        by_cases hl : j < ws.length
        · rw [List.getElem?_append_left hl] at hj
          exact absurd rfl (hne j _ hj)
        · rw [List.getElem?_append_right (by omega)] at hj
          have hz : j - ws.length < 1 := (List.getElem?_eq_some_iff.mp hj).1
          rw [show j - ws.length = 0 by omega] at hj
          cases hj
          rfl
    · rw [va_up_ne _ _ hb, hL b x]
      constructor
      · rintro ⟨j, hj⟩
        exact ⟨j, hold j _ hj⟩
      · rintro ⟨j, hj⟩
        by_cases hl : j < ws.length
        · rw [List.getElem?_append_left hl] at hj
          exact ⟨j, hj⟩
        · rw [List.getElem?_append_right (by omega)] at hj
          have hz : j - ws.length < 1 := (List.getElem?_eq_some_iff.mp hj).1
          rw [show j - ws.length = 0 by omega] at hj
          cases hj
          exact absurd rfl hb
theorem hp_recv {D : va_G} {B : Nat} {M : hp_M} {H : Heap} {s : State} {tys : List (ClassId × FieldType)} {a ci : Nat} {q : vw_C} {fs : List Value} (hK : va_K D classes tys s) (hH : hp_H D B M H) (ha : M a = some (.inr (ci, fs))) (hc : classes[ci]? = some q) : ∃ cell : Cell, H[a]? = some cell ∧ cell.vm.isStatics = false ∧ s.vm.findClass q.1 = some cell.cls := by
  obtain ⟨-, ws, hP, hD, hL⟩ := hH
  obtain ⟨k, hk⟩ := (hL a _).mp ha
  exact va_recv hK hP hc hk
theorem hp_blind {D : va_G} {B : Nat} {M : hp_M} {av : List Value} : FrameBlind (va_Pc av (hp_C D B M)) := fun a U g mk q => ⟨q.1, q.2.1, va_K.moved (u := U) (U := U.calling g mk a) (Vm.Alike.refl U.vm) q.2.2⟩
theorem hp_pre {D : va_G} {B : Nat} {M : hp_M} {H : Heap} {s : State} {av : List Value} (hH : hp_H D B M H) (hK : va_K D classes (hp_T D) s) : ∀ U : State, U.heap = H → s.WarmedH U.vm → va_Pc av (hp_C D B M) av.toArray U := fun U hU hW => ⟨rfl, by rw [hU]; exact hH, va_K.moved hW.alike hK⟩
section HK
variable {p : Program} {l : Launch} {e : Env} {R : Room} {s : State} {m : MethodId} {args : Array Value} {below : List Frame} {meth : Method} {c : Code} {H : Heap} {locs : List Loc} {cells slots : Nat} {Q : State → Prop}
variable {cc : ByteArray} {pc : Nat} {ls : Array Slot} {rest : List Value} {D : va_G} {B a : Nat} {M : hp_M} {tys : List (ClassId × FieldType)} {H0 : Heap}
theorem hp_get (hexec : p.tables.exec = Jvm.exec) (hb : c.code = cc) {own C : String} {T : u_T} {N ci index : Nat} {Ts : List Cond} (hts : ∀ w ∈ Ts, w.before args s = true) (hin : ∀ w ∈ u_ws C T N, w ∈ Ts) (hown : s.vm.findClass own = some m.cls) (hK : va_K D classes tys s) (hH : hp_H D B M H) {fs : List Value} (ha : M a = some (.inr (ci, fs))) (hc : classes[ci]? = some (C, T, N)) (k : Nat) (hk : k < N) (hlink : (Cond.fieldLink own index (T k).1 (T k).2.1 (T k).2.2.1).before args s = true) {v : Value} (hv : fs[k]? = some v) (hdg : decode cc pc = .ok (.getfield index, 3))
    (kk : W p l e R s m args below meth c H locs cells slots Q (F0 m (pc + 3) ls (v :: rest))) : W p l e R s m args below meth c H locs cells slots Q (F0 m pc ls (.ref a :: rest)) := by
  obtain ⟨-, ws, hP, hD, hL⟩ := hH
  obtain ⟨q0, hq⟩ := (hL a _).mp ha
  exact va_get hexec hb hts hin hown hK hP q0 hq hc k hk hlink (fun _ h => h) hv hdg kk
theorem hp_put (hexec : p.tables.exec = Jvm.exec) (hb : c.code = cc) {own C : String} {T : u_T} {N ci index : Nat} {Ts : List Cond} (hts : ∀ w ∈ Ts, w.before args s = true) (hin : ∀ w ∈ u_ws C T N, w ∈ Ts) (ty0 : Nat → FieldType) (hty : ∀ k, k < N → parseFieldDescriptor (T k).2.2.1 = some (ty0 k)) (hnm : ∀ a, a < N → ∀ b, b < N → a ≠ b → (T a).2.1 ≠ (T b).2.1) (hown : s.vm.findClass own = some m.cls) (hK : va_K D classes tys s) (hH : hp_H D B M H) (hS : va_S (hp_ub B) s.heap H locs) (hB : B ≤ s.heap.size) {fs fs' : List Value} (ha : M a = some (.inr (ci, fs))) (hc : classes[ci]? = some (C, T, N)) (k : Nat) (hk : k < N) (hlink : (Cond.fieldLink own index (T k).1 (T k).2.1 (T k).2.2.1).before args s = true) (hfin : (T k).2.2.2 = false) {v : Value} (hn : narrow (ty0 k) v = v) (hfit : fits (ty0 k) v = true) (hl : k < fs.length) (hfs : fs.set k v = fs')
    (hdg : decode cc pc = .ok (.putfield index, 3)) (kk : ∀ (M1 : hp_M) (H1 : Heap) (locs1 : List Loc), M1 = va_up M a (some (.inr (ci, fs'))) → hp_H D B M1 H1 → va_S (hp_ub B) s.heap H1 locs1 → W p l e R s m args below meth c H1 locs1 cells slots Q (F0 m (pc + 3) ls rest)) : W p l e R s m args below meth c H locs cells slots Q (F0 m pc ls (v :: .ref a :: rest)) := by
  obtain ⟨-, ws, hP, hD, hL⟩ := hH
  obtain ⟨q0, hq⟩ := (hL a _).mp ha
  refine va_put hexec hb hts hin ty0 hty hnm hown hK hP hD hS q0 hq hc k hk hlink (fun _ h => h) hfin (hty k hk) hn hfit hl hdg (fun H1 locs1 hP1 hD1 hS1 => ?_)
  subst hfs
  exact kk _ H1 locs1 rfl ⟨Nat.le_trans hB hS1.1, _, hP1, hD1, hp_set hL hD hq _⟩ hS1
theorem hp_putF (hexec : p.tables.exec = Jvm.exec) (hb : c.code = cc) {own C : String} {T : u_T} {N ci index : Nat} {Ts : List Cond} (hts : ∀ w ∈ Ts, w.before args s = true) (hin : ∀ w ∈ u_ws C T N, w ∈ Ts) (ty0 : Nat → FieldType) (hty : ∀ k, k < N → parseFieldDescriptor (T k).2.2.1 = some (ty0 k)) (hnm : ∀ a, a < N → ∀ b, b < N → a ≠ b → (T a).2.1 ≠ (T b).2.1) (hown : s.vm.findClass own = some m.cls) (hK : va_K D classes tys s) (hH : hp_H D B M H) (hS : va_S (hp_ub B) s.heap H locs) (hB : B ≤ s.heap.size) {fs fs' : List Value} (ha : M a = some (.inr (ci, fs))) (hc : classes[ci]? = some (C, T, N)) (k : Nat) (hk : k < N) (hlink : (Cond.fieldLink own index (T k).1 (T k).2.1 (T k).2.2.1).before args s = true) (hfin : (T k).2.2.2 = true) (hin2 : meth.name = "<init>") (hdecl : (T k).1 = own) {v : Value} (hn : narrow (ty0 k) v = v) (hfit : fits (ty0 k) v = true) (hl : k < fs.length) (hfs : fs.set k v = fs')
    (hdg : decode cc pc = .ok (.putfield index, 3)) (kk : ∀ (M1 : hp_M) (H1 : Heap) (locs1 : List Loc), M1 = va_up M a (some (.inr (ci, fs'))) → hp_H D B M1 H1 → va_S (hp_ub B) s.heap H1 locs1 → W p l e R s m args below meth c H1 locs1 cells slots Q (F0 m (pc + 3) ls rest)) : W p l e R s m args below meth c H locs cells slots Q (F0 m pc ls (v :: .ref a :: rest)) := by
  obtain ⟨-, ws, hP, hD, hL⟩ := hH
  obtain ⟨q0, hq⟩ := (hL a _).mp ha
  refine va_putF hexec hb hts hin ty0 hty hnm hown hK hP hD hS q0 hq hc k hk hlink (fun _ h => h) hfin hin2 hdecl (hty k hk) hn hfit hl hdg (fun H1 locs1 hP1 hD1 hS1 => ?_)
  subst hfs
  exact kk _ H1 locs1 rfl ⟨Nat.le_trans hB hS1.1, _, hP1, hD1, hp_set hL hD hq _⟩ hS1
theorem hp_iald (hexec : p.tables.exec = Jvm.exec) (hb : c.code = cc) (hK : va_K D classes (hp_T D) s) (hH : hp_H D B M H) {n : Nat} {f : Nat → Int32} (ha : M a = some (hp_ai D n f)) {i v : Int32} (k : Nat) (hi : i = nI k) (hk : k < n) (hn : n < 2 ^ 31) (hv : f k = v) (hdg : decode cc pc = .ok (.iaload, 1))
    (kk : W p l e R s m args below meth c H locs cells slots Q (F0 m (pc + 1) ls (.int v :: rest))) : W p l e R s m args below meth c H locs cells slots Q (F0 m pc ls (.int i :: .ref a :: rest)) := by
  obtain ⟨-, ws, hP, hD, hL⟩ := hH
  obtain ⟨q0, hq⟩ := (hL a _).mp ha
  subst hi
  refine va_iald hexec hb hK hP q0 0 hq rfl (vp_in_nI hk hn) hdg ?_
  rw [nI_clamp (by omega), hv]
  exact kk
theorem hp_lald (hexec : p.tables.exec = Jvm.exec) (hb : c.code = cc) (hK : va_K D classes (hp_T D) s) (hH : hp_H D B M H) {n : Nat} {f : Nat → Int64} (ha : M a = some (hp_al D n f)) {i : Int32} {v : Int64} (k : Nat) (hi : i = nI k) (hk : k < n) (hn : n < 2 ^ 31) (hv : f k = v) (hdg : decode cc pc = .ok (.laload, 1))
    (kk : W p l e R s m args below meth c H locs cells slots Q (F0 m (pc + 1) ls (.long v :: rest))) : W p l e R s m args below meth c H locs cells slots Q (F0 m pc ls (.int i :: .ref a :: rest)) := by
  obtain ⟨-, ws, hP, hD, hL⟩ := hH
  obtain ⟨q0, hq⟩ := (hL a _).mp ha
  subst hi
  refine va_lald hexec hb hK hP q0 1 hq rfl (vp_in_nI hk hn) hdg ?_
  rw [nI_clamp (by omega), hv]
  exact kk
theorem hp_aald (hexec : p.tables.exec = Jvm.exec) (hb : c.code = cc) (hK : va_K D classes (hp_T D) s) (hH : hp_H D B M H) {ck n x : Nat} {C : String} {f : Nat → Option Nat} (ha : M a = some (hp_aq D ck n f)) (t0 : Nat) (ht : (hp_T D)[t0]? = some (D.1 ck, .object C)) {i : Int32} (k : Nat) (hi : i = nI k) (hk : k < n) (hn : n < 2 ^ 31) (hv : f k = some x) (hdg : decode cc pc = .ok (.aaload, 1))
    (kk : W p l e R s m args below meth c H locs cells slots Q (F0 m (pc + 1) ls (.ref x :: rest))) : W p l e R s m args below meth c H locs cells slots Q (F0 m pc ls (.int i :: .ref a :: rest)) := by
  obtain ⟨-, ws, hP, hD, hL⟩ := hH
  obtain ⟨q0, hq⟩ := (hL a _).mp ha
  subst hi
  refine va_aldq hexec hb hK hP q0 t0 hq ht (vp_in_nI hk hn) hdg ?_
  rw [nI_clamp (by omega), hv]
  exact kk
theorem hp_iast (hexec : p.tables.exec = Jvm.exec) (hb : c.code = cc) (hK : va_K D classes (hp_T D) s) (hH : hp_H D B M H) (hS : va_S (hp_ub B) s.heap H locs) (hB : B ≤ s.heap.size) {n : Nat} {f : Nat → Int32} (ha : M a = some (hp_ai D n f)) {i x : Int32} (k : Nat) (hi : i = nI k) (hk : k < n) (hn : n < 2 ^ 31) (hdg : decode cc pc = .ok (.iastore, 1))
    (kk : ∀ (M1 : hp_M) (H1 : Heap) (locs1 : List Loc), M1 = va_up M a (some (hp_ai D n (upd f k x))) → hp_H D B M1 H1 → va_S (hp_ub B) s.heap H1 locs1 → W p l e R s m args below meth c H1 locs1 cells slots Q (F0 m (pc + 1) ls rest)) : W p l e R s m args below meth c H locs cells slots Q (F0 m pc ls (.int x :: .int i :: .ref a :: rest)) := by
  obtain ⟨-, ws, hP, hD, hL⟩ := hH
  obtain ⟨q0, hq⟩ := (hL a _).mp ha
  subst hi
  refine va_iast hexec hb hK hP hD hS q0 0 hq rfl (vp_in_nI hk hn) hdg (fun H1 locs1 hP1 hD1 hS1 => ?_)
  rw [nI_clamp (by omega)] at hP1 hD1
  exact kk _ H1 locs1 rfl ⟨Nat.le_trans hB hS1.1, _, hP1, hD1, hp_set hL hD hq _⟩ hS1
theorem hp_last (hexec : p.tables.exec = Jvm.exec) (hb : c.code = cc) (hK : va_K D classes (hp_T D) s) (hH : hp_H D B M H) (hS : va_S (hp_ub B) s.heap H locs) (hB : B ≤ s.heap.size) {n : Nat} {f : Nat → Int64} (ha : M a = some (hp_al D n f)) {i : Int32} {x : Int64} (k : Nat) (hi : i = nI k) (hk : k < n) (hn : n < 2 ^ 31) (hdg : decode cc pc = .ok (.lastore, 1))
    (kk : ∀ (M1 : hp_M) (H1 : Heap) (locs1 : List Loc), M1 = va_up M a (some (hp_al D n (vp_updL f k x))) → hp_H D B M1 H1 → va_S (hp_ub B) s.heap H1 locs1 → W p l e R s m args below meth c H1 locs1 cells slots Q (F0 m (pc + 1) ls rest)) : W p l e R s m args below meth c H locs cells slots Q (F0 m pc ls (.long x :: .int i :: .ref a :: rest)) := by
  obtain ⟨-, ws, hP, hD, hL⟩ := hH
  obtain ⟨q0, hq⟩ := (hL a _).mp ha
  subst hi
  refine va_last hexec hb hK hP hD hS q0 1 hq rfl (vp_in_nI hk hn) hdg (fun H1 locs1 hP1 hD1 hS1 => ?_)
  rw [nI_clamp (by omega)] at hP1 hD1
  exact kk _ H1 locs1 rfl ⟨Nat.le_trans hB hS1.1, _, hP1, hD1, hp_set hL hD hq _⟩ hS1
theorem hp_aast (hexec : p.tables.exec = Jvm.exec) (hb : c.code = cc) (hK : va_K D classes (hp_T D) s) (hH : hp_H D B M H) (hS : va_S (hp_ub B) s.heap H locs) (hB : B ≤ s.heap.size) {ck n v ci : Nat} {r : vw_C} {vs : List Value} {f : Nat → Option Nat} (ha : M a = some (hp_aq D ck n f)) (t0 : Nat) (ht : (hp_T D)[t0]? = some (D.1 ck, .object r.1)) (hv : M v = some (.inr (ci, vs))) (hc : classes[ci]? = some r) {i : Int32} (k : Nat) (hi : i = nI k) (hk : k < n) (hn : n < 2 ^ 31) (hdg : decode cc pc = .ok (.aastore, 1))
    (kk : ∀ (M1 : hp_M) (H1 : Heap) (locs1 : List Loc), M1 = va_up M a (some (hp_aq D ck n (va_up f k (some v)))) → hp_H D B M1 H1 → va_S (hp_ub B) s.heap H1 locs1 → W p l e R s m args below meth c H1 locs1 cells slots Q (F0 m (pc + 1) ls rest)) : W p l e R s m args below meth c H locs cells slots Q (F0 m pc ls (.ref v :: .int i :: .ref a :: rest)) := by
  obtain ⟨-, ws, hP, hD, hL⟩ := hH
  obtain ⟨q0, hq⟩ := (hL a _).mp ha
  obtain ⟨qk, hqk⟩ := (hL v _).mp hv
  subst hi
  refine va_astq hexec hb hK hP hD hS q0 t0 qk ci hq ht hqk hc (vp_in_nI hk hn) hdg (fun H1 locs1 hP1 hD1 hS1 => ?_)
  rw [nI_clamp (by omega)] at hP1 hD1
  exact kk _ H1 locs1 rfl ⟨Nat.le_trans hB hS1.1, _, hP1, hD1, hp_set hL hD hq _⟩ hS1
theorem hp_alen (hexec : p.tables.exec = Jvm.exec) (hb : c.code = cc) (hK : va_K D classes (hp_T D) s) (hH : hp_H D B M H) {cA : ClassId} {x : vp_A} (ha : M a = some (.inl (cA, x))) (t0 : Nat) {ty : FieldType} (ht : (hp_T D)[t0]? = some (cA, ty)) (hdg : decode cc pc = .ok (.arraylength, 1))
    (kk : W p l e R s m args below meth c H locs cells slots Q (F0 m (pc + 1) ls (.int (nI x.1) :: rest))) : W p l e R s m args below meth c H locs cells slots Q (F0 m pc ls (.ref a :: rest)) := by
  obtain ⟨-, ws, hP, hD, hL⟩ := hH
  obtain ⟨q0, hq⟩ := (hL a _).mp ha
  exact va_alen hexec hb hK hP q0 t0 hq ht rfl hdg kk
theorem hp_new (hexec : p.tables.exec = Jvm.exec) (hb : c.code = cc) {own C : String} {T : u_T} {N ci index : Nat} {Ts : List Cond} (hts : ∀ w ∈ Ts, w.before args s = true) (hin : ∀ w ∈ u_ws C T N, w ∈ Ts) (ty : Nat → FieldType) (hty : ∀ k, k < N → parseFieldDescriptor (T k).2.2.1 = some (ty k)) (hown : s.vm.findClass own = some m.cls) (hcl : (Cond.classLink own index C).before args s = true) (hinst : (Cond.instantiable C N).before args s = true) (hini : (Cond.initialized C).before args s = true)
    (hK : va_K D classes tys s) (hH : hp_H D B M H) (hS : va_S (hp_ub B) s.heap H locs) (hB : B ≤ s.heap.size) (hc : classes[ci]? = some (C, T, N)) {fs : List Value} (hfs : ∀ j, j < N → defaultValue (ty j) = vp_V fs j) (hcells : cells + 1 ≤ R.cells) (hslots : slots + N ≤ R.slots) (hdg : decode cc pc = .ok (.new index, 3))
    (kk : ∀ (q : Nat) (M1 : hp_M) (H1 : Heap), M q = none → M1 = va_up M q (some (.inr (ci, fs))) → hp_H D B M1 H1 → va_S (hp_ub B) s.heap H1 locs →
      W p l e R s m args below meth c H1 locs (cells + 1) (slots + N) Q (F0 m (pc + 3) ls (.ref q :: rest))) : W p l e R s m args below meth c H locs cells slots Q (F0 m pc ls rest) := by
  obtain ⟨-, ws, hP, hD, hL⟩ := hH
  refine va_new hexec hb hts hin ty hty hown hcl hinst hini hK hP hD hS (fun q h => Nat.le_trans hB h) hc hfs hcells hslots hdg (fun q H1 hP1 hD1 hS1 => ?_)
  obtain ⟨h1, h2⟩ := hp_push hL hD1
  exact kk q _ H1 h1 rfl ⟨Nat.le_trans hB hS1.1, _, hP1, hD1, h2⟩ hS1
theorem hp_newi (hexec : p.tables.exec = Jvm.exec) (hb : c.code = cc) (harr : (Cond.arrayClass .int).before args s = true) (hK : va_K D classes (hp_T D) s) (hH : hp_H D B M H) (hS : va_S (hp_ub B) s.heap H locs) (hB : B ≤ s.heap.size) {n : Int32} (N' : Nat) (hn : n = nI N') (hN : N' * 4 ≤ 536870912) (hcells : cells + 1 ≤ R.cells) (hslots : slots + N' ≤ R.slots) (hdg : decode cc pc = .ok (.newarray .int, 2))
    (kk : ∀ (q : Nat) (M1 : hp_M) (H1 : Heap), M q = none → M1 = va_up M q (some (hp_ai D N' (fun _ => 0))) → hp_H D B M1 H1 → va_S (hp_ub B) s.heap H1 locs →
      W p l e R s m args below meth c H1 locs (cells + 1) (slots + N') Q (F0 m (pc + 2) ls (.ref q :: rest))) : W p l e R s m args below meth c H locs cells slots Q (F0 m pc ls (.int n :: rest)) := by
  obtain ⟨-, ws, hP, hD, hL⟩ := hH
  subst hn
  refine va_newa (atype := .int) (ty := .int) (N' := N') (a0 := (N', .inl (fun _ => 0))) hexec hb harr rfl hK hP hD hS (fun q h => Nat.le_trans hB h) (fun _ => rfl) (nI_pos (by omega)) (nI_clamp (by omega)) hN hcells hslots hdg (fun q cA H1 hK1 hP1 hD1 hS1 => ?_)
  have e1 := va_nm_int (hK.2 0 _ rfl).2
  have e2 := va_nm_int (hK1.2 4 (cA, .int) (by simp)).2
  have e3 : cA = D.1 10 := Option.some.inj (e2.symm.trans e1)
  subst e3
  obtain ⟨h1, h2⟩ := hp_push hL hD1
  exact kk q _ H1 h1 rfl ⟨Nat.le_trans hB hS1.1, _, hP1, hD1, h2⟩ hS1
theorem hp_newl (hexec : p.tables.exec = Jvm.exec) (hb : c.code = cc) (harr : (Cond.arrayClass .long).before args s = true) (hK : va_K D classes (hp_T D) s) (hH : hp_H D B M H) (hS : va_S (hp_ub B) s.heap H locs) (hB : B ≤ s.heap.size) {n : Int32} (N' : Nat) (hn : n = nI N') (hN : N' * 8 ≤ 536870912) (hcells : cells + 1 ≤ R.cells) (hslots : slots + N' ≤ R.slots) (hdg : decode cc pc = .ok (.newarray .long, 2))
    (kk : ∀ (q : Nat) (M1 : hp_M) (H1 : Heap), M q = none → M1 = va_up M q (some (hp_al D N' (fun _ => 0))) → hp_H D B M1 H1 → va_S (hp_ub B) s.heap H1 locs →
      W p l e R s m args below meth c H1 locs (cells + 1) (slots + N') Q (F0 m (pc + 2) ls (.ref q :: rest))) : W p l e R s m args below meth c H locs cells slots Q (F0 m pc ls (.int n :: rest)) := by
  obtain ⟨-, ws, hP, hD, hL⟩ := hH
  subst hn
  refine va_newa (atype := .long) (ty := .long) (N' := N') (a0 := (N', .inr (.inl (fun _ => 0)))) hexec hb harr rfl hK hP hD hS (fun q h => Nat.le_trans hB h) (fun _ => rfl) (nI_pos (by omega)) (nI_clamp (by omega)) hN hcells hslots hdg (fun q cA H1 hK1 hP1 hD1 hS1 => ?_)
  have e1 := va_nm_long (hK.2 1 _ rfl).2
  have e2 := va_nm_long (hK1.2 4 (cA, .long) (by simp)).2
  have e3 : cA = D.1 11 := Option.some.inj (e2.symm.trans e1)
  subst e3
  obtain ⟨h1, h2⟩ := hp_push hL hD1
  exact kk q _ H1 h1 rfl ⟨Nat.le_trans hB hS1.1, _, hP1, hD1, h2⟩ hS1
theorem hp_newq (hexec : p.tables.exec = Jvm.exec) (hb : c.code = cc) {own C : String} {index : Nat} (hown : s.vm.findClass own = some m.cls) (hclink : (Cond.classLink own index C).before args s = true) (hover : va_AO C s) (hK : va_K D classes (hp_T D) s) (hH : hp_H D B M H) (hS : va_S (hp_ub B) s.heap H locs) (hB : B ≤ s.heap.size) (ck t0 : Nat) (ht : (hp_T D)[t0]? = some (D.1 ck, .object C)) {n : Int32} (N' : Nat) (hn : n = nI N') (hN : N' * 4 ≤ 536870912) (hcells : cells + 1 ≤ R.cells) (hslots : slots + N' ≤ R.slots) (hdg : decode cc pc = .ok (.anewarray index, 3))
    (kk : ∀ (q : Nat) (M1 : hp_M) (H1 : Heap), M q = none → M1 = va_up M q (some (hp_aq D ck N' (fun _ => none))) → hp_H D B M1 H1 → va_S (hp_ub B) s.heap H1 locs →
      W p l e R s m args below meth c H1 locs (cells + 1) (slots + N') Q (F0 m (pc + 3) ls (.ref q :: rest))) : W p l e R s m args below meth c H locs cells slots Q (F0 m pc ls (.int n :: rest)) := by
  obtain ⟨-, ws, hP, hD, hL⟩ := hH
  subst hn
  refine va_newq (N' := N') hexec hb hown hclink hover hK hP hD hS (fun q h => Nat.le_trans hB h) (nI_pos (by omega)) (nI_clamp (by omega)) hN hcells hslots hdg (fun q cA H1 hK1 hP1 hD1 hS1 => ?_)
  obtain ⟨_, _, _, _, _, e1⟩ := (hK.2 t0 _ ht).2
  obtain ⟨_, _, _, _, _, e2⟩ := (hK1.2 4 (cA, .object C) (by simp)).2
  have e3 : cA = D.1 ck := Option.some.inj (e2.symm.trans e1)
  subst e3
  obtain ⟨h1, h2⟩ := hp_push hL hD1
  exact kk q _ H1 h1 rfl ⟨Nat.le_trans hB hS1.1, _, hP1, hD1, h2⟩ hS1
/-- a number on top by another name -/
theorem hp_as {x : Value} (v : Value) (h : x = v) (k : W p l e R s m args below meth c H locs cells slots Q (F0 m pc ls (v :: rest))) : W p l e R s m args below meth c H locs cells slots Q (F0 m pc ls (x :: rest)) := h ▸ k
theorem hp_ioi {x v : Int32} (h : x = v) (k : W p l e R s m args below meth c H locs cells slots Q (F0 m pc ls (.int v :: rest))) : W p l e R s m args below meth c H locs cells slots Q (F0 m pc ls (.int x :: rest)) := h ▸ k
theorem hp_lol {x v : Int64} (h : x = v) (k : W p l e R s m args below meth c H locs cells slots Q (F0 m pc ls (.long v :: rest))) : W p l e R s m args below meth c H locs cells slots Q (F0 m pc ls (.long x :: rest)) := h ▸ k
end HK
/-- the kind of a cell: its class's number; 100 and on: arrays -/
def hp_tg (e : va_E) : Nat := match e with
  | .inl (_, _, .inl _) => 100
  | .inl (_, _, .inr (.inl _)) => 101
  | .inl _ => 102
  | .inr o => o.1
theorem hp_ne {M : hp_M} {x y : Nat} {e1 e2 : va_E} (i j : Nat) (h1 : M x = some e1) (h2 : M y = some e2) (t1 : hp_tg e1 = i) (t2 : hp_tg e2 = j) (hij : i ≠ j) : x ≠ y := by
  intro q
  subst q
  rw [h1] at h2
  cases h2
  exact hij (t1.symm.trans t2)
theorem hp_id {M : hp_M} {a : Nat} {e : va_E} (h : M a = some e) : M = va_up M a (some e) := by
  funext x
  by_cases q : x = a
  · subst q; rw [va_up_self]; exact h
  · rw [va_up_ne _ _ q]
theorem hp_uu {M : hp_M} {a : Nat} {e1 e2 : Option va_E} : va_up (va_up M a e1) a e2 = va_up M a e2 := bx_uu _ _ _ _
theorem hp_fr {M : hp_M} {q b : Nat} {e : va_E} (z : M q = none) (h : M b = some e) : b ≠ q := by
  intro w
  rw [w, z] at h
  cases h
end
section
/-! Contracts over a logical heap: words, entry, calls, ends. -/
section HC
variable {p : Program} {l : Launch} {e : Env} {R : Room} {s : State} {m : MethodId} {args : Array Value} {below : List Frame} {meth : Method} {c : Code} {H : Heap} {locs : List Loc} {cells slots : Nat} {Q : State → Prop}
variable {cc : ByteArray} {pc : Nat} {ls : Array Slot} {rest st0 : List Value} {D : va_G} {B b : Nat} {M : hp_M} {y : MethodName} {bytes : ByteArray} {maxL nL mc ms n index : Nat} {ret : Option FieldType} {rm : Room} {Ts : List Cond} {own C : String} {As : List Value} {Qc : Array Value → State → Outcome → State → Prop}
theorem hp_met {av : List Value} (hy : plainName y.cls = true) (hlen : (lg_sl av).length ≤ maxL)
    (body : ∀ (p : Program) (e : Env) (s : State) (m : MethodId) (args : Array Value) (below : List Frame) (meth : Method) (c : Code) (ls : Array Slot) (Q : State → Prop), (∀ t : State, MQ below Qc args s mc ms (hp_ub B) t → Q t) → p.tables.exec = Jvm.exec → c.code = cc → meth.sig.returnType = ret → (∀ w ∈ wd_T, w.before args s = true) → s.vm.findClass y.cls = some m.cls → meth.locks = false → meth.name = y.name → c.maxLocals = maxL → va_K D classes (hp_T D) s → hp_H D B M s.heap → va_S (hp_ub B) s.heap s.heap [] → B ≤ s.heap.size → lv_has ls maxL (lv_args 0 av) →
      W p l e rm s m args below meth c s.heap [] 0 0 Q (F0 m 0 ls [])) :
    Met l y (wd_c y cc maxL ret) rm (va_Pc av (hp_C D B M)) Qc mc ms (hp_ub B) := by
  refine Met.ofW (cc := cc) (maxL := maxL) (ret := ret) hy rfl ?_
  intro p e s m args below meth c s₁ Bd hml hv
  obtain ⟨rfl, hH, hK⟩ := hv
  have hts := atoms_spec (ws := wd_c y cc maxL ret) Bd.pre
  rw [lg_entry_eq]
  exact body p e s m _ below meth c _ _ (fun _ h => h) Bd.exec Bd.bytes Bd.returns (fun w h => hts w (List.mem_cons_of_mem _ h)) (findClass_of_methodNamed Bd.named) Bd.notSynchronized (name_of_methodNamed Bd.named Bd.method).1 hml hK hH va_S.rf hH.1 (lv_entry av hlen)
theorem hp_mono {Q' : State → Prop} {g : JFrame} (hQ : ∀ t : State, Q' t → Q t) (k : W p l e R s m args below meth c H locs cells slots Q' g) : W p l e R s m args below meth c H locs cells slots Q g := fun T hT X => by
  obtain ⟨t, a1, b1⟩ := k T hT X
  exact ⟨t, a1, hQ t b1⟩
/-- a virtual call's words -/
theorem hp_cwV (n : Nat) (ht : ∀ w ∈ wd_T, w.before args s = true) (hl : Cond.methodLink own index y ∈ wd_T) (hi : Cond.instanceMethod y ∈ wd_T) (hs : Cond.selects y.cls y y ∈ wd_T) (hini : Cond.initialized y.cls ∈ wd_T) (hc : Cond.code y bytes maxL ret ∈ wd_T) (hrc : rm.cells = mc) (hrs : rm.slots = ms)
    (hd : y.cls ≠ "java/lang/invoke/MethodHandle" ∧ y.cls ≠ "java/lang/invoke/VarHandle" ∧ (parseMethodDescriptor y.desc).map (fun d => d.parameters.length) = some n) (hR : rm.frames + 1 ≤ R.frames ∧ 8 + (maxL + 11) + rm.locals ≤ R.locals) : CallW R s args own y.cls index y bytes maxL ret (wd_c y bytes maxL ret) rm mc ms n :=
  ⟨callB_of n ht (wd_good hc) rfl hrc hrs (ht _ hini) (ht _ hl) hd hR, ht _ hi, ht _ hs⟩
theorem hp_cwS (n : Nat) (ht : ∀ w ∈ wd_T, w.before args s = true) (hl : Cond.methodLink own index y ∈ wd_T) (hi : Cond.static y ∈ wd_T) (hini : Cond.initialized y.cls ∈ wd_T) (hc : Cond.code y bytes maxL ret ∈ wd_T) (hrc : rm.cells = mc) (hrs : rm.slots = ms)
    (hd : y.cls ≠ "java/lang/invoke/MethodHandle" ∧ y.cls ≠ "java/lang/invoke/VarHandle" ∧ (parseMethodDescriptor y.desc).map (fun d => d.parameters.length) = some n) (hR : rm.frames + 1 ≤ R.frames ∧ 8 + (maxL + 11) + rm.locals ≤ R.locals) : CallB R s args own index y bytes maxL ret (wd_c y bytes maxL ret) rm mc ms n ∧ (Cond.static y).before args s = true :=
  ⟨callB_of n ht (wd_good hc) rfl hrc hrs (ht _ hini) (ht _ hl) hd hR, ht _ hi⟩
theorem hp_cwI (n : Nat) (ht : ∀ w ∈ wd_T, w.before args s = true) (hl : Cond.methodLink own index y ∈ wd_T) (hi : Cond.instanceMethod y ∈ wd_T) (hini : Cond.initialized y.cls ∈ wd_T) (hc : Cond.code y bytes maxL none ∈ wd_T) (hy : y.name = "<init>") (hrc : rm.cells = mc) (hrs : rm.slots = ms)
    (hd : y.cls ≠ "java/lang/invoke/MethodHandle" ∧ y.cls ≠ "java/lang/invoke/VarHandle" ∧ (parseMethodDescriptor y.desc).map (fun d => d.parameters.length) = some n) (hR : rm.frames + 1 ≤ R.frames ∧ 8 + (maxL + 11) + rm.locals ≤ R.locals) : CallB R s args own index y bytes maxL none (wd_c y bytes maxL none) rm mc ms n ∧ y.name = "<init>" ∧ (Cond.instanceMethod y).before args s = true :=
  ⟨callB_of n ht (wd_good hc) rfl hrc hrs (ht _ hini) (ht _ hl) hd hR, hy, ht _ hi⟩
theorem hp_runV (hx : p.tables.exec = Jvm.exec) (hb : c.code = cc) (hml : c.maxLocals = nL) (hown : s.vm.findClass own = some m.cls) {ws : List Cond} (hM : Met l y ws rm (va_Pc (.ref b :: As) (hp_C D B M)) Qc mc ms (hp_ub B)) (cw : CallW R s args own C index y bytes maxL ret ws rm mc ms n) (hK : va_K D classes (hp_T D) s) (hH : hp_H D B M H) {ci N : Nat} {T : u_T} {fs : List Value} (hb0 : M b = some (.inr (ci, fs))) (hc : classes[ci]? = some (C, T, N)) (hn : As.length = n) (hsize : ls.size = nL) (hst : st0 = As.reverse ++ .ref b :: rest) (hW : (rest.map fun v => v.category).sum ≤ 8) (hdg : decode cc pc = .ok (.invokevirtual index, 3)) (hf : cells + mc ≤ R.cells ∧ slots + ms ≤ R.slots) :
    va_Run p l e R s m args below meth c H locs cells slots mc ms (F0 m pc ls st0) rest (Qc (Value.ref b :: As).toArray) (hp_ub B) :=
  va_runV (Ts := []) ⟨hx, hb, hml, hown, fun _ h => absurd h List.not_mem_nil⟩ hM cw ⟨hp_blind, hp_recv hK hH hb0 hc, hp_pre hH hK⟩ rfl hn hsize hst (lv_room hW) hdg hf
theorem hp_runS (hx : p.tables.exec = Jvm.exec) (hb : c.code = cc) (hml : c.maxLocals = nL) (hown : s.vm.findClass own = some m.cls) {ws : List Cond} (hM : Met l y ws rm (va_Pc As (hp_C D B M)) Qc mc ms (hp_ub B)) (cw : CallB R s args own index y bytes maxL ret ws rm mc ms n ∧ (Cond.static y).before args s = true) (hK : va_K D classes (hp_T D) s) (hH : hp_H D B M H) (hn : As.length = n) (hsize : ls.size = nL) (hst : st0 = As.reverse ++ rest) (hW : (rest.map fun v => v.category).sum ≤ 8) (hdg : decode cc pc = .ok (.invokestatic index, 3)) (hf : cells + mc ≤ R.cells ∧ slots + ms ≤ R.slots) :
    va_Run p l e R s m args below meth c H locs cells slots mc ms (F0 m pc ls st0) rest (Qc As.toArray) (hp_ub B) :=
  va_runS (Ts := []) ⟨hx, hb, hml, hown, fun _ h => absurd h List.not_mem_nil⟩ hM cw ⟨hp_blind, hp_pre hH hK⟩ rfl hn hsize hst (lv_room hW) hdg hf
theorem hp_runI (hx : p.tables.exec = Jvm.exec) (hb : c.code = cc) (hml : c.maxLocals = nL) (hown : s.vm.findClass own = some m.cls) {ws : List Cond} (hM : Met l y ws rm (va_Pc (.ref b :: As) (hp_C D B M)) Qc mc ms (hp_ub B)) (cw : CallB R s args own index y bytes maxL none ws rm mc ms n ∧ y.name = "<init>" ∧ (Cond.instanceMethod y).before args s = true) (hK : va_K D classes (hp_T D) s) (hH : hp_H D B M H) (hn : As.length = n) (hsize : ls.size = nL) (hst : st0 = As.reverse ++ .ref b :: rest) (hW : (rest.map fun v => v.category).sum ≤ 8) (hdg : decode cc pc = .ok (.invokespecial index, 3)) (hf : cells + mc ≤ R.cells ∧ slots + ms ≤ R.slots) :
    va_Run p l e R s m args below meth c H locs cells slots mc ms (F0 m pc ls st0) rest (Qc (Value.ref b :: As).toArray) (hp_ub B) :=
  va_runI (Ts := []) ⟨hx, hb, hml, hown, fun _ h => absurd h List.not_mem_nil⟩ hM cw ⟨hp_blind, hp_pre hH hK⟩ rfl hn hsize hst (lv_room hW) hdg hf
theorem hp_calli {post : Int32 → hp_M → Prop} {av : Array Value} (hr : va_Run p l e R s m args below meth c H locs cells slots mc ms (F0 m pc ls st0) rest (va_Qi post (hp_C D B) (hp_ub B) av) (hp_ub B)) (hS : va_S (hp_ub B) s.heap H locs)
    (kk : ∀ (r : Int32) (M1 : hp_M) (H1 : Heap) (locs1 : List Loc), post r M1 → hp_H D B M1 H1 → va_S (hp_ub B) s.heap H1 locs1 → W p l e R s m args below meth c H1 locs1 (cells + mc) (slots + ms) Q (F0 m (pc + 3) ls (.int r :: rest))) : W p l e R s m args below meth c H locs cells slots Q (F0 m pc ls st0) :=
  va_calli hr hS (fun _ _ h => h) (fun _ h => h) (fun r u t H1 locs1 ht _ hw hB _ _ hS1 => kk r u H1 locs1 hw (ht ▸ hB.1) hS1)
theorem hp_calll {post : Int64 → hp_M → Prop} {av : Array Value} (hr : va_Run p l e R s m args below meth c H locs cells slots mc ms (F0 m pc ls st0) rest (va_Ql post (hp_C D B) (hp_ub B) av) (hp_ub B)) (hS : va_S (hp_ub B) s.heap H locs)
    (kk : ∀ (r : Int64) (M1 : hp_M) (H1 : Heap) (locs1 : List Loc), post r M1 → hp_H D B M1 H1 → va_S (hp_ub B) s.heap H1 locs1 → W p l e R s m args below meth c H1 locs1 (cells + mc) (slots + ms) Q (F0 m (pc + 3) ls (.long r :: rest))) : W p l e R s m args below meth c H locs cells slots Q (F0 m pc ls st0) :=
  va_calll hr hS (fun _ _ h => h) (fun _ h => h) (fun r u t H1 locs1 ht _ hw hB _ _ hS1 => kk r u H1 locs1 hw (ht ▸ hB.1) hS1)
theorem hp_callv {post : hp_M → Prop} {av : Array Value} (hr : va_Run p l e R s m args below meth c H locs cells slots mc ms (F0 m pc ls st0) rest (va_Qv post (hp_C D B) (hp_ub B) av) (hp_ub B)) (hS : va_S (hp_ub B) s.heap H locs)
    (kk : ∀ (M1 : hp_M) (H1 : Heap) (locs1 : List Loc), post M1 → hp_H D B M1 H1 → va_S (hp_ub B) s.heap H1 locs1 → W p l e R s m args below meth c H1 locs1 (cells + mc) (slots + ms) Q (F0 m (pc + 3) ls rest)) : W p l e R s m args below meth c H locs cells slots Q (F0 m pc ls st0) :=
  va_callv hr hS (fun _ _ h => h) (fun _ h => h) (fun u t H1 locs1 ht _ hw hB _ _ hS1 => kk u H1 locs1 hw (ht ▸ hB.1) hS1)
theorem hp_callq {post : Option Nat → hp_M → Prop} {av : Array Value} (hr : va_Run p l e R s m args below meth c H locs cells slots mc ms (F0 m pc ls st0) rest (va_Qq post (hp_C D B) (hp_ub B) av) (hp_ub B)) (hS : va_S (hp_ub B) s.heap H locs)
    (kk : ∀ (r : Option Nat) (M1 : hp_M) (H1 : Heap) (locs1 : List Loc), post r M1 → hp_H D B M1 H1 → va_S (hp_ub B) s.heap H1 locs1 → W p l e R s m args below meth c H1 locs1 (cells + mc) (slots + ms) Q (F0 m (pc + 3) ls (va_rf r :: rest))) : W p l e R s m args below meth c H locs cells slots Q (F0 m pc ls st0) :=
  va_callq hr hS (fun _ _ h => h) (fun _ h => h) (fun r u t H1 locs1 ht _ hw hB _ _ hS1 => kk r u H1 locs1 hw (ht ▸ hB.1) hS1)
theorem hp_iret {post : Int32 → hp_M → Prop} {v : Int32} (hexec : p.tables.exec = Jvm.exec) (hb : c.code = cc) (hr : meth.sig.returnType = some .int) (hlocks : meth.locks = false) (hQ : ∀ t : State, MQ below (va_Qi post (hp_C D B) (hp_ub B)) args s mc ms (hp_ub B) t → Q t) (hK : va_K D classes (hp_T D) s) (hH : hp_H D B M H) (hS : va_S (hp_ub B) s.heap H locs) (hc : cells ≤ mc) (hs : slots ≤ ms) (hdg : decode cc pc = .ok (.ireturn, 1)) (hp : post v M) : W p l e R s m args below meth c H locs cells slots Q (F0 m pc ls [.int v]) :=
  W.widen hc hs (hp_mono hQ (W.iret hexec hb hr (fun t ht hW => ⟨⟨v, M, rfl, hp, by rw [ht]; exact hH, va_K.moved hW.alike hK⟩, hS.F ht⟩) hS.2.2 hdg hlocks))
theorem hp_zret {post : Int32 → hp_M → Prop} {v : Int32} (hexec : p.tables.exec = Jvm.exec) (hb : c.code = cc) (hr : meth.sig.returnType = some .boolean) (hlocks : meth.locks = false) (hQ : ∀ t : State, MQ below (va_Qi post (hp_C D B) (hp_ub B)) args s mc ms (hp_ub B) t → Q t) (hK : va_K D classes (hp_T D) s) (hH : hp_H D B M H) (hS : va_S (hp_ub B) s.heap H locs) (hc : cells ≤ mc) (hs : slots ≤ ms) (hn : narrow .boolean (.int v) = .int v) (hdg : decode cc pc = .ok (.ireturn, 1)) (hp : post v M) : W p l e R s m args below meth c H locs cells slots Q (F0 m pc ls [.int v]) :=
  W.widen hc hs (hp_mono hQ (W.zret hexec hb hr hn (fun t ht hW => ⟨⟨v, M, rfl, hp, by rw [ht]; exact hH, va_K.moved hW.alike hK⟩, hS.F ht⟩) hS.2.2 hdg hlocks))
theorem hp_lret {post : Int64 → hp_M → Prop} {v : Int64} (hexec : p.tables.exec = Jvm.exec) (hb : c.code = cc) (hr : meth.sig.returnType = some .long) (hlocks : meth.locks = false) (hQ : ∀ t : State, MQ below (va_Ql post (hp_C D B) (hp_ub B)) args s mc ms (hp_ub B) t → Q t) (hK : va_K D classes (hp_T D) s) (hH : hp_H D B M H) (hS : va_S (hp_ub B) s.heap H locs) (hc : cells ≤ mc) (hs : slots ≤ ms) (hdg : decode cc pc = .ok (.lreturn, 1)) (hp : post v M) : W p l e R s m args below meth c H locs cells slots Q (F0 m pc ls [.long v]) :=
  W.widen hc hs (hp_mono hQ (W.lret hexec hb hr (fun t ht hW => ⟨⟨v, M, rfl, hp, by rw [ht]; exact hH, va_K.moved hW.alike hK⟩, hS.F ht⟩) hS.2.2 hdg hlocks))
theorem hp_vret {post : hp_M → Prop} (hexec : p.tables.exec = Jvm.exec) (hb : c.code = cc) (hr : meth.sig.returnType = none) (hlocks : meth.locks = false) (hQ : ∀ t : State, MQ below (va_Qv post (hp_C D B) (hp_ub B)) args s mc ms (hp_ub B) t → Q t) (hK : va_K D classes (hp_T D) s) (hH : hp_H D B M H) (hS : va_S (hp_ub B) s.heap H locs) (hc : cells ≤ mc) (hs : slots ≤ ms) (hdg : decode cc pc = .ok (.return_, 1)) (hp : post M) : W p l e R s m args below meth c H locs cells slots Q (F0 m pc ls []) :=
  W.widen hc hs (hp_mono hQ (W.vret hexec hb hr (fun t ht hW => ⟨⟨M, rfl, hp, by rw [ht]; exact hH, va_K.moved hW.alike hK⟩, hS.F ht⟩) hS.2.2 hdg hlocks))
theorem hp_qret {post : Option Nat → hp_M → Prop} {v : Option Nat} {cn : String} (hexec : p.tables.exec = Jvm.exec) (hb : c.code = cc) (hr : meth.sig.returnType = some (.object cn)) (hlocks : meth.locks = false) (hQ : ∀ t : State, MQ below (va_Qq post (hp_C D B) (hp_ub B)) args s mc ms (hp_ub B) t → Q t) (hK : va_K D classes (hp_T D) s) (hH : hp_H D B M H) (hS : va_S (hp_ub B) s.heap H locs) (hc : cells ≤ mc) (hs : slots ≤ ms) (hdg : decode cc pc = .ok (.areturn, 1)) (hp : post v M) : W p l e R s m args below meth c H locs cells slots Q (F0 m pc ls [va_rf v]) :=
  W.widen hc hs (hp_mono hQ (W.aret hexec hb hr (Or.inl ⟨_, rfl⟩) (va_rf_or v) (fun t ht hW => ⟨⟨v, M, rfl, hp, by rw [ht]; exact hH, va_K.moved hW.alike hK⟩, hS.F ht⟩) hS.2.2 hdg hlocks))
/-- a reference that may be null: both ways -/
theorem hp_ifnull {r : Option Nat} {off : Int} {tgt : Nat} (hexec : p.tables.exec = Jvm.exec) (hb : c.code = cc) (hdg : decode cc pc = .ok (.ifnull off, 3)) (ht : (pc : Int) + off = (tgt : Int)) (kn : r = none → W p l e R s m args below meth c H locs cells slots Q (F0 m tgt ls rest)) (ks : ∀ x : Nat, r = some x → W p l e R s m args below meth c H locs cells slots Q (F0 m (pc + 3) ls rest)) : W p l e R s m args below meth c H locs cells slots Q (F0 m pc ls (va_rf r :: rest)) := by
  cases r with
  | none => exact lv_ifnullN hexec hb hdg ht (kn rfl)
  | some x => exact lv_ifnull hexec hb hdg (ks x rfl)
theorem hp_ifnonnull {r : Option Nat} {off : Int} {tgt : Nat} (hexec : p.tables.exec = Jvm.exec) (hb : c.code = cc) (hdg : decode cc pc = .ok (.ifnonnull off, 3)) (ht : (pc : Int) + off = (tgt : Int)) (ks : ∀ x : Nat, r = some x → W p l e R s m args below meth c H locs cells slots Q (F0 m tgt ls rest)) (kn : r = none → W p l e R s m args below meth c H locs cells slots Q (F0 m (pc + 3) ls rest)) : W p l e R s m args below meth c H locs cells slots Q (F0 m pc ls (va_rf r :: rest)) := by
  cases r with
  | none => exact lv_ifnonnullN hexec hb hdg (kn rfl)
  | some x => exact lv_ifnonnull hexec hb hdg ht (ks x rfl)
/-- loading and storing a reference that may be null -/
theorem hp_aload_n {k : Fin 4} {i : Nat} {r : Option Nat} (hexec : p.tables.exec = Jvm.exec) (hb : c.code = cc) (hdg : decode cc pc = .ok (.aload_n k, 1)) (hi : (k : Nat) = i) (hl : ls[i]? = some (.val (va_rf r))) (kk : W p l e R s m args below meth c H locs cells slots Q (F0 m (pc + 1) ls (va_rf r :: rest))) : W p l e R s m args below meth c H locs cells slots Q (F0 m pc ls rest) := by
  cases r with
  | none => exact lv_aload_nN hexec hb hdg hi hl kk
  | some x => exact lv_aload_n hexec hb hdg hi hl kk
theorem hp_aload {i : Nat} {r : Option Nat} (hexec : p.tables.exec = Jvm.exec) (hb : c.code = cc) (hdg : decode cc pc = .ok (.aload i, 2)) (hl : ls[i]? = some (.val (va_rf r))) (kk : W p l e R s m args below meth c H locs cells slots Q (F0 m (pc + 2) ls (va_rf r :: rest))) : W p l e R s m args below meth c H locs cells slots Q (F0 m pc ls rest) := by
  cases r with
  | none => exact lv_aloadN hexec hb hdg hl kk
  | some x => exact lv_aload hexec hb hdg hl kk
theorem hp_astore_n {k : Fin 4} {i nL : Nat} {r : Option Nat} {lv lv' : List (Nat × Value)} (hexec : p.tables.exec = Jvm.exec) (hb : c.code = cc) (hdg : decode cc pc = .ok (.astore_n k, 1)) (hi : (k : Nat) = i) (h : lv_has ls nL lv) (hn : i < nL) (hl : (i, va_rf r) :: lv.filter (fun q => !(q.1 == i) && !(q.1 + 1 == i && q.2.category == 2)) = lv')
    (kk : ∀ ls' : Array Slot, lv_has ls' nL lv' → W p l e R s m args below meth c H locs cells slots Q (F0 m (pc + 1) ls' rest)) : W p l e R s m args below meth c H locs cells slots Q (F0 m pc ls (va_rf r :: rest)) := by
  cases r with
  | none => exact lv_astore_nN hexec hb hdg hi h hn hl kk
  | some x => exact lv_astore_n hexec hb hdg hi h hn hl kk
theorem hp_astore {i nL : Nat} {r : Option Nat} {lv lv' : List (Nat × Value)} (hexec : p.tables.exec = Jvm.exec) (hb : c.code = cc) (hdg : decode cc pc = .ok (.astore i, 2)) (h : lv_has ls nL lv) (hn : i < nL) (hl : (i, va_rf r) :: lv.filter (fun q => !(q.1 == i) && !(q.1 + 1 == i && q.2.category == 2)) = lv')
    (kk : ∀ ls' : Array Slot, lv_has ls' nL lv' → W p l e R s m args below meth c H locs cells slots Q (F0 m (pc + 2) ls' rest)) : W p l e R s m args below meth c H locs cells slots Q (F0 m pc ls (va_rf r :: rest)) := by
  cases r with
  | none => exact lv_astoreN hexec hb hdg h hn hl kk
  | some x => exact lv_astore hexec hb hdg h hn hl kk
end HC
end
