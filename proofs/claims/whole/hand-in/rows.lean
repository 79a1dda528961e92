section
/-- a private method of a class that the tables say can be made, by its rows of tables_1 -/
def lw_okq (q : MethodName × Nat) : Prop := (q.1.cls ≠ "java/lang/invoke/MethodHandle" ∧ q.1.cls ≠ "java/lang/invoke/VarHandle") ∧ Cond.instantiable q.1.cls q.2 ∈ tables_1 ∧ Cond.privateMethod q.1 ∈ tables_1 ∧ Cond.instanceMethod q.1 ∈ tables_1
theorem lw_p0 : lw_okq (⟨"EvenSwitch", "isOfferedFor", "(I)Z"⟩, 4) := ⟨⟨by decide +kernel, by decide +kernel⟩, List.mem_of_getElem? (i := 9) (by decide +kernel), List.mem_of_getElem? (i := 90) (by decide +kernel), List.mem_of_getElem? (i := 91) (by decide +kernel)⟩
theorem lw_p1 : lw_okq (⟨"EvenSwitch", "takeOfferedCells", "()V"⟩, 4) := ⟨⟨by decide +kernel, by decide +kernel⟩, List.mem_of_getElem? (i := 9) (by decide +kernel), List.mem_of_getElem? (i := 149) (by decide +kernel), List.mem_of_getElem? (i := 150) (by decide +kernel)⟩
theorem lw_p2 : lw_okq (⟨"EvenSwitch$Output", "stamp", "(LEvenSwitch$Cell;I)V"⟩, 6) := ⟨⟨by decide +kernel, by decide +kernel⟩, List.mem_of_getElem? (i := 34) (by decide +kernel), List.mem_of_getElem? (i := 157) (by decide +kernel), List.mem_of_getElem? (i := 158) (by decide +kernel)⟩
theorem lw_p3 : lw_okq (⟨"EvenSwitch$Output", "putInOrder", "(LEvenSwitch$Cell;)V"⟩, 6) := ⟨⟨by decide +kernel, by decide +kernel⟩, List.mem_of_getElem? (i := 34) (by decide +kernel), List.mem_of_getElem? (i := 165) (by decide +kernel), List.mem_of_getElem? (i := 166) (by decide +kernel)⟩
theorem lw_p4 : lw_okq (⟨"EvenSwitch$Output", "isBefore", "(LEvenSwitch$Cell;LEvenSwitch$Cell;)Z"⟩, 6) := ⟨⟨by decide +kernel, by decide +kernel⟩, List.mem_of_getElem? (i := 34) (by decide +kernel), List.mem_of_getElem? (i := 169) (by decide +kernel), List.mem_of_getElem? (i := 170) (by decide +kernel)⟩
theorem lw_p5 : lw_okq (⟨"EvenSwitch", "sendFirstCells", "()I"⟩, 4) := ⟨⟨by decide +kernel, by decide +kernel⟩, List.mem_of_getElem? (i := 9) (by decide +kernel), List.mem_of_getElem? (i := 173) (by decide +kernel), List.mem_of_getElem? (i := 174) (by decide +kernel)⟩
theorem lw_p6 : lw_okq (⟨"EvenSwitch$Output", "forgetTimes", "()V"⟩, 6) := ⟨⟨by decide +kernel, by decide +kernel⟩, List.mem_of_getElem? (i := 34) (by decide +kernel), List.mem_of_getElem? (i := 181) (by decide +kernel), List.mem_of_getElem? (i := 182) (by decide +kernel)⟩
theorem lw_p7 : lw_okq (⟨"EvenSwitch", "latestSent", "(I)LEvenSwitch$Cell;"⟩, 4) := ⟨⟨by decide +kernel, by decide +kernel⟩, List.mem_of_getElem? (i := 9) (by decide +kernel), List.mem_of_getElem? (i := 196) (by decide +kernel), List.mem_of_getElem? (i := 197) (by decide +kernel)⟩
theorem lw_p8 : lw_okq (⟨"EvenSwitch", "cellInOrder", "(II)LEvenSwitch$Cell;"⟩, 4) := ⟨⟨by decide +kernel, by decide +kernel⟩, List.mem_of_getElem? (i := 9) (by decide +kernel), List.mem_of_getElem? (i := 224) (by decide +kernel), List.mem_of_getElem? (i := 225) (by decide +kernel)⟩
theorem lw_p9 : lw_okq (⟨"EvenSwitchModel", "empty", "()V"⟩, 20) := ⟨⟨by decide +kernel, by decide +kernel⟩, List.mem_of_getElem? (i := 249) (by decide +kernel), List.mem_of_getElem? (i := 255) (by decide +kernel), List.mem_of_getElem? (i := 256) (by decide +kernel)⟩
theorem lw_p10 : lw_okq (⟨"EvenSwitchModel", "isWanted", "(I)Z"⟩, 20) := ⟨⟨by decide +kernel, by decide +kernel⟩, List.mem_of_getElem? (i := 249) (by decide +kernel), List.mem_of_getElem? (i := 327) (by decide +kernel), List.mem_of_getElem? (i := 328) (by decide +kernel)⟩
theorem lw_p11 : lw_okq (⟨"EvenSwitchModel", "insideOf", "(I)I"⟩, 20) := ⟨⟨by decide +kernel, by decide +kernel⟩, List.mem_of_getElem? (i := 249) (by decide +kernel), List.mem_of_getElem? (i := 339) (by decide +kernel), List.mem_of_getElem? (i := 340) (by decide +kernel)⟩
theorem lw_p12 : lw_okq (⟨"EvenSwitchModel", "come", "(I)V"⟩, 20) := ⟨⟨by decide +kernel, by decide +kernel⟩, List.mem_of_getElem? (i := 249) (by decide +kernel), List.mem_of_getElem? (i := 347) (by decide +kernel), List.mem_of_getElem? (i := 348) (by decide +kernel)⟩
theorem lw_p13 : lw_okq (⟨"EvenSwitchModel", "timeOf", "(II)J"⟩, 20) := ⟨⟨by decide +kernel, by decide +kernel⟩, List.mem_of_getElem? (i := 249) (by decide +kernel), List.mem_of_getElem? (i := 351) (by decide +kernel), List.mem_of_getElem? (i := 352) (by decide +kernel)⟩
theorem lw_p14 : lw_okq (⟨"EvenSwitchModel", "isBehind", "(IIIJ)Z"⟩, 20) := ⟨⟨by decide +kernel, by decide +kernel⟩, List.mem_of_getElem? (i := 249) (by decide +kernel), List.mem_of_getElem? (i := 357) (by decide +kernel), List.mem_of_getElem? (i := 358) (by decide +kernel)⟩
theorem lw_p15 : lw_okq (⟨"EvenSwitchModel", "copy", "(II)V"⟩, 20) := ⟨⟨by decide +kernel, by decide +kernel⟩, List.mem_of_getElem? (i := 249) (by decide +kernel), List.mem_of_getElem? (i := 361) (by decide +kernel), List.mem_of_getElem? (i := 362) (by decide +kernel)⟩
def lw_privs_1 : List (MethodName × Nat) := [(⟨"EvenSwitch", "isOfferedFor", "(I)Z"⟩, 4), (⟨"EvenSwitch", "takeOfferedCells", "()V"⟩, 4), (⟨"EvenSwitch$Output", "stamp", "(LEvenSwitch$Cell;I)V"⟩, 6), (⟨"EvenSwitch$Output", "putInOrder", "(LEvenSwitch$Cell;)V"⟩, 6), (⟨"EvenSwitch$Output", "isBefore", "(LEvenSwitch$Cell;LEvenSwitch$Cell;)Z"⟩, 6), (⟨"EvenSwitch", "sendFirstCells", "()I"⟩, 4), (⟨"EvenSwitch$Output", "forgetTimes", "()V"⟩, 6), (⟨"EvenSwitch", "latestSent", "(I)LEvenSwitch$Cell;"⟩, 4), (⟨"EvenSwitch", "cellInOrder", "(II)LEvenSwitch$Cell;"⟩, 4), (⟨"EvenSwitchModel", "empty", "()V"⟩, 20), (⟨"EvenSwitchModel", "isWanted", "(I)Z"⟩, 20), (⟨"EvenSwitchModel", "insideOf", "(I)I"⟩, 20), (⟨"EvenSwitchModel", "come", "(I)V"⟩, 20), (⟨"EvenSwitchModel", "timeOf", "(II)J"⟩, 20), (⟨"EvenSwitchModel", "isBehind", "(IIIJ)Z"⟩, 20), (⟨"EvenSwitchModel", "copy", "(II)V"⟩, 20)]
theorem lw_r1 : ∀ q ∈ lw_privs_1, lw_okq q := List.forall_mem_cons.mpr ⟨lw_p0, List.forall_mem_cons.mpr ⟨lw_p1, List.forall_mem_cons.mpr ⟨lw_p2, List.forall_mem_cons.mpr ⟨lw_p3, List.forall_mem_cons.mpr ⟨lw_p4, List.forall_mem_cons.mpr ⟨lw_p5, List.forall_mem_cons.mpr ⟨lw_p6, List.forall_mem_cons.mpr ⟨lw_p7, List.forall_mem_cons.mpr ⟨lw_p8, List.forall_mem_cons.mpr ⟨lw_p9, List.forall_mem_cons.mpr ⟨lw_p10, List.forall_mem_cons.mpr ⟨lw_p11, List.forall_mem_cons.mpr ⟨lw_p12, List.forall_mem_cons.mpr ⟨lw_p13, List.forall_mem_cons.mpr ⟨lw_p14, List.forall_mem_cons.mpr ⟨lw_p15, fun _ h => absurd h List.not_mem_nil⟩⟩⟩⟩⟩⟩⟩⟩⟩⟩⟩⟩⟩⟩⟩⟩
theorem lw_p16 : lw_okq (⟨"EvenSwitchModel", "send", "(I)I"⟩, 20) := ⟨⟨by decide +kernel, by decide +kernel⟩, List.mem_of_getElem? (i := 249) (by decide +kernel), List.mem_of_getElem? (i := 365) (by decide +kernel), List.mem_of_getElem? (i := 366) (by decide +kernel)⟩
theorem lw_p17 : lw_okq (⟨"EvenSwitchModel", "sentOne", "(I)Z"⟩, 20) := ⟨⟨by decide +kernel, by decide +kernel⟩, List.mem_of_getElem? (i := 249) (by decide +kernel), List.mem_of_getElem? (i := 377) (by decide +kernel), List.mem_of_getElem? (i := 378) (by decide +kernel)⟩
theorem lw_p18 : lw_okq (⟨"EvenSwitchModel", "isCell", "(II)Z"⟩, 20) := ⟨⟨by decide +kernel, by decide +kernel⟩, List.mem_of_getElem? (i := 249) (by decide +kernel), List.mem_of_getElem? (i := 405) (by decide +kernel), List.mem_of_getElem? (i := 406) (by decide +kernel)⟩
def lw_privs_2 : List (MethodName × Nat) := [(⟨"EvenSwitchModel", "send", "(I)I"⟩, 20), (⟨"EvenSwitchModel", "sentOne", "(I)Z"⟩, 20), (⟨"EvenSwitchModel", "isCell", "(II)Z"⟩, 20)]
theorem lw_r2 : ∀ q ∈ lw_privs_2, lw_okq q := List.forall_mem_cons.mpr ⟨lw_p16, List.forall_mem_cons.mpr ⟨lw_p17, List.forall_mem_cons.mpr ⟨lw_p18, fun _ h => absurd h List.not_mem_nil⟩⟩⟩
def lw_privs : List (MethodName × Nat) := lw_privs_1 ++ (lw_privs_2)
def lw_tbl : List Cond := k2_sels lw_privs ++ tables_1
theorem lw_privs_ok : ∀ q ∈ lw_privs, lw_okq q := by
  show ∀ q ∈ lw_privs_1 ++ (lw_privs_2), lw_okq q
  exact List.forall_mem_append.mpr ⟨lw_r1, lw_r2⟩
end
section
def R_Ce : String := "EvenSwitch$Cell"
def F_Ce : u_T := fun k => match k with
  | 0 => ("EvenSwitch$Cell", "input", "I", true)
  | 1 => ("EvenSwitch$Cell", "output", "I", true)
  | 2 => ("EvenSwitch$Cell", "group", "I", true)
  | 3 => ("EvenSwitch$Cell", "tag", "I", true)
  | 4 => ("EvenSwitch$Cell", "serial", "J", true)
  | 5 => ("EvenSwitch$Cell", "cameInSlot", "I", false)
  | 6 => ("EvenSwitch$Cell", "time", "J", false)
  | _ => ("EvenSwitch$Cell", "next", "LEvenSwitch$Cell;", false)
def t_Ce : Nat → FieldType := fun k => match k with
  | 0 => .int
  | 1 => .int
  | 2 => .int
  | 3 => .int
  | 4 => .long
  | 5 => .int
  | 6 => .long
  | _ => .object "EvenSwitch$Cell"
theorem n_Ce : ∀ a, a < 8 → ∀ b, b < 8 → a ≠ b → (F_Ce a).2.1 ≠ (F_Ce b).2.1 := by decide +kernel
theorem t_Ce_ok : ∀ k, k < 8 → parseFieldDescriptor (F_Ce k).2.2.1 = some (t_Ce k) := by decide +kernel
def R_In : String := "EvenSwitch$Input"
def F_In : u_T := fun k => match k with
  | 0 => ("EvenSwitch$Input", "offered", "LEvenSwitch$Cell;", false)
  | _ => ("EvenSwitch$Input", "held", "I", false)
def t_In : Nat → FieldType := fun k => match k with
  | 0 => .object "EvenSwitch$Cell"
  | _ => .int
theorem n_In : ∀ a, a < 2 → ∀ b, b < 2 → a ≠ b → (F_In a).2.1 ≠ (F_In b).2.1 := by decide +kernel
theorem t_In_ok : ∀ k, k < 2 → parseFieldDescriptor (F_In k).2.2.1 = some (t_In k) := by decide +kernel
def R_Ou : String := "EvenSwitch$Output"
def F_Ou : u_T := fun k => match k with
  | 0 => ("EvenSwitch$Output", "kind", "I", false)
  | 1 => ("EvenSwitch$Output", "steps", "[I", true)
  | 2 => ("EvenSwitch$Output", "lastTimes", "[J", true)
  | 3 => ("EvenSwitch$Output", "head", "LEvenSwitch$Cell;", false)
  | 4 => ("EvenSwitch$Output", "length", "I", false)
  | _ => ("EvenSwitch$Output", "latest", "LEvenSwitch$Cell;", false)
def t_Ou : Nat → FieldType := fun k => match k with
  | 0 => .int
  | 1 => .array .int
  | 2 => .array .long
  | 3 => .object "EvenSwitch$Cell"
  | 4 => .int
  | _ => .object "EvenSwitch$Cell"
theorem n_Ou : ∀ a, a < 6 → ∀ b, b < 6 → a ≠ b → (F_Ou a).2.1 ≠ (F_Ou b).2.1 := by decide +kernel
theorem t_Ou_ok : ∀ k, k < 6 → parseFieldDescriptor (F_Ou k).2.2.1 = some (t_Ou k) := by decide +kernel
def R_Sw : String := "EvenSwitch"
def F_Sw : u_T := fun k => match k with
  | 0 => ("EvenSwitch", "inputs", "[LEvenSwitch$Input;", true)
  | 1 => ("EvenSwitch", "outputs", "[LEvenSwitch$Output;", true)
  | 2 => ("EvenSwitch", "slotNumber", "I", false)
  | _ => ("EvenSwitch", "acceptedCells", "J", false)
def t_Sw : Nat → FieldType := fun k => match k with
  | 0 => .array (.object "EvenSwitch$Input")
  | 1 => .array (.object "EvenSwitch$Output")
  | 2 => .int
  | _ => .long
theorem n_Sw : ∀ a, a < 4 → ∀ b, b < 4 → a ≠ b → (F_Sw a).2.1 ≠ (F_Sw b).2.1 := by decide +kernel
theorem t_Sw_ok : ∀ k, k < 4 → parseFieldDescriptor (F_Sw k).2.2.1 = some (t_Sw k) := by decide +kernel
def R_Md : String := "EvenSwitchModel"
def F_Md : u_T := fun k => match k with
  | 0 => ("EvenSwitchModel", "thrown", "I", false)
  | 1 => ("EvenSwitchModel", "many", "[I", true)
  | 2 => ("EvenSwitchModel", "inputs", "[I", true)
  | 3 => ("EvenSwitchModel", "classes", "[I", true)
  | 4 => ("EvenSwitchModel", "tags", "[I", true)
  | 5 => ("EvenSwitchModel", "times", "[J", true)
  | 6 => ("EvenSwitchModel", "came", "[I", true)
  | 7 => ("EvenSwitchModel", "accepted", "[I", true)
  | 8 => ("EvenSwitchModel", "kinds", "[I", true)
  | 9 => ("EvenSwitchModel", "weights", "[I", true)
  | 10 => ("EvenSwitchModel", "lastTimes", "[J", true)
  | 11 => ("EvenSwitchModel", "offeredTo", "[I", true)
  | 12 => ("EvenSwitchModel", "offeredClass", "[I", true)
  | 13 => ("EvenSwitchModel", "offeredTag", "[I", true)
  | 14 => ("EvenSwitchModel", "offeredAs", "[I", true)
  | 15 => ("EvenSwitchModel", "offers", "I", false)
  | 16 => ("EvenSwitchModel", "slots", "I", false)
  | 17 => ("EvenSwitchModel", "sentInput", "[I", true)
  | 18 => ("EvenSwitchModel", "sentTag", "[I", true)
  | _ => ("EvenSwitchModel", "sentWait", "[I", true)
def t_Md : Nat → FieldType := fun k => match k with
  | 0 => .int
  | 1 => .array .int
  | 2 => .array .int
  | 3 => .array .int
  | 4 => .array .int
  | 5 => .array .long
  | 6 => .array .int
  | 7 => .array .int
  | 8 => .array .int
  | 9 => .array .int
  | 10 => .array .long
  | 11 => .array .int
  | 12 => .array .int
  | 13 => .array .int
  | 14 => .array .int
  | 15 => .int
  | 16 => .int
  | 17 => .array .int
  | 18 => .array .int
  | _ => .array .int
theorem n_Md : ∀ a, a < 20 → ∀ b, b < 20 → a ≠ b → (F_Md a).2.1 ≠ (F_Md b).2.1 := by decide +kernel
theorem t_Md_ok : ∀ k, k < 20 → parseFieldDescriptor (F_Md k).2.2.1 = some (t_Md k) := by decide +kernel
def R_Ar : String := "java/util/Arrays"
abbrev ix_ce : Nat := 0
abbrev ix_in : Nat := 1
abbrev ix_ou : Nat := 2
abbrev ix_sw : Nat := 3
abbrev ix_md : Nat := 4
abbrev classes : List vw_C := [(R_Ce, F_Ce, 8), (R_In, F_In, 2), (R_Ou, F_Ou, 6), (R_Sw, F_Sw, 4), (R_Md, F_Md, 20)]
abbrev b_Sw_init : ByteArray := prog_1_method_1_code
def y_Sw_init : MethodName := ⟨R_Sw, "<init>", "()V"⟩
abbrev b_In_init : ByteArray := prog_3_method_1_code
def y_In_init : MethodName := ⟨R_In, "<init>", "()V"⟩
abbrev b_Ou_init : ByteArray := prog_4_method_1_code
def y_Ou_init : MethodName := ⟨R_Ou, "<init>", "()V"⟩
abbrev b_Ar_fill_i : ByteArray := prog_8_method_103_code
def y_Ar_fill_i : MethodName := ⟨R_Ar, "fill", "([II)V"⟩
abbrev b_Sw_setOrder : ByteArray := prog_1_method_2_code
def y_Sw_setOrder : MethodName := ⟨R_Sw, "setOrder", "(II)Z"⟩
abbrev b_Sw_isPort : ByteArray := prog_1_method_17_code
def y_Sw_isPort : MethodName := ⟨R_Sw, "isPort", "(I)Z"⟩
abbrev b_Sw_isOfferedFor : ByteArray := prog_1_method_19_code
def y_Sw_isOfferedFor : MethodName := ⟨R_Sw, "isOfferedFor", "(I)Z"⟩
abbrev b_Sw_setWeight : ByteArray := prog_1_method_3_code
def y_Sw_setWeight : MethodName := ⟨R_Sw, "setWeight", "(III)Z"⟩
abbrev b_Sw_isClass : ByteArray := prog_1_method_18_code
def y_Sw_isClass : MethodName := ⟨R_Sw, "isClass", "(I)Z"⟩
abbrev b_Sw_offer : ByteArray := prog_1_method_4_code
def y_Sw_offer : MethodName := ⟨R_Sw, "offer", "(IIII)Z"⟩
abbrev b_Ce_init : ByteArray := prog_2_method_1_code
def y_Ce_init : MethodName := ⟨R_Ce, "<init>", "(IIIIJ)V"⟩
abbrev b_Sw_slot : ByteArray := prog_1_method_5_code
def y_Sw_slot : MethodName := ⟨R_Sw, "slot", "()I"⟩
abbrev b_Sw_takeOfferedCells : ByteArray := prog_1_method_20_code
def y_Sw_takeOfferedCells : MethodName := ⟨R_Sw, "takeOfferedCells", "()V"⟩
abbrev b_Ou_takeIn : ByteArray := prog_4_method_2_code
def y_Ou_takeIn : MethodName := ⟨R_Ou, String.ofList ['a', 'd', 'm', 'i', 't'], "(LEvenSwitch$Cell;I)V"⟩
abbrev b_Ou_stamp : ByteArray := prog_4_method_3_code
def y_Ou_stamp : MethodName := ⟨R_Ou, "stamp", "(LEvenSwitch$Cell;I)V"⟩
abbrev b_Ou_putInOrder : ByteArray := prog_4_method_4_code
def y_Ou_putInOrder : MethodName := ⟨R_Ou, "putInOrder", "(LEvenSwitch$Cell;)V"⟩
abbrev b_Ou_isBefore : ByteArray := prog_4_method_5_code
def y_Ou_isBefore : MethodName := ⟨R_Ou, "isBefore", "(LEvenSwitch$Cell;LEvenSwitch$Cell;)Z"⟩
abbrev b_Sw_sendFirstCells : ByteArray := prog_1_method_21_code
def y_Sw_sendFirstCells : MethodName := ⟨R_Sw, "sendFirstCells", "()I"⟩
abbrev b_Ou_sendHead : ByteArray := prog_4_method_6_code
def y_Ou_sendHead : MethodName := ⟨R_Ou, "sendHead", "()LEvenSwitch$Cell;"⟩
abbrev b_Ou_forgetTimes : ByteArray := prog_4_method_8_code
def y_Ou_forgetTimes : MethodName := ⟨R_Ou, "forgetTimes", "()V"⟩
abbrev b_Ar_fill_l : ByteArray := prog_8_method_101_code
def y_Ar_fill_l : MethodName := ⟨R_Ar, "fill", "([JJ)V"⟩
abbrev b_Sw_slots : ByteArray := prog_1_method_6_code
def y_Sw_slots : MethodName := ⟨R_Sw, "slots", "()I"⟩
abbrev b_Sw_hasSent : ByteArray := prog_1_method_7_code
def y_Sw_hasSent : MethodName := ⟨R_Sw, "hasSent", "(I)Z"⟩
abbrev b_Sw_latestSent : ByteArray := prog_1_method_22_code
def y_Sw_latestSent : MethodName := ⟨R_Sw, "latestSent", "(I)LEvenSwitch$Cell;"⟩
abbrev b_Sw_sent : ByteArray := prog_1_method_8_code
def y_Sw_sent : MethodName := ⟨R_Sw, "sent", "(I)I"⟩
abbrev b_Sw_sentFrom : ByteArray := prog_1_method_9_code
def y_Sw_sentFrom : MethodName := ⟨R_Sw, "sentFrom", "(I)I"⟩
abbrev b_Sw_waited : ByteArray := prog_1_method_10_code
def y_Sw_waited : MethodName := ⟨R_Sw, "waited", "(I)I"⟩
abbrev b_Sw_inside : ByteArray := prog_1_method_11_code
def y_Sw_inside : MethodName := ⟨R_Sw, "inside", "(I)I"⟩
abbrev b_Sw_waiting : ByteArray := prog_1_method_12_code
def y_Sw_waiting : MethodName := ⟨R_Sw, "waiting", "(I)I"⟩
abbrev b_Sw_first : ByteArray := prog_1_method_13_code
def y_Sw_first : MethodName := ⟨R_Sw, "first", "(II)I"⟩
abbrev b_Sw_cellInOrder : ByteArray := prog_1_method_23_code
def y_Sw_cellInOrder : MethodName := ⟨R_Sw, "cellInOrder", "(II)LEvenSwitch$Cell;"⟩
abbrev b_Sw_time : ByteArray := prog_1_method_14_code
def y_Sw_time : MethodName := ⟨R_Sw, "time", "(II)J"⟩
abbrev b_Sw_leaves : ByteArray := prog_1_method_15_code
def y_Sw_leaves : MethodName := ⟨R_Sw, "leaves", "(I)I"⟩
abbrev b_Sw_reset : ByteArray := prog_1_method_16_code
def y_Sw_reset : MethodName := ⟨R_Sw, "reset", "()V"⟩
abbrev b_In_dropCells : ByteArray := prog_3_method_2_code
def y_In_dropCells : MethodName := ⟨R_In, "dropCells", "()V"⟩
abbrev b_Ou_dropCells : ByteArray := prog_4_method_7_code
def y_Ou_dropCells : MethodName := ⟨R_Ou, "dropCells", "()V"⟩
abbrev b_Md_init : ByteArray := prog_6_method_1_code
def y_Md_init : MethodName := ⟨R_Md, "<init>", "()V"⟩
abbrev b_Md_empty : ByteArray := prog_6_method_3_code
def y_Md_empty : MethodName := ⟨R_Md, "empty", "()V"⟩
abbrev b_Md_setOrder : ByteArray := prog_6_method_6_code
def y_Md_setOrder : MethodName := ⟨R_Md, "setOrder", "(II)Z"⟩
abbrev b_Md_isOne : ByteArray := prog_6_method_4_code
def y_Md_isOne : MethodName := ⟨R_Md, "isOne", "(I)Z"⟩
abbrev b_Md_isWanted : ByteArray := prog_6_method_5_code
def y_Md_isWanted : MethodName := ⟨R_Md, "isWanted", "(I)Z"⟩
abbrev b_Md_setWeight : ByteArray := prog_6_method_7_code
def y_Md_setWeight : MethodName := ⟨R_Md, "setWeight", "(III)Z"⟩
abbrev b_Md_offer : ByteArray := prog_6_method_9_code
def y_Md_offer : MethodName := ⟨R_Md, "offer", "(IIII)Z"⟩
abbrev b_Md_insideOf : ByteArray := prog_6_method_8_code
def y_Md_insideOf : MethodName := ⟨R_Md, "insideOf", "(I)I"⟩
abbrev b_Md_slot : ByteArray := prog_6_method_15_code
def y_Md_slot : MethodName := ⟨R_Md, "slot", "()I"⟩
abbrev b_Md_come : ByteArray := prog_6_method_13_code
def y_Md_come : MethodName := ⟨R_Md, "come", "(I)V"⟩
abbrev b_Md_timeOf : ByteArray := prog_6_method_11_code
def y_Md_timeOf : MethodName := ⟨R_Md, "timeOf", "(II)J"⟩
abbrev b_Md_isBehind : ByteArray := prog_6_method_12_code
def y_Md_isBehind : MethodName := ⟨R_Md, "isBehind", "(IIIJ)Z"⟩
abbrev b_Md_copy : ByteArray := prog_6_method_10_code
def y_Md_copy : MethodName := ⟨R_Md, "copy", "(II)V"⟩
abbrev b_Md_send : ByteArray := prog_6_method_14_code
def y_Md_send : MethodName := ⟨R_Md, "send", "(I)I"⟩
abbrev b_Md_slots : ByteArray := prog_6_method_16_code
def y_Md_slots : MethodName := ⟨R_Md, "slots", "()I"⟩
abbrev b_Md_hasSent : ByteArray := prog_6_method_18_code
def y_Md_hasSent : MethodName := ⟨R_Md, "hasSent", "(I)Z"⟩
abbrev b_Md_sentOne : ByteArray := prog_6_method_17_code
def y_Md_sentOne : MethodName := ⟨R_Md, "sentOne", "(I)Z"⟩
abbrev b_Md_sent : ByteArray := prog_6_method_19_code
def y_Md_sent : MethodName := ⟨R_Md, "sent", "(I)I"⟩
abbrev b_Md_sentFrom : ByteArray := prog_6_method_20_code
def y_Md_sentFrom : MethodName := ⟨R_Md, "sentFrom", "(I)I"⟩
abbrev b_Md_waited : ByteArray := prog_6_method_21_code
def y_Md_waited : MethodName := ⟨R_Md, "waited", "(I)I"⟩
abbrev b_Md_inside : ByteArray := prog_6_method_22_code
def y_Md_inside : MethodName := ⟨R_Md, "inside", "(I)I"⟩
abbrev b_Md_waiting : ByteArray := prog_6_method_23_code
def y_Md_waiting : MethodName := ⟨R_Md, "waiting", "(I)I"⟩
abbrev b_Md_first : ByteArray := prog_6_method_25_code
def y_Md_first : MethodName := ⟨R_Md, "first", "(II)I"⟩
abbrev b_Md_isCell : ByteArray := prog_6_method_24_code
def y_Md_isCell : MethodName := ⟨R_Md, "isCell", "(II)Z"⟩
abbrev b_Md_time : ByteArray := prog_6_method_26_code
def y_Md_time : MethodName := ⟨R_Md, "time", "(II)J"⟩
abbrev b_Md_leaves : ByteArray := prog_6_method_27_code
def y_Md_leaves : MethodName := ⟨R_Md, "leaves", "(I)I"⟩
abbrev b_Md_reset : ByteArray := prog_6_method_28_code
def y_Md_reset : MethodName := ⟨R_Md, "reset", "()V"⟩
end
section
/-! One list of words for every method: what of the tables' words keeps. -/
def wd_T : List Cond := lw_tbl.filter goodWord
abbrev wd_c (y : MethodName) (b : ByteArray) (n : Nat) (r : Option FieldType) : List Cond := Cond.code y b n r :: wd_T
theorem wd_in {w : Cond} (h : w ∈ lw_tbl) (hg : goodWord w = true) : w ∈ wd_T := List.mem_filter.mpr ⟨h, hg⟩
theorem wd_out {w : Cond} (h : w ∈ wd_T) : w ∈ lw_tbl := (List.mem_filter.mp h).1
theorem wd_good {y : MethodName} {b : ByteArray} {n : Nat} {r : Option FieldType} (hc : Cond.code y b n r ∈ wd_T) : GoodIn wd_T (wd_c y b n r) := by
  intro w hw
  have h : w ∈ wd_T := by
    rcases List.mem_cons.mp hw with h | h
    · rw [h]; exact hc
    · exact h
  exact ⟨h, good_of_word (List.mem_filter.mp h).2⟩
end
section
/-! A LOGICAL HEAP: M maps an address to its cell; hp_H says that the heap holds M, and nothing of M lies below B. Every row of the kit over a list of cells becomes a row over M. -/
def hp_ub (B : Nat) : Nat → Prop := fun q => B ≤ q
abbrev hp_M : Type := Nat → Option va_E
/-- the array classes: int[], long[], Input[], Output[] -/
abbrev hp_T (D : va_G) : List (ClassId × FieldType) := [(D.1 10, .int), (D.1 11, .long), (D.1 12, .object "EvenSwitch$Input"), (D.1 13, .object "EvenSwitch$Output")]
abbrev hp_ai (D : va_G) (n : Nat) (f : Nat → Int32) : va_E := .inl (D.1 10, n, .inl f)
abbrev hp_al (D : va_G) (n : Nat) (f : Nat → Int64) : va_E := .inl (D.1 11, n, .inr (.inl f))
abbrev hp_aq (D : va_G) (k n : Nat) (f : Nat → Option Nat) : va_E := .inl (D.1 k, n, .inr (.inr (.inr (.inr f))))
abbrev hp_ob (ci : Nat) (fs : List Value) : va_E := .inr (ci, fs)
def hp_L (M : hp_M) (ws : va_W) : Prop := ∀ (a : Nat) (e : va_E), M a = some e ↔ ∃ k : Nat, ws[k]? = some (a, e)
def hp_H (D : va_G) (B : Nat) (M : hp_M) (H : Heap) : Prop := B ≤ H.size ∧ ∃ ws : va_W, va_P D classes ws H ∧ va_D (hp_ub B) ws ∧ hp_L M ws
def hp_C (D : va_G) (B : Nat) (M : hp_M) (U : State) : Prop := hp_H D B M U.heap ∧ va_K D classes (hp_T D) U
theorem hp_set {M : hp_M} {ws : va_W} {A : Nat → Prop} {k a : Nat} {e0 : va_E} (hL : hp_L M ws) (hD : va_D A ws) (hk : ws[k]? = some (a, e0)) (e1 : va_E) : hp_L (va_up M a (some e1)) (ws.set k (a, e1)) := by
  have hlt : k < ws.length := (List.getElem?_eq_some_iff.mp hk).1
  intro b x
  by_cases hb : b = a
  · subst hb
    rw [va_up_self]
    constructor
    · intro h
      cases h
      exact ⟨k, List.getElem?_set_self hlt⟩
    · rintro ⟨j, hj⟩
      by_cases hjk : j = k
      · subst hjk
        rw [List.getElem?_set_self hlt] at hj
        cases hj
        rfl
      · rw [List.getElem?_set_ne (Ne.symm hjk)] at hj
        exact absurd (hD.1 _ _ _ _ hj hk rfl) hjk
  · rw [va_up_ne _ _ hb, hL b x]
    constructor
    · rintro ⟨j, hj⟩
      have hjk : j ≠ k := by
        rintro rfl
        rw [hk] at hj
        cases hj
        exact hb rfl
      exact ⟨j, by rw [List.getElem?_set_ne (Ne.symm hjk)]; exact hj⟩
    · rintro ⟨j, hj⟩
      have hjk : j ≠ k := by
        rintro rfl
        rw [List.getElem?_set_self hlt] at hj
        cases hj
        exact hb rfl
      rw [List.getElem?_set_ne (Ne.symm hjk)] at hj
      exact ⟨j, hj⟩
theorem hp_push {M : hp_M} {ws : va_W} {A : Nat → Prop} {q : Nat} {e1 : va_E} (hL : hp_L M ws) (hD : va_D A (ws ++ [(q, e1)])) : M q = none ∧ hp_L (va_up M q (some e1)) (ws ++ [(q, e1)]) := by
  have hlast : (ws ++ [(q, e1)])[ws.length]? = some (q, e1) := by simp
  have hold : ∀ (j : Nat) (x : Nat × va_E), ws[j]? = some x → (ws ++ [(q, e1)])[j]? = some x := fun j x h => by
    rw [List.getElem?_append_left (List.getElem?_eq_some_iff.mp h).1]; exact h
  have hne : ∀ (j : Nat) (x : Nat × va_E), ws[j]? = some x → x.1 ≠ q := fun j x h e => by
    have h1 := hD.1 _ _ _ _ (hold j x h) hlast e
    have h2 := (List.getElem?_eq_some_iff.mp h).1
    omega
  refine ⟨?_, fun b x => ?_⟩
  · cases hM : M q with
    | none => rfl
    | some x =>
      obtain ⟨j, hj⟩ := (hL q x).mp hM
      exact absurd rfl (hne j _ hj)
  · by_cases hb : b = q
    · subst hb
      rw [va_up_self]
      constructor
      · intro h
        cases h
        exact ⟨_, hlast⟩
      · rintro ⟨j, hj⟩
        by_cases hl : j < ws.length
        · rw [List.getElem?_append_left hl] at hj
          exact absurd rfl (hne j _ hj)
        · rw [List.getElem?_append_right (by omega)] at hj
          have hz : j - ws.length < 1 := (List.getElem?_eq_some_iff.mp hj).1
          rw [show j - ws.length = 0 by omega] at hj
          cases hj
          rfl
    · rw [va_up_ne _ _ hb, hL b x]
      constructor
      · rintro ⟨j, hj⟩
        exact ⟨j, hold j _ hj⟩
      · rintro ⟨j, hj⟩
        by_cases hl : j < ws.length
        · rw [List.getElem?_append_left hl] at hj
          exact ⟨j, hj⟩
        · rw [List.getElem?_append_right (by omega)] at hj
          have hz : j - ws.length < 1 := (List.getElem?_eq_some_iff.mp hj).1
          rw [show j - ws.length = 0 by omega] at hj
          cases hj
          exact absurd rfl hb
theorem hp_recv {D : va_G} {B : Nat} {M : hp_M} {H : Heap} {s : State} {tys : List (ClassId × FieldType)} {a ci : Nat} {q : vw_C} {fs : List Value} (hK : va_K D classes tys s) (hH : hp_H D B M H) (ha : M a = some (.inr (ci, fs))) (hc : classes[ci]? = some q) : ∃ cell : Cell, H[a]? = some cell ∧ cell.vm.isStatics = false ∧ s.vm.findClass q.1 = some cell.cls := by
  obtain ⟨-, ws, hP, hD, hL⟩ := hH
  obtain ⟨k, hk⟩ := (hL a _).mp ha
  exact va_recv hK hP hc hk
theorem hp_blind {D : va_G} {B : Nat} {M : hp_M} {av : List Value} : FrameBlind (va_Pc av (hp_C D B M)) := fun a U g mk q => ⟨q.1, q.2.1, va_K.moved (u := U) (U := U.calling g mk a) (Vm.Alike.refl U.vm) q.2.2⟩
theorem hp_pre {D : va_G} {B : Nat} {M : hp_M} {H : Heap} {s : State} {av : List Value} (hH : hp_H D B M H) (hK : va_K D classes (hp_T D) s) : ∀ U : State, U.heap = H → s.WarmedH U.vm → va_Pc av (hp_C D B M) av.toArray U := fun U hU hW => ⟨rfl, by rw [hU]; exact hH, va_K.moved hW.alike hK⟩
section HK
variable {p : Program} {l : Launch} {e : Env} {R : Room} {s : State} {m : MethodId} {args : Array Value} {below : List Frame} {meth : Method} {c : Code} {H : Heap} {locs : List Loc} {cells slots : Nat} {Q : State → Prop}
variable {cc : ByteArray} {pc : Nat} {ls : Array Slot} {rest : List Value} {D : va_G} {B a : Nat} {M : hp_M} {tys : List (ClassId × FieldType)} {H0 : Heap}
theorem hp_get (hexec : p.tables.exec = Jvm.exec) (hb : c.code = cc) {own C : String} {T : u_T} {N ci index : Nat} {Ts : List Cond} (hts : ∀ w ∈ Ts, w.before args s = true) (hin : ∀ w ∈ u_ws C T N, w ∈ Ts) (hown : s.vm.findClass own = some m.cls) (hK : va_K D classes tys s) (hH : hp_H D B M H) {fs : List Value} (ha : M a = some (.inr (ci, fs))) (hc : classes[ci]? = some (C, T, N)) (k : Nat) (hk : k < N) (hlink : (Cond.fieldLink own index (T k).1 (T k).2.1 (T k).2.2.1).before args s = true) {v : Value} (hv : fs[k]? = some v) (hdg : decode cc pc = .ok (.getfield index, 3))
    (kk : W p l e R s m args below meth c H locs cells slots Q (F0 m (pc + 3) ls (v :: rest))) : W p l e R s m args below meth c H locs cells slots Q (F0 m pc ls (.ref a :: rest)) := by
  obtain ⟨-, ws, hP, hD, hL⟩ := hH
  obtain ⟨q0, hq⟩ := (hL a _).mp ha
  exact va_get hexec hb hts hin hown hK hP q0 hq hc k hk hlink (fun _ h => h) hv hdg kk
theorem hp_put (hexec : p.tables.exec = Jvm.exec) (hb : c.code = cc) {own C : String} {T : u_T} {N ci index : Nat} {Ts : List Cond} (hts : ∀ w ∈ Ts, w.before args s = true) (hin : ∀ w ∈ u_ws C T N, w ∈ Ts) (ty0 : Nat → FieldType) (hty : ∀ k, k < N → parseFieldDescriptor (T k).2.2.1 = some (ty0 k)) (hnm : ∀ a, a < N → ∀ b, b < N → a ≠ b → (T a).2.1 ≠ (T b).2.1) (hown : s.vm.findClass own = some m.cls) (hK : va_K D classes tys s) (hH : hp_H D B M H) (hS : va_S (hp_ub B) s.heap H locs) (hB : B ≤ s.heap.size) {fs fs' : List Value} (ha : M a = some (.inr (ci, fs))) (hc : classes[ci]? = some (C, T, N)) (k : Nat) (hk : k < N) (hlink : (Cond.fieldLink own index (T k).1 (T k).2.1 (T k).2.2.1).before args s = true) (hfin : (T k).2.2.2 = false) {v : Value} (hn : narrow (ty0 k) v = v) (hfit : fits (ty0 k) v = true) (hl : k < fs.length) (hfs : fs.set k v = fs')
    (hdg : decode cc pc = .ok (.putfield index, 3)) (kk : ∀ (M1 : hp_M) (H1 : Heap) (locs1 : List Loc), M1 = va_up M a (some (.inr (ci, fs'))) → hp_H D B M1 H1 → va_S (hp_ub B) s.heap H1 locs1 → W p l e R s m args below meth c H1 locs1 cells slots Q (F0 m (pc + 3) ls rest)) : W p l e R s m args below meth c H locs cells slots Q (F0 m pc ls (v :: .ref a :: rest)) := by
  obtain ⟨-, ws, hP, hD, hL⟩ := hH
  obtain ⟨q0, hq⟩ := (hL a _).mp ha
  refine va_put hexec hb hts hin ty0 hty hnm hown hK hP hD hS q0 hq hc k hk hlink (fun _ h => h) hfin (hty k hk) hn hfit hl hdg (fun H1 locs1 hP1 hD1 hS1 => ?_)
  subst hfs
  exact kk _ H1 locs1 rfl ⟨Nat.le_trans hB hS1.1, _, hP1, hD1, hp_set hL hD hq _⟩ hS1
theorem hp_putF (hexec : p.tables.exec = Jvm.exec) (hb : c.code = cc) {own C : String} {T : u_T} {N ci index : Nat} {Ts : List Cond} (hts : ∀ w ∈ Ts, w.before args s = true) (hin : ∀ w ∈ u_ws C T N, w ∈ Ts) (ty0 : Nat → FieldType) (hty : ∀ k, k < N → parseFieldDescriptor (T k).2.2.1 = some (ty0 k)) (hnm : ∀ a, a < N → ∀ b, b < N → a ≠ b → (T a).2.1 ≠ (T b).2.1) (hown : s.vm.findClass own = some m.cls) (hK : va_K D classes tys s) (hH : hp_H D B M H) (hS : va_S (hp_ub B) s.heap H locs) (hB : B ≤ s.heap.size) {fs fs' : List Value} (ha : M a = some (.inr (ci, fs))) (hc : classes[ci]? = some (C, T, N)) (k : Nat) (hk : k < N) (hlink : (Cond.fieldLink own index (T k).1 (T k).2.1 (T k).2.2.1).before args s = true) (hfin : (T k).2.2.2 = true) (hin2 : meth.name = "<init>") (hdecl : (T k).1 = own) {v : Value} (hn : narrow (ty0 k) v = v) (hfit : fits (ty0 k) v = true) (hl : k < fs.length) (hfs : fs.set k v = fs')
    (hdg : decode cc pc = .ok (.putfield index, 3)) (kk : ∀ (M1 : hp_M) (H1 : Heap) (locs1 : List Loc), M1 = va_up M a (some (.inr (ci, fs'))) → hp_H D B M1 H1 → va_S (hp_ub B) s.heap H1 locs1 → W p l e R s m args below meth c H1 locs1 cells slots Q (F0 m (pc + 3) ls rest)) : W p l e R s m args below meth c H locs cells slots Q (F0 m pc ls (v :: .ref a :: rest)) := by
  obtain ⟨-, ws, hP, hD, hL⟩ := hH
  obtain ⟨q0, hq⟩ := (hL a _).mp ha
  refine va_putF hexec hb hts hin ty0 hty hnm hown hK hP hD hS q0 hq hc k hk hlink (fun _ h => h) hfin hin2 hdecl (hty k hk) hn hfit hl hdg (fun H1 locs1 hP1 hD1 hS1 => ?_)
  subst hfs
  exact kk _ H1 locs1 rfl ⟨Nat.le_trans hB hS1.1, _, hP1, hD1, hp_set hL hD hq _⟩ hS1
theorem hp_iald (hexec : p.tables.exec = Jvm.exec) (hb : c.code = cc) (hK : va_K D classes (hp_T D) s) (hH : hp_H D B M H) {n : Nat} {f : Nat → Int32} (ha : M a = some (hp_ai D n f)) {i v : Int32} (k : Nat) (hi : i = nI k) (hk : k < n) (hn : n < 2 ^ 31) (hv : f k = v) (hdg : decode cc pc = .ok (.iaload, 1))
    (kk : W p l e R s m args below meth c H locs cells slots Q (F0 m (pc + 1) ls (.int v :: rest))) : W p l e R s m args below meth c H locs cells slots Q (F0 m pc ls (.int i :: .ref a :: rest)) := by
  obtain ⟨-, ws, hP, hD, hL⟩ := hH
  obtain ⟨q0, hq⟩ := (hL a _).mp ha
  subst hi
  refine va_iald hexec hb hK hP q0 0 hq rfl (vp_in_nI hk hn) hdg ?_
  rw [nI_clamp (by omega), hv]
  exact kk
theorem hp_lald (hexec : p.tables.exec = Jvm.exec) (hb : c.code = cc) (hK : va_K D classes (hp_T D) s) (hH : hp_H D B M H) {n : Nat} {f : Nat → Int64} (ha : M a = some (hp_al D n f)) {i : Int32} {v : Int64} (k : Nat) (hi : i = nI k) (hk : k < n) (hn : n < 2 ^ 31) (hv : f k = v) (hdg : decode cc pc = .ok (.laload, 1))
    (kk : W p l e R s m args below meth c H locs cells slots Q (F0 m (pc + 1) ls (.long v :: rest))) : W p l e R s m args below meth c H locs cells slots Q (F0 m pc ls (.int i :: .ref a :: rest)) := by
  obtain ⟨-, ws, hP, hD, hL⟩ := hH
  obtain ⟨q0, hq⟩ := (hL a _).mp ha
  subst hi
  refine va_lald hexec hb hK hP q0 1 hq rfl (vp_in_nI hk hn) hdg ?_
  rw [nI_clamp (by omega), hv]
  exact kk
theorem hp_aald (hexec : p.tables.exec = Jvm.exec) (hb : c.code = cc) (hK : va_K D classes (hp_T D) s) (hH : hp_H D B M H) {ck n x : Nat} {C : String} {f : Nat → Option Nat} (ha : M a = some (hp_aq D ck n f)) (t0 : Nat) (ht : (hp_T D)[t0]? = some (D.1 ck, .object C)) {i : Int32} (k : Nat) (hi : i = nI k) (hk : k < n) (hn : n < 2 ^ 31) (hv : f k = some x) (hdg : decode cc pc = .ok (.aaload, 1))
    (kk : W p l e R s m args below meth c H locs cells slots Q (F0 m (pc + 1) ls (.ref x :: rest))) : W p l e R s m args below meth c H locs cells slots Q (F0 m pc ls (.int i :: .ref a :: rest)) := by
  obtain ⟨-, ws, hP, hD, hL⟩ := hH
  obtain ⟨q0, hq⟩ := (hL a _).mp ha
  subst hi
  refine va_aldq hexec hb hK hP q0 t0 hq ht (vp_in_nI hk hn) hdg ?_
  rw [nI_clamp (by omega), hv]
  exact kk
theorem hp_iast (hexec : p.tables.exec = Jvm.exec) (hb : c.code = cc) (hK : va_K D classes (hp_T D) s) (hH : hp_H D B M H) (hS : va_S (hp_ub B) s.heap H locs) (hB : B ≤ s.heap.size) {n : Nat} {f : Nat → Int32} (ha : M a = some (hp_ai D n f)) {i x : Int32} (k : Nat) (hi : i = nI k) (hk : k < n) (hn : n < 2 ^ 31) (hdg : decode cc pc = .ok (.iastore, 1))
    (kk : ∀ (M1 : hp_M) (H1 : Heap) (locs1 : List Loc), M1 = va_up M a (some (hp_ai D n (upd f k x))) → hp_H D B M1 H1 → va_S (hp_ub B) s.heap H1 locs1 → W p l e R s m args below meth c H1 locs1 cells slots Q (F0 m (pc + 1) ls rest)) : W p l e R s m args below meth c H locs cells slots Q (F0 m pc ls (.int x :: .int i :: .ref a :: rest)) := by
  obtain ⟨-, ws, hP, hD, hL⟩ := hH
  obtain ⟨q0, hq⟩ := (hL a _).mp ha
  subst hi
  refine va_iast hexec hb hK hP hD hS q0 0 hq rfl (vp_in_nI hk hn) hdg (fun H1 locs1 hP1 hD1 hS1 => ?_)
  rw [nI_clamp (by omega)] at hP1 hD1
  exact kk _ H1 locs1 rfl ⟨Nat.le_trans hB hS1.1, _, hP1, hD1, hp_set hL hD hq _⟩ hS1
theorem hp_last (hexec : p.tables.exec = Jvm.exec) (hb : c.code = cc) (hK : va_K D classes (hp_T D) s) (hH : hp_H D B M H) (hS : va_S (hp_ub B) s.heap H locs) (hB : B ≤ s.heap.size) {n : Nat} {f : Nat → Int64} (ha : M a = some (hp_al D n f)) {i : Int32} {x : Int64} (k : Nat) (hi : i = nI k) (hk : k < n) (hn : n < 2 ^ 31) (hdg : decode cc pc = .ok (.lastore, 1))
    (kk : ∀ (M1 : hp_M) (H1 : Heap) (locs1 : List Loc), M1 = va_up M a (some (hp_al D n (vp_updL f k x))) → hp_H D B M1 H1 → va_S (hp_ub B) s.heap H1 locs1 → W p l e R s m args below meth c H1 locs1 cells slots Q (F0 m (pc + 1) ls rest)) : W p l e R s m args below meth c H locs cells slots Q (F0 m pc ls (.long x :: .int i :: .ref a :: rest)) := by
  obtain ⟨-, ws, hP, hD, hL⟩ := hH
  obtain ⟨q0, hq⟩ := (hL a _).mp ha
  subst hi
  refine va_last hexec hb hK hP hD hS q0 1 hq rfl (vp_in_nI hk hn) hdg (fun H1 locs1 hP1 hD1 hS1 => ?_)
  rw [nI_clamp (by omega)] at hP1 hD1
  exact kk _ H1 locs1 rfl ⟨Nat.le_trans hB hS1.1, _, hP1, hD1, hp_set hL hD hq _⟩ hS1
theorem hp_aast (hexec : p.tables.exec = Jvm.exec) (hb : c.code = cc) (hK : va_K D classes (hp_T D) s) (hH : hp_H D B M H) (hS : va_S (hp_ub B) s.heap H locs) (hB : B ≤ s.heap.size) {ck n v ci : Nat} {r : vw_C} {vs : List Value} {f : Nat → Option Nat} (ha : M a = some (hp_aq D ck n f)) (t0 : Nat) (ht : (hp_T D)[t0]? = some (D.1 ck, .object r.1)) (hv : M v = some (.inr (ci, vs))) (hc : classes[ci]? = some r) {i : Int32} (k : Nat) (hi : i = nI k) (hk : k < n) (hn : n < 2 ^ 31) (hdg : decode cc pc = .ok (.aastore, 1))
    (kk : ∀ (M1 : hp_M) (H1 : Heap) (locs1 : List Loc), M1 = va_up M a (some (hp_aq D ck n (va_up f k (some v)))) → hp_H D B M1 H1 → va_S (hp_ub B) s.heap H1 locs1 → W p l e R s m args below meth c H1 locs1 cells slots Q (F0 m (pc + 1) ls rest)) : W p l e R s m args below meth c H locs cells slots Q (F0 m pc ls (.ref v :: .int i :: .ref a :: rest)) := by
  obtain ⟨-, ws, hP, hD, hL⟩ := hH
  obtain ⟨q0, hq⟩ := (hL a _).mp ha
  obtain ⟨qk, hqk⟩ := (hL v _).mp hv
  subst hi
  refine va_astq hexec hb hK hP hD hS q0 t0 qk ci hq ht hqk hc (vp_in_nI hk hn) hdg (fun H1 locs1 hP1 hD1 hS1 => ?_)
  rw [nI_clamp (by omega)] at hP1 hD1
  exact kk _ H1 locs1 rfl ⟨Nat.le_trans hB hS1.1, _, hP1, hD1, hp_set hL hD hq _⟩ hS1
theorem hp_alen (hexec : p.tables.exec = Jvm.exec) (hb : c.code = cc) (hK : va_K D classes (hp_T D) s) (hH : hp_H D B M H) {cA : ClassId} {x : vp_A} (ha : M a = some (.inl (cA, x))) (t0 : Nat) {ty : FieldType} (ht : (hp_T D)[t0]? = some (cA, ty)) (hdg : decode cc pc = .ok (.arraylength, 1))
    (kk : W p l e R s m args below meth c H locs cells slots Q (F0 m (pc + 1) ls (.int (nI x.1) :: rest))) : W p l e R s m args below meth c H locs cells slots Q (F0 m pc ls (.ref a :: rest)) := by
  obtain ⟨-, ws, hP, hD, hL⟩ := hH
  obtain ⟨q0, hq⟩ := (hL a _).mp ha
  exact va_alen hexec hb hK hP q0 t0 hq ht rfl hdg kk
theorem hp_new (hexec : p.tables.exec = Jvm.exec) (hb : c.code = cc) {own C : String} {T : u_T} {N ci index : Nat} {Ts : List Cond} (hts : ∀ w ∈ Ts, w.before args s = true) (hin : ∀ w ∈ u_ws C T N, w ∈ Ts) (ty : Nat → FieldType) (hty : ∀ k, k < N → parseFieldDescriptor (T k).2.2.1 = some (ty k)) (hown : s.vm.findClass own = some m.cls) (hcl : (Cond.classLink own index C).before args s = true) (hinst : (Cond.instantiable C N).before args s = true) (hini : (Cond.initialized C).before args s = true)
    (hK : va_K D classes tys s) (hH : hp_H D B M H) (hS : va_S (hp_ub B) s.heap H locs) (hB : B ≤ s.heap.size) (hc : classes[ci]? = some (C, T, N)) {fs : List Value} (hfs : ∀ j, j < N → defaultValue (ty j) = vp_V fs j) (hcells : cells + 1 ≤ R.cells) (hslots : slots + N ≤ R.slots) (hdg : decode cc pc = .ok (.new index, 3))
    (kk : ∀ (q : Nat) (M1 : hp_M) (H1 : Heap), M q = none → M1 = va_up M q (some (.inr (ci, fs))) → hp_H D B M1 H1 → va_S (hp_ub B) s.heap H1 locs →
      W p l e R s m args below meth c H1 locs (cells + 1) (slots + N) Q (F0 m (pc + 3) ls (.ref q :: rest))) : W p l e R s m args below meth c H locs cells slots Q (F0 m pc ls rest) := by
  obtain ⟨-, ws, hP, hD, hL⟩ := hH
  refine va_new hexec hb hts hin ty hty hown hcl hinst hini hK hP hD hS (fun q h => Nat.le_trans hB h) hc hfs hcells hslots hdg (fun q H1 hP1 hD1 hS1 => ?_)
  obtain ⟨h1, h2⟩ := hp_push hL hD1
  exact kk q _ H1 h1 rfl ⟨Nat.le_trans hB hS1.1, _, hP1, hD1, h2⟩ hS1
theorem hp_newi (hexec : p.tables.exec = Jvm.exec) (hb : c.code = cc) (harr : (Cond.arrayClass .int).before args s = true) (hK : va_K D classes (hp_T D) s) (hH : hp_H D B M H) (hS : va_S (hp_ub B) s.heap H locs) (hB : B ≤ s.heap.size) {n : Int32} (N' : Nat) (hn : n = nI N') (hN : N' * 4 ≤ 536870912) (hcells : cells + 1 ≤ R.cells) (hslots : slots + N' ≤ R.slots) (hdg : decode cc pc = .ok (.newarray .int, 2))
    (kk : ∀ (q : Nat) (M1 : hp_M) (H1 : Heap), M q = none → M1 = va_up M q (some (hp_ai D N' (fun _ => 0))) → hp_H D B M1 H1 → va_S (hp_ub B) s.heap H1 locs →
      W p l e R s m args below meth c H1 locs (cells + 1) (slots + N') Q (F0 m (pc + 2) ls (.ref q :: rest))) : W p l e R s m args below meth c H locs cells slots Q (F0 m pc ls (.int n :: rest)) := by
  obtain ⟨-, ws, hP, hD, hL⟩ := hH
  subst hn
  refine va_newa (atype := .int) (ty := .int) (N' := N') (a0 := (N', .inl (fun _ => 0))) hexec hb harr rfl hK hP hD hS (fun q h => Nat.le_trans hB h) (fun _ => rfl) (nI_pos (by omega)) (nI_clamp (by omega)) hN hcells hslots hdg (fun q cA H1 hK1 hP1 hD1 hS1 => ?_)
  have e1 := va_nm_int (hK.2 0 _ rfl).2
  have e2 := va_nm_int (hK1.2 4 (cA, .int) (by simp)).2
  have e3 : cA = D.1 10 := Option.some.inj (e2.symm.trans e1)
  subst e3
  obtain ⟨h1, h2⟩ := hp_push hL hD1
  exact kk q _ H1 h1 rfl ⟨Nat.le_trans hB hS1.1, _, hP1, hD1, h2⟩ hS1
theorem hp_newl (hexec : p.tables.exec = Jvm.exec) (hb : c.code = cc) (harr : (Cond.arrayClass .long).before args s = true) (hK : va_K D classes (hp_T D) s) (hH : hp_H D B M H) (hS : va_S (hp_ub B) s.heap H locs) (hB : B ≤ s.heap.size) {n : Int32} (N' : Nat) (hn : n = nI N') (hN : N' * 8 ≤ 536870912) (hcells : cells + 1 ≤ R.cells) (hslots : slots + N' ≤ R.slots) (hdg : decode cc pc = .ok (.newarray .long, 2))
    (kk : ∀ (q : Nat) (M1 : hp_M) (H1 : Heap), M q = none → M1 = va_up M q (some (hp_al D N' (fun _ => 0))) → hp_H D B M1 H1 → va_S (hp_ub B) s.heap H1 locs →
      W p l e R s m args below meth c H1 locs (cells + 1) (slots + N') Q (F0 m (pc + 2) ls (.ref q :: rest))) : W p l e R s m args below meth c H locs cells slots Q (F0 m pc ls (.int n :: rest)) := by
  obtain ⟨-, ws, hP, hD, hL⟩ := hH
  subst hn
  refine va_newa (atype := .long) (ty := .long) (N' := N') (a0 := (N', .inr (.inl (fun _ => 0)))) hexec hb harr rfl hK hP hD hS (fun q h => Nat.le_trans hB h) (fun _ => rfl) (nI_pos (by omega)) (nI_clamp (by omega)) hN hcells hslots hdg (fun q cA H1 hK1 hP1 hD1 hS1 => ?_)
  have e1 := va_nm_long (hK.2 1 _ rfl).2
  have e2 := va_nm_long (hK1.2 4 (cA, .long) (by simp)).2
  have e3 : cA = D.1 11 := Option.some.inj (e2.symm.trans e1)
  subst e3
  obtain ⟨h1, h2⟩ := hp_push hL hD1
  exact kk q _ H1 h1 rfl ⟨Nat.le_trans hB hS1.1, _, hP1, hD1, h2⟩ hS1
theorem hp_newq (hexec : p.tables.exec = Jvm.exec) (hb : c.code = cc) {own C : String} {index : Nat} (hown : s.vm.findClass own = some m.cls) (hclink : (Cond.classLink own index C).before args s = true) (hover : va_AO C s) (hK : va_K D classes (hp_T D) s) (hH : hp_H D B M H) (hS : va_S (hp_ub B) s.heap H locs) (hB : B ≤ s.heap.size) (ck t0 : Nat) (ht : (hp_T D)[t0]? = some (D.1 ck, .object C)) {n : Int32} (N' : Nat) (hn : n = nI N') (hN : N' * 4 ≤ 536870912) (hcells : cells + 1 ≤ R.cells) (hslots : slots + N' ≤ R.slots) (hdg : decode cc pc = .ok (.anewarray index, 3))
    (kk : ∀ (q : Nat) (M1 : hp_M) (H1 : Heap), M q = none → M1 = va_up M q (some (hp_aq D ck N' (fun _ => none))) → hp_H D B M1 H1 → va_S (hp_ub B) s.heap H1 locs →
      W p l e R s m args below meth c H1 locs (cells + 1) (slots + N') Q (F0 m (pc + 3) ls (.ref q :: rest))) : W p l e R s m args below meth c H locs cells slots Q (F0 m pc ls (.int n :: rest)) := by
  obtain ⟨-, ws, hP, hD, hL⟩ := hH
  subst hn
  refine va_newq (N' := N') hexec hb hown hclink hover hK hP hD hS (fun q h => Nat.le_trans hB h) (nI_pos (by omega)) (nI_clamp (by omega)) hN hcells hslots hdg (fun q cA H1 hK1 hP1 hD1 hS1 => ?_)
  obtain ⟨_, _, _, _, _, e1⟩ := (hK.2 t0 _ ht).2
  obtain ⟨_, _, _, _, _, e2⟩ := (hK1.2 4 (cA, .object C) (by simp)).2
  have e3 : cA = D.1 ck := Option.some.inj (e2.symm.trans e1)
  subst e3
  obtain ⟨h1, h2⟩ := hp_push hL hD1
  exact kk q _ H1 h1 rfl ⟨Nat.le_trans hB hS1.1, _, hP1, hD1, h2⟩ hS1
/-- a number on top by another name -/
theorem hp_as {x : Value} (v : Value) (h : x = v) (k : W p l e R s m args below meth c H locs cells slots Q (F0 m pc ls (v :: rest))) : W p l e R s m args below meth c H locs cells slots Q (F0 m pc ls (x :: rest)) := h ▸ k
theorem hp_ioi {x v : Int32} (h : x = v) (k : W p l e R s m args below meth c H locs cells slots Q (F0 m pc ls (.int v :: rest))) : W p l e R s m args below meth c H locs cells slots Q (F0 m pc ls (.int x :: rest)) := h ▸ k
theorem hp_lol {x v : Int64} (h : x = v) (k : W p l e R s m args below meth c H locs cells slots Q (F0 m pc ls (.long v :: rest))) : W p l e R s m args below meth c H locs cells slots Q (F0 m pc ls (.long x :: rest)) := h ▸ k
end HK
/-- the kind of a cell: its class's number; 100 and on: arrays -/
def hp_tg (e : va_E) : Nat := match e with
  | .inl (_, _, .inl _) => 100
  | .inl (_, _, .inr (.inl _)) => 101
  | .inl _ => 102
  | .inr o => o.1
theorem hp_ne {M : hp_M} {x y : Nat} {e1 e2 : va_E} (i j : Nat) (h1 : M x = some e1) (h2 : M y = some e2) (t1 : hp_tg e1 = i) (t2 : hp_tg e2 = j) (hij : i ≠ j) : x ≠ y := by
  intro q
  subst q
  rw [h1] at h2
  cases h2
  exact hij (t1.symm.trans t2)
theorem hp_id {M : hp_M} {a : Nat} {e : va_E} (h : M a = some e) : M = va_up M a (some e) := by
  funext x
  by_cases q : x = a
  · subst q; rw [va_up_self]; exact h
  · rw [va_up_ne _ _ q]
theorem hp_uu {M : hp_M} {a : Nat} {e1 e2 : Option va_E} : va_up (va_up M a e1) a e2 = va_up M a e2 := bx_uu _ _ _ _
theorem hp_fr {M : hp_M} {q b : Nat} {e : va_E} (z : M q = none) (h : M b = some e) : b ≠ q := by
  intro w
  rw [w, z] at h
  cases h
end
section
/-! Contracts over a logical heap: words, entry, calls, ends. -/
section HC
variable {p : Program} {l : Launch} {e : Env} {R : Room} {s : State} {m : MethodId} {args : Array Value} {below : List Frame} {meth : Method} {c : Code} {H : Heap} {locs : List Loc} {cells slots : Nat} {Q : State → Prop}
variable {cc : ByteArray} {pc : Nat} {ls : Array Slot} {rest st0 : List Value} {D : va_G} {B b : Nat} {M : hp_M} {y : MethodName} {bytes : ByteArray} {maxL nL mc ms n index : Nat} {ret : Option FieldType} {rm : Room} {Ts : List Cond} {own C : String} {As : List Value} {Qc : Array Value → State → Outcome → State → Prop}
theorem hp_met {av : List Value} (hy : plainName y.cls = true) (hlen : (lg_sl av).length ≤ maxL)
    (body : ∀ (p : Program) (e : Env) (s : State) (m : MethodId) (args : Array Value) (below : List Frame) (meth : Method) (c : Code) (ls : Array Slot) (Q : State → Prop), (∀ t : State, MQ below Qc args s mc ms (hp_ub B) t → Q t) → p.tables.exec = Jvm.exec → c.code = cc → meth.sig.returnType = ret → (∀ w ∈ wd_T, w.before args s = true) → s.vm.findClass y.cls = some m.cls → meth.locks = false → meth.name = y.name → c.maxLocals = maxL → va_K D classes (hp_T D) s → hp_H D B M s.heap → va_S (hp_ub B) s.heap s.heap [] → B ≤ s.heap.size → lv_has ls maxL (lv_args 0 av) →
      W p l e rm s m args below meth c s.heap [] 0 0 Q (F0 m 0 ls [])) :
    Met l y (wd_c y cc maxL ret) rm (va_Pc av (hp_C D B M)) Qc mc ms (hp_ub B) := by
  refine Met.ofW (cc := cc) (maxL := maxL) (ret := ret) hy rfl ?_
  intro p e s m args below meth c s₁ Bd hml hv
  obtain ⟨rfl, hH, hK⟩ := hv
  have hts := atoms_spec (ws := wd_c y cc maxL ret) Bd.pre
  rw [lg_entry_eq]
  exact body p e s m _ below meth c _ _ (fun _ h => h) Bd.exec Bd.bytes Bd.returns (fun w h => hts w (List.mem_cons_of_mem _ h)) (findClass_of_methodNamed Bd.named) Bd.notSynchronized (name_of_methodNamed Bd.named Bd.method).1 hml hK hH va_S.rf hH.1 (lv_entry av hlen)
theorem hp_mono {Q' : State → Prop} {g : JFrame} (hQ : ∀ t : State, Q' t → Q t) (k : W p l e R s m args below meth c H locs cells slots Q' g) : W p l e R s m args below meth c H locs cells slots Q g := fun T hT X => by
  obtain ⟨t, a1, b1⟩ := k T hT X
  exact ⟨t, a1, hQ t b1⟩
/-- a virtual call's words -/
theorem hp_cwV (n : Nat) (ht : ∀ w ∈ wd_T, w.before args s = true) (hl : Cond.methodLink own index y ∈ wd_T) (hi : Cond.instanceMethod y ∈ wd_T) (hs : Cond.selects y.cls y y ∈ wd_T) (hini : Cond.initialized y.cls ∈ wd_T) (hc : Cond.code y bytes maxL ret ∈ wd_T) (hrc : rm.cells = mc) (hrs : rm.slots = ms)
    (hd : y.cls ≠ "java/lang/invoke/MethodHandle" ∧ y.cls ≠ "java/lang/invoke/VarHandle" ∧ (parseMethodDescriptor y.desc).map (fun d => d.parameters.length) = some n) (hR : rm.frames + 1 ≤ R.frames ∧ 8 + (maxL + 11) + rm.locals ≤ R.locals) : CallW R s args own y.cls index y bytes maxL ret (wd_c y bytes maxL ret) rm mc ms n :=
  ⟨callB_of n ht (wd_good hc) rfl hrc hrs (ht _ hini) (ht _ hl) hd hR, ht _ hi, ht _ hs⟩
theorem hp_cwS (n : Nat) (ht : ∀ w ∈ wd_T, w.before args s = true) (hl : Cond.methodLink own index y ∈ wd_T) (hi : Cond.static y ∈ wd_T) (hini : Cond.initialized y.cls ∈ wd_T) (hc : Cond.code y bytes maxL ret ∈ wd_T) (hrc : rm.cells = mc) (hrs : rm.slots = ms)
    (hd : y.cls ≠ "java/lang/invoke/MethodHandle" ∧ y.cls ≠ "java/lang/invoke/VarHandle" ∧ (parseMethodDescriptor y.desc).map (fun d => d.parameters.length) = some n) (hR : rm.frames + 1 ≤ R.frames ∧ 8 + (maxL + 11) + rm.locals ≤ R.locals) : CallB R s args own index y bytes maxL ret (wd_c y bytes maxL ret) rm mc ms n ∧ (Cond.static y).before args s = true :=
  ⟨callB_of n ht (wd_good hc) rfl hrc hrs (ht _ hini) (ht _ hl) hd hR, ht _ hi⟩
theorem hp_cwI (n : Nat) (ht : ∀ w ∈ wd_T, w.before args s = true) (hl : Cond.methodLink own index y ∈ wd_T) (hi : Cond.instanceMethod y ∈ wd_T) (hini : Cond.initialized y.cls ∈ wd_T) (hc : Cond.code y bytes maxL none ∈ wd_T) (hy : y.name = "<init>") (hrc : rm.cells = mc) (hrs : rm.slots = ms)
    (hd : y.cls ≠ "java/lang/invoke/MethodHandle" ∧ y.cls ≠ "java/lang/invoke/VarHandle" ∧ (parseMethodDescriptor y.desc).map (fun d => d.parameters.length) = some n) (hR : rm.frames + 1 ≤ R.frames ∧ 8 + (maxL + 11) + rm.locals ≤ R.locals) : CallB R s args own index y bytes maxL none (wd_c y bytes maxL none) rm mc ms n ∧ y.name = "<init>" ∧ (Cond.instanceMethod y).before args s = true :=
  ⟨callB_of n ht (wd_good hc) rfl hrc hrs (ht _ hini) (ht _ hl) hd hR, hy, ht _ hi⟩
theorem hp_runV (hx : p.tables.exec = Jvm.exec) (hb : c.code = cc) (hml : c.maxLocals = nL) (hown : s.vm.findClass own = some m.cls) {ws : List Cond} (hM : Met l y ws rm (va_Pc (.ref b :: As) (hp_C D B M)) Qc mc ms (hp_ub B)) (cw : CallW R s args own C index y bytes maxL ret ws rm mc ms n) (hK : va_K D classes (hp_T D) s) (hH : hp_H D B M H) {ci N : Nat} {T : u_T} {fs : List Value} (hb0 : M b = some (.inr (ci, fs))) (hc : classes[ci]? = some (C, T, N)) (hn : As.length = n) (hsize : ls.size = nL) (hst : st0 = As.reverse ++ .ref b :: rest) (hW : (rest.map fun v => v.category).sum ≤ 8) (hdg : decode cc pc = .ok (.invokevirtual index, 3)) (hf : cells + mc ≤ R.cells ∧ slots + ms ≤ R.slots) :
    va_Run p l e R s m args below meth c H locs cells slots mc ms (F0 m pc ls st0) rest (Qc (Value.ref b :: As).toArray) (hp_ub B) :=
  va_runV (Ts := []) ⟨hx, hb, hml, hown, fun _ h => absurd h List.not_mem_nil⟩ hM cw ⟨hp_blind, hp_recv hK hH hb0 hc, hp_pre hH hK⟩ rfl hn hsize hst (lv_room hW) hdg hf
theorem hp_runS (hx : p.tables.exec = Jvm.exec) (hb : c.code = cc) (hml : c.maxLocals = nL) (hown : s.vm.findClass own = some m.cls) {ws : List Cond} (hM : Met l y ws rm (va_Pc As (hp_C D B M)) Qc mc ms (hp_ub B)) (cw : CallB R s args own index y bytes maxL ret ws rm mc ms n ∧ (Cond.static y).before args s = true) (hK : va_K D classes (hp_T D) s) (hH : hp_H D B M H) (hn : As.length = n) (hsize : ls.size = nL) (hst : st0 = As.reverse ++ rest) (hW : (rest.map fun v => v.category).sum ≤ 8) (hdg : decode cc pc = .ok (.invokestatic index, 3)) (hf : cells + mc ≤ R.cells ∧ slots + ms ≤ R.slots) :
    va_Run p l e R s m args below meth c H locs cells slots mc ms (F0 m pc ls st0) rest (Qc As.toArray) (hp_ub B) :=
  va_runS (Ts := []) ⟨hx, hb, hml, hown, fun _ h => absurd h List.not_mem_nil⟩ hM cw ⟨hp_blind, hp_pre hH hK⟩ rfl hn hsize hst (lv_room hW) hdg hf
theorem hp_runI (hx : p.tables.exec = Jvm.exec) (hb : c.code = cc) (hml : c.maxLocals = nL) (hown : s.vm.findClass own = some m.cls) {ws : List Cond} (hM : Met l y ws rm (va_Pc (.ref b :: As) (hp_C D B M)) Qc mc ms (hp_ub B)) (cw : CallB R s args own index y bytes maxL none ws rm mc ms n ∧ y.name = "<init>" ∧ (Cond.instanceMethod y).before args s = true) (hK : va_K D classes (hp_T D) s) (hH : hp_H D B M H) (hn : As.length = n) (hsize : ls.size = nL) (hst : st0 = As.reverse ++ .ref b :: rest) (hW : (rest.map fun v => v.category).sum ≤ 8) (hdg : decode cc pc = .ok (.invokespecial index, 3)) (hf : cells + mc ≤ R.cells ∧ slots + ms ≤ R.slots) :
    va_Run p l e R s m args below meth c H locs cells slots mc ms (F0 m pc ls st0) rest (Qc (Value.ref b :: As).toArray) (hp_ub B) :=
  va_runI (Ts := []) ⟨hx, hb, hml, hown, fun _ h => absurd h List.not_mem_nil⟩ hM cw ⟨hp_blind, hp_pre hH hK⟩ rfl hn hsize hst (lv_room hW) hdg hf
theorem hp_calli {post : Int32 → hp_M → Prop} {av : Array Value} (hr : va_Run p l e R s m args below meth c H locs cells slots mc ms (F0 m pc ls st0) rest (va_Qi post (hp_C D B) (hp_ub B) av) (hp_ub B)) (hS : va_S (hp_ub B) s.heap H locs)
    (kk : ∀ (r : Int32) (M1 : hp_M) (H1 : Heap) (locs1 : List Loc), post r M1 → hp_H D B M1 H1 → va_S (hp_ub B) s.heap H1 locs1 → W p l e R s m args below meth c H1 locs1 (cells + mc) (slots + ms) Q (F0 m (pc + 3) ls (.int r :: rest))) : W p l e R s m args below meth c H locs cells slots Q (F0 m pc ls st0) :=
  va_calli hr hS (fun _ _ h => h) (fun _ h => h) (fun r u t H1 locs1 ht _ hw hB _ _ hS1 => kk r u H1 locs1 hw (ht ▸ hB.1) hS1)
theorem hp_calll {post : Int64 → hp_M → Prop} {av : Array Value} (hr : va_Run p l e R s m args below meth c H locs cells slots mc ms (F0 m pc ls st0) rest (va_Ql post (hp_C D B) (hp_ub B) av) (hp_ub B)) (hS : va_S (hp_ub B) s.heap H locs)
    (kk : ∀ (r : Int64) (M1 : hp_M) (H1 : Heap) (locs1 : List Loc), post r M1 → hp_H D B M1 H1 → va_S (hp_ub B) s.heap H1 locs1 → W p l e R s m args below meth c H1 locs1 (cells + mc) (slots + ms) Q (F0 m (pc + 3) ls (.long r :: rest))) : W p l e R s m args below meth c H locs cells slots Q (F0 m pc ls st0) :=
  va_calll hr hS (fun _ _ h => h) (fun _ h => h) (fun r u t H1 locs1 ht _ hw hB _ _ hS1 => kk r u H1 locs1 hw (ht ▸ hB.1) hS1)
theorem hp_callv {post : hp_M → Prop} {av : Array Value} (hr : va_Run p l e R s m args below meth c H locs cells slots mc ms (F0 m pc ls st0) rest (va_Qv post (hp_C D B) (hp_ub B) av) (hp_ub B)) (hS : va_S (hp_ub B) s.heap H locs)
    (kk : ∀ (M1 : hp_M) (H1 : Heap) (locs1 : List Loc), post M1 → hp_H D B M1 H1 → va_S (hp_ub B) s.heap H1 locs1 → W p l e R s m args below meth c H1 locs1 (cells + mc) (slots + ms) Q (F0 m (pc + 3) ls rest)) : W p l e R s m args below meth c H locs cells slots Q (F0 m pc ls st0) :=
  va_callv hr hS (fun _ _ h => h) (fun _ h => h) (fun u t H1 locs1 ht _ hw hB _ _ hS1 => kk u H1 locs1 hw (ht ▸ hB.1) hS1)
theorem hp_callq {post : Option Nat → hp_M → Prop} {av : Array Value} (hr : va_Run p l e R s m args below meth c H locs cells slots mc ms (F0 m pc ls st0) rest (va_Qq post (hp_C D B) (hp_ub B) av) (hp_ub B)) (hS : va_S (hp_ub B) s.heap H locs)
    (kk : ∀ (r : Option Nat) (M1 : hp_M) (H1 : Heap) (locs1 : List Loc), post r M1 → hp_H D B M1 H1 → va_S (hp_ub B) s.heap H1 locs1 → W p l e R s m args below meth c H1 locs1 (cells + mc) (slots + ms) Q (F0 m (pc + 3) ls (va_rf r :: rest))) : W p l e R s m args below meth c H locs cells slots Q (F0 m pc ls st0) :=
  va_callq hr hS (fun _ _ h => h) (fun _ h => h) (fun r u t H1 locs1 ht _ hw hB _ _ hS1 => kk r u H1 locs1 hw (ht ▸ hB.1) hS1)
theorem hp_iret {post : Int32 → hp_M → Prop} {v : Int32} (hexec : p.tables.exec = Jvm.exec) (hb : c.code = cc) (hr : meth.sig.returnType = some .int) (hlocks : meth.locks = false) (hQ : ∀ t : State, MQ below (va_Qi post (hp_C D B) (hp_ub B)) args s mc ms (hp_ub B) t → Q t) (hK : va_K D classes (hp_T D) s) (hH : hp_H D B M H) (hS : va_S (hp_ub B) s.heap H locs) (hc : cells ≤ mc) (hs : slots ≤ ms) (hdg : decode cc pc = .ok (.ireturn, 1)) (hp : post v M) : W p l e R s m args below meth c H locs cells slots Q (F0 m pc ls [.int v]) :=
  W.widen hc hs (hp_mono hQ (W.iret hexec hb hr (fun t ht hW => ⟨⟨v, M, rfl, hp, by rw [ht]; exact hH, va_K.moved hW.alike hK⟩, hS.F ht⟩) hS.2.2 hdg hlocks))
theorem hp_zret {post : Int32 → hp_M → Prop} {v : Int32} (hexec : p.tables.exec = Jvm.exec) (hb : c.code = cc) (hr : meth.sig.returnType = some .boolean) (hlocks : meth.locks = false) (hQ : ∀ t : State, MQ below (va_Qi post (hp_C D B) (hp_ub B)) args s mc ms (hp_ub B) t → Q t) (hK : va_K D classes (hp_T D) s) (hH : hp_H D B M H) (hS : va_S (hp_ub B) s.heap H locs) (hc : cells ≤ mc) (hs : slots ≤ ms) (hn : narrow .boolean (.int v) = .int v) (hdg : decode cc pc = .ok (.ireturn, 1)) (hp : post v M) : W p l e R s m args below meth c H locs cells slots Q (F0 m pc ls [.int v]) :=
  W.widen hc hs (hp_mono hQ (W.zret hexec hb hr hn (fun t ht hW => ⟨⟨v, M, rfl, hp, by rw [ht]; exact hH, va_K.moved hW.alike hK⟩, hS.F ht⟩) hS.2.2 hdg hlocks))
theorem hp_lret {post : Int64 → hp_M → Prop} {v : Int64} (hexec : p.tables.exec = Jvm.exec) (hb : c.code = cc) (hr : meth.sig.returnType = some .long) (hlocks : meth.locks = false) (hQ : ∀ t : State, MQ below (va_Ql post (hp_C D B) (hp_ub B)) args s mc ms (hp_ub B) t → Q t) (hK : va_K D classes (hp_T D) s) (hH : hp_H D B M H) (hS : va_S (hp_ub B) s.heap H locs) (hc : cells ≤ mc) (hs : slots ≤ ms) (hdg : decode cc pc = .ok (.lreturn, 1)) (hp : post v M) : W p l e R s m args below meth c H locs cells slots Q (F0 m pc ls [.long v]) :=
  W.widen hc hs (hp_mono hQ (W.lret hexec hb hr (fun t ht hW => ⟨⟨v, M, rfl, hp, by rw [ht]; exact hH, va_K.moved hW.alike hK⟩, hS.F ht⟩) hS.2.2 hdg hlocks))
theorem hp_vret {post : hp_M → Prop} (hexec : p.tables.exec = Jvm.exec) (hb : c.code = cc) (hr : meth.sig.returnType = none) (hlocks : meth.locks = false) (hQ : ∀ t : State, MQ below (va_Qv post (hp_C D B) (hp_ub B)) args s mc ms (hp_ub B) t → Q t) (hK : va_K D classes (hp_T D) s) (hH : hp_H D B M H) (hS : va_S (hp_ub B) s.heap H locs) (hc : cells ≤ mc) (hs : slots ≤ ms) (hdg : decode cc pc = .ok (.return_, 1)) (hp : post M) : W p l e R s m args below meth c H locs cells slots Q (F0 m pc ls []) :=
  W.widen hc hs (hp_mono hQ (W.vret hexec hb hr (fun t ht hW => ⟨⟨M, rfl, hp, by rw [ht]; exact hH, va_K.moved hW.alike hK⟩, hS.F ht⟩) hS.2.2 hdg hlocks))
theorem hp_qret {post : Option Nat → hp_M → Prop} {v : Option Nat} {cn : String} (hexec : p.tables.exec = Jvm.exec) (hb : c.code = cc) (hr : meth.sig.returnType = some (.object cn)) (hlocks : meth.locks = false) (hQ : ∀ t : State, MQ below (va_Qq post (hp_C D B) (hp_ub B)) args s mc ms (hp_ub B) t → Q t) (hK : va_K D classes (hp_T D) s) (hH : hp_H D B M H) (hS : va_S (hp_ub B) s.heap H locs) (hc : cells ≤ mc) (hs : slots ≤ ms) (hdg : decode cc pc = .ok (.areturn, 1)) (hp : post v M) : W p l e R s m args below meth c H locs cells slots Q (F0 m pc ls [va_rf v]) :=
  W.widen hc hs (hp_mono hQ (W.aret hexec hb hr (Or.inl ⟨_, rfl⟩) (va_rf_or v) (fun t ht hW => ⟨⟨v, M, rfl, hp, by rw [ht]; exact hH, va_K.moved hW.alike hK⟩, hS.F ht⟩) hS.2.2 hdg hlocks))
/-- a reference that may be null: both ways -/
theorem hp_ifnull {r : Option Nat} {off : Int} {tgt : Nat} (hexec : p.tables.exec = Jvm.exec) (hb : c.code = cc) (hdg : decode cc pc = .ok (.ifnull off, 3)) (ht : (pc : Int) + off = (tgt : Int)) (kn : r = none → W p l e R s m args below meth c H locs cells slots Q (F0 m tgt ls rest)) (ks : ∀ x : Nat, r = some x → W p l e R s m args below meth c H locs cells slots Q (F0 m (pc + 3) ls rest)) : W p l e R s m args below meth c H locs cells slots Q (F0 m pc ls (va_rf r :: rest)) := by
  cases r with
  | none => exact lv_ifnullN hexec hb hdg ht (kn rfl)
  | some x => exact lv_ifnull hexec hb hdg (ks x rfl)
theorem hp_ifnonnull {r : Option Nat} {off : Int} {tgt : Nat} (hexec : p.tables.exec = Jvm.exec) (hb : c.code = cc) (hdg : decode cc pc = .ok (.ifnonnull off, 3)) (ht : (pc : Int) + off = (tgt : Int)) (ks : ∀ x : Nat, r = some x → W p l e R s m args below meth c H locs cells slots Q (F0 m tgt ls rest)) (kn : r = none → W p l e R s m args below meth c H locs cells slots Q (F0 m (pc + 3) ls rest)) : W p l e R s m args below meth c H locs cells slots Q (F0 m pc ls (va_rf r :: rest)) := by
  cases r with
  | none => exact lv_ifnonnullN hexec hb hdg (kn rfl)
  | some x => exact lv_ifnonnull hexec hb hdg ht (ks x rfl)
/-- loading and storing a reference that may be null -/
theorem hp_aload_n {k : Fin 4} {i : Nat} {r : Option Nat} (hexec : p.tables.exec = Jvm.exec) (hb : c.code = cc) (hdg : decode cc pc = .ok (.aload_n k, 1)) (hi : (k : Nat) = i) (hl : ls[i]? = some (.val (va_rf r))) (kk : W p l e R s m args below meth c H locs cells slots Q (F0 m (pc + 1) ls (va_rf r :: rest))) : W p l e R s m args below meth c H locs cells slots Q (F0 m pc ls rest) := by
  cases r with
  | none => exact lv_aload_nN hexec hb hdg hi hl kk
  | some x => exact lv_aload_n hexec hb hdg hi hl kk
theorem hp_aload {i : Nat} {r : Option Nat} (hexec : p.tables.exec = Jvm.exec) (hb : c.code = cc) (hdg : decode cc pc = .ok (.aload i, 2)) (hl : ls[i]? = some (.val (va_rf r))) (kk : W p l e R s m args below meth c H locs cells slots Q (F0 m (pc + 2) ls (va_rf r :: rest))) : W p l e R s m args below meth c H locs cells slots Q (F0 m pc ls rest) := by
  cases r with
  | none => exact lv_aloadN hexec hb hdg hl kk
  | some x => exact lv_aload hexec hb hdg hl kk
theorem hp_astore_n {k : Fin 4} {i nL : Nat} {r : Option Nat} {lv lv' : List (Nat × Value)} (hexec : p.tables.exec = Jvm.exec) (hb : c.code = cc) (hdg : decode cc pc = .ok (.astore_n k, 1)) (hi : (k : Nat) = i) (h : lv_has ls nL lv) (hn : i < nL) (hl : (i, va_rf r) :: lv.filter (fun q => !(q.1 == i) && !(q.1 + 1 == i && q.2.category == 2)) = lv')
    (kk : ∀ ls' : Array Slot, lv_has ls' nL lv' → W p l e R s m args below meth c H locs cells slots Q (F0 m (pc + 1) ls' rest)) : W p l e R s m args below meth c H locs cells slots Q (F0 m pc ls (va_rf r :: rest)) := by
  cases r with
  | none => exact lv_astore_nN hexec hb hdg hi h hn hl kk
  | some x => exact lv_astore_n hexec hb hdg hi h hn hl kk
theorem hp_astore {i nL : Nat} {r : Option Nat} {lv lv' : List (Nat × Value)} (hexec : p.tables.exec = Jvm.exec) (hb : c.code = cc) (hdg : decode cc pc = .ok (.astore i, 2)) (h : lv_has ls nL lv) (hn : i < nL) (hl : (i, va_rf r) :: lv.filter (fun q => !(q.1 == i) && !(q.1 + 1 == i && q.2.category == 2)) = lv')
    (kk : ∀ ls' : Array Slot, lv_has ls' nL lv' → W p l e R s m args below meth c H locs cells slots Q (F0 m (pc + 2) ls' rest)) : W p l e R s m args below meth c H locs cells slots Q (F0 m pc ls (va_rf r :: rest)) := by
  cases r with
  | none => exact lv_astoreN hexec hb hdg h hn hl kk
  | some x => exact lv_astore hexec hb hdg h hn hl kk
end HC
end
section
/-! THE MATHEMATICAL SWITCH that both sides are tied to. -/
/-- a cell: input, output, class, tag, number of its acceptance, slot in which it came, time -/
abbrev sg_Ce : Type := Nat × Nat × Nat × Int32 × Nat × Int32 × Int64
/-- kinds, weights, last times, orders, offered, slot number, accepted, sent in the latest slot -/
abbrev sg_S : Type := (Nat → Int32) × (Nat → Nat → Int32) × (Nat → Nat → Int64) × (Nat → List sg_Ce) × (Nat → Option sg_Ce) × Int32 × Nat × (Nat → Option sg_Ce)
abbrev sg_kd (σ : sg_S) : Nat → Int32 := σ.1
abbrev sg_wt (σ : sg_S) : Nat → Nat → Int32 := σ.2.1
abbrev sg_lt (σ : sg_S) : Nat → Nat → Int64 := σ.2.2.1
abbrev sg_qu (σ : sg_S) : Nat → List sg_Ce := σ.2.2.2.1
abbrev sg_of (σ : sg_S) : Nat → Option sg_Ce := σ.2.2.2.2.1
abbrev sg_sl (σ : sg_S) : Int32 := σ.2.2.2.2.2.1
abbrev sg_ac (σ : sg_S) : Nat := σ.2.2.2.2.2.2.1
abbrev sg_se (σ : sg_S) : Nat → Option sg_Ce := σ.2.2.2.2.2.2.2
abbrev sg_ci (c : sg_Ce) : Nat := c.1
abbrev sg_co (c : sg_Ce) : Nat := c.2.1
abbrev sg_cg (c : sg_Ce) : Nat := c.2.2.1
abbrev sg_ct (c : sg_Ce) : Int32 := c.2.2.2.1
abbrev sg_cs (c : sg_Ce) : Nat := c.2.2.2.2.1
abbrev sg_cc (c : sg_Ce) : Int32 := c.2.2.2.2.2.1
abbrev sg_cm (c : sg_Ce) : Int64 := c.2.2.2.2.2.2
def sg_0 : sg_S := (fun _ => 0, fun _ _ => 1, fun _ _ => 0, fun _ => [], fun _ => none, 0, 0, fun _ => none)
/-- a class's step at a weight -/
def sg_step (w : Int32) : Int32 := (65535 + w) / w
/-- the time of a cell that comes -/
def sg_time (σ : sg_S) (o g : Nat) : Int64 := (if sg_lt σ o g < 256 * (sg_sl σ).toInt64 then 256 * (sg_sl σ).toInt64 else sg_lt σ o g) + (sg_step (sg_wt σ o g)).toInt64
/-- c goes ahead of d -/
def sg_bef (k : Int32) (c d : sg_Ce) : Bool := (k == 1 && decide (sg_cg c < sg_cg d)) || (k == 2 && decide (sg_cm c < sg_cm d))
def sg_ins (k : Int32) (c : sg_Ce) : List sg_Ce → List sg_Ce
  | [] => [c]
  | d :: ds => if sg_bef k c d then c :: d :: ds else d :: sg_ins k c ds
/-- the cell as it comes -/
def sg_cell (σ : sg_S) (c : sg_Ce) : sg_Ce := (sg_ci c, sg_co c, sg_cg c, sg_ct c, sg_cs c, sg_sl σ, if sg_kd σ (sg_co c) = 2 then sg_time σ (sg_co c) (sg_cg c) else 0)
def sg_come1 (σ : sg_S) (i : Nat) (c : sg_Ce) : sg_S := (sg_kd σ, sg_wt σ, if sg_kd σ (sg_co c) = 2 then va_up (sg_lt σ) (sg_co c) (va_up (sg_lt σ (sg_co c)) (sg_cg c) (sg_time σ (sg_co c) (sg_cg c))) else sg_lt σ, va_up (sg_qu σ) (sg_co c) (sg_ins (sg_kd σ (sg_co c)) (sg_cell σ c) (sg_qu σ (sg_co c))), va_up (sg_of σ) i none, sg_sl σ, sg_ac σ, sg_se σ)
def sg_come (σ : sg_S) (i : Nat) : sg_S := match sg_of σ i with
  | none => σ
  | some c => sg_come1 σ i c
def sg_comes (σ : sg_S) : Nat → sg_S
  | 0 => σ
  | n + 1 => sg_come (sg_comes σ n) n
def sg_send (σ : sg_S) (o : Nat) : sg_S := match sg_qu σ o with
  | [] => (sg_kd σ, sg_wt σ, sg_lt σ, sg_qu σ, sg_of σ, sg_sl σ, sg_ac σ, va_up (sg_se σ) o none)
  | c :: cs => (sg_kd σ, sg_wt σ, if cs = [] then va_up (sg_lt σ) o (fun _ => 0) else sg_lt σ, va_up (sg_qu σ) o cs, sg_of σ, sg_sl σ, sg_ac σ, va_up (sg_se σ) o (some c))
def sg_sends (σ : sg_S) : Nat → sg_S
  | 0 => σ
  | n + 1 => sg_send (sg_sends σ n) n
/-- how many of the first n outputs have a cell -/
def sg_count (σ : sg_S) : Nat → Nat
  | 0 => 0
  | n + 1 => sg_count σ n + (if sg_qu σ n = [] then 0 else 1)
def sg_slot (σ : sg_S) : sg_S := let τ := sg_sends (sg_comes σ 8) 8; (sg_kd τ, sg_wt τ, sg_lt τ, sg_qu τ, sg_of τ, sg_sl τ + 1, sg_ac τ, sg_se τ)
def sg_sum (f : Nat → Nat) : Nat → Nat
  | 0 => 0
  | n + 1 => sg_sum f n + f n
/-- cells of input i in a list -/
def sg_cnt (i : Nat) : List sg_Ce → Nat
  | [] => 0
  | c :: cs => (if sg_ci c = i then 1 else 0) + sg_cnt i cs
def sg_o1 (x : Option sg_Ce) : Nat := match x with
  | none => 0
  | some _ => 1
def sg_held (σ : sg_S) (i : Nat) : Nat := sg_o1 (sg_of σ i) + sg_sum (fun o => sg_cnt i (sg_qu σ o)) 8
def sg_total (σ : sg_S) : Nat := sg_sum (fun i => sg_o1 (sg_of σ i)) 8 + sg_sum (fun o => (sg_qu σ o).length) 8
def sg_reset (σ : sg_S) : sg_S := (sg_kd σ, sg_wt σ, fun _ _ => 0, fun _ => [], fun _ => none, sg_sl σ, sg_ac σ, fun _ => none)
def sg_offer (σ : sg_S) (i o g : Nat) (t : Int32) : sg_S := (sg_kd σ, sg_wt σ, sg_lt σ, sg_qu σ, va_up (sg_of σ) i (some (i, o, g, t, sg_ac σ, 0, 0)), sg_sl σ, sg_ac σ + 1, sg_se σ)
def sg_setO (σ : sg_S) (o : Nat) (k : Int32) : sg_S := (va_up (sg_kd σ) o k, sg_wt σ, sg_lt σ, sg_qu σ, sg_of σ, sg_sl σ, sg_ac σ, sg_se σ)
def sg_setW (σ : sg_S) (o g : Nat) (w : Int32) : sg_S := (sg_kd σ, va_up (sg_wt σ) o (va_up (sg_wt σ o) g w), sg_lt σ, sg_qu σ, sg_of σ, sg_sl σ, sg_ac σ, sg_se σ)
/-- what holds of every state that is reached -/
def sg_ord (k : Int32) (l : List sg_Ce) : Prop := (k = 1 → l.Pairwise (fun c d => sg_cg c ≤ sg_cg d)) ∧ (k = 2 → l.Pairwise (fun c d => sg_cm c ≤ sg_cm d))
def sg_inv (σ : sg_S) : Prop :=
  (∀ o, o < 8 → (sg_kd σ o = 0 ∨ sg_kd σ o = 1 ∨ sg_kd σ o = 2) ∧ sg_ord (sg_kd σ o) (sg_qu σ o) ∧ ((sg_qu σ o).map sg_cs).Nodup ∧ ∀ c ∈ sg_qu σ o, sg_ci c < 8 ∧ sg_co c = o ∧ sg_cg c < 8 ∧ sg_cs c < sg_ac σ) ∧
  (∀ i, i < 8 → sg_held σ i ≤ 64 ∧ ∀ c, sg_of σ i = some c → sg_ci c = i ∧ sg_co c < 8 ∧ sg_cg c < 8 ∧ sg_cs c < sg_ac σ ∧ sg_cc c = 0 ∧ sg_cm c = 0) ∧
  (∃ w : Nat → Nat, (∀ o, o < 8 → ∀ c ∈ sg_qu σ o, w (sg_cs c) = o) ∧ ∀ i, i < 8 → ∀ c, sg_of σ i = some c → w (sg_cs c) = 8 + i) ∧
  (∀ o g, o < 8 → g < 8 → sg_wt σ o g ≠ 0) ∧ sg_total σ ≤ sg_ac σ
end
section
/-! Orders: inserting, counting, being sorted. -/
theorem sg_ins_at {k : Int32} {c : sg_Ce} : ∀ {l1 l2 : List sg_Ce}, (∀ d ∈ l1, sg_bef k c d = false) → (∀ d ds, l2 = d :: ds → sg_bef k c d = true) → sg_ins k c (l1 ++ l2) = l1 ++ c :: l2 := by
  intro l1
  induction l1 with
  | nil =>
    intro l2 _ h2
    cases l2 with
    | nil => rfl
    | cons d ds => simp [sg_ins, h2 d ds rfl]
  | cons d ds ih =>
    intro l2 h1 h2
    have e : sg_bef k c d = false := h1 d List.mem_cons_self
    show (if sg_bef k c d = true then c :: d :: (ds ++ l2) else d :: sg_ins k c (ds ++ l2)) = d :: (ds ++ c :: l2)
    rw [e, ih (fun x hx => h1 x (List.mem_cons_of_mem _ hx)) h2]
    rfl
theorem sg_ins_perm (k : Int32) (c : sg_Ce) : ∀ l : List sg_Ce, (sg_ins k c l).Perm (c :: l) := by
  intro l
  induction l with
  | nil => exact List.Perm.refl _
  | cons d ds ih =>
    unfold sg_ins
    split
    · exact List.Perm.refl _
    · exact (List.Perm.cons d ih).trans (List.Perm.swap c d ds)
theorem sg_ins_mem {k : Int32} {c x : sg_Ce} {l : List sg_Ce} : x ∈ sg_ins k c l ↔ x = c ∨ x ∈ l := by
  rw [(sg_ins_perm k c l).mem_iff]
  exact List.mem_cons
theorem sg_ins_len (k : Int32) (c : sg_Ce) (l : List sg_Ce) : (sg_ins k c l).length = l.length + 1 := by
  rw [(sg_ins_perm k c l).length_eq]
  rfl
theorem sg_ins_nodup {k : Int32} {c : sg_Ce} {l : List sg_Ce} (h : (l.map sg_cs).Nodup) (hc : ∀ d ∈ l, sg_cs d ≠ sg_cs c) : ((sg_ins k c l).map sg_cs).Nodup := by
  rw [((sg_ins_perm k c l).map sg_cs).nodup_iff]
  rw [List.map_cons, List.nodup_cons]
  refine ⟨fun hm => ?_, h⟩
  obtain ⟨d, hd, e⟩ := List.mem_map.mp hm
  exact hc d hd e
theorem sg_cnt_ins (k : Int32) (c : sg_Ce) (i : Nat) : ∀ l : List sg_Ce, sg_cnt i (sg_ins k c l) = (if sg_ci c = i then 1 else 0) + sg_cnt i l := by
  intro l
  induction l with
  | nil => rfl
  | cons d ds ih =>
    unfold sg_ins
    split
    · rfl
    · show _ + sg_cnt i (sg_ins k c ds) = _
      rw [ih]
      show _ = _ + (_ + _)
      omega
theorem sg_ord_nil (k : Int32) : sg_ord k [] := ⟨fun _ => List.Pairwise.nil, fun _ => List.Pairwise.nil⟩
theorem sg_ord_tail {k : Int32} {c : sg_Ce} {l : List sg_Ce} (h : sg_ord k (c :: l)) : sg_ord k l := ⟨fun e => (List.pairwise_cons.mp (h.1 e)).2, fun e => (List.pairwise_cons.mp (h.2 e)).2⟩
theorem sg_bef1 {c d : sg_Ce} : sg_bef 1 c d = decide (sg_cg c < sg_cg d) := by
  simp [sg_bef]
theorem sg_bef2 {c d : sg_Ce} : sg_bef 2 c d = decide (sg_cm c < sg_cm d) := by
  simp [sg_bef]
theorem sg_bef0 {c d : sg_Ce} : sg_bef 0 c d = false := by
  simp [sg_bef]
theorem sg_ins_ord {k : Int32} {c : sg_Ce} : ∀ {l : List sg_Ce}, sg_ord k l → sg_ord k (sg_ins k c l) := by
  intro l
  induction l with
  | nil =>
    intro _
    exact ⟨fun _ => List.pairwise_singleton _ _, fun _ => List.pairwise_singleton _ _⟩
  | cons d ds ih =>
    intro h
    refine ⟨fun e => ?_, fun e => ?_⟩
    · subst e
      have h1 := List.pairwise_cons.mp (h.1 rfl)
      unfold sg_ins
      rw [sg_bef1]
      split
      · rename_i hb
        have hb : sg_cg c < sg_cg d := of_decide_eq_true hb
        refine List.pairwise_cons.mpr ⟨fun x hx => ?_, h.1 rfl⟩
        rcases List.mem_cons.mp hx with e | e
        · rw [e]; exact Nat.le_of_lt hb
        · exact Nat.le_trans (Nat.le_of_lt hb) (h1.1 x e)
      · rename_i hb
        have hb : ¬ sg_cg c < sg_cg d := fun q => hb (decide_eq_true q)
        refine List.pairwise_cons.mpr ⟨fun x hx => ?_, (ih (sg_ord_tail h)).1 rfl⟩
        rcases sg_ins_mem.mp hx with e | e
        · rw [e]; exact Nat.le_of_not_lt hb
        · exact h1.1 x e
    · subst e
      have h1 := List.pairwise_cons.mp (h.2 rfl)
      unfold sg_ins
      rw [sg_bef2]
      split
      · rename_i hb
        have hb : sg_cm c < sg_cm d := of_decide_eq_true hb
        refine List.pairwise_cons.mpr ⟨fun x hx => ?_, h.2 rfl⟩
        rcases List.mem_cons.mp hx with e | e
        · rw [e]; exact Int64.le_of_lt hb
        · exact Int64.le_trans (Int64.le_of_lt hb) (h1.1 x e)
      · rename_i hb
        have hb : ¬ sg_cm c < sg_cm d := fun q => hb (decide_eq_true q)
        refine List.pairwise_cons.mpr ⟨fun x hx => ?_, (ih (sg_ord_tail h)).2 rfl⟩
        rcases sg_ins_mem.mp hx with e | e
        · rw [e]; exact Int64.not_lt.mp hb
        · exact h1.1 x e
/-- in a sorted order, what stands ahead of one that c isn't before, c isn't before either -/
theorem sg_bef_ahead {k : Int32} {c d : sg_Ce} {l1 l2 : List sg_Ce} (h : sg_ord k (l1 ++ d :: l2)) (hk : k = 0 ∨ k = 1 ∨ k = 2) (hd : sg_bef k c d = false) : ∀ x ∈ l1, sg_bef k c x = false := by
  intro x hx
  rcases hk with e | e | e
  · subst e; exact sg_bef0
  · subst e
    have h1 : sg_cg x ≤ sg_cg d := (List.pairwise_append.mp (h.1 rfl)).2.2 x hx d List.mem_cons_self
    rw [sg_bef1] at hd ⊢
    have h2 : ¬ sg_cg c < sg_cg d := of_decide_eq_false hd
    exact decide_eq_false (by omega)
  · subst e
    have h1 : sg_cm x ≤ sg_cm d := (List.pairwise_append.mp (h.2 rfl)).2.2 x hx d List.mem_cons_self
    rw [sg_bef2] at hd ⊢
    have h2 : ¬ sg_cm c < sg_cm d := of_decide_eq_false hd
    exact decide_eq_false (Int64.not_lt.mpr (Int64.le_trans h1 (Int64.not_lt.mp h2)))
/-! Sums. -/
theorem sg_sum_congr {f g : Nat → Nat} : ∀ {n : Nat}, (∀ k, k < n → f k = g k) → sg_sum f n = sg_sum g n := by
  intro n
  induction n with
  | zero => intro _; rfl
  | succ n ih =>
    intro h
    show sg_sum f n + f n = sg_sum g n + g n
    rw [ih (fun k hk => h k (by omega)), h n (by omega)]
theorem sg_sum_up {f g : Nat → Nat} {o : Nat} (hg : ∀ k, k ≠ o → g k = f k) : ∀ {n : Nat}, o < n → sg_sum g n + f o = sg_sum f n + g o := by
  intro n
  induction n with
  | zero => intro h; omega
  | succ n ih =>
    intro h
    show sg_sum g n + g n + f o = sg_sum f n + f n + g o
    by_cases e : o = n
    · subst e
      rw [sg_sum_congr (f := g) (g := f) (fun k hk => hg k (by omega))]
      omega
    · have h1 := ih (by omega)
      rw [hg n (fun q => e q.symm)]
      omega
theorem sg_sum_le {f : Nat → Nat} {o : Nat} : ∀ {n : Nat}, o < n → f o ≤ sg_sum f n := by
  intro n
  induction n with
  | zero => intro h; omega
  | succ n ih =>
    intro h
    show f o ≤ sg_sum f n + f n
    by_cases e : o = n
    · subst e; omega
    · have := ih (by omega)
      omega
theorem sg_sum_0 : ∀ n : Nat, sg_sum (fun _ => 0) n = 0 := by
  intro n
  induction n with
  | zero => rfl
  | succ n ih => show sg_sum _ n + 0 = 0; omega
theorem sg_cnt_le (i : Nat) : ∀ l : List sg_Ce, sg_cnt i l ≤ l.length := by
  intro l
  induction l with
  | nil => exact Nat.le_refl 0
  | cons c cs ih =>
    show (if sg_ci c = i then 1 else 0) + sg_cnt i cs ≤ cs.length + 1
    split <;> omega
end
section
/-! The invariant is kept. -/
theorem sg_inv_0 : sg_inv sg_0 := by
  refine ⟨fun o _ => ⟨Or.inl rfl, sg_ord_nil _, List.nodup_nil, fun c hc => absurd hc List.not_mem_nil⟩, fun i _ => ⟨?_, fun c hc => by cases hc⟩, ⟨fun _ => 0, fun o _ c hc => absurd hc List.not_mem_nil, fun i _ c hc => by cases hc⟩, fun o g _ _ => by show (1 : Int32) ≠ 0; decide, ?_⟩
  · show 0 + sg_sum (fun _ => 0) 8 ≤ 64
    decide
  · show sg_sum (fun _ => 0) 8 + sg_sum (fun _ => 0) 8 ≤ 0
    decide
theorem sg_inv_setO {σ : sg_S} {o : Nat} {k : Int32} (h : sg_inv σ) (hk : k = 0 ∨ k = 1 ∨ k = 2) (hq : sg_qu σ o = []) : sg_inv (sg_setO σ o k) := by
  obtain ⟨h1, h2, h3, h4, h5⟩ := h
  refine ⟨fun x hx => ?_, h2, h3, h4, h5⟩
  obtain ⟨a1, a2, a3, a4⟩ := h1 x hx
  show (va_up (sg_kd σ) o k x = 0 ∨ va_up (sg_kd σ) o k x = 1 ∨ va_up (sg_kd σ) o k x = 2) ∧ sg_ord (va_up (sg_kd σ) o k x) (sg_qu σ x) ∧ _ ∧ _
  by_cases e : x = o
  · subst e
    rw [va_up_self, hq]
    exact ⟨hk, sg_ord_nil _, by show ((sg_qu σ x).map sg_cs).Nodup; rw [hq]; exact List.nodup_nil, fun c hc => by have hc : c ∈ sg_qu σ x := hc; rw [hq] at hc; exact absurd hc List.not_mem_nil⟩
  · rw [va_up_ne _ _ e]
    exact ⟨a1, a2, a3, a4⟩
theorem sg_inv_setW {σ : sg_S} {o g : Nat} {w : Int32} (h : sg_inv σ) (hw : w ≠ 0) : sg_inv (sg_setW σ o g w) := by
  obtain ⟨h1, h2, h3, h4, h5⟩ := h
  refine ⟨h1, h2, h3, fun x y hx hy => ?_, h5⟩
  show va_up (sg_wt σ) o (va_up (sg_wt σ o) g w) x y ≠ 0
  by_cases e : x = o
  · subst e
    rw [va_up_self]
    by_cases e2 : y = g
    · subst e2; rw [va_up_self]; exact hw
    · rw [va_up_ne _ _ e2]; exact h4 x y hx hy
  · rw [va_up_ne _ _ e]; exact h4 x y hx hy
theorem sg_inv_tick {σ : sg_S} (h : sg_inv σ) (t : Int32) : sg_inv (sg_kd σ, sg_wt σ, sg_lt σ, sg_qu σ, sg_of σ, t, sg_ac σ, sg_se σ) := h
theorem sg_held_offer {σ : sg_S} {i o g : Nat} {t : Int32} (hn : sg_of σ i = none) (j : Nat) : sg_held (sg_offer σ i o g t) j = sg_held σ j + (if j = i then 1 else 0) := by
  show sg_o1 (va_up (sg_of σ) i _ j) + sg_sum (fun o => sg_cnt j (sg_qu σ o)) 8 = sg_o1 (sg_of σ j) + sg_sum (fun o => sg_cnt j (sg_qu σ o)) 8 + _
  by_cases e : j = i
  · subst e
    rw [va_up_self, hn, if_pos rfl]
    show 1 + _ = 0 + _ + 1
    omega
  · rw [va_up_ne _ _ e, if_neg e]
    omega
theorem sg_inv_offer {σ : sg_S} {i o g : Nat} {t : Int32} (h : sg_inv σ) (hi : i < 8) (ho : o < 8) (hg : g < 8) (hn : sg_of σ i = none) (hh : sg_held σ i < 64) : sg_inv (sg_offer σ i o g t) := by
  obtain ⟨h1, h2, ⟨w, h3, h3'⟩, h4, h5⟩ := h
  refine ⟨fun x hx => ?_, fun j hj => ⟨?_, fun c hc => ?_⟩, ⟨va_up w (sg_ac σ) (8 + i), fun x hx c hc => ?_, fun j hj c hc => ?_⟩, h4, ?_⟩
  · obtain ⟨a1, a2, a3, a4⟩ := h1 x hx
    exact ⟨a1, a2, a3, fun c hc => ⟨(a4 c hc).1, (a4 c hc).2.1, (a4 c hc).2.2.1, Nat.lt_succ_of_lt (a4 c hc).2.2.2⟩⟩
  · rw [sg_held_offer hn]
    have := (h2 j hj).1
    by_cases e : j = i
    · subst e; rw [if_pos rfl]; omega
    · rw [if_neg e]; omega
  · have hc : va_up (sg_of σ) i (some (i, o, g, t, sg_ac σ, 0, 0)) j = some c := hc
    by_cases e : j = i
    · subst e
      rw [va_up_self] at hc
      cases hc
      exact ⟨rfl, ho, hg, Nat.lt_succ_self _, rfl, rfl⟩
    · rw [va_up_ne _ _ e] at hc
      obtain ⟨b1, b2, b3, b4, b5⟩ := (h2 j hj).2 c hc
      exact ⟨b1, b2, b3, Nat.lt_succ_of_lt b4, b5⟩
  · have := ((h1 x hx).2.2.2 c hc).2.2.2
    rw [va_up_ne _ _ (by omega)]
    exact h3 x hx c hc
  · have hc : va_up (sg_of σ) i (some (i, o, g, t, sg_ac σ, 0, 0)) j = some c := hc
    by_cases e : j = i
    · subst e
      rw [va_up_self] at hc
      cases hc
      exact va_up_self _ _ _
    · rw [va_up_ne _ _ e] at hc
      have := ((h2 j hj).2 c hc).2.2.2.1
      rw [va_up_ne _ _ (by omega)]
      exact h3' j hj c hc
  · show sg_sum (fun j => sg_o1 (va_up (sg_of σ) i (some (i, o, g, t, sg_ac σ, 0, 0)) j)) 8 + sg_sum (fun o => (sg_qu σ o).length) 8 ≤ sg_ac σ + 1
    have e := sg_sum_up (f := fun j => sg_o1 (sg_of σ j)) (g := fun j => sg_o1 (va_up (sg_of σ) i (some (i, o, g, t, sg_ac σ, 0, 0)) j)) (o := i) (fun k hk => by show sg_o1 (va_up _ _ _ k) = _; rw [va_up_ne _ _ hk]) hi
    have e1 : sg_o1 (sg_of σ i) = 0 := by rw [hn]; rfl
    have e2 : sg_o1 (va_up (sg_of σ) i (some (i, o, g, t, sg_ac σ, 0, 0)) i) = 1 := by rw [va_up_self]; rfl
    have h5 : sg_sum (fun i => sg_o1 (sg_of σ i)) 8 + sg_sum (fun o => (sg_qu σ o).length) 8 ≤ sg_ac σ := h5
    try dsimp only at e
    omega
theorem sg_held_come1 {σ : sg_S} {i : Nat} {c : sg_Ce} (hc : sg_of σ i = some c) (hi : sg_ci c = i) (ho : sg_co c < 8) (j : Nat) : sg_held (sg_come1 σ i c) j = sg_held σ j := by
  show sg_o1 (va_up (sg_of σ) i none j) + sg_sum (fun o => sg_cnt j (va_up (sg_qu σ) (sg_co c) (sg_ins (sg_kd σ (sg_co c)) (sg_cell σ c) (sg_qu σ (sg_co c))) o)) 8 = sg_o1 (sg_of σ j) + sg_sum (fun o => sg_cnt j (sg_qu σ o)) 8
  have e := sg_sum_up (f := fun o => sg_cnt j (sg_qu σ o)) (g := fun o => sg_cnt j (va_up (sg_qu σ) (sg_co c) (sg_ins (sg_kd σ (sg_co c)) (sg_cell σ c) (sg_qu σ (sg_co c))) o)) (o := sg_co c) (fun k hk => by show sg_cnt j (va_up _ _ _ k) = _; rw [va_up_ne _ _ hk]) ho
  try dsimp only at e
  rw [va_up_self, sg_cnt_ins] at e
  have e3 : sg_ci (sg_cell σ c) = i := hi
  rw [e3] at e
  by_cases q : j = i
  · subst q
    rw [va_up_self, hc]
    rw [if_pos rfl] at e
    show 0 + _ = 1 + _
    omega
  · rw [va_up_ne _ _ q]
    rw [if_neg (fun z => q z.symm)] at e
    omega
theorem sg_inv_come1 {σ : sg_S} {i : Nat} {c : sg_Ce} (h : sg_inv σ) (hi : i < 8) (hc : sg_of σ i = some c) : sg_inv (sg_come1 σ i c) := by
  obtain ⟨h1, h2, ⟨w, h3, h3'⟩, h4, h5⟩ := h
  obtain ⟨c1, c2, c3, c4, c5, c6⟩ := (h2 i hi).2 c hc
  have hw : w (sg_cs c) = 8 + i := h3' i hi c hc
  have hq : ∀ x, x < 8 → ∀ d ∈ sg_qu σ x, sg_cs d ≠ sg_cs c := fun x hx d hd e => by
    have := h3 x hx d hd
    rw [e, hw] at this
    omega
  refine ⟨fun x hx => ?_, fun j hj => ⟨?_, fun d hd => ?_⟩, ⟨va_up w (sg_cs c) (sg_co c), fun x hx d hd => ?_, fun j hj d hd => ?_⟩, h4, ?_⟩
  · obtain ⟨a1, a2, a3, a4⟩ := h1 x hx
    refine ⟨a1, ?_⟩
    show sg_ord (sg_kd σ x) (va_up (sg_qu σ) (sg_co c) (sg_ins (sg_kd σ (sg_co c)) (sg_cell σ c) (sg_qu σ (sg_co c))) x) ∧ ((va_up (sg_qu σ) (sg_co c) (sg_ins (sg_kd σ (sg_co c)) (sg_cell σ c) (sg_qu σ (sg_co c))) x).map sg_cs).Nodup ∧ ∀ d ∈ va_up (sg_qu σ) (sg_co c) (sg_ins (sg_kd σ (sg_co c)) (sg_cell σ c) (sg_qu σ (sg_co c))) x, sg_ci d < 8 ∧ sg_co d = x ∧ sg_cg d < 8 ∧ sg_cs d < sg_ac σ
    by_cases e : x = sg_co c
    · subst e
      rw [va_up_self]
      refine ⟨sg_ins_ord a2, sg_ins_nodup a3 (hq _ hx), fun d hd => ?_⟩
      rcases sg_ins_mem.mp hd with q | q
      · rw [q]
        exact ⟨by show sg_ci c < 8; rw [c1]; exact hi, rfl, c3, c4⟩
      · exact a4 d q
    · rw [va_up_ne _ _ e]
      exact ⟨a2, a3, a4⟩
  · rw [sg_held_come1 hc c1 c2]
    exact (h2 j hj).1
  · have hd : va_up (sg_of σ) i none j = some d := hd
    by_cases e : j = i
    · subst e; rw [va_up_self] at hd; cases hd
    · rw [va_up_ne _ _ e] at hd
      exact (h2 j hj).2 d hd
  · have hd : d ∈ va_up (sg_qu σ) (sg_co c) (sg_ins (sg_kd σ (sg_co c)) (sg_cell σ c) (sg_qu σ (sg_co c))) x := hd
    by_cases e : x = sg_co c
    · rw [e, va_up_self] at hd
      rcases sg_ins_mem.mp hd with q | q
      · rw [q, e]; exact va_up_self _ _ _
      · rw [va_up_ne _ _ (hq _ c2 d q), e]; exact h3 _ c2 d q
    · rw [va_up_ne _ _ e] at hd
      rw [va_up_ne _ _ (hq x hx d hd)]
      exact h3 x hx d hd
  · have hd : va_up (sg_of σ) i none j = some d := hd
    by_cases e : j = i
    · subst e; rw [va_up_self] at hd; cases hd
    · rw [va_up_ne _ _ e] at hd
      have h6 := h3' j hj d hd
      rw [va_up_ne _ _ (fun q => by rw [q, hw] at h6; omega)]
      exact h6
  · show sg_sum (fun j => sg_o1 (va_up (sg_of σ) i none j)) 8 + sg_sum (fun o => (va_up (sg_qu σ) (sg_co c) (sg_ins (sg_kd σ (sg_co c)) (sg_cell σ c) (sg_qu σ (sg_co c))) o).length) 8 ≤ sg_ac σ
    have e := sg_sum_up (f := fun j => sg_o1 (sg_of σ j)) (g := fun j => sg_o1 (va_up (sg_of σ) i none j)) (o := i) (fun k hk => by show sg_o1 (va_up _ _ _ k) = _; rw [va_up_ne _ _ hk]) hi
    have f := sg_sum_up (f := fun o => (sg_qu σ o).length) (g := fun o => (va_up (sg_qu σ) (sg_co c) (sg_ins (sg_kd σ (sg_co c)) (sg_cell σ c) (sg_qu σ (sg_co c))) o).length) (o := sg_co c) (fun k hk => by show List.length (va_up _ _ _ k) = _; rw [va_up_ne _ _ hk]) c2
    try dsimp only at e f
    rw [va_up_self, hc] at e
    rw [va_up_self, sg_ins_len] at f
    have e1 : sg_o1 (some c) = 1 := rfl
    have e2 : sg_o1 none = 0 := rfl
    rw [e1, e2] at e
    have h5 : sg_sum (fun i => sg_o1 (sg_of σ i)) 8 + sg_sum (fun o => (sg_qu σ o).length) 8 ≤ sg_ac σ := h5
    omega
theorem sg_inv_come {σ : sg_S} {i : Nat} (h : sg_inv σ) (hi : i < 8) : sg_inv (sg_come σ i) := by
  unfold sg_come
  cases hc : sg_of σ i with
  | none => exact h
  | some c => exact sg_inv_come1 h hi hc
theorem sg_inv_comes {σ : sg_S} (h : sg_inv σ) : ∀ {n : Nat}, n ≤ 8 → sg_inv (sg_comes σ n) := by
  intro n
  induction n with
  | zero => intro _; exact h
  | succ n ih => intro hn; exact sg_inv_come (ih (by omega)) (by omega)
/-- the state behind the sending of c from output o -/
def sg_send1 (σ : sg_S) (o : Nat) (c : sg_Ce) (cs : List sg_Ce) : sg_S := (sg_kd σ, sg_wt σ, if cs = [] then va_up (sg_lt σ) o (fun _ => 0) else sg_lt σ, va_up (sg_qu σ) o cs, sg_of σ, sg_sl σ, sg_ac σ, va_up (sg_se σ) o (some c))
def sg_send0 (σ : sg_S) (o : Nat) : sg_S := (sg_kd σ, sg_wt σ, sg_lt σ, sg_qu σ, sg_of σ, sg_sl σ, sg_ac σ, va_up (sg_se σ) o none)
theorem sg_send_nil {σ : sg_S} {o : Nat} (h : sg_qu σ o = []) : sg_send σ o = sg_send0 σ o := by
  unfold sg_send; rw [h]; rfl
theorem sg_send_cons {σ : sg_S} {o : Nat} {c : sg_Ce} {cs : List sg_Ce} (h : sg_qu σ o = c :: cs) : sg_send σ o = sg_send1 σ o c cs := by
  unfold sg_send; rw [h]; rfl
theorem sg_held_send1 {σ : sg_S} {o : Nat} {c : sg_Ce} {cs : List sg_Ce} (h : sg_qu σ o = c :: cs) (ho : o < 8) (j : Nat) : sg_held (sg_send1 σ o c cs) j + (if sg_ci c = j then 1 else 0) = sg_held σ j := by
  show sg_o1 (sg_of σ j) + sg_sum (fun x => sg_cnt j (va_up (sg_qu σ) o cs x)) 8 + _ = sg_o1 (sg_of σ j) + sg_sum (fun o => sg_cnt j (sg_qu σ o)) 8
  have e := sg_sum_up (f := fun o => sg_cnt j (sg_qu σ o)) (g := fun x => sg_cnt j (va_up (sg_qu σ) o cs x)) (o := o) (fun k hk => by show sg_cnt j (va_up _ _ _ k) = _; rw [va_up_ne _ _ hk]) ho
  try dsimp only at e
  rw [va_up_self, h] at e
  have e2 : sg_cnt j (c :: cs) = (if sg_ci c = j then 1 else 0) + sg_cnt j cs := rfl
  rw [e2] at e
  omega
theorem sg_inv_send {σ : sg_S} {o : Nat} (h : sg_inv σ) (ho : o < 8) : sg_inv (sg_send σ o) := by
  cases hq : sg_qu σ o with
  | nil => rw [sg_send_nil hq]; exact h
  | cons c cs =>
    rw [sg_send_cons hq]
    obtain ⟨h1, h2, ⟨w, h3, h3'⟩, h4, h5⟩ := h
    have hsub : ∀ x, ∀ d ∈ va_up (sg_qu σ) o cs x, d ∈ sg_qu σ x := fun x d hd => by
      by_cases e : x = o
      · subst e; rw [va_up_self] at hd; rw [hq]; exact List.mem_cons_of_mem _ hd
      · rw [va_up_ne _ _ e] at hd; exact hd
    refine ⟨fun x hx => ?_, fun j hj => ⟨?_, (h2 j hj).2⟩, ⟨w, fun x hx d hd => h3 x hx d (hsub x d hd), h3'⟩, h4, ?_⟩
    · obtain ⟨a1, a2, a3, a4⟩ := h1 x hx
      refine ⟨a1, ?_, ?_, fun d hd => a4 d (hsub x d hd)⟩
      · show sg_ord (sg_kd σ x) (va_up (sg_qu σ) o cs x)
        by_cases e : x = o
        · subst e; rw [va_up_self]; rw [hq] at a2; exact sg_ord_tail a2
        · rw [va_up_ne _ _ e]; exact a2
      · show ((va_up (sg_qu σ) o cs x).map sg_cs).Nodup
        by_cases e : x = o
        · subst e; rw [va_up_self]; rw [hq, List.map_cons, List.nodup_cons] at a3; exact a3.2
        · rw [va_up_ne _ _ e]; exact a3
    · have := sg_held_send1 hq ho j
      have := (h2 j hj).1
      omega
    · show sg_sum (fun j => sg_o1 (sg_of σ j)) 8 + sg_sum (fun x => (va_up (sg_qu σ) o cs x).length) 8 ≤ sg_ac σ
      have f := sg_sum_up (f := fun o => (sg_qu σ o).length) (g := fun x => (va_up (sg_qu σ) o cs x).length) (o := o) (fun k hk => by show List.length (va_up _ _ _ k) = _; rw [va_up_ne _ _ hk]) ho
      try dsimp only at f
      rw [va_up_self, hq] at f
      have e2 : (c :: cs).length = cs.length + 1 := rfl
      rw [e2] at f
      have h5 : sg_sum (fun i => sg_o1 (sg_of σ i)) 8 + sg_sum (fun o => (sg_qu σ o).length) 8 ≤ sg_ac σ := h5
      omega
theorem sg_inv_sends {σ : sg_S} (h : sg_inv σ) : ∀ {n : Nat}, n ≤ 8 → sg_inv (sg_sends σ n) := by
  intro n
  induction n with
  | zero => intro _; exact h
  | succ n ih => intro hn; exact sg_inv_send (ih (by omega)) (by omega)
theorem sg_inv_slot {σ : sg_S} (h : sg_inv σ) : sg_inv (sg_slot σ) := sg_inv_tick (sg_inv_sends (sg_inv_comes h (Nat.le_refl 8)) (Nat.le_refl 8)) _
theorem sg_inv_reset {σ : sg_S} (h : sg_inv σ) : sg_inv (sg_reset σ) := by
  obtain ⟨h1, h2, h3, h4, h5⟩ := h
  refine ⟨fun o ho => ⟨(h1 o ho).1, sg_ord_nil _, List.nodup_nil, fun c hc => absurd hc List.not_mem_nil⟩, fun i _ => ⟨?_, fun c hc => by cases hc⟩, ⟨fun _ => 0, fun o _ c hc => absurd hc List.not_mem_nil, fun i _ c hc => by cases hc⟩, h4, ?_⟩
  · show 0 + sg_sum (fun _ => 0) 8 ≤ 64
    decide
  · show sg_sum (fun _ => 0) 8 + sg_sum (fun _ => 0) 8 ≤ sg_ac σ
    rw [sg_sum_0]; omega
theorem sg_len_le {σ : sg_S} (h : sg_inv σ) {o : Nat} (ho : o < 8) : (sg_qu σ o).length ≤ sg_ac σ := by
  have h5 : sg_sum (fun i => sg_o1 (sg_of σ i)) 8 + sg_sum (fun o => (sg_qu σ o).length) 8 ≤ sg_ac σ := h.2.2.2.2
  have := sg_sum_le (f := fun o => (sg_qu σ o).length) ho
  try dsimp only at this
  omega
theorem sg_len_lt {σ : sg_S} (h : sg_inv σ) {i o : Nat} (hi : i < 8) (ho : o < 8) {c : sg_Ce} (hc : sg_of σ i = some c) : (sg_qu σ o).length < sg_ac σ := by
  have h5 : sg_sum (fun i => sg_o1 (sg_of σ i)) 8 + sg_sum (fun o => (sg_qu σ o).length) 8 ≤ sg_ac σ := h.2.2.2.2
  have e1 := sg_sum_le (f := fun o => (sg_qu σ o).length) ho
  have e2 := sg_sum_le (f := fun i => sg_o1 (sg_of σ i)) hi
  try dsimp only at e1 e2
  rw [hc] at e2
  have e3 : sg_o1 (some c) = 1 := rfl
  omega
theorem sg_ac_come (σ : sg_S) (i : Nat) : sg_ac (sg_come σ i) = sg_ac σ := by
  unfold sg_come; cases sg_of σ i <;> rfl
theorem sg_ac_comes (σ : sg_S) : ∀ n, sg_ac (sg_comes σ n) = sg_ac σ := by
  intro n
  induction n with
  | zero => rfl
  | succ n ih => show sg_ac (sg_come (sg_comes σ n) n) = _; rw [sg_ac_come, ih]
theorem sg_ac_send (σ : sg_S) (o : Nat) : sg_ac (sg_send σ o) = sg_ac σ := by
  unfold sg_send; cases sg_qu σ o <;> rfl
theorem sg_ac_sends (σ : sg_S) : ∀ n, sg_ac (sg_sends σ n) = sg_ac σ := by
  intro n
  induction n with
  | zero => rfl
  | succ n ih => show sg_ac (sg_send (sg_sends σ n) n) = _; rw [sg_ac_send, ih]
end
section
/-! What the calls answer and do, of the mathematical switch. -/
def sg_ix (x : Int32) : Option Nat := if 0 ≤ x ∧ x < 8 then some x.toNatClampNeg else none
theorem sg_ix_nI {k : Nat} (h : k < 8) : sg_ix (nI k) = some k := by
  have h1 : 0 ≤ nI k := nI_pos' (by omega)
  have h2 : nI k < 8 := nI_lt (b := 8) h (by decide)
  unfold sg_ix
  rw [if_pos ⟨h1, h2⟩, nI_clamp (by omega)]
theorem sg_ix_neg {x : Int32} (h : x < 0) : sg_ix x = none := by
  unfold sg_ix
  rw [if_neg]
  intro q
  exact absurd q.1 (Int32.not_le.mpr h)
theorem sg_ix_big {x : Int32} (h : ¬ x < 8) : sg_ix x = none := by
  unfold sg_ix
  rw [if_neg]
  intro q
  exact h q.2
theorem sg_ix_or (x : Int32) : (sg_ix x = none ∧ ¬ (0 ≤ x ∧ x < 8)) ∨ ∃ k, k < 8 ∧ x = nI k ∧ sg_ix x = some k := by
  by_cases h : 0 ≤ x ∧ x < 8
  · right
    obtain ⟨k, hk, e⟩ := nI_of (x := x) (Int32.not_lt.mpr h.1)
    subst e
    have : k < 8 := (nI_ltI (b := 8) hk (by decide)).mp h.2
    exact ⟨k, this, rfl, sg_ix_nI this⟩
  · left
    exact ⟨by unfold sg_ix; rw [if_neg h], h⟩
def sg_port (x : Int32) : Int32 := match sg_ix x with
  | none => 0
  | some _ => 1
def sg_latest (σ : sg_S) (x : Int32) : Option sg_Ce := match sg_ix x with
  | none => none
  | some o => sg_se σ o
def an_hasSent (σ : sg_S) (x : Int32) : Int32 := match sg_latest σ x with
  | none => 0
  | some _ => 1
def an_sent (σ : sg_S) (x : Int32) : Int32 := match sg_latest σ x with
  | none => 0
  | some c => sg_ct c
def an_sentFrom (σ : sg_S) (x : Int32) : Int32 := match sg_latest σ x with
  | none => -1
  | some c => nI (sg_ci c)
def an_waited (σ : sg_S) (x : Int32) : Int32 := match sg_latest σ x with
  | none => -1
  | some c => sg_sl σ - 1 - sg_cc c
def an_inside (σ : sg_S) (x : Int32) : Int32 := match sg_ix x with
  | none => -1
  | some i => nI (sg_held σ i)
def an_waiting (σ : sg_S) (x : Int32) : Int32 := match sg_ix x with
  | none => -1
  | some o => nI (sg_qu σ o).length
def sg_kth (σ : sg_S) (x k : Int32) : Option sg_Ce := match sg_ix x with
  | none => none
  | some o => if k < 0 then none else (sg_qu σ o)[k.toNatClampNeg]?
def an_first (σ : sg_S) (x k : Int32) : Int32 := match sg_kth σ x k with
  | none => -1
  | some c => nI (sg_ci c)
def an_time (σ : sg_S) (x k : Int32) : Int64 := match sg_kth σ x k with
  | none => -1
  | some c => sg_cm c
/-- some cell is offered for o -/
def sg_offTo (σ : sg_S) (o : Nat) : Prop := ∃ i, i < 8 ∧ ∃ c, sg_of σ i = some c ∧ sg_co c = o
def tr_ok (σ : sg_S) (o : Nat) (k : Int32) : Prop := 0 ≤ k ∧ k ≤ 2 ∧ sg_qu σ o = [] ∧ ¬ sg_offTo σ o
/-- setOrder: answer r and new state τ -/
def tr_setOrder (σ : sg_S) (x k r : Int32) (τ : sg_S) : Prop := (∃ o, sg_ix x = some o ∧ tr_ok σ o k ∧ r = 1 ∧ τ = sg_setO σ o k) ∨ ((∀ o, sg_ix x = some o → ¬ tr_ok σ o k) ∧ r = 0 ∧ τ = σ)
theorem tr_setOrder_1 {σ : sg_S} {x k r r' : Int32} {τ τ' : sg_S} (h : tr_setOrder σ x k r τ) (h' : tr_setOrder σ x k r' τ') : r = r' ∧ τ = τ' := by
  rcases h with ⟨o, a, b, c, d⟩ | ⟨b, c, d⟩ <;> rcases h' with ⟨o', a', b', c', d'⟩ | ⟨b', c', d'⟩
  · rw [a] at a'; cases a'; exact ⟨c.trans c'.symm, d.trans d'.symm⟩
  · exact absurd b (b' o a)
  · exact absurd b' (b o' a')
  · exact ⟨c.trans c'.symm, d.trans d'.symm⟩
def tr_setWeight (σ : sg_S) (x y w r : Int32) (τ : sg_S) : Prop := (∃ o g, sg_ix x = some o ∧ sg_ix y = some g ∧ (1 ≤ w ∧ w ≤ 255) ∧ r = 1 ∧ τ = sg_setW σ o g w) ∨ ((sg_ix x = none ∨ sg_ix y = none ∨ ¬ (1 ≤ w ∧ w ≤ 255)) ∧ r = 0 ∧ τ = σ)
theorem tr_setWeight_1 {σ : sg_S} {x y w r r' : Int32} {τ τ' : sg_S} (h : tr_setWeight σ x y w r τ) (h' : tr_setWeight σ x y w r' τ') : r = r' ∧ τ = τ' := by
  rcases h with ⟨o, g, a, b, e, c, d⟩ | ⟨b, c, d⟩ <;> rcases h' with ⟨o', g', a', b', e', c', d'⟩ | ⟨b', c', d'⟩
  · rw [a] at a'; rw [b] at b'; cases a'; cases b'; exact ⟨c.trans c'.symm, d.trans d'.symm⟩
  · rcases b' with q | q | q
    · rw [a] at q; cases q
    · rw [b] at q; cases q
    · exact absurd e q
  · rcases b with q | q | q
    · rw [a'] at q; cases q
    · rw [b'] at q; cases q
    · exact absurd e' q
  · exact ⟨c.trans c'.symm, d.trans d'.symm⟩
def tr_offer (σ : sg_S) (x y z t r : Int32) (τ : sg_S) : Prop := (∃ i o g, sg_ix x = some i ∧ sg_ix y = some o ∧ sg_ix z = some g ∧ sg_of σ i = none ∧ sg_held σ i < 64 ∧ r = 1 ∧ τ = sg_offer σ i o g t) ∨ ((sg_ix x = none ∨ sg_ix y = none ∨ sg_ix z = none ∨ ∃ i, sg_ix x = some i ∧ (sg_of σ i ≠ none ∨ ¬ sg_held σ i < 64)) ∧ r = 0 ∧ τ = σ)
theorem tr_offer_1 {σ : sg_S} {x y z t r r' : Int32} {τ τ' : sg_S} (h : tr_offer σ x y z t r τ) (h' : tr_offer σ x y z t r' τ') : r = r' ∧ τ = τ' := by
  have key : ∀ {i o g : Nat}, sg_ix x = some i → sg_ix y = some o → sg_ix z = some g → sg_of σ i = none → sg_held σ i < 64 → ¬ (sg_ix x = none ∨ sg_ix y = none ∨ sg_ix z = none ∨ ∃ i, sg_ix x = some i ∧ (sg_of σ i ≠ none ∨ ¬ sg_held σ i < 64)) := by
    intro i o g a b c d e q
    rcases q with q | q | q | ⟨j, q, q2⟩
    · rw [a] at q; cases q
    · rw [b] at q; cases q
    · rw [c] at q; cases q
    · rw [a] at q; cases q
      rcases q2 with q2 | q2
      · exact q2 d
      · exact q2 e
  rcases h with ⟨i, o, g, a, b, c, d, e, f1, f2⟩ | ⟨b, c, d⟩ <;> rcases h' with ⟨i', o', g', a', b', c', d', e', f1', f2'⟩ | ⟨b', c', d'⟩
  · rw [a] at a'; rw [b] at b'; rw [c] at c'; cases a'; cases b'; cases c'; exact ⟨f1.trans f1'.symm, f2.trans f2'.symm⟩
  · exact absurd b' (key a b c d e)
  · exact absurd b (key a' b' c' d' e')
  · exact ⟨c.trans c'.symm, d.trans d'.symm⟩
theorem tr_setOrder_inv {σ : sg_S} {x k r : Int32} {τ : sg_S} (h : tr_setOrder σ x k r τ) (hi : sg_inv σ) : sg_inv τ ∧ sg_ac τ = sg_ac σ := by
  rcases h with ⟨o, a, b, c, d⟩ | ⟨b, c, d⟩
  · subst d
    refine ⟨sg_inv_setO hi ?_ b.2.2.1, rfl⟩
    obtain ⟨j, hj, e⟩ := nI_of2 (M := 2) (n := 2) rfl (Int32.not_lt.mpr b.1) b.2.1
    subst e
    rcases (show j = 0 ∨ j = 1 ∨ j = 2 by omega) with e | e | e <;> subst e
    · exact Or.inl rfl
    · exact Or.inr (Or.inl rfl)
    · exact Or.inr (Or.inr rfl)
  · subst d; exact ⟨hi, rfl⟩
theorem tr_setWeight_inv {σ : sg_S} {x y w r : Int32} {τ : sg_S} (h : tr_setWeight σ x y w r τ) (hi : sg_inv σ) : sg_inv τ ∧ sg_ac τ = sg_ac σ := by
  rcases h with ⟨o, g, a, b, e, c, d⟩ | ⟨b, c, d⟩
  · subst d
    exact ⟨sg_inv_setW hi (fun q => by rw [q] at e; exact absurd e.1 (by decide)), rfl⟩
  · subst d; exact ⟨hi, rfl⟩
theorem sg_ix_lt {x : Int32} {k : Nat} (h : sg_ix x = some k) : k < 8 ∧ x = nI k := by
  rcases sg_ix_or x with q | ⟨j, h1, h2, h3⟩
  · rw [q.1] at h; cases h
  · rw [h3] at h; cases h; exact ⟨h1, h2⟩
theorem tr_offer_inv {σ : sg_S} {x y z t r : Int32} {τ : sg_S} (h : tr_offer σ x y z t r τ) (hi : sg_inv σ) : sg_inv τ ∧ sg_ac τ ≤ sg_ac σ + 1 := by
  rcases h with ⟨i, o, g, a, b, c, d, e, f1, f2⟩ | ⟨b, c, d⟩
  · subst f2
    exact ⟨sg_inv_offer hi (sg_ix_lt a).1 (sg_ix_lt b).1 (sg_ix_lt c).1 d e, Nat.le_refl _⟩
  · subst d; exact ⟨hi, Nat.le_succ _⟩
theorem sg_port_none {x : Int32} (h : sg_ix x = none) : sg_port x = 0 := by unfold sg_port; rw [h]
theorem sg_port_some {x : Int32} {k : Nat} (h : sg_ix x = some k) : sg_port x = 1 := by unfold sg_port; rw [h]
theorem sg_port_neg {x : Int32} (h : x < 0) : 0 = sg_port x := (sg_port_none (sg_ix_neg h)).symm
theorem sg_port_big {x : Int32} (h : 8 ≤ x) : 0 = sg_port x := (sg_port_none (sg_ix_big (Int32.not_lt.mpr h))).symm
theorem sg_port_in {x : Int32} (h : ¬ x < 0) (h' : ¬ 8 ≤ x) : 1 = sg_port x := by
  rcases sg_ix_or x with q | ⟨k, hk, e, q⟩
  · exact absurd ⟨Int32.not_lt.mp h, Int32.not_le.mp h'⟩ q.2
  · exact (sg_port_some q).symm
theorem sg_latest_n {σ : sg_S} {x : Int32} (h : sg_ix x = none) : sg_latest σ x = none := by unfold sg_latest; rw [h]
theorem sg_latest_s {σ : sg_S} {x : Int32} {k : Nat} (h : sg_ix x = some k) : sg_latest σ x = sg_se σ k := by unfold sg_latest; rw [h]
theorem sg_kth_n {σ : sg_S} {x k : Int32} (h : sg_ix x = none) : sg_kth σ x k = none := by unfold sg_kth; rw [h]
theorem sg_kth_neg {σ : sg_S} {x k : Int32} (h : k < 0) : sg_kth σ x k = none := by
  unfold sg_kth
  cases sg_ix x with
  | none => rfl
  | some o => exact if_pos h
theorem sg_kth_s {σ : sg_S} {x : Int32} {o : Nat} (h : sg_ix x = some o) {k : Nat} (hk : k < 2 ^ 31) : sg_kth σ x (nI k) = (sg_qu σ o)[k]? := by
  unfold sg_kth
  rw [h]
  show (if nI k < 0 then none else _) = _
  rw [if_neg (nI_pos hk), nI_clamp hk]
theorem an_hasSent_n {σ : sg_S} {x : Int32} (h : sg_latest σ x = none) : 0 = an_hasSent σ x := by simp only [an_hasSent, h]
theorem an_hasSent_s {σ : sg_S} {x : Int32} {d : sg_Ce} (h : sg_latest σ x = some d) : 1 = an_hasSent σ x := by simp only [an_hasSent, h]
theorem an_sent_n {σ : sg_S} {x : Int32} (h : sg_latest σ x = none) : 0 = an_sent σ x := by simp only [an_sent, h]
theorem an_sent_s {σ : sg_S} {x : Int32} {d : sg_Ce} (h : sg_latest σ x = some d) : sg_ct d = an_sent σ x := by simp only [an_sent, h]
theorem an_sentFrom_n {σ : sg_S} {x : Int32} (h : sg_latest σ x = none) : -1 = an_sentFrom σ x := by simp only [an_sentFrom, h]
theorem an_sentFrom_s {σ : sg_S} {x : Int32} {d : sg_Ce} (h : sg_latest σ x = some d) : nI (sg_ci d) = an_sentFrom σ x := by simp only [an_sentFrom, h]
theorem an_waited_n {σ : sg_S} {x : Int32} (h : sg_latest σ x = none) : -1 = an_waited σ x := by simp only [an_waited, h]
theorem an_waited_s {σ : sg_S} {x : Int32} {d : sg_Ce} (h : sg_latest σ x = some d) : sg_sl σ - 1 - sg_cc d = an_waited σ x := by simp only [an_waited, h]
theorem an_inside_n {σ : sg_S} {x : Int32} (h : sg_ix x = none) : -1 = an_inside σ x := by simp only [an_inside, h]
theorem an_inside_s {σ : sg_S} {x : Int32} {k : Nat} (h : sg_ix x = some k) : nI (sg_held σ k) = an_inside σ x := by simp only [an_inside, h]
theorem an_waiting_n {σ : sg_S} {x : Int32} (h : sg_ix x = none) : -1 = an_waiting σ x := by simp only [an_waiting, h]
theorem an_waiting_s {σ : sg_S} {x : Int32} {k : Nat} (h : sg_ix x = some k) : nI (sg_qu σ k).length = an_waiting σ x := by simp only [an_waiting, h]
theorem an_first_n {σ : sg_S} {x k : Int32} (h : sg_kth σ x k = none) : -1 = an_first σ x k := by simp only [an_first, h]
theorem an_first_s {σ : sg_S} {x k : Int32} {d : sg_Ce} (h : sg_kth σ x k = some d) : nI (sg_ci d) = an_first σ x k := by simp only [an_first, h]
theorem an_time_n {σ : sg_S} {x k : Int32} (h : sg_kth σ x k = none) : -1 = an_time σ x k := by simp only [an_time, h]
theorem an_time_s {σ : sg_S} {x k : Int32} {d : sg_Ce} (h : sg_kth σ x k = some d) : sg_cm d = an_time σ x k := by simp only [an_time, h]
theorem sg_kth_or (σ : sg_S) (x k : Int32) : (sg_ix x = none) ∨ (∃ o, o < 8 ∧ x = nI o ∧ sg_ix x = some o ∧ k < 0) ∨ (∃ o j, o < 8 ∧ x = nI o ∧ sg_ix x = some o ∧ j < 2 ^ 31 ∧ k = nI j ∧ (sg_qu σ o).length ≤ j) ∨ ∃ o j, o < 8 ∧ x = nI o ∧ sg_ix x = some o ∧ j < 2 ^ 31 ∧ k = nI j ∧ j < (sg_qu σ o).length := by
  rcases sg_ix_or x with h | ⟨o, h1, h2, h3⟩
  · exact Or.inl h.1
  · right
    by_cases hk : k < 0
    · exact Or.inl ⟨o, h1, h2, h3, hk⟩
    · right
      obtain ⟨j, hj, e⟩ := nI_of hk
      by_cases hl : j < (sg_qu σ o).length
      · exact Or.inr ⟨o, j, h1, h2, h3, hj, e, hl⟩
      · exact Or.inl ⟨o, j, h1, h2, h3, hj, e, Nat.le_of_not_lt hl⟩
theorem sg_ok_or (x k : Int32) : (sg_ix x = none) ∨ (∃ o, o < 8 ∧ x = nI o ∧ sg_ix x = some o ∧ ¬ (0 ≤ k ∧ k ≤ 2)) ∨ ∃ o, o < 8 ∧ x = nI o ∧ sg_ix x = some o ∧ (0 ≤ k ∧ k ≤ 2) := by
  rcases sg_ix_or x with h | ⟨o, h1, h2, h3⟩
  · exact Or.inl h.1
  · by_cases hk : 0 ≤ k ∧ k ≤ 2
    · exact Or.inr (Or.inr ⟨o, h1, h2, h3, hk⟩)
    · exact Or.inr (Or.inl ⟨o, h1, h2, h3, hk⟩)
theorem sw_len0 {l : List sg_Ce} (hl : l.length ≤ 512) (h : ¬ 0 < nI l.length) : l = [] := by
  cases l with
  | nil => rfl
  | cons c cs =>
    exfalso
    apply h
    have := nI_lt (a := 0) (b := (c :: cs).length) (Nat.succ_pos _) (by omega)
    rw [nI_0] at this
    exact this
end
section
/-! THE CLASS'S PICTURE: what the cells of an EvenSwitch are in a state σ. ow colours the addresses: o: a cell in output o's order, 8+i: offered to i, 16+o: sent latest by o, 24+i: input, 32+o: output, 40+o: its steps, 48+o: its last times, 56 .. 58: the switch and its two arrays, 99: foreign. -/
abbrev sw_F (c : sg_Ce) (nx : Option Nat) : List Value := [.int (nI (sg_ci c)), .int (nI (sg_co c)), .int (nI (sg_cg c)), .int (sg_ct c), .long (lN (sg_cs c)), .int (sg_cc c), .long (sg_cm c), va_rf nx]
abbrev sw_c (c : sg_Ce) (nx : Option Nat) : va_E := .inr (ix_ce, sw_F c nx)
abbrev sw_o (kd : Int32) (sp lp : Nat) (hd : Option Nat) (n : Int32) (la : Option Nat) : va_E := .inr (ix_ou, [.int kd, .ref sp, .ref lp, va_rf hd, .int n, va_rf la])
abbrev sw_i (oa : Option Nat) (n : Int32) : va_E := .inr (ix_in, [va_rf oa, .int n])
abbrev sw_s (aI aO : Nat) (sl : Int32) (ac : Int64) : va_E := .inr (ix_sw, [.ref aI, .ref aO, .int sl, .long ac])
def sw_hd (L : List Nat) (nx : Option Nat) : Option Nat := match L with
  | [] => nx
  | y :: _ => some y
/-- a chain of cells, whose last one's next is nx -/
def sw_sg (M : hp_M) : List Nat → List sg_Ce → Option Nat → Prop
  | [], [], _ => True
  | x :: xs, c :: cs, nx => M x = some (sw_c c (sw_hd xs nx)) ∧ sw_sg M xs cs nx
  | _, _, _ => False
theorem sw_hd_app (K L : List Nat) (nx : Option Nat) : sw_hd (K ++ L) nx = sw_hd K (sw_hd L nx) := by
  cases K <;> rfl
theorem sw_sg_len {M : hp_M} {nx : Option Nat} : ∀ {L : List Nat} {cs : List sg_Ce}, sw_sg M L cs nx → L.length = cs.length := by
  intro L
  induction L with
  | nil =>
    intro cs h
    cases cs with
    | nil => rfl
    | cons c cs => exact absurd h (fun q => q)
  | cons x xs ih =>
    intro cs h
    cases cs with
    | nil => exact absurd h (fun q => q)
    | cons c cs => exact congrArg (· + 1) (ih h.2)
theorem sw_sg_app {M : hp_M} {L : List Nat} {cs : List sg_Ce} {nx : Option Nat} : ∀ {K : List Nat} {kc : List sg_Ce}, K.length = kc.length → (sw_sg M (K ++ L) (kc ++ cs) nx ↔ sw_sg M K kc (sw_hd L nx) ∧ sw_sg M L cs nx) := by
  intro K
  induction K with
  | nil =>
    intro kc h
    cases kc with
    | nil => exact ⟨fun q => ⟨trivial, q⟩, fun q => q.2⟩
    | cons c kc => simp at h
  | cons x xs ih =>
    intro kc h
    cases kc with
    | nil => simp at h
    | cons c kc =>
      have h1 := ih (kc := kc) (by simpa using h)
      show (M x = some (sw_c c (sw_hd (xs ++ L) nx)) ∧ sw_sg M (xs ++ L) (kc ++ cs) nx) ↔ (M x = some (sw_c c (sw_hd xs (sw_hd L nx))) ∧ sw_sg M xs kc (sw_hd L nx)) ∧ sw_sg M L cs nx
      rw [sw_hd_app, h1]
      exact ⟨fun q => ⟨⟨q.1, q.2.1⟩, q.2.2⟩, fun q => ⟨q.1.1, q.1.2, q.2⟩⟩
theorem sw_sg_kept {M M' : hp_M} {nx : Option Nat} : ∀ {L : List Nat} {cs : List sg_Ce}, sw_sg M L cs nx → (∀ x ∈ L, M' x = M x) → sw_sg M' L cs nx := by
  intro L
  induction L with
  | nil =>
    intro cs h _
    cases cs with
    | nil => trivial
    | cons c cs => exact absurd h (fun q => q)
  | cons x xs ih =>
    intro cs h hk
    cases cs with
    | nil => exact absurd h (fun q => q)
    | cons c cs => exact ⟨by rw [hk x List.mem_cons_self]; exact h.1, ih h.2 (fun y hy => hk y (List.mem_cons_of_mem _ hy))⟩
/-- a place that holds a cell or nothing -/
def sw_one (M : hp_M) (ow : Nat → Nat) (w : Nat) (a : Option Nat) (c : Option sg_Ce) : Prop := match a, c with
  | none, none => True
  | some x, some d => M x = some (sw_c d none) ∧ ow x = w
  | _, _ => False
theorem sw_one_n {M : hp_M} {ow : Nat → Nat} {w : Nat} : sw_one M ow w none none := trivial
theorem sw_one_no {M : hp_M} {ow : Nat → Nat} {w : Nat} {c : Option sg_Ce} (h : sw_one M ow w none c) : c = none := by
  cases c with
  | none => rfl
  | some d => exact absurd h (fun q => q)
theorem sw_one_yes {M : hp_M} {ow : Nat → Nat} {w x : Nat} {c : Option sg_Ce} (h : sw_one M ow w (some x) c) : ∃ d, c = some d ∧ M x = some (sw_c d none) ∧ ow x = w := by
  cases c with
  | none => exact absurd h (fun q => q)
  | some d => exact ⟨d, rfl, h.1, h.2⟩
theorem sw_one_kept {M M' : hp_M} {ow ow' : Nat → Nat} {w : Nat} {a : Option Nat} {c : Option sg_Ce} (h : sw_one M ow w a c) (hk : ∀ x, ow x = w → ow' x = ow x ∧ M' x = M x) : sw_one M' ow' w a c := by
  cases a with
  | none => exact (sw_one_no h) ▸ trivial
  | some x =>
    obtain ⟨d, rfl, h1, h2⟩ := sw_one_yes h
    obtain ⟨k1, k2⟩ := hk x h2
    exact ⟨by rw [k2]; exact h1, by rw [k1]; exact h2⟩
def sw_In (M : hp_M) (ow : Nat → Nat) (fI oa : Nat → Option Nat) (ip : Nat → Nat) (i h : Nat) (c : Option sg_Ce) : Prop := fI i = some (ip i) ∧ M (ip i) = some (sw_i (oa i) (nI h)) ∧ ow (ip i) = 24 + i ∧ sw_one M ow (8 + i) (oa i) c
def sw_Ou (D : va_G) (M : hp_M) (ow : Nat → Nat) (fO la : Nat → Option Nat) (op sp lp : Nat → Nat) (LQ : Nat → List Nat) (o : Nat) (kd : Int32) (wt : Nat → Int32) (lt : Nat → Int64) (qu : List sg_Ce) (se : Option sg_Ce) : Prop :=
  fO o = some (op o) ∧ M (op o) = some (sw_o kd (sp o) (lp o) (sw_hd (LQ o) none) (nI qu.length) (la o)) ∧ ow (op o) = 32 + o ∧
  (∃ f, M (sp o) = some (hp_ai D 8 f) ∧ ∀ g, g < 8 → f g = sg_step (wt g)) ∧ ow (sp o) = 40 + o ∧
  (∃ f, M (lp o) = some (hp_al D 8 f) ∧ ∀ g, g < 8 → f g = lt g) ∧ ow (lp o) = 48 + o ∧
  (sw_sg M (LQ o) qu none ∧ (LQ o).Nodup ∧ ∀ x ∈ LQ o, ow x = o) ∧ sw_one M ow (16 + o) (la o) se
theorem sw_In_kept {M M' : hp_M} {ow ow' : Nat → Nat} {fI oa : Nat → Option Nat} {ip : Nat → Nat} {i h : Nat} {c : Option sg_Ce} (q : sw_In M ow fI oa ip i h c) (hk : ∀ x, ow x = 8 + i ∨ ow x = 24 + i → ow' x = ow x ∧ M' x = M x) : sw_In M' ow' fI oa ip i h c := by
  obtain ⟨q1, q2, q3, q4⟩ := q
  obtain ⟨k1, k2⟩ := hk _ (Or.inr q3)
  exact ⟨q1, by rw [k2]; exact q2, by rw [k1]; exact q3, sw_one_kept q4 (fun x hx => hk x (Or.inl hx))⟩
theorem sw_Ou_kept {D : va_G} {M M' : hp_M} {ow ow' : Nat → Nat} {fO la la' : Nat → Option Nat} {op sp lp : Nat → Nat} {LQ LQ' : Nat → List Nat} {o : Nat} {kd : Int32} {wt : Nat → Int32} {lt : Nat → Int64} {qu : List sg_Ce} {se : Option sg_Ce} (q : sw_Ou D M ow fO la op sp lp LQ o kd wt lt qu se) (hk : ∀ x, ow x = o ∨ ow x = 16 + o ∨ ow x = 32 + o ∨ ow x = 40 + o ∨ ow x = 48 + o → ow' x = ow x ∧ M' x = M x) (hla : la' o = la o) (hLQ : LQ' o = LQ o) : sw_Ou D M' ow' fO la' op sp lp LQ' o kd wt lt qu se := by
  obtain ⟨q1, q2, q3, ⟨f, q4, q4'⟩, q5, ⟨f2, q6, q6'⟩, q7, ⟨q8, q9, q10⟩, q11⟩ := q
  have k3 := hk _ (Or.inr (Or.inr (Or.inl q3)))
  have k5 := hk _ (Or.inr (Or.inr (Or.inr (Or.inl q5))))
  have k7 := hk _ (Or.inr (Or.inr (Or.inr (Or.inr q7))))
  unfold sw_Ou
  rw [hla, hLQ, k3.1, k3.2, k5.1, k5.2, k7.1, k7.2]
  exact ⟨q1, q2, q3, ⟨f, q4, q4'⟩, q5, ⟨f2, q6, q6'⟩, q7, ⟨sw_sg_kept q8 (fun x hx => (hk x (Or.inl (q10 x hx))).2), q9, fun x hx => by rw [(hk x (Or.inl (q10 x hx))).1]; exact q10 x hx⟩, sw_one_kept q11 (fun x hx => hk x (Or.inr (Or.inl hx)))⟩
def sw_P (D : va_G) (M : hp_M) (a : Nat) (σ : sg_S) (hh : Nat → Nat) (F : Nat → Prop) (aI aO : Nat) (fI fO oa la : Nat → Option Nat) (ip op sp lp : Nat → Nat) (LQ : Nat → List Nat) (ow : Nat → Nat) : Prop :=
  (M a = some (sw_s aI aO (sg_sl σ) (lN (sg_ac σ))) ∧ M aI = some (hp_aq D 12 8 fI) ∧ M aO = some (hp_aq D 13 8 fO)) ∧
  (ow a = 56 ∧ ow aI = 57 ∧ ow aO = 58) ∧
  (∀ i, i < 8 → sw_In M ow fI oa ip i (hh i) (sg_of σ i)) ∧
  (∀ o, o < 8 → sw_Ou D M ow fO la op sp lp LQ o (sg_kd σ o) (sg_wt σ o) (sg_lt σ o) (sg_qu σ o) (sg_se σ o)) ∧
  ∀ x, F x → ow x = 99 ∧ M x ≠ none
def sw_H (D : va_G) (M : hp_M) (a : Nat) (σ : sg_S) (F : Nat → Prop) : Prop := ∃ (aI aO : Nat) (fI fO oa la : Nat → Option Nat) (ip op sp lp : Nat → Nat) (LQ : Nat → List Nat) (ow : Nat → Nat), sw_P D M a σ (sg_held σ) F aI aO fI fO oa la ip op sp lp LQ ow
/-- nothing foreign has changed -/
def sw_fr (F : Nat → Prop) (M M' : hp_M) : Prop := ∀ x, F x → M' x = M x
theorem sw_fr_rf {F : Nat → Prop} {M : hp_M} : sw_fr F M M := fun _ _ => rfl
theorem sw_fr_tr {F : Nat → Prop} {M M' M'' : hp_M} (h : sw_fr F M M') (h' : sw_fr F M' M'') : sw_fr F M M'' := fun x hx => (h' x hx).trans (h x hx)
/-- a foreign change leaves the picture -/
theorem sw_H_kept {D : va_G} {M M' : hp_M} {a : Nat} {σ : sg_S} {F : Nat → Prop} (h : sw_H D M a σ F) (hk : ∀ x, ¬ F x → M' x = M x) (hF : ∀ x, F x → M' x ≠ none) : sw_H D M' a σ F := by
  obtain ⟨aI, aO, fI, fO, oa, la, ip, op, sp, lp, LQ, ow, ⟨h1, h2, h3⟩, ⟨w1, w2, w3⟩, hi, ho, hf⟩ := h
  have k : ∀ x, ow x ≠ 99 → ow x = ow x ∧ M' x = M x := fun x hx => ⟨rfl, hk x (fun q => hx (hf x q).1)⟩
  refine ⟨aI, aO, fI, fO, oa, la, ip, op, sp, lp, LQ, ow, ⟨?_, ?_, ?_⟩, ⟨w1, w2, w3⟩, fun i hi' => ?_, fun o ho' => ?_, fun x hx => ⟨(hf x hx).1, hF x hx⟩⟩
  · rw [(k a (by omega)).2]; exact h1
  · rw [(k aI (by omega)).2]; exact h2
  · rw [(k aO (by omega)).2]; exact h3
  · exact sw_In_kept (hi i hi') (fun x hx => k x (by omega))
  · exact sw_Ou_kept (ho o ho') (fun x hx => k x (by omega)) rfl rfl
theorem sw_one_or {M : hp_M} {ow : Nat → Nat} {w : Nat} {a : Option Nat} {c : Option sg_Ce} (h : sw_one M ow w a c) : (a = none ∧ c = none) ∨ ∃ (q : Nat) (d : sg_Ce) (nx : Option Nat), a = some q ∧ c = some d ∧ M q = some (sw_c d nx) := by
  cases a with
  | none => exact Or.inl ⟨rfl, sw_one_no h⟩
  | some q =>
    obtain ⟨d, e, h1, _⟩ := sw_one_yes h
    exact Or.inr ⟨q, d, none, rfl, e, h1⟩
theorem sw_sg_at {M : hp_M} {nx : Option Nat} : ∀ {L : List Nat} {cs : List sg_Ce}, sw_sg M L cs nx → ∀ {p : Nat}, p < cs.length → ∃ (q : Nat) (c : sg_Ce), L.drop p = q :: L.drop (p + 1) ∧ cs.drop p = c :: cs.drop (p + 1) ∧ cs[p]? = some c ∧ M q = some (sw_c c (sw_hd (L.drop (p + 1)) nx)) := by
  intro L
  induction L with
  | nil =>
    intro cs h p hp
    cases cs with
    | nil => exact absurd hp (Nat.not_lt_zero _)
    | cons c cs => exact absurd h (fun q => q)
  | cons x xs ih =>
    intro cs h p hp
    cases cs with
    | nil => exact absurd h (fun q => q)
    | cons c cs =>
      cases p with
      | zero => exact ⟨x, c, rfl, rfl, rfl, h.1⟩
      | succ p =>
        obtain ⟨q, d, h1, h2, h3, h4⟩ := ih h.2 (p := p) (Nat.lt_of_succ_lt_succ hp)
        exact ⟨q, d, h1, h2, h3, h4⟩
theorem sw_sg_nil {M : hp_M} {nx : Option Nat} {L : List Nat} {cs : List sg_Ce} (h : sw_sg M L cs nx) (hc : cs = []) : L = [] := by
  have := sw_sg_len h
  rw [hc] at this
  exact List.eq_nil_of_length_eq_zero this
theorem sw_sg_cons {M : hp_M} {nx : Option Nat} {L : List Nat} {c : sg_Ce} {cs : List sg_Ce} (h : sw_sg M L (c :: cs) nx) : ∃ x xs, L = x :: xs ∧ M x = some (sw_c c (sw_hd xs nx)) ∧ sw_sg M xs cs nx := by
  cases L with
  | nil => exact absurd h (fun q => q)
  | cons x xs => exact ⟨x, xs, rfl, h.1, h.2⟩
end
section
/-! THE REFERENCE'S PICTURE: the object b, its seventeen arrays ad 0 .. ad 16 (many, inputs, classes, tags, times, came, accepted, kinds, weights, lastTimes, offeredTo, offeredClass, offeredTag, offeredAs, sentInput, sentTag, sentWait), what they hold: ct j, of longs cl j. -/
def md_n (j : Nat) : Nat := if j = 0 then 8 else if j ≤ 6 then 4096 else if j = 7 then 8 else if j ≤ 9 then 64 else 8
abbrev md_F (ad : Nat → Nat) (th of sl : Int32) : List Value := [.int th, .ref (ad 0), .ref (ad 1), .ref (ad 2), .ref (ad 3), .ref (ad 4), .ref (ad 5), .ref (ad 6), .ref (ad 7), .ref (ad 8), .ref (ad 9), .ref (ad 10), .ref (ad 11), .ref (ad 12), .ref (ad 13), .int of, .int sl, .ref (ad 14), .ref (ad 15), .ref (ad 16)]
def md_H (D : va_G) (M : hp_M) (b : Nat) (ad : Nat → Nat) (th of sl : Int32) (ct : Nat → Nat → Int32) (cl : Nat → Nat → Int64) : Prop :=
  M b = some (.inr (ix_md, md_F ad th of sl)) ∧ (∀ j, j < 17 → j ≠ 4 → j ≠ 9 → M (ad j) = some (hp_ai D (md_n j) (ct j))) ∧ (∀ j, j = 4 ∨ j = 9 → M (ad j) = some (hp_al D (md_n j) (cl j))) ∧ ∀ i j, i < 17 → j < 17 → ad i = ad j → i = j
/-- what isn't the reference's has not changed -/
def md_fr (b : Nat) (ad : Nat → Nat) (M M' : hp_M) : Prop := ∀ x, x ≠ b → (∀ j, j < 17 → x ≠ ad j) → M' x = M x
theorem md_fr_rf {b : Nat} {ad : Nat → Nat} {M : hp_M} : md_fr b ad M M := fun _ _ _ => rfl
theorem md_fr_tr {b : Nat} {ad : Nat → Nat} {M M' M'' : hp_M} (h : md_fr b ad M M') (h' : md_fr b ad M' M'') : md_fr b ad M M'' := fun x h1 h2 => (h' x h1 h2).trans (h x h1 h2)
theorem md_fr_b {b : Nat} {ad : Nat → Nat} {M M0 M1 : hp_M} {e : va_E} (h : md_fr b ad M0 M) (e1 : M1 = va_up M b (some e)) : md_fr b ad M0 M1 := fun x h1 h2 => by rw [e1, va_up_ne _ _ h1]; exact h x h1 h2
theorem md_fr_a {b : Nat} {ad : Nat → Nat} {M M0 M1 : hp_M} {e : va_E} {j : Nat} (hj : j < 17) (h : md_fr b ad M0 M) (e1 : M1 = va_up M (ad j) (some e)) : md_fr b ad M0 M1 := fun x h1 h2 => by rw [e1, va_up_ne _ _ (h2 j hj)]; exact h x h1 h2
section MD
variable {D : va_G} {M M1 : hp_M} {b : Nat} {ad : Nat → Nat} {th of sl : Int32} {ct : Nat → Nat → Int32} {cl : Nat → Nat → Int64}
theorem md_ne_b (h : md_H D M b ad th of sl ct cl) {j : Nat} (hj : j < 17) : ad j ≠ b := by
  intro e
  by_cases h4 : j = 4 ∨ j = 9
  · have := h.2.2.1 j h4
    rw [e, h.1] at this
    cases this
  · have := h.2.1 j hj (fun q => h4 (Or.inl q)) (fun q => h4 (Or.inr q))
    rw [e, h.1] at this
    cases this
theorem md_pb (h : md_H D M b ad th of sl ct cl) {th' of' sl' : Int32} (e : M1 = va_up M b (some (.inr (ix_md, md_F ad th' of' sl')))) : md_H D M1 b ad th' of' sl' ct cl := by
  subst e
  refine ⟨va_up_self _ _ _, fun j h1 h2 h3 => ?_, fun j h1 => ?_, h.2.2.2⟩
  · rw [va_up_ne _ _ (md_ne_b h h1)]; exact h.2.1 j h1 h2 h3
  · rw [va_up_ne _ _ (md_ne_b h (by omega))]; exact h.2.2.1 j h1
theorem md_pi (h : md_H D M b ad th of sl ct cl) {j : Nat} (hj : j < 17) (h4 : j ≠ 4) (h9 : j ≠ 9) {f : Nat → Int32} (e : M1 = va_up M (ad j) (some (hp_ai D (md_n j) f))) : md_H D M1 b ad th of sl (va_up ct j f) cl := by
  subst e
  refine ⟨?_, fun k h1 h2 h3 => ?_, fun k h1 => ?_, h.2.2.2⟩
  · rw [va_up_ne _ _ (md_ne_b h hj).symm]; exact h.1
  · by_cases q : k = j
    · subst q; rw [va_up_self, va_up_self]
    · rw [va_up_ne _ _ (fun z => q (h.2.2.2 k j h1 hj z)), va_up_ne _ _ q]; exact h.2.1 k h1 h2 h3
  · rw [va_up_ne _ _ (fun z => by have := h.2.2.2 k j (by omega) hj z; omega)]; exact h.2.2.1 k h1
theorem md_pl (h : md_H D M b ad th of sl ct cl) {j : Nat} (hj : j = 4 ∨ j = 9) {f : Nat → Int64} (e : M1 = va_up M (ad j) (some (hp_al D (md_n j) f))) : md_H D M1 b ad th of sl ct (va_up cl j f) := by
  subst e
  refine ⟨?_, fun k h1 h2 h3 => ?_, fun k h1 => ?_, h.2.2.2⟩
  · rw [va_up_ne _ _ (md_ne_b h (by omega)).symm]; exact h.1
  · rw [va_up_ne _ _ (fun z => by have := h.2.2.2 k j (by omega) (by omega) z; omega)]; exact h.2.1 k h1 h2 h3
  · by_cases q : k = j
    · subst q; rw [va_up_self, va_up_self]
    · rw [va_up_ne _ _ (fun z => q (h.2.2.2 k j (by omega) (by omega) z)), va_up_ne _ _ q]; exact h.2.2.1 k h1
end MD
/-- a row of the six tables of cells -/
abbrev mo_row (ct : Nat → Nat → Int32) (cl : Nat → Nat → Int64) (p : Nat) : Int32 × Int32 × Int32 × Int64 × Int32 × Int32 := (ct 1 p, ct 2 p, ct 3 p, cl 4 p, ct 5 p, ct 6 p)
abbrev mo_enc (c : sg_Ce) : Int32 × Int32 × Int32 × Int64 × Int32 × Int32 := (nI (sg_ci c), nI (sg_cg c), sg_ct c, sg_cm c, sg_cc c, nI (sg_cs c))
def mo_se (tk s0 s1 s2 : Int32) (c : Option sg_Ce) : Prop := match c with
  | none => s0 = -1
  | some c => s0 = nI (sg_ci c) ∧ s1 = sg_ct c ∧ s2 = tk - sg_cc c
def mo_of (a0 a1 a2 a3 : Int32) (c : Option sg_Ce) : Prop := match c with
  | none => a0 = -1
  | some c => a0 = nI (sg_co c) ∧ a1 = nI (sg_cg c) ∧ a2 = sg_ct c ∧ a3 = nI (sg_cs c)
def mo_ou (ct : Nat → Nat → Int32) (cl : Nat → Nat → Int64) (o : Nat) (tk kd : Int32) (wt : Nat → Int32) (lt : Nat → Int64) (qu : List sg_Ce) (se : Option sg_Ce) : Prop :=
  ct 0 o = nI qu.length ∧ ct 7 o = kd ∧ (∀ g, g < 8 → ct 8 (8 * o + g) = wt g ∧ cl 9 (8 * o + g) = lt g) ∧ (∀ k c, qu[k]? = some c → mo_row ct cl (512 * o + k) = mo_enc c) ∧ mo_se tk (ct 14 o) (ct 15 o) (ct 16 o) se
/-- the reference holds σ -/
def mo_R (σ : sg_S) (tk : Nat → Int32) (of sl : Int32) (ct : Nat → Nat → Int32) (cl : Nat → Nat → Int64) : Prop :=
  of = nI (sg_ac σ) ∧ sl = sg_sl σ ∧ (∀ o, o < 8 → mo_ou ct cl o (tk o) (sg_kd σ o) (sg_wt σ o) (sg_lt σ o) (sg_qu σ o) (sg_se σ o)) ∧ ∀ i, i < 8 → mo_of (ct 10 i) (ct 11 i) (ct 12 i) (ct 13 i) (sg_of σ i)
end
section
/-! Chains under writes. -/
theorem hp_nm {x y : Nat} {L : List Nat} (hx : x ∈ L) (hy : y ∉ L) : x ≠ y := fun z => hy (z ▸ hx)
theorem sw_sg_mem {M : hp_M} {nx : Option Nat} : ∀ {L : List Nat} {cs : List sg_Ce}, sw_sg M L cs nx → ∀ {x : Nat}, x ∈ L → ∃ (c : sg_Ce) (n : Option Nat), c ∈ cs ∧ M x = some (sw_c c n) := by
  intro L
  induction L with
  | nil =>
    intro cs h x hx
    exact absurd hx List.not_mem_nil
  | cons y ys ih =>
    intro cs h x hx
    cases cs with
    | nil => exact absurd h (fun q => q)
    | cons c cs =>
      rcases List.mem_cons.mp hx with e | e
      · rw [e]; exact ⟨c, _, List.mem_cons_self, h.1⟩
      · obtain ⟨d, n, h1, h2⟩ := ih h.2 e
        exact ⟨d, n, List.mem_cons_of_mem _ h1, h2⟩
theorem sw_sg_ne {M : hp_M} {nx : Option Nat} {L : List Nat} {cs : List sg_Ce} {a : Nat} {e : va_E} (j : Nat) (h : sw_sg M L cs nx) (ha : M a = some e) (ht : hp_tg e = j) (hj : j ≠ ix_ce) : a ∉ L := by
  intro hx
  obtain ⟨c, n, _, h2⟩ := sw_sg_mem h hx
  exact absurd rfl (hp_ne j ix_ce ha h2 ht rfl hj)
theorem sw_pi0 {M M3 : hp_M} {po q : Nat} {c : sg_Ce} {L : List Nat} {cs : List sg_Ce} {e2 e3 : va_E} (hch : sw_sg M L cs none) (hq : q ∉ L) (hpo : po ∉ L) (hpq : q ≠ po) (hnd : L.Nodup) (e : M3 = va_up (va_up (va_up M q (some (sw_c c (sw_hd L none)))) po (some e2)) po (some e3)) : M3 po = some e3 ∧ sw_sg M3 (q :: L) (c :: cs) none ∧ (q :: L).Nodup ∧ (∀ x, x ∈ q :: L ↔ x = q ∨ x ∈ L) ∧ ∀ x, x ≠ po → x ≠ q → x ∉ L → M3 x = M x := by
  rw [hp_uu] at e
  subst e
  refine ⟨va_up_self _ _ _, ⟨?_, sw_sg_kept hch (fun x hx => ?_)⟩, List.nodup_cons.mpr ⟨hq, hnd⟩, fun x => List.mem_cons, fun x h1 h2 _ => ?_⟩
  · rw [va_up_ne _ _ hpq, va_up_self]
  · rw [va_up_ne _ _ (hp_nm hx hpo), va_up_ne _ _ (hp_nm hx hq)]
  · rw [va_up_ne _ _ h1, va_up_ne _ _ h2]
theorem sw_pi1 {M M3 : hp_M} {po q x : Nat} {c d : sg_Ce} {K L : List Nat} {kc cs : List sg_Ce} {e3 : va_E} (hch : sw_sg M (K ++ x :: L) (kc ++ d :: cs) none) (hlen : K.length = kc.length) (hq : q ∉ K ++ x :: L) (hpo : po ∉ K ++ x :: L) (hpq : q ≠ po) (hnd : (K ++ x :: L).Nodup) (e : M3 = va_up (va_up (va_up M q (some (sw_c c (sw_hd L none)))) x (some (sw_c d (some q)))) po (some e3)) : M3 po = some e3 ∧ sw_sg M3 (K ++ x :: q :: L) (kc ++ d :: c :: cs) none ∧ (K ++ x :: q :: L).Nodup ∧ (∀ y, y ∈ K ++ x :: q :: L ↔ y = q ∨ y ∈ K ++ x :: L) ∧ ∀ y, y ≠ po → y ≠ q → y ∉ K ++ x :: L → M3 y = M y := by
  subst e
  obtain ⟨h1, h2, h3⟩ := (sw_sg_app hlen).mp hch
  have hxm : x ∈ K ++ x :: L := List.mem_append_right _ List.mem_cons_self
  have hxq : x ≠ q := fun z => hq (z ▸ hxm)
  have hxp : x ≠ po := fun z => hpo (z ▸ hxm)
  obtain ⟨n1, n2, n3⟩ := List.nodup_append.mp hnd
  obtain ⟨n4, n5⟩ := List.nodup_cons.mp n2
  refine ⟨va_up_self _ _ _, (sw_sg_app hlen).mpr ⟨sw_sg_kept h1 (fun y hy => ?_), ?_, ?_, sw_sg_kept h3 (fun y hy => ?_)⟩, ?_, fun y => ?_, fun y a1 a2 a3 => ?_⟩
  · have m : y ∈ K ++ x :: L := List.mem_append_left _ hy
    rw [va_up_ne _ _ (hp_nm m hpo), va_up_ne _ _ (n3 y hy x List.mem_cons_self), va_up_ne _ _ (hp_nm m hq)]
  · rw [va_up_ne _ _ hxp, va_up_self]
    rfl
  · rw [va_up_ne _ _ hpq, va_up_ne _ _ (Ne.symm hxq), va_up_self]
  · have m : y ∈ K ++ x :: L := List.mem_append_right _ (List.mem_cons_of_mem _ hy)
    rw [va_up_ne _ _ (hp_nm m hpo), va_up_ne _ _ (hp_nm hy n4), va_up_ne _ _ (hp_nm m hq)]
  · refine List.nodup_append.mpr ⟨n1, List.nodup_cons.mpr ⟨?_, List.nodup_cons.mpr ⟨?_, n5⟩⟩, fun y hy z hz => ?_⟩
    · intro hm
      rcases List.mem_cons.mp hm with z | z
      · exact hxq z
      · exact n4 z
    · intro hm
      exact hq (List.mem_append_right _ (List.mem_cons_of_mem _ hm))
    · rcases List.mem_cons.mp hz with w | w
      · rw [w]; exact n3 y hy x List.mem_cons_self
      · rcases List.mem_cons.mp w with w | w
        · rw [w]; exact fun u => hq (u ▸ List.mem_append_left _ hy)
        · exact n3 y hy z (List.mem_cons_of_mem _ w)
  · simp only [List.mem_append, List.mem_cons]
    constructor
    · rintro (h | h | h | h)
      · exact Or.inr (Or.inl h)
      · exact Or.inr (Or.inr (Or.inl h))
      · exact Or.inl h
      · exact Or.inr (Or.inr (Or.inr h))
    · rintro (h | h | h | h)
      · exact Or.inr (Or.inr (Or.inl h))
      · exact Or.inl h
      · exact Or.inr (Or.inl h)
      · exact Or.inr (Or.inr (Or.inr h))
  · rw [va_up_ne _ _ a1, va_up_ne _ _ (Ne.symm (hp_nm hxm a3)), va_up_ne _ _ a2]
/-- a truth as Java's number -/
def sw_b (b : Bool) : Int32 := if b = true then 1 else 0
theorem sw_b1t {c d : sg_Ce} (hc : sg_cg c < 8) (hd : sg_cg d < 8) (h : ¬ nI (sg_cg d) ≤ nI (sg_cg c)) : 1 = sw_b (sg_bef 1 c d) := by
  rw [nI_leI (by omega) (by omega)] at h
  rw [sg_bef1, decide_eq_true (Nat.lt_of_not_le h)]; rfl
theorem sw_b1f {c d : sg_Ce} (hc : sg_cg c < 8) (hd : sg_cg d < 8) (h : nI (sg_cg d) ≤ nI (sg_cg c)) : 0 = sw_b (sg_bef 1 c d) := by
  rw [nI_leI (by omega) (by omega)] at h
  rw [sg_bef1, decide_eq_false (Nat.not_lt_of_le h)]; rfl
theorem sw_b2t {c d : sg_Ce} (h : ¬ 0 ≤ lg_cmp (sg_cm c) (sg_cm d)) : 1 = sw_b (sg_bef 2 c d) := by
  rw [lg_cmp_ge] at h
  rw [sg_bef2, decide_eq_true (Int64.not_le.mp h)]; rfl
theorem sw_b2f {c d : sg_Ce} (h : 0 ≤ lg_cmp (sg_cm c) (sg_cm d)) : 0 = sw_b (sg_bef 2 c d) := by
  rw [lg_cmp_ge] at h
  rw [sg_bef2, decide_eq_false (Int64.not_lt.mpr h)]; rfl
theorem sw_b0 {c d : sg_Ce} : 0 = sw_b (sg_bef 0 c d) := by
  rw [sg_bef0]; rfl
theorem sw_bt {b : Bool} (h : ¬ sw_b b = 0) : b = true := by
  cases b with
  | true => rfl
  | false => exact absurd rfl h
theorem sw_bf {b : Bool} (h : sw_b b = 0) : b = false := by
  cases b with
  | true => exact absurd h (by decide)
  | false => rfl
theorem sw_hd_ins {K L1 L2 : List Nat} {x : Nat} {n1 n2 : Option Nat} : sw_hd (K ++ x :: L1) n1 = sw_hd (K ++ x :: L2) n2 := by
  cases K <;> rfl
theorem sw_sh {M : hp_M} {po x : Nat} {a1 a2 a4 b : Option va_E} (h : x ≠ po) : va_up (va_up (va_up (va_up M po a1) po a2) x b) po a4 = va_up (va_up M po a4) x b := by
  funext z
  by_cases h1 : z = x
  · subst h1
    rw [va_up_ne _ _ h, va_up_self, va_up_self]
  · by_cases h2 : z = po
    · subst h2
      rw [va_up_self, va_up_ne _ _ h1, va_up_self]
    · rw [va_up_ne _ _ h2, va_up_ne _ _ h1, va_up_ne _ _ h2, va_up_ne _ _ h2, va_up_ne _ _ h1, va_up_ne _ _ h2]
theorem hp_fi {g : Nat → Int32} {v : Int32} {n : Nat} (h : ∀ j, j < n → g j = v) : ∀ j, j < n + 1 → upd g n v j = v := fun j hj => by
  by_cases q : j = n
  · rw [q]; exact pk_us
  · rw [pk_un q]; exact h j (by omega)
theorem hp_fl {g : Nat → Int64} {v : Int64} {n : Nat} (h : ∀ j, j < n → g j = v) : ∀ j, j < n + 1 → vp_updL g n v j = v := fun j hj => by
  by_cases q : j = n
  · rw [q]; exact pk_uLs
  · rw [pk_uLn q]; exact h j (by omega)
end
section
/-! What the calls do to the class's picture. -/
section SW3
variable {D : va_G} {M M1 : hp_M} {a : Nat} {σ τ : sg_S} {hh hh' : Nat → Nat} {F : Nat → Prop} {aI aO : Nat} {fI fO oa la : Nat → Option Nat} {ip op sp lp : Nat → Nat} {LQ : Nat → List Nat} {ow : Nat → Nat}
theorem sw_P_eq (h : sw_P D M a σ hh F aI aO fI fO oa la ip op sp lp LQ ow) (h1 : sg_sl σ = sg_sl τ) (h2 : sg_ac σ = sg_ac τ) (h3 : ∀ i, i < 8 → hh i = hh' i ∧ sg_of σ i = sg_of τ i) (h4 : ∀ o, o < 8 → sg_kd σ o = sg_kd τ o ∧ sg_wt σ o = sg_wt τ o ∧ sg_lt σ o = sg_lt τ o ∧ sg_qu σ o = sg_qu τ o ∧ sg_se σ o = sg_se τ o) : sw_P D M a τ hh' F aI aO fI fO oa la ip op sp lp LQ ow := by
  obtain ⟨⟨g1, g2, g3⟩, hw, hi, ho, hf⟩ := h
  refine ⟨⟨by rw [← h1, ← h2]; exact g1, g2, g3⟩, hw, fun i q => ?_, fun o q => ?_, hf⟩
  · rw [← (h3 i q).1, ← (h3 i q).2]; exact hi i q
  · obtain ⟨e1, e2, e3, e4, e5⟩ := h4 o q
    rw [← e1, ← e2, ← e3, ← e4, ← e5]; exact ho o q
/-- a change of cells of colours that one output has, the colours staying -/
theorem sw_P_out (h : sw_P D M a σ hh F aI aO fI fO oa la ip op sp lp LQ ow) {o : Nat} (ho : o < 8) (hk : ∀ x, ow x ≠ o → ow x ≠ 16 + o → ow x ≠ 32 + o → ow x ≠ 40 + o → ow x ≠ 48 + o → M1 x = M x) (h1 : sg_sl σ = sg_sl τ) (h2 : sg_ac σ = sg_ac τ) (h3 : ∀ i, i < 8 → sg_of σ i = sg_of τ i) (h4 : ∀ x, x < 8 → x ≠ o → sg_kd σ x = sg_kd τ x ∧ sg_wt σ x = sg_wt τ x ∧ sg_lt σ x = sg_lt τ x ∧ sg_qu σ x = sg_qu τ x ∧ sg_se σ x = sg_se τ x) {la' : Nat → Option Nat} {LQ' : Nat → List Nat} (hla : ∀ x, x ≠ o → la' x = la x) (hLQ : ∀ x, x ≠ o → LQ' x = LQ x) (hn : sw_Ou D M1 ow fO la' op sp lp LQ' o (sg_kd τ o) (sg_wt τ o) (sg_lt τ o) (sg_qu τ o) (sg_se τ o)) : sw_P D M1 a τ hh F aI aO fI fO oa la' ip op sp lp LQ' ow ∧ sw_fr F M M1 := by
  obtain ⟨⟨g1, g2, g3⟩, ⟨w1, w2, w3⟩, hi, hou, hf⟩ := h
  have kf : ∀ x, F x → M1 x = M x := fun x hx => by
    have := (hf x hx).1
    exact hk x (by omega) (by omega) (by omega) (by omega) (by omega)
  refine ⟨⟨⟨?_, ?_, ?_⟩, ⟨w1, w2, w3⟩, fun i q => ?_, fun x q => ?_, fun x hx => ⟨(hf x hx).1, by rw [kf x hx]; exact (hf x hx).2⟩⟩, kf⟩
  · rw [hk a (by omega) (by omega) (by omega) (by omega) (by omega), ← h1, ← h2]; exact g1
  · rw [hk aI (by omega) (by omega) (by omega) (by omega) (by omega)]; exact g2
  · rw [hk aO (by omega) (by omega) (by omega) (by omega) (by omega)]; exact g3
  · rw [← h3 i q]
    exact sw_In_kept (hi i q) (fun x hx => ⟨rfl, hk x (by omega) (by omega) (by omega) (by omega) (by omega)⟩)
  · by_cases z : x = o
    · subst z; exact hn
    · obtain ⟨e1, e2, e3, e4, e5⟩ := h4 x q z
      rw [← e1, ← e2, ← e3, ← e4, ← e5]
      exact sw_Ou_kept (hou x q) (fun y hy => ⟨rfl, hk y (by omega) (by omega) (by omega) (by omega) (by omega)⟩) (hla x z) (hLQ x z)
theorem sw_do_setO (h : sw_P D M a σ hh F aI aO fI fO oa la ip op sp lp LQ ow) {o : Nat} (ho : o < 8) {k : Int32} (e : M1 = va_up M (op o) (some (sw_o k (sp o) (lp o) (sw_hd (LQ o) none) (nI (sg_qu σ o).length) (la o)))) : sw_P D M1 a (sg_setO σ o k) hh F aI aO fI fO oa la ip op sp lp LQ ow ∧ sw_fr F M M1 := by
  obtain ⟨q1, q2, q3, ⟨f, q4, q4'⟩, q5, ⟨f2, q6, q6'⟩, q7, ⟨q8, q9, q10⟩, q11⟩ := h.2.2.2.1 o ho
  have k0 : ∀ x, ow x ≠ 32 + o → M1 x = M x := fun x hx => by rw [e, va_up_ne _ _ (fun z => hx (by rw [z]; exact q3))]
  refine sw_P_out (τ := sg_setO σ o k) (la' := la) (LQ' := LQ) h ho (fun x _ _ a3 _ _ => k0 x a3) rfl rfl (fun _ _ => rfl) (fun x _ hx => ⟨?_, rfl, rfl, rfl, rfl⟩) (fun _ _ => rfl) (fun _ _ => rfl) ?_
  · show _ = va_up (sg_kd σ) o k x
    rw [va_up_ne _ _ hx]
  · show sw_Ou D M1 ow fO la op sp lp LQ o (va_up (sg_kd σ) o k o) (sg_wt σ o) (sg_lt σ o) (sg_qu σ o) (sg_se σ o)
    rw [va_up_self]
    exact ⟨q1, by rw [e]; exact va_up_self _ _ _, q3, ⟨f, by rw [k0 _ (by omega)]; exact q4, q4'⟩, q5, ⟨f2, by rw [k0 _ (by omega)]; exact q6, q6'⟩, q7, ⟨sw_sg_kept q8 (fun x hx => k0 x (by have := q10 x hx; omega)), q9, q10⟩, sw_one_kept q11 (fun x hx => ⟨rfl, k0 x (by omega)⟩)⟩
theorem sw_do_setW (h : sw_P D M a σ hh F aI aO fI fO oa la ip op sp lp LQ ow) {o g : Nat} (ho : o < 8) (hg : g < 8) {w : Int32} {f : Nat → Int32} (hf : M (sp o) = some (hp_ai D 8 f)) (hf' : ∀ j, j < 8 → f j = sg_step (sg_wt σ o j)) (e : M1 = va_up M (sp o) (some (hp_ai D 8 (upd f g (sg_step w))))) : sw_P D M1 a (sg_setW σ o g w) hh F aI aO fI fO oa la ip op sp lp LQ ow ∧ sw_fr F M M1 := by
  obtain ⟨q1, q2, q3, ⟨f1, q4, q4'⟩, q5, ⟨f2, q6, q6'⟩, q7, ⟨q8, q9, q10⟩, q11⟩ := h.2.2.2.1 o ho
  have k0 : ∀ x, ow x ≠ 40 + o → M1 x = M x := fun x hx => by rw [e, va_up_ne _ _ (fun z => hx (by rw [z]; exact q5))]
  refine sw_P_out (τ := sg_setW σ o g w) (la' := la) (LQ' := LQ) h ho (fun x _ _ _ a4 _ => k0 x a4) rfl rfl (fun _ _ => rfl) (fun x _ hx => ⟨rfl, ?_, rfl, rfl, rfl⟩) (fun _ _ => rfl) (fun _ _ => rfl) ?_
  · show _ = va_up (sg_wt σ) o (va_up (sg_wt σ o) g w) x
    rw [va_up_ne _ _ hx]
  · show sw_Ou D M1 ow fO la op sp lp LQ o (sg_kd σ o) (va_up (sg_wt σ) o (va_up (sg_wt σ o) g w) o) (sg_lt σ o) (sg_qu σ o) (sg_se σ o)
    rw [va_up_self]
    refine ⟨q1, by rw [k0 _ (by omega)]; exact q2, q3, ⟨_, by rw [e]; exact va_up_self _ _ _, fun j hj => ?_⟩, q5, ⟨f2, by rw [k0 _ (by omega)]; exact q6, q6'⟩, q7, ⟨sw_sg_kept q8 (fun x hx => k0 x (by have := q10 x hx; omega)), q9, q10⟩, sw_one_kept q11 (fun x hx => ⟨rfl, k0 x (by omega)⟩)⟩
    by_cases z : j = g
    · subst z; rw [pk_us, va_up_self]
    · rw [pk_un z, va_up_ne _ _ z]; exact hf' j hj
/-- an offer: a fresh cell q -/
theorem sw_do_offer (h : sw_P D M a σ hh F aI aO fI fO oa la ip op sp lp LQ ow) {i o g : Nat} (hi8 : i < 8) {t : Int32} {q : Nat} (hq : M q = none) (e : M1 = va_up (va_up (va_up M q (some (sw_c (i, o, g, t, sg_ac σ, 0, 0) none))) (ip i) (some (sw_i (some q) (nI (hh i + 1))))) a (some (sw_s aI aO (sg_sl σ) (lN (sg_ac σ + 1))))) : sw_P D M1 a (sg_offer σ i o g t) (va_up hh i (hh i + 1)) F aI aO fI fO (va_up oa i (some q)) la ip op sp lp LQ (va_up ow q (8 + i)) ∧ sw_fr F M M1 := by
  obtain ⟨⟨g1, g2, g3⟩, ⟨w1, w2, w3⟩, hi, hou, hf⟩ := h
  obtain ⟨i1, i2, i3, i4⟩ := hi i hi8
  have ne : ∀ x, M x ≠ none → x ≠ q := fun x hx z => hx (by rw [z]; exact hq)
  have na : a ≠ ip i := fun z => by rw [z] at w1; omega
  have nq : ip i ≠ q := ne _ (by rw [i2]; intro z; cases z)
  have nqa : a ≠ q := ne _ (by rw [g1]; intro z; cases z)
  have k0 : ∀ x, M x ≠ none → ow x ≠ 24 + i → ow x ≠ 56 → va_up ow q (8 + i) x = ow x ∧ M1 x = M x := fun x h1 h2 h3 => by
    refine ⟨va_up_ne _ _ (ne x h1), ?_⟩
    rw [e, va_up_ne _ _ (fun z => h3 (by rw [z]; exact w1)), va_up_ne _ _ (fun z => h2 (by rw [z]; exact i3)), va_up_ne _ _ (ne x h1)]
  have hsome : ∀ {x : Nat} {y : va_E}, M x = some y → M x ≠ none := fun hx z => by rw [hx] at z; cases z
  have kf : ∀ x, F x → va_up ow q (8 + i) x = ow x ∧ M1 x = M x := fun x hx => k0 x (hf x hx).2 (by have := (hf x hx).1; omega) (by have := (hf x hx).1; omega)
  have kone : ∀ (w : Nat) (b : Option Nat) (c : Option sg_Ce), w ≠ 24 + i → w ≠ 56 → sw_one M ow w b c → sw_one M1 (va_up ow q (8 + i)) w b c := fun w b c a1 a2 hb => by
    cases b with
    | none => exact (sw_one_no hb) ▸ trivial
    | some x =>
      obtain ⟨d, rfl, b1, b2⟩ := sw_one_yes hb
      obtain ⟨k1, k2⟩ := k0 x (hsome b1) (by omega) (by omega)
      exact ⟨by rw [k2]; exact b1, by rw [k1]; exact b2⟩
  refine ⟨⟨⟨?_, ?_, ?_⟩, ⟨?_, ?_, ?_⟩, fun j hj => ?_, fun x hx => ?_, fun x hx => ?_⟩, fun x hx => (kf x hx).2⟩
  · rw [e]; exact va_up_self _ _ _
  · rw [(k0 aI (hsome g2) (by omega) (by omega)).2]; exact g2
  · rw [(k0 aO (hsome g3) (by omega) (by omega)).2]; exact g3
  · rw [va_up_ne _ _ nqa]; exact w1
  · rw [(k0 aI (hsome g2) (by omega) (by omega)).1]; exact w2
  · rw [(k0 aO (hsome g3) (by omega) (by omega)).1]; exact w3
  · show sw_In M1 (va_up ow q (8 + i)) fI (va_up oa i (some q)) ip j (va_up hh i (hh i + 1) j) (va_up (sg_of σ) i (some (i, o, g, t, sg_ac σ, 0, 0)) j)
    by_cases z : j = i
    · subst z
      unfold sw_In
      rw [va_up_self, va_up_self, va_up_self]
      refine ⟨i1, ?_, by rw [va_up_ne _ _ nq]; exact i3, ?_, va_up_self _ _ _⟩
      · rw [e, va_up_ne _ _ (Ne.symm na)]; exact va_up_self _ _ _
      · rw [e, va_up_ne _ _ (Ne.symm nqa), va_up_ne _ _ (Ne.symm nq)]; exact va_up_self _ _ _
    · obtain ⟨j1, j2, j3, j4⟩ := hi j hj
      unfold sw_In
      rw [va_up_ne _ _ z, va_up_ne _ _ z, va_up_ne _ _ z]
      obtain ⟨k1, k2⟩ := k0 (ip j) (hsome j2) (by omega) (by omega)
      exact ⟨j1, by rw [k2]; exact j2, by rw [k1]; exact j3, kone _ _ _ (by omega) (by omega) j4⟩
  · obtain ⟨q1, q2, q3, ⟨f, q4, q4'⟩, q5, ⟨f2, q6, q6'⟩, q7, ⟨q8, q9, q10⟩, q11⟩ := hou x hx
    have k3 := k0 _ (hsome q2) (by omega) (by omega)
    have k5 := k0 _ (hsome q4) (by omega) (by omega)
    have k7 := k0 _ (hsome q6) (by omega) (by omega)
    have k8 : ∀ y ∈ LQ x, va_up ow q (8 + i) y = ow y ∧ M1 y = M y := fun y hy => by
      obtain ⟨c, n, _, hc⟩ := sw_sg_mem q8 hy
      exact k0 y (hsome hc) (by have := q10 y hy; omega) (by have := q10 y hy; omega)
    refine ⟨q1, by rw [k3.2]; exact q2, by rw [k3.1]; exact q3, ⟨f, by rw [k5.2]; exact q4, q4'⟩, by rw [k5.1]; exact q5, ⟨f2, by rw [k7.2]; exact q6, q6'⟩, by rw [k7.1]; exact q7, ⟨sw_sg_kept q8 (fun y hy => (k8 y hy).2), q9, fun y hy => by rw [(k8 y hy).1]; exact q10 y hy⟩, kone _ _ _ (by omega) (by omega) q11⟩
  · obtain ⟨k1, k2⟩ := kf x hx
    exact ⟨by rw [k1]; exact (hf x hx).1, by rw [k2]; exact (hf x hx).2⟩
end SW3
end
section
section SW4
variable {D : va_G} {M M1 : hp_M} {a : Nat} {σ τ : sg_S} {hh hh' : Nat → Nat} {F : Nat → Prop} {aI aO : Nat} {fI fO oa la oa' la' : Nat → Option Nat} {ip op sp lp : Nat → Nat} {LQ LQ' : Nat → List Nat} {ow ow' : Nat → Nat}
/-- a change at one output and one input -/
theorem sw_P_gen (h : sw_P D M a σ hh F aI aO fI fO oa la ip op sp lp LQ ow) {o i : Nat} (hk : ∀ x, ow x ≠ o → ow x ≠ 16 + o → ow x ≠ 32 + o → ow x ≠ 40 + o → ow x ≠ 48 + o → ow x ≠ 8 + i → ow x ≠ 24 + i → ow' x = ow x ∧ M1 x = M x) (ho : o < 8) (hi8 : i < 8) (h1 : sg_sl σ = sg_sl τ) (h2 : sg_ac σ = sg_ac τ) (h3 : ∀ j, j < 8 → j ≠ i → sg_of σ j = sg_of τ j ∧ hh j = hh' j ∧ oa' j = oa j) (h4 : ∀ x, x < 8 → x ≠ o → sg_kd σ x = sg_kd τ x ∧ sg_wt σ x = sg_wt τ x ∧ sg_lt σ x = sg_lt τ x ∧ sg_qu σ x = sg_qu τ x ∧ sg_se σ x = sg_se τ x ∧ la' x = la x ∧ LQ' x = LQ x) (hn : sw_In M1 ow' fI oa' ip i (hh' i) (sg_of τ i)) (hm : sw_Ou D M1 ow' fO la' op sp lp LQ' o (sg_kd τ o) (sg_wt τ o) (sg_lt τ o) (sg_qu τ o) (sg_se τ o)) : sw_P D M1 a τ hh' F aI aO fI fO oa' la' ip op sp lp LQ' ow' ∧ sw_fr F M M1 := by
  obtain ⟨⟨g1, g2, g3⟩, ⟨w1, w2, w3⟩, hi, hou, hf⟩ := h
  have kk : ∀ x, 56 ≤ ow x → ow' x = ow x ∧ M1 x = M x := fun x hx => hk x (by omega) (by omega) (by omega) (by omega) (by omega) (by omega) (by omega)
  have kf : ∀ x, F x → ow' x = ow x ∧ M1 x = M x := fun x hx => kk x (by have := (hf x hx).1; omega)
  have ka := kk a (by omega)
  have kI := kk aI (by omega)
  have kO := kk aO (by omega)
  refine ⟨⟨⟨by rw [ka.2, ← h1, ← h2]; exact g1, by rw [kI.2]; exact g2, by rw [kO.2]; exact g3⟩, ⟨by rw [ka.1]; exact w1, by rw [kI.1]; exact w2, by rw [kO.1]; exact w3⟩, fun j q => ?_, fun x q => ?_, fun x hx => ⟨by rw [(kf x hx).1]; exact (hf x hx).1, by rw [(kf x hx).2]; exact (hf x hx).2⟩⟩, fun x hx => (kf x hx).2⟩
  · by_cases z : j = i
    · subst z; exact hn
    · obtain ⟨e1, e2, e3⟩ := h3 j q z
      obtain ⟨q1, q2, q3, q4⟩ := hi j q
      obtain ⟨k1, k2⟩ := hk (ip j) (by omega) (by omega) (by omega) (by omega) (by omega) (by omega) (by omega)
      unfold sw_In
      rw [← e1, ← e2, e3]
      exact ⟨q1, by rw [k2]; exact q2, by rw [k1]; exact q3, sw_one_kept q4 (fun x hx => hk x (by omega) (by omega) (by omega) (by omega) (by omega) (by omega) (by omega))⟩
  · by_cases z : x = o
    · subst z; exact hm
    · obtain ⟨e1, e2, e3, e4, e5, e6, e7⟩ := h4 x q z
      rw [← e1, ← e2, ← e3, ← e4, ← e5]
      exact sw_Ou_kept (hou x q) (fun y hy => hk y (by omega) (by omega) (by omega) (by omega) (by omega) (by omega) (by omega)) e6 e7
/-- the cell offered to i comes -/
theorem sw_do_come (h : sw_P D M a σ hh F aI aO fI fO oa la ip op sp lp LQ ow) {i : Nat} {c : sg_Ce} (hi8 : i < 8) (ho : sg_co c < 8) (hc : sg_of σ i = some c) {q : Nat} (hq : oa i = some q) {L' : List Nat} {g : Nat → Int64}
    (hg : ∀ j, j < 8 → g j = if sg_kd σ (sg_co c) = 2 then va_up (sg_lt σ (sg_co c)) (sg_cg c) (sg_time σ (sg_co c) (sg_cg c)) j else sg_lt σ (sg_co c) j)
    (p1 : M1 (op (sg_co c)) = some (sw_o (sg_kd σ (sg_co c)) (sp (sg_co c)) (lp (sg_co c)) (sw_hd L' none) (nI (sg_qu σ (sg_co c)).length + 1) (la (sg_co c)))) (p2 : M1 (lp (sg_co c)) = some (hp_al D 8 g)) (p3 : sw_sg M1 L' (sg_ins (sg_kd σ (sg_co c)) (sg_cell σ c) (sg_qu σ (sg_co c))) none) (p4 : L'.Nodup) (p5 : ∀ x, x ∈ L' ↔ x = q ∨ x ∈ LQ (sg_co c))
    (p6 : ∀ x, x ≠ op (sg_co c) → x ≠ lp (sg_co c) → x ≠ q → x ∉ LQ (sg_co c) → M1 x = va_up M (ip i) (some (sw_i none (nI (hh i)))) x) : sw_P D M1 a (sg_come1 σ i c) hh F aI aO fI fO (va_up oa i none) la ip op sp lp (va_up LQ (sg_co c) L') (va_up ow q (sg_co c)) ∧ sw_fr F M M1 := by
  obtain ⟨i1, i2, i3, i4⟩ := h.2.2.1 i hi8
  rw [hq] at i4
  obtain ⟨d, -, -, i5⟩ := sw_one_yes i4
  obtain ⟨q1, q2, q3, ⟨f, q4, q4'⟩, q5, ⟨f2, q6, q6'⟩, q7, ⟨q8, q9, q10⟩, q11⟩ := h.2.2.2.1 (sg_co c) ho
  have hne : ∀ x, ow x ≠ 8 + i → x ≠ q := fun x hx z => hx (by rw [z]; exact i5)
  have kM : ∀ x, ow x ≠ sg_co c → ow x ≠ 32 + sg_co c → ow x ≠ 48 + sg_co c → ow x ≠ 8 + i → ow x ≠ 24 + i → M1 x = M x := fun x a1 a2 a3 a4 a5 => by
    rw [p6 x (fun z => a2 (by rw [z]; exact q3)) (fun z => a3 (by rw [z]; exact q7)) (hne x a4) (fun z => a1 (q10 x z)), va_up_ne _ _ (fun z => a5 (by rw [z]; exact i3))]
  refine sw_P_gen (τ := sg_come1 σ i c) h (o := sg_co c) (i := i) (fun x a1 _ a3 _ a5 a6 a7 => ⟨va_up_ne _ _ (hne x a6), kM x a1 a3 a5 a6 a7⟩) ho hi8 rfl rfl (fun j _ hj => ⟨?_, rfl, va_up_ne _ _ hj⟩) (fun x _ hx => ⟨rfl, rfl, ?_, ?_, rfl, rfl, va_up_ne _ _ hx⟩) ?_ ?_
  · show _ = va_up (sg_of σ) i none j
    rw [va_up_ne _ _ hj]
  · show _ = (if sg_kd σ (sg_co c) = 2 then va_up (sg_lt σ) (sg_co c) (va_up (sg_lt σ (sg_co c)) (sg_cg c) (sg_time σ (sg_co c) (sg_cg c))) else sg_lt σ) x
    split
    · rw [va_up_ne _ _ hx]
    · rfl
  · show _ = va_up (sg_qu σ) (sg_co c) _ x
    rw [va_up_ne _ _ hx]
  · show sw_In M1 (va_up ow q (sg_co c)) fI (va_up oa i none) ip i (hh i) (va_up (sg_of σ) i none i)
    unfold sw_In
    rw [va_up_self, va_up_self]
    refine ⟨i1, ?_, by rw [va_up_ne _ _ (hne _ (by omega))]; exact i3, trivial⟩
    rw [p6 (ip i) (fun z => by rw [z] at i3; omega) (fun z => by rw [z] at i3; omega) (hne _ (by omega)) (fun z => by have := q10 _ z; omega)]
    exact va_up_self _ _ _
  · show sw_Ou D M1 (va_up ow q (sg_co c)) fO la op sp lp (va_up LQ (sg_co c) L') (sg_co c) (sg_kd σ (sg_co c)) (sg_wt σ (sg_co c)) ((if sg_kd σ (sg_co c) = 2 then va_up (sg_lt σ) (sg_co c) (va_up (sg_lt σ (sg_co c)) (sg_cg c) (sg_time σ (sg_co c) (sg_cg c))) else sg_lt σ) (sg_co c)) (va_up (sg_qu σ) (sg_co c) (sg_ins (sg_kd σ (sg_co c)) (sg_cell σ c) (sg_qu σ (sg_co c))) (sg_co c)) (sg_se σ (sg_co c))
    unfold sw_Ou
    rw [va_up_self, va_up_self, sg_ins_len]
    refine ⟨q1, ?_, by rw [va_up_ne _ _ (hne _ (by omega))]; exact q3, ⟨f, by rw [kM _ (by omega) (by omega) (by omega) (by omega) (by omega)]; exact q4, q4'⟩, by rw [va_up_ne _ _ (hne _ (by omega))]; exact q5, ⟨g, p2, fun j hj => ?_⟩, by rw [va_up_ne _ _ (hne _ (by omega))]; exact q7, ⟨p3, p4, fun x hx => ?_⟩, sw_one_kept q11 (fun x hx => ⟨va_up_ne _ _ (hne x (by omega)), kM x (by omega) (by omega) (by omega) (by omega) (by omega)⟩)⟩
    · rw [← nI_1]; exact p1
    · rw [hg j hj]
      split
      · rw [va_up_self]
      · rfl
    · rcases (p5 x).mp hx with z | z
      · rw [z]; exact va_up_self _ _ _
      · rw [va_up_ne _ _ (hne x (by have := q10 x z; omega))]; exact q10 x z
/-- output o has nothing to send -/
theorem sw_do_send0 (h : sw_P D M a σ hh F aI aO fI fO oa la ip op sp lp LQ ow) {o : Nat} (ho : o < 8) (hq : sg_qu σ o = []) (e : M1 = va_up M (op o) (some (sw_o (sg_kd σ o) (sp o) (lp o) none (nI (sg_qu σ o).length) none))) : sw_P D M1 a (sg_send0 σ o) hh F aI aO fI fO oa (va_up la o none) ip op sp lp LQ ow ∧ sw_fr F M M1 := by
  obtain ⟨q1, q2, q3, ⟨f, q4, q4'⟩, q5, ⟨f2, q6, q6'⟩, q7, ⟨q8, q9, q10⟩, q11⟩ := h.2.2.2.1 o ho
  have hL : LQ o = [] := sw_sg_nil q8 hq
  have k0 : ∀ x, ow x ≠ 32 + o → M1 x = M x := fun x hx => by rw [e, va_up_ne _ _ (fun z => hx (by rw [z]; exact q3))]
  refine sw_P_gen (τ := sg_send0 σ o) h (o := o) (i := 0) (fun x _ _ a3 _ _ _ _ => ⟨rfl, k0 x a3⟩) ho (by decide) rfl rfl (fun j _ hj => ⟨rfl, rfl, rfl⟩) (fun x _ hx => ⟨rfl, rfl, rfl, rfl, ?_, va_up_ne _ _ hx, rfl⟩) (sw_In_kept (h.2.2.1 0 (by decide)) (fun x hx => ⟨rfl, k0 x (by omega)⟩)) ?_
  · show _ = va_up (sg_se σ) o none x
    rw [va_up_ne _ _ hx]
  · show sw_Ou D M1 ow fO (va_up la o none) op sp lp LQ o (sg_kd σ o) (sg_wt σ o) (sg_lt σ o) (sg_qu σ o) (va_up (sg_se σ) o none o)
    unfold sw_Ou
    rw [va_up_self, va_up_self]
    refine ⟨q1, ?_, q3, ⟨f, by rw [k0 _ (by omega)]; exact q4, q4'⟩, q5, ⟨f2, by rw [k0 _ (by omega)]; exact q6, q6'⟩, q7, ⟨sw_sg_kept q8 (fun x hx => k0 x (by have := q10 x hx; omega)), q9, q10⟩, trivial⟩
    rw [e, hL]; exact va_up_self _ _ _
/-- output o sends its first cell -/
theorem sw_do_send1 (h : sw_P D M a σ hh F aI aO fI fO oa la ip op sp lp LQ ow) {o : Nat} (ho : o < 8) {c : sg_Ce} {cs : List sg_Ce} (hq : sg_qu σ o = c :: cs) (hi8 : sg_ci c < 8) {x : Nat} {xs : List Nat} (hL : LQ o = x :: xs) {g : Nat → Int64} (hg : ∀ j, j < 8 → g j = if cs = [] then 0 else sg_lt σ o j) {N : Int32} (hN : N = nI cs.length) {K : Nat} (hK : hh (sg_ci c) = K + 1)
    (p1 : M1 (op o) = some (sw_o (sg_kd σ o) (sp o) (lp o) (sw_hd xs none) N (some x))) (p2 : M1 (lp o) = some (hp_al D 8 g)) (p3 : M1 x = some (sw_c c none)) (p4 : M1 (ip (sg_ci c)) = some (sw_i (oa (sg_ci c)) (nI K)))
    (p6 : ∀ y, y ≠ op o → y ≠ lp o → y ≠ x → y ≠ ip (sg_ci c) → M1 y = M y) : sw_P D M1 a (sg_send1 σ o c cs) (va_up hh (sg_ci c) K) F aI aO fI fO oa (va_up la o (some x)) ip op sp lp (va_up LQ o xs) (va_up ow x (16 + o)) ∧ sw_fr F M M1 := by
  obtain ⟨i1, i2, i3, i4⟩ := h.2.2.1 (sg_ci c) hi8
  obtain ⟨q1, q2, q3, ⟨f, q4, q4'⟩, q5, ⟨f2, q6, q6'⟩, q7, ⟨q8, q9, q10⟩, q11⟩ := h.2.2.2.1 o ho
  have hxo : ow x = o := q10 x (by rw [hL]; exact List.mem_cons_self)
  have hne : ∀ y, ow y ≠ o → y ≠ x := fun y hy z => hy (by rw [z]; exact hxo)
  rw [hL, hq] at q8
  rw [hL] at q9 q10
  obtain ⟨n1, n2⟩ := List.nodup_cons.mp q9
  have kM : ∀ y, y ≠ x → ow y ≠ 32 + o → ow y ≠ 48 + o → ow y ≠ 24 + sg_ci c → M1 y = M y := fun y a1 a2 a3 a4 => p6 y (fun z => a2 (by rw [z]; exact q3)) (fun z => a3 (by rw [z]; exact q7)) a1 (fun z => a4 (by rw [z]; exact i3))
  refine sw_P_gen (τ := sg_send1 σ o c cs) h (o := o) (i := sg_ci c) (fun y a1 _ a3 _ a5 a6 a7 => ⟨va_up_ne _ _ (hne y a1), kM y (hne y a1) a3 a5 a7⟩) ho hi8 rfl rfl (fun j _ hj => ⟨rfl, (va_up_ne _ _ hj).symm, rfl⟩) (fun y _ hy => ⟨rfl, rfl, ?_, ?_, ?_, va_up_ne _ _ hy, va_up_ne _ _ hy⟩) ?_ ?_
  · show _ = (if cs = [] then va_up (sg_lt σ) o (fun _ => 0) else sg_lt σ) y
    split
    · rw [va_up_ne _ _ hy]
    · rfl
  · show _ = va_up (sg_qu σ) o cs y
    rw [va_up_ne _ _ hy]
  · show _ = va_up (sg_se σ) o (some c) y
    rw [va_up_ne _ _ hy]
  · show sw_In M1 (va_up ow x (16 + o)) fI oa ip (sg_ci c) (va_up hh (sg_ci c) K (sg_ci c)) (sg_of σ (sg_ci c))
    unfold sw_In
    rw [va_up_self]
    exact ⟨i1, p4, by rw [va_up_ne _ _ (hne _ (by omega))]; exact i3, sw_one_kept i4 (fun y hy => ⟨va_up_ne _ _ (hne y (by omega)), kM y (hne y (by omega)) (by omega) (by omega) (by omega)⟩)⟩
  · show sw_Ou D M1 (va_up ow x (16 + o)) fO (va_up la o (some x)) op sp lp (va_up LQ o xs) o (sg_kd σ o) (sg_wt σ o) ((if cs = [] then va_up (sg_lt σ) o (fun _ => 0) else sg_lt σ) o) (va_up (sg_qu σ) o cs o) (va_up (sg_se σ) o (some c) o)
    unfold sw_Ou
    rw [va_up_self, va_up_self, va_up_self, va_up_self]
    refine ⟨q1, by rw [← hN]; exact p1, by rw [va_up_ne _ _ (hne _ (by omega))]; exact q3, ⟨f, by rw [kM _ (hne _ (by omega)) (by omega) (by omega) (by omega)]; exact q4, q4'⟩, by rw [va_up_ne _ _ (hne _ (by omega))]; exact q5, ⟨g, p2, fun j hj => ?_⟩, by rw [va_up_ne _ _ (hne _ (by omega))]; exact q7, ⟨sw_sg_kept q8.2 (fun y hy => ?_), n2, fun y hy => ?_⟩, p3, va_up_self _ _ _⟩
    · rw [hg j hj]
      split
      · rw [va_up_self]
      · rfl
    · have hyo := q10 y (List.mem_cons_of_mem _ hy)
      exact kM y (fun z => n1 (z ▸ hy)) (by omega) (by omega) (by omega)
    · rw [va_up_ne _ _ (hp_nm hy n1)]
      exact q10 y (List.mem_cons_of_mem _ hy)
/-- a port is emptied -/
def sg_res1 (σ : sg_S) (n : Nat) : sg_S := (sg_kd σ, sg_wt σ, va_up (sg_lt σ) n (fun _ => 0), va_up (sg_qu σ) n [], va_up (sg_of σ) n none, sg_sl σ, sg_ac σ, va_up (sg_se σ) n none)
theorem sw_do_res1 (h : sw_P D M a σ hh F aI aO fI fO oa la ip op sp lp LQ ow) {n : Nat} (hn : n < 8) {g : Nat → Int64} (hg : ∀ j, j < 8 → g j = 0) (p1 : M1 (op n) = some (sw_o (sg_kd σ n) (sp n) (lp n) none 0 none)) (p2 : M1 (lp n) = some (hp_al D 8 g)) (p3 : M1 (ip n) = some (sw_i none 0)) (p6 : ∀ y, y ≠ op n → y ≠ lp n → y ≠ ip n → M1 y = M y) : sw_P D M1 a (sg_res1 σ n) (va_up hh n 0) F aI aO fI fO (va_up oa n none) (va_up la n none) ip op sp lp (va_up LQ n []) ow ∧ sw_fr F M M1 := by
  obtain ⟨i1, i2, i3, i4⟩ := h.2.2.1 n hn
  obtain ⟨q1, q2, q3, ⟨f, q4, q4'⟩, q5, ⟨f2, q6, q6'⟩, q7, ⟨q8, q9, q10⟩, q11⟩ := h.2.2.2.1 n hn
  have kM : ∀ y, ow y ≠ 32 + n → ow y ≠ 48 + n → ow y ≠ 24 + n → M1 y = M y := fun y a2 a3 a4 => p6 y (fun z => a2 (by rw [z]; exact q3)) (fun z => a3 (by rw [z]; exact q7)) (fun z => a4 (by rw [z]; exact i3))
  refine sw_P_gen (τ := sg_res1 σ n) h (o := n) (i := n) (fun y _ _ a3 _ a5 _ a7 => ⟨rfl, kM y a3 a5 a7⟩) hn hn rfl rfl (fun j _ hj => ⟨?_, (va_up_ne _ _ hj).symm, va_up_ne _ _ hj⟩) (fun y _ hy => ⟨rfl, rfl, ?_, ?_, ?_, va_up_ne _ _ hy, va_up_ne _ _ hy⟩) ?_ ?_
  · show _ = va_up (sg_of σ) n none j
    rw [va_up_ne _ _ hj]
  · show _ = va_up (sg_lt σ) n (fun _ => 0) y
    rw [va_up_ne _ _ hy]
  · show _ = va_up (sg_qu σ) n [] y
    rw [va_up_ne _ _ hy]
  · show _ = va_up (sg_se σ) n none y
    rw [va_up_ne _ _ hy]
  · show sw_In M1 ow fI (va_up oa n none) ip n (va_up hh n 0 n) (va_up (sg_of σ) n none n)
    unfold sw_In
    rw [va_up_self, va_up_self, va_up_self]
    exact ⟨i1, p3, i3, trivial⟩
  · show sw_Ou D M1 ow fO (va_up la n none) op sp lp (va_up LQ n []) n (sg_kd σ n) (sg_wt σ n) (va_up (sg_lt σ) n (fun _ => 0) n) (va_up (sg_qu σ) n [] n) (va_up (sg_se σ) n none n)
    unfold sw_Ou
    rw [va_up_self, va_up_self, va_up_self, va_up_self, va_up_self]
    exact ⟨q1, p1, q3, ⟨f, by rw [kM _ (by omega) (by omega) (by omega)]; exact q4, q4'⟩, q5, ⟨g, p2, hg⟩, q7, ⟨trivial, List.nodup_nil, fun x hx => absurd hx List.not_mem_nil⟩, trivial⟩
end SW4
end
section
section SW5
variable {D : va_G} {M M1 : hp_M} {a : Nat} {σ : sg_S} {F : Nat → Prop} {aI aO : Nat} {fI fO oa la : Nat → Option Nat} {ip op sp lp : Nat → Nat} {LQ : Nat → List Nat} {ow : Nat → Nat}
theorem sw_H_offer (h : sw_P D M a σ (sg_held σ) F aI aO fI fO oa la ip op sp lp LQ ow) {i o g : Nat} (hi8 : i < 8) (hn : sg_of σ i = none) {t : Int32} {q : Nat} (hq : M q = none) (e : M1 = va_up (va_up (va_up M q (some (sw_c (i, o, g, t, sg_ac σ, 0, 0) none))) (ip i) (some (sw_i (some q) (nI (sg_held σ i + 1))))) a (some (sw_s aI aO (sg_sl σ) (lN (sg_ac σ + 1))))) : sw_H D M1 a (sg_offer σ i o g t) F ∧ sw_fr F M M1 := by
  obtain ⟨p1, p2⟩ := sw_do_offer h hi8 hq e
  refine ⟨⟨_, _, _, _, _, _, _, _, _, _, _, _, sw_P_eq p1 rfl rfl (fun j _ => ⟨?_, rfl⟩) (fun _ _ => ⟨rfl, rfl, rfl, rfl, rfl⟩)⟩, p2⟩
  rw [sg_held_offer hn]
  by_cases z : j = i
  · subst z; rw [va_up_self, if_pos rfl]
  · rw [va_up_ne _ _ z, if_neg z]; rfl
theorem sw_H_come (h : sw_P D M a σ (sg_held σ) F aI aO fI fO oa la ip op sp lp LQ ow) (hinv : sg_inv σ) {i : Nat} {c : sg_Ce} (hi8 : i < 8) (hc : sg_of σ i = some c) {q : Nat} (hq : oa i = some q) {L' : List Nat} {g fl : Nat → Int64} {fs : Nat → Int32} (hfl : ∀ j, j < 8 → fl j = sg_lt σ (sg_co c) j) (hfs : ∀ j, j < 8 → fs j = sg_step (sg_wt σ (sg_co c) j)) {t : Int64} (ht : t = (if fl (sg_cg c) < 256 * (sg_sl σ).toInt64 then 256 * (sg_sl σ).toInt64 else fl (sg_cg c)) + (fs (sg_cg c)).toInt64)
    (hg : ∀ j, j < 8 → g j = if sg_kd σ (sg_co c) = 2 then va_up fl (sg_cg c) t j else fl j)
    (p1 : M1 (op (sg_co c)) = some (sw_o (sg_kd σ (sg_co c)) (sp (sg_co c)) (lp (sg_co c)) (sw_hd L' none) (nI (sg_qu σ (sg_co c)).length + 1) (la (sg_co c)))) (p2 : M1 (lp (sg_co c)) = some (hp_al D 8 g)) (p3 : sw_sg M1 L' (sg_ins (sg_kd σ (sg_co c)) (sg_ci c, sg_co c, sg_cg c, sg_ct c, sg_cs c, sg_sl σ, if sg_kd σ (sg_co c) = 2 then t else sg_cm c) (sg_qu σ (sg_co c))) none) (p4 : L'.Nodup) (p5 : ∀ x, x ∈ L' ↔ x = q ∨ x ∈ LQ (sg_co c))
    (p6 : ∀ x, x ≠ op (sg_co c) → x ≠ lp (sg_co c) → x ≠ q → x ∉ LQ (sg_co c) → M1 x = va_up M (ip i) (some (sw_i none (nI (sg_held σ i)))) x) : sw_H D M1 a (sg_come σ i) F ∧ sw_fr F M M1 := by
  obtain ⟨c1, c2, c3, c4, c5, c6⟩ := (hinv.2.1 i hi8).2 c hc
  have et : t = sg_time σ (sg_co c) (sg_cg c) := by
    rw [ht, hfl _ c3, hfs _ c3]; rfl
  rw [et] at hg p3
  rw [c6] at p3
  obtain ⟨r1, r2⟩ := sw_do_come h hi8 c2 hc hq (g := g) (fun j hj => by
    rw [hg j hj]
    split
    · by_cases z : j = sg_cg c
      · rw [z, va_up_self, va_up_self]
      · rw [va_up_ne _ _ z, va_up_ne _ _ z]; exact hfl j hj
    · exact hfl j hj) p1 p2 p3 p4 p5 p6
  have e : sg_come σ i = sg_come1 σ i c := by unfold sg_come; rw [hc]
  rw [e]
  exact ⟨⟨_, _, _, _, _, _, _, _, _, _, _, _, sw_P_eq r1 rfl rfl (fun j _ => ⟨(sg_held_come1 hc c1 c2 j).symm, rfl⟩) (fun _ _ => ⟨rfl, rfl, rfl, rfl, rfl⟩)⟩, r2⟩
theorem sw_H_send0 (h : sw_P D M a σ (sg_held σ) F aI aO fI fO oa la ip op sp lp LQ ow) {o : Nat} (ho : o < 8) (hq : sg_qu σ o = []) (e : M1 = va_up M (op o) (some (sw_o (sg_kd σ o) (sp o) (lp o) none (nI (sg_qu σ o).length) none))) : sw_H D M1 a (sg_send σ o) F ∧ sw_fr F M M1 := by
  obtain ⟨r1, r2⟩ := sw_do_send0 h ho hq e
  rw [sg_send_nil hq]
  exact ⟨⟨_, _, _, _, _, _, _, _, _, _, _, _, sw_P_eq r1 rfl rfl (fun j _ => ⟨rfl, rfl⟩) (fun _ _ => ⟨rfl, rfl, rfl, rfl, rfl⟩)⟩, r2⟩
theorem sw_H_send1 (h : sw_P D M a σ (sg_held σ) F aI aO fI fO oa la ip op sp lp LQ ow) {o : Nat} (ho : o < 8) {c : sg_Ce} {cs : List sg_Ce} (hq : sg_qu σ o = c :: cs) (hi8 : sg_ci c < 8) {x : Nat} {xs : List Nat} (hL : LQ o = x :: xs) {g : Nat → Int64} (hg : ∀ j, j < 8 → g j = if cs = [] then 0 else sg_lt σ o j) {N : Int32} (hN : N = nI cs.length) {K : Nat} (hK : sg_held σ (sg_ci c) = K + 1)
    (p1 : M1 (op o) = some (sw_o (sg_kd σ o) (sp o) (lp o) (sw_hd xs none) N (some x))) (p2 : M1 (lp o) = some (hp_al D 8 g)) (p3 : M1 x = some (sw_c c none)) (p4 : M1 (ip (sg_ci c)) = some (sw_i (oa (sg_ci c)) (nI K)))
    (p6 : ∀ y, y ≠ op o → y ≠ lp o → y ≠ x → y ≠ ip (sg_ci c) → M1 y = M y) : sw_H D M1 a (sg_send σ o) F ∧ sw_fr F M M1 := by
  obtain ⟨r1, r2⟩ := sw_do_send1 h ho hq hi8 hL hg hN hK p1 p2 p3 p4 p6
  rw [sg_send_cons hq]
  refine ⟨⟨_, _, _, _, _, _, _, _, _, _, _, _, sw_P_eq r1 rfl rfl (fun j _ => ⟨?_, rfl⟩) (fun _ _ => ⟨rfl, rfl, rfl, rfl, rfl⟩)⟩, r2⟩
  have e := sg_held_send1 hq ho j
  by_cases z : j = sg_ci c
  · subst z
    rw [va_up_self]
    rw [if_pos rfl] at e
    omega
  · rw [va_up_ne _ _ z]
    rw [if_neg (fun q => z q.symm)] at e
    omega
theorem sw_H_tick (h : sw_P D M a σ (sg_held σ) F aI aO fI fO oa la ip op sp lp LQ ow) {t : Int32} (e : M1 = va_up M a (some (sw_s aI aO t (lN (sg_ac σ))))) : sw_H D M1 a (sg_kd σ, sg_wt σ, sg_lt σ, sg_qu σ, sg_of σ, t, sg_ac σ, sg_se σ) F ∧ sw_fr F M M1 := by
  obtain ⟨⟨g1, g2, g3⟩, ⟨w1, w2, w3⟩, hi, hou, hf⟩ := h
  have k0 : ∀ x, ow x ≠ 56 → M1 x = M x := fun x hx => by rw [e, va_up_ne _ _ (fun z => hx (by rw [z]; exact w1))]
  have kf : ∀ x, F x → M1 x = M x := fun x hx => k0 x (by have := (hf x hx).1; omega)
  refine ⟨⟨aI, aO, fI, fO, oa, la, ip, op, sp, lp, LQ, ow, ⟨by rw [e]; exact va_up_self _ _ _, by rw [k0 _ (by omega)]; exact g2, by rw [k0 _ (by omega)]; exact g3⟩, ⟨w1, w2, w3⟩, fun i q => sw_In_kept (hi i q) (fun x hx => ⟨rfl, k0 x (by omega)⟩), fun o q => sw_Ou_kept (hou o q) (fun x hx => ⟨rfl, k0 x (by omega)⟩) rfl rfl, fun x hx => ⟨(hf x hx).1, by rw [kf x hx]; exact (hf x hx).2⟩⟩, kf⟩
end SW5
theorem sg_step_eq (w : Int32) : (65536 + w - 1) / w = sg_step w := by
  have e : (65536 : Int32) + w - 1 = 65535 + w := by
    rw [Int32.add_comm 65536 w, Int32.sub_eq_add_neg, Int32.add_assoc, Int32.add_comm]
    rfl
  rw [e]; rfl
theorem sg_w_or (x y w : Int32) : (sg_ix x = none) ∨ (∃ o, o < 8 ∧ x = nI o ∧ sg_ix x = some o ∧ sg_ix y = none) ∨ (∃ o g, o < 8 ∧ x = nI o ∧ sg_ix x = some o ∧ g < 8 ∧ y = nI g ∧ sg_ix y = some g ∧ ¬ (1 ≤ w ∧ w ≤ 255)) ∨ ∃ o g, o < 8 ∧ x = nI o ∧ sg_ix x = some o ∧ g < 8 ∧ y = nI g ∧ sg_ix y = some g ∧ (1 ≤ w ∧ w ≤ 255) := by
  rcases sg_ix_or x with h | ⟨o, h1, h2, h3⟩
  · exact Or.inl h.1
  · right
    rcases sg_ix_or y with q | ⟨g, q1, q2, q3⟩
    · exact Or.inl ⟨o, h1, h2, h3, q.1⟩
    · right
      by_cases hw : 1 ≤ w ∧ w ≤ 255
      · exact Or.inr ⟨o, g, h1, h2, h3, q1, q2, q3, hw⟩
      · exact Or.inl ⟨o, g, h1, h2, h3, q1, q2, q3, hw⟩
theorem sg_o_or (x y z : Int32) : (sg_ix x = none) ∨ (∃ i, i < 8 ∧ x = nI i ∧ sg_ix x = some i ∧ sg_ix y = none) ∨ (∃ i o, i < 8 ∧ x = nI i ∧ sg_ix x = some i ∧ o < 8 ∧ y = nI o ∧ sg_ix y = some o ∧ sg_ix z = none) ∨ ∃ i o g, i < 8 ∧ x = nI i ∧ sg_ix x = some i ∧ o < 8 ∧ y = nI o ∧ sg_ix y = some o ∧ g < 8 ∧ z = nI g ∧ sg_ix z = some g := by
  rcases sg_ix_or x with h | ⟨i, h1, h2, h3⟩
  · exact Or.inl h.1
  · right
    rcases sg_ix_or y with q | ⟨o, q1, q2, q3⟩
    · exact Or.inl ⟨i, h1, h2, h3, q.1⟩
    · right
      rcases sg_ix_or z with r | ⟨g, r1, r2, r3⟩
      · exact Or.inl ⟨i, o, h1, h2, h3, q1, q2, q3, r.1⟩
      · exact Or.inr ⟨i, o, g, h1, h2, h3, q1, q2, q3, r1, r2, r3⟩
theorem sw_q3 {M : hp_M} {L : List Nat} {cs : List sg_Ce} (h : sw_sg M L cs none) : (cs = [] ∧ L = []) ∨ (∃ c x, cs = [c] ∧ L = [x] ∧ M x = some (sw_c c none)) ∨ ∃ c d cs' x y ys, cs = c :: d :: cs' ∧ L = x :: y :: ys ∧ M x = some (sw_c c (some y)) := by
  cases cs with
  | nil => exact Or.inl ⟨rfl, sw_sg_nil h rfl⟩
  | cons c cs =>
    obtain ⟨x, xs, rfl, h1, h2⟩ := sw_sg_cons h
    cases cs with
    | nil =>
      have := sw_sg_nil h2 rfl
      subst this
      exact Or.inr (Or.inl ⟨c, x, rfl, rfl, h1⟩)
    | cons d ds =>
      obtain ⟨y, ys, rfl, -, -⟩ := sw_sg_cons h2
      exact Or.inr (Or.inr ⟨c, d, ds, x, y, ys, rfl, rfl, h1⟩)
theorem sg_qu_send (σ : sg_S) {o j : Nat} (h : j ≠ o) : sg_qu (sg_send σ o) j = sg_qu σ j := by
  cases hq : sg_qu σ o with
  | nil => rw [sg_send_nil hq]; rfl
  | cons c cs =>
    rw [sg_send_cons hq]
    exact va_up_ne _ _ h
theorem sg_qu_sends (σ : sg_S) : ∀ {n j : Nat}, n ≤ j → sg_qu (sg_sends σ n) j = sg_qu σ j := by
  intro n
  induction n with
  | zero => intro j _; rfl
  | succ n ih =>
    intro j h
    show sg_qu (sg_send (sg_sends σ n) n) j = _
    rw [sg_qu_send _ (by omega), ih (by omega)]
theorem sg_count_0 {σ : sg_S} {n : Nat} (h : sg_qu σ n = []) : sg_count σ (n + 1) = sg_count σ n := by
  show sg_count σ n + (if sg_qu σ n = [] then 0 else 1) = _
  rw [if_pos h]; rfl
theorem sg_count_1 {σ : sg_S} {n : Nat} {c : sg_Ce} {cs : List sg_Ce} (h : sg_qu σ n = c :: cs) : sg_count σ (n + 1) = sg_count σ n + 1 := by
  show sg_count σ n + (if sg_qu σ n = [] then 0 else 1) = _
  rw [if_neg (by rw [h]; intro z; cases z)]
end
section
/-! reset, leaves -/
def sg_ress (σ : sg_S) : Nat → sg_S
  | 0 => σ
  | n + 1 => sg_res1 (sg_ress σ n) n
def sg_hhs (h : Nat → Nat) : Nat → Nat → Nat
  | 0 => h
  | n + 1 => va_up (sg_hhs h n) n 0
def sw_X (D : va_G) (M : hp_M) (a : Nat) (σ : sg_S) (hh : Nat → Nat) (F : Nat → Prop) : Prop := ∃ (aI aO : Nat) (fI fO oa la : Nat → Option Nat) (ip op sp lp : Nat → Nat) (LQ : Nat → List Nat) (ow : Nat → Nat), sw_P D M a σ hh F aI aO fI fO oa la ip op sp lp LQ ow
theorem sg_ress_eq (σ : sg_S) : ∀ n : Nat, sg_sl (sg_ress σ n) = sg_sl σ ∧ sg_ac (sg_ress σ n) = sg_ac σ ∧ sg_kd (sg_ress σ n) = sg_kd σ ∧ sg_wt (sg_ress σ n) = sg_wt σ ∧ ∀ j, j < n → sg_lt (sg_ress σ n) j = (fun _ => 0) ∧ sg_qu (sg_ress σ n) j = [] ∧ sg_of (sg_ress σ n) j = none ∧ sg_se (sg_ress σ n) j = none ∧ sg_hhs (sg_held σ) n j = 0 := by
  intro n
  induction n with
  | zero => exact ⟨rfl, rfl, rfl, rfl, fun j hj => absurd hj (Nat.not_lt_zero j)⟩
  | succ n ih =>
    obtain ⟨h1, h2, h3, h4, h5⟩ := ih
    refine ⟨h1, h2, h3, h4, fun j hj => ?_⟩
    show va_up (sg_lt (sg_ress σ n)) n (fun _ => 0) j = _ ∧ va_up (sg_qu (sg_ress σ n)) n [] j = _ ∧ va_up (sg_of (sg_ress σ n)) n none j = _ ∧ va_up (sg_se (sg_ress σ n)) n none j = _ ∧ va_up (sg_hhs (sg_held σ) n) n 0 j = 0
    by_cases z : j = n
    · subst z
      exact ⟨va_up_self _ _ _, va_up_self _ _ _, va_up_self _ _ _, va_up_self _ _ _, va_up_self _ _ _⟩
    · rw [va_up_ne _ _ z, va_up_ne _ _ z, va_up_ne _ _ z, va_up_ne _ _ z, va_up_ne _ _ z]
      exact h5 j (by omega)
theorem sw_H_reset {D : va_G} {M : hp_M} {a : Nat} {σ : sg_S} {F : Nat → Prop} (h : sw_X D M a (sg_ress σ 8) (sg_hhs (sg_held σ) 8) F) : sw_H D M a (sg_reset σ) F := by
  obtain ⟨aI, aO, fI, fO, oa, la, ip, op, sp, lp, LQ, ow, hP⟩ := h
  obtain ⟨h1, h2, h3, h4, h5⟩ := sg_ress_eq σ 8
  refine ⟨aI, aO, fI, fO, oa, la, ip, op, sp, lp, LQ, ow, sw_P_eq hP h1 h2 (fun j hj => ⟨?_, (h5 j hj).2.2.1⟩) (fun o ho => ⟨by rw [h3]; rfl, by rw [h4]; rfl, (h5 o ho).1, (h5 o ho).2.1, (h5 o ho).2.2.2.1⟩)⟩
  rw [(h5 j hj).2.2.2.2]
  show 0 = 0 + sg_sum (fun _ => 0) 8
  rw [sg_sum_0]
/-- is c to be taken, where b was the best? -/
def lv_bet (b : Option sg_Ce) (c : sg_Ce) : Bool := match b with
  | none => true
  | some d => decide (sg_cs c < sg_cs d)
def lv_in (t : Int32) : Option sg_Ce × Int32 → Nat → List sg_Ce → Option sg_Ce × Int32
  | b, _, [] => b
  | b, p, c :: cs => lv_in t (if sg_ct c = t ∧ lv_bet b.1 c = true then (some c, nI p) else b) (p + 1) cs
def lv_out (σ : sg_S) (t : Int32) : Nat → Option sg_Ce × Int32
  | 0 => (none, -1)
  | n + 1 => lv_in t (lv_out σ t n) 0 (sg_qu σ n)
def an_leaves (σ : sg_S) (t : Int32) : Int32 := (lv_out σ t 8).2
def lv_e (M : hp_M) (x : Option Nat) (b : Option sg_Ce) : Prop := match x, b with
  | none, none => True
  | some q, some d => (∃ nx, M q = some (sw_c d nx)) ∧ sg_cs d < 512
  | _, _ => False
theorem lv_e_no {M : hp_M} {b : Option sg_Ce} (h : lv_e M none b) : b = none := by
  cases b with
  | none => rfl
  | some d => exact absurd h (fun q => q)
theorem lv_e_yes {M : hp_M} {x : Nat} {b : Option sg_Ce} (h : lv_e M (some x) b) : ∃ d nx, b = some d ∧ M x = some (sw_c d nx) ∧ sg_cs d < 512 := by
  cases b with
  | none => exact absurd h (fun q => q)
  | some d => obtain ⟨⟨nx, h1⟩, h2⟩ := h; exact ⟨d, nx, rfl, h1, h2⟩
theorem lv_take {t : Int32} {b : Option sg_Ce × Int32} {p : Nat} {c : sg_Ce} {cs : List sg_Ce} (h1 : sg_ct c = t) (h2 : lv_bet b.1 c = true) : lv_in t b p (c :: cs) = lv_in t (some c, nI p) (p + 1) cs := by
  show lv_in t (if sg_ct c = t ∧ lv_bet b.1 c = true then (some c, nI p) else b) (p + 1) cs = _
  rw [if_pos ⟨h1, h2⟩]
theorem lv_skip {t : Int32} {b : Option sg_Ce × Int32} {p : Nat} {c : sg_Ce} {cs : List sg_Ce} (h : ¬ (sg_ct c = t ∧ lv_bet b.1 c = true)) : lv_in t b p (c :: cs) = lv_in t b (p + 1) cs := by
  show lv_in t (if sg_ct c = t ∧ lv_bet b.1 c = true then (some c, nI p) else b) (p + 1) cs = _
  rw [if_neg h]
theorem lv_ge {c d : sg_Ce} (hc : sg_cs c < 512) (hd : sg_cs d < 512) (h : 0 ≤ lg_cmp (lN (sg_cs c)) (lN (sg_cs d))) : lv_bet (some d) c = false := by
  rw [lg_cmp_ge, lN_le (by omega) (by omega)] at h
  exact decide_eq_false (Nat.not_lt_of_le h)
theorem lv_nge {c d : sg_Ce} (hc : sg_cs c < 512) (hd : sg_cs d < 512) (h : ¬ 0 ≤ lg_cmp (lN (sg_cs c)) (lN (sg_cs d))) : lv_bet (some d) c = true := by
  rw [lg_cmp_ge, lN_le (by omega) (by omega)] at h
  exact decide_eq_true (Nat.lt_of_not_le h)
end
section
/-! The making of an EvenSwitch. -/
def sw_I0 (D : va_G) (M : hp_M) (a : Nat) (F : Nat → Prop) (aI aO : Nat) (fI fO : Nat → Option Nat) (n : Nat) : Prop := ∃ (ip op sp lp ow : Nat → Nat),
  (M a = some (sw_s aI aO 0 0) ∧ M aI = some (hp_aq D 12 8 fI) ∧ M aO = some (hp_aq D 13 8 fO)) ∧ (ow a = 56 ∧ ow aI = 57 ∧ ow aO = 58) ∧
  (∀ i, i < n → sw_In M ow fI (fun _ => none) ip i 0 none) ∧ (∀ o, o < n → sw_Ou D M ow fO (fun _ => none) op sp lp (fun _ => []) o 0 (fun _ => 1) (fun _ => 0) [] none) ∧ ∀ x, F x → ow x = 99 ∧ M x ≠ none
theorem sw_I0_0 {D : va_G} {M : hp_M} {a : Nat} {F : Nat → Prop} {aI aO : Nat} {fI fO : Nat → Option Nat} (h1 : M a = some (sw_s aI aO 0 0)) (h2 : M aI = some (hp_aq D 12 8 fI)) (h3 : M aO = some (hp_aq D 13 8 fO)) (n1 : aI ≠ a) (n2 : aO ≠ a) (n3 : aO ≠ aI) (hF : ∀ x, F x → x ≠ a ∧ x ≠ aI ∧ x ≠ aO ∧ M x ≠ none) : sw_I0 D M a F aI aO fI fO 0 := by
  refine ⟨fun _ => 0, fun _ => 0, fun _ => 0, fun _ => 0, fun x => if x = a then 56 else if x = aI then 57 else if x = aO then 58 else 99, ⟨h1, h2, h3⟩, ⟨if_pos rfl, ?_, ?_⟩, fun i hi => absurd hi (Nat.not_lt_zero i), fun i hi => absurd hi (Nat.not_lt_zero i), fun x hx => ⟨?_, (hF x hx).2.2.2⟩⟩
  · show (if aI = a then 56 else if aI = aI then 57 else if aI = aO then 58 else 99) = 57
    rw [if_neg n1, if_pos rfl]
  · show (if aO = a then 56 else if aO = aI then 57 else if aO = aO then 58 else 99) = 58
    rw [if_neg n2, if_neg n3, if_pos rfl]
  · obtain ⟨b1, b2, b3, -⟩ := hF x hx
    show (if x = a then 56 else if x = aI then 57 else if x = aO then 58 else 99) = 99
    rw [if_neg b1, if_neg b2, if_neg b3]
theorem sw_I0_step {D : va_G} {M M1 : hp_M} {a : Nat} {F : Nat → Prop} {aI aO : Nat} {fI fO : Nat → Option Nat} {n : Nat} (hn : n < 8) (h : sw_I0 D M a F aI aO fI fO n) {q1 q2 q3 q4 : Nat} {f : Nat → Int32} (hf : ∀ j, j < 8 → f j = 65536)
    (z1 : M q1 = none) (z2 : M q2 = none) (z3 : M q3 = none) (z4 : M q4 = none) (k1 : M1 q1 = some (sw_i none 0)) (k2 : M1 q2 = some (sw_o 0 q3 q4 none 0 none)) (k3 : M1 q3 = some (hp_ai D 8 f)) (k4 : M1 q4 = some (hp_al D 8 (fun _ => 0)))
    (ka : M1 a = some (sw_s aI aO 0 0)) (kI : M1 aI = some (hp_aq D 12 8 (va_up fI n (some q1)))) (kO : M1 aO = some (hp_aq D 13 8 (va_up fO n (some q2)))) (kf : ∀ x, M x ≠ none → x ≠ aI → x ≠ aO → M1 x = M x) : sw_I0 D M1 a F aI aO (va_up fI n (some q1)) (va_up fO n (some q2)) (n + 1) ∧ sw_fr F M M1 := by
  obtain ⟨ip, op, sp, lp, ow, ⟨g1, g2, g3⟩, ⟨w1, w2, w3⟩, hi, ho, hF⟩ := h
  have d12 : q1 ≠ q2 := hp_ne ix_in ix_ou k1 k2 rfl rfl (by decide)
  have d13 : q1 ≠ q3 := hp_ne ix_in 100 k1 k3 rfl rfl (by decide)
  have d14 : q1 ≠ q4 := hp_ne ix_in 101 k1 k4 rfl rfl (by decide)
  have d23 : q2 ≠ q3 := hp_ne ix_ou 100 k2 k3 rfl rfl (by decide)
  have d24 : q2 ≠ q4 := hp_ne ix_ou 101 k2 k4 rfl rfl (by decide)
  have d34 : q3 ≠ q4 := hp_ne 100 101 k3 k4 rfl rfl (by decide)
  obtain ⟨ow', eo⟩ : ∃ z, z = va_up (va_up (va_up (va_up ow q1 (24 + n)) q2 (32 + n)) q3 (40 + n)) q4 (48 + n) := ⟨_, rfl⟩
  have ko : ∀ x, M x ≠ none → ow' x = ow x := fun x hx => by
    rw [eo, va_up_ne _ _ (fun z => hx (by rw [z]; exact z4)), va_up_ne _ _ (fun z => hx (by rw [z]; exact z3)), va_up_ne _ _ (fun z => hx (by rw [z]; exact z2)), va_up_ne _ _ (fun z => hx (by rw [z]; exact z1))]
  have o1 : ow' q1 = 24 + n := by rw [eo, va_up_ne _ _ d14, va_up_ne _ _ d13, va_up_ne _ _ d12]; exact va_up_self _ _ _
  have o2 : ow' q2 = 32 + n := by rw [eo, va_up_ne _ _ d24, va_up_ne _ _ d23]; exact va_up_self _ _ _
  have o3 : ow' q3 = 40 + n := by rw [eo, va_up_ne _ _ d34]; exact va_up_self _ _ _
  have o4 : ow' q4 = 48 + n := by rw [eo]; exact va_up_self _ _ _
  have hs : ∀ {x : Nat} {y : va_E}, M x = some y → M x ≠ none := fun hx z => by rw [hx] at z; cases z
  have kk : ∀ x, M x ≠ none → ow x ≠ 57 → ow x ≠ 58 → ow' x = ow x ∧ M1 x = M x := fun x h1 h2 h3 => ⟨ko x h1, kf x h1 (fun z => h2 (by rw [z]; exact w2)) (fun z => h3 (by rw [z]; exact w3))⟩
  have kF : ∀ x, F x → ow' x = ow x ∧ M1 x = M x := fun x hx => kk x (hF x hx).2 (by have := (hF x hx).1; omega) (by have := (hF x hx).1; omega)
  refine ⟨⟨va_up ip n q1, va_up op n q2, va_up sp n q3, va_up lp n q4, ow', ⟨ka, kI, kO⟩, ⟨by rw [ko a (hs g1)]; exact w1, by rw [ko aI (hs g2)]; exact w2, by rw [ko aO (hs g3)]; exact w3⟩, fun i q => ?_, fun o q => ?_, fun x hx => ⟨by rw [(kF x hx).1]; exact (hF x hx).1, by rw [(kF x hx).2]; exact (hF x hx).2⟩⟩, fun x hx => (kF x hx).2⟩
  · unfold sw_In
    by_cases z : i = n
    · subst z
      rw [va_up_self, va_up_self]
      exact ⟨rfl, k1, o1, trivial⟩
    · rw [va_up_ne _ _ z, va_up_ne _ _ z]
      obtain ⟨b1, b2, b3, -⟩ := hi i (by omega)
      have b4 := kk _ (hs b2) (by omega) (by omega)
      exact ⟨b1, by rw [b4.2]; exact b2, by rw [b4.1]; exact b3, trivial⟩
  · unfold sw_Ou
    by_cases z : o = n
    · subst z
      rw [va_up_self, va_up_self, va_up_self, va_up_self]
      exact ⟨rfl, k2, o2, ⟨f, k3, fun j hj => by rw [hf j hj]; show (65536 : Int32) = sg_step 1; decide⟩, o3, ⟨_, k4, fun j _ => rfl⟩, o4, ⟨trivial, List.nodup_nil, fun x hx => absurd hx List.not_mem_nil⟩, trivial⟩
    · rw [va_up_ne _ _ z, va_up_ne _ _ z, va_up_ne _ _ z, va_up_ne _ _ z]
      obtain ⟨b1, b2, b3, ⟨f1, b4, b4'⟩, b5, ⟨f2, b6, b6'⟩, b7, -, -⟩ := ho o (by omega)
      have c2 := kk _ (hs b2) (by omega) (by omega)
      have c4 := kk _ (hs b4) (by omega) (by omega)
      have c6 := kk _ (hs b6) (by omega) (by omega)
      exact ⟨b1, by rw [c2.2]; exact b2, by rw [c2.1]; exact b3, ⟨f1, by rw [c4.2]; exact b4, b4'⟩, by rw [c4.1]; exact b5, ⟨f2, by rw [c6.2]; exact b6, b6'⟩, by rw [c6.1]; exact b7, ⟨trivial, List.nodup_nil, fun x hx => absurd hx List.not_mem_nil⟩, trivial⟩
theorem sw_I0_8 {D : va_G} {M : hp_M} {a : Nat} {F : Nat → Prop} {aI aO : Nat} {fI fO : Nat → Option Nat} (h : sw_I0 D M a F aI aO fI fO 8) : sw_H D M a sg_0 F := by
  obtain ⟨ip, op, sp, lp, ow, h1, h2, hi, ho, hF⟩ := h
  refine ⟨aI, aO, fI, fO, fun _ => none, fun _ => none, ip, op, sp, lp, fun _ => [], ow, h1, h2, fun i q => ?_, ho, hF⟩
  have e : sg_held sg_0 i = 0 := by
    show 0 + sg_sum (fun _ => 0) 8 = 0
    rw [sg_sum_0]
  rw [e]; exact hi i q
/-! a contract with one more word -/
section HC2
variable {p : Program} {l : Launch} {e : Env} {R : Room} {s : State} {m : MethodId} {args : Array Value} {below : List Frame} {meth : Method} {c : Code} {H : Heap} {locs : List Loc} {cells slots : Nat} {Q : State → Prop}
variable {cc : ByteArray} {pc : Nat} {ls : Array Slot} {rest st0 : List Value} {D : va_G} {B b : Nat} {M : hp_M} {y : MethodName} {bytes : ByteArray} {maxL nL mc ms n index : Nat} {ret : Option FieldType} {rm : Room} {own : String} {As : List Value} {Qc : Array Value → State → Outcome → State → Prop} {E : State → Prop}
theorem hp_met2 {av : List Value} (hy : plainName y.cls = true) (hlen : (lg_sl av).length ≤ maxL)
    (body : ∀ (p : Program) (e : Env) (s : State) (m : MethodId) (args : Array Value) (below : List Frame) (meth : Method) (c : Code) (ls : Array Slot) (Q : State → Prop), (∀ t : State, MQ below Qc args s mc ms (hp_ub B) t → Q t) → p.tables.exec = Jvm.exec → c.code = cc → meth.sig.returnType = ret → (∀ w ∈ wd_T, w.before args s = true) → s.vm.findClass y.cls = some m.cls → meth.locks = false → meth.name = y.name → c.maxLocals = maxL → va_K D classes (hp_T D) s → hp_H D B M s.heap → va_S (hp_ub B) s.heap s.heap [] → B ≤ s.heap.size → lv_has ls maxL (lv_args 0 av) → E s →
      W p l e rm s m args below meth c s.heap [] 0 0 Q (F0 m 0 ls [])) :
    Met l y (wd_c y cc maxL ret) rm (va_Pc av (fun U => hp_C D B M U ∧ E U)) Qc mc ms (hp_ub B) := by
  refine Met.ofW (cc := cc) (maxL := maxL) (ret := ret) hy rfl ?_
  intro p e s m args below meth c s₁ Bd hml hv
  obtain ⟨rfl, ⟨hH, hK⟩, hE⟩ := hv
  have hts := atoms_spec (ws := wd_c y cc maxL ret) Bd.pre
  rw [lg_entry_eq]
  exact body p e s m _ below meth c _ _ (fun _ h => h) Bd.exec Bd.bytes Bd.returns (fun w h => hts w (List.mem_cons_of_mem _ h)) (findClass_of_methodNamed Bd.named) Bd.notSynchronized (name_of_methodNamed Bd.named Bd.method).1 hml hK hH va_S.rf hH.1 (lv_entry av hlen) hE
theorem hp_runIN {host : String} (hx : p.tables.exec = Jvm.exec) (hb : c.code = cc) (hml : c.maxLocals = nL) (hown : s.vm.findClass own = some m.cls) {ws : List Cond} (hM : Met l y ws rm (va_Pc (.ref b :: As) (hp_C D B M)) Qc mc ms (hp_ub B)) (cw : va_CN R s args own index y host bytes maxL none ws rm mc ms n ∧ y.name = "<init>" ∧ (Cond.instanceMethod y).before args s = true) (hK : va_K D classes (hp_T D) s) (hH : hp_H D B M H) (hn : As.length = n) (hsize : ls.size = nL) (hst : st0 = As.reverse ++ .ref b :: rest) (hW : (rest.map fun v => v.category).sum ≤ 8) (hdg : decode cc pc = .ok (.invokespecial index, 3)) (hf : cells + mc ≤ R.cells ∧ slots + ms ≤ R.slots) :
    va_Run p l e R s m args below meth c H locs cells slots mc ms (F0 m pc ls st0) rest (Qc (Value.ref b :: As).toArray) (hp_ub B) :=
  va_runIN (Ts := []) ⟨hx, hb, hml, hown, fun _ h => absurd h List.not_mem_nil⟩ hM cw ⟨hp_blind, hp_pre hH hK⟩ rfl hn hsize hst (lv_room hW) hdg hf
theorem hp_cwN {host : String} (n : Nat) (ht : ∀ w ∈ wd_T, w.before args s = true) (hl : va_Nw (.methodLinkNest own index y host) s) (hi : Cond.instanceMethod y ∈ wd_T) (hini : Cond.initialized y.cls ∈ wd_T) (hc : Cond.code y bytes maxL none ∈ wd_T) (hy : y.name = "<init>") (hrc : rm.cells = mc) (hrs : rm.slots = ms)
    (hd : y.cls ≠ "java/lang/invoke/MethodHandle" ∧ y.cls ≠ "java/lang/invoke/VarHandle" ∧ (parseMethodDescriptor y.desc).map (fun d => d.parameters.length) = some n) (hR : rm.frames + 1 ≤ R.frames ∧ 8 + (maxL + 11) + rm.locals ≤ R.locals) : va_CN R s args own index y host bytes maxL none (wd_c y bytes maxL none) rm mc ms n ∧ y.name = "<init>" ∧ (Cond.instanceMethod y).before args s = true :=
  ⟨va_cnB n ht (wd_good hc) rfl hrc hrs hl (ht _ hini) hd hR, hy, ht _ hi⟩
theorem hp_runI2 (hEb : ∀ (a : Array Value) (U : State) (g : JFrame) (mk : MethodId), E U → E (U.calling g mk a)) (hEw : ∀ U : State, s.WarmedH U.vm → E U) (hx : p.tables.exec = Jvm.exec) (hb : c.code = cc) (hml : c.maxLocals = nL) (hown : s.vm.findClass own = some m.cls) {ws : List Cond} (hM : Met l y ws rm (va_Pc (.ref b :: As) (fun U => hp_C D B M U ∧ E U)) Qc mc ms (hp_ub B)) (cw : CallB R s args own index y bytes maxL none ws rm mc ms n ∧ y.name = "<init>" ∧ (Cond.instanceMethod y).before args s = true) (hK : va_K D classes (hp_T D) s) (hH : hp_H D B M H) (hn : As.length = n) (hsize : ls.size = nL) (hst : st0 = As.reverse ++ .ref b :: rest) (hW : (rest.map fun v => v.category).sum ≤ 8) (hdg : decode cc pc = .ok (.invokespecial index, 3)) (hf : cells + mc ≤ R.cells ∧ slots + ms ≤ R.slots) :
    va_Run p l e R s m args below meth c H locs cells slots mc ms (F0 m pc ls st0) rest (Qc (Value.ref b :: As).toArray) (hp_ub B) :=
  va_runI (Ts := []) ⟨hx, hb, hml, hown, fun _ h => absurd h List.not_mem_nil⟩ hM cw ⟨fun a U g mk q => ⟨q.1, ⟨q.2.1.1, va_K.moved (u := U) (U := U.calling g mk a) (Vm.Alike.refl U.vm) q.2.1.2⟩, hEb a U g mk q.2.2⟩, fun U hU hW => ⟨rfl, ⟨by rw [hU]; exact hH, va_K.moved hW.alike hK⟩, hEw U hW⟩⟩ rfl hn hsize hst (lv_room hW) hdg hf
end HC2
/-- what the making of an EvenSwitch needs besides -/
def sw_E (U : State) : Prop := va_Nw (.methodLinkNest R_Sw 21 y_In_init "EvenSwitch") U ∧ va_AO R_In U ∧ va_AO R_Ou U
theorem sw_E_b (a : Array Value) (U : State) (g : JFrame) (mk : MethodId) (h : sw_E U) : sw_E (U.calling g mk a) := ⟨va_Nw.same rfl rfl h.1, va_AO.moved (u := U) (Vm.Alike.refl U.vm) h.2.1, va_AO.moved (u := U) (Vm.Alike.refl U.vm) h.2.2⟩
theorem sw_E_w {s : State} (h : sw_E s) (U : State) (hW : s.WarmedH U.vm) : sw_E U := ⟨va_Nw.warmM hW h.1, va_AO.moved hW.alike h.2.1, va_AO.moved hW.alike h.2.2⟩
end
section
/-! The reference's relation: what its reads give. -/
def sg_sei (σ : sg_S) : Prop := ∀ o, o < 8 → ∀ c, sg_se σ o = some c → sg_ci c < 8
theorem sg_sei_0 : sg_sei sg_0 := fun _ _ c h => by cases h
theorem sg_sei_send {σ : sg_S} (h : sg_sei σ) (hv : sg_inv σ) {n : Nat} (hn : n < 8) : sg_sei (sg_send σ n) := by
  intro o ho c hc
  cases hq : sg_qu σ n with
  | nil =>
    rw [sg_send_nil hq] at hc
    have hc : va_up (sg_se σ) n none o = some c := hc
    by_cases z : o = n
    · subst z; rw [va_up_self] at hc; cases hc
    · rw [va_up_ne _ _ z] at hc; exact h o ho c hc
  | cons d ds =>
    rw [sg_send_cons hq] at hc
    have hc : va_up (sg_se σ) n (some d) o = some c := hc
    by_cases z : o = n
    · subst z
      rw [va_up_self] at hc
      cases hc
      exact ((hv.1 o ho).2.2.2 c (by rw [hq]; exact List.mem_cons_self)).1
    · rw [va_up_ne _ _ z] at hc; exact h o ho c hc
theorem sg_sei_come {σ : sg_S} (h : sg_sei σ) (i : Nat) : sg_sei (sg_come σ i) := by
  unfold sg_come
  cases sg_of σ i with
  | none => exact h
  | some c => exact h
theorem sg_sei_comes {σ : sg_S} (h : sg_sei σ) : ∀ n, sg_sei (sg_comes σ n) := by
  intro n
  induction n with
  | zero => exact h
  | succ n ih => exact sg_sei_come ih n
theorem sg_sei_sends {σ : sg_S} (h : sg_sei σ) (hv : sg_inv σ) : ∀ {n}, n ≤ 8 → sg_sei (sg_sends σ n) := by
  intro n
  induction n with
  | zero => intro _; exact h
  | succ n ih => intro hn; exact sg_sei_send (ih (by omega)) (sg_inv_sends hv (by omega)) (by omega)
theorem sg_sei_slot {σ : sg_S} (h : sg_sei σ) (hv : sg_inv σ) : sg_sei (sg_slot σ) := sg_sei_sends (sg_sei_comes h 8) (sg_inv_comes hv (Nat.le_refl 8)) (Nat.le_refl 8)
theorem md_ix8 (o g : Nat) : (8 : Int32) * nI o + nI g = nI (8 * o + g) := by
  rw [show (8 : Int32) = nI 8 from rfl, pk_mul, nI_add]
theorem md_ix512 (o k : Nat) : (512 : Int32) * nI o + nI k = nI (512 * o + k) := by
  rw [show (512 : Int32) = nI 512 from rfl, pk_mul, nI_add]
theorem md_m1 {k : Nat} (h : k < 2 ^ 31) : ¬ nI k = -1 := by
  intro e
  have h1 := nI_toInt h
  rw [e] at h1
  have h2 : (-1 : Int32).toInt = -1 := rfl
  omega
theorem mo_hs0 {σ : sg_S} {x tk s0 s1 s2 : Int32} {c : Option sg_Ce} (h : mo_se tk s0 s1 s2 c) (hb : ∀ d, c = some d → sg_ci d < 8) (hl : sg_latest σ x = c) (e : s0 = -1) : 0 = an_hasSent σ x := by
  cases c with
  | none => exact an_hasSent_n hl
  | some d =>
    have h1 : s0 = nI (sg_ci d) := h.1
    rw [e] at h1
    exact absurd h1.symm (md_m1 (by have := hb d rfl; omega))
theorem mo_hs1 {σ : sg_S} {x tk s0 s1 s2 : Int32} {c : Option sg_Ce} (h : mo_se tk s0 s1 s2 c) (hl : sg_latest σ x = c) (e : ¬ s0 = -1) : 1 = an_hasSent σ x := by
  cases c with
  | none => exact absurd h e
  | some d => exact an_hasSent_s hl
theorem sg_lat_or (σ : sg_S) (x : Int32) : (sg_latest σ x = none) ∨ ∃ k d, k < 8 ∧ x = nI k ∧ sg_ix x = some k ∧ sg_se σ k = some d ∧ sg_latest σ x = some d := by
  rcases sg_ix_or x with h | ⟨k, h1, h2, h3⟩
  · exact Or.inl (sg_latest_n h.1)
  · cases hs : sg_se σ k with
    | none => exact Or.inl ((sg_latest_s h3).trans hs)
    | some d => exact Or.inr ⟨k, d, h1, h2, h3, hs, (sg_latest_s h3).trans hs⟩
theorem mo_seq {tk s0 s1 s2 : Int32} {c : Option sg_Ce} {d : sg_Ce} (h : mo_se tk s0 s1 s2 c) (e : c = some d) : s0 = nI (sg_ci d) ∧ s1 = sg_ct d ∧ s2 = tk - sg_cc d := by
  subst e; exact h
def an_isCell (σ : sg_S) (x k : Int32) : Int32 := match sg_kth σ x k with
  | none => 0
  | some _ => 1
theorem an_isCell_n {σ : sg_S} {x k : Int32} (h : sg_kth σ x k = none) : 0 = an_isCell σ x k := by simp only [an_isCell, h]
theorem an_isCell_s {σ : sg_S} {x k : Int32} {d : sg_Ce} (h : sg_kth σ x k = some d) : 1 = an_isCell σ x k := by simp only [an_isCell, h]
theorem sg_kth_or2 (σ : sg_S) (x k : Int32) : (sg_kth σ x k = none) ∨ ∃ o j d, o < 8 ∧ x = nI o ∧ k = nI j ∧ j < (sg_qu σ o).length ∧ (sg_qu σ o)[j]? = some d ∧ sg_kth σ x k = some d := by
  rcases sg_kth_or σ x k with h | ⟨o, _, _, h3, h4⟩ | ⟨o, j, _, _, h3, h4, h5, h6⟩ | ⟨o, j, h1, h2, h3, h4, h5, h6⟩
  · exact Or.inl (sg_kth_n h)
  · exact Or.inl (sg_kth_neg h4)
  · subst h5; exact Or.inl ((sg_kth_s h3 h4).trans (List.getElem?_eq_none h6))
  · obtain ⟨d, hd⟩ : ∃ d, (sg_qu σ o)[j]? = some d := ⟨_, List.getElem?_eq_getElem h6⟩
    subst h5
    exact Or.inr ⟨o, j, d, h1, h2, rfl, h6, hd, (sg_kth_s h3 h4).trans hd⟩
theorem mo_rw {ct : Nat → Nat → Int32} {cl : Nat → Nat → Int64} {p : Nat} {d : sg_Ce} (h : mo_row ct cl p = mo_enc d) : ct 1 p = nI (sg_ci d) ∧ ct 2 p = nI (sg_cg d) ∧ ct 3 p = sg_ct d ∧ cl 4 p = sg_cm d ∧ ct 5 p = sg_cc d ∧ ct 6 p = nI (sg_cs d) := by
  simp only [mo_row, mo_enc, Prod.mk.injEq] at h
  exact h
theorem mo_m1 {tk s0 s1 s2 s3 : Int32} {c : Option sg_Ce} (h : mo_of s0 s1 s2 s3 c) (hb : ∀ d, c = some d → sg_co d < 8) (e : s0 = -1) : c = none := by
  cases c with
  | none => rfl
  | some d =>
    have h1 : s0 = nI (sg_co d) := h.1
    rw [e] at h1
    exact absurd h1.symm (md_m1 (by have := hb d rfl; omega))
theorem mo_nm1 {s0 s1 s2 s3 : Int32} {c : Option sg_Ce} (h : mo_of s0 s1 s2 s3 c) (e : ¬ s0 = -1) : ∃ d, c = some d ∧ s0 = nI (sg_co d) ∧ s1 = nI (sg_cg d) ∧ s2 = sg_ct d ∧ s3 = nI (sg_cs d) := by
  cases c with
  | none => exact absurd h e
  | some d => exact ⟨d, rfl, h⟩
theorem mo_R_tk {σ : sg_S} {tk tk' : Nat → Int32} {of sl : Int32} {ct : Nat → Nat → Int32} {cl : Nat → Nat → Int64} (h : mo_R σ tk of sl ct cl) (e : ∀ o, o < 8 → tk o = tk' o) : mo_R σ tk' of sl ct cl := ⟨h.1, h.2.1, fun o ho => by rw [← e o ho]; exact h.2.2.1 o ho, h.2.2.2⟩
theorem an_hasSent_z (σ : sg_S) (x : Int32) : narrow .boolean (.int (an_hasSent σ x)) = .int (an_hasSent σ x) := by
  cases h : sg_latest σ x with
  | none => rw [← an_hasSent_n h]; rfl
  | some d => rw [← an_hasSent_s h]; rfl
end
section
/-! The reference's writes, of the relation. -/
section MO2
variable {σ : sg_S} {tk : Nat → Int32} {of sl : Int32} {ct : Nat → Nat → Int32} {cl : Nat → Nat → Int64}
theorem mo_setO (h : mo_R σ tk of sl ct cl) {o : Nat} {k : Int32} : mo_R (sg_setO σ o k) tk of sl (va_up ct 7 (upd (ct 7) o k)) cl := by
  refine ⟨h.1, h.2.1, fun x hx => ?_, h.2.2.2⟩
  obtain ⟨a1, a2, a3, a4, a5⟩ := h.2.2.1 x hx
  refine ⟨a1, ?_, a3, a4, a5⟩
  show upd (ct 7) o k x = va_up (sg_kd σ) o k x
  by_cases z : x = o
  · subst z; rw [pk_us, va_up_self]
  · rw [pk_un z, va_up_ne _ _ z]; exact a2
theorem mo_setW (h : mo_R σ tk of sl ct cl) {o g : Nat} (hg : g < 8) {w : Int32} : mo_R (sg_setW σ o g w) tk of sl (va_up ct 8 (upd (ct 8) (8 * o + g) w)) cl := by
  refine ⟨h.1, h.2.1, fun x hx => ?_, h.2.2.2⟩
  obtain ⟨a1, a2, a3, a4, a5⟩ := h.2.2.1 x hx
  refine ⟨a1, a2, fun y hy => ⟨?_, (a3 y hy).2⟩, a4, a5⟩
  show upd (ct 8) (8 * o + g) w (8 * x + y) = va_up (sg_wt σ) o (va_up (sg_wt σ o) g w) x y
  by_cases z : x = o
  · subst z
    rw [va_up_self]
    by_cases z2 : y = g
    · subst z2; rw [pk_us, va_up_self]
    · rw [pk_un (by omega), va_up_ne _ _ z2]; exact (a3 y hy).1
  · rw [pk_un (by omega), va_up_ne _ _ z]; exact (a3 y hy).1
theorem mo_offer (h : mo_R σ tk of sl ct cl) {i o g : Nat} {t : Int32} : mo_R (sg_offer σ i o g t) tk (nI (sg_ac σ + 1)) sl (va_up (va_up (va_up (va_up ct 10 (upd (ct 10) i (nI o))) 11 (upd (ct 11) i (nI g))) 12 (upd (ct 12) i t)) 13 (upd (ct 13) i of)) cl := by
  refine ⟨rfl, h.2.1, h.2.2.1, fun j hj => ?_⟩
  show mo_of (upd (ct 10) i (nI o) j) (upd (ct 11) i (nI g) j) (upd (ct 12) i t j) (upd (ct 13) i of j) (va_up (sg_of σ) i (some (i, o, g, t, sg_ac σ, 0, 0)) j)
  by_cases z : j = i
  · subst z
    rw [pk_us, pk_us, pk_us, pk_us, va_up_self]
    exact ⟨rfl, rfl, rfl, h.1⟩
  · rw [pk_un z, pk_un z, pk_un z, pk_un z, va_up_ne _ _ z]
    exact h.2.2.2 j hj
theorem sg_cnt_drop {l : List sg_Ce} {k : Nat} {c : sg_Ce} (i : Nat) (h : l.drop k = c :: l.drop (k + 1)) : sg_cnt i (l.drop k) = (if sg_ci c = i then 1 else 0) + sg_cnt i (l.drop (k + 1)) := by
  rw [h]; rfl
theorem sg_drop {l : List sg_Ce} {k : Nat} (h : k < l.length) : ∃ c, l[k]? = some c ∧ l.drop k = c :: l.drop (k + 1) ∧ c ∈ l := ⟨l[k], List.getElem?_eq_getElem h, List.drop_eq_getElem_cons h, List.getElem_mem h⟩
end MO2
/-- a fresh state's numbers -/
theorem mo_reset {σ : sg_S} {tk : Nat → Int32} {of sl : Int32} {ct ct' : Nat → Nat → Int32} {cl cl' : Nat → Nat → Int64} (h : mo_R σ tk of sl ct cl) (h1 : ∀ k, k < 8 → ct' 0 k = 0 ∧ ct' 10 k = -1 ∧ ct' 14 k = -1) (h2 : ∀ k, k < 64 → cl' 9 k = 0) (h3 : ∀ j, j ≠ 0 → j ≠ 10 → j ≠ 14 → ct' j = ct j) : mo_R (sg_reset σ) tk of sl ct' cl' := by
  refine ⟨h.1, h.2.1, fun o ho => ?_, fun i hi => (h1 i hi).2.1⟩
  obtain ⟨a1, a2, a3, a4, a5⟩ := h.2.2.1 o ho
  refine ⟨(h1 o ho).1, by rw [h3 7 (by decide) (by decide) (by decide)]; exact a2, fun g hg => ⟨by rw [h3 8 (by decide) (by decide) (by decide)]; exact (a3 g hg).1, h2 _ (by omega)⟩, fun k c hc => ?_, (h1 o ho).2.2⟩
  have hc : ([] : List sg_Ce)[k]? = some c := hc
  simp at hc
theorem mo_start {ct' : Nat → Nat → Int32} {cl' : Nat → Nat → Int64} (h1 : ∀ k, k < 8 → ct' 0 k = 0 ∧ ct' 10 k = -1 ∧ ct' 14 k = -1) (h2 : ∀ k, k < 64 → cl' 9 k = 0) (h3 : ∀ k, k < 8 → ct' 7 k = 0) (h4 : ∀ k, k < 64 → ct' 8 k = 1) : mo_R sg_0 (fun _ => 0 - 1) 0 0 ct' cl' := by
  refine ⟨rfl, rfl, fun o ho => ⟨(h1 o ho).1, h3 o ho, fun g hg => ⟨h4 _ (by omega), h2 _ (by omega)⟩, fun k c hc => ?_, (h1 o ho).2.2⟩, fun i hi => (h1 i hi).2.1⟩
  have hc : ([] : List sg_Ce)[k]? = some c := hc
  simp at hc
/-- the arrays of the reference, while it is made -/
def md_K (M0 M : hp_M) (b : Nat) (Fs : List (Nat × va_E)) : Prop := (Fs.map Prod.fst).Nodup ∧ (∀ p ∈ Fs, M p.1 = some p.2 ∧ p.1 ≠ b ∧ M0 p.1 = none) ∧ M b ≠ none ∧ ∀ x, M0 x ≠ none → x ≠ b → M x = M0 x
theorem md_k0 {M : hp_M} {b : Nat} (h : M b ≠ none) : md_K M M b [] := ⟨List.nodup_nil, fun p hp => absurd hp List.not_mem_nil, h, fun _ _ _ => rfl⟩
theorem md_kn {M0 M M1 : hp_M} {b q : Nat} {Fs : List (Nat × va_E)} {e : va_E} (h : md_K M0 M b Fs) (z : M q = none) (eM : M1 = va_up M q (some e)) : md_K M0 M1 b ((q, e) :: Fs) := by
  obtain ⟨h1, h2, h3, h4⟩ := h
  have hqb : b ≠ q := fun w => h3 (by rw [w]; exact z)
  have hq : ∀ p ∈ Fs, p.1 ≠ q := fun p hp w => by have := (h2 p hp).1; rw [w, z] at this; cases this
  have z0 : M0 q = none := by
    cases hz : M0 q with
    | none => rfl
    | some y => have := h4 q (by rw [hz]; intro w; cases w) (Ne.symm hqb); rw [z, hz] at this; cases this
  refine ⟨?_, fun p hp => ?_, by rw [eM, va_up_ne _ _ hqb]; exact h3, fun x a1 a2 => ?_⟩
  · rw [List.map_cons, List.nodup_cons]
    refine ⟨fun hx => ?_, h1⟩
    obtain ⟨p, hp, w⟩ := List.mem_map.mp hx
    exact hq p hp w
  · rcases List.mem_cons.mp hp with w | w
    · rw [w]
      exact ⟨by rw [eM]; exact va_up_self _ _ _, Ne.symm hqb, z0⟩
    · obtain ⟨b1, b2, b3⟩ := h2 p w
      exact ⟨by rw [eM, va_up_ne _ _ (hq p w)]; exact b1, b2, b3⟩
  · rw [eM, va_up_ne _ _ (fun w => a1 (by rw [w]; exact z0))]; exact h4 x a1 a2
theorem md_kp {M0 M M1 : hp_M} {b : Nat} {Fs : List (Nat × va_E)} {e : va_E} (h : md_K M0 M b Fs) (eM : M1 = va_up M b (some e)) : md_K M0 M1 b Fs := by
  obtain ⟨h1, h2, h3, h4⟩ := h
  refine ⟨h1, fun p hp => ?_, (by rw [eM, va_up_self]; intro w; cases w), fun x a1 a2 => by rw [eM, va_up_ne _ _ a2]; exact h4 x a1 a2⟩
  obtain ⟨b1, b2, b3⟩ := h2 p hp
  exact ⟨by rw [eM, va_up_ne _ _ b2]; exact b1, b2, b3⟩
theorem md_inj {L : List Nat} (h : L.Nodup) : ∀ i j, i < L.length → j < L.length → L.getD i 0 = L.getD j 0 → i = j := by
  intro i j hi hj e
  rw [List.getD_eq_getElem?_getD, List.getD_eq_getElem?_getD, List.getElem?_eq_getElem hi, List.getElem?_eq_getElem hj] at e
  have e : L[i] = L[j] := e
  exact (List.getElem?_inj hi h).mp (by rw [List.getElem?_eq_getElem hi, List.getElem?_eq_getElem hj, e])
theorem mo_em {ct1 : Nat → Nat → Int32} {k : Nat} (h : ∀ j, j < k → ct1 0 j = 0 ∧ ct1 10 j = -1 ∧ ct1 14 j = -1) : ∀ j, j < k + 1 → (va_up (va_up (va_up ct1 0 (upd (ct1 0) k 0)) 10 (upd (ct1 10) k (-1))) 14 (upd (ct1 14) k (-1))) 0 j = 0 ∧ (va_up (va_up (va_up ct1 0 (upd (ct1 0) k 0)) 10 (upd (ct1 10) k (-1))) 14 (upd (ct1 14) k (-1))) 10 j = -1 ∧ (va_up (va_up (va_up ct1 0 (upd (ct1 0) k 0)) 10 (upd (ct1 10) k (-1))) 14 (upd (ct1 14) k (-1))) 14 j = -1 := by
  intro j hj
  show upd (ct1 0) k 0 j = 0 ∧ upd (ct1 10) k (-1) j = -1 ∧ upd (ct1 14) k (-1) j = -1
  by_cases z : j = k
  · subst z; exact ⟨pk_us, pk_us, pk_us⟩
  · rw [pk_un z, pk_un z, pk_un z]; exact h j (by omega)
theorem mo_em2 {ct ct1 : Nat → Nat → Int32} {f g h : Nat → Int32} (q : ∀ j, j ≠ 0 → j ≠ 10 → j ≠ 14 → ct1 j = ct j) : ∀ j, j ≠ 0 → j ≠ 10 → j ≠ 14 → (va_up (va_up (va_up ct1 0 f) 10 g) 14 h) j = ct j := by
  intro j a1 a2 a3
  rw [va_up_ne _ _ a3, va_up_ne _ _ a2, va_up_ne _ _ a1]
  exact q j a1 a2 a3
end
section
/-! copy, timeOf, isBehind, come, send of the reference: rows. -/
theorem mo_cp {ct : Nat → Nat → Int32} {cl : Nat → Nat → Int64} {f t : Nat} (p : Nat) : mo_row (va_up (va_up (va_up (va_up (va_up ct 1 (upd (ct 1) t (ct 1 f))) 2 (upd (ct 2) t (ct 2 f))) 3 (upd (ct 3) t (ct 3 f))) 5 (upd (ct 5) t (ct 5 f))) 6 (upd (ct 6) t (ct 6 f))) (va_up cl 4 (vp_updL (cl 4) t (cl 4 f))) p = if p = t then mo_row ct cl f else mo_row ct cl p := by
  show (upd (ct 1) t (ct 1 f) p, upd (ct 2) t (ct 2 f) p, upd (ct 3) t (ct 3 f) p, vp_updL (cl 4) t (cl 4 f) p, upd (ct 5) t (ct 5 f) p, upd (ct 6) t (ct 6 f) p) = _
  by_cases z : p = t
  · subst z; rw [if_pos rfl, pk_us, pk_us, pk_us, pk_uLs, pk_us, pk_us]
  · rw [if_neg z, pk_un z, pk_un z, pk_un z, pk_uLn z, pk_un z, pk_un z]
theorem mo_cp2 {ct : Nat → Nat → Int32} {f1 f2 f3 f5 f6 : Nat → Int32} {j : Nat} (h : j = 0 ∨ 7 ≤ j) : (va_up (va_up (va_up (va_up (va_up ct 1 f1) 2 f2) 3 f3) 5 f5) 6 f6) j = ct j := by
  rw [va_up_ne _ _ (by omega), va_up_ne _ _ (by omega), va_up_ne _ _ (by omega), va_up_ne _ _ (by omega), va_up_ne _ _ (by omega)]
theorem mo_t0 {l b : Int64} (h : l ≤ b) : b = if l < b then b else l := by
  by_cases q : l < b
  · rw [if_pos q]
  · rw [if_neg q]; exact Int64.le_antisymm (Int64.not_lt.mp q) h
theorem mo_t1 {l b : Int64} (h : ¬ l ≤ b) : l = if l < b then b else l := by
  rw [if_neg (fun q => h (Int64.le_of_lt q))]
theorem mb_1t {c d : sg_Ce} (hc : sg_cg c < 8) (hd : sg_cg d < 8) (h : nI (sg_cg c) < nI (sg_cg d)) : 0 = sw_b (!(sg_bef 1 c d)) := by
  rw [nI_ltI (by omega) (by omega)] at h
  rw [sg_bef1, decide_eq_true h]; rfl
theorem mb_1f {c d : sg_Ce} (hc : sg_cg c < 8) (hd : sg_cg d < 8) (h : ¬ nI (sg_cg c) < nI (sg_cg d)) : 1 = sw_b (!(sg_bef 1 c d)) := by
  rw [nI_ltI (by omega) (by omega)] at h
  rw [sg_bef1, decide_eq_false h]; rfl
theorem mb_2t {c d : sg_Ce} (h : 0 < lg_cmp (sg_cm d) (sg_cm c)) : 0 = sw_b (!(sg_bef 2 c d)) := by
  rw [lg_cmp_gt] at h
  rw [sg_bef2, decide_eq_true h]; rfl
theorem mb_2f {c d : sg_Ce} (h : ¬ 0 < lg_cmp (sg_cm d) (sg_cm c)) : 1 = sw_b (!(sg_bef 2 c d)) := by
  rw [lg_cmp_gt] at h
  rw [sg_bef2, decide_eq_false h]; rfl
theorem mb_0 {c d : sg_Ce} : 1 = sw_b (!(sg_bef 0 c d)) := by
  rw [sg_bef0]; rfl
theorem mb_t {b : Bool} (h : ¬ sw_b (!b) = 0) : b = false := by
  cases b with
  | false => rfl
  | true => exact absurd rfl h
theorem mb_f {b : Bool} (h : sw_b (!b) = 0) : b = true := by
  cases b with
  | true => rfl
  | false => exact absurd h (by decide)
/-- while a cell comes to output o: the rows from k on have moved up by one -/
def mo_up (ct ct1 : Nat → Nat → Int32) (cl cl2 : Nat → Nat → Int64) (o k n : Nat) : Prop := (∀ p, p < 512 * o + k ∨ 512 * o + n < p → mo_row ct1 cl2 p = mo_row ct cl p) ∧ (∀ j, k ≤ j → j < n → mo_row ct1 cl2 (512 * o + j + 1) = mo_row ct cl (512 * o + j)) ∧ ∀ j, j = 0 ∨ 7 ≤ j → ct1 j = ct j
theorem mo_up_0 {ct : Nat → Nat → Int32} {cl cl1 : Nat → Nat → Int64} {o n : Nat} (h : cl1 4 = cl 4) : mo_up ct ct cl cl1 o n n := ⟨fun p _ => by simp only [mo_row, h], fun j h1 h2 => by omega, fun _ _ => rfl⟩
theorem mo_up_s {ct ct1 ct2 : Nat → Nat → Int32} {cl cl2 cl3 : Nat → Nat → Int64} {o k n : Nat} (hk : k + 1 ≤ n) (h : mo_up ct ct1 cl cl2 o (k + 1) n) (h1 : ∀ p, mo_row ct2 cl3 p = if p = 512 * o + k + 1 then mo_row ct1 cl2 (512 * o + k) else mo_row ct1 cl2 p) (h2 : ∀ j, j = 0 ∨ 7 ≤ j → ct2 j = ct1 j) : mo_up ct ct2 cl cl3 o k n := by
  obtain ⟨a1, a2, a3⟩ := h
  refine ⟨fun p hp => ?_, fun j b1 b2 => ?_, fun j hj => (h2 j hj).trans (a3 j hj)⟩
  · rw [h1 p, if_neg (by omega)]; exact a1 p (by omega)
  · rw [h1]
    by_cases z : j = k
    · subst z; rw [if_pos rfl]; exact a1 _ (by omega)
    · rw [if_neg (by omega)]; exact a2 j (by omega) b2
theorem mo_R_come {σ : sg_S} {tk : Nat → Int32} {of sl : Int32} {ct ct1 : Nat → Nat → Int32} {cl cl1 cl2 : Nat → Nat → Int64} {i k : Nat} {c : sg_Ce} {T : Int64} (h : mo_R σ tk of sl ct cl) (hinv : sg_inv σ) (hac : sg_ac σ ≤ 512) (hi8 : i < 8) (hc : sg_of σ i = some c) (hT : T = sg_cm (sg_cell σ c))
    (h9 : ∀ x g, x < 8 → g < 8 → cl1 9 (8 * x + g) = sg_lt (sg_come1 σ i c) x g) (hc9 : cl2 9 = cl1 9) (hk : k ≤ (sg_qu σ (sg_co c)).length) (hu : mo_up ct ct1 cl cl2 (sg_co c) k (sg_qu σ (sg_co c)).length) (hins : sg_ins (sg_kd σ (sg_co c)) (sg_cell σ c) (sg_qu σ (sg_co c)) = (sg_qu σ (sg_co c)).take k ++ sg_cell σ c :: (sg_qu σ (sg_co c)).drop k) :
    mo_R (sg_come1 σ i c) tk of sl (va_up (va_up (va_up (va_up (va_up (va_up (va_up ct1 1 (upd (ct1 1) (512 * sg_co c + k) (nI i))) 2 (upd (ct1 2) (512 * sg_co c + k) (nI (sg_cg c)))) 3 (upd (ct1 3) (512 * sg_co c + k) (sg_ct c))) 5 (upd (ct1 5) (512 * sg_co c + k) sl)) 6 (upd (ct1 6) (512 * sg_co c + k) (nI (sg_cs c)))) 0 (upd (ct1 0) (sg_co c) (nI (sg_qu σ (sg_co c)).length + 1))) 10 (upd (ct1 10) i (-1))) (va_up cl2 4 (vp_updL (cl2 4) (512 * sg_co c + k) T)) := by
  obtain ⟨c1, c2, c3, c4, c5, c6⟩ := (hinv.2.1 i hi8).2 c hc
  obtain ⟨u1, u2, u3⟩ := hu
  have hlen := sg_len_lt hinv hi8 c2 hc
  refine ⟨h.1, h.2.1, fun x hx => ?_, fun j hj => ?_⟩
  · obtain ⟨a1, a2, a3, a4, a5⟩ := h.2.2.1 x hx
    have hlx := sg_len_le hinv hx
    refine ⟨?_, ?_, fun g hg => ⟨?_, ?_⟩, fun j d hd => ?_, ?_⟩
    · show upd (ct1 0) (sg_co c) (nI (sg_qu σ (sg_co c)).length + 1) x = nI (va_up (sg_qu σ) (sg_co c) _ x).length
      by_cases z : x = sg_co c
      · rw [z, pk_us, va_up_self, sg_ins_len, nI_1]
      · rw [pk_un z, va_up_ne _ _ z, u3 0 (Or.inl rfl)]; exact a1
    · show ct1 7 x = _
      rw [u3 7 (by decide)]; exact a2
    · show ct1 8 _ = _
      rw [u3 8 (by decide)]; exact (a3 g hg).1
    · show cl2 9 _ = _
      rw [hc9]; exact h9 x g hx hg
    · show (upd (ct1 1) (512 * sg_co c + k) (nI i) (512 * x + j), upd (ct1 2) (512 * sg_co c + k) (nI (sg_cg c)) (512 * x + j), upd (ct1 3) (512 * sg_co c + k) (sg_ct c) (512 * x + j), vp_updL (cl2 4) (512 * sg_co c + k) T (512 * x + j), upd (ct1 5) (512 * sg_co c + k) sl (512 * x + j), upd (ct1 6) (512 * sg_co c + k) (nI (sg_cs c)) (512 * x + j)) = mo_enc d
      have hd : (va_up (sg_qu σ) (sg_co c) (sg_ins (sg_kd σ (sg_co c)) (sg_cell σ c) (sg_qu σ (sg_co c))) x)[j]? = some d := hd
      have hrow : 512 * x + j ≠ 512 * sg_co c + k → (upd (ct1 1) (512 * sg_co c + k) (nI i) (512 * x + j), upd (ct1 2) (512 * sg_co c + k) (nI (sg_cg c)) (512 * x + j), upd (ct1 3) (512 * sg_co c + k) (sg_ct c) (512 * x + j), vp_updL (cl2 4) (512 * sg_co c + k) T (512 * x + j), upd (ct1 5) (512 * sg_co c + k) sl (512 * x + j), upd (ct1 6) (512 * sg_co c + k) (nI (sg_cs c)) (512 * x + j)) = mo_row ct1 cl2 (512 * x + j) := fun z => by rw [pk_un z, pk_un z, pk_un z, pk_uLn z, pk_un z, pk_un z]
      by_cases z : x = sg_co c
      · rw [z, va_up_self, hins] at hd
        rw [z] at hrow a4 ⊢
        rcases Nat.lt_trichotomy j k with w | w | w
        · rw [hrow (by omega), u1 _ (by omega)]
          rw [List.getElem?_append_left (by rw [List.length_take]; omega), List.getElem?_take_of_lt w] at hd
          exact a4 j d hd
        · subst w
          rw [List.getElem?_append_right (by rw [List.length_take]; omega), List.length_take, Nat.min_eq_left hk, Nat.sub_self] at hd
          have hd : sg_cell σ c = d := Option.some.inj hd
          rw [pk_us, pk_us, pk_us, pk_uLs, pk_us, pk_us, ← hd, hT, h.2.1, ← c1]
          rfl
        · rw [hrow (by omega)]
          rw [List.getElem?_append_right (by rw [List.length_take]; omega), List.length_take, Nat.min_eq_left hk] at hd
          obtain ⟨j', rfl⟩ : ∃ j', j = j' + 1 := ⟨j - 1, by omega⟩
          rw [show j' + 1 - k = (j' - k) + 1 by omega, List.getElem?_cons_succ, List.getElem?_drop, show k + (j' - k) = j' by omega] at hd
          have hj' : j' < (sg_qu σ (sg_co c)).length := (List.getElem?_eq_some_iff.mp hd).1
          rw [← Nat.add_assoc, u2 j' (by omega) hj']
          exact a4 j' d hd
      · rw [va_up_ne _ _ z] at hd
        have hj : j < (sg_qu σ x).length := (List.getElem?_eq_some_iff.mp hd).1
        rw [hrow (by omega), u1 _ (by omega)]
        exact a4 j d hd
    · show mo_se (tk x) (ct1 14 x) (ct1 15 x) (ct1 16 x) (sg_se σ x)
      rw [u3 14 (by decide), u3 15 (by decide), u3 16 (by decide)]; exact a5
  · show mo_of (upd (ct1 10) i (-1) j) (ct1 11 j) (ct1 12 j) (ct1 13 j) (va_up (sg_of σ) i none j)
    by_cases z : j = i
    · subst z; rw [pk_us, va_up_self]; rfl
    · rw [pk_un z, va_up_ne _ _ z, u3 10 (by decide), u3 11 (by decide), u3 12 (by decide), u3 13 (by decide)]
      exact h.2.2.2 j hj
theorem sg_ins_k {k : Int32} {c : sg_Ce} {l : List sg_Ce} {n : Nat} (ho : sg_ord k l) (hk : k = 0 ∨ k = 1 ∨ k = 2) (hn : n ≤ l.length) (h1 : ∀ j d, n ≤ j → l[j]? = some d → sg_bef k c d = true) (h2 : n = 0 ∨ ∃ m d, n = m + 1 ∧ l[m]? = some d ∧ sg_bef k c d = false) : sg_ins k c l = l.take n ++ c :: l.drop n := by
  have e := List.take_append_drop n l
  have key : ∀ d ∈ l.take n, sg_bef k c d = false := by
    rcases h2 with h2 | ⟨m, d, h2, h3, h4⟩
    · intro d hd; rw [h2, List.take_zero] at hd; exact absurd hd List.not_mem_nil
    · have hm : m < l.length := by omega
      have e2 : l = l.take m ++ d :: l.drop (m + 1) := by
        have q := List.take_append_drop m l
        rw [List.drop_eq_getElem_cons hm] at q
        have q2 : l[m] = d := Option.some.inj ((List.getElem?_eq_getElem hm).symm.trans h3)
        rw [q2] at q
        exact q.symm
      have e3 : l.take n = l.take m ++ [d] := by
        rw [h2, List.take_add_one, h3]; rfl
      intro x hx
      rw [e3] at hx
      rcases List.mem_append.mp hx with w | w
      · rw [e2] at ho
        exact sg_bef_ahead ho hk h4 x w
      · rw [List.mem_singleton.mp w]; exact h4
  have e4 := sg_ins_at (k := k) (c := c) (l1 := l.take n) (l2 := l.drop n) key (fun d ds hd => by
    have : (l.drop n)[0]? = some d := by rw [hd]; rfl
    rw [List.getElem?_drop] at this
    exact h1 _ d (by omega) this)
  rw [e] at e4
  exact e4
theorem md_s512 (o : Nat) : (512 : Int32) * nI o = nI (512 * o) := by
  rw [show (512 : Int32) = nI 512 from rfl, pk_mul]
theorem mo_h9 {σ : sg_S} {tk : Nat → Int32} {of sl : Int32} {ct : Nat → Nat → Int32} {cl : Nat → Nat → Int64} {i : Nat} {c : sg_Ce} (h : mo_R σ tk of sl ct cl) (hg : sg_cg c < 8) (hk : sg_kd σ (sg_co c) = 2) : ∀ x g, x < 8 → g < 8 → (va_up cl 9 (vp_updL (cl 9) (8 * sg_co c + sg_cg c) (sg_time σ (sg_co c) (sg_cg c)))) 9 (8 * x + g) = sg_lt (sg_come1 σ i c) x g := by
  intro x g hx hg'
  show vp_updL (cl 9) (8 * sg_co c + sg_cg c) (sg_time σ (sg_co c) (sg_cg c)) (8 * x + g) = (if sg_kd σ (sg_co c) = 2 then va_up (sg_lt σ) (sg_co c) (va_up (sg_lt σ (sg_co c)) (sg_cg c) (sg_time σ (sg_co c) (sg_cg c))) else sg_lt σ) x g
  rw [if_pos hk]
  have a := ((h.2.2.1 x hx).2.2.1 g hg').2
  by_cases z : x = sg_co c
  · rw [z] at a ⊢
    rw [va_up_self]
    by_cases z2 : g = sg_cg c
    · rw [z2, pk_uLs, va_up_self]
    · rw [pk_uLn (by omega), va_up_ne _ _ z2]; exact a
  · rw [pk_uLn (by omega), va_up_ne _ _ z]; exact a
theorem mo_h9n {σ : sg_S} {tk : Nat → Int32} {of sl : Int32} {ct : Nat → Nat → Int32} {cl : Nat → Nat → Int64} {i : Nat} {c : sg_Ce} (h : mo_R σ tk of sl ct cl) (hk : ¬ sg_kd σ (sg_co c) = 2) : ∀ x g, x < 8 → g < 8 → cl 9 (8 * x + g) = sg_lt (sg_come1 σ i c) x g := by
  intro x g hx hg
  show _ = (if sg_kd σ (sg_co c) = 2 then va_up (sg_lt σ) (sg_co c) (va_up (sg_lt σ (sg_co c)) (sg_cg c) (sg_time σ (sg_co c) (sg_cg c))) else sg_lt σ) x g
  rw [if_neg hk]
  exact ((h.2.2.1 x hx).2.2.1 g hg).2
/-- while output o sends: the first j rows have moved down by one -/
def mo_dn (ct ct1 : Nat → Nat → Int32) (cl cl2 : Nat → Nat → Int64) (o j : Nat) : Prop := (∀ p, 512 * o ≤ p → p < 512 * o + j → mo_row ct1 cl2 p = mo_row ct cl (p + 1)) ∧ ∀ p, p < 512 * o ∨ 512 * o + j ≤ p → mo_row ct1 cl2 p = mo_row ct cl p
theorem mo_dn_s {ct ct1 ct2 : Nat → Nat → Int32} {cl cl2 cl3 : Nat → Nat → Int64} {o j : Nat} (h : mo_dn ct ct1 cl cl2 o j) (h1 : ∀ p, mo_row ct2 cl3 p = if p = 512 * o + j then mo_row ct1 cl2 (512 * o + j + 1) else mo_row ct1 cl2 p) : mo_dn ct ct2 cl cl3 o (j + 1) := by
  obtain ⟨a1, a2⟩ := h
  refine ⟨fun p b1 b2 => ?_, fun p hp => ?_⟩
  · rw [h1 p]
    by_cases z : p = 512 * o + j
    · rw [if_pos z, z]; exact a2 _ (by omega)
    · rw [if_neg z]; exact a1 p b1 (by omega)
  · rw [h1 p, if_neg (by omega)]; exact a2 p (by omega)
theorem mo_R_send0 {σ : sg_S} {tk : Nat → Int32} {of sl : Int32} {ct : Nat → Nat → Int32} {cl : Nat → Nat → Int64} {o : Nat} (h : mo_R σ tk of sl ct cl) : mo_R (sg_send0 σ o) (va_up tk o sl) of sl (va_up ct 14 (upd (ct 14) o (-1))) cl := by
  refine ⟨h.1, h.2.1, fun x hx => ?_, h.2.2.2⟩
  obtain ⟨a1, a2, a3, a4, a5⟩ := h.2.2.1 x hx
  refine ⟨a1, a2, a3, a4, ?_⟩
  show mo_se (va_up tk o sl x) (upd (ct 14) o (-1) x) (ct 15 x) (ct 16 x) (va_up (sg_se σ) o none x)
  by_cases z : x = o
  · subst z; rw [pk_us, va_up_self, va_up_self]; exact (rfl : (-1 : Int32) = -1)
  · rw [pk_un z, va_up_ne _ _ z, va_up_ne _ _ z]; exact a5
theorem mo_R_send1 {σ : sg_S} {tk : Nat → Int32} {of sl : Int32} {ct ct1 : Nat → Nat → Int32} {cl cl2 : Nat → Nat → Int64} {o : Nat} {c : sg_Ce} {cs : List sg_Ce} (h : mo_R σ tk of sl ct cl) (hinv : sg_inv σ) (hac : sg_ac σ ≤ 512) (ho : o < 8) (hq : sg_qu σ o = c :: cs) (hd : mo_dn ct ct1 cl cl2 o cs.length) (h0 : ct1 0 = upd (ct 0) o (nI cs.length)) (hs : ∀ j, j = 7 ∨ j = 8 ∨ j = 10 ∨ j = 11 ∨ j = 12 ∨ j = 13 → ct1 j = ct j) (h14 : ct1 14 = upd (upd (ct 14) o (-1)) o (nI (sg_ci c))) (h15 : ct1 15 = upd (ct 15) o (sg_ct c)) (h16 : ct1 16 = upd (ct 16) o (sl - sg_cc c)) (h9 : ∀ x g, x < 8 → g < 8 → cl2 9 (8 * x + g) = if cs = [] ∧ x = o then 0 else cl 9 (8 * x + g)) : mo_R (sg_send1 σ o c cs) (va_up tk o sl) of sl ct1 cl2 := by
  refine ⟨h.1, h.2.1, fun x hx => ?_, fun i hi => ?_⟩
  · obtain ⟨a1, a2, a3, a4, a5⟩ := h.2.2.1 x hx
    have hlx := sg_len_le hinv hx
    have hlo := sg_len_le hinv ho
    rw [hq] at hlo
    have hlo : cs.length + 1 ≤ sg_ac σ := hlo
    refine ⟨?_, by rw [hs 7 (by decide)]; exact a2, fun g hg => ⟨by rw [hs 8 (by decide)]; exact (a3 g hg).1, ?_⟩, fun k d hk => ?_, ?_⟩
    · show ct1 0 x = nI (va_up (sg_qu σ) o cs x).length
      rw [h0]
      by_cases z : x = o
      · subst z; rw [pk_us, va_up_self]
      · rw [pk_un z, va_up_ne _ _ z]; exact a1
    · show cl2 9 (8 * x + g) = (if cs = [] then va_up (sg_lt σ) o (fun _ => 0) else sg_lt σ) x g
      rw [h9 x g hx hg]
      by_cases z : x = o
      · subst z
        by_cases z2 : cs = []
        · rw [if_pos ⟨z2, rfl⟩, if_pos z2, va_up_self]
        · rw [if_neg (fun q => z2 q.1), if_neg z2]; exact (a3 g hg).2
      · rw [if_neg (fun q => z q.2)]
        by_cases z2 : cs = []
        · rw [if_pos z2, va_up_ne _ _ z]; exact (a3 g hg).2
        · rw [if_neg z2]; exact (a3 g hg).2
    · have hk : (va_up (sg_qu σ) o cs x)[k]? = some d := hk
      by_cases z : x = o
      · subst z
        rw [va_up_self] at hk
        have hkl : k < cs.length := (List.getElem?_eq_some_iff.mp hk).1
        rw [hd.1 _ (by omega) (by omega)]
        exact a4 (k + 1) d (by rw [hq]; exact hk)
      · rw [va_up_ne _ _ z] at hk
        have hkl : k < (sg_qu σ x).length := (List.getElem?_eq_some_iff.mp hk).1
        rw [hd.2 _ (by omega)]
        exact a4 k d hk
    · show mo_se (va_up tk o sl x) (ct1 14 x) (ct1 15 x) (ct1 16 x) (va_up (sg_se σ) o (some c) x)
      rw [h14, h15, h16]
      by_cases z : x = o
      · subst z
        rw [pk_us, pk_us, pk_us, va_up_self, va_up_self]
        exact ⟨rfl, rfl, rfl⟩
      · rw [pk_un z, pk_un z, pk_un z, pk_un z, va_up_ne _ _ z, va_up_ne _ _ z]; exact a5
  · rw [hs 10 (by decide), hs 11 (by decide), hs 12 (by decide), hs 13 (by decide)]
    exact h.2.2.2 i hi
end
section
/-! slot and leaves of the reference. -/
def md_tk (sl : Int32) : Nat → Nat → Int32
  | 0 => fun _ => sl - 1
  | n + 1 => va_up (md_tk sl n) n sl
theorem md_tk_eq (sl : Int32) : ∀ {n o : Nat}, o < n → md_tk sl n o = sl := by
  intro n
  induction n with
  | zero => intro o h; omega
  | succ n ih =>
    intro o h
    show va_up (md_tk sl n) n sl o = sl
    by_cases z : o = n
    · subst z; exact va_up_self _ _ _
    · rw [va_up_ne _ _ z]; exact ih (by omega)
theorem mo_R_tick {τ : sg_S} {tk : Nat → Int32} {of sl : Int32} {ct : Nat → Nat → Int32} {cl : Nat → Nat → Int64} (h : mo_R τ tk of sl ct cl) (ht : ∀ o, o < 8 → tk o = sl) : mo_R (sg_kd τ, sg_wt τ, sg_lt τ, sg_qu τ, sg_of τ, sg_sl τ + 1, sg_ac τ, sg_se τ) (fun _ => sg_sl τ + 1 - 1) of (sl + 1) ct cl := by
  have e : sg_sl τ + 1 - 1 = sl := by rw [← h.2.1]; exact Int32.add_sub_cancel _ _
  refine ⟨h.1, by rw [h.2.1], fun o ho => ?_, h.2.2.2⟩
  have := h.2.2.1 o ho
  rw [ht o ho] at this
  show mo_ou ct cl o (sg_sl τ + 1 - 1) (sg_kd τ o) (sg_wt τ o) (sg_lt τ o) (sg_qu τ o) (sg_se τ o)
  rw [e]
  exact this
theorem sg_count_add {σ τ : sg_S} {o : Nat} (h : sg_qu τ o = sg_qu σ o) : nI (sg_count σ o) + (if sg_qu τ o = [] then 0 else 1) = nI (sg_count σ (o + 1)) := by
  show _ = nI (sg_count σ o + (if sg_qu σ o = [] then 0 else 1))
  rw [h]
  by_cases z : sg_qu σ o = []
  · rw [if_pos z, if_pos z]; exact Int32.add_zero _
  · rw [if_neg z, if_neg z]; exact nI_1 _
def ls_R (be : Option sg_Ce × Int32) (best least : Int32) : Prop := be.2 = best ∧ match be.1 with
  | none => best = -1
  | some d => (∃ p, p < 512 ∧ best = nI p) ∧ least = nI (sg_cs d) ∧ sg_cs d < 512
def lv_D (σ : sg_S) (o k : Nat) (b : Option sg_Ce) : Prop := ∀ d, b = some d → (∃ o', o' < o ∧ d ∈ sg_qu σ o') ∨ ∃ p, p < k ∧ (sg_qu σ o)[p]? = some d
theorem ls_none {be : Option sg_Ce × Int32} {best least : Int32} (h : ls_R be best least) (e : best = -1) : be.1 = none := by
  obtain ⟨h1, h2⟩ := h
  cases hb : be.1 with
  | none => rfl
  | some d =>
    rw [hb] at h2
    obtain ⟨⟨p, h3, h4⟩, -⟩ := h2
    rw [h4] at e
    exact absurd e (md_m1 (by omega))
theorem ls_some {be : Option sg_Ce × Int32} {best least : Int32} (h : ls_R be best least) (e : ¬ best = -1) : ∃ d, be.1 = some d ∧ least = nI (sg_cs d) ∧ sg_cs d < 512 := by
  obtain ⟨h1, h2⟩ := h
  cases hb : be.1 with
  | none => rw [hb] at h2; exact absurd h2 e
  | some d => rw [hb] at h2; exact ⟨d, rfl, h2.2⟩
theorem lv_ne {σ : sg_S} (hinv : sg_inv σ) {o k : Nat} (ho : o < 8) {c d : sg_Ce} (hc : (sg_qu σ o)[k]? = some c) {b : Option sg_Ce} (hD : lv_D σ o k b) (hb : b = some d) : sg_cs c ≠ sg_cs d := by
  intro e
  obtain ⟨w, w1, -⟩ := hinv.2.2.1
  have wc := w1 o ho c (List.mem_of_getElem? hc)
  rcases hD d hb with ⟨o', h1, h2⟩ | ⟨p, h1, h2⟩
  · have wd := w1 o' (by omega) d h2
    rw [e, wd] at wc
    omega
  · have hn := (hinv.1 o ho).2.2.1
    have hp : p < (sg_qu σ o).length := (List.getElem?_eq_some_iff.mp h2).1
    have e2 : ((sg_qu σ o).map sg_cs)[p]? = ((sg_qu σ o).map sg_cs)[k]? := by
      rw [List.getElem?_map, List.getElem?_map, h2, hc]
      show some (sg_cs d) = some (sg_cs c)
      rw [e]
    have := (List.getElem?_inj (by rw [List.length_map]; exact hp) hn).mp e2
    omega
theorem lv_D_skip {σ : sg_S} {o k : Nat} {b : Option sg_Ce} (h : lv_D σ o k b) : lv_D σ o (k + 1) b := fun d hd => by
  rcases h d hd with q | ⟨p, h1, h2⟩
  · exact Or.inl q
  · exact Or.inr ⟨p, by omega, h2⟩
theorem lv_D_take {σ : sg_S} {o k : Nat} {c : sg_Ce} (hc : (sg_qu σ o)[k]? = some c) : lv_D σ o (k + 1) (some c) := fun d hd => by
  cases hd
  exact Or.inr ⟨k, by omega, hc⟩
theorem lv_D_next {σ : sg_S} {o k : Nat} {b : Option sg_Ce} (h : lv_D σ o k b) : lv_D σ (o + 1) 0 b := fun d hd => by
  rcases h d hd with ⟨o', h1, h2⟩ | ⟨p, h1, h2⟩
  · exact Or.inl ⟨o', by omega, h2⟩
  · exact Or.inl ⟨o, by omega, List.mem_of_getElem? h2⟩
end
section
theorem iw_Ce : ∀ w ∈ u_ws R_Ce F_Ce 8, w ∈ wd_T := by decide +kernel
theorem iw_In : ∀ w ∈ u_ws R_In F_In 2, w ∈ wd_T := by decide +kernel
theorem iw_Ou : ∀ w ∈ u_ws R_Ou F_Ou 6, w ∈ wd_T := by decide +kernel
theorem iw_Sw : ∀ w ∈ u_ws R_Sw F_Sw 4, w ∈ wd_T := by decide +kernel
theorem iw_Md : ∀ w ∈ u_ws R_Md F_Md 20, w ∈ wd_T := by decide +kernel
theorem kw_0 : Cond.fieldLink R_Sw 68 "EvenSwitch" "slotNumber" "I" ∈ wd_T := wd_in (List.mem_of_getElem? (i := 90) (by decide +kernel)) rfl
theorem kw_1 : Cond.methodLink R_Sw 23 y_Sw_isPort ∈ wd_T := wd_in (List.mem_of_getElem? (i := 105) (by decide +kernel)) rfl
theorem kw_2 : Cond.initialized R_Sw ∈ wd_T := wd_in (List.mem_of_getElem? (i := 20) (by decide +kernel)) rfl
theorem kw_3 : Cond.code y_Sw_isPort b_Sw_isPort 1 (some .boolean) ∈ wd_T := wd_in (List.mem_of_getElem? (i := 107) (by decide +kernel)) rfl
theorem kw_4 : Cond.static y_Sw_isPort ∈ wd_T := wd_in (List.mem_of_getElem? (i := 106) (by decide +kernel)) rfl
theorem kw_5 : Cond.fieldLink R_Sw 17 "EvenSwitch" "outputs" "[LEvenSwitch$Output;" ∈ wd_T := wd_in (List.mem_of_getElem? (i := 89) (by decide +kernel)) rfl
theorem kw_6 : Cond.fieldLink R_Sw 117 "EvenSwitch$Output" "latest" "LEvenSwitch$Cell;" ∈ wd_T := wd_in (List.mem_of_getElem? (i := 72) (by decide +kernel)) rfl
theorem kw_7 : Cond.methodLink R_Sw 71 y_Sw_latestSent ∈ wd_T := wd_in (List.mem_of_getElem? (i := 214) (by decide +kernel)) rfl
theorem kw_8 : Cond.code y_Sw_latestSent b_Sw_latestSent 2 (some (.object "EvenSwitch$Cell")) ∈ wd_T := wd_in (List.mem_of_getElem? (i := 217) (by decide +kernel)) rfl
theorem kw_9 : Cond.instanceMethod y_Sw_latestSent ∈ wd_T := wd_in (List.mem_of_getElem? (i := 216) (by decide +kernel)) rfl
theorem kw_10 : Cond.selects R_Sw y_Sw_latestSent y_Sw_latestSent ∈ wd_T := wd_in (List.mem_of_getElem? (i := 7) (by decide +kernel)) rfl
theorem kw_11 : Cond.fieldLink R_Sw 75 "EvenSwitch$Cell" "tag" "I" ∈ wd_T := wd_in (List.mem_of_getElem? (i := 137) (by decide +kernel)) rfl
theorem kw_12 : Cond.fieldLink R_Sw 78 "EvenSwitch$Cell" "input" "I" ∈ wd_T := wd_in (List.mem_of_getElem? (i := 131) (by decide +kernel)) rfl
theorem kw_13 : Cond.fieldLink R_Sw 81 "EvenSwitch$Cell" "cameInSlot" "I" ∈ wd_T := wd_in (List.mem_of_getElem? (i := 141) (by decide +kernel)) rfl
theorem kw_14 : Cond.fieldLink R_Sw 11 "EvenSwitch" "inputs" "[LEvenSwitch$Input;" ∈ wd_T := wd_in (List.mem_of_getElem? (i := 88) (by decide +kernel)) rfl
theorem kw_15 : Cond.fieldLink R_Sw 49 "EvenSwitch$Input" "held" "I" ∈ wd_T := wd_in (List.mem_of_getElem? (i := 47) (by decide +kernel)) rfl
theorem kw_16 : Cond.fieldLink R_Sw 27 "EvenSwitch$Output" "length" "I" ∈ wd_T := wd_in (List.mem_of_getElem? (i := 69) (by decide +kernel)) rfl
theorem d_Sw_isPort_0 : decode b_Sw_isPort 0 = .ok (.iload_n 0, 1) := by decide +kernel
theorem d_Sw_isPort_1 : decode b_Sw_isPort 1 = .ok (.ifCond .lt 13, 3) := by decide +kernel
theorem d_Sw_isPort_4 : decode b_Sw_isPort 4 = .ok (.iload_n 0, 1) := by decide +kernel
theorem d_Sw_isPort_5 : decode b_Sw_isPort 5 = .ok (.bipush 8, 2) := by decide +kernel
theorem d_Sw_isPort_7 : decode b_Sw_isPort 7 = .ok (.if_icmp .ge 7, 3) := by decide +kernel
theorem d_Sw_isPort_10 : decode b_Sw_isPort 10 = .ok (.iconst 1, 1) := by decide +kernel
theorem d_Sw_isPort_11 : decode b_Sw_isPort 11 = .ok (.goto 4, 3) := by decide +kernel
theorem d_Sw_isPort_14 : decode b_Sw_isPort 14 = .ok (.iconst 0, 1) := by decide +kernel
theorem d_Sw_isPort_15 : decode b_Sw_isPort 15 = .ok (.ireturn, 1) := by decide +kernel
theorem d_Sw_isClass_0 : decode b_Sw_isClass 0 = .ok (.iload_n 0, 1) := by decide +kernel
theorem d_Sw_isClass_1 : decode b_Sw_isClass 1 = .ok (.ifCond .lt 13, 3) := by decide +kernel
theorem d_Sw_isClass_4 : decode b_Sw_isClass 4 = .ok (.iload_n 0, 1) := by decide +kernel
theorem d_Sw_isClass_5 : decode b_Sw_isClass 5 = .ok (.bipush 8, 2) := by decide +kernel
theorem d_Sw_isClass_7 : decode b_Sw_isClass 7 = .ok (.if_icmp .ge 7, 3) := by decide +kernel
theorem d_Sw_isClass_10 : decode b_Sw_isClass 10 = .ok (.iconst 1, 1) := by decide +kernel
theorem d_Sw_isClass_11 : decode b_Sw_isClass 11 = .ok (.goto 4, 3) := by decide +kernel
theorem d_Sw_isClass_14 : decode b_Sw_isClass 14 = .ok (.iconst 0, 1) := by decide +kernel
theorem d_Sw_isClass_15 : decode b_Sw_isClass 15 = .ok (.ireturn, 1) := by decide +kernel
theorem d_Sw_slots_0 : decode b_Sw_slots 0 = .ok (.aload_n 0, 1) := by decide +kernel
theorem d_Sw_slots_1 : decode b_Sw_slots 1 = .ok (.getfield 68, 3) := by decide +kernel
theorem d_Sw_slots_4 : decode b_Sw_slots 4 = .ok (.ireturn, 1) := by decide +kernel
theorem d_Sw_latestSent_0 : decode b_Sw_latestSent 0 = .ok (.iload_n 1, 1) := by decide +kernel
theorem d_Sw_latestSent_1 : decode b_Sw_latestSent 1 = .ok (.invokestatic 23, 3) := by decide +kernel
theorem d_Sw_latestSent_4 : decode b_Sw_latestSent 4 = .ok (.ifCond .eq 15, 3) := by decide +kernel
theorem d_Sw_latestSent_7 : decode b_Sw_latestSent 7 = .ok (.aload_n 0, 1) := by decide +kernel
theorem d_Sw_latestSent_8 : decode b_Sw_latestSent 8 = .ok (.getfield 17, 3) := by decide +kernel
theorem d_Sw_latestSent_11 : decode b_Sw_latestSent 11 = .ok (.iload_n 1, 1) := by decide +kernel
theorem d_Sw_latestSent_12 : decode b_Sw_latestSent 12 = .ok (.aaload, 1) := by decide +kernel
theorem d_Sw_latestSent_13 : decode b_Sw_latestSent 13 = .ok (.getfield 117, 3) := by decide +kernel
theorem d_Sw_latestSent_16 : decode b_Sw_latestSent 16 = .ok (.goto 4, 3) := by decide +kernel
theorem d_Sw_latestSent_19 : decode b_Sw_latestSent 19 = .ok (.aconst_null, 1) := by decide +kernel
theorem d_Sw_latestSent_20 : decode b_Sw_latestSent 20 = .ok (.areturn, 1) := by decide +kernel
theorem d_Sw_hasSent_0 : decode b_Sw_hasSent 0 = .ok (.aload_n 0, 1) := by decide +kernel
theorem d_Sw_hasSent_1 : decode b_Sw_hasSent 1 = .ok (.iload_n 1, 1) := by decide +kernel
theorem d_Sw_hasSent_2 : decode b_Sw_hasSent 2 = .ok (.invokevirtual 71, 3) := by decide +kernel
theorem d_Sw_hasSent_5 : decode b_Sw_hasSent 5 = .ok (.ifnull 7, 3) := by decide +kernel
theorem d_Sw_hasSent_8 : decode b_Sw_hasSent 8 = .ok (.iconst 1, 1) := by decide +kernel
theorem d_Sw_hasSent_9 : decode b_Sw_hasSent 9 = .ok (.goto 4, 3) := by decide +kernel
theorem d_Sw_hasSent_12 : decode b_Sw_hasSent 12 = .ok (.iconst 0, 1) := by decide +kernel
theorem d_Sw_hasSent_13 : decode b_Sw_hasSent 13 = .ok (.ireturn, 1) := by decide +kernel
theorem d_Sw_sent_0 : decode b_Sw_sent 0 = .ok (.aload_n 0, 1) := by decide +kernel
theorem d_Sw_sent_1 : decode b_Sw_sent 1 = .ok (.iload_n 1, 1) := by decide +kernel
theorem d_Sw_sent_2 : decode b_Sw_sent 2 = .ok (.invokevirtual 71, 3) := by decide +kernel
theorem d_Sw_sent_5 : decode b_Sw_sent 5 = .ok (.astore_n 2, 1) := by decide +kernel
theorem d_Sw_sent_6 : decode b_Sw_sent 6 = .ok (.aload_n 2, 1) := by decide +kernel
theorem d_Sw_sent_7 : decode b_Sw_sent 7 = .ok (.ifnonnull 7, 3) := by decide +kernel
theorem d_Sw_sent_10 : decode b_Sw_sent 10 = .ok (.iconst 0, 1) := by decide +kernel
theorem d_Sw_sent_11 : decode b_Sw_sent 11 = .ok (.goto 7, 3) := by decide +kernel
theorem d_Sw_sent_14 : decode b_Sw_sent 14 = .ok (.aload_n 2, 1) := by decide +kernel
theorem d_Sw_sent_15 : decode b_Sw_sent 15 = .ok (.getfield 75, 3) := by decide +kernel
theorem d_Sw_sent_18 : decode b_Sw_sent 18 = .ok (.ireturn, 1) := by decide +kernel
theorem d_Sw_sentFrom_0 : decode b_Sw_sentFrom 0 = .ok (.aload_n 0, 1) := by decide +kernel
theorem d_Sw_sentFrom_1 : decode b_Sw_sentFrom 1 = .ok (.iload_n 1, 1) := by decide +kernel
theorem d_Sw_sentFrom_2 : decode b_Sw_sentFrom 2 = .ok (.invokevirtual 71, 3) := by decide +kernel
theorem d_Sw_sentFrom_5 : decode b_Sw_sentFrom 5 = .ok (.astore_n 2, 1) := by decide +kernel
theorem d_Sw_sentFrom_6 : decode b_Sw_sentFrom 6 = .ok (.aload_n 2, 1) := by decide +kernel
theorem d_Sw_sentFrom_7 : decode b_Sw_sentFrom 7 = .ok (.ifnonnull 7, 3) := by decide +kernel
theorem d_Sw_sentFrom_10 : decode b_Sw_sentFrom 10 = .ok (.iconst (-1), 1) := by decide +kernel
theorem d_Sw_sentFrom_11 : decode b_Sw_sentFrom 11 = .ok (.goto 7, 3) := by decide +kernel
theorem d_Sw_sentFrom_14 : decode b_Sw_sentFrom 14 = .ok (.aload_n 2, 1) := by decide +kernel
theorem d_Sw_sentFrom_15 : decode b_Sw_sentFrom 15 = .ok (.getfield 78, 3) := by decide +kernel
theorem d_Sw_sentFrom_18 : decode b_Sw_sentFrom 18 = .ok (.ireturn, 1) := by decide +kernel
theorem d_Sw_waited_0 : decode b_Sw_waited 0 = .ok (.aload_n 0, 1) := by decide +kernel
theorem d_Sw_waited_1 : decode b_Sw_waited 1 = .ok (.iload_n 1, 1) := by decide +kernel
theorem d_Sw_waited_2 : decode b_Sw_waited 2 = .ok (.invokevirtual 71, 3) := by decide +kernel
theorem d_Sw_waited_5 : decode b_Sw_waited 5 = .ok (.astore_n 2, 1) := by decide +kernel
theorem d_Sw_waited_6 : decode b_Sw_waited 6 = .ok (.aload_n 2, 1) := by decide +kernel
theorem d_Sw_waited_7 : decode b_Sw_waited 7 = .ok (.ifnonnull 7, 3) := by decide +kernel
theorem d_Sw_waited_10 : decode b_Sw_waited 10 = .ok (.iconst (-1), 1) := by decide +kernel
theorem d_Sw_waited_11 : decode b_Sw_waited 11 = .ok (.goto 14, 3) := by decide +kernel
theorem d_Sw_waited_14 : decode b_Sw_waited 14 = .ok (.aload_n 0, 1) := by decide +kernel
theorem d_Sw_waited_15 : decode b_Sw_waited 15 = .ok (.getfield 68, 3) := by decide +kernel
theorem d_Sw_waited_18 : decode b_Sw_waited 18 = .ok (.iconst 1, 1) := by decide +kernel
theorem d_Sw_waited_19 : decode b_Sw_waited 19 = .ok (.isub, 1) := by decide +kernel
theorem d_Sw_waited_20 : decode b_Sw_waited 20 = .ok (.aload_n 2, 1) := by decide +kernel
theorem d_Sw_waited_21 : decode b_Sw_waited 21 = .ok (.getfield 81, 3) := by decide +kernel
theorem d_Sw_waited_24 : decode b_Sw_waited 24 = .ok (.isub, 1) := by decide +kernel
theorem d_Sw_waited_25 : decode b_Sw_waited 25 = .ok (.ireturn, 1) := by decide +kernel
theorem d_Sw_inside_0 : decode b_Sw_inside 0 = .ok (.iload_n 1, 1) := by decide +kernel
theorem d_Sw_inside_1 : decode b_Sw_inside 1 = .ok (.invokestatic 23, 3) := by decide +kernel
theorem d_Sw_inside_4 : decode b_Sw_inside 4 = .ok (.ifCond .eq 15, 3) := by decide +kernel
theorem d_Sw_inside_7 : decode b_Sw_inside 7 = .ok (.aload_n 0, 1) := by decide +kernel
theorem d_Sw_inside_8 : decode b_Sw_inside 8 = .ok (.getfield 11, 3) := by decide +kernel
theorem d_Sw_inside_11 : decode b_Sw_inside 11 = .ok (.iload_n 1, 1) := by decide +kernel
theorem d_Sw_inside_12 : decode b_Sw_inside 12 = .ok (.aaload, 1) := by decide +kernel
theorem d_Sw_inside_13 : decode b_Sw_inside 13 = .ok (.getfield 49, 3) := by decide +kernel
theorem d_Sw_inside_16 : decode b_Sw_inside 16 = .ok (.goto 4, 3) := by decide +kernel
theorem d_Sw_inside_19 : decode b_Sw_inside 19 = .ok (.iconst (-1), 1) := by decide +kernel
theorem d_Sw_inside_20 : decode b_Sw_inside 20 = .ok (.ireturn, 1) := by decide +kernel
theorem d_Sw_waiting_0 : decode b_Sw_waiting 0 = .ok (.iload_n 1, 1) := by decide +kernel
theorem d_Sw_waiting_1 : decode b_Sw_waiting 1 = .ok (.invokestatic 23, 3) := by decide +kernel
theorem d_Sw_waiting_4 : decode b_Sw_waiting 4 = .ok (.ifCond .eq 15, 3) := by decide +kernel
theorem d_Sw_waiting_7 : decode b_Sw_waiting 7 = .ok (.aload_n 0, 1) := by decide +kernel
theorem d_Sw_waiting_8 : decode b_Sw_waiting 8 = .ok (.getfield 17, 3) := by decide +kernel
theorem d_Sw_waiting_11 : decode b_Sw_waiting 11 = .ok (.iload_n 1, 1) := by decide +kernel
theorem d_Sw_waiting_12 : decode b_Sw_waiting 12 = .ok (.aaload, 1) := by decide +kernel
theorem d_Sw_waiting_13 : decode b_Sw_waiting 13 = .ok (.getfield 27, 3) := by decide +kernel
theorem d_Sw_waiting_16 : decode b_Sw_waiting 16 = .ok (.goto 4, 3) := by decide +kernel
theorem d_Sw_waiting_19 : decode b_Sw_waiting 19 = .ok (.iconst (-1), 1) := by decide +kernel
theorem d_Sw_waiting_20 : decode b_Sw_waiting 20 = .ok (.ireturn, 1) := by decide +kernel
abbrev rm_Sw_isPort : Room := { frames := 0, cells := 0, slots := 0, locals := 0 }
set_option maxHeartbeats 4000000 in
set_option maxRecDepth 100000 in
theorem cn_Sw_isPort (l : Launch) (D : va_G) (B : Nat) (M : hp_M) (x : Int32)  : Met l y_Sw_isPort (wd_c y_Sw_isPort b_Sw_isPort 1 (some .boolean)) rm_Sw_isPort (va_Pc [.int x] (hp_C D B M)) (va_Qi (fun (r : Int32) (M1 : hp_M) => M1 = M ∧ r = sg_port x) (hp_C D B) (hp_ub B)) 0 0 (hp_ub B) := by
  refine hp_met (by decide) (Nat.le_of_ble_eq_true rfl) ?_
  intro p e s m args below meth cd ls Q hQ hx hb hr hts hown hlocks hnm hml hK hH hS hB hl
  replace hl : lv_has ls 1 [(0, .int x)] := hl
  refine lv_iload_n hx hb d_Sw_isPort_0 rfl (lv_at hl 0 rfl) ?_
  refine lv_if_lt (tgt := 14) hx hb d_Sw_isPort_1 (by decide) (fun c_1 => ?_) (fun c_1 => ?_)
  · refine lv_iconst (v := 0) hx hb d_Sw_isPort_14 (by decide) ?_
    exact hp_zret hx hb hr hlocks hQ hK hH hS (Nat.le_of_ble_eq_true rfl) (Nat.le_of_ble_eq_true rfl) rfl d_Sw_isPort_15 ⟨rfl, sg_port_neg c_1⟩
  · refine lv_iload_n hx hb d_Sw_isPort_4 rfl (lv_at hl 0 rfl) ?_
    refine lv_bipush (v := 8) hx hb d_Sw_isPort_5 (by decide) ?_
    refine lv_icmp_ge (tgt := 14) hx hb d_Sw_isPort_7 (by decide) (fun c_2 => ?_) (fun c_2 => ?_)
    · refine lv_iconst (v := 0) hx hb d_Sw_isPort_14 (by decide) ?_
      exact hp_zret hx hb hr hlocks hQ hK hH hS (Nat.le_of_ble_eq_true rfl) (Nat.le_of_ble_eq_true rfl) rfl d_Sw_isPort_15 ⟨rfl, sg_port_big c_2⟩
    · refine lv_iconst (v := 1) hx hb d_Sw_isPort_10 (by decide) ?_
      refine lv_goto (tgt := 15) hx hb d_Sw_isPort_11 (by decide) ?_
      exact hp_zret hx hb hr hlocks hQ hK hH hS (Nat.le_of_ble_eq_true rfl) (Nat.le_of_ble_eq_true rfl) rfl d_Sw_isPort_15 ⟨rfl, sg_port_in c_1 c_2⟩
abbrev rm_Sw_isClass : Room := { frames := 0, cells := 0, slots := 0, locals := 0 }
set_option maxHeartbeats 4000000 in
set_option maxRecDepth 100000 in
theorem cn_Sw_isClass (l : Launch) (D : va_G) (B : Nat) (M : hp_M) (x : Int32)  : Met l y_Sw_isClass (wd_c y_Sw_isClass b_Sw_isClass 1 (some .boolean)) rm_Sw_isClass (va_Pc [.int x] (hp_C D B M)) (va_Qi (fun (r : Int32) (M1 : hp_M) => M1 = M ∧ r = sg_port x) (hp_C D B) (hp_ub B)) 0 0 (hp_ub B) := by
  refine hp_met (by decide) (Nat.le_of_ble_eq_true rfl) ?_
  intro p e s m args below meth cd ls Q hQ hx hb hr hts hown hlocks hnm hml hK hH hS hB hl
  replace hl : lv_has ls 1 [(0, .int x)] := hl
  refine lv_iload_n hx hb d_Sw_isClass_0 rfl (lv_at hl 0 rfl) ?_
  refine lv_if_lt (tgt := 14) hx hb d_Sw_isClass_1 (by decide) (fun c_1 => ?_) (fun c_1 => ?_)
  · refine lv_iconst (v := 0) hx hb d_Sw_isClass_14 (by decide) ?_
    exact hp_zret hx hb hr hlocks hQ hK hH hS (Nat.le_of_ble_eq_true rfl) (Nat.le_of_ble_eq_true rfl) rfl d_Sw_isClass_15 ⟨rfl, sg_port_neg c_1⟩
  · refine lv_iload_n hx hb d_Sw_isClass_4 rfl (lv_at hl 0 rfl) ?_
    refine lv_bipush (v := 8) hx hb d_Sw_isClass_5 (by decide) ?_
    refine lv_icmp_ge (tgt := 14) hx hb d_Sw_isClass_7 (by decide) (fun c_2 => ?_) (fun c_2 => ?_)
    · refine lv_iconst (v := 0) hx hb d_Sw_isClass_14 (by decide) ?_
      exact hp_zret hx hb hr hlocks hQ hK hH hS (Nat.le_of_ble_eq_true rfl) (Nat.le_of_ble_eq_true rfl) rfl d_Sw_isClass_15 ⟨rfl, sg_port_big c_2⟩
    · refine lv_iconst (v := 1) hx hb d_Sw_isClass_10 (by decide) ?_
      refine lv_goto (tgt := 15) hx hb d_Sw_isClass_11 (by decide) ?_
      exact hp_zret hx hb hr hlocks hQ hK hH hS (Nat.le_of_ble_eq_true rfl) (Nat.le_of_ble_eq_true rfl) rfl d_Sw_isClass_15 ⟨rfl, sg_port_in c_1 c_2⟩
abbrev rm_Sw_slots : Room := { frames := 0, cells := 0, slots := 0, locals := 0 }
set_option maxHeartbeats 4000000 in
set_option maxRecDepth 100000 in
theorem cn_Sw_slots (l : Launch) (D : va_G) (B : Nat) (M : hp_M) (a : Nat) (σ : sg_S) (F : Nat → Prop) (hsw : sw_H D M a σ F) : Met l y_Sw_slots (wd_c y_Sw_slots b_Sw_slots 1 (some .int)) rm_Sw_slots (va_Pc [.ref a] (hp_C D B M)) (va_Qi (fun (r : Int32) (M1 : hp_M) => M1 = M ∧ r = sg_sl σ) (hp_C D B) (hp_ub B)) 0 0 (hp_ub B) := by
  refine hp_met (by decide) (Nat.le_of_ble_eq_true rfl) ?_
  intro p e s m args below meth cd ls Q hQ hx hb hr hts hown hlocks hnm hml hK hH hS hB hl
  replace hl : lv_has ls 1 [(0, .ref a)] := hl
  have hsw0 := hsw
  obtain ⟨aI, aO, fI, fO, oa, la, ip, op, sp, lp, LQ, ow, ⟨h1, h2, h3⟩, ⟨w1, w2, w3⟩, hi, ho, hf⟩ := hsw0
  refine lv_aload_n hx hb d_Sw_slots_0 rfl (lv_at hl 0 rfl) ?_
  refine hp_get hx hb hts iw_Sw hown hK hH h1 rfl 2 (by decide) (hts _ kw_0) (v := .int (sg_sl σ)) rfl d_Sw_slots_1 ?_
  exact hp_iret hx hb hr hlocks hQ hK hH hS (Nat.le_of_ble_eq_true rfl) (Nat.le_of_ble_eq_true rfl) d_Sw_slots_4 ⟨rfl, rfl⟩
abbrev rm_Sw_latestSent : Room := { frames := 1, cells := 0, slots := 0, locals := 20 }
set_option maxHeartbeats 4000000 in
set_option maxRecDepth 100000 in
theorem cn_Sw_latestSent (l : Launch) (D : va_G) (B : Nat) (M : hp_M) (a : Nat) (σ : sg_S) (F : Nat → Prop) (x : Int32) (hsw : sw_H D M a σ F) : Met l y_Sw_latestSent (wd_c y_Sw_latestSent b_Sw_latestSent 2 (some (.object "EvenSwitch$Cell"))) rm_Sw_latestSent (va_Pc [.ref a, .int x] (hp_C D B M)) (va_Qq (fun (r : Option Nat) (M1 : hp_M) => M1 = M ∧ ((r = none ∧ sg_latest σ x = none) ∨ ∃ (q : Nat) (d : sg_Ce) (nx : Option Nat), r = some q ∧ sg_latest σ x = some d ∧ M q = some (sw_c d nx))) (hp_C D B) (hp_ub B)) 0 0 (hp_ub B) := by
  rcases sg_ix_or x with ⟨hix, _⟩ | ⟨k, hk, rfl, hix⟩
  · refine hp_met (by decide) (Nat.le_of_ble_eq_true rfl) ?_
    intro p e s m args below meth cd ls Q hQ hx hb hr hts hown hlocks hnm hml hK hH hS hB hl
    replace hl : lv_has ls 2 [(0, .ref a), (1, .int x)] := hl
    refine lv_iload_n hx hb d_Sw_latestSent_0 rfl (lv_at hl 1 rfl) ?_
    refine hp_calli (hp_runS (As := [.int x]) (rest := []) hx hb hml hown (cn_Sw_isPort l D B M x) (hp_cwS 1 hts kw_1 kw_4 kw_2 kw_3 rfl rfl (by decide +kernel) ⟨(Nat.le_of_ble_eq_true rfl), (Nat.le_of_ble_eq_true rfl)⟩) hK hH rfl hl.1 rfl (Nat.le_of_ble_eq_true rfl) d_Sw_latestSent_1 ⟨(Nat.le_of_ble_eq_true rfl), (Nat.le_of_ble_eq_true rfl)⟩) hS (fun r_1 M_2 H locs w_3 hH hS => ?_)
    obtain ⟨eM, eR⟩ := w_3
    rw [eM] at hH
    rw [eR]
    refine lv_if_eq (tgt := 19) hx hb d_Sw_latestSent_4 (by decide) (fun c_4 => ?_) (fun c_4 => absurd (sg_port_none hix) c_4)
    refine lv_null hx hb d_Sw_latestSent_19 ?_
    exact hp_qret (v := none) hx hb hr hlocks hQ hK hH hS (Nat.le_of_ble_eq_true rfl) (Nat.le_of_ble_eq_true rfl) d_Sw_latestSent_20 ⟨rfl, Or.inl ⟨rfl, sg_latest_n hix⟩⟩
  · refine hp_met (by decide) (Nat.le_of_ble_eq_true rfl) ?_
    intro p e s m args below meth cd ls Q hQ hx hb hr hts hown hlocks hnm hml hK hH hS hB hl
    replace hl : lv_has ls 2 [(0, .ref a), (1, .int (nI k))] := hl
    have hsw0 := hsw
    obtain ⟨aI, aO, fI, fO, oa, la, ip, op, sp, lp, LQ, ow, ⟨h1, h2, h3⟩, ⟨w1, w2, w3⟩, hi, ho, hf⟩ := hsw0
    obtain ⟨o1, o2, o3, ⟨ofs, o4, o4'⟩, o5, ⟨ofl, o6, o6'⟩, o7, ⟨o8, o9, o10⟩, o11⟩ := ho k hk
    refine lv_iload_n hx hb d_Sw_latestSent_0 rfl (lv_at hl 1 rfl) ?_
    refine hp_calli (hp_runS (As := [.int (nI k)]) (rest := []) hx hb hml hown (cn_Sw_isPort l D B M (nI k)) (hp_cwS 1 hts kw_1 kw_4 kw_2 kw_3 rfl rfl (by decide +kernel) ⟨(Nat.le_of_ble_eq_true rfl), (Nat.le_of_ble_eq_true rfl)⟩) hK hH rfl hl.1 rfl (Nat.le_of_ble_eq_true rfl) d_Sw_latestSent_1 ⟨(Nat.le_of_ble_eq_true rfl), (Nat.le_of_ble_eq_true rfl)⟩) hS (fun r_1 M_2 H locs w_3 hH hS => ?_)
    obtain ⟨eM, eR⟩ := w_3
    rw [eM] at hH
    rw [eR]
    refine lv_if_eq (tgt := 19) hx hb d_Sw_latestSent_4 (by decide) (fun c_4 => absurd c_4 (by rw [sg_port_some hix]; decide)) (fun c_4 => ?_)
    refine lv_aload_n hx hb d_Sw_latestSent_7 rfl (lv_at hl 0 rfl) ?_
    refine hp_get hx hb hts iw_Sw hown hK hH h1 rfl 1 (by decide) (hts _ kw_5) (v := .ref aO) rfl d_Sw_latestSent_8 ?_
    refine lv_iload_n hx hb d_Sw_latestSent_11 rfl (lv_at hl 1 rfl) ?_
    refine hp_aald hx hb hK hH h3 3 rfl k rfl hk (by decide) (ho k hk).1 d_Sw_latestSent_12 ?_
    refine hp_get hx hb hts iw_Ou hown hK hH o2 rfl 5 (by decide) (hts _ kw_6) (v := va_rf (la k)) rfl d_Sw_latestSent_13 ?_
    refine lv_goto (tgt := 20) hx hb d_Sw_latestSent_16 (by decide) ?_
    exact hp_qret (v := la k) hx hb hr hlocks hQ hK hH hS (Nat.le_of_ble_eq_true rfl) (Nat.le_of_ble_eq_true rfl) d_Sw_latestSent_20 ⟨rfl, by rw [sg_latest_s hix]; exact sw_one_or o11⟩
abbrev rm_Sw_hasSent : Room := { frames := 2, cells := 0, slots := 0, locals := 41 }
set_option maxHeartbeats 4000000 in
set_option maxRecDepth 100000 in
theorem cn_Sw_hasSent (l : Launch) (D : va_G) (B : Nat) (M : hp_M) (a : Nat) (σ : sg_S) (F : Nat → Prop) (x : Int32) (hsw : sw_H D M a σ F) : Met l y_Sw_hasSent (wd_c y_Sw_hasSent b_Sw_hasSent 2 (some .boolean)) rm_Sw_hasSent (va_Pc [.ref a, .int x] (hp_C D B M)) (va_Qi (fun (r : Int32) (M1 : hp_M) => M1 = M ∧ r = an_hasSent σ x) (hp_C D B) (hp_ub B)) 0 0 (hp_ub B) := by
  refine hp_met (by decide) (Nat.le_of_ble_eq_true rfl) ?_
  intro p e s m args below meth cd ls Q hQ hx hb hr hts hown hlocks hnm hml hK hH hS hB hl
  replace hl : lv_has ls 2 [(0, .ref a), (1, .int x)] := hl
  have hsw0 := hsw
  obtain ⟨aI, aO, fI, fO, oa, la, ip, op, sp, lp, LQ, ow, ⟨h1, h2, h3⟩, ⟨w1, w2, w3⟩, hi, ho, hf⟩ := hsw0
  refine lv_aload_n hx hb d_Sw_hasSent_0 rfl (lv_at hl 0 rfl) ?_
  refine lv_iload_n hx hb d_Sw_hasSent_1 rfl (lv_at hl 1 rfl) ?_
  refine hp_callq (hp_runV (b := a) (As := [.int x]) (rest := []) hx hb hml hown (cn_Sw_latestSent l D B M a σ F x hsw) (hp_cwV 1 hts kw_7 kw_9 kw_10 kw_2 kw_8 rfl rfl (by decide +kernel) ⟨(Nat.le_of_ble_eq_true rfl), (Nat.le_of_ble_eq_true rfl)⟩) hK hH h1 rfl rfl hl.1 rfl (Nat.le_of_ble_eq_true rfl) d_Sw_hasSent_2 ⟨(Nat.le_of_ble_eq_true rfl), (Nat.le_of_ble_eq_true rfl)⟩) hS (fun r_1 M_2 H locs w_3 hH hS => ?_)
  rcases w_3 with ⟨eM, ⟨eR, hl2⟩ | ⟨q, d, nx, eR, hl2, hq⟩⟩
  · rw [eM] at hH
    rw [eR]
    refine lv_ifnullN (tgt := 12) hx hb d_Sw_hasSent_5 (by decide) ?_
    refine lv_iconst (v := 0) hx hb d_Sw_hasSent_12 (by decide) ?_
    exact hp_zret hx hb hr hlocks hQ hK hH hS (Nat.le_of_ble_eq_true rfl) (Nat.le_of_ble_eq_true rfl) rfl d_Sw_hasSent_13 ⟨rfl, an_hasSent_n hl2⟩
  · rw [eM] at hH
    rw [eR]
    refine lv_ifnull hx hb d_Sw_hasSent_5 ?_
    refine lv_iconst (v := 1) hx hb d_Sw_hasSent_8 (by decide) ?_
    refine lv_goto (tgt := 13) hx hb d_Sw_hasSent_9 (by decide) ?_
    exact hp_zret hx hb hr hlocks hQ hK hH hS (Nat.le_of_ble_eq_true rfl) (Nat.le_of_ble_eq_true rfl) rfl d_Sw_hasSent_13 ⟨rfl, an_hasSent_s hl2⟩
abbrev rm_Sw_sent : Room := { frames := 2, cells := 0, slots := 0, locals := 41 }
set_option maxHeartbeats 4000000 in
set_option maxRecDepth 100000 in
theorem cn_Sw_sent (l : Launch) (D : va_G) (B : Nat) (M : hp_M) (a : Nat) (σ : sg_S) (F : Nat → Prop) (x : Int32) (hsw : sw_H D M a σ F) : Met l y_Sw_sent (wd_c y_Sw_sent b_Sw_sent 3 (some .int)) rm_Sw_sent (va_Pc [.ref a, .int x] (hp_C D B M)) (va_Qi (fun (r : Int32) (M1 : hp_M) => M1 = M ∧ r = an_sent σ x) (hp_C D B) (hp_ub B)) 0 0 (hp_ub B) := by
  refine hp_met (by decide) (Nat.le_of_ble_eq_true rfl) ?_
  intro p e s m args below meth cd ls Q hQ hx hb hr hts hown hlocks hnm hml hK hH hS hB hl
  replace hl : lv_has ls 3 [(0, .ref a), (1, .int x)] := hl
  have hsw0 := hsw
  obtain ⟨aI, aO, fI, fO, oa, la, ip, op, sp, lp, LQ, ow, ⟨h1, h2, h3⟩, ⟨w1, w2, w3⟩, hi, ho, hf⟩ := hsw0
  refine lv_aload_n hx hb d_Sw_sent_0 rfl (lv_at hl 0 rfl) ?_
  refine lv_iload_n hx hb d_Sw_sent_1 rfl (lv_at hl 1 rfl) ?_
  refine hp_callq (hp_runV (b := a) (As := [.int x]) (rest := []) hx hb hml hown (cn_Sw_latestSent l D B M a σ F x hsw) (hp_cwV 1 hts kw_7 kw_9 kw_10 kw_2 kw_8 rfl rfl (by decide +kernel) ⟨(Nat.le_of_ble_eq_true rfl), (Nat.le_of_ble_eq_true rfl)⟩) hK hH h1 rfl rfl hl.1 rfl (Nat.le_of_ble_eq_true rfl) d_Sw_sent_2 ⟨(Nat.le_of_ble_eq_true rfl), (Nat.le_of_ble_eq_true rfl)⟩) hS (fun r_1 M_2 H locs w_3 hH hS => ?_)
  rcases w_3 with ⟨eM, ⟨eR, hl2⟩ | ⟨q, d, nx, eR, hl2, hq⟩⟩
  · rw [eM] at hH
    rw [eR]
    refine lv_astore_nN (lv' := [(2, .null), (0, .ref a), (1, .int x)]) hx hb d_Sw_sent_5 rfl hl (by decide) rfl (fun ls hl => ?_)
    refine lv_aload_nN hx hb d_Sw_sent_6 rfl (lv_at hl 0 rfl) ?_
    refine lv_ifnonnullN hx hb d_Sw_sent_7 ?_
    refine lv_iconst (v := 0) hx hb d_Sw_sent_10 (by decide) ?_
    refine lv_goto (tgt := 18) hx hb d_Sw_sent_11 (by decide) ?_
    exact hp_iret hx hb hr hlocks hQ hK hH hS (Nat.le_of_ble_eq_true rfl) (Nat.le_of_ble_eq_true rfl) d_Sw_sent_18 ⟨rfl, an_sent_n hl2⟩
  · rw [eM] at hH
    rw [eR]
    refine lv_astore_n (lv' := [(2, .ref q), (0, .ref a), (1, .int x)]) hx hb d_Sw_sent_5 rfl hl (by decide) rfl (fun ls hl => ?_)
    refine lv_aload_n hx hb d_Sw_sent_6 rfl (lv_at hl 0 rfl) ?_
    refine lv_ifnonnull (tgt := 14) hx hb d_Sw_sent_7 (by decide) ?_
    refine lv_aload_n hx hb d_Sw_sent_14 rfl (lv_at hl 0 rfl) ?_
    refine hp_get hx hb hts iw_Ce hown hK hH hq rfl 3 (by decide) (hts _ kw_11) (v := .int (sg_ct d)) rfl d_Sw_sent_15 ?_
    exact hp_iret hx hb hr hlocks hQ hK hH hS (Nat.le_of_ble_eq_true rfl) (Nat.le_of_ble_eq_true rfl) d_Sw_sent_18 ⟨rfl, an_sent_s hl2⟩
abbrev rm_Sw_sentFrom : Room := { frames := 2, cells := 0, slots := 0, locals := 41 }
set_option maxHeartbeats 4000000 in
set_option maxRecDepth 100000 in
theorem cn_Sw_sentFrom (l : Launch) (D : va_G) (B : Nat) (M : hp_M) (a : Nat) (σ : sg_S) (F : Nat → Prop) (x : Int32) (hsw : sw_H D M a σ F) : Met l y_Sw_sentFrom (wd_c y_Sw_sentFrom b_Sw_sentFrom 3 (some .int)) rm_Sw_sentFrom (va_Pc [.ref a, .int x] (hp_C D B M)) (va_Qi (fun (r : Int32) (M1 : hp_M) => M1 = M ∧ r = an_sentFrom σ x) (hp_C D B) (hp_ub B)) 0 0 (hp_ub B) := by
  refine hp_met (by decide) (Nat.le_of_ble_eq_true rfl) ?_
  intro p e s m args below meth cd ls Q hQ hx hb hr hts hown hlocks hnm hml hK hH hS hB hl
  replace hl : lv_has ls 3 [(0, .ref a), (1, .int x)] := hl
  have hsw0 := hsw
  obtain ⟨aI, aO, fI, fO, oa, la, ip, op, sp, lp, LQ, ow, ⟨h1, h2, h3⟩, ⟨w1, w2, w3⟩, hi, ho, hf⟩ := hsw0
  refine lv_aload_n hx hb d_Sw_sentFrom_0 rfl (lv_at hl 0 rfl) ?_
  refine lv_iload_n hx hb d_Sw_sentFrom_1 rfl (lv_at hl 1 rfl) ?_
  refine hp_callq (hp_runV (b := a) (As := [.int x]) (rest := []) hx hb hml hown (cn_Sw_latestSent l D B M a σ F x hsw) (hp_cwV 1 hts kw_7 kw_9 kw_10 kw_2 kw_8 rfl rfl (by decide +kernel) ⟨(Nat.le_of_ble_eq_true rfl), (Nat.le_of_ble_eq_true rfl)⟩) hK hH h1 rfl rfl hl.1 rfl (Nat.le_of_ble_eq_true rfl) d_Sw_sentFrom_2 ⟨(Nat.le_of_ble_eq_true rfl), (Nat.le_of_ble_eq_true rfl)⟩) hS (fun r_1 M_2 H locs w_3 hH hS => ?_)
  rcases w_3 with ⟨eM, ⟨eR, hl2⟩ | ⟨q, d, nx, eR, hl2, hq⟩⟩
  · rw [eM] at hH
    rw [eR]
    refine lv_astore_nN (lv' := [(2, .null), (0, .ref a), (1, .int x)]) hx hb d_Sw_sentFrom_5 rfl hl (by decide) rfl (fun ls hl => ?_)
    refine lv_aload_nN hx hb d_Sw_sentFrom_6 rfl (lv_at hl 0 rfl) ?_
    refine lv_ifnonnullN hx hb d_Sw_sentFrom_7 ?_
    refine lv_iconst (v := (-1)) hx hb d_Sw_sentFrom_10 (by decide) ?_
    refine lv_goto (tgt := 18) hx hb d_Sw_sentFrom_11 (by decide) ?_
    exact hp_iret hx hb hr hlocks hQ hK hH hS (Nat.le_of_ble_eq_true rfl) (Nat.le_of_ble_eq_true rfl) d_Sw_sentFrom_18 ⟨rfl, an_sentFrom_n hl2⟩
  · rw [eM] at hH
    rw [eR]
    refine lv_astore_n (lv' := [(2, .ref q), (0, .ref a), (1, .int x)]) hx hb d_Sw_sentFrom_5 rfl hl (by decide) rfl (fun ls hl => ?_)
    refine lv_aload_n hx hb d_Sw_sentFrom_6 rfl (lv_at hl 0 rfl) ?_
    refine lv_ifnonnull (tgt := 14) hx hb d_Sw_sentFrom_7 (by decide) ?_
    refine lv_aload_n hx hb d_Sw_sentFrom_14 rfl (lv_at hl 0 rfl) ?_
    refine hp_get hx hb hts iw_Ce hown hK hH hq rfl 0 (by decide) (hts _ kw_12) (v := .int (nI (sg_ci d))) rfl d_Sw_sentFrom_15 ?_
    exact hp_iret hx hb hr hlocks hQ hK hH hS (Nat.le_of_ble_eq_true rfl) (Nat.le_of_ble_eq_true rfl) d_Sw_sentFrom_18 ⟨rfl, an_sentFrom_s hl2⟩
abbrev rm_Sw_waited : Room := { frames := 2, cells := 0, slots := 0, locals := 41 }
set_option maxHeartbeats 4000000 in
set_option maxRecDepth 100000 in
theorem cn_Sw_waited (l : Launch) (D : va_G) (B : Nat) (M : hp_M) (a : Nat) (σ : sg_S) (F : Nat → Prop) (x : Int32) (hsw : sw_H D M a σ F) : Met l y_Sw_waited (wd_c y_Sw_waited b_Sw_waited 3 (some .int)) rm_Sw_waited (va_Pc [.ref a, .int x] (hp_C D B M)) (va_Qi (fun (r : Int32) (M1 : hp_M) => M1 = M ∧ r = an_waited σ x) (hp_C D B) (hp_ub B)) 0 0 (hp_ub B) := by
  refine hp_met (by decide) (Nat.le_of_ble_eq_true rfl) ?_
  intro p e s m args below meth cd ls Q hQ hx hb hr hts hown hlocks hnm hml hK hH hS hB hl
  replace hl : lv_has ls 3 [(0, .ref a), (1, .int x)] := hl
  have hsw0 := hsw
  obtain ⟨aI, aO, fI, fO, oa, la, ip, op, sp, lp, LQ, ow, ⟨h1, h2, h3⟩, ⟨w1, w2, w3⟩, hi, ho, hf⟩ := hsw0
  refine lv_aload_n hx hb d_Sw_waited_0 rfl (lv_at hl 0 rfl) ?_
  refine lv_iload_n hx hb d_Sw_waited_1 rfl (lv_at hl 1 rfl) ?_
  refine hp_callq (hp_runV (b := a) (As := [.int x]) (rest := []) hx hb hml hown (cn_Sw_latestSent l D B M a σ F x hsw) (hp_cwV 1 hts kw_7 kw_9 kw_10 kw_2 kw_8 rfl rfl (by decide +kernel) ⟨(Nat.le_of_ble_eq_true rfl), (Nat.le_of_ble_eq_true rfl)⟩) hK hH h1 rfl rfl hl.1 rfl (Nat.le_of_ble_eq_true rfl) d_Sw_waited_2 ⟨(Nat.le_of_ble_eq_true rfl), (Nat.le_of_ble_eq_true rfl)⟩) hS (fun r_1 M_2 H locs w_3 hH hS => ?_)
  rcases w_3 with ⟨eM, ⟨eR, hl2⟩ | ⟨q, d, nx, eR, hl2, hq⟩⟩
  · rw [eM] at hH
    rw [eR]
    refine lv_astore_nN (lv' := [(2, .null), (0, .ref a), (1, .int x)]) hx hb d_Sw_waited_5 rfl hl (by decide) rfl (fun ls hl => ?_)
    refine lv_aload_nN hx hb d_Sw_waited_6 rfl (lv_at hl 0 rfl) ?_
    refine lv_ifnonnullN hx hb d_Sw_waited_7 ?_
    refine lv_iconst (v := (-1)) hx hb d_Sw_waited_10 (by decide) ?_
    refine lv_goto (tgt := 25) hx hb d_Sw_waited_11 (by decide) ?_
    exact hp_iret hx hb hr hlocks hQ hK hH hS (Nat.le_of_ble_eq_true rfl) (Nat.le_of_ble_eq_true rfl) d_Sw_waited_25 ⟨rfl, an_waited_n hl2⟩
  · rw [eM] at hH
    rw [eR]
    refine lv_astore_n (lv' := [(2, .ref q), (0, .ref a), (1, .int x)]) hx hb d_Sw_waited_5 rfl hl (by decide) rfl (fun ls hl => ?_)
    refine lv_aload_n hx hb d_Sw_waited_6 rfl (lv_at hl 0 rfl) ?_
    refine lv_ifnonnull (tgt := 14) hx hb d_Sw_waited_7 (by decide) ?_
    refine lv_aload_n hx hb d_Sw_waited_14 rfl (lv_at hl 1 rfl) ?_
    refine hp_get hx hb hts iw_Sw hown hK hH h1 rfl 2 (by decide) (hts _ kw_0) (v := .int (sg_sl σ)) rfl d_Sw_waited_15 ?_
    refine lv_iconst (v := 1) hx hb d_Sw_waited_18 (by decide) ?_
    refine lv_isub hx hb d_Sw_waited_19 ?_
    refine lv_aload_n hx hb d_Sw_waited_20 rfl (lv_at hl 0 rfl) ?_
    refine hp_get hx hb hts iw_Ce hown hK hH hq rfl 5 (by decide) (hts _ kw_13) (v := .int (sg_cc d)) rfl d_Sw_waited_21 ?_
    refine lv_isub hx hb d_Sw_waited_24 ?_
    exact hp_iret hx hb hr hlocks hQ hK hH hS (Nat.le_of_ble_eq_true rfl) (Nat.le_of_ble_eq_true rfl) d_Sw_waited_25 ⟨rfl, an_waited_s hl2⟩
abbrev rm_Sw_inside : Room := { frames := 1, cells := 0, slots := 0, locals := 20 }
set_option maxHeartbeats 4000000 in
set_option maxRecDepth 100000 in
theorem cn_Sw_inside (l : Launch) (D : va_G) (B : Nat) (M : hp_M) (a : Nat) (σ : sg_S) (F : Nat → Prop) (x : Int32) (hsw : sw_H D M a σ F) : Met l y_Sw_inside (wd_c y_Sw_inside b_Sw_inside 2 (some .int)) rm_Sw_inside (va_Pc [.ref a, .int x] (hp_C D B M)) (va_Qi (fun (r : Int32) (M1 : hp_M) => M1 = M ∧ r = an_inside σ x) (hp_C D B) (hp_ub B)) 0 0 (hp_ub B) := by
  rcases sg_ix_or x with ⟨hix, _⟩ | ⟨k, hk, rfl, hix⟩
  · refine hp_met (by decide) (Nat.le_of_ble_eq_true rfl) ?_
    intro p e s m args below meth cd ls Q hQ hx hb hr hts hown hlocks hnm hml hK hH hS hB hl
    replace hl : lv_has ls 2 [(0, .ref a), (1, .int x)] := hl
    refine lv_iload_n hx hb d_Sw_inside_0 rfl (lv_at hl 1 rfl) ?_
    refine hp_calli (hp_runS (As := [.int x]) (rest := []) hx hb hml hown (cn_Sw_isPort l D B M x) (hp_cwS 1 hts kw_1 kw_4 kw_2 kw_3 rfl rfl (by decide +kernel) ⟨(Nat.le_of_ble_eq_true rfl), (Nat.le_of_ble_eq_true rfl)⟩) hK hH rfl hl.1 rfl (Nat.le_of_ble_eq_true rfl) d_Sw_inside_1 ⟨(Nat.le_of_ble_eq_true rfl), (Nat.le_of_ble_eq_true rfl)⟩) hS (fun r_1 M_2 H locs w_3 hH hS => ?_)
    obtain ⟨eM, eR⟩ := w_3
    rw [eM] at hH
    rw [eR]
    refine lv_if_eq (tgt := 19) hx hb d_Sw_inside_4 (by decide) (fun c_4 => ?_) (fun c_4 => absurd (sg_port_none hix) c_4)
    refine lv_iconst (v := (-1)) hx hb d_Sw_inside_19 (by decide) ?_
    exact hp_iret hx hb hr hlocks hQ hK hH hS (Nat.le_of_ble_eq_true rfl) (Nat.le_of_ble_eq_true rfl) d_Sw_inside_20 ⟨rfl, an_inside_n hix⟩
  · refine hp_met (by decide) (Nat.le_of_ble_eq_true rfl) ?_
    intro p e s m args below meth cd ls Q hQ hx hb hr hts hown hlocks hnm hml hK hH hS hB hl
    replace hl : lv_has ls 2 [(0, .ref a), (1, .int (nI k))] := hl
    have hsw0 := hsw
    obtain ⟨aI, aO, fI, fO, oa, la, ip, op, sp, lp, LQ, ow, ⟨h1, h2, h3⟩, ⟨w1, w2, w3⟩, hi, ho, hf⟩ := hsw0
    obtain ⟨i1, i2, i3, i4⟩ := hi k hk
    refine lv_iload_n hx hb d_Sw_inside_0 rfl (lv_at hl 1 rfl) ?_
    refine hp_calli (hp_runS (As := [.int (nI k)]) (rest := []) hx hb hml hown (cn_Sw_isPort l D B M (nI k)) (hp_cwS 1 hts kw_1 kw_4 kw_2 kw_3 rfl rfl (by decide +kernel) ⟨(Nat.le_of_ble_eq_true rfl), (Nat.le_of_ble_eq_true rfl)⟩) hK hH rfl hl.1 rfl (Nat.le_of_ble_eq_true rfl) d_Sw_inside_1 ⟨(Nat.le_of_ble_eq_true rfl), (Nat.le_of_ble_eq_true rfl)⟩) hS (fun r_1 M_2 H locs w_3 hH hS => ?_)
    obtain ⟨eM, eR⟩ := w_3
    rw [eM] at hH
    rw [eR]
    refine lv_if_eq (tgt := 19) hx hb d_Sw_inside_4 (by decide) (fun c_4 => absurd c_4 (by rw [sg_port_some hix]; decide)) (fun c_4 => ?_)
    refine lv_aload_n hx hb d_Sw_inside_7 rfl (lv_at hl 0 rfl) ?_
    refine hp_get hx hb hts iw_Sw hown hK hH h1 rfl 0 (by decide) (hts _ kw_14) (v := .ref aI) rfl d_Sw_inside_8 ?_
    refine lv_iload_n hx hb d_Sw_inside_11 rfl (lv_at hl 1 rfl) ?_
    refine hp_aald hx hb hK hH h2 2 rfl k rfl hk (by decide) (hi k hk).1 d_Sw_inside_12 ?_
    refine hp_get hx hb hts iw_In hown hK hH i2 rfl 1 (by decide) (hts _ kw_15) (v := .int (nI (sg_held σ k))) rfl d_Sw_inside_13 ?_
    refine lv_goto (tgt := 20) hx hb d_Sw_inside_16 (by decide) ?_
    exact hp_iret hx hb hr hlocks hQ hK hH hS (Nat.le_of_ble_eq_true rfl) (Nat.le_of_ble_eq_true rfl) d_Sw_inside_20 ⟨rfl, an_inside_s hix⟩
abbrev rm_Sw_waiting : Room := { frames := 1, cells := 0, slots := 0, locals := 20 }
set_option maxHeartbeats 4000000 in
set_option maxRecDepth 100000 in
theorem cn_Sw_waiting (l : Launch) (D : va_G) (B : Nat) (M : hp_M) (a : Nat) (σ : sg_S) (F : Nat → Prop) (x : Int32) (hsw : sw_H D M a σ F) : Met l y_Sw_waiting (wd_c y_Sw_waiting b_Sw_waiting 2 (some .int)) rm_Sw_waiting (va_Pc [.ref a, .int x] (hp_C D B M)) (va_Qi (fun (r : Int32) (M1 : hp_M) => M1 = M ∧ r = an_waiting σ x) (hp_C D B) (hp_ub B)) 0 0 (hp_ub B) := by
  rcases sg_ix_or x with ⟨hix, _⟩ | ⟨k, hk, rfl, hix⟩
  · refine hp_met (by decide) (Nat.le_of_ble_eq_true rfl) ?_
    intro p e s m args below meth cd ls Q hQ hx hb hr hts hown hlocks hnm hml hK hH hS hB hl
    replace hl : lv_has ls 2 [(0, .ref a), (1, .int x)] := hl
    refine lv_iload_n hx hb d_Sw_waiting_0 rfl (lv_at hl 1 rfl) ?_
    refine hp_calli (hp_runS (As := [.int x]) (rest := []) hx hb hml hown (cn_Sw_isPort l D B M x) (hp_cwS 1 hts kw_1 kw_4 kw_2 kw_3 rfl rfl (by decide +kernel) ⟨(Nat.le_of_ble_eq_true rfl), (Nat.le_of_ble_eq_true rfl)⟩) hK hH rfl hl.1 rfl (Nat.le_of_ble_eq_true rfl) d_Sw_waiting_1 ⟨(Nat.le_of_ble_eq_true rfl), (Nat.le_of_ble_eq_true rfl)⟩) hS (fun r_1 M_2 H locs w_3 hH hS => ?_)
    obtain ⟨eM, eR⟩ := w_3
    rw [eM] at hH
    rw [eR]
    refine lv_if_eq (tgt := 19) hx hb d_Sw_waiting_4 (by decide) (fun c_4 => ?_) (fun c_4 => absurd (sg_port_none hix) c_4)
    refine lv_iconst (v := (-1)) hx hb d_Sw_waiting_19 (by decide) ?_
    exact hp_iret hx hb hr hlocks hQ hK hH hS (Nat.le_of_ble_eq_true rfl) (Nat.le_of_ble_eq_true rfl) d_Sw_waiting_20 ⟨rfl, an_waiting_n hix⟩
  · refine hp_met (by decide) (Nat.le_of_ble_eq_true rfl) ?_
    intro p e s m args below meth cd ls Q hQ hx hb hr hts hown hlocks hnm hml hK hH hS hB hl
    replace hl : lv_has ls 2 [(0, .ref a), (1, .int (nI k))] := hl
    have hsw0 := hsw
    obtain ⟨aI, aO, fI, fO, oa, la, ip, op, sp, lp, LQ, ow, ⟨h1, h2, h3⟩, ⟨w1, w2, w3⟩, hi, ho, hf⟩ := hsw0
    obtain ⟨o1, o2, o3, ⟨ofs, o4, o4'⟩, o5, ⟨ofl, o6, o6'⟩, o7, ⟨o8, o9, o10⟩, o11⟩ := ho k hk
    refine lv_iload_n hx hb d_Sw_waiting_0 rfl (lv_at hl 1 rfl) ?_
    refine hp_calli (hp_runS (As := [.int (nI k)]) (rest := []) hx hb hml hown (cn_Sw_isPort l D B M (nI k)) (hp_cwS 1 hts kw_1 kw_4 kw_2 kw_3 rfl rfl (by decide +kernel) ⟨(Nat.le_of_ble_eq_true rfl), (Nat.le_of_ble_eq_true rfl)⟩) hK hH rfl hl.1 rfl (Nat.le_of_ble_eq_true rfl) d_Sw_waiting_1 ⟨(Nat.le_of_ble_eq_true rfl), (Nat.le_of_ble_eq_true rfl)⟩) hS (fun r_1 M_2 H locs w_3 hH hS => ?_)
    obtain ⟨eM, eR⟩ := w_3
    rw [eM] at hH
    rw [eR]
    refine lv_if_eq (tgt := 19) hx hb d_Sw_waiting_4 (by decide) (fun c_4 => absurd c_4 (by rw [sg_port_some hix]; decide)) (fun c_4 => ?_)
    refine lv_aload_n hx hb d_Sw_waiting_7 rfl (lv_at hl 0 rfl) ?_
    refine hp_get hx hb hts iw_Sw hown hK hH h1 rfl 1 (by decide) (hts _ kw_5) (v := .ref aO) rfl d_Sw_waiting_8 ?_
    refine lv_iload_n hx hb d_Sw_waiting_11 rfl (lv_at hl 1 rfl) ?_
    refine hp_aald hx hb hK hH h3 3 rfl k rfl hk (by decide) (ho k hk).1 d_Sw_waiting_12 ?_
    refine hp_get hx hb hts iw_Ou hown hK hH o2 rfl 4 (by decide) (hts _ kw_16) (v := .int (nI (sg_qu σ k).length)) rfl d_Sw_waiting_13 ?_
    refine lv_goto (tgt := 20) hx hb d_Sw_waiting_16 (by decide) ?_
    exact hp_iret hx hb hr hlocks hQ hK hH hS (Nat.le_of_ble_eq_true rfl) (Nat.le_of_ble_eq_true rfl) d_Sw_waiting_20 ⟨rfl, an_waiting_s hix⟩
end
section
theorem kw_17 : Cond.fieldLink R_Sw 93 "EvenSwitch$Output" "head" "LEvenSwitch$Cell;" ∈ wd_T := wd_in (List.mem_of_getElem? (i := 68) (by decide +kernel)) rfl
theorem kw_18 : Cond.fieldLink R_Sw 99 "EvenSwitch$Cell" "next" "LEvenSwitch$Cell;" ∈ wd_T := wd_in (List.mem_of_getElem? (i := 145) (by decide +kernel)) rfl
theorem kw_19 : Cond.methodLink R_Sw 84 y_Sw_cellInOrder ∈ wd_T := wd_in (List.mem_of_getElem? (i := 242) (by decide +kernel)) rfl
theorem kw_20 : Cond.code y_Sw_cellInOrder b_Sw_cellInOrder 5 (some (.object "EvenSwitch$Cell")) ∈ wd_T := wd_in (List.mem_of_getElem? (i := 245) (by decide +kernel)) rfl
theorem kw_21 : Cond.instanceMethod y_Sw_cellInOrder ∈ wd_T := wd_in (List.mem_of_getElem? (i := 244) (by decide +kernel)) rfl
theorem kw_22 : Cond.selects R_Sw y_Sw_cellInOrder y_Sw_cellInOrder ∈ wd_T := wd_in (List.mem_of_getElem? (i := 8) (by decide +kernel)) rfl
theorem kw_23 : Cond.constantLong R_Sw 88 (-1) ∈ wd_T := wd_in (List.mem_of_getElem? (i := 250) (by decide +kernel)) rfl
theorem kw_24 : Cond.fieldLink R_Sw 90 "EvenSwitch$Cell" "time" "J" ∈ wd_T := wd_in (List.mem_of_getElem? (i := 143) (by decide +kernel)) rfl
theorem d_Sw_cellInOrder_0 : decode b_Sw_cellInOrder 0 = .ok (.iload_n 1, 1) := by decide +kernel
theorem d_Sw_cellInOrder_1 : decode b_Sw_cellInOrder 1 = .ok (.invokestatic 23, 3) := by decide +kernel
theorem d_Sw_cellInOrder_4 : decode b_Sw_cellInOrder 4 = .ok (.ifCond .eq 20, 3) := by decide +kernel
theorem d_Sw_cellInOrder_7 : decode b_Sw_cellInOrder 7 = .ok (.iload_n 2, 1) := by decide +kernel
theorem d_Sw_cellInOrder_8 : decode b_Sw_cellInOrder 8 = .ok (.ifCond .lt 16, 3) := by decide +kernel
theorem d_Sw_cellInOrder_11 : decode b_Sw_cellInOrder 11 = .ok (.iload_n 2, 1) := by decide +kernel
theorem d_Sw_cellInOrder_12 : decode b_Sw_cellInOrder 12 = .ok (.aload_n 0, 1) := by decide +kernel
theorem d_Sw_cellInOrder_13 : decode b_Sw_cellInOrder 13 = .ok (.getfield 17, 3) := by decide +kernel
theorem d_Sw_cellInOrder_16 : decode b_Sw_cellInOrder 16 = .ok (.iload_n 1, 1) := by decide +kernel
theorem d_Sw_cellInOrder_17 : decode b_Sw_cellInOrder 17 = .ok (.aaload, 1) := by decide +kernel
theorem d_Sw_cellInOrder_18 : decode b_Sw_cellInOrder 18 = .ok (.getfield 27, 3) := by decide +kernel
theorem d_Sw_cellInOrder_21 : decode b_Sw_cellInOrder 21 = .ok (.if_icmp .lt 5, 3) := by decide +kernel
theorem d_Sw_cellInOrder_24 : decode b_Sw_cellInOrder 24 = .ok (.aconst_null, 1) := by decide +kernel
theorem d_Sw_cellInOrder_25 : decode b_Sw_cellInOrder 25 = .ok (.areturn, 1) := by decide +kernel
theorem d_Sw_cellInOrder_26 : decode b_Sw_cellInOrder 26 = .ok (.aload_n 0, 1) := by decide +kernel
theorem d_Sw_cellInOrder_27 : decode b_Sw_cellInOrder 27 = .ok (.getfield 17, 3) := by decide +kernel
theorem d_Sw_cellInOrder_30 : decode b_Sw_cellInOrder 30 = .ok (.iload_n 1, 1) := by decide +kernel
theorem d_Sw_cellInOrder_31 : decode b_Sw_cellInOrder 31 = .ok (.aaload, 1) := by decide +kernel
theorem d_Sw_cellInOrder_32 : decode b_Sw_cellInOrder 32 = .ok (.getfield 93, 3) := by decide +kernel
theorem d_Sw_cellInOrder_35 : decode b_Sw_cellInOrder 35 = .ok (.astore_n 3, 1) := by decide +kernel
theorem d_Sw_cellInOrder_36 : decode b_Sw_cellInOrder 36 = .ok (.iconst 0, 1) := by decide +kernel
theorem d_Sw_cellInOrder_37 : decode b_Sw_cellInOrder 37 = .ok (.istore 4, 2) := by decide +kernel
theorem d_Sw_cellInOrder_39 : decode b_Sw_cellInOrder 39 = .ok (.iload 4, 2) := by decide +kernel
theorem d_Sw_cellInOrder_41 : decode b_Sw_cellInOrder 41 = .ok (.iload_n 2, 1) := by decide +kernel
theorem d_Sw_cellInOrder_42 : decode b_Sw_cellInOrder 42 = .ok (.if_icmp .ge 18, 3) := by decide +kernel
theorem d_Sw_cellInOrder_45 : decode b_Sw_cellInOrder 45 = .ok (.aload_n 3, 1) := by decide +kernel
theorem d_Sw_cellInOrder_46 : decode b_Sw_cellInOrder 46 = .ok (.ifnull 14, 3) := by decide +kernel
theorem d_Sw_cellInOrder_49 : decode b_Sw_cellInOrder 49 = .ok (.aload_n 3, 1) := by decide +kernel
theorem d_Sw_cellInOrder_50 : decode b_Sw_cellInOrder 50 = .ok (.getfield 99, 3) := by decide +kernel
theorem d_Sw_cellInOrder_53 : decode b_Sw_cellInOrder 53 = .ok (.astore_n 3, 1) := by decide +kernel
theorem d_Sw_cellInOrder_54 : decode b_Sw_cellInOrder 54 = .ok (.iinc 4 1, 3) := by decide +kernel
theorem d_Sw_cellInOrder_57 : decode b_Sw_cellInOrder 57 = .ok (.goto (-18), 3) := by decide +kernel
theorem d_Sw_cellInOrder_60 : decode b_Sw_cellInOrder 60 = .ok (.aload_n 3, 1) := by decide +kernel
theorem d_Sw_cellInOrder_61 : decode b_Sw_cellInOrder 61 = .ok (.areturn, 1) := by decide +kernel
theorem d_Sw_first_0 : decode b_Sw_first 0 = .ok (.aload_n 0, 1) := by decide +kernel
theorem d_Sw_first_1 : decode b_Sw_first 1 = .ok (.iload_n 1, 1) := by decide +kernel
theorem d_Sw_first_2 : decode b_Sw_first 2 = .ok (.iload_n 2, 1) := by decide +kernel
theorem d_Sw_first_3 : decode b_Sw_first 3 = .ok (.invokevirtual 84, 3) := by decide +kernel
theorem d_Sw_first_6 : decode b_Sw_first 6 = .ok (.astore_n 3, 1) := by decide +kernel
theorem d_Sw_first_7 : decode b_Sw_first 7 = .ok (.aload_n 3, 1) := by decide +kernel
theorem d_Sw_first_8 : decode b_Sw_first 8 = .ok (.ifnonnull 7, 3) := by decide +kernel
theorem d_Sw_first_11 : decode b_Sw_first 11 = .ok (.iconst (-1), 1) := by decide +kernel
theorem d_Sw_first_12 : decode b_Sw_first 12 = .ok (.goto 7, 3) := by decide +kernel
theorem d_Sw_first_15 : decode b_Sw_first 15 = .ok (.aload_n 3, 1) := by decide +kernel
theorem d_Sw_first_16 : decode b_Sw_first 16 = .ok (.getfield 78, 3) := by decide +kernel
theorem d_Sw_first_19 : decode b_Sw_first 19 = .ok (.ireturn, 1) := by decide +kernel
theorem d_Sw_time_0 : decode b_Sw_time 0 = .ok (.aload_n 0, 1) := by decide +kernel
theorem d_Sw_time_1 : decode b_Sw_time 1 = .ok (.iload_n 1, 1) := by decide +kernel
theorem d_Sw_time_2 : decode b_Sw_time 2 = .ok (.iload_n 2, 1) := by decide +kernel
theorem d_Sw_time_3 : decode b_Sw_time 3 = .ok (.invokevirtual 84, 3) := by decide +kernel
theorem d_Sw_time_6 : decode b_Sw_time 6 = .ok (.astore_n 3, 1) := by decide +kernel
theorem d_Sw_time_7 : decode b_Sw_time 7 = .ok (.aload_n 3, 1) := by decide +kernel
theorem d_Sw_time_8 : decode b_Sw_time 8 = .ok (.ifnonnull 9, 3) := by decide +kernel
theorem d_Sw_time_11 : decode b_Sw_time 11 = .ok (.ldc2_w 88, 3) := by decide +kernel
theorem d_Sw_time_14 : decode b_Sw_time 14 = .ok (.goto 7, 3) := by decide +kernel
theorem d_Sw_time_17 : decode b_Sw_time 17 = .ok (.aload_n 3, 1) := by decide +kernel
theorem d_Sw_time_18 : decode b_Sw_time 18 = .ok (.getfield 90, 3) := by decide +kernel
theorem d_Sw_time_21 : decode b_Sw_time 21 = .ok (.lreturn, 1) := by decide +kernel
abbrev rm_Sw_cellInOrder : Room := { frames := 1, cells := 0, slots := 0, locals := 20 }
set_option maxHeartbeats 4000000 in
set_option maxRecDepth 100000 in
theorem cn_Sw_cellInOrder (l : Launch) (D : va_G) (B : Nat) (M : hp_M) (a : Nat) (σ : sg_S) (F : Nat → Prop) (x k : Int32) (hsw : sw_H D M a σ F) (hinv : sg_inv σ) (hac : sg_ac σ ≤ 512) : Met l y_Sw_cellInOrder (wd_c y_Sw_cellInOrder b_Sw_cellInOrder 5 (some (.object "EvenSwitch$Cell"))) rm_Sw_cellInOrder (va_Pc [.ref a, .int x, .int k] (hp_C D B M)) (va_Qq (fun (r : Option Nat) (M1 : hp_M) => M1 = M ∧ ((r = none ∧ sg_kth σ x k = none) ∨ ∃ (q : Nat) (d : sg_Ce) (nx : Option Nat), r = some q ∧ sg_kth σ x k = some d ∧ M q = some (sw_c d nx))) (hp_C D B) (hp_ub B)) 0 0 (hp_ub B) := by
  rcases sg_kth_or σ x k with hix | ⟨o, hk, rfl, hix, hneg⟩ | ⟨o, j, hk, rfl, hix, hj, rfl, hle⟩ | ⟨o, j, hk, rfl, hix, hj, rfl, hlt⟩
  · refine hp_met (by decide) (Nat.le_of_ble_eq_true rfl) ?_
    intro p e s m args below meth cd ls Q hQ hx hb hr hts hown hlocks hnm hml hK hH hS hB hl
    replace hl : lv_has ls 5 [(0, .ref a), (1, .int x), (2, .int k)] := hl
    refine lv_iload_n hx hb d_Sw_cellInOrder_0 rfl (lv_at hl 1 rfl) ?_
    refine hp_calli (hp_runS (As := [.int x]) (rest := []) hx hb hml hown (cn_Sw_isPort l D B M x) (hp_cwS 1 hts kw_1 kw_4 kw_2 kw_3 rfl rfl (by decide +kernel) ⟨(Nat.le_of_ble_eq_true rfl), (Nat.le_of_ble_eq_true rfl)⟩) hK hH rfl hl.1 rfl (Nat.le_of_ble_eq_true rfl) d_Sw_cellInOrder_1 ⟨(Nat.le_of_ble_eq_true rfl), (Nat.le_of_ble_eq_true rfl)⟩) hS (fun r_1 M_2 H locs w_3 hH hS => ?_)
    obtain ⟨eM, eR⟩ := w_3
    rw [eM] at hH
    rw [eR]
    refine lv_if_eq (tgt := 24) hx hb d_Sw_cellInOrder_4 (by decide) (fun c_4 => ?_) (fun c_4 => absurd (sg_port_none hix) c_4)
    refine lv_null hx hb d_Sw_cellInOrder_24 ?_
    exact hp_qret (v := none) hx hb hr hlocks hQ hK hH hS (Nat.le_of_ble_eq_true rfl) (Nat.le_of_ble_eq_true rfl) d_Sw_cellInOrder_25 ⟨rfl, Or.inl ⟨rfl, sg_kth_n hix⟩⟩
  · refine hp_met (by decide) (Nat.le_of_ble_eq_true rfl) ?_
    intro p e s m args below meth cd ls Q hQ hx hb hr hts hown hlocks hnm hml hK hH hS hB hl
    replace hl : lv_has ls 5 [(0, .ref a), (1, .int (nI o)), (2, .int k)] := hl
    refine lv_iload_n hx hb d_Sw_cellInOrder_0 rfl (lv_at hl 1 rfl) ?_
    refine hp_calli (hp_runS (As := [.int (nI o)]) (rest := []) hx hb hml hown (cn_Sw_isPort l D B M (nI o)) (hp_cwS 1 hts kw_1 kw_4 kw_2 kw_3 rfl rfl (by decide +kernel) ⟨(Nat.le_of_ble_eq_true rfl), (Nat.le_of_ble_eq_true rfl)⟩) hK hH rfl hl.1 rfl (Nat.le_of_ble_eq_true rfl) d_Sw_cellInOrder_1 ⟨(Nat.le_of_ble_eq_true rfl), (Nat.le_of_ble_eq_true rfl)⟩) hS (fun r_1 M_2 H locs w_3 hH hS => ?_)
    obtain ⟨eM, eR⟩ := w_3
    rw [eM] at hH
    rw [eR]
    refine lv_if_eq (tgt := 24) hx hb d_Sw_cellInOrder_4 (by decide) (fun c_4 => absurd c_4 (by rw [sg_port_some hix]; decide)) (fun c_4 => ?_)
    refine lv_iload_n hx hb d_Sw_cellInOrder_7 rfl (lv_at hl 2 rfl) ?_
    refine lv_if_lt (tgt := 24) hx hb d_Sw_cellInOrder_8 (by decide) (fun c_5 => ?_) (fun c_5 => absurd hneg c_5)
    refine lv_null hx hb d_Sw_cellInOrder_24 ?_
    exact hp_qret (v := none) hx hb hr hlocks hQ hK hH hS (Nat.le_of_ble_eq_true rfl) (Nat.le_of_ble_eq_true rfl) d_Sw_cellInOrder_25 ⟨rfl, Or.inl ⟨rfl, sg_kth_neg hneg⟩⟩
  · refine hp_met (by decide) (Nat.le_of_ble_eq_true rfl) ?_
    intro p e s m args below meth cd ls Q hQ hx hb hr hts hown hlocks hnm hml hK hH hS hB hl
    replace hl : lv_has ls 5 [(0, .ref a), (1, .int (nI o)), (2, .int (nI j))] := hl
    have hsw0 := hsw
    obtain ⟨aI, aO, fI, fO, oa, la, ip, op, sp, lp, LQ, ow, ⟨h1, h2, h3⟩, ⟨w1, w2, w3⟩, hi, ho, hf⟩ := hsw0
    obtain ⟨o1, o2, o3, ⟨ofs, o4, o4'⟩, o5, ⟨ofl, o6, o6'⟩, o7, ⟨o8, o9, o10⟩, o11⟩ := ho o hk
    refine lv_iload_n hx hb d_Sw_cellInOrder_0 rfl (lv_at hl 1 rfl) ?_
    refine hp_calli (hp_runS (As := [.int (nI o)]) (rest := []) hx hb hml hown (cn_Sw_isPort l D B M (nI o)) (hp_cwS 1 hts kw_1 kw_4 kw_2 kw_3 rfl rfl (by decide +kernel) ⟨(Nat.le_of_ble_eq_true rfl), (Nat.le_of_ble_eq_true rfl)⟩) hK hH rfl hl.1 rfl (Nat.le_of_ble_eq_true rfl) d_Sw_cellInOrder_1 ⟨(Nat.le_of_ble_eq_true rfl), (Nat.le_of_ble_eq_true rfl)⟩) hS (fun r_1 M_2 H locs w_3 hH hS => ?_)
    obtain ⟨eM, eR⟩ := w_3
    rw [eM] at hH
    rw [eR]
    refine lv_if_eq (tgt := 24) hx hb d_Sw_cellInOrder_4 (by decide) (fun c_4 => absurd c_4 (by rw [sg_port_some hix]; decide)) (fun c_4 => ?_)
    refine lv_iload_n hx hb d_Sw_cellInOrder_7 rfl (lv_at hl 2 rfl) ?_
    refine lv_if_lt (tgt := 24) hx hb d_Sw_cellInOrder_8 (by decide) (fun c_5 => absurd c_5 (nI_pos hj)) (fun c_5 => ?_)
    refine lv_iload_n hx hb d_Sw_cellInOrder_11 rfl (lv_at hl 2 rfl) ?_
    refine lv_aload_n hx hb d_Sw_cellInOrder_12 rfl (lv_at hl 0 rfl) ?_
    refine hp_get hx hb hts iw_Sw hown hK hH h1 rfl 1 (by decide) (hts _ kw_5) (v := .ref aO) rfl d_Sw_cellInOrder_13 ?_
    refine lv_iload_n hx hb d_Sw_cellInOrder_16 rfl (lv_at hl 1 rfl) ?_
    refine hp_aald hx hb hK hH h3 3 rfl o rfl hk (by decide) (ho o hk).1 d_Sw_cellInOrder_17 ?_
    refine hp_get hx hb hts iw_Ou hown hK hH o2 rfl 4 (by decide) (hts _ kw_16) (v := .int (nI (sg_qu σ o).length)) rfl d_Sw_cellInOrder_18 ?_
    refine lv_icmp_lt (tgt := 26) hx hb d_Sw_cellInOrder_21 (by decide) (fun c_6 => absurd c_6 (nI_nlt hle hj)) (fun c_6 => ?_)
    refine lv_null hx hb d_Sw_cellInOrder_24 ?_
    exact hp_qret (v := none) hx hb hr hlocks hQ hK hH hS (Nat.le_of_ble_eq_true rfl) (Nat.le_of_ble_eq_true rfl) d_Sw_cellInOrder_25 ⟨rfl, Or.inl ⟨rfl, (sg_kth_s hix hj).trans (List.getElem?_eq_none hle)⟩⟩
  · refine hp_met (by decide) (Nat.le_of_ble_eq_true rfl) ?_
    intro p e s m args below meth cd ls Q hQ hx hb hr hts hown hlocks hnm hml hK hH hS hB hl
    replace hl : lv_has ls 5 [(0, .ref a), (1, .int (nI o)), (2, .int (nI j))] := hl
    have hsw0 := hsw
    obtain ⟨aI, aO, fI, fO, oa, la, ip, op, sp, lp, LQ, ow, ⟨h1, h2, h3⟩, ⟨w1, w2, w3⟩, hi, ho, hf⟩ := hsw0
    obtain ⟨o1, o2, o3, ⟨ofs, o4, o4'⟩, o5, ⟨ofl, o6, o6'⟩, o7, ⟨o8, o9, o10⟩, o11⟩ := ho o hk
    have hlen := sg_len_le hinv hk
    refine lv_iload_n hx hb d_Sw_cellInOrder_0 rfl (lv_at hl 1 rfl) ?_
    refine hp_calli (hp_runS (As := [.int (nI o)]) (rest := []) hx hb hml hown (cn_Sw_isPort l D B M (nI o)) (hp_cwS 1 hts kw_1 kw_4 kw_2 kw_3 rfl rfl (by decide +kernel) ⟨(Nat.le_of_ble_eq_true rfl), (Nat.le_of_ble_eq_true rfl)⟩) hK hH rfl hl.1 rfl (Nat.le_of_ble_eq_true rfl) d_Sw_cellInOrder_1 ⟨(Nat.le_of_ble_eq_true rfl), (Nat.le_of_ble_eq_true rfl)⟩) hS (fun r_1 M_2 H locs w_3 hH hS => ?_)
    obtain ⟨eM, eR⟩ := w_3
    rw [eM] at hH
    rw [eR]
    refine lv_if_eq (tgt := 24) hx hb d_Sw_cellInOrder_4 (by decide) (fun c_4 => absurd c_4 (by rw [sg_port_some hix]; decide)) (fun c_4 => ?_)
    refine lv_iload_n hx hb d_Sw_cellInOrder_7 rfl (lv_at hl 2 rfl) ?_
    refine lv_if_lt (tgt := 24) hx hb d_Sw_cellInOrder_8 (by decide) (fun c_5 => absurd c_5 (nI_pos hj)) (fun c_5 => ?_)
    refine lv_iload_n hx hb d_Sw_cellInOrder_11 rfl (lv_at hl 2 rfl) ?_
    refine lv_aload_n hx hb d_Sw_cellInOrder_12 rfl (lv_at hl 0 rfl) ?_
    refine hp_get hx hb hts iw_Sw hown hK hH h1 rfl 1 (by decide) (hts _ kw_5) (v := .ref aO) rfl d_Sw_cellInOrder_13 ?_
    refine lv_iload_n hx hb d_Sw_cellInOrder_16 rfl (lv_at hl 1 rfl) ?_
    refine hp_aald hx hb hK hH h3 3 rfl o rfl hk (by decide) (ho o hk).1 d_Sw_cellInOrder_17 ?_
    refine hp_get hx hb hts iw_Ou hown hK hH o2 rfl 4 (by decide) (hts _ kw_16) (v := .int (nI (sg_qu σ o).length)) rfl d_Sw_cellInOrder_18 ?_
    refine lv_icmp_lt (tgt := 26) hx hb d_Sw_cellInOrder_21 (by decide) (fun c_6 => ?_) (fun c_6 => absurd (nI_lt hlt (by omega)) c_6)
    refine lv_aload_n hx hb d_Sw_cellInOrder_26 rfl (lv_at hl 0 rfl) ?_
    refine hp_get hx hb hts iw_Sw hown hK hH h1 rfl 1 (by decide) (hts _ kw_5) (v := .ref aO) rfl d_Sw_cellInOrder_27 ?_
    refine lv_iload_n hx hb d_Sw_cellInOrder_30 rfl (lv_at hl 1 rfl) ?_
    refine hp_aald hx hb hK hH h3 3 rfl o rfl hk (by decide) (ho o hk).1 d_Sw_cellInOrder_31 ?_
    refine hp_get hx hb hts iw_Ou hown hK hH o2 rfl 3 (by decide) (hts _ kw_17) (v := va_rf (sw_hd (LQ o) none)) rfl d_Sw_cellInOrder_32 ?_
    refine hp_astore_n (lv' := [(3, va_rf (sw_hd (LQ o) none)), (0, .ref a), (1, .int (nI o)), (2, .int (nI j))]) hx hb d_Sw_cellInOrder_35 rfl hl (by decide) rfl (fun ls hl => ?_)
    refine lv_iconst (v := 0) hx hb d_Sw_cellInOrder_36 (by decide) ?_
    refine lv_istore (lv' := [(4, .int 0), (3, va_rf (sw_hd (LQ o) none)), (0, .ref a), (1, .int (nI o)), (2, .int (nI j))]) hx hb d_Sw_cellInOrder_37 hl (by decide) (by cases (sw_hd (LQ o) none) <;> rfl) (fun ls hl => ?_)
    have Lp : ∀ (n pp : Nat) (ls : Array Slot), pp + n = j → lv_has ls 5 [(4, .int (nI pp)), (3, va_rf (sw_hd ((LQ o).drop pp) none)), (0, .ref a), (1, .int (nI o)), (2, .int (nI j))] → W p l e rm_Sw_cellInOrder s m args below meth cd H locs 0 0 Q (F0 m 39 ls []) := by
      intro n
      induction n with
      | zero =>
        intro pp ls hn hl
        obtain ⟨q, d, e1, e2, e3, hq⟩ := sw_sg_at o8 (p := pp) (by omega)
        rw [e1] at hl
        replace hl : lv_has ls 5 [(4, .int (nI pp)), (3, .ref q), (0, .ref a), (1, .int (nI o)), (2, .int (nI j))] := hl
        refine lv_iload hx hb d_Sw_cellInOrder_39 (lv_at hl 0 rfl) ?_
        refine lv_iload_n hx hb d_Sw_cellInOrder_41 rfl (lv_at hl 4 rfl) ?_
        refine lv_icmp_ge (tgt := 60) hx hb d_Sw_cellInOrder_42 (by decide) (fun c_7 => ?_) (fun c_7 => absurd (nI_le (by omega) (by omega)) c_7)
        refine lv_aload_n hx hb d_Sw_cellInOrder_60 rfl (lv_at hl 1 rfl) ?_
        exact hp_qret (v := some q) hx hb hr hlocks hQ hK hH hS (Nat.le_of_ble_eq_true rfl) (Nat.le_of_ble_eq_true rfl) d_Sw_cellInOrder_61 ⟨rfl, Or.inr ⟨q, d, _, rfl, (sg_kth_s hix hj).trans (by rw [← e3]; congr 1; omega), hq⟩⟩
      | succ n ih =>
        intro pp ls hn hl
        obtain ⟨q, d, e1, e2, e3, hq⟩ := sw_sg_at o8 (p := pp) (by omega)
        rw [e1] at hl
        replace hl : lv_has ls 5 [(4, .int (nI pp)), (3, .ref q), (0, .ref a), (1, .int (nI o)), (2, .int (nI j))] := hl
        refine lv_iload hx hb d_Sw_cellInOrder_39 (lv_at hl 0 rfl) ?_
        refine lv_iload_n hx hb d_Sw_cellInOrder_41 rfl (lv_at hl 4 rfl) ?_
        refine lv_icmp_ge (tgt := 60) hx hb d_Sw_cellInOrder_42 (by decide) (fun c_8 => absurd c_8 (nI_ge (by omega) (by omega))) (fun c_8 => ?_)
        refine lv_aload_n hx hb d_Sw_cellInOrder_45 rfl (lv_at hl 1 rfl) ?_
        refine lv_ifnull hx hb d_Sw_cellInOrder_46 ?_
        refine lv_aload_n hx hb d_Sw_cellInOrder_49 rfl (lv_at hl 1 rfl) ?_
        refine hp_get hx hb hts iw_Ce hown hK hH hq rfl 7 (by decide) (hts _ kw_18) (v := va_rf (sw_hd ((LQ o).drop (pp + 1)) none)) rfl d_Sw_cellInOrder_50 ?_
        refine hp_astore_n (lv' := [(3, va_rf (sw_hd ((LQ o).drop (pp + 1)) none)), (4, .int (nI pp)), (0, .ref a), (1, .int (nI o)), (2, .int (nI j))]) hx hb d_Sw_cellInOrder_53 rfl hl (by decide) rfl (fun ls hl => ?_)
        refine lv_iinc (v := nI (pp + 1)) (lv' := [(4, .int (nI (pp + 1))), (3, va_rf (sw_hd ((LQ o).drop (pp + 1)) none)), (0, .ref a), (1, .int (nI o)), (2, .int (nI j))]) hx hb d_Sw_cellInOrder_54 hl (k := 1) rfl (nI_1 pp) (by decide) (by cases (sw_hd ((LQ o).drop (pp + 1)) none) <;> rfl) (fun ls hl => ?_)
        refine lv_goto (tgt := 39) hx hb d_Sw_cellInOrder_57 (by decide) ?_
        exact ih (pp + 1) ls (by omega) (lv_sub hl [0, 1, 2, 3, 4] rfl)
    exact Lp j 0 ls (by omega) (lv_sub hl [0, 1, 2, 3, 4] rfl)
abbrev rm_Sw_first : Room := { frames := 2, cells := 0, slots := 0, locals := 44 }
set_option maxHeartbeats 4000000 in
set_option maxRecDepth 100000 in
theorem cn_Sw_first (l : Launch) (D : va_G) (B : Nat) (M : hp_M) (a : Nat) (σ : sg_S) (F : Nat → Prop) (x k : Int32) (hsw : sw_H D M a σ F) (hinv : sg_inv σ) (hac : sg_ac σ ≤ 512) : Met l y_Sw_first (wd_c y_Sw_first b_Sw_first 4 (some .int)) rm_Sw_first (va_Pc [.ref a, .int x, .int k] (hp_C D B M)) (va_Qi (fun (r : Int32) (M1 : hp_M) => M1 = M ∧ r = an_first σ x k) (hp_C D B) (hp_ub B)) 0 0 (hp_ub B) := by
  refine hp_met (by decide) (Nat.le_of_ble_eq_true rfl) ?_
  intro p e s m args below meth cd ls Q hQ hx hb hr hts hown hlocks hnm hml hK hH hS hB hl
  replace hl : lv_has ls 4 [(0, .ref a), (1, .int x), (2, .int k)] := hl
  have hsw0 := hsw
  obtain ⟨aI, aO, fI, fO, oa, la, ip, op, sp, lp, LQ, ow, ⟨h1, h2, h3⟩, ⟨w1, w2, w3⟩, hi, ho, hf⟩ := hsw0
  refine lv_aload_n hx hb d_Sw_first_0 rfl (lv_at hl 0 rfl) ?_
  refine lv_iload_n hx hb d_Sw_first_1 rfl (lv_at hl 1 rfl) ?_
  refine lv_iload_n hx hb d_Sw_first_2 rfl (lv_at hl 2 rfl) ?_
  refine hp_callq (hp_runV (b := a) (As := [.int x, .int k]) (rest := []) hx hb hml hown (cn_Sw_cellInOrder l D B M a σ F x k hsw hinv hac) (hp_cwV 2 hts kw_19 kw_21 kw_22 kw_2 kw_20 rfl rfl (by decide +kernel) ⟨(Nat.le_of_ble_eq_true rfl), (Nat.le_of_ble_eq_true rfl)⟩) hK hH h1 rfl rfl hl.1 rfl (Nat.le_of_ble_eq_true rfl) d_Sw_first_3 ⟨(Nat.le_of_ble_eq_true rfl), (Nat.le_of_ble_eq_true rfl)⟩) hS (fun r_1 M_2 H locs w_3 hH hS => ?_)
  rcases w_3 with ⟨eM, ⟨eR, hl2⟩ | ⟨q, d, nx, eR, hl2, hq⟩⟩
  · rw [eM] at hH
    rw [eR]
    refine lv_astore_nN (lv' := [(3, .null), (0, .ref a), (1, .int x), (2, .int k)]) hx hb d_Sw_first_6 rfl hl (by decide) rfl (fun ls hl => ?_)
    refine lv_aload_nN hx hb d_Sw_first_7 rfl (lv_at hl 0 rfl) ?_
    refine lv_ifnonnullN hx hb d_Sw_first_8 ?_
    refine lv_iconst (v := (-1)) hx hb d_Sw_first_11 (by decide) ?_
    refine lv_goto (tgt := 19) hx hb d_Sw_first_12 (by decide) ?_
    exact hp_iret hx hb hr hlocks hQ hK hH hS (Nat.le_of_ble_eq_true rfl) (Nat.le_of_ble_eq_true rfl) d_Sw_first_19 ⟨rfl, an_first_n hl2⟩
  · rw [eM] at hH
    rw [eR]
    refine lv_astore_n (lv' := [(3, .ref q), (0, .ref a), (1, .int x), (2, .int k)]) hx hb d_Sw_first_6 rfl hl (by decide) rfl (fun ls hl => ?_)
    refine lv_aload_n hx hb d_Sw_first_7 rfl (lv_at hl 0 rfl) ?_
    refine lv_ifnonnull (tgt := 15) hx hb d_Sw_first_8 (by decide) ?_
    refine lv_aload_n hx hb d_Sw_first_15 rfl (lv_at hl 0 rfl) ?_
    refine hp_get hx hb hts iw_Ce hown hK hH hq rfl 0 (by decide) (hts _ kw_12) (v := .int (nI (sg_ci d))) rfl d_Sw_first_16 ?_
    exact hp_iret hx hb hr hlocks hQ hK hH hS (Nat.le_of_ble_eq_true rfl) (Nat.le_of_ble_eq_true rfl) d_Sw_first_19 ⟨rfl, an_first_s hl2⟩
abbrev rm_Sw_time : Room := { frames := 2, cells := 0, slots := 0, locals := 44 }
set_option maxHeartbeats 4000000 in
set_option maxRecDepth 100000 in
theorem cn_Sw_time (l : Launch) (D : va_G) (B : Nat) (M : hp_M) (a : Nat) (σ : sg_S) (F : Nat → Prop) (x k : Int32) (hsw : sw_H D M a σ F) (hinv : sg_inv σ) (hac : sg_ac σ ≤ 512) : Met l y_Sw_time (wd_c y_Sw_time b_Sw_time 4 (some .long)) rm_Sw_time (va_Pc [.ref a, .int x, .int k] (hp_C D B M)) (va_Ql (fun (r : Int64) (M1 : hp_M) => M1 = M ∧ r = an_time σ x k) (hp_C D B) (hp_ub B)) 0 0 (hp_ub B) := by
  refine hp_met (by decide) (Nat.le_of_ble_eq_true rfl) ?_
  intro p e s m args below meth cd ls Q hQ hx hb hr hts hown hlocks hnm hml hK hH hS hB hl
  replace hl : lv_has ls 4 [(0, .ref a), (1, .int x), (2, .int k)] := hl
  have hsw0 := hsw
  obtain ⟨aI, aO, fI, fO, oa, la, ip, op, sp, lp, LQ, ow, ⟨h1, h2, h3⟩, ⟨w1, w2, w3⟩, hi, ho, hf⟩ := hsw0
  refine lv_aload_n hx hb d_Sw_time_0 rfl (lv_at hl 0 rfl) ?_
  refine lv_iload_n hx hb d_Sw_time_1 rfl (lv_at hl 1 rfl) ?_
  refine lv_iload_n hx hb d_Sw_time_2 rfl (lv_at hl 2 rfl) ?_
  refine hp_callq (hp_runV (b := a) (As := [.int x, .int k]) (rest := []) hx hb hml hown (cn_Sw_cellInOrder l D B M a σ F x k hsw hinv hac) (hp_cwV 2 hts kw_19 kw_21 kw_22 kw_2 kw_20 rfl rfl (by decide +kernel) ⟨(Nat.le_of_ble_eq_true rfl), (Nat.le_of_ble_eq_true rfl)⟩) hK hH h1 rfl rfl hl.1 rfl (Nat.le_of_ble_eq_true rfl) d_Sw_time_3 ⟨(Nat.le_of_ble_eq_true rfl), (Nat.le_of_ble_eq_true rfl)⟩) hS (fun r_1 M_2 H locs w_3 hH hS => ?_)
  rcases w_3 with ⟨eM, ⟨eR, hl2⟩ | ⟨q, d, nx, eR, hl2, hq⟩⟩
  · rw [eM] at hH
    rw [eR]
    refine lv_astore_nN (lv' := [(3, .null), (0, .ref a), (1, .int x), (2, .int k)]) hx hb d_Sw_time_6 rfl hl (by decide) rfl (fun ls hl => ?_)
    refine lv_aload_nN hx hb d_Sw_time_7 rfl (lv_at hl 0 rfl) ?_
    refine lv_ifnonnullN hx hb d_Sw_time_8 ?_
    refine lv_ldc2 (v := (-1)) hx hb hown (hts _ kw_23) d_Sw_time_11 ?_
    refine lv_goto (tgt := 21) hx hb d_Sw_time_14 (by decide) ?_
    exact hp_lret hx hb hr hlocks hQ hK hH hS (Nat.le_of_ble_eq_true rfl) (Nat.le_of_ble_eq_true rfl) d_Sw_time_21 ⟨rfl, an_time_n hl2⟩
  · rw [eM] at hH
    rw [eR]
    refine lv_astore_n (lv' := [(3, .ref q), (0, .ref a), (1, .int x), (2, .int k)]) hx hb d_Sw_time_6 rfl hl (by decide) rfl (fun ls hl => ?_)
    refine lv_aload_n hx hb d_Sw_time_7 rfl (lv_at hl 0 rfl) ?_
    refine lv_ifnonnull (tgt := 17) hx hb d_Sw_time_8 (by decide) ?_
    refine lv_aload_n hx hb d_Sw_time_17 rfl (lv_at hl 0 rfl) ?_
    refine hp_get hx hb hts iw_Ce hown hK hH hq rfl 6 (by decide) (hts _ kw_24) (v := .long (sg_cm d)) rfl d_Sw_time_18 ?_
    exact hp_lret hx hb hr hlocks hQ hK hH hS (Nat.le_of_ble_eq_true rfl) (Nat.le_of_ble_eq_true rfl) d_Sw_time_21 ⟨rfl, an_time_s hl2⟩
end
section
theorem kw_25 : Cond.fieldLink R_Ou 19 "EvenSwitch$Output" "lastTimes" "[J" ∈ wd_T := wd_in (List.mem_of_getElem? (i := 66) (by decide +kernel)) rfl
theorem kw_26 : Cond.methodLink R_Ou 78 y_Ar_fill_l ∈ wd_T := wd_in (List.mem_of_getElem? (i := 203) (by decide +kernel)) rfl
theorem kw_27 : Cond.initialized R_Ar ∈ wd_T := wd_in (List.mem_of_getElem? (i := 23) (by decide +kernel)) rfl
theorem kw_28 : Cond.code y_Ar_fill_l b_Ar_fill_l 5 none ∈ wd_T := wd_in (List.mem_of_getElem? (i := 205) (by decide +kernel)) rfl
theorem kw_29 : Cond.static y_Ar_fill_l ∈ wd_T := wd_in (List.mem_of_getElem? (i := 204) (by decide +kernel)) rfl
theorem kw_30 : Cond.fieldLink R_Ou 58 "EvenSwitch$Output" "head" "LEvenSwitch$Cell;" ∈ wd_T := wd_in (List.mem_of_getElem? (i := 67) (by decide +kernel)) rfl
theorem kw_31 : Cond.fieldLink R_Ou 69 "EvenSwitch$Output" "length" "I" ∈ wd_T := wd_in (List.mem_of_getElem? (i := 70) (by decide +kernel)) rfl
theorem kw_32 : Cond.fieldLink R_Ou 72 "EvenSwitch$Output" "latest" "LEvenSwitch$Cell;" ∈ wd_T := wd_in (List.mem_of_getElem? (i := 71) (by decide +kernel)) rfl
theorem kw_33 : Cond.methodLink R_Ou 75 y_Ou_forgetTimes ∈ wd_T := wd_in (List.mem_of_getElem? (i := 199) (by decide +kernel)) rfl
theorem kw_34 : Cond.initialized R_Ou ∈ wd_T := wd_in (List.mem_of_getElem? (i := 22) (by decide +kernel)) rfl
theorem kw_35 : Cond.code y_Ou_forgetTimes b_Ou_forgetTimes 1 none ∈ wd_T := wd_in (List.mem_of_getElem? (i := 202) (by decide +kernel)) rfl
theorem kw_36 : Cond.instanceMethod y_Ou_forgetTimes ∈ wd_T := wd_in (List.mem_of_getElem? (i := 201) (by decide +kernel)) rfl
theorem kw_37 : Cond.selects R_Ou y_Ou_forgetTimes y_Ou_forgetTimes ∈ wd_T := wd_in (List.mem_of_getElem? (i := 6) (by decide +kernel)) rfl
theorem kw_38 : Cond.fieldLink R_In 7 "EvenSwitch$Input" "offered" "LEvenSwitch$Cell;" ∈ wd_T := wd_in (List.mem_of_getElem? (i := 44) (by decide +kernel)) rfl
theorem kw_39 : Cond.fieldLink R_In 13 "EvenSwitch$Input" "held" "I" ∈ wd_T := wd_in (List.mem_of_getElem? (i := 46) (by decide +kernel)) rfl
theorem kw_40 : Cond.constantLong R_Ou 43 256 ∈ wd_T := wd_in (List.mem_of_getElem? (i := 179) (by decide +kernel)) rfl
theorem kw_41 : Cond.fieldLink R_Ou 45 "EvenSwitch$Cell" "group" "I" ∈ wd_T := wd_in (List.mem_of_getElem? (i := 135) (by decide +kernel)) rfl
theorem kw_42 : Cond.methodLink R_Ou 48 Lib.MathLoose.max_long.x ∈ wd_T := wd_in (List.mem_of_getElem? (i := 180) (by decide +kernel)) rfl
theorem kw_43 : Cond.static Lib.MathLoose.max_long.x ∈ wd_T := wd_in (List.mem_of_getElem? (i := 181) (by decide +kernel)) rfl
theorem kw_44 : Cond.initialized "java/lang/Math" ∈ wd_T := wd_in (List.mem_of_getElem? (i := 26) (by decide +kernel)) rfl
theorem kw_45 : Cond.code Lib.MathLoose.max_long.x Lib.MathLoose.max_long.code 4 (some .long) ∈ wd_T := wd_in (List.mem_of_getElem? (i := 182) (by decide +kernel)) rfl
theorem kw_46 : Cond.fieldLink R_Ou 15 "EvenSwitch$Output" "steps" "[I" ∈ wd_T := wd_in (List.mem_of_getElem? (i := 64) (by decide +kernel)) rfl
theorem kw_47 : Cond.fieldLink R_Ou 54 "EvenSwitch$Cell" "time" "J" ∈ wd_T := wd_in (List.mem_of_getElem? (i := 142) (by decide +kernel)) rfl
theorem kw_48 : Cond.fieldLink R_Ou 9 "EvenSwitch$Output" "kind" "I" ∈ wd_T := wd_in (List.mem_of_getElem? (i := 62) (by decide +kernel)) rfl
theorem d_Ar_fill_i_0 : decode b_Ar_fill_i 0 = .ok (.iconst 0, 1) := by decide +kernel
theorem d_Ar_fill_i_1 : decode b_Ar_fill_i 1 = .ok (.istore_n 2, 1) := by decide +kernel
theorem d_Ar_fill_i_2 : decode b_Ar_fill_i 2 = .ok (.aload_n 0, 1) := by decide +kernel
theorem d_Ar_fill_i_3 : decode b_Ar_fill_i 3 = .ok (.arraylength, 1) := by decide +kernel
theorem d_Ar_fill_i_4 : decode b_Ar_fill_i 4 = .ok (.istore_n 3, 1) := by decide +kernel
theorem d_Ar_fill_i_5 : decode b_Ar_fill_i 5 = .ok (.iload_n 2, 1) := by decide +kernel
theorem d_Ar_fill_i_6 : decode b_Ar_fill_i 6 = .ok (.iload_n 3, 1) := by decide +kernel
theorem d_Ar_fill_i_7 : decode b_Ar_fill_i 7 = .ok (.if_icmp .ge 13, 3) := by decide +kernel
theorem d_Ar_fill_i_10 : decode b_Ar_fill_i 10 = .ok (.aload_n 0, 1) := by decide +kernel
theorem d_Ar_fill_i_11 : decode b_Ar_fill_i 11 = .ok (.iload_n 2, 1) := by decide +kernel
theorem d_Ar_fill_i_12 : decode b_Ar_fill_i 12 = .ok (.iload_n 1, 1) := by decide +kernel
theorem d_Ar_fill_i_13 : decode b_Ar_fill_i 13 = .ok (.iastore, 1) := by decide +kernel
theorem d_Ar_fill_i_14 : decode b_Ar_fill_i 14 = .ok (.iinc 2 1, 3) := by decide +kernel
theorem d_Ar_fill_i_17 : decode b_Ar_fill_i 17 = .ok (.goto (-12), 3) := by decide +kernel
theorem d_Ar_fill_i_20 : decode b_Ar_fill_i 20 = .ok (.return_, 1) := by decide +kernel
theorem d_Ar_fill_l_0 : decode b_Ar_fill_l 0 = .ok (.iconst 0, 1) := by decide +kernel
theorem d_Ar_fill_l_1 : decode b_Ar_fill_l 1 = .ok (.istore_n 3, 1) := by decide +kernel
theorem d_Ar_fill_l_2 : decode b_Ar_fill_l 2 = .ok (.aload_n 0, 1) := by decide +kernel
theorem d_Ar_fill_l_3 : decode b_Ar_fill_l 3 = .ok (.arraylength, 1) := by decide +kernel
theorem d_Ar_fill_l_4 : decode b_Ar_fill_l 4 = .ok (.istore 4, 2) := by decide +kernel
theorem d_Ar_fill_l_6 : decode b_Ar_fill_l 6 = .ok (.iload_n 3, 1) := by decide +kernel
theorem d_Ar_fill_l_7 : decode b_Ar_fill_l 7 = .ok (.iload 4, 2) := by decide +kernel
theorem d_Ar_fill_l_9 : decode b_Ar_fill_l 9 = .ok (.if_icmp .ge 13, 3) := by decide +kernel
theorem d_Ar_fill_l_12 : decode b_Ar_fill_l 12 = .ok (.aload_n 0, 1) := by decide +kernel
theorem d_Ar_fill_l_13 : decode b_Ar_fill_l 13 = .ok (.iload_n 3, 1) := by decide +kernel
theorem d_Ar_fill_l_14 : decode b_Ar_fill_l 14 = .ok (.lload_n 1, 1) := by decide +kernel
theorem d_Ar_fill_l_15 : decode b_Ar_fill_l 15 = .ok (.lastore, 1) := by decide +kernel
theorem d_Ar_fill_l_16 : decode b_Ar_fill_l 16 = .ok (.iinc 3 1, 3) := by decide +kernel
theorem d_Ar_fill_l_19 : decode b_Ar_fill_l 19 = .ok (.goto (-13), 3) := by decide +kernel
theorem d_Ar_fill_l_22 : decode b_Ar_fill_l 22 = .ok (.return_, 1) := by decide +kernel
theorem d_Ou_forgetTimes_0 : decode b_Ou_forgetTimes 0 = .ok (.aload_n 0, 1) := by decide +kernel
theorem d_Ou_forgetTimes_1 : decode b_Ou_forgetTimes 1 = .ok (.getfield 19, 3) := by decide +kernel
theorem d_Ou_forgetTimes_4 : decode b_Ou_forgetTimes 4 = .ok (.lconst 0, 1) := by decide +kernel
theorem d_Ou_forgetTimes_5 : decode b_Ou_forgetTimes 5 = .ok (.invokestatic 78, 3) := by decide +kernel
theorem d_Ou_forgetTimes_8 : decode b_Ou_forgetTimes 8 = .ok (.return_, 1) := by decide +kernel
theorem d_Ou_dropCells_0 : decode b_Ou_dropCells 0 = .ok (.aload_n 0, 1) := by decide +kernel
theorem d_Ou_dropCells_1 : decode b_Ou_dropCells 1 = .ok (.aconst_null, 1) := by decide +kernel
theorem d_Ou_dropCells_2 : decode b_Ou_dropCells 2 = .ok (.putfield 58, 3) := by decide +kernel
theorem d_Ou_dropCells_5 : decode b_Ou_dropCells 5 = .ok (.aload_n 0, 1) := by decide +kernel
theorem d_Ou_dropCells_6 : decode b_Ou_dropCells 6 = .ok (.iconst 0, 1) := by decide +kernel
theorem d_Ou_dropCells_7 : decode b_Ou_dropCells 7 = .ok (.putfield 69, 3) := by decide +kernel
theorem d_Ou_dropCells_10 : decode b_Ou_dropCells 10 = .ok (.aload_n 0, 1) := by decide +kernel
theorem d_Ou_dropCells_11 : decode b_Ou_dropCells 11 = .ok (.aconst_null, 1) := by decide +kernel
theorem d_Ou_dropCells_12 : decode b_Ou_dropCells 12 = .ok (.putfield 72, 3) := by decide +kernel
theorem d_Ou_dropCells_15 : decode b_Ou_dropCells 15 = .ok (.aload_n 0, 1) := by decide +kernel
theorem d_Ou_dropCells_16 : decode b_Ou_dropCells 16 = .ok (.invokevirtual 75, 3) := by decide +kernel
theorem d_Ou_dropCells_19 : decode b_Ou_dropCells 19 = .ok (.return_, 1) := by decide +kernel
theorem d_In_dropCells_0 : decode b_In_dropCells 0 = .ok (.aload_n 0, 1) := by decide +kernel
theorem d_In_dropCells_1 : decode b_In_dropCells 1 = .ok (.aconst_null, 1) := by decide +kernel
theorem d_In_dropCells_2 : decode b_In_dropCells 2 = .ok (.putfield 7, 3) := by decide +kernel
theorem d_In_dropCells_5 : decode b_In_dropCells 5 = .ok (.aload_n 0, 1) := by decide +kernel
theorem d_In_dropCells_6 : decode b_In_dropCells 6 = .ok (.iconst 0, 1) := by decide +kernel
theorem d_In_dropCells_7 : decode b_In_dropCells 7 = .ok (.putfield 13, 3) := by decide +kernel
theorem d_In_dropCells_10 : decode b_In_dropCells 10 = .ok (.return_, 1) := by decide +kernel
theorem d_Ou_stamp_0 : decode b_Ou_stamp 0 = .ok (.ldc2_w 43, 3) := by decide +kernel
theorem d_Ou_stamp_3 : decode b_Ou_stamp 3 = .ok (.iload_n 2, 1) := by decide +kernel
theorem d_Ou_stamp_4 : decode b_Ou_stamp 4 = .ok (.i2l, 1) := by decide +kernel
theorem d_Ou_stamp_5 : decode b_Ou_stamp 5 = .ok (.lmul, 1) := by decide +kernel
theorem d_Ou_stamp_6 : decode b_Ou_stamp 6 = .ok (.aload_n 0, 1) := by decide +kernel
theorem d_Ou_stamp_7 : decode b_Ou_stamp 7 = .ok (.getfield 19, 3) := by decide +kernel
theorem d_Ou_stamp_10 : decode b_Ou_stamp 10 = .ok (.aload_n 1, 1) := by decide +kernel
theorem d_Ou_stamp_11 : decode b_Ou_stamp 11 = .ok (.getfield 45, 3) := by decide +kernel
theorem d_Ou_stamp_14 : decode b_Ou_stamp 14 = .ok (.laload, 1) := by decide +kernel
theorem d_Ou_stamp_15 : decode b_Ou_stamp 15 = .ok (.invokestatic 48, 3) := by decide +kernel
theorem d_Ou_stamp_18 : decode b_Ou_stamp 18 = .ok (.lstore_n 3, 1) := by decide +kernel
theorem d_Ou_stamp_19 : decode b_Ou_stamp 19 = .ok (.aload_n 1, 1) := by decide +kernel
theorem d_Ou_stamp_20 : decode b_Ou_stamp 20 = .ok (.lload_n 3, 1) := by decide +kernel
theorem d_Ou_stamp_21 : decode b_Ou_stamp 21 = .ok (.aload_n 0, 1) := by decide +kernel
theorem d_Ou_stamp_22 : decode b_Ou_stamp 22 = .ok (.getfield 15, 3) := by decide +kernel
theorem d_Ou_stamp_25 : decode b_Ou_stamp 25 = .ok (.aload_n 1, 1) := by decide +kernel
theorem d_Ou_stamp_26 : decode b_Ou_stamp 26 = .ok (.getfield 45, 3) := by decide +kernel
theorem d_Ou_stamp_29 : decode b_Ou_stamp 29 = .ok (.iaload, 1) := by decide +kernel
theorem d_Ou_stamp_30 : decode b_Ou_stamp 30 = .ok (.i2l, 1) := by decide +kernel
theorem d_Ou_stamp_31 : decode b_Ou_stamp 31 = .ok (.ladd, 1) := by decide +kernel
theorem d_Ou_stamp_32 : decode b_Ou_stamp 32 = .ok (.putfield 54, 3) := by decide +kernel
theorem d_Ou_stamp_35 : decode b_Ou_stamp 35 = .ok (.aload_n 0, 1) := by decide +kernel
theorem d_Ou_stamp_36 : decode b_Ou_stamp 36 = .ok (.getfield 19, 3) := by decide +kernel
theorem d_Ou_stamp_39 : decode b_Ou_stamp 39 = .ok (.aload_n 1, 1) := by decide +kernel
theorem d_Ou_stamp_40 : decode b_Ou_stamp 40 = .ok (.getfield 45, 3) := by decide +kernel
theorem d_Ou_stamp_43 : decode b_Ou_stamp 43 = .ok (.aload_n 1, 1) := by decide +kernel
theorem d_Ou_stamp_44 : decode b_Ou_stamp 44 = .ok (.getfield 54, 3) := by decide +kernel
theorem d_Ou_stamp_47 : decode b_Ou_stamp 47 = .ok (.lastore, 1) := by decide +kernel
theorem d_Ou_stamp_48 : decode b_Ou_stamp 48 = .ok (.return_, 1) := by decide +kernel
theorem d_Ou_isBefore_0 : decode b_Ou_isBefore 0 = .ok (.aload_n 0, 1) := by decide +kernel
theorem d_Ou_isBefore_1 : decode b_Ou_isBefore 1 = .ok (.getfield 9, 3) := by decide +kernel
theorem d_Ou_isBefore_4 : decode b_Ou_isBefore 4 = .ok (.lookupswitch 63 #[(1, 28), (2, 45)], 28) := by decide +kernel
theorem d_Ou_isBefore_32 : decode b_Ou_isBefore 32 = .ok (.aload_n 1, 1) := by decide +kernel
theorem d_Ou_isBefore_33 : decode b_Ou_isBefore 33 = .ok (.getfield 45, 3) := by decide +kernel
theorem d_Ou_isBefore_36 : decode b_Ou_isBefore 36 = .ok (.aload_n 2, 1) := by decide +kernel
theorem d_Ou_isBefore_37 : decode b_Ou_isBefore 37 = .ok (.getfield 45, 3) := by decide +kernel
theorem d_Ou_isBefore_40 : decode b_Ou_isBefore 40 = .ok (.if_icmp .ge 7, 3) := by decide +kernel
theorem d_Ou_isBefore_43 : decode b_Ou_isBefore 43 = .ok (.iconst 1, 1) := by decide +kernel
theorem d_Ou_isBefore_44 : decode b_Ou_isBefore 44 = .ok (.goto 4, 3) := by decide +kernel
theorem d_Ou_isBefore_47 : decode b_Ou_isBefore 47 = .ok (.iconst 0, 1) := by decide +kernel
theorem d_Ou_isBefore_48 : decode b_Ou_isBefore 48 = .ok (.ireturn, 1) := by decide +kernel
theorem d_Ou_isBefore_49 : decode b_Ou_isBefore 49 = .ok (.aload_n 1, 1) := by decide +kernel
theorem d_Ou_isBefore_50 : decode b_Ou_isBefore 50 = .ok (.getfield 54, 3) := by decide +kernel
theorem d_Ou_isBefore_53 : decode b_Ou_isBefore 53 = .ok (.aload_n 2, 1) := by decide +kernel
theorem d_Ou_isBefore_54 : decode b_Ou_isBefore 54 = .ok (.getfield 54, 3) := by decide +kernel
theorem d_Ou_isBefore_57 : decode b_Ou_isBefore 57 = .ok (.lcmp, 1) := by decide +kernel
theorem d_Ou_isBefore_58 : decode b_Ou_isBefore 58 = .ok (.ifCond .ge 7, 3) := by decide +kernel
theorem d_Ou_isBefore_61 : decode b_Ou_isBefore 61 = .ok (.iconst 1, 1) := by decide +kernel
theorem d_Ou_isBefore_62 : decode b_Ou_isBefore 62 = .ok (.goto 4, 3) := by decide +kernel
theorem d_Ou_isBefore_65 : decode b_Ou_isBefore 65 = .ok (.iconst 0, 1) := by decide +kernel
theorem d_Ou_isBefore_66 : decode b_Ou_isBefore 66 = .ok (.ireturn, 1) := by decide +kernel
theorem d_Ou_isBefore_67 : decode b_Ou_isBefore 67 = .ok (.iconst 0, 1) := by decide +kernel
theorem d_Ou_isBefore_68 : decode b_Ou_isBefore 68 = .ok (.ireturn, 1) := by decide +kernel
abbrev rm_Ar_fill_i : Room := { frames := 0, cells := 0, slots := 0, locals := 0 }
set_option maxHeartbeats 4000000 in
set_option maxRecDepth 100000 in
theorem cn_Ar_fill_i (l : Launch) (D : va_G) (B : Nat) (M : hp_M) (a n : Nat) (f : Nat → Int32) (v : Int32) (ha : M a = some (hp_ai D n f)) (hn0 : n < 2 ^ 31) : Met l y_Ar_fill_i (wd_c y_Ar_fill_i b_Ar_fill_i 4 (none)) rm_Ar_fill_i (va_Pc [.ref a, .int v] (hp_C D B M)) (va_Qv (fun  (M1 : hp_M) => ∃ g : Nat → Int32, (∀ j, j < n → g j = v) ∧ M1 = va_up M a (some (hp_ai D n g))) (hp_C D B) (hp_ub B)) 0 0 (hp_ub B) := by
  refine hp_met (by decide) (Nat.le_of_ble_eq_true rfl) ?_
  intro p e s m args below meth cd ls Q hQ hx hb hr hts hown hlocks hnm hml hK hH hS hB hl
  replace hl : lv_has ls 4 [(0, .ref a), (1, .int v)] := hl
  refine lv_iconst (v := 0) hx hb d_Ar_fill_i_0 (by decide) ?_
  refine lv_istore_n (lv' := [(2, .int 0), (0, .ref a), (1, .int v)]) hx hb d_Ar_fill_i_1 rfl hl (by decide) rfl (fun ls hl => ?_)
  refine lv_aload_n hx hb d_Ar_fill_i_2 rfl (lv_at hl 1 rfl) ?_
  refine hp_alen hx hb hK hH ha 0 rfl d_Ar_fill_i_3 ?_
  refine lv_istore_n (lv' := [(3, .int (nI n)), (2, .int 0), (0, .ref a), (1, .int v)]) hx hb d_Ar_fill_i_4 rfl hl (by decide) rfl (fun ls hl => ?_)
  have Lp : ∀ (k pp : Nat) (g : Nat → Int32) (M2 : hp_M) (H : Heap) (locs : List Loc) (ls : Array Slot), pp + k = n → (∀ j, j < pp → g j = v) → M2 = va_up M a (some (hp_ai D n g)) → hp_H D B M2 H → va_S (hp_ub B) s.heap H locs → lv_has ls 4 [(2, .int (nI pp)), (3, .int (nI n)), (0, .ref a), (1, .int v)] → W p l e rm_Ar_fill_i s m args below meth cd H locs 0 0 Q (F0 m 5 ls []) := by
    intro k
    induction k with
    | zero =>
      intro pp g M2 H locs ls hn hg eM hH hS hl
      have fa : M2 a = some (hp_ai D n g) := by rw [eM]; exact va_up_self _ _ _
      refine lv_iload_n hx hb d_Ar_fill_i_5 rfl (lv_at hl 0 rfl) ?_
      refine lv_iload_n hx hb d_Ar_fill_i_6 rfl (lv_at hl 1 rfl) ?_
      refine lv_icmp_ge (tgt := 20) hx hb d_Ar_fill_i_7 (by decide) (fun c_1 => ?_) (fun c_1 => absurd (nI_le (by omega) (by omega)) c_1)
      exact hp_vret hx hb hr hlocks hQ hK hH hS (Nat.le_of_ble_eq_true rfl) (Nat.le_of_ble_eq_true rfl) d_Ar_fill_i_20 ⟨g, fun j hj => hg j (by omega), eM⟩
    | succ k ih =>
      intro pp g M2 H locs ls hn hg eM hH hS hl
      have fa : M2 a = some (hp_ai D n g) := by rw [eM]; exact va_up_self _ _ _
      refine lv_iload_n hx hb d_Ar_fill_i_5 rfl (lv_at hl 0 rfl) ?_
      refine lv_iload_n hx hb d_Ar_fill_i_6 rfl (lv_at hl 1 rfl) ?_
      refine lv_icmp_ge (tgt := 20) hx hb d_Ar_fill_i_7 (by decide) (fun c_2 => absurd c_2 (nI_ge (by omega) (by omega))) (fun c_2 => ?_)
      refine lv_aload_n hx hb d_Ar_fill_i_10 rfl (lv_at hl 2 rfl) ?_
      refine lv_iload_n hx hb d_Ar_fill_i_11 rfl (lv_at hl 0 rfl) ?_
      refine lv_iload_n hx hb d_Ar_fill_i_12 rfl (lv_at hl 3 rfl) ?_
      refine hp_iast hx hb hK hH hS hB fa pp rfl (by omega) hn0 d_Ar_fill_i_13 (fun M_3 H locs eM_3 hH hS => ?_)
      have f_4 : M_3 a = some (hp_ai D n (upd g pp v)) := by rw [eM_3]; exact va_up_self _ _ _
      refine lv_iinc (v := nI (pp + 1)) (lv' := [(2, .int (nI (pp + 1))), (3, .int (nI n)), (0, .ref a), (1, .int v)]) hx hb d_Ar_fill_i_14 hl (k := 0) rfl (nI_1 pp) (by decide) rfl (fun ls hl => ?_)
      refine lv_goto (tgt := 5) hx hb d_Ar_fill_i_17 (by decide) ?_
      exact ih (pp + 1) _ M_3 H locs ls (by omega) (hp_fi hg) (by rw [eM_3, eM, hp_uu]) hH hS (lv_sub hl [0, 1, 2, 3] rfl)
  exact Lp n 0 f M _ _ ls (by omega) (fun j hj => absurd hj (Nat.not_lt_zero j)) (hp_id ha) hH hS (lv_sub hl [1, 0, 2, 3] rfl)
abbrev rm_Ar_fill_l : Room := { frames := 0, cells := 0, slots := 0, locals := 0 }
set_option maxHeartbeats 4000000 in
set_option maxRecDepth 100000 in
theorem cn_Ar_fill_l (l : Launch) (D : va_G) (B : Nat) (M : hp_M) (a n : Nat) (f : Nat → Int64) (v : Int64) (ha : M a = some (hp_al D n f)) (hn0 : n < 2 ^ 31) : Met l y_Ar_fill_l (wd_c y_Ar_fill_l b_Ar_fill_l 5 (none)) rm_Ar_fill_l (va_Pc [.ref a, .long v] (hp_C D B M)) (va_Qv (fun  (M1 : hp_M) => ∃ g : Nat → Int64, (∀ j, j < n → g j = v) ∧ M1 = va_up M a (some (hp_al D n g))) (hp_C D B) (hp_ub B)) 0 0 (hp_ub B) := by
  refine hp_met (by decide) (Nat.le_of_ble_eq_true rfl) ?_
  intro p e s m args below meth cd ls Q hQ hx hb hr hts hown hlocks hnm hml hK hH hS hB hl
  replace hl : lv_has ls 5 [(0, .ref a), (1, .long v)] := hl
  refine lv_iconst (v := 0) hx hb d_Ar_fill_l_0 (by decide) ?_
  refine lv_istore_n (lv' := [(3, .int 0), (0, .ref a), (1, .long v)]) hx hb d_Ar_fill_l_1 rfl hl (by decide) rfl (fun ls hl => ?_)
  refine lv_aload_n hx hb d_Ar_fill_l_2 rfl (lv_at hl 1 rfl) ?_
  refine hp_alen hx hb hK hH ha 1 rfl d_Ar_fill_l_3 ?_
  refine lv_istore (lv' := [(4, .int (nI n)), (3, .int 0), (0, .ref a), (1, .long v)]) hx hb d_Ar_fill_l_4 hl (by decide) rfl (fun ls hl => ?_)
  have Lp : ∀ (k pp : Nat) (g : Nat → Int64) (M2 : hp_M) (H : Heap) (locs : List Loc) (ls : Array Slot), pp + k = n → (∀ j, j < pp → g j = v) → M2 = va_up M a (some (hp_al D n g)) → hp_H D B M2 H → va_S (hp_ub B) s.heap H locs → lv_has ls 5 [(3, .int (nI pp)), (4, .int (nI n)), (0, .ref a), (1, .long v)] → W p l e rm_Ar_fill_l s m args below meth cd H locs 0 0 Q (F0 m 6 ls []) := by
    intro k
    induction k with
    | zero =>
      intro pp g M2 H locs ls hn hg eM hH hS hl
      have fa : M2 a = some (hp_al D n g) := by rw [eM]; exact va_up_self _ _ _
      refine lv_iload_n hx hb d_Ar_fill_l_6 rfl (lv_at hl 0 rfl) ?_
      refine lv_iload hx hb d_Ar_fill_l_7 (lv_at hl 1 rfl) ?_
      refine lv_icmp_ge (tgt := 22) hx hb d_Ar_fill_l_9 (by decide) (fun c_1 => ?_) (fun c_1 => absurd (nI_le (by omega) (by omega)) c_1)
      exact hp_vret hx hb hr hlocks hQ hK hH hS (Nat.le_of_ble_eq_true rfl) (Nat.le_of_ble_eq_true rfl) d_Ar_fill_l_22 ⟨g, fun j hj => hg j (by omega), eM⟩
    | succ k ih =>
      intro pp g M2 H locs ls hn hg eM hH hS hl
      have fa : M2 a = some (hp_al D n g) := by rw [eM]; exact va_up_self _ _ _
      refine lv_iload_n hx hb d_Ar_fill_l_6 rfl (lv_at hl 0 rfl) ?_
      refine lv_iload hx hb d_Ar_fill_l_7 (lv_at hl 1 rfl) ?_
      refine lv_icmp_ge (tgt := 22) hx hb d_Ar_fill_l_9 (by decide) (fun c_2 => absurd c_2 (nI_ge (by omega) (by omega))) (fun c_2 => ?_)
      refine lv_aload_n hx hb d_Ar_fill_l_12 rfl (lv_at hl 2 rfl) ?_
      refine lv_iload_n hx hb d_Ar_fill_l_13 rfl (lv_at hl 0 rfl) ?_
      refine lv_lload_n hx hb d_Ar_fill_l_14 rfl (lv_at hl 3 rfl) ?_
      refine hp_last hx hb hK hH hS hB fa pp rfl (by omega) hn0 d_Ar_fill_l_15 (fun M_3 H locs eM_3 hH hS => ?_)
      have f_4 : M_3 a = some (hp_al D n (vp_updL g pp v)) := by rw [eM_3]; exact va_up_self _ _ _
      refine lv_iinc (v := nI (pp + 1)) (lv' := [(3, .int (nI (pp + 1))), (4, .int (nI n)), (0, .ref a), (1, .long v)]) hx hb d_Ar_fill_l_16 hl (k := 0) rfl (nI_1 pp) (by decide) rfl (fun ls hl => ?_)
      refine lv_goto (tgt := 6) hx hb d_Ar_fill_l_19 (by decide) ?_
      exact ih (pp + 1) _ M_3 H locs ls (by omega) (hp_fl hg) (by rw [eM_3, eM, hp_uu]) hH hS (lv_sub hl [0, 1, 2, 3] rfl)
  exact Lp n 0 f M _ _ ls (by omega) (fun j hj => absurd hj (Nat.not_lt_zero j)) (hp_id ha) hH hS (lv_sub hl [1, 0, 2, 3] rfl)
abbrev rm_Ou_forgetTimes : Room := { frames := 1, cells := 0, slots := 0, locals := 24 }
set_option maxHeartbeats 4000000 in
set_option maxRecDepth 100000 in
theorem cn_Ou_forgetTimes (l : Launch) (D : va_G) (B : Nat) (M : hp_M) (po : Nat) (kd : Int32) (ps pl : Nat) (hd : Option Nat) (n : Int32) (la : Option Nat) (fl : Nat → Int64) (h1 : M po = some (sw_o kd ps pl hd n la)) (h2 : M pl = some (hp_al D 8 fl)) : Met l y_Ou_forgetTimes (wd_c y_Ou_forgetTimes b_Ou_forgetTimes 1 (none)) rm_Ou_forgetTimes (va_Pc [.ref po] (hp_C D B M)) (va_Qv (fun  (M1 : hp_M) => ∃ g : Nat → Int64, (∀ j, j < 8 → g j = 0) ∧ M1 = va_up M pl (some (hp_al D 8 g))) (hp_C D B) (hp_ub B)) 0 0 (hp_ub B) := by
  refine hp_met (by decide) (Nat.le_of_ble_eq_true rfl) ?_
  intro p e s m args below meth cd ls Q hQ hx hb hr hts hown hlocks hnm hml hK hH hS hB hl
  replace hl : lv_has ls 1 [(0, .ref po)] := hl
  refine lv_aload_n hx hb d_Ou_forgetTimes_0 rfl (lv_at hl 0 rfl) ?_
  refine hp_get hx hb hts iw_Ou hown hK hH h1 rfl 2 (by decide) (hts _ kw_25) (v := .ref pl) rfl d_Ou_forgetTimes_1 ?_
  refine lv_lconst (v := 0) hx hb d_Ou_forgetTimes_4 (by decide) ?_
  refine hp_callv (hp_runS (As := [.ref pl, .long 0]) (rest := []) hx hb hml hown (cn_Ar_fill_l l D B M pl 8 fl 0 h2 (by decide)) (hp_cwS 2 hts kw_26 kw_29 kw_27 kw_28 rfl rfl (by decide +kernel) ⟨(Nat.le_of_ble_eq_true rfl), (Nat.le_of_ble_eq_true rfl)⟩) hK hH rfl hl.1 rfl (Nat.le_of_ble_eq_true rfl) d_Ou_forgetTimes_5 ⟨(Nat.le_of_ble_eq_true rfl), (Nat.le_of_ble_eq_true rfl)⟩) hS (fun M_2 H locs w_3 hH hS => ?_)
  obtain ⟨g, hg, eM⟩ := w_3
  exact hp_vret hx hb hr hlocks hQ hK hH hS (Nat.le_of_ble_eq_true rfl) (Nat.le_of_ble_eq_true rfl) d_Ou_forgetTimes_8 ⟨g, hg, eM⟩
abbrev rm_Ou_dropCells : Room := { frames := 2, cells := 0, slots := 0, locals := 44 }
set_option maxHeartbeats 4000000 in
set_option maxRecDepth 100000 in
theorem cn_Ou_dropCells (l : Launch) (D : va_G) (B : Nat) (M : hp_M) (po : Nat) (kd : Int32) (ps pl : Nat) (hd : Option Nat) (n : Int32) (la : Option Nat) (fl : Nat → Int64) (h1 : M po = some (sw_o kd ps pl hd n la)) (h2 : M pl = some (hp_al D 8 fl)) : Met l y_Ou_dropCells (wd_c y_Ou_dropCells b_Ou_dropCells 1 (none)) rm_Ou_dropCells (va_Pc [.ref po] (hp_C D B M)) (va_Qv (fun  (M1 : hp_M) => ∃ g : Nat → Int64, (∀ j, j < 8 → g j = 0) ∧ M1 = va_up (va_up M po (some (sw_o kd ps pl none 0 none))) pl (some (hp_al D 8 g))) (hp_C D B) (hp_ub B)) 0 0 (hp_ub B) := by
  refine hp_met (by decide) (Nat.le_of_ble_eq_true rfl) ?_
  intro p e s m args below meth cd ls Q hQ hx hb hr hts hown hlocks hnm hml hK hH hS hB hl
  replace hl : lv_has ls 1 [(0, .ref po)] := hl
  refine lv_aload_n hx hb d_Ou_dropCells_0 rfl (lv_at hl 0 rfl) ?_
  refine lv_null hx hb d_Ou_dropCells_1 ?_
  refine hp_put hx hb hts iw_Ou t_Ou t_Ou_ok n_Ou hown hK hH hS hB h1 rfl 3 (by decide) (hts _ kw_30) rfl  (v := .null) rfl rfl (Nat.le_of_ble_eq_true rfl) (fs' := [.int kd, .ref ps, .ref pl, .null, .int n, va_rf la]) rfl d_Ou_dropCells_2 (fun M_1 H locs eM_1 hH hS => ?_)
  have f_2 : M_1 po = some (.inr (ix_ou, [.int kd, .ref ps, .ref pl, .null, .int n, va_rf la])) := by rw [eM_1]; exact va_up_self _ _ _
  have f_3 : M_1 pl = some (hp_al D 8 fl) := by rw [eM_1, va_up_ne _ _ (hp_ne 101 ix_ou h2 h1 rfl rfl (by decide))]; exact h2
  refine lv_aload_n hx hb d_Ou_dropCells_5 rfl (lv_at hl 0 rfl) ?_
  refine lv_iconst (v := 0) hx hb d_Ou_dropCells_6 (by decide) ?_
  refine hp_put hx hb hts iw_Ou t_Ou t_Ou_ok n_Ou hown hK hH hS hB f_2 rfl 4 (by decide) (hts _ kw_31) rfl  (v := .int 0) rfl rfl (Nat.le_of_ble_eq_true rfl) (fs' := [.int kd, .ref ps, .ref pl, .null, .int 0, va_rf la]) rfl d_Ou_dropCells_7 (fun M_4 H locs eM_4 hH hS => ?_)
  have f_5 : M_4 po = some (.inr (ix_ou, [.int kd, .ref ps, .ref pl, .null, .int 0, va_rf la])) := by rw [eM_4]; exact va_up_self _ _ _
  have f_6 : M_4 pl = some (hp_al D 8 fl) := by rw [eM_4, va_up_ne _ _ (hp_ne 101 ix_ou f_3 f_2 rfl rfl (by decide))]; exact f_3
  refine lv_aload_n hx hb d_Ou_dropCells_10 rfl (lv_at hl 0 rfl) ?_
  refine lv_null hx hb d_Ou_dropCells_11 ?_
  refine hp_put hx hb hts iw_Ou t_Ou t_Ou_ok n_Ou hown hK hH hS hB f_5 rfl 5 (by decide) (hts _ kw_32) rfl  (v := .null) rfl rfl (Nat.le_of_ble_eq_true rfl) (fs' := [.int kd, .ref ps, .ref pl, .null, .int 0, .null]) rfl d_Ou_dropCells_12 (fun M_7 H locs eM_7 hH hS => ?_)
  have f_8 : M_7 po = some (.inr (ix_ou, [.int kd, .ref ps, .ref pl, .null, .int 0, .null])) := by rw [eM_7]; exact va_up_self _ _ _
  have f_9 : M_7 pl = some (hp_al D 8 fl) := by rw [eM_7, va_up_ne _ _ (hp_ne 101 ix_ou f_6 f_5 rfl rfl (by decide))]; exact f_6
  refine lv_aload_n hx hb d_Ou_dropCells_15 rfl (lv_at hl 0 rfl) ?_
  refine hp_callv (hp_runV (b := po) (As := []) (rest := []) hx hb hml hown (cn_Ou_forgetTimes l D B M_7 po kd ps pl none 0 none fl f_8 f_9) (hp_cwV 0 hts kw_33 kw_36 kw_37 kw_34 kw_35 rfl rfl (by decide +kernel) ⟨(Nat.le_of_ble_eq_true rfl), (Nat.le_of_ble_eq_true rfl)⟩) hK hH f_8 rfl rfl hl.1 rfl (Nat.le_of_ble_eq_true rfl) d_Ou_dropCells_16 ⟨(Nat.le_of_ble_eq_true rfl), (Nat.le_of_ble_eq_true rfl)⟩) hS (fun M_11 H locs w_12 hH hS => ?_)
  obtain ⟨g, hg, eM⟩ := w_12
  exact hp_vret hx hb hr hlocks hQ hK hH hS (Nat.le_of_ble_eq_true rfl) (Nat.le_of_ble_eq_true rfl) d_Ou_dropCells_19 ⟨g, hg, by rw [eM, eM_7, eM_4, eM_1, hp_uu, hp_uu]; first | done | rfl⟩
abbrev rm_In_dropCells : Room := { frames := 0, cells := 0, slots := 0, locals := 0 }
set_option maxHeartbeats 4000000 in
set_option maxRecDepth 100000 in
theorem cn_In_dropCells (l : Launch) (D : va_G) (B : Nat) (M : hp_M) (pi : Nat) (oa : Option Nat) (n : Int32) (h1 : M pi = some (sw_i oa n)) : Met l y_In_dropCells (wd_c y_In_dropCells b_In_dropCells 1 (none)) rm_In_dropCells (va_Pc [.ref pi] (hp_C D B M)) (va_Qv (fun  (M1 : hp_M) => M1 = va_up M pi (some (sw_i none 0))) (hp_C D B) (hp_ub B)) 0 0 (hp_ub B) := by
  refine hp_met (by decide) (Nat.le_of_ble_eq_true rfl) ?_
  intro p e s m args below meth cd ls Q hQ hx hb hr hts hown hlocks hnm hml hK hH hS hB hl
  replace hl : lv_has ls 1 [(0, .ref pi)] := hl
  refine lv_aload_n hx hb d_In_dropCells_0 rfl (lv_at hl 0 rfl) ?_
  refine lv_null hx hb d_In_dropCells_1 ?_
  refine hp_put hx hb hts iw_In t_In t_In_ok n_In hown hK hH hS hB h1 rfl 0 (by decide) (hts _ kw_38) rfl  (v := .null) rfl rfl (Nat.le_of_ble_eq_true rfl) (fs' := [.null, .int n]) rfl d_In_dropCells_2 (fun M_1 H locs eM_1 hH hS => ?_)
  have f_2 : M_1 pi = some (.inr (ix_in, [.null, .int n])) := by rw [eM_1]; exact va_up_self _ _ _
  refine lv_aload_n hx hb d_In_dropCells_5 rfl (lv_at hl 0 rfl) ?_
  refine lv_iconst (v := 0) hx hb d_In_dropCells_6 (by decide) ?_
  refine hp_put hx hb hts iw_In t_In t_In_ok n_In hown hK hH hS hB f_2 rfl 1 (by decide) (hts _ kw_39) rfl  (v := .int 0) rfl rfl (Nat.le_of_ble_eq_true rfl) (fs' := [.null, .int 0]) rfl d_In_dropCells_7 (fun M_3 H locs eM_3 hH hS => ?_)
  have f_4 : M_3 pi = some (.inr (ix_in, [.null, .int 0])) := by rw [eM_3]; exact va_up_self _ _ _
  exact hp_vret hx hb hr hlocks hQ hK hH hS (Nat.le_of_ble_eq_true rfl) (Nat.le_of_ble_eq_true rfl) d_In_dropCells_10 (by rw [eM_3, eM_1, hp_uu]; first | done | rfl)
abbrev rm_Ou_stamp : Room := { frames := 1, cells := 0, slots := 0, locals := 23 }
set_option maxHeartbeats 4000000 in
set_option maxRecDepth 100000 in
theorem cn_Ou_stamp (l : Launch) (D : va_G) (B : Nat) (M : hp_M) (po : Nat) (kd : Int32) (ps pl : Nat) (hd : Option Nat) (n : Int32) (la : Option Nat) (q : Nat) (c : sg_Ce) (nx : Option Nat) (sl : Int32) (fl : Nat → Int64) (fs : Nat → Int32) (h1 : M po = some (sw_o kd ps pl hd n la)) (h2 : M pl = some (hp_al D 8 fl)) (h3 : M ps = some (hp_ai D 8 fs)) (h4 : M q = some (sw_c c nx)) (hc : sg_cg c < 8) : Met l y_Ou_stamp (wd_c y_Ou_stamp b_Ou_stamp 5 (none)) rm_Ou_stamp (va_Pc [.ref po, .ref q, .int sl] (hp_C D B M)) (va_Qv (fun  (M1 : hp_M) => M1 = va_up (va_up M q (some (sw_c (sg_ci c, sg_co c, sg_cg c, sg_ct c, sg_cs c, sg_cc c, ((if fl (sg_cg c) < 256 * sl.toInt64 then 256 * sl.toInt64 else fl (sg_cg c)) + (fs (sg_cg c)).toInt64)) nx))) pl (some (hp_al D 8 (vp_updL fl (sg_cg c) ((if fl (sg_cg c) < 256 * sl.toInt64 then 256 * sl.toInt64 else fl (sg_cg c)) + (fs (sg_cg c)).toInt64))))) (hp_C D B) (hp_ub B)) 0 0 (hp_ub B) := by
  refine hp_met (by decide) (Nat.le_of_ble_eq_true rfl) ?_
  intro p e s m args below meth cd ls Q hQ hx hb hr hts hown hlocks hnm hml hK hH hS hB hl
  replace hl : lv_has ls 5 [(0, .ref po), (1, .ref q), (2, .int sl)] := hl
  refine lv_ldc2 (v := 256) hx hb hown (hts _ kw_40) d_Ou_stamp_0 ?_
  refine lv_iload_n hx hb d_Ou_stamp_3 rfl (lv_at hl 2 rfl) ?_
  refine lv_i2l hx hb d_Ou_stamp_4 rfl ?_
  refine lv_lmul hx hb d_Ou_stamp_5 ?_
  refine lv_aload_n hx hb d_Ou_stamp_6 rfl (lv_at hl 0 rfl) ?_
  refine hp_get hx hb hts iw_Ou hown hK hH h1 rfl 2 (by decide) (hts _ kw_25) (v := .ref pl) rfl d_Ou_stamp_7 ?_
  refine lv_aload_n hx hb d_Ou_stamp_10 rfl (lv_at hl 1 rfl) ?_
  refine hp_get hx hb hts iw_Ce hown hK hH h4 rfl 2 (by decide) (hts _ kw_41) (v := .int (nI (sg_cg c))) rfl d_Ou_stamp_11 ?_
  refine hp_lald hx hb hK hH h2 (sg_cg c) rfl hc (by decide) (v := (fl (sg_cg c))) rfl d_Ou_stamp_14 ?_
  refine va_mmax_long hx hb (hml.trans hl.1.symm) hown (hts _ kw_42) (hts _ kw_43) (hts _ kw_44) (hts _ kw_45) (Nat.le_of_ble_eq_true rfl) (Nat.le_of_ble_eq_true rfl) (Nat.le_of_ble_eq_true rfl) (Nat.le_of_ble_eq_true rfl) d_Ou_stamp_15 ?_
  refine lv_lstore_n (lv' := [(3, .long (if (fl (sg_cg c)) < 256 * sl.toInt64 then 256 * sl.toInt64 else (fl (sg_cg c)))), (0, .ref po), (1, .ref q), (2, .int sl)]) hx hb d_Ou_stamp_18 rfl hl (by decide) rfl (fun ls hl => ?_)
  refine lv_aload_n hx hb d_Ou_stamp_19 rfl (lv_at hl 2 rfl) ?_
  refine lv_lload_n hx hb d_Ou_stamp_20 rfl (lv_at hl 0 rfl) ?_
  refine lv_aload_n hx hb d_Ou_stamp_21 rfl (lv_at hl 1 rfl) ?_
  refine hp_get hx hb hts iw_Ou hown hK hH h1 rfl 1 (by decide) (hts _ kw_46) (v := .ref ps) rfl d_Ou_stamp_22 ?_
  refine lv_aload_n hx hb d_Ou_stamp_25 rfl (lv_at hl 2 rfl) ?_
  refine hp_get hx hb hts iw_Ce hown hK hH h4 rfl 2 (by decide) (hts _ kw_41) (v := .int (nI (sg_cg c))) rfl d_Ou_stamp_26 ?_
  refine hp_iald hx hb hK hH h3 (sg_cg c) rfl hc (by decide) (v := (fs (sg_cg c))) rfl d_Ou_stamp_29 ?_
  refine lv_i2l hx hb d_Ou_stamp_30 rfl ?_
  refine lv_ladd hx hb d_Ou_stamp_31 ?_
  refine hp_put hx hb hts iw_Ce t_Ce t_Ce_ok n_Ce hown hK hH hS hB h4 rfl 6 (by decide) (hts _ kw_47) rfl  (v := .long ((if (fl (sg_cg c)) < 256 * sl.toInt64 then 256 * sl.toInt64 else (fl (sg_cg c))) + ((fs (sg_cg c)).toInt64))) rfl rfl (Nat.le_of_ble_eq_true rfl) (fs' := [.int (nI (sg_ci c)), .int (nI (sg_co c)), .int (nI (sg_cg c)), .int (sg_ct c), .long (lN (sg_cs c)), .int (sg_cc c), .long ((if (fl (sg_cg c)) < 256 * sl.toInt64 then 256 * sl.toInt64 else (fl (sg_cg c))) + ((fs (sg_cg c)).toInt64)), va_rf nx]) rfl d_Ou_stamp_32 (fun M_1 H locs eM_1 hH hS => ?_)
  have f_2 : M_1 q = some (.inr (ix_ce, [.int (nI (sg_ci c)), .int (nI (sg_co c)), .int (nI (sg_cg c)), .int (sg_ct c), .long (lN (sg_cs c)), .int (sg_cc c), .long ((if (fl (sg_cg c)) < 256 * sl.toInt64 then 256 * sl.toInt64 else (fl (sg_cg c))) + ((fs (sg_cg c)).toInt64)), va_rf nx])) := by rw [eM_1]; exact va_up_self _ _ _
  have f_3 : M_1 po = some (.inr (ix_ou, [.int kd, .ref ps, .ref pl, va_rf hd, .int n, va_rf la])) := by rw [eM_1, va_up_ne _ _ (hp_ne ix_ou ix_ce h1 h4 rfl rfl (by decide))]; exact h1
  have f_4 : M_1 pl = some (hp_al D 8 fl) := by rw [eM_1, va_up_ne _ _ (hp_ne 101 ix_ce h2 h4 rfl rfl (by decide))]; exact h2
  have f_5 : M_1 ps = some (hp_ai D 8 fs) := by rw [eM_1, va_up_ne _ _ (hp_ne 100 ix_ce h3 h4 rfl rfl (by decide))]; exact h3
  refine lv_aload_n hx hb d_Ou_stamp_35 rfl (lv_at hl 1 rfl) ?_
  refine hp_get hx hb hts iw_Ou hown hK hH f_3 rfl 2 (by decide) (hts _ kw_25) (v := .ref pl) rfl d_Ou_stamp_36 ?_
  refine lv_aload_n hx hb d_Ou_stamp_39 rfl (lv_at hl 2 rfl) ?_
  refine hp_get hx hb hts iw_Ce hown hK hH f_2 rfl 2 (by decide) (hts _ kw_41) (v := .int (nI (sg_cg c))) rfl d_Ou_stamp_40 ?_
  refine lv_aload_n hx hb d_Ou_stamp_43 rfl (lv_at hl 2 rfl) ?_
  refine hp_get hx hb hts iw_Ce hown hK hH f_2 rfl 6 (by decide) (hts _ kw_47) (v := .long ((if (fl (sg_cg c)) < 256 * sl.toInt64 then 256 * sl.toInt64 else (fl (sg_cg c))) + ((fs (sg_cg c)).toInt64))) rfl d_Ou_stamp_44 ?_
  refine hp_last hx hb hK hH hS hB f_4 (sg_cg c) rfl hc (by decide) d_Ou_stamp_47 (fun M_6 H locs eM_6 hH hS => ?_)
  have f_7 : M_6 pl = some (hp_al D 8 (vp_updL fl (sg_cg c) ((if (fl (sg_cg c)) < 256 * sl.toInt64 then 256 * sl.toInt64 else (fl (sg_cg c))) + ((fs (sg_cg c)).toInt64)))) := by rw [eM_6]; exact va_up_self _ _ _
  have f_8 : M_6 po = some (.inr (ix_ou, [.int kd, .ref ps, .ref pl, va_rf hd, .int n, va_rf la])) := by rw [eM_6, va_up_ne _ _ (hp_ne ix_ou 101 f_3 f_4 rfl rfl (by decide))]; exact f_3
  have f_9 : M_6 ps = some (hp_ai D 8 fs) := by rw [eM_6, va_up_ne _ _ (hp_ne 100 101 f_5 f_4 rfl rfl (by decide))]; exact f_5
  have f_10 : M_6 q = some (.inr (ix_ce, [.int (nI (sg_ci c)), .int (nI (sg_co c)), .int (nI (sg_cg c)), .int (sg_ct c), .long (lN (sg_cs c)), .int (sg_cc c), .long ((if (fl (sg_cg c)) < 256 * sl.toInt64 then 256 * sl.toInt64 else (fl (sg_cg c))) + ((fs (sg_cg c)).toInt64)), va_rf nx])) := by rw [eM_6, va_up_ne _ _ (hp_ne ix_ce 101 f_2 f_4 rfl rfl (by decide))]; exact f_2
  exact hp_vret hx hb hr hlocks hQ hK hH hS (Nat.le_of_ble_eq_true rfl) (Nat.le_of_ble_eq_true rfl) d_Ou_stamp_48 (by rw [eM_6, eM_1]; first | done | rfl)
abbrev rm_Ou_isBefore : Room := { frames := 0, cells := 0, slots := 0, locals := 0 }
set_option maxHeartbeats 4000000 in
set_option maxRecDepth 100000 in
theorem cn_Ou_isBefore (l : Launch) (D : va_G) (B : Nat) (M : hp_M) (po : Nat) (kd : Int32) (ps pl : Nat) (hd0 : Option Nat) (n : Int32) (la : Option Nat) (q x : Nat) (c d : sg_Ce) (nq nx : Option Nat) (h1 : M po = some (sw_o kd ps pl hd0 n la)) (h2 : M q = some (sw_c c nq)) (h3 : M x = some (sw_c d nx)) (hkd : kd = 0 ∨ kd = 1 ∨ kd = 2) (hc : sg_cg c < 8) (hd : sg_cg d < 8) : Met l y_Ou_isBefore (wd_c y_Ou_isBefore b_Ou_isBefore 3 (some .boolean)) rm_Ou_isBefore (va_Pc [.ref po, .ref q, .ref x] (hp_C D B M)) (va_Qi (fun (r : Int32) (M1 : hp_M) => M1 = M ∧ r = sw_b (sg_bef kd c d)) (hp_C D B) (hp_ub B)) 0 0 (hp_ub B) := by
  rcases hkd with rfl | rfl | rfl
  · refine hp_met (by decide) (Nat.le_of_ble_eq_true rfl) ?_
    intro p e s m args below meth cd ls Q hQ hx hb hr hts hown hlocks hnm hml hK hH hS hB hl
    replace hl : lv_has ls 3 [(0, .ref po), (1, .ref q), (2, .ref x)] := hl
    refine lv_aload_n hx hb d_Ou_isBefore_0 rfl (lv_at hl 0 rfl) ?_
    refine hp_get hx hb hts iw_Ou hown hK hH h1 rfl 0 (by decide) (hts _ kw_48) (v := .int 0) rfl d_Ou_isBefore_1 ?_
    refine lv_lookup (tgt := 67) (off := 63) hx hb d_Ou_isBefore_4 (by decide) (by decide) (by decide) ?_
    refine lv_iconst (v := 0) hx hb d_Ou_isBefore_67 (by decide) ?_
    exact hp_zret hx hb hr hlocks hQ hK hH hS (Nat.le_of_ble_eq_true rfl) (Nat.le_of_ble_eq_true rfl) rfl d_Ou_isBefore_68 ⟨rfl, sw_b0⟩
  · refine hp_met (by decide) (Nat.le_of_ble_eq_true rfl) ?_
    intro p e s m args below meth cd ls Q hQ hx hb hr hts hown hlocks hnm hml hK hH hS hB hl
    replace hl : lv_has ls 3 [(0, .ref po), (1, .ref q), (2, .ref x)] := hl
    refine lv_aload_n hx hb d_Ou_isBefore_0 rfl (lv_at hl 0 rfl) ?_
    refine hp_get hx hb hts iw_Ou hown hK hH h1 rfl 0 (by decide) (hts _ kw_48) (v := .int 1) rfl d_Ou_isBefore_1 ?_
    refine lv_lookup (tgt := 32) (off := 28) hx hb d_Ou_isBefore_4 (by decide) (by decide) (by decide) ?_
    refine lv_aload_n hx hb d_Ou_isBefore_32 rfl (lv_at hl 1 rfl) ?_
    refine hp_get hx hb hts iw_Ce hown hK hH h2 rfl 2 (by decide) (hts _ kw_41) (v := .int (nI (sg_cg c))) rfl d_Ou_isBefore_33 ?_
    refine lv_aload_n hx hb d_Ou_isBefore_36 rfl (lv_at hl 2 rfl) ?_
    refine hp_get hx hb hts iw_Ce hown hK hH h3 rfl 2 (by decide) (hts _ kw_41) (v := .int (nI (sg_cg d))) rfl d_Ou_isBefore_37 ?_
    refine lv_icmp_ge (tgt := 47) hx hb d_Ou_isBefore_40 (by decide) (fun c_1 => ?_) (fun c_1 => ?_)
    · refine lv_iconst (v := 0) hx hb d_Ou_isBefore_47 (by decide) ?_
      exact hp_zret hx hb hr hlocks hQ hK hH hS (Nat.le_of_ble_eq_true rfl) (Nat.le_of_ble_eq_true rfl) rfl d_Ou_isBefore_48 ⟨rfl, sw_b1f hc hd c_1⟩
    · refine lv_iconst (v := 1) hx hb d_Ou_isBefore_43 (by decide) ?_
      refine lv_goto (tgt := 48) hx hb d_Ou_isBefore_44 (by decide) ?_
      exact hp_zret hx hb hr hlocks hQ hK hH hS (Nat.le_of_ble_eq_true rfl) (Nat.le_of_ble_eq_true rfl) rfl d_Ou_isBefore_48 ⟨rfl, sw_b1t hc hd c_1⟩
  · refine hp_met (by decide) (Nat.le_of_ble_eq_true rfl) ?_
    intro p e s m args below meth cd ls Q hQ hx hb hr hts hown hlocks hnm hml hK hH hS hB hl
    replace hl : lv_has ls 3 [(0, .ref po), (1, .ref q), (2, .ref x)] := hl
    refine lv_aload_n hx hb d_Ou_isBefore_0 rfl (lv_at hl 0 rfl) ?_
    refine hp_get hx hb hts iw_Ou hown hK hH h1 rfl 0 (by decide) (hts _ kw_48) (v := .int 2) rfl d_Ou_isBefore_1 ?_
    refine lv_lookup (tgt := 49) (off := 45) hx hb d_Ou_isBefore_4 (by decide) (by decide) (by decide) ?_
    refine lv_aload_n hx hb d_Ou_isBefore_49 rfl (lv_at hl 1 rfl) ?_
    refine hp_get hx hb hts iw_Ce hown hK hH h2 rfl 6 (by decide) (hts _ kw_47) (v := .long (sg_cm c)) rfl d_Ou_isBefore_50 ?_
    refine lv_aload_n hx hb d_Ou_isBefore_53 rfl (lv_at hl 2 rfl) ?_
    refine hp_get hx hb hts iw_Ce hown hK hH h3 rfl 6 (by decide) (hts _ kw_47) (v := .long (sg_cm d)) rfl d_Ou_isBefore_54 ?_
    refine W.lcmp hx hb d_Ou_isBefore_57 ?_
    refine lv_if_ge (tgt := 65) hx hb d_Ou_isBefore_58 (by decide) (fun c_1 => ?_) (fun c_1 => ?_)
    · refine lv_iconst (v := 0) hx hb d_Ou_isBefore_65 (by decide) ?_
      exact hp_zret hx hb hr hlocks hQ hK hH hS (Nat.le_of_ble_eq_true rfl) (Nat.le_of_ble_eq_true rfl) rfl d_Ou_isBefore_66 ⟨rfl, sw_b2f c_1⟩
    · refine lv_iconst (v := 1) hx hb d_Ou_isBefore_61 (by decide) ?_
      refine lv_goto (tgt := 66) hx hb d_Ou_isBefore_62 (by decide) ?_
      exact hp_zret hx hb hr hlocks hQ hK hH hS (Nat.le_of_ble_eq_true rfl) (Nat.le_of_ble_eq_true rfl) rfl d_Ou_isBefore_66 ⟨rfl, sw_b2t c_1⟩
end
section
theorem kw_49 : Cond.fieldLink R_Ou 66 "EvenSwitch$Cell" "next" "LEvenSwitch$Cell;" ∈ wd_T := wd_in (List.mem_of_getElem? (i := 144) (by decide +kernel)) rfl
theorem kw_50 : Cond.methodLink R_Ou 62 y_Ou_isBefore ∈ wd_T := wd_in (List.mem_of_getElem? (i := 187) (by decide +kernel)) rfl
theorem kw_51 : Cond.code y_Ou_isBefore b_Ou_isBefore 3 (some .boolean) ∈ wd_T := wd_in (List.mem_of_getElem? (i := 190) (by decide +kernel)) rfl
theorem kw_52 : Cond.instanceMethod y_Ou_isBefore ∈ wd_T := wd_in (List.mem_of_getElem? (i := 189) (by decide +kernel)) rfl
theorem kw_53 : Cond.selects R_Ou y_Ou_isBefore y_Ou_isBefore ∈ wd_T := wd_in (List.mem_of_getElem? (i := 4) (by decide +kernel)) rfl
theorem kw_54 : Cond.fieldLink R_Ou 30 "EvenSwitch$Cell" "cameInSlot" "I" ∈ wd_T := wd_in (List.mem_of_getElem? (i := 140) (by decide +kernel)) rfl
theorem kw_55 : Cond.methodLink R_Ou 35 y_Ou_stamp ∈ wd_T := wd_in (List.mem_of_getElem? (i := 175) (by decide +kernel)) rfl
theorem kw_56 : Cond.code y_Ou_stamp b_Ou_stamp 5 none ∈ wd_T := wd_in (List.mem_of_getElem? (i := 178) (by decide +kernel)) rfl
theorem kw_57 : Cond.instanceMethod y_Ou_stamp ∈ wd_T := wd_in (List.mem_of_getElem? (i := 177) (by decide +kernel)) rfl
theorem kw_58 : Cond.selects R_Ou y_Ou_stamp y_Ou_stamp ∈ wd_T := wd_in (List.mem_of_getElem? (i := 2) (by decide +kernel)) rfl
theorem kw_59 : Cond.methodLink R_Ou 39 y_Ou_putInOrder ∈ wd_T := wd_in (List.mem_of_getElem? (i := 183) (by decide +kernel)) rfl
theorem kw_60 : Cond.code y_Ou_putInOrder b_Ou_putInOrder 4 none ∈ wd_T := wd_in (List.mem_of_getElem? (i := 186) (by decide +kernel)) rfl
theorem kw_61 : Cond.instanceMethod y_Ou_putInOrder ∈ wd_T := wd_in (List.mem_of_getElem? (i := 185) (by decide +kernel)) rfl
theorem kw_62 : Cond.selects R_Ou y_Ou_putInOrder y_Ou_putInOrder ∈ wd_T := wd_in (List.mem_of_getElem? (i := 3) (by decide +kernel)) rfl
theorem d_Ou_putInOrder_0 : decode b_Ou_putInOrder 0 = .ok (.aconst_null, 1) := by decide +kernel
theorem d_Ou_putInOrder_1 : decode b_Ou_putInOrder 1 = .ok (.astore_n 2, 1) := by decide +kernel
theorem d_Ou_putInOrder_2 : decode b_Ou_putInOrder 2 = .ok (.aload_n 0, 1) := by decide +kernel
theorem d_Ou_putInOrder_3 : decode b_Ou_putInOrder 3 = .ok (.getfield 58, 3) := by decide +kernel
theorem d_Ou_putInOrder_6 : decode b_Ou_putInOrder 6 = .ok (.astore_n 3, 1) := by decide +kernel
theorem d_Ou_putInOrder_7 : decode b_Ou_putInOrder 7 = .ok (.aload_n 3, 1) := by decide +kernel
theorem d_Ou_putInOrder_8 : decode b_Ou_putInOrder 8 = .ok (.ifnull 22, 3) := by decide +kernel
theorem d_Ou_putInOrder_11 : decode b_Ou_putInOrder 11 = .ok (.aload_n 0, 1) := by decide +kernel
theorem d_Ou_putInOrder_12 : decode b_Ou_putInOrder 12 = .ok (.aload_n 1, 1) := by decide +kernel
theorem d_Ou_putInOrder_13 : decode b_Ou_putInOrder 13 = .ok (.aload_n 3, 1) := by decide +kernel
theorem d_Ou_putInOrder_14 : decode b_Ou_putInOrder 14 = .ok (.invokevirtual 62, 3) := by decide +kernel
theorem d_Ou_putInOrder_17 : decode b_Ou_putInOrder 17 = .ok (.ifCond .ne 13, 3) := by decide +kernel
theorem d_Ou_putInOrder_20 : decode b_Ou_putInOrder 20 = .ok (.aload_n 3, 1) := by decide +kernel
theorem d_Ou_putInOrder_21 : decode b_Ou_putInOrder 21 = .ok (.astore_n 2, 1) := by decide +kernel
theorem d_Ou_putInOrder_22 : decode b_Ou_putInOrder 22 = .ok (.aload_n 3, 1) := by decide +kernel
theorem d_Ou_putInOrder_23 : decode b_Ou_putInOrder 23 = .ok (.getfield 66, 3) := by decide +kernel
theorem d_Ou_putInOrder_26 : decode b_Ou_putInOrder 26 = .ok (.astore_n 3, 1) := by decide +kernel
theorem d_Ou_putInOrder_27 : decode b_Ou_putInOrder 27 = .ok (.goto (-20), 3) := by decide +kernel
theorem d_Ou_putInOrder_30 : decode b_Ou_putInOrder 30 = .ok (.aload_n 1, 1) := by decide +kernel
theorem d_Ou_putInOrder_31 : decode b_Ou_putInOrder 31 = .ok (.aload_n 3, 1) := by decide +kernel
theorem d_Ou_putInOrder_32 : decode b_Ou_putInOrder 32 = .ok (.putfield 66, 3) := by decide +kernel
theorem d_Ou_putInOrder_35 : decode b_Ou_putInOrder 35 = .ok (.aload_n 2, 1) := by decide +kernel
theorem d_Ou_putInOrder_36 : decode b_Ou_putInOrder 36 = .ok (.ifnonnull 11, 3) := by decide +kernel
theorem d_Ou_putInOrder_39 : decode b_Ou_putInOrder 39 = .ok (.aload_n 0, 1) := by decide +kernel
theorem d_Ou_putInOrder_40 : decode b_Ou_putInOrder 40 = .ok (.aload_n 1, 1) := by decide +kernel
theorem d_Ou_putInOrder_41 : decode b_Ou_putInOrder 41 = .ok (.putfield 58, 3) := by decide +kernel
theorem d_Ou_putInOrder_44 : decode b_Ou_putInOrder 44 = .ok (.goto 8, 3) := by decide +kernel
theorem d_Ou_putInOrder_47 : decode b_Ou_putInOrder 47 = .ok (.aload_n 2, 1) := by decide +kernel
theorem d_Ou_putInOrder_48 : decode b_Ou_putInOrder 48 = .ok (.aload_n 1, 1) := by decide +kernel
theorem d_Ou_putInOrder_49 : decode b_Ou_putInOrder 49 = .ok (.putfield 66, 3) := by decide +kernel
theorem d_Ou_putInOrder_52 : decode b_Ou_putInOrder 52 = .ok (.aload_n 0, 1) := by decide +kernel
theorem d_Ou_putInOrder_53 : decode b_Ou_putInOrder 53 = .ok (.dup, 1) := by decide +kernel
theorem d_Ou_putInOrder_54 : decode b_Ou_putInOrder 54 = .ok (.getfield 69, 3) := by decide +kernel
theorem d_Ou_putInOrder_57 : decode b_Ou_putInOrder 57 = .ok (.iconst 1, 1) := by decide +kernel
theorem d_Ou_putInOrder_58 : decode b_Ou_putInOrder 58 = .ok (.iadd, 1) := by decide +kernel
theorem d_Ou_putInOrder_59 : decode b_Ou_putInOrder 59 = .ok (.putfield 69, 3) := by decide +kernel
theorem d_Ou_putInOrder_62 : decode b_Ou_putInOrder 62 = .ok (.return_, 1) := by decide +kernel
theorem d_Ou_takeIn_0 : decode b_Ou_takeIn 0 = .ok (.aload_n 1, 1) := by decide +kernel
theorem d_Ou_takeIn_1 : decode b_Ou_takeIn 1 = .ok (.iload_n 2, 1) := by decide +kernel
theorem d_Ou_takeIn_2 : decode b_Ou_takeIn 2 = .ok (.putfield 30, 3) := by decide +kernel
theorem d_Ou_takeIn_5 : decode b_Ou_takeIn 5 = .ok (.aload_n 0, 1) := by decide +kernel
theorem d_Ou_takeIn_6 : decode b_Ou_takeIn 6 = .ok (.getfield 9, 3) := by decide +kernel
theorem d_Ou_takeIn_9 : decode b_Ou_takeIn 9 = .ok (.iconst 2, 1) := by decide +kernel
theorem d_Ou_takeIn_10 : decode b_Ou_takeIn 10 = .ok (.if_icmp .ne 9, 3) := by decide +kernel
theorem d_Ou_takeIn_13 : decode b_Ou_takeIn 13 = .ok (.aload_n 0, 1) := by decide +kernel
theorem d_Ou_takeIn_14 : decode b_Ou_takeIn 14 = .ok (.aload_n 1, 1) := by decide +kernel
theorem d_Ou_takeIn_15 : decode b_Ou_takeIn 15 = .ok (.iload_n 2, 1) := by decide +kernel
theorem d_Ou_takeIn_16 : decode b_Ou_takeIn 16 = .ok (.invokevirtual 35, 3) := by decide +kernel
theorem d_Ou_takeIn_19 : decode b_Ou_takeIn 19 = .ok (.aload_n 0, 1) := by decide +kernel
theorem d_Ou_takeIn_20 : decode b_Ou_takeIn 20 = .ok (.aload_n 1, 1) := by decide +kernel
theorem d_Ou_takeIn_21 : decode b_Ou_takeIn 21 = .ok (.invokevirtual 39, 3) := by decide +kernel
theorem d_Ou_takeIn_24 : decode b_Ou_takeIn 24 = .ok (.return_, 1) := by decide +kernel
abbrev rm_Ou_putInOrder : Room := { frames := 1, cells := 0, slots := 0, locals := 22 }
set_option maxHeartbeats 4000000 in
set_option maxRecDepth 100000 in
theorem cn_Ou_putInOrder (l : Launch) (D : va_G) (B : Nat) (M : hp_M) (po : Nat) (kd : Int32) (ps pl : Nat) (n : Int32) (la : Option Nat) (L : List Nat) (cs : List sg_Ce) (q : Nat) (c : sg_Ce) (nq : Option Nat) (h1 : M po = some (sw_o kd ps pl (sw_hd L none) n la)) (hch : sw_sg M L cs none) (h2 : M q = some (sw_c c nq)) (hq : q ∉ L) (hnd : L.Nodup) (hkd : kd = 0 ∨ kd = 1 ∨ kd = 2) (hc : sg_cg c < 8) (hcs : ∀ d ∈ cs, sg_cg d < 8) : Met l y_Ou_putInOrder (wd_c y_Ou_putInOrder b_Ou_putInOrder 4 (none)) rm_Ou_putInOrder (va_Pc [.ref po, .ref q] (hp_C D B M)) (va_Qv (fun  (M1 : hp_M) => ∃ L' : List Nat, M1 po = some (sw_o kd ps pl (sw_hd L' none) (n + 1) la) ∧ sw_sg M1 L' (sg_ins kd c cs) none ∧ L'.Nodup ∧ (∀ x, x ∈ L' ↔ x = q ∨ x ∈ L) ∧ ∀ x, x ≠ po → x ≠ q → x ∉ L → M1 x = M x) (hp_C D B) (hp_ub B)) 0 0 (hp_ub B) := by
  refine hp_met (by decide) (Nat.le_of_ble_eq_true rfl) ?_
  intro p e s m args below meth cd ls Q hQ hx hb hr hts hown hlocks hnm hml hK hH hS hB hl
  replace hl : lv_has ls 4 [(0, .ref po), (1, .ref q)] := hl
  refine lv_null hx hb d_Ou_putInOrder_0 ?_
  refine lv_astore_nN (lv' := [(2, .null), (0, .ref po), (1, .ref q)]) hx hb d_Ou_putInOrder_1 rfl hl (by decide) rfl (fun ls hl => ?_)
  refine lv_aload_n hx hb d_Ou_putInOrder_2 rfl (lv_at hl 1 rfl) ?_
  refine hp_get hx hb hts iw_Ou hown hK hH h1 rfl 3 (by decide) (hts _ kw_30) (v := va_rf (sw_hd L none)) rfl d_Ou_putInOrder_3 ?_
  refine hp_astore_n (lv' := [(3, va_rf (sw_hd L none)), (2, .null), (0, .ref po), (1, .ref q)]) hx hb d_Ou_putInOrder_6 rfl hl (by decide) rfl (fun ls hl => ?_)
  have fin : ∀ (K : List Nat) (kc cs2 : List sg_Ce) (L2 : List Nat) (H : Heap) (locs : List Loc) (ls : Array Slot), hp_H D B M H → va_S (hp_ub B) s.heap H locs → L = K ++ L2 → cs = kc ++ cs2 → K.length = kc.length → sg_ins kd c cs = kc ++ c :: cs2 → lv_has ls 4 [(3, va_rf (sw_hd L2 none)), (2, va_rf (K.getLast?)), (0, .ref po), (1, .ref q)] → W p l e rm_Ou_putInOrder s m args below meth cd H locs 0 0 Q (F0 m 30 ls []) := by
    clear hl
    intro K kc cs2 L2 H locs ls hH hS eL ec hlen hins hl
    have hpo := sw_sg_ne ix_ou hch h1 rfl (by decide)
    have hpq : q ≠ po := hp_ne ix_ce ix_ou h2 h1 rfl rfl (by decide)
    rcases List.eq_nil_or_concat K with rfl | ⟨K', x, rfl⟩
    · have ek : kc = [] := List.eq_nil_of_length_eq_zero hlen.symm
      subst ek
      rw [List.nil_append] at eL ec
      subst eL
      subst ec
      replace hl : lv_has ls 4 [(3, va_rf (sw_hd L none)), (2, .null), (0, .ref po), (1, .ref q)] := hl
      refine lv_aload_n hx hb d_Ou_putInOrder_30 rfl (lv_at hl 3 rfl) ?_
      refine hp_aload_n hx hb d_Ou_putInOrder_31 rfl (lv_at hl 0 rfl) ?_
      refine hp_put hx hb hts iw_Ce t_Ce t_Ce_ok n_Ce hown hK hH hS hB h2 rfl 7 (by decide) (hts _ kw_49) rfl  (v := va_rf (sw_hd L none)) (by cases (sw_hd L none) <;> rfl) (by cases (sw_hd L none) <;> rfl) (Nat.le_of_ble_eq_true rfl) (fs' := [.int (nI (sg_ci c)), .int (nI (sg_co c)), .int (nI (sg_cg c)), .int (sg_ct c), .long (lN (sg_cs c)), .int (sg_cc c), .long (sg_cm c), va_rf (sw_hd L none)]) rfl d_Ou_putInOrder_32 (fun M_1 H locs eM_1 hH hS => ?_)
      have f_2 : M_1 q = some (.inr (ix_ce, [.int (nI (sg_ci c)), .int (nI (sg_co c)), .int (nI (sg_cg c)), .int (sg_ct c), .long (lN (sg_cs c)), .int (sg_cc c), .long (sg_cm c), va_rf (sw_hd L none)])) := by rw [eM_1]; exact va_up_self _ _ _
      have f_3 : M_1 po = some (.inr (ix_ou, [.int kd, .ref ps, .ref pl, va_rf (sw_hd L none), .int n, va_rf la])) := by rw [eM_1, va_up_ne _ _ (hp_ne ix_ou ix_ce h1 h2 rfl rfl (by decide))]; exact h1
      refine lv_aload_nN hx hb d_Ou_putInOrder_35 rfl (lv_at hl 1 rfl) ?_
      refine lv_ifnonnullN hx hb d_Ou_putInOrder_36 ?_
      refine lv_aload_n hx hb d_Ou_putInOrder_39 rfl (lv_at hl 2 rfl) ?_
      refine lv_aload_n hx hb d_Ou_putInOrder_40 rfl (lv_at hl 3 rfl) ?_
      refine hp_put hx hb hts iw_Ou t_Ou t_Ou_ok n_Ou hown hK hH hS hB f_3 rfl 3 (by decide) (hts _ kw_30) rfl  (v := .ref q) rfl rfl (Nat.le_of_ble_eq_true rfl) (fs' := [.int kd, .ref ps, .ref pl, .ref q, .int n, va_rf la]) rfl d_Ou_putInOrder_41 (fun M_4 H locs eM_4 hH hS => ?_)
      have f_5 : M_4 po = some (.inr (ix_ou, [.int kd, .ref ps, .ref pl, .ref q, .int n, va_rf la])) := by rw [eM_4]; exact va_up_self _ _ _
      have f_6 : M_4 q = some (.inr (ix_ce, [.int (nI (sg_ci c)), .int (nI (sg_co c)), .int (nI (sg_cg c)), .int (sg_ct c), .long (lN (sg_cs c)), .int (sg_cc c), .long (sg_cm c), va_rf (sw_hd L none)])) := by rw [eM_4, va_up_ne _ _ (hp_ne ix_ce ix_ou f_2 f_3 rfl rfl (by decide))]; exact f_2
      refine lv_goto (tgt := 52) hx hb d_Ou_putInOrder_44 (by decide) ?_
      refine lv_aload_n hx hb d_Ou_putInOrder_52 rfl (lv_at hl 2 rfl) ?_
      refine lv_dup hx hb d_Ou_putInOrder_53 rfl ?_
      refine hp_get hx hb hts iw_Ou hown hK hH f_5 rfl 4 (by decide) (hts _ kw_31) (v := .int n) rfl d_Ou_putInOrder_54 ?_
      refine lv_iconst (v := 1) hx hb d_Ou_putInOrder_57 (by decide) ?_
      refine lv_iadd hx hb d_Ou_putInOrder_58 ?_
      refine hp_put hx hb hts iw_Ou t_Ou t_Ou_ok n_Ou hown hK hH hS hB f_5 rfl 4 (by decide) (hts _ kw_31) rfl  (v := .int (n + 1)) rfl rfl (Nat.le_of_ble_eq_true rfl) (fs' := [.int kd, .ref ps, .ref pl, .ref q, .int (n + 1), va_rf la]) rfl d_Ou_putInOrder_59 (fun M_7 H locs eM_7 hH hS => ?_)
      have f_8 : M_7 po = some (.inr (ix_ou, [.int kd, .ref ps, .ref pl, .ref q, .int (n + 1), va_rf la])) := by rw [eM_7]; exact va_up_self _ _ _
      have f_9 : M_7 q = some (.inr (ix_ce, [.int (nI (sg_ci c)), .int (nI (sg_co c)), .int (nI (sg_cg c)), .int (sg_ct c), .long (lN (sg_cs c)), .int (sg_cc c), .long (sg_cm c), va_rf (sw_hd L none)])) := by rw [eM_7, va_up_ne _ _ (hp_ne ix_ce ix_ou f_6 f_5 rfl rfl (by decide))]; exact f_6
      exact hp_vret hx hb hr hlocks hQ hK hH hS (Nat.le_of_ble_eq_true rfl) (Nat.le_of_ble_eq_true rfl) d_Ou_putInOrder_62 ⟨q :: L, by rw [hins]; exact sw_pi0 hch hq hpo hpq hnd (by rw [eM_7, eM_4, eM_1]; first | done | rfl)⟩
    · obtain ⟨kc', d, rfl⟩ : ∃ kc' d, kc = kc' ++ [d] := by
        rcases List.eq_nil_or_concat kc with e | ⟨k', d, e⟩
        · subst e; simp at hlen
        · exact ⟨k', d, by rw [e, List.concat_eq_append]⟩
      rw [List.concat_eq_append] at eL hlen hl
      rw [List.getLast?_concat] at hl
      rw [List.append_assoc] at eL ec hins
      replace hlen : K'.length = kc'.length := by simpa using hlen
      subst eL
      subst ec
      replace hl : lv_has ls 4 [(3, va_rf (sw_hd L2 none)), (2, .ref x), (0, .ref po), (1, .ref q)] := hl
      obtain ⟨-, hxx, -⟩ := (sw_sg_app hlen).mp hch
      have hxq : x ≠ q := fun z => hq (z ▸ List.mem_append_right _ List.mem_cons_self)
      have hd_pi : sw_hd (K' ++ x :: q :: L2) none = sw_hd (K' ++ x :: L2) none := sw_hd_ins
      refine lv_aload_n hx hb d_Ou_putInOrder_30 rfl (lv_at hl 3 rfl) ?_
      refine hp_aload_n hx hb d_Ou_putInOrder_31 rfl (lv_at hl 0 rfl) ?_
      refine hp_put hx hb hts iw_Ce t_Ce t_Ce_ok n_Ce hown hK hH hS hB h2 rfl 7 (by decide) (hts _ kw_49) rfl  (v := va_rf (sw_hd L2 none)) (by cases (sw_hd L2 none) <;> rfl) (by cases (sw_hd L2 none) <;> rfl) (Nat.le_of_ble_eq_true rfl) (fs' := [.int (nI (sg_ci c)), .int (nI (sg_co c)), .int (nI (sg_cg c)), .int (sg_ct c), .long (lN (sg_cs c)), .int (sg_cc c), .long (sg_cm c), va_rf (sw_hd L2 none)]) rfl d_Ou_putInOrder_32 (fun M_10 H locs eM_10 hH hS => ?_)
      have f_11 : M_10 q = some (.inr (ix_ce, [.int (nI (sg_ci c)), .int (nI (sg_co c)), .int (nI (sg_cg c)), .int (sg_ct c), .long (lN (sg_cs c)), .int (sg_cc c), .long (sg_cm c), va_rf (sw_hd L2 none)])) := by rw [eM_10]; exact va_up_self _ _ _
      have f_12 : M_10 po = some (.inr (ix_ou, [.int kd, .ref ps, .ref pl, va_rf (sw_hd (K' ++ x :: L2) none), .int n, va_rf la])) := by rw [eM_10, va_up_ne _ _ (hp_ne ix_ou ix_ce h1 h2 rfl rfl (by decide))]; exact h1
      have f_13 : M_10 x = some (.inr (ix_ce, [.int (nI (sg_ci d)), .int (nI (sg_co d)), .int (nI (sg_cg d)), .int (sg_ct d), .long (lN (sg_cs d)), .int (sg_cc d), .long (sg_cm d), va_rf (sw_hd L2 none)])) := by rw [eM_10, va_up_ne _ _ hxq]; exact hxx
      refine lv_aload_n hx hb d_Ou_putInOrder_35 rfl (lv_at hl 1 rfl) ?_
      refine lv_ifnonnull (tgt := 47) hx hb d_Ou_putInOrder_36 (by decide) ?_
      refine lv_aload_n hx hb d_Ou_putInOrder_47 rfl (lv_at hl 1 rfl) ?_
      refine lv_aload_n hx hb d_Ou_putInOrder_48 rfl (lv_at hl 3 rfl) ?_
      refine hp_put hx hb hts iw_Ce t_Ce t_Ce_ok n_Ce hown hK hH hS hB f_13 rfl 7 (by decide) (hts _ kw_49) rfl  (v := .ref q) rfl rfl (Nat.le_of_ble_eq_true rfl) (fs' := [.int (nI (sg_ci d)), .int (nI (sg_co d)), .int (nI (sg_cg d)), .int (sg_ct d), .long (lN (sg_cs d)), .int (sg_cc d), .long (sg_cm d), .ref q]) rfl d_Ou_putInOrder_49 (fun M_14 H locs eM_14 hH hS => ?_)
      have f_15 : M_14 x = some (.inr (ix_ce, [.int (nI (sg_ci d)), .int (nI (sg_co d)), .int (nI (sg_cg d)), .int (sg_ct d), .long (lN (sg_cs d)), .int (sg_cc d), .long (sg_cm d), .ref q])) := by rw [eM_14]; exact va_up_self _ _ _
      have f_16 : M_14 po = some (.inr (ix_ou, [.int kd, .ref ps, .ref pl, va_rf (sw_hd (K' ++ x :: L2) none), .int n, va_rf la])) := by rw [eM_14, va_up_ne _ _ (hp_ne ix_ou ix_ce f_12 f_13 rfl rfl (by decide))]; exact f_12
      have f_17 : M_14 q = some (.inr (ix_ce, [.int (nI (sg_ci c)), .int (nI (sg_co c)), .int (nI (sg_cg c)), .int (sg_ct c), .long (lN (sg_cs c)), .int (sg_cc c), .long (sg_cm c), va_rf (sw_hd L2 none)])) := by rw [eM_14, va_up_ne _ _ (Ne.symm hxq)]; exact f_11
      refine lv_aload_n hx hb d_Ou_putInOrder_52 rfl (lv_at hl 2 rfl) ?_
      refine lv_dup hx hb d_Ou_putInOrder_53 rfl ?_
      refine hp_get hx hb hts iw_Ou hown hK hH f_16 rfl 4 (by decide) (hts _ kw_31) (v := .int n) rfl d_Ou_putInOrder_54 ?_
      refine lv_iconst (v := 1) hx hb d_Ou_putInOrder_57 (by decide) ?_
      refine lv_iadd hx hb d_Ou_putInOrder_58 ?_
      refine hp_put hx hb hts iw_Ou t_Ou t_Ou_ok n_Ou hown hK hH hS hB f_16 rfl 4 (by decide) (hts _ kw_31) rfl  (v := .int (n + 1)) rfl rfl (Nat.le_of_ble_eq_true rfl) (fs' := [.int kd, .ref ps, .ref pl, va_rf (sw_hd (K' ++ x :: L2) none), .int (n + 1), va_rf la]) rfl d_Ou_putInOrder_59 (fun M_18 H locs eM_18 hH hS => ?_)
      have f_19 : M_18 po = some (.inr (ix_ou, [.int kd, .ref ps, .ref pl, va_rf (sw_hd (K' ++ x :: L2) none), .int (n + 1), va_rf la])) := by rw [eM_18]; exact va_up_self _ _ _
      have f_20 : M_18 q = some (.inr (ix_ce, [.int (nI (sg_ci c)), .int (nI (sg_co c)), .int (nI (sg_cg c)), .int (sg_ct c), .long (lN (sg_cs c)), .int (sg_cc c), .long (sg_cm c), va_rf (sw_hd L2 none)])) := by rw [eM_18, va_up_ne _ _ (hp_ne ix_ce ix_ou f_17 f_16 rfl rfl (by decide))]; exact f_17
      have f_21 : M_18 x = some (.inr (ix_ce, [.int (nI (sg_ci d)), .int (nI (sg_co d)), .int (nI (sg_cg d)), .int (sg_ct d), .long (lN (sg_cs d)), .int (sg_cc d), .long (sg_cm d), .ref q])) := by rw [eM_18, va_up_ne _ _ (hp_ne ix_ce ix_ou f_15 f_16 rfl rfl (by decide))]; exact f_15
      exact hp_vret hx hb hr hlocks hQ hK hH hS (Nat.le_of_ble_eq_true rfl) (Nat.le_of_ble_eq_true rfl) d_Ou_putInOrder_62 ⟨K' ++ x :: q :: L2, by rw [hd_pi, hins]; exact sw_pi1 hch hlen hq hpo hpq hnd (by rw [eM_18, eM_14, eM_10]; first | done | rfl)⟩
  have Lp : ∀ (cs2 : List sg_Ce) (K : List Nat) (kc : List sg_Ce) (L2 : List Nat) (H : Heap) (locs : List Loc) (ls : Array Slot), hp_H D B M H → va_S (hp_ub B) s.heap H locs → L = K ++ L2 → cs = kc ++ cs2 → K.length = kc.length → (∀ d ∈ kc, sg_bef kd c d = false) → lv_has ls 4 [(3, va_rf (sw_hd L2 none)), (2, va_rf (K.getLast?)), (0, .ref po), (1, .ref q)] → W p l e rm_Ou_putInOrder s m args below meth cd H locs 0 0 Q (F0 m 7 ls []) := by
    intro cs2
    induction cs2 with
    | nil =>
      intro K kc L2 H locs ls hH hS eL ec hlen hkc hl
      have hL2 : L2 = [] := by have := sw_sg_len hch; rw [eL, ec] at this; simp [hlen] at this; exact this
      subst hL2
      replace hl : lv_has ls 4 [(3, .null), (2, va_rf (K.getLast?)), (0, .ref po), (1, .ref q)] := hl
      refine lv_aload_nN hx hb d_Ou_putInOrder_7 rfl (lv_at hl 0 rfl) ?_
      refine lv_ifnullN (tgt := 30) hx hb d_Ou_putInOrder_8 (by decide) ?_
      exact fin K kc [] [] H locs ls hH hS eL ec hlen (by rw [ec]; exact sg_ins_at hkc (fun _ _ h => by cases h)) hl
    | cons d ds ih =>
      intro K kc L2 H locs ls hH hS eL ec hlen hkc hl
      have hc2 := hch
      rw [eL, ec] at hc2
      obtain ⟨x, xs, eL2, hx2, -⟩ := sw_sg_cons ((sw_sg_app hlen).mp hc2).2
      subst eL2
      replace hl : lv_has ls 4 [(3, .ref x), (2, va_rf (K.getLast?)), (0, .ref po), (1, .ref q)] := hl
      have hdm : d ∈ cs := by rw [ec]; exact List.mem_append_right _ List.mem_cons_self
      refine lv_aload_n hx hb d_Ou_putInOrder_7 rfl (lv_at hl 0 rfl) ?_
      refine lv_ifnull hx hb d_Ou_putInOrder_8 ?_
      refine lv_aload_n hx hb d_Ou_putInOrder_11 rfl (lv_at hl 2 rfl) ?_
      refine lv_aload_n hx hb d_Ou_putInOrder_12 rfl (lv_at hl 3 rfl) ?_
      refine lv_aload_n hx hb d_Ou_putInOrder_13 rfl (lv_at hl 0 rfl) ?_
      refine hp_calli (hp_runV (b := po) (As := [.ref q, .ref x]) (rest := []) hx hb hml hown (cn_Ou_isBefore l D B M po kd ps pl (sw_hd L none) n la q x c d nq (sw_hd xs none) h1 h2 hx2 hkd hc (hcs d hdm)) (hp_cwV 2 hts kw_50 kw_52 kw_53 kw_34 kw_51 rfl rfl (by decide +kernel) ⟨(Nat.le_of_ble_eq_true rfl), (Nat.le_of_ble_eq_true rfl)⟩) hK hH h1 rfl rfl hl.1 rfl (Nat.le_of_ble_eq_true rfl) d_Ou_putInOrder_14 ⟨(Nat.le_of_ble_eq_true rfl), (Nat.le_of_ble_eq_true rfl)⟩) hS (fun r_22 M_23 H locs w_24 hH hS => ?_)
      obtain ⟨eM, eR⟩ := w_24
      rw [eM] at hH
      rw [eR]
      refine lv_if_ne (tgt := 30) hx hb d_Ou_putInOrder_17 (by decide) (fun c_25 => ?_) (fun c_25 => ?_)
      · exact fin K kc (d :: ds) (x :: xs) H locs ls hH hS eL ec hlen (by rw [ec]; exact sg_ins_at hkc (fun d' ds' h => by cases h; exact sw_bt c_25)) hl
      · refine lv_aload_n hx hb d_Ou_putInOrder_20 rfl (lv_at hl 0 rfl) ?_
        refine lv_astore_n (lv' := [(2, .ref x), (3, .ref x), (0, .ref po), (1, .ref q)]) hx hb d_Ou_putInOrder_21 rfl hl (by decide) rfl (fun ls hl => ?_)
        refine lv_aload_n hx hb d_Ou_putInOrder_22 rfl (lv_at hl 1 rfl) ?_
        refine hp_get hx hb hts iw_Ce hown hK hH hx2 rfl 7 (by decide) (hts _ kw_49) (v := va_rf (sw_hd xs none)) rfl d_Ou_putInOrder_23 ?_
        refine hp_astore_n (lv' := [(3, va_rf (sw_hd xs none)), (2, .ref x), (0, .ref po), (1, .ref q)]) hx hb d_Ou_putInOrder_26 rfl hl (by decide) rfl (fun ls hl => ?_)
        refine lv_goto (tgt := 7) hx hb d_Ou_putInOrder_27 (by decide) ?_
        exact ih (K ++ [x]) (kc ++ [d]) xs H locs ls hH hS (by rw [eL, List.append_assoc]; rfl) (by rw [ec, List.append_assoc]; rfl) (by simp [hlen]) (fun y hy => by rcases List.mem_append.mp hy with w | w; exact hkc y w; rw [List.mem_singleton.mp w]; exact sw_bf c_25) (by rw [List.getLast?_concat]; exact lv_sub hl [0, 1, 2, 3] rfl)
  exact Lp cs [] [] L _ _ ls hH hS rfl rfl rfl (fun d hd => absurd hd List.not_mem_nil) hl
abbrev rm_Ou_takeIn : Room := { frames := 2, cells := 0, slots := 0, locals := 47 }
set_option maxHeartbeats 4000000 in
set_option maxRecDepth 100000 in
theorem cn_Ou_takeIn (l : Launch) (D : va_G) (B : Nat) (M : hp_M) (po : Nat) (kd : Int32) (ps pl : Nat) (n : Int32) (la : Option Nat) (L : List Nat) (cs : List sg_Ce) (q : Nat) (c : sg_Ce) (nq : Option Nat) (sl : Int32) (fl : Nat → Int64) (fs : Nat → Int32) (h1 : M po = some (sw_o kd ps pl (sw_hd L none) n la)) (hch : sw_sg M L cs none) (h2 : M q = some (sw_c c nq)) (hq : q ∉ L) (hnd : L.Nodup) (hkd : kd = 0 ∨ kd = 1 ∨ kd = 2) (hc : sg_cg c < 8) (hcs : ∀ d ∈ cs, sg_cg d < 8) (h3 : M pl = some (hp_al D 8 fl)) (h4 : M ps = some (hp_ai D 8 fs)) : Met l y_Ou_takeIn (wd_c y_Ou_takeIn b_Ou_takeIn 3 (none)) rm_Ou_takeIn (va_Pc [.ref po, .ref q, .int sl] (hp_C D B M)) (va_Qv (fun  (M1 : hp_M) => ∃ (L' : List Nat) (g : Nat → Int64), (∀ j, j < 8 → g j = (if kd = 2 then va_up fl (sg_cg c) ((if fl (sg_cg c) < 256 * sl.toInt64 then 256 * sl.toInt64 else fl (sg_cg c)) + (fs (sg_cg c)).toInt64) j else fl j)) ∧ M1 po = some (sw_o kd ps pl (sw_hd L' none) (n + 1) la) ∧ M1 pl = some (hp_al D 8 g) ∧ sw_sg M1 L' (sg_ins kd (sg_ci c, sg_co c, sg_cg c, sg_ct c, sg_cs c, sl, (if kd = 2 then ((if fl (sg_cg c) < 256 * sl.toInt64 then 256 * sl.toInt64 else fl (sg_cg c)) + (fs (sg_cg c)).toInt64) else sg_cm c)) cs) none ∧ L'.Nodup ∧ (∀ x, x ∈ L' ↔ x = q ∨ x ∈ L) ∧ ∀ x, x ≠ po → x ≠ pl → x ≠ q → x ∉ L → M1 x = M x) (hp_C D B) (hp_ub B)) 0 0 (hp_ub B) := by
  by_cases hk2 : kd = 2
  · refine hp_met (by decide) (Nat.le_of_ble_eq_true rfl) ?_
    intro p e s m args below meth cd ls Q hQ hx hb hr hts hown hlocks hnm hml hK hH hS hB hl
    replace hl : lv_has ls 3 [(0, .ref po), (1, .ref q), (2, .int sl)] := hl
    subst hk2
    have hpo := sw_sg_ne ix_ou hch h1 rfl (by decide)
    have hpl := sw_sg_ne 101 hch h3 rfl (by decide)
    refine lv_aload_n hx hb d_Ou_takeIn_0 rfl (lv_at hl 1 rfl) ?_
    refine lv_iload_n hx hb d_Ou_takeIn_1 rfl (lv_at hl 2 rfl) ?_
    refine hp_put hx hb hts iw_Ce t_Ce t_Ce_ok n_Ce hown hK hH hS hB h2 rfl 5 (by decide) (hts _ kw_54) rfl  (v := .int sl) rfl rfl (Nat.le_of_ble_eq_true rfl) (fs' := [.int (nI (sg_ci c)), .int (nI (sg_co c)), .int (nI (sg_cg c)), .int (sg_ct c), .long (lN (sg_cs c)), .int sl, .long (sg_cm c), va_rf nq]) rfl d_Ou_takeIn_2 (fun M_1 H locs eM_1 hH hS => ?_)
    have f_2 : M_1 q = some (.inr (ix_ce, [.int (nI (sg_ci c)), .int (nI (sg_co c)), .int (nI (sg_cg c)), .int (sg_ct c), .long (lN (sg_cs c)), .int sl, .long (sg_cm c), va_rf nq])) := by rw [eM_1]; exact va_up_self _ _ _
    have f_3 : M_1 po = some (.inr (ix_ou, [.int 2, .ref ps, .ref pl, va_rf (sw_hd L none), .int n, va_rf la])) := by rw [eM_1, va_up_ne _ _ (hp_ne ix_ou ix_ce h1 h2 rfl rfl (by decide))]; exact h1
    have f_4 : M_1 pl = some (hp_al D 8 fl) := by rw [eM_1, va_up_ne _ _ (hp_ne 101 ix_ce h3 h2 rfl rfl (by decide))]; exact h3
    have f_5 : M_1 ps = some (hp_ai D 8 fs) := by rw [eM_1, va_up_ne _ _ (hp_ne 100 ix_ce h4 h2 rfl rfl (by decide))]; exact h4
    refine lv_aload_n hx hb d_Ou_takeIn_5 rfl (lv_at hl 0 rfl) ?_
    refine hp_get hx hb hts iw_Ou hown hK hH f_3 rfl 0 (by decide) (hts _ kw_48) (v := .int 2) rfl d_Ou_takeIn_6 ?_
    refine lv_iconst (v := 2) hx hb d_Ou_takeIn_9 (by decide) ?_
    refine lv_icmp_ne (tgt := 19) hx hb d_Ou_takeIn_10 (by decide) (fun c_6 => absurd rfl c_6) (fun c_6 => ?_)
    refine lv_aload_n hx hb d_Ou_takeIn_13 rfl (lv_at hl 0 rfl) ?_
    refine lv_aload_n hx hb d_Ou_takeIn_14 rfl (lv_at hl 1 rfl) ?_
    refine lv_iload_n hx hb d_Ou_takeIn_15 rfl (lv_at hl 2 rfl) ?_
    refine hp_callv (hp_runV (b := po) (As := [.ref q, .int sl]) (rest := []) hx hb hml hown (cn_Ou_stamp l D B M_1 po 2 ps pl (sw_hd L none) n la q (sg_ci c, sg_co c, sg_cg c, sg_ct c, sg_cs c, sl, sg_cm c) nq sl fl fs f_3 f_4 f_5 f_2 hc) (hp_cwV 2 hts kw_55 kw_57 kw_58 kw_34 kw_56 rfl rfl (by decide +kernel) ⟨(Nat.le_of_ble_eq_true rfl), (Nat.le_of_ble_eq_true rfl)⟩) hK hH f_3 rfl rfl hl.1 rfl (Nat.le_of_ble_eq_true rfl) d_Ou_takeIn_16 ⟨(Nat.le_of_ble_eq_true rfl), (Nat.le_of_ble_eq_true rfl)⟩) hS (fun M_8 H locs w_9 hH hS => ?_)
    have hn1 : q ≠ pl := hp_ne ix_ce 101 h2 h3 rfl rfl (by decide)
    have hn2 : po ≠ pl := hp_ne ix_ou 101 h1 h3 rfl rfl (by decide)
    have hn3 : po ≠ q := hp_ne ix_ou ix_ce h1 h2 rfl rfl (by decide)
    have eq2 : M_8 = va_up (va_up M q (some (sw_c (sg_ci c, sg_co c, sg_cg c, sg_ct c, sg_cs c, sl, ((if fl (sg_cg c) < 256 * sl.toInt64 then 256 * sl.toInt64 else fl (sg_cg c)) + (fs (sg_cg c)).toInt64)) nq))) pl (some (hp_al D 8 (vp_updL fl (sg_cg c) ((if fl (sg_cg c) < 256 * sl.toInt64 then 256 * sl.toInt64 else fl (sg_cg c)) + (fs (sg_cg c)).toInt64)))) := by rw [w_9, eM_1, hp_uu]
    have k1 : M_8 po = some (sw_o 2 ps pl (sw_hd L none) n la) := by rw [eq2, va_up_ne _ _ hn2, va_up_ne _ _ hn3]; exact h1
    have k2 : M_8 q = some (sw_c (sg_ci c, sg_co c, sg_cg c, sg_ct c, sg_cs c, sl, ((if fl (sg_cg c) < 256 * sl.toInt64 then 256 * sl.toInt64 else fl (sg_cg c)) + (fs (sg_cg c)).toInt64)) nq) := by rw [eq2, va_up_ne _ _ hn1]; exact va_up_self _ _ _
    have k3 : sw_sg M_8 L cs none := sw_sg_kept hch (fun x hx => by rw [eq2, va_up_ne _ _ (hp_nm hx hpl), va_up_ne _ _ (hp_nm hx hq)])
    refine lv_aload_n hx hb d_Ou_takeIn_19 rfl (lv_at hl 0 rfl) ?_
    refine lv_aload_n hx hb d_Ou_takeIn_20 rfl (lv_at hl 1 rfl) ?_
    refine hp_callv (hp_runV (b := po) (As := [.ref q]) (rest := []) hx hb hml hown (cn_Ou_putInOrder l D B M_8 po 2 ps pl n la L cs q (sg_ci c, sg_co c, sg_cg c, sg_ct c, sg_cs c, sl, ((if fl (sg_cg c) < 256 * sl.toInt64 then 256 * sl.toInt64 else fl (sg_cg c)) + (fs (sg_cg c)).toInt64)) nq k1 k3 k2 hq hnd hkd hc hcs) (hp_cwV 1 hts kw_59 kw_61 kw_62 kw_34 kw_60 rfl rfl (by decide +kernel) ⟨(Nat.le_of_ble_eq_true rfl), (Nat.le_of_ble_eq_true rfl)⟩) hK hH k1 rfl rfl hl.1 rfl (Nat.le_of_ble_eq_true rfl) d_Ou_takeIn_21 ⟨(Nat.le_of_ble_eq_true rfl), (Nat.le_of_ble_eq_true rfl)⟩) hS (fun M_11 H locs w_12 hH hS => ?_)
    obtain ⟨L', p1, p2, p3, p4, p5⟩ := w_12
    exact hp_vret hx hb hr hlocks hQ hK hH hS (Nat.le_of_ble_eq_true rfl) (Nat.le_of_ble_eq_true rfl) d_Ou_takeIn_24 ⟨L', vp_updL fl (sg_cg c) ((if fl (sg_cg c) < 256 * sl.toInt64 then 256 * sl.toInt64 else fl (sg_cg c)) + (fs (sg_cg c)).toInt64), fun j _ => rfl, p1, (p5 pl (Ne.symm hn2) (Ne.symm hn1) hpl).trans (by rw [eq2]; exact va_up_self _ _ _), p2, p3, p4, fun x a1 a2 a3 a4 => (p5 x a1 a3 a4).trans (by rw [eq2, va_up_ne _ _ a2, va_up_ne _ _ a3])⟩
  · refine hp_met (by decide) (Nat.le_of_ble_eq_true rfl) ?_
    intro p e s m args below meth cd ls Q hQ hx hb hr hts hown hlocks hnm hml hK hH hS hB hl
    replace hl : lv_has ls 3 [(0, .ref po), (1, .ref q), (2, .int sl)] := hl
    have hpo := sw_sg_ne ix_ou hch h1 rfl (by decide)
    have hpl := sw_sg_ne 101 hch h3 rfl (by decide)
    refine lv_aload_n hx hb d_Ou_takeIn_0 rfl (lv_at hl 1 rfl) ?_
    refine lv_iload_n hx hb d_Ou_takeIn_1 rfl (lv_at hl 2 rfl) ?_
    refine hp_put hx hb hts iw_Ce t_Ce t_Ce_ok n_Ce hown hK hH hS hB h2 rfl 5 (by decide) (hts _ kw_54) rfl  (v := .int sl) rfl rfl (Nat.le_of_ble_eq_true rfl) (fs' := [.int (nI (sg_ci c)), .int (nI (sg_co c)), .int (nI (sg_cg c)), .int (sg_ct c), .long (lN (sg_cs c)), .int sl, .long (sg_cm c), va_rf nq]) rfl d_Ou_takeIn_2 (fun M_1 H locs eM_1 hH hS => ?_)
    have f_2 : M_1 q = some (.inr (ix_ce, [.int (nI (sg_ci c)), .int (nI (sg_co c)), .int (nI (sg_cg c)), .int (sg_ct c), .long (lN (sg_cs c)), .int sl, .long (sg_cm c), va_rf nq])) := by rw [eM_1]; exact va_up_self _ _ _
    have f_3 : M_1 po = some (.inr (ix_ou, [.int kd, .ref ps, .ref pl, va_rf (sw_hd L none), .int n, va_rf la])) := by rw [eM_1, va_up_ne _ _ (hp_ne ix_ou ix_ce h1 h2 rfl rfl (by decide))]; exact h1
    have f_4 : M_1 pl = some (hp_al D 8 fl) := by rw [eM_1, va_up_ne _ _ (hp_ne 101 ix_ce h3 h2 rfl rfl (by decide))]; exact h3
    have f_5 : M_1 ps = some (hp_ai D 8 fs) := by rw [eM_1, va_up_ne _ _ (hp_ne 100 ix_ce h4 h2 rfl rfl (by decide))]; exact h4
    refine lv_aload_n hx hb d_Ou_takeIn_5 rfl (lv_at hl 0 rfl) ?_
    refine hp_get hx hb hts iw_Ou hown hK hH f_3 rfl 0 (by decide) (hts _ kw_48) (v := .int kd) rfl d_Ou_takeIn_6 ?_
    refine lv_iconst (v := 2) hx hb d_Ou_takeIn_9 (by decide) ?_
    refine lv_icmp_ne (tgt := 19) hx hb d_Ou_takeIn_10 (by decide) (fun c_6 => ?_) (fun c_6 => absurd c_6 hk2)
    refine lv_aload_n hx hb d_Ou_takeIn_19 rfl (lv_at hl 0 rfl) ?_
    refine lv_aload_n hx hb d_Ou_takeIn_20 rfl (lv_at hl 1 rfl) ?_
    have k3 : sw_sg M_1 L cs none := sw_sg_kept hch (fun x hx => by rw [eM_1, va_up_ne _ _ (hp_nm hx hq)])
    refine hp_callv (hp_runV (b := po) (As := [.ref q]) (rest := []) hx hb hml hown (cn_Ou_putInOrder l D B M_1 po kd ps pl n la L cs q (sg_ci c, sg_co c, sg_cg c, sg_ct c, sg_cs c, sl, sg_cm c) nq f_3 k3 f_2 hq hnd hkd hc hcs) (hp_cwV 1 hts kw_59 kw_61 kw_62 kw_34 kw_60 rfl rfl (by decide +kernel) ⟨(Nat.le_of_ble_eq_true rfl), (Nat.le_of_ble_eq_true rfl)⟩) hK hH f_3 rfl rfl hl.1 rfl (Nat.le_of_ble_eq_true rfl) d_Ou_takeIn_21 ⟨(Nat.le_of_ble_eq_true rfl), (Nat.le_of_ble_eq_true rfl)⟩) hS (fun M_8 H locs w_9 hH hS => ?_)
    obtain ⟨L', p1, p2, p3, p4, p5⟩ := w_9
    exact hp_vret hx hb hr hlocks hQ hK hH hS (Nat.le_of_ble_eq_true rfl) (Nat.le_of_ble_eq_true rfl) d_Ou_takeIn_24 ⟨L', fl, fun j _ => by rw [if_neg hk2], p1, (p5 pl (hp_ne 101 ix_ou h3 h1 rfl rfl (by decide)) (hp_ne 101 ix_ce h3 h2 rfl rfl (by decide)) hpl).trans (by rw [eM_1, va_up_ne _ _ (hp_ne 101 ix_ce h3 h2 rfl rfl (by decide))]; exact h3), by rw [if_neg hk2]; exact p2, p3, p4, fun x a1 a2 a3 a4 => (p5 x a1 a3 a4).trans (by rw [eM_1, va_up_ne _ _ a3])⟩
end
section
theorem kw_63 : Cond.methodLink R_Ce 1 objectInit ∈ wd_T := wd_in (List.mem_of_getElem? (i := 129) (by decide +kernel)) rfl
theorem kw_64 : Cond.instanceMethod objectInit ∈ wd_T := wd_in (List.mem_of_getElem? (i := 33) (by decide +kernel)) rfl
theorem kw_65 : Cond.code objectInit ⟨#[0xb1]⟩ 1 none ∈ wd_T := wd_in (List.mem_of_getElem? (i := 34) (by decide +kernel)) rfl
theorem kw_66 : Cond.fieldLink R_Ce 7 "EvenSwitch$Cell" "input" "I" ∈ wd_T := wd_in (List.mem_of_getElem? (i := 130) (by decide +kernel)) rfl
theorem kw_67 : Cond.fieldLink R_Ce 13 "EvenSwitch$Cell" "output" "I" ∈ wd_T := wd_in (List.mem_of_getElem? (i := 132) (by decide +kernel)) rfl
theorem kw_68 : Cond.fieldLink R_Ce 16 "EvenSwitch$Cell" "group" "I" ∈ wd_T := wd_in (List.mem_of_getElem? (i := 134) (by decide +kernel)) rfl
theorem kw_69 : Cond.fieldLink R_Ce 19 "EvenSwitch$Cell" "tag" "I" ∈ wd_T := wd_in (List.mem_of_getElem? (i := 136) (by decide +kernel)) rfl
theorem kw_70 : Cond.fieldLink R_Ce 22 "EvenSwitch$Cell" "serial" "J" ∈ wd_T := wd_in (List.mem_of_getElem? (i := 138) (by decide +kernel)) rfl
theorem kw_71 : Cond.methodLink R_In 1 objectInit ∈ wd_T := wd_in (List.mem_of_getElem? (i := 43) (by decide +kernel)) rfl
theorem kw_72 : Cond.methodLink R_Ou 3 objectInit ∈ wd_T := wd_in (List.mem_of_getElem? (i := 57) (by decide +kernel)) rfl
theorem kw_73 : Cond.arrayClass .int ∈ wd_T := wd_in (List.mem_of_getElem? (i := 86) (by decide +kernel)) rfl
theorem kw_74 : Cond.arrayClass .long ∈ wd_T := wd_in (List.mem_of_getElem? (i := 87) (by decide +kernel)) rfl
theorem kw_75 : Cond.constant R_Ou 23 65536 ∈ wd_T := wd_in (List.mem_of_getElem? (i := 58) (by decide +kernel)) rfl
theorem kw_76 : Cond.methodLink R_Ou 24 y_Ar_fill_i ∈ wd_T := wd_in (List.mem_of_getElem? (i := 59) (by decide +kernel)) rfl
theorem kw_77 : Cond.code y_Ar_fill_i b_Ar_fill_i 4 none ∈ wd_T := wd_in (List.mem_of_getElem? (i := 61) (by decide +kernel)) rfl
theorem kw_78 : Cond.static y_Ar_fill_i ∈ wd_T := wd_in (List.mem_of_getElem? (i := 60) (by decide +kernel)) rfl
theorem d_Ou_sendHead_0 : decode b_Ou_sendHead 0 = .ok (.aload_n 0, 1) := by decide +kernel
theorem d_Ou_sendHead_1 : decode b_Ou_sendHead 1 = .ok (.aload_n 0, 1) := by decide +kernel
theorem d_Ou_sendHead_2 : decode b_Ou_sendHead 2 = .ok (.getfield 58, 3) := by decide +kernel
theorem d_Ou_sendHead_5 : decode b_Ou_sendHead 5 = .ok (.putfield 72, 3) := by decide +kernel
theorem d_Ou_sendHead_8 : decode b_Ou_sendHead 8 = .ok (.aload_n 0, 1) := by decide +kernel
theorem d_Ou_sendHead_9 : decode b_Ou_sendHead 9 = .ok (.getfield 72, 3) := by decide +kernel
theorem d_Ou_sendHead_12 : decode b_Ou_sendHead 12 = .ok (.ifnull 43, 3) := by decide +kernel
theorem d_Ou_sendHead_15 : decode b_Ou_sendHead 15 = .ok (.aload_n 0, 1) := by decide +kernel
theorem d_Ou_sendHead_16 : decode b_Ou_sendHead 16 = .ok (.aload_n 0, 1) := by decide +kernel
theorem d_Ou_sendHead_17 : decode b_Ou_sendHead 17 = .ok (.getfield 72, 3) := by decide +kernel
theorem d_Ou_sendHead_20 : decode b_Ou_sendHead 20 = .ok (.getfield 66, 3) := by decide +kernel
theorem d_Ou_sendHead_23 : decode b_Ou_sendHead 23 = .ok (.putfield 58, 3) := by decide +kernel
theorem d_Ou_sendHead_26 : decode b_Ou_sendHead 26 = .ok (.aload_n 0, 1) := by decide +kernel
theorem d_Ou_sendHead_27 : decode b_Ou_sendHead 27 = .ok (.getfield 72, 3) := by decide +kernel
theorem d_Ou_sendHead_30 : decode b_Ou_sendHead 30 = .ok (.aconst_null, 1) := by decide +kernel
theorem d_Ou_sendHead_31 : decode b_Ou_sendHead 31 = .ok (.putfield 66, 3) := by decide +kernel
theorem d_Ou_sendHead_34 : decode b_Ou_sendHead 34 = .ok (.aload_n 0, 1) := by decide +kernel
theorem d_Ou_sendHead_35 : decode b_Ou_sendHead 35 = .ok (.dup, 1) := by decide +kernel
theorem d_Ou_sendHead_36 : decode b_Ou_sendHead 36 = .ok (.getfield 69, 3) := by decide +kernel
theorem d_Ou_sendHead_39 : decode b_Ou_sendHead 39 = .ok (.iconst 1, 1) := by decide +kernel
theorem d_Ou_sendHead_40 : decode b_Ou_sendHead 40 = .ok (.isub, 1) := by decide +kernel
theorem d_Ou_sendHead_41 : decode b_Ou_sendHead 41 = .ok (.putfield 69, 3) := by decide +kernel
theorem d_Ou_sendHead_44 : decode b_Ou_sendHead 44 = .ok (.aload_n 0, 1) := by decide +kernel
theorem d_Ou_sendHead_45 : decode b_Ou_sendHead 45 = .ok (.getfield 58, 3) := by decide +kernel
theorem d_Ou_sendHead_48 : decode b_Ou_sendHead 48 = .ok (.ifnonnull 7, 3) := by decide +kernel
theorem d_Ou_sendHead_51 : decode b_Ou_sendHead 51 = .ok (.aload_n 0, 1) := by decide +kernel
theorem d_Ou_sendHead_52 : decode b_Ou_sendHead 52 = .ok (.invokevirtual 75, 3) := by decide +kernel
theorem d_Ou_sendHead_55 : decode b_Ou_sendHead 55 = .ok (.aload_n 0, 1) := by decide +kernel
theorem d_Ou_sendHead_56 : decode b_Ou_sendHead 56 = .ok (.getfield 72, 3) := by decide +kernel
theorem d_Ou_sendHead_59 : decode b_Ou_sendHead 59 = .ok (.areturn, 1) := by decide +kernel
theorem d_Ce_init_0 : decode b_Ce_init 0 = .ok (.aload_n 0, 1) := by decide +kernel
theorem d_Ce_init_1 : decode b_Ce_init 1 = .ok (.invokespecial 1, 3) := by decide +kernel
theorem d_Ce_init_4 : decode b_Ce_init 4 = .ok (.aload_n 0, 1) := by decide +kernel
theorem d_Ce_init_5 : decode b_Ce_init 5 = .ok (.iload_n 1, 1) := by decide +kernel
theorem d_Ce_init_6 : decode b_Ce_init 6 = .ok (.putfield 7, 3) := by decide +kernel
theorem d_Ce_init_9 : decode b_Ce_init 9 = .ok (.aload_n 0, 1) := by decide +kernel
theorem d_Ce_init_10 : decode b_Ce_init 10 = .ok (.iload_n 2, 1) := by decide +kernel
theorem d_Ce_init_11 : decode b_Ce_init 11 = .ok (.putfield 13, 3) := by decide +kernel
theorem d_Ce_init_14 : decode b_Ce_init 14 = .ok (.aload_n 0, 1) := by decide +kernel
theorem d_Ce_init_15 : decode b_Ce_init 15 = .ok (.iload_n 3, 1) := by decide +kernel
theorem d_Ce_init_16 : decode b_Ce_init 16 = .ok (.putfield 16, 3) := by decide +kernel
theorem d_Ce_init_19 : decode b_Ce_init 19 = .ok (.aload_n 0, 1) := by decide +kernel
theorem d_Ce_init_20 : decode b_Ce_init 20 = .ok (.iload 4, 2) := by decide +kernel
theorem d_Ce_init_22 : decode b_Ce_init 22 = .ok (.putfield 19, 3) := by decide +kernel
theorem d_Ce_init_25 : decode b_Ce_init 25 = .ok (.aload_n 0, 1) := by decide +kernel
theorem d_Ce_init_26 : decode b_Ce_init 26 = .ok (.lload 5, 2) := by decide +kernel
theorem d_Ce_init_28 : decode b_Ce_init 28 = .ok (.putfield 22, 3) := by decide +kernel
theorem d_Ce_init_31 : decode b_Ce_init 31 = .ok (.return_, 1) := by decide +kernel
theorem d_In_init_0 : decode b_In_init 0 = .ok (.aload_n 0, 1) := by decide +kernel
theorem d_In_init_1 : decode b_In_init 1 = .ok (.invokespecial 1, 3) := by decide +kernel
theorem d_In_init_4 : decode b_In_init 4 = .ok (.return_, 1) := by decide +kernel
theorem d_Ou_init_0 : decode b_Ou_init 0 = .ok (.aload_n 0, 1) := by decide +kernel
theorem d_Ou_init_1 : decode b_Ou_init 1 = .ok (.invokespecial 3, 3) := by decide +kernel
theorem d_Ou_init_4 : decode b_Ou_init 4 = .ok (.aload_n 0, 1) := by decide +kernel
theorem d_Ou_init_5 : decode b_Ou_init 5 = .ok (.iconst 0, 1) := by decide +kernel
theorem d_Ou_init_6 : decode b_Ou_init 6 = .ok (.putfield 9, 3) := by decide +kernel
theorem d_Ou_init_9 : decode b_Ou_init 9 = .ok (.aload_n 0, 1) := by decide +kernel
theorem d_Ou_init_10 : decode b_Ou_init 10 = .ok (.bipush 8, 2) := by decide +kernel
theorem d_Ou_init_12 : decode b_Ou_init 12 = .ok (.newarray .int, 2) := by decide +kernel
theorem d_Ou_init_14 : decode b_Ou_init 14 = .ok (.putfield 15, 3) := by decide +kernel
theorem d_Ou_init_17 : decode b_Ou_init 17 = .ok (.aload_n 0, 1) := by decide +kernel
theorem d_Ou_init_18 : decode b_Ou_init 18 = .ok (.bipush 8, 2) := by decide +kernel
theorem d_Ou_init_20 : decode b_Ou_init 20 = .ok (.newarray .long, 2) := by decide +kernel
theorem d_Ou_init_22 : decode b_Ou_init 22 = .ok (.putfield 19, 3) := by decide +kernel
theorem d_Ou_init_25 : decode b_Ou_init 25 = .ok (.aload_n 0, 1) := by decide +kernel
theorem d_Ou_init_26 : decode b_Ou_init 26 = .ok (.getfield 15, 3) := by decide +kernel
theorem d_Ou_init_29 : decode b_Ou_init 29 = .ok (.ldc 23, 2) := by decide +kernel
theorem d_Ou_init_31 : decode b_Ou_init 31 = .ok (.invokestatic 24, 3) := by decide +kernel
theorem d_Ou_init_34 : decode b_Ou_init 34 = .ok (.return_, 1) := by decide +kernel
abbrev rm_Ou_sendHead_0 : Room := { frames := 0, cells := 0, slots := 0, locals := 0 }
set_option maxHeartbeats 4000000 in
set_option maxRecDepth 100000 in
theorem cn_Ou_sendHead_0 (l : Launch) (D : va_G) (B : Nat) (M : hp_M) (po : Nat) (kd : Int32) (ps pl : Nat) (n : Int32) (la : Option Nat) (h1 : M po = some (sw_o kd ps pl none n la)) : Met l y_Ou_sendHead (wd_c y_Ou_sendHead b_Ou_sendHead 1 (some (.object "EvenSwitch$Cell"))) rm_Ou_sendHead_0 (va_Pc [.ref po] (hp_C D B M)) (va_Qq (fun (r : Option Nat) (M1 : hp_M) => r = none ∧ M1 = va_up M po (some (sw_o kd ps pl none n none))) (hp_C D B) (hp_ub B)) 0 0 (hp_ub B) := by
  refine hp_met (by decide) (Nat.le_of_ble_eq_true rfl) ?_
  intro p e s m args below meth cd ls Q hQ hx hb hr hts hown hlocks hnm hml hK hH hS hB hl
  replace hl : lv_has ls 1 [(0, .ref po)] := hl
  refine lv_aload_n hx hb d_Ou_sendHead_0 rfl (lv_at hl 0 rfl) ?_
  refine lv_aload_n hx hb d_Ou_sendHead_1 rfl (lv_at hl 0 rfl) ?_
  refine hp_get hx hb hts iw_Ou hown hK hH h1 rfl 3 (by decide) (hts _ kw_30) (v := .null) rfl d_Ou_sendHead_2 ?_
  refine hp_put hx hb hts iw_Ou t_Ou t_Ou_ok n_Ou hown hK hH hS hB h1 rfl 5 (by decide) (hts _ kw_32) rfl  (v := .null) rfl rfl (Nat.le_of_ble_eq_true rfl) (fs' := [.int kd, .ref ps, .ref pl, .null, .int n, .null]) rfl d_Ou_sendHead_5 (fun M_1 H locs eM_1 hH hS => ?_)
  have f_2 : M_1 po = some (.inr (ix_ou, [.int kd, .ref ps, .ref pl, .null, .int n, .null])) := by rw [eM_1]; exact va_up_self _ _ _
  refine lv_aload_n hx hb d_Ou_sendHead_8 rfl (lv_at hl 0 rfl) ?_
  refine hp_get hx hb hts iw_Ou hown hK hH f_2 rfl 5 (by decide) (hts _ kw_32) (v := .null) rfl d_Ou_sendHead_9 ?_
  refine lv_ifnullN (tgt := 55) hx hb d_Ou_sendHead_12 (by decide) ?_
  refine lv_aload_n hx hb d_Ou_sendHead_55 rfl (lv_at hl 0 rfl) ?_
  refine hp_get hx hb hts iw_Ou hown hK hH f_2 rfl 5 (by decide) (hts _ kw_32) (v := .null) rfl d_Ou_sendHead_56 ?_
  exact hp_qret (v := none) hx hb hr hlocks hQ hK hH hS (Nat.le_of_ble_eq_true rfl) (Nat.le_of_ble_eq_true rfl) d_Ou_sendHead_59 ⟨rfl, (by rw [eM_1]; first | done | rfl)⟩
abbrev rm_Ou_sendHead_1 : Room := { frames := 2, cells := 0, slots := 0, locals := 44 }
set_option maxHeartbeats 4000000 in
set_option maxRecDepth 100000 in
theorem cn_Ou_sendHead_1 (l : Launch) (D : va_G) (B : Nat) (M : hp_M) (po : Nat) (kd : Int32) (ps pl : Nat) (n : Int32) (la : Option Nat) (x : Nat) (c : sg_Ce) (fl : Nat → Int64) (h1 : M po = some (sw_o kd ps pl (some x) n la)) (h2 : M x = some (sw_c c none)) (h3 : M pl = some (hp_al D 8 fl)) : Met l y_Ou_sendHead (wd_c y_Ou_sendHead b_Ou_sendHead 1 (some (.object "EvenSwitch$Cell"))) rm_Ou_sendHead_1 (va_Pc [.ref po] (hp_C D B M)) (va_Qq (fun (r : Option Nat) (M1 : hp_M) => r = some x ∧ ∃ g : Nat → Int64, (∀ j, j < 8 → g j = 0) ∧ M1 = va_up (va_up (va_up M po (some (sw_o kd ps pl none (n - 1) (some x)))) x (some (sw_c c none))) pl (some (hp_al D 8 g))) (hp_C D B) (hp_ub B)) 0 0 (hp_ub B) := by
  refine hp_met (by decide) (Nat.le_of_ble_eq_true rfl) ?_
  intro p e s m args below meth cd ls Q hQ hx hb hr hts hown hlocks hnm hml hK hH hS hB hl
  replace hl : lv_has ls 1 [(0, .ref po)] := hl
  have hxp : x ≠ po := hp_ne ix_ce ix_ou h2 h1 rfl rfl (by decide)
  refine lv_aload_n hx hb d_Ou_sendHead_0 rfl (lv_at hl 0 rfl) ?_
  refine lv_aload_n hx hb d_Ou_sendHead_1 rfl (lv_at hl 0 rfl) ?_
  refine hp_get hx hb hts iw_Ou hown hK hH h1 rfl 3 (by decide) (hts _ kw_30) (v := .ref x) rfl d_Ou_sendHead_2 ?_
  refine hp_put hx hb hts iw_Ou t_Ou t_Ou_ok n_Ou hown hK hH hS hB h1 rfl 5 (by decide) (hts _ kw_32) rfl  (v := .ref x) rfl rfl (Nat.le_of_ble_eq_true rfl) (fs' := [.int kd, .ref ps, .ref pl, .ref x, .int n, .ref x]) rfl d_Ou_sendHead_5 (fun M_1 H locs eM_1 hH hS => ?_)
  have f_2 : M_1 po = some (.inr (ix_ou, [.int kd, .ref ps, .ref pl, .ref x, .int n, .ref x])) := by rw [eM_1]; exact va_up_self _ _ _
  have f_3 : M_1 x = some (.inr (ix_ce, [.int (nI (sg_ci c)), .int (nI (sg_co c)), .int (nI (sg_cg c)), .int (sg_ct c), .long (lN (sg_cs c)), .int (sg_cc c), .long (sg_cm c), .null])) := by rw [eM_1, va_up_ne _ _ (hp_ne ix_ce ix_ou h2 h1 rfl rfl (by decide))]; exact h2
  have f_4 : M_1 pl = some (hp_al D 8 fl) := by rw [eM_1, va_up_ne _ _ (hp_ne 101 ix_ou h3 h1 rfl rfl (by decide))]; exact h3
  refine lv_aload_n hx hb d_Ou_sendHead_8 rfl (lv_at hl 0 rfl) ?_
  refine hp_get hx hb hts iw_Ou hown hK hH f_2 rfl 5 (by decide) (hts _ kw_32) (v := .ref x) rfl d_Ou_sendHead_9 ?_
  refine lv_ifnull hx hb d_Ou_sendHead_12 ?_
  refine lv_aload_n hx hb d_Ou_sendHead_15 rfl (lv_at hl 0 rfl) ?_
  refine lv_aload_n hx hb d_Ou_sendHead_16 rfl (lv_at hl 0 rfl) ?_
  refine hp_get hx hb hts iw_Ou hown hK hH f_2 rfl 5 (by decide) (hts _ kw_32) (v := .ref x) rfl d_Ou_sendHead_17 ?_
  refine hp_get hx hb hts iw_Ce hown hK hH f_3 rfl 7 (by decide) (hts _ kw_49) (v := .null) rfl d_Ou_sendHead_20 ?_
  refine hp_put hx hb hts iw_Ou t_Ou t_Ou_ok n_Ou hown hK hH hS hB f_2 rfl 3 (by decide) (hts _ kw_30) rfl  (v := .null) rfl rfl (Nat.le_of_ble_eq_true rfl) (fs' := [.int kd, .ref ps, .ref pl, .null, .int n, .ref x]) rfl d_Ou_sendHead_23 (fun M_5 H locs eM_5 hH hS => ?_)
  have f_6 : M_5 po = some (.inr (ix_ou, [.int kd, .ref ps, .ref pl, .null, .int n, .ref x])) := by rw [eM_5]; exact va_up_self _ _ _
  have f_7 : M_5 x = some (.inr (ix_ce, [.int (nI (sg_ci c)), .int (nI (sg_co c)), .int (nI (sg_cg c)), .int (sg_ct c), .long (lN (sg_cs c)), .int (sg_cc c), .long (sg_cm c), .null])) := by rw [eM_5, va_up_ne _ _ (hp_ne ix_ce ix_ou f_3 f_2 rfl rfl (by decide))]; exact f_3
  have f_8 : M_5 pl = some (hp_al D 8 fl) := by rw [eM_5, va_up_ne _ _ (hp_ne 101 ix_ou f_4 f_2 rfl rfl (by decide))]; exact f_4
  refine lv_aload_n hx hb d_Ou_sendHead_26 rfl (lv_at hl 0 rfl) ?_
  refine hp_get hx hb hts iw_Ou hown hK hH f_6 rfl 5 (by decide) (hts _ kw_32) (v := .ref x) rfl d_Ou_sendHead_27 ?_
  refine lv_null hx hb d_Ou_sendHead_30 ?_
  refine hp_put hx hb hts iw_Ce t_Ce t_Ce_ok n_Ce hown hK hH hS hB f_7 rfl 7 (by decide) (hts _ kw_49) rfl  (v := .null) rfl rfl (Nat.le_of_ble_eq_true rfl) (fs' := [.int (nI (sg_ci c)), .int (nI (sg_co c)), .int (nI (sg_cg c)), .int (sg_ct c), .long (lN (sg_cs c)), .int (sg_cc c), .long (sg_cm c), .null]) rfl d_Ou_sendHead_31 (fun M_9 H locs eM_9 hH hS => ?_)
  have f_10 : M_9 x = some (.inr (ix_ce, [.int (nI (sg_ci c)), .int (nI (sg_co c)), .int (nI (sg_cg c)), .int (sg_ct c), .long (lN (sg_cs c)), .int (sg_cc c), .long (sg_cm c), .null])) := by rw [eM_9]; exact va_up_self _ _ _
  have f_11 : M_9 pl = some (hp_al D 8 fl) := by rw [eM_9, va_up_ne _ _ (hp_ne 101 ix_ce f_8 f_7 rfl rfl (by decide))]; exact f_8
  have f_12 : M_9 po = some (.inr (ix_ou, [.int kd, .ref ps, .ref pl, .null, .int n, .ref x])) := by rw [eM_9, va_up_ne _ _ (hp_ne ix_ou ix_ce f_6 f_7 rfl rfl (by decide))]; exact f_6
  refine lv_aload_n hx hb d_Ou_sendHead_34 rfl (lv_at hl 0 rfl) ?_
  refine lv_dup hx hb d_Ou_sendHead_35 rfl ?_
  refine hp_get hx hb hts iw_Ou hown hK hH f_12 rfl 4 (by decide) (hts _ kw_31) (v := .int n) rfl d_Ou_sendHead_36 ?_
  refine lv_iconst (v := 1) hx hb d_Ou_sendHead_39 (by decide) ?_
  refine lv_isub hx hb d_Ou_sendHead_40 ?_
  refine hp_put hx hb hts iw_Ou t_Ou t_Ou_ok n_Ou hown hK hH hS hB f_12 rfl 4 (by decide) (hts _ kw_31) rfl  (v := .int (n - 1)) rfl rfl (Nat.le_of_ble_eq_true rfl) (fs' := [.int kd, .ref ps, .ref pl, .null, .int (n - 1), .ref x]) rfl d_Ou_sendHead_41 (fun M_13 H locs eM_13 hH hS => ?_)
  have f_14 : M_13 po = some (.inr (ix_ou, [.int kd, .ref ps, .ref pl, .null, .int (n - 1), .ref x])) := by rw [eM_13]; exact va_up_self _ _ _
  have f_15 : M_13 pl = some (hp_al D 8 fl) := by rw [eM_13, va_up_ne _ _ (hp_ne 101 ix_ou f_11 f_12 rfl rfl (by decide))]; exact f_11
  have f_16 : M_13 x = some (.inr (ix_ce, [.int (nI (sg_ci c)), .int (nI (sg_co c)), .int (nI (sg_cg c)), .int (sg_ct c), .long (lN (sg_cs c)), .int (sg_cc c), .long (sg_cm c), .null])) := by rw [eM_13, va_up_ne _ _ (hp_ne ix_ce ix_ou f_10 f_12 rfl rfl (by decide))]; exact f_10
  refine lv_aload_n hx hb d_Ou_sendHead_44 rfl (lv_at hl 0 rfl) ?_
  refine hp_get hx hb hts iw_Ou hown hK hH f_14 rfl 3 (by decide) (hts _ kw_30) (v := .null) rfl d_Ou_sendHead_45 ?_
  refine lv_ifnonnullN hx hb d_Ou_sendHead_48 ?_
  refine lv_aload_n hx hb d_Ou_sendHead_51 rfl (lv_at hl 0 rfl) ?_
  refine hp_callv (hp_runV (b := po) (As := []) (rest := []) hx hb hml hown (cn_Ou_forgetTimes l D B M_13 po kd ps pl none (n - 1) (some x) fl f_14 f_15) (hp_cwV 0 hts kw_33 kw_36 kw_37 kw_34 kw_35 rfl rfl (by decide +kernel) ⟨(Nat.le_of_ble_eq_true rfl), (Nat.le_of_ble_eq_true rfl)⟩) hK hH f_14 rfl rfl hl.1 rfl (Nat.le_of_ble_eq_true rfl) d_Ou_sendHead_52 ⟨(Nat.le_of_ble_eq_true rfl), (Nat.le_of_ble_eq_true rfl)⟩) hS (fun M_18 H locs w_19 hH hS => ?_)
  obtain ⟨g, hg, eM⟩ := w_19
  have f_20 : M_18 po = some (.inr (ix_ou, [.int kd, .ref ps, .ref pl, .null, .int (n - 1), .ref x])) := by rw [eM, va_up_ne _ _ (hp_ne ix_ou 101 f_14 f_15 rfl rfl (by decide))]; exact f_14
  refine lv_aload_n hx hb d_Ou_sendHead_55 rfl (lv_at hl 0 rfl) ?_
  refine hp_get hx hb hts iw_Ou hown hK hH f_20 rfl 5 (by decide) (hts _ kw_32) (v := .ref x) rfl d_Ou_sendHead_56 ?_
  exact hp_qret (v := some x) hx hb hr hlocks hQ hK hH hS (Nat.le_of_ble_eq_true rfl) (Nat.le_of_ble_eq_true rfl) d_Ou_sendHead_59 ⟨rfl, g, hg, by rw [eM, eM_13, eM_9, eM_5, eM_1]; exact congrArg (fun z => va_up z pl _) (sw_sh hxp)⟩
abbrev rm_Ou_sendHead_2 : Room := { frames := 0, cells := 0, slots := 0, locals := 0 }
set_option maxHeartbeats 4000000 in
set_option maxRecDepth 100000 in
theorem cn_Ou_sendHead_2 (l : Launch) (D : va_G) (B : Nat) (M : hp_M) (po : Nat) (kd : Int32) (ps pl : Nat) (n : Int32) (la : Option Nat) (x : Nat) (c : sg_Ce) (fl : Nat → Int64) (y : Nat) (h1 : M po = some (sw_o kd ps pl (some x) n la)) (h2 : M x = some (sw_c c (some y))) (h3 : M pl = some (hp_al D 8 fl)) : Met l y_Ou_sendHead (wd_c y_Ou_sendHead b_Ou_sendHead 1 (some (.object "EvenSwitch$Cell"))) rm_Ou_sendHead_2 (va_Pc [.ref po] (hp_C D B M)) (va_Qq (fun (r : Option Nat) (M1 : hp_M) => r = some x ∧ M1 = (va_up (va_up M po (some (sw_o kd ps pl (some y) (n - 1) (some x)))) x (some (sw_c c none)))) (hp_C D B) (hp_ub B)) 0 0 (hp_ub B) := by
  refine hp_met (by decide) (Nat.le_of_ble_eq_true rfl) ?_
  intro p e s m args below meth cd ls Q hQ hx hb hr hts hown hlocks hnm hml hK hH hS hB hl
  replace hl : lv_has ls 1 [(0, .ref po)] := hl
  have hxp : x ≠ po := hp_ne ix_ce ix_ou h2 h1 rfl rfl (by decide)
  refine lv_aload_n hx hb d_Ou_sendHead_0 rfl (lv_at hl 0 rfl) ?_
  refine lv_aload_n hx hb d_Ou_sendHead_1 rfl (lv_at hl 0 rfl) ?_
  refine hp_get hx hb hts iw_Ou hown hK hH h1 rfl 3 (by decide) (hts _ kw_30) (v := .ref x) rfl d_Ou_sendHead_2 ?_
  refine hp_put hx hb hts iw_Ou t_Ou t_Ou_ok n_Ou hown hK hH hS hB h1 rfl 5 (by decide) (hts _ kw_32) rfl  (v := .ref x) rfl rfl (Nat.le_of_ble_eq_true rfl) (fs' := [.int kd, .ref ps, .ref pl, .ref x, .int n, .ref x]) rfl d_Ou_sendHead_5 (fun M_1 H locs eM_1 hH hS => ?_)
  have f_2 : M_1 po = some (.inr (ix_ou, [.int kd, .ref ps, .ref pl, .ref x, .int n, .ref x])) := by rw [eM_1]; exact va_up_self _ _ _
  have f_3 : M_1 x = some (.inr (ix_ce, [.int (nI (sg_ci c)), .int (nI (sg_co c)), .int (nI (sg_cg c)), .int (sg_ct c), .long (lN (sg_cs c)), .int (sg_cc c), .long (sg_cm c), .ref y])) := by rw [eM_1, va_up_ne _ _ (hp_ne ix_ce ix_ou h2 h1 rfl rfl (by decide))]; exact h2
  have f_4 : M_1 pl = some (hp_al D 8 fl) := by rw [eM_1, va_up_ne _ _ (hp_ne 101 ix_ou h3 h1 rfl rfl (by decide))]; exact h3
  refine lv_aload_n hx hb d_Ou_sendHead_8 rfl (lv_at hl 0 rfl) ?_
  refine hp_get hx hb hts iw_Ou hown hK hH f_2 rfl 5 (by decide) (hts _ kw_32) (v := .ref x) rfl d_Ou_sendHead_9 ?_
  refine lv_ifnull hx hb d_Ou_sendHead_12 ?_
  refine lv_aload_n hx hb d_Ou_sendHead_15 rfl (lv_at hl 0 rfl) ?_
  refine lv_aload_n hx hb d_Ou_sendHead_16 rfl (lv_at hl 0 rfl) ?_
  refine hp_get hx hb hts iw_Ou hown hK hH f_2 rfl 5 (by decide) (hts _ kw_32) (v := .ref x) rfl d_Ou_sendHead_17 ?_
  refine hp_get hx hb hts iw_Ce hown hK hH f_3 rfl 7 (by decide) (hts _ kw_49) (v := .ref y) rfl d_Ou_sendHead_20 ?_
  refine hp_put hx hb hts iw_Ou t_Ou t_Ou_ok n_Ou hown hK hH hS hB f_2 rfl 3 (by decide) (hts _ kw_30) rfl  (v := .ref y) rfl rfl (Nat.le_of_ble_eq_true rfl) (fs' := [.int kd, .ref ps, .ref pl, .ref y, .int n, .ref x]) rfl d_Ou_sendHead_23 (fun M_5 H locs eM_5 hH hS => ?_)
  have f_6 : M_5 po = some (.inr (ix_ou, [.int kd, .ref ps, .ref pl, .ref y, .int n, .ref x])) := by rw [eM_5]; exact va_up_self _ _ _
  have f_7 : M_5 x = some (.inr (ix_ce, [.int (nI (sg_ci c)), .int (nI (sg_co c)), .int (nI (sg_cg c)), .int (sg_ct c), .long (lN (sg_cs c)), .int (sg_cc c), .long (sg_cm c), .ref y])) := by rw [eM_5, va_up_ne _ _ (hp_ne ix_ce ix_ou f_3 f_2 rfl rfl (by decide))]; exact f_3
  have f_8 : M_5 pl = some (hp_al D 8 fl) := by rw [eM_5, va_up_ne _ _ (hp_ne 101 ix_ou f_4 f_2 rfl rfl (by decide))]; exact f_4
  refine lv_aload_n hx hb d_Ou_sendHead_26 rfl (lv_at hl 0 rfl) ?_
  refine hp_get hx hb hts iw_Ou hown hK hH f_6 rfl 5 (by decide) (hts _ kw_32) (v := .ref x) rfl d_Ou_sendHead_27 ?_
  refine lv_null hx hb d_Ou_sendHead_30 ?_
  refine hp_put hx hb hts iw_Ce t_Ce t_Ce_ok n_Ce hown hK hH hS hB f_7 rfl 7 (by decide) (hts _ kw_49) rfl  (v := .null) rfl rfl (Nat.le_of_ble_eq_true rfl) (fs' := [.int (nI (sg_ci c)), .int (nI (sg_co c)), .int (nI (sg_cg c)), .int (sg_ct c), .long (lN (sg_cs c)), .int (sg_cc c), .long (sg_cm c), .null]) rfl d_Ou_sendHead_31 (fun M_9 H locs eM_9 hH hS => ?_)
  have f_10 : M_9 x = some (.inr (ix_ce, [.int (nI (sg_ci c)), .int (nI (sg_co c)), .int (nI (sg_cg c)), .int (sg_ct c), .long (lN (sg_cs c)), .int (sg_cc c), .long (sg_cm c), .null])) := by rw [eM_9]; exact va_up_self _ _ _
  have f_11 : M_9 pl = some (hp_al D 8 fl) := by rw [eM_9, va_up_ne _ _ (hp_ne 101 ix_ce f_8 f_7 rfl rfl (by decide))]; exact f_8
  have f_12 : M_9 po = some (.inr (ix_ou, [.int kd, .ref ps, .ref pl, .ref y, .int n, .ref x])) := by rw [eM_9, va_up_ne _ _ (hp_ne ix_ou ix_ce f_6 f_7 rfl rfl (by decide))]; exact f_6
  refine lv_aload_n hx hb d_Ou_sendHead_34 rfl (lv_at hl 0 rfl) ?_
  refine lv_dup hx hb d_Ou_sendHead_35 rfl ?_
  refine hp_get hx hb hts iw_Ou hown hK hH f_12 rfl 4 (by decide) (hts _ kw_31) (v := .int n) rfl d_Ou_sendHead_36 ?_
  refine lv_iconst (v := 1) hx hb d_Ou_sendHead_39 (by decide) ?_
  refine lv_isub hx hb d_Ou_sendHead_40 ?_
  refine hp_put hx hb hts iw_Ou t_Ou t_Ou_ok n_Ou hown hK hH hS hB f_12 rfl 4 (by decide) (hts _ kw_31) rfl  (v := .int (n - 1)) rfl rfl (Nat.le_of_ble_eq_true rfl) (fs' := [.int kd, .ref ps, .ref pl, .ref y, .int (n - 1), .ref x]) rfl d_Ou_sendHead_41 (fun M_13 H locs eM_13 hH hS => ?_)
  have f_14 : M_13 po = some (.inr (ix_ou, [.int kd, .ref ps, .ref pl, .ref y, .int (n - 1), .ref x])) := by rw [eM_13]; exact va_up_self _ _ _
  have f_15 : M_13 pl = some (hp_al D 8 fl) := by rw [eM_13, va_up_ne _ _ (hp_ne 101 ix_ou f_11 f_12 rfl rfl (by decide))]; exact f_11
  have f_16 : M_13 x = some (.inr (ix_ce, [.int (nI (sg_ci c)), .int (nI (sg_co c)), .int (nI (sg_cg c)), .int (sg_ct c), .long (lN (sg_cs c)), .int (sg_cc c), .long (sg_cm c), .null])) := by rw [eM_13, va_up_ne _ _ (hp_ne ix_ce ix_ou f_10 f_12 rfl rfl (by decide))]; exact f_10
  refine lv_aload_n hx hb d_Ou_sendHead_44 rfl (lv_at hl 0 rfl) ?_
  refine hp_get hx hb hts iw_Ou hown hK hH f_14 rfl 3 (by decide) (hts _ kw_30) (v := .ref y) rfl d_Ou_sendHead_45 ?_
  refine lv_ifnonnull (tgt := 55) hx hb d_Ou_sendHead_48 (by decide) ?_
  refine lv_aload_n hx hb d_Ou_sendHead_55 rfl (lv_at hl 0 rfl) ?_
  refine hp_get hx hb hts iw_Ou hown hK hH f_14 rfl 5 (by decide) (hts _ kw_32) (v := .ref x) rfl d_Ou_sendHead_56 ?_
  exact hp_qret (v := some x) hx hb hr hlocks hQ hK hH hS (Nat.le_of_ble_eq_true rfl) (Nat.le_of_ble_eq_true rfl) d_Ou_sendHead_59 ⟨rfl, by rw [eM_13, eM_9, eM_5, eM_1]; exact sw_sh hxp⟩
abbrev rm_Ce_init : Room := { frames := 1, cells := 0, slots := 0, locals := 12 }
set_option maxHeartbeats 4000000 in
set_option maxRecDepth 100000 in
theorem cn_Ce_init (l : Launch) (D : va_G) (B : Nat) (M : hp_M) (q i o k : Nat) (t : Int32) (s0 : Nat) (h1 : M q = some (.inr (ix_ce, [.int 0, .int 0, .int 0, .int 0, .long 0, .int 0, .long 0, .null]))) : Met l y_Ce_init (wd_c y_Ce_init b_Ce_init 7 (none)) rm_Ce_init (va_Pc [.ref q, .int (nI i), .int (nI o), .int (nI k), .int t, .long (lN s0)] (hp_C D B M)) (va_Qv (fun  (M1 : hp_M) => M1 = va_up M q (some (sw_c (i, o, k, t, s0, 0, 0) none))) (hp_C D B) (hp_ub B)) 0 0 (hp_ub B) := by
  refine hp_met (by decide) (Nat.le_of_ble_eq_true rfl) ?_
  intro p e s m args below meth cd ls Q hQ hx hb hr hts hown hlocks hnm hml hK hH hS hB hl
  replace hl : lv_has ls 7 [(0, .ref q), (1, .int (nI i)), (2, .int (nI o)), (3, .int (nI k)), (4, .int t), (5, .long (lN s0))] := hl
  refine lv_aload_n hx hb d_Ce_init_0 rfl (lv_at hl 0 rfl) ?_
  refine W.objInit hx hb hown (hts _ kw_63) (hts _ kw_64) (hts _ kw_65) rfl (by rw [hml]; exact hl.1) rfl d_Ce_init_1 (Nat.le_of_ble_eq_true rfl) (Nat.le_of_ble_eq_true rfl) ?_
  refine W.eq (g2 := F0 m 4 ls []) rfl ?_
  refine lv_aload_n hx hb d_Ce_init_4 rfl (lv_at hl 0 rfl) ?_
  refine lv_iload_n hx hb d_Ce_init_5 rfl (lv_at hl 1 rfl) ?_
  refine hp_putF hx hb hts iw_Ce t_Ce t_Ce_ok n_Ce hown hK hH hS hB h1 rfl 0 (by decide) (hts _ kw_66) rfl hnm rfl (v := .int (nI i)) rfl rfl (Nat.le_of_ble_eq_true rfl) (fs' := [.int (nI i), .int 0, .int 0, .int 0, .long 0, .int 0, .long 0, .null]) rfl d_Ce_init_6 (fun M_1 H locs eM_1 hH hS => ?_)
  have f_2 : M_1 q = some (.inr (ix_ce, [.int (nI i), .int 0, .int 0, .int 0, .long 0, .int 0, .long 0, .null])) := by rw [eM_1]; exact va_up_self _ _ _
  refine lv_aload_n hx hb d_Ce_init_9 rfl (lv_at hl 0 rfl) ?_
  refine lv_iload_n hx hb d_Ce_init_10 rfl (lv_at hl 2 rfl) ?_
  refine hp_putF hx hb hts iw_Ce t_Ce t_Ce_ok n_Ce hown hK hH hS hB f_2 rfl 1 (by decide) (hts _ kw_67) rfl hnm rfl (v := .int (nI o)) rfl rfl (Nat.le_of_ble_eq_true rfl) (fs' := [.int (nI i), .int (nI o), .int 0, .int 0, .long 0, .int 0, .long 0, .null]) rfl d_Ce_init_11 (fun M_3 H locs eM_3 hH hS => ?_)
  have f_4 : M_3 q = some (.inr (ix_ce, [.int (nI i), .int (nI o), .int 0, .int 0, .long 0, .int 0, .long 0, .null])) := by rw [eM_3]; exact va_up_self _ _ _
  refine lv_aload_n hx hb d_Ce_init_14 rfl (lv_at hl 0 rfl) ?_
  refine lv_iload_n hx hb d_Ce_init_15 rfl (lv_at hl 3 rfl) ?_
  refine hp_putF hx hb hts iw_Ce t_Ce t_Ce_ok n_Ce hown hK hH hS hB f_4 rfl 2 (by decide) (hts _ kw_68) rfl hnm rfl (v := .int (nI k)) rfl rfl (Nat.le_of_ble_eq_true rfl) (fs' := [.int (nI i), .int (nI o), .int (nI k), .int 0, .long 0, .int 0, .long 0, .null]) rfl d_Ce_init_16 (fun M_5 H locs eM_5 hH hS => ?_)
  have f_6 : M_5 q = some (.inr (ix_ce, [.int (nI i), .int (nI o), .int (nI k), .int 0, .long 0, .int 0, .long 0, .null])) := by rw [eM_5]; exact va_up_self _ _ _
  refine lv_aload_n hx hb d_Ce_init_19 rfl (lv_at hl 0 rfl) ?_
  refine lv_iload hx hb d_Ce_init_20 (lv_at hl 4 rfl) ?_
  refine hp_putF hx hb hts iw_Ce t_Ce t_Ce_ok n_Ce hown hK hH hS hB f_6 rfl 3 (by decide) (hts _ kw_69) rfl hnm rfl (v := .int t) rfl rfl (Nat.le_of_ble_eq_true rfl) (fs' := [.int (nI i), .int (nI o), .int (nI k), .int t, .long 0, .int 0, .long 0, .null]) rfl d_Ce_init_22 (fun M_7 H locs eM_7 hH hS => ?_)
  have f_8 : M_7 q = some (.inr (ix_ce, [.int (nI i), .int (nI o), .int (nI k), .int t, .long 0, .int 0, .long 0, .null])) := by rw [eM_7]; exact va_up_self _ _ _
  refine lv_aload_n hx hb d_Ce_init_25 rfl (lv_at hl 0 rfl) ?_
  refine lv_lload hx hb d_Ce_init_26 (lv_at hl 5 rfl) ?_
  refine hp_putF hx hb hts iw_Ce t_Ce t_Ce_ok n_Ce hown hK hH hS hB f_8 rfl 4 (by decide) (hts _ kw_70) rfl hnm rfl (v := .long (lN s0)) rfl rfl (Nat.le_of_ble_eq_true rfl) (fs' := [.int (nI i), .int (nI o), .int (nI k), .int t, .long (lN s0), .int 0, .long 0, .null]) rfl d_Ce_init_28 (fun M_9 H locs eM_9 hH hS => ?_)
  have f_10 : M_9 q = some (.inr (ix_ce, [.int (nI i), .int (nI o), .int (nI k), .int t, .long (lN s0), .int 0, .long 0, .null])) := by rw [eM_9]; exact va_up_self _ _ _
  exact hp_vret hx hb hr hlocks hQ hK hH hS (Nat.le_of_ble_eq_true rfl) (Nat.le_of_ble_eq_true rfl) d_Ce_init_31 (by rw [eM_9, eM_7, eM_5, eM_3, eM_1, hp_uu, hp_uu, hp_uu, hp_uu]; first | done | rfl)
abbrev rm_In_init : Room := { frames := 1, cells := 0, slots := 0, locals := 12 }
set_option maxHeartbeats 4000000 in
set_option maxRecDepth 100000 in
theorem cn_In_init (l : Launch) (D : va_G) (B : Nat) (M : hp_M) (q : Nat) (h1 : M q = some (sw_i none 0)) : Met l y_In_init (wd_c y_In_init b_In_init 1 (none)) rm_In_init (va_Pc [.ref q] (hp_C D B M)) (va_Qv (fun  (M1 : hp_M) => M1 = M) (hp_C D B) (hp_ub B)) 0 0 (hp_ub B) := by
  refine hp_met (by decide) (Nat.le_of_ble_eq_true rfl) ?_
  intro p e s m args below meth cd ls Q hQ hx hb hr hts hown hlocks hnm hml hK hH hS hB hl
  replace hl : lv_has ls 1 [(0, .ref q)] := hl
  refine lv_aload_n hx hb d_In_init_0 rfl (lv_at hl 0 rfl) ?_
  refine W.objInit hx hb hown (hts _ kw_71) (hts _ kw_64) (hts _ kw_65) rfl (by rw [hml]; exact hl.1) rfl d_In_init_1 (Nat.le_of_ble_eq_true rfl) (Nat.le_of_ble_eq_true rfl) ?_
  refine W.eq (g2 := F0 m 4 ls []) rfl ?_
  exact hp_vret hx hb hr hlocks hQ hK hH hS (Nat.le_of_ble_eq_true rfl) (Nat.le_of_ble_eq_true rfl) d_In_init_4 rfl
abbrev rm_Ou_init : Room := { frames := 1, cells := 2, slots := 16, locals := 23 }
set_option maxHeartbeats 4000000 in
set_option maxRecDepth 100000 in
theorem cn_Ou_init (l : Launch) (D : va_G) (B : Nat) (M : hp_M) (po : Nat) (h1 : M po = some (.inr (ix_ou, [.int 0, .null, .null, .null, .int 0, .null]))) : Met l y_Ou_init (wd_c y_Ou_init b_Ou_init 1 (none)) rm_Ou_init (va_Pc [.ref po] (hp_C D B M)) (va_Qv (fun  (M1 : hp_M) => ∃ (qs ql : Nat) (f : Nat → Int32), M qs = none ∧ M ql = none ∧ qs ≠ ql ∧ (∀ j, j < 8 → f j = 65536) ∧ M1 po = some (sw_o 0 qs ql none 0 none) ∧ M1 qs = some (hp_ai D 8 f) ∧ M1 ql = some (hp_al D 8 (fun _ => 0)) ∧ ∀ x, x ≠ po → x ≠ qs → x ≠ ql → M1 x = M x) (hp_C D B) (hp_ub B)) 2 16 (hp_ub B) := by
  refine hp_met (by decide) (Nat.le_of_ble_eq_true rfl) ?_
  intro p e s m args below meth cd ls Q hQ hx hb hr hts hown hlocks hnm hml hK hH hS hB hl
  replace hl : lv_has ls 1 [(0, .ref po)] := hl
  refine lv_aload_n hx hb d_Ou_init_0 rfl (lv_at hl 0 rfl) ?_
  refine W.objInit hx hb hown (hts _ kw_72) (hts _ kw_64) (hts _ kw_65) rfl (by rw [hml]; exact hl.1) rfl d_Ou_init_1 (Nat.le_of_ble_eq_true rfl) (Nat.le_of_ble_eq_true rfl) ?_
  refine W.eq (g2 := F0 m 4 ls []) rfl ?_
  refine lv_aload_n hx hb d_Ou_init_4 rfl (lv_at hl 0 rfl) ?_
  refine lv_iconst (v := 0) hx hb d_Ou_init_5 (by decide) ?_
  refine hp_put hx hb hts iw_Ou t_Ou t_Ou_ok n_Ou hown hK hH hS hB h1 rfl 0 (by decide) (hts _ kw_48) rfl  (v := .int 0) rfl rfl (Nat.le_of_ble_eq_true rfl) (fs' := [.int 0, .null, .null, .null, .int 0, .null]) rfl d_Ou_init_6 (fun M_1 H locs eM_1 hH hS => ?_)
  have f_2 : M_1 po = some (.inr (ix_ou, [.int 0, .null, .null, .null, .int 0, .null])) := by rw [eM_1]; exact va_up_self _ _ _
  refine lv_aload_n hx hb d_Ou_init_9 rfl (lv_at hl 0 rfl) ?_
  refine lv_bipush (v := 8) hx hb d_Ou_init_10 (by decide) ?_
  refine hp_newi hx hb (hts _ kw_73) hK hH hS hB 8 (by decide) (by decide) (Nat.le_of_ble_eq_true rfl) (Nat.le_of_ble_eq_true rfl) d_Ou_init_12 (fun q_3 M_4 H zq_3 eM_4 hH hS => ?_)
  have f_5 : M_4 q_3 = some (hp_ai D 8 (fun _ => 0)) := by rw [eM_4]; exact va_up_self _ _ _
  have f_6 : M_4 po = some (.inr (ix_ou, [.int 0, .null, .null, .null, .int 0, .null])) := by rw [eM_4, va_up_ne _ _ (hp_fr zq_3 f_2)]; exact f_2
  refine hp_putF hx hb hts iw_Ou t_Ou t_Ou_ok n_Ou hown hK hH hS hB f_6 rfl 1 (by decide) (hts _ kw_46) rfl hnm rfl (v := .ref q_3) rfl rfl (Nat.le_of_ble_eq_true rfl) (fs' := [.int 0, .ref q_3, .null, .null, .int 0, .null]) rfl d_Ou_init_14 (fun M_7 H locs eM_7 hH hS => ?_)
  have f_8 : M_7 po = some (.inr (ix_ou, [.int 0, .ref q_3, .null, .null, .int 0, .null])) := by rw [eM_7]; exact va_up_self _ _ _
  have f_9 : M_7 q_3 = some (hp_ai D 8 (fun _ => 0)) := by rw [eM_7, va_up_ne _ _ (hp_ne 100 ix_ou f_5 f_6 rfl rfl (by decide))]; exact f_5
  refine lv_aload_n hx hb d_Ou_init_17 rfl (lv_at hl 0 rfl) ?_
  refine lv_bipush (v := 8) hx hb d_Ou_init_18 (by decide) ?_
  refine hp_newl hx hb (hts _ kw_74) hK hH hS hB 8 (by decide) (by decide) (Nat.le_of_ble_eq_true rfl) (Nat.le_of_ble_eq_true rfl) d_Ou_init_20 (fun q_10 M_11 H zq_10 eM_11 hH hS => ?_)
  have f_12 : M_11 q_10 = some (hp_al D 8 (fun _ => 0)) := by rw [eM_11]; exact va_up_self _ _ _
  have f_13 : M_11 q_3 = some (hp_ai D 8 (fun _ => 0)) := by rw [eM_11, va_up_ne _ _ (hp_fr zq_10 f_9)]; exact f_9
  have f_14 : M_11 po = some (.inr (ix_ou, [.int 0, .ref q_3, .null, .null, .int 0, .null])) := by rw [eM_11, va_up_ne _ _ (hp_fr zq_10 f_8)]; exact f_8
  refine hp_putF hx hb hts iw_Ou t_Ou t_Ou_ok n_Ou hown hK hH hS hB f_14 rfl 2 (by decide) (hts _ kw_25) rfl hnm rfl (v := .ref q_10) rfl rfl (Nat.le_of_ble_eq_true rfl) (fs' := [.int 0, .ref q_3, .ref q_10, .null, .int 0, .null]) rfl d_Ou_init_22 (fun M_15 H locs eM_15 hH hS => ?_)
  have f_16 : M_15 po = some (.inr (ix_ou, [.int 0, .ref q_3, .ref q_10, .null, .int 0, .null])) := by rw [eM_15]; exact va_up_self _ _ _
  have f_17 : M_15 q_3 = some (hp_ai D 8 (fun _ => 0)) := by rw [eM_15, va_up_ne _ _ (hp_ne 100 ix_ou f_13 f_14 rfl rfl (by decide))]; exact f_13
  have f_18 : M_15 q_10 = some (hp_al D 8 (fun _ => 0)) := by rw [eM_15, va_up_ne _ _ (hp_ne 101 ix_ou f_12 f_14 rfl rfl (by decide))]; exact f_12
  refine lv_aload_n hx hb d_Ou_init_25 rfl (lv_at hl 0 rfl) ?_
  refine hp_get hx hb hts iw_Ou hown hK hH f_16 rfl 1 (by decide) (hts _ kw_46) (v := .ref q_3) rfl d_Ou_init_26 ?_
  refine lv_ldc (v := 65536) hx hb hown (hts _ kw_75) d_Ou_init_29 ?_
  refine hp_callv (hp_runS (As := [.ref q_3, .int 65536]) (rest := []) hx hb hml hown (cn_Ar_fill_i l D B M_15 q_3 8 (fun _ => 0) 65536 f_17 (by decide)) (hp_cwS 2 hts kw_76 kw_78 kw_27 kw_77 rfl rfl (by decide +kernel) ⟨(Nat.le_of_ble_eq_true rfl), (Nat.le_of_ble_eq_true rfl)⟩) hK hH rfl hl.1 rfl (Nat.le_of_ble_eq_true rfl) d_Ou_init_31 ⟨(Nat.le_of_ble_eq_true rfl), (Nat.le_of_ble_eq_true rfl)⟩) hS (fun M_20 H locs w_21 hH hS => ?_)
  obtain ⟨g, hg, eM⟩ := w_21
  have n1 : po ≠ q_3 := hp_ne ix_ou 100 f_16 f_17 rfl rfl (by decide)
  have n2 : q_10 ≠ q_3 := hp_ne 101 100 f_18 f_17 rfl rfl (by decide)
  have n3 : po ≠ q_10 := hp_ne ix_ou 101 f_16 f_18 rfl rfl (by decide)
  have k1 : M_20 po = some (sw_o 0 q_3 q_10 none 0 none) := by rw [eM, va_up_ne _ _ n1]; exact f_16
  have k2 : M_20 q_10 = some (hp_al D 8 (fun _ => 0)) := by rw [eM, va_up_ne _ _ n2]; exact f_18
  have k3 : M_20 q_3 = some (hp_ai D 8 g) := by rw [eM]; exact va_up_self _ _ _
  have kz : M q_10 = none := by have h := zq_10; rw [eM_7, eM_4, eM_1, va_up_ne _ _ (Ne.symm n3), va_up_ne _ _ n2, va_up_ne _ _ (Ne.symm n3)] at h; exact h
  have kq : M q_3 = none := by have h := zq_3; rw [eM_1, va_up_ne _ _ (Ne.symm n1)] at h; exact h
  have kf : ∀ x, x ≠ po → x ≠ q_3 → x ≠ q_10 → M_20 x = M x := fun x a1 a2 a3 => by rw [eM, eM_15, eM_11, eM_7, eM_4, eM_1]; simp only [va_up_ne _ _ a1, va_up_ne _ _ a2, va_up_ne _ _ a3]
  exact hp_vret hx hb hr hlocks hQ hK hH hS (Nat.le_of_ble_eq_true rfl) (Nat.le_of_ble_eq_true rfl) d_Ou_init_34 ⟨q_3, q_10, g, kq, kz, Ne.symm n2, hg, k1, k3, k2, kf⟩
end
section
theorem kw_79 : Cond.fieldLink R_Sw 45 "EvenSwitch$Input" "offered" "LEvenSwitch$Cell;" ∈ wd_T := wd_in (List.mem_of_getElem? (i := 45) (by decide +kernel)) rfl
theorem kw_80 : Cond.fieldLink R_Sw 106 "EvenSwitch$Cell" "output" "I" ∈ wd_T := wd_in (List.mem_of_getElem? (i := 133) (by decide +kernel)) rfl
theorem kw_81 : Cond.methodLink R_Sw 31 y_Sw_isOfferedFor ∈ wd_T := wd_in (List.mem_of_getElem? (i := 108) (by decide +kernel)) rfl
theorem kw_82 : Cond.code y_Sw_isOfferedFor b_Sw_isOfferedFor 4 (some .boolean) ∈ wd_T := wd_in (List.mem_of_getElem? (i := 111) (by decide +kernel)) rfl
theorem kw_83 : Cond.instanceMethod y_Sw_isOfferedFor ∈ wd_T := wd_in (List.mem_of_getElem? (i := 110) (by decide +kernel)) rfl
theorem kw_84 : Cond.selects R_Sw y_Sw_isOfferedFor y_Sw_isOfferedFor ∈ wd_T := wd_in (List.mem_of_getElem? (i := 0) (by decide +kernel)) rfl
theorem kw_85 : Cond.fieldLink R_Sw 34 "EvenSwitch$Output" "kind" "I" ∈ wd_T := wd_in (List.mem_of_getElem? (i := 63) (by decide +kernel)) rfl
theorem d_Sw_isOfferedFor_0 : decode b_Sw_isOfferedFor 0 = .ok (.iconst 0, 1) := by decide +kernel
theorem d_Sw_isOfferedFor_1 : decode b_Sw_isOfferedFor 1 = .ok (.istore_n 2, 1) := by decide +kernel
theorem d_Sw_isOfferedFor_2 : decode b_Sw_isOfferedFor 2 = .ok (.iload_n 2, 1) := by decide +kernel
theorem d_Sw_isOfferedFor_3 : decode b_Sw_isOfferedFor 3 = .ok (.bipush 8, 2) := by decide +kernel
theorem d_Sw_isOfferedFor_5 : decode b_Sw_isOfferedFor 5 = .ok (.if_icmp .ge 33, 3) := by decide +kernel
theorem d_Sw_isOfferedFor_8 : decode b_Sw_isOfferedFor 8 = .ok (.aload_n 0, 1) := by decide +kernel
theorem d_Sw_isOfferedFor_9 : decode b_Sw_isOfferedFor 9 = .ok (.getfield 11, 3) := by decide +kernel
theorem d_Sw_isOfferedFor_12 : decode b_Sw_isOfferedFor 12 = .ok (.iload_n 2, 1) := by decide +kernel
theorem d_Sw_isOfferedFor_13 : decode b_Sw_isOfferedFor 13 = .ok (.aaload, 1) := by decide +kernel
theorem d_Sw_isOfferedFor_14 : decode b_Sw_isOfferedFor 14 = .ok (.getfield 45, 3) := by decide +kernel
theorem d_Sw_isOfferedFor_17 : decode b_Sw_isOfferedFor 17 = .ok (.astore_n 3, 1) := by decide +kernel
theorem d_Sw_isOfferedFor_18 : decode b_Sw_isOfferedFor 18 = .ok (.aload_n 3, 1) := by decide +kernel
theorem d_Sw_isOfferedFor_19 : decode b_Sw_isOfferedFor 19 = .ok (.ifnull 13, 3) := by decide +kernel
theorem d_Sw_isOfferedFor_22 : decode b_Sw_isOfferedFor 22 = .ok (.aload_n 3, 1) := by decide +kernel
theorem d_Sw_isOfferedFor_23 : decode b_Sw_isOfferedFor 23 = .ok (.getfield 106, 3) := by decide +kernel
theorem d_Sw_isOfferedFor_26 : decode b_Sw_isOfferedFor 26 = .ok (.iload_n 1, 1) := by decide +kernel
theorem d_Sw_isOfferedFor_27 : decode b_Sw_isOfferedFor 27 = .ok (.if_icmp .ne 5, 3) := by decide +kernel
theorem d_Sw_isOfferedFor_30 : decode b_Sw_isOfferedFor 30 = .ok (.iconst 1, 1) := by decide +kernel
theorem d_Sw_isOfferedFor_31 : decode b_Sw_isOfferedFor 31 = .ok (.ireturn, 1) := by decide +kernel
theorem d_Sw_isOfferedFor_32 : decode b_Sw_isOfferedFor 32 = .ok (.iinc 2 1, 3) := by decide +kernel
theorem d_Sw_isOfferedFor_35 : decode b_Sw_isOfferedFor 35 = .ok (.goto (-33), 3) := by decide +kernel
theorem d_Sw_isOfferedFor_38 : decode b_Sw_isOfferedFor 38 = .ok (.iconst 0, 1) := by decide +kernel
theorem d_Sw_isOfferedFor_39 : decode b_Sw_isOfferedFor 39 = .ok (.ireturn, 1) := by decide +kernel
theorem d_Sw_setOrder_0 : decode b_Sw_setOrder 0 = .ok (.iload_n 1, 1) := by decide +kernel
theorem d_Sw_setOrder_1 : decode b_Sw_setOrder 1 = .ok (.invokestatic 23, 3) := by decide +kernel
theorem d_Sw_setOrder_4 : decode b_Sw_setOrder 4 = .ok (.ifCond .eq 12, 3) := by decide +kernel
theorem d_Sw_setOrder_7 : decode b_Sw_setOrder 7 = .ok (.iload_n 2, 1) := by decide +kernel
theorem d_Sw_setOrder_8 : decode b_Sw_setOrder 8 = .ok (.ifCond .lt 8, 3) := by decide +kernel
theorem d_Sw_setOrder_11 : decode b_Sw_setOrder 11 = .ok (.iload_n 2, 1) := by decide +kernel
theorem d_Sw_setOrder_12 : decode b_Sw_setOrder 12 = .ok (.iconst 2, 1) := by decide +kernel
theorem d_Sw_setOrder_13 : decode b_Sw_setOrder 13 = .ok (.if_icmp .le 5, 3) := by decide +kernel
theorem d_Sw_setOrder_16 : decode b_Sw_setOrder 16 = .ok (.iconst 0, 1) := by decide +kernel
theorem d_Sw_setOrder_17 : decode b_Sw_setOrder 17 = .ok (.ireturn, 1) := by decide +kernel
theorem d_Sw_setOrder_18 : decode b_Sw_setOrder 18 = .ok (.aload_n 0, 1) := by decide +kernel
theorem d_Sw_setOrder_19 : decode b_Sw_setOrder 19 = .ok (.getfield 17, 3) := by decide +kernel
theorem d_Sw_setOrder_22 : decode b_Sw_setOrder 22 = .ok (.iload_n 1, 1) := by decide +kernel
theorem d_Sw_setOrder_23 : decode b_Sw_setOrder 23 = .ok (.aaload, 1) := by decide +kernel
theorem d_Sw_setOrder_24 : decode b_Sw_setOrder 24 = .ok (.getfield 27, 3) := by decide +kernel
theorem d_Sw_setOrder_27 : decode b_Sw_setOrder 27 = .ok (.ifCond .gt 11, 3) := by decide +kernel
theorem d_Sw_setOrder_30 : decode b_Sw_setOrder 30 = .ok (.aload_n 0, 1) := by decide +kernel
theorem d_Sw_setOrder_31 : decode b_Sw_setOrder 31 = .ok (.iload_n 1, 1) := by decide +kernel
theorem d_Sw_setOrder_32 : decode b_Sw_setOrder 32 = .ok (.invokevirtual 31, 3) := by decide +kernel
theorem d_Sw_setOrder_35 : decode b_Sw_setOrder 35 = .ok (.ifCond .eq 5, 3) := by decide +kernel
theorem d_Sw_setOrder_38 : decode b_Sw_setOrder 38 = .ok (.iconst 0, 1) := by decide +kernel
theorem d_Sw_setOrder_39 : decode b_Sw_setOrder 39 = .ok (.ireturn, 1) := by decide +kernel
theorem d_Sw_setOrder_40 : decode b_Sw_setOrder 40 = .ok (.aload_n 0, 1) := by decide +kernel
theorem d_Sw_setOrder_41 : decode b_Sw_setOrder 41 = .ok (.getfield 17, 3) := by decide +kernel
theorem d_Sw_setOrder_44 : decode b_Sw_setOrder 44 = .ok (.iload_n 1, 1) := by decide +kernel
theorem d_Sw_setOrder_45 : decode b_Sw_setOrder 45 = .ok (.aaload, 1) := by decide +kernel
theorem d_Sw_setOrder_46 : decode b_Sw_setOrder 46 = .ok (.iload_n 2, 1) := by decide +kernel
theorem d_Sw_setOrder_47 : decode b_Sw_setOrder 47 = .ok (.putfield 34, 3) := by decide +kernel
theorem d_Sw_setOrder_50 : decode b_Sw_setOrder 50 = .ok (.iconst 1, 1) := by decide +kernel
theorem d_Sw_setOrder_51 : decode b_Sw_setOrder 51 = .ok (.ireturn, 1) := by decide +kernel
abbrev rm_Sw_isOfferedFor : Room := { frames := 0, cells := 0, slots := 0, locals := 0 }
set_option maxHeartbeats 4000000 in
set_option maxRecDepth 100000 in
theorem cn_Sw_isOfferedFor (l : Launch) (D : va_G) (B : Nat) (M : hp_M) (a : Nat) (σ : sg_S) (F : Nat → Prop) (o : Nat) (hsw : sw_H D M a σ F) (hinv : sg_inv σ) (ho8 : o < 8) : Met l y_Sw_isOfferedFor (wd_c y_Sw_isOfferedFor b_Sw_isOfferedFor 4 (some .boolean)) rm_Sw_isOfferedFor (va_Pc [.ref a, .int (nI o)] (hp_C D B M)) (va_Qi (fun (r : Int32) (M1 : hp_M) => M1 = M ∧ ((r = 1 ∧ sg_offTo σ o) ∨ (r = 0 ∧ ¬ sg_offTo σ o))) (hp_C D B) (hp_ub B)) 0 0 (hp_ub B) := by
  refine hp_met (by decide) (Nat.le_of_ble_eq_true rfl) ?_
  intro p e s m args below meth cd ls Q hQ hx hb hr hts hown hlocks hnm hml hK hH hS hB hl
  replace hl : lv_has ls 4 [(0, .ref a), (1, .int (nI o))] := hl
  have hsw0 := hsw
  obtain ⟨aI, aO, fI, fO, oa, la, ip, op, sp, lp, LQ, ow, ⟨h1, h2, h3⟩, ⟨w1, w2, w3⟩, hi, ho, hf⟩ := hsw0
  refine lv_iconst (v := 0) hx hb d_Sw_isOfferedFor_0 (by decide) ?_
  refine lv_istore_n (lv' := [(2, .int 0), (0, .ref a), (1, .int (nI o))]) hx hb d_Sw_isOfferedFor_1 rfl hl (by decide) rfl (fun ls hl => ?_)
  have Lp : ∀ (n i : Nat) (ls : Array Slot), i + n = 8 → (∀ j, j < i → ∀ c, sg_of σ j = some c → sg_co c ≠ o) → lv_has ls 4 [(2, .int (nI i)), (0, .ref a), (1, .int (nI o))] → W p l e rm_Sw_isOfferedFor s m args below meth cd s.heap [] 0 0 Q (F0 m 2 ls []) := by
    intro n
    induction n with
    | zero =>
      intro i ls hn hno hl
      refine lv_iload_n hx hb d_Sw_isOfferedFor_2 rfl (lv_at hl 0 rfl) ?_
      refine lv_bipush (v := 8) hx hb d_Sw_isOfferedFor_3 (by decide) ?_
      refine lv_icmp_ge (tgt := 38) hx hb d_Sw_isOfferedFor_5 (by decide) (fun c_1 => ?_) (fun c_1 => absurd (nI_le (a := 8) (by omega) (by omega)) c_1)
      refine lv_iconst (v := 0) hx hb d_Sw_isOfferedFor_38 (by decide) ?_
      exact hp_zret hx hb hr hlocks hQ hK hH hS (Nat.le_of_ble_eq_true rfl) (Nat.le_of_ble_eq_true rfl) rfl d_Sw_isOfferedFor_39 ⟨rfl, Or.inr ⟨rfl, fun ⟨j, hj, c, hc, e⟩ => hno j (by omega) c hc e⟩⟩
    | succ n ih =>
      intro i ls hn hno hl
      have hi8 : i < 8 := by omega
      obtain ⟨i1, i2, i3, i4⟩ := hi i hi8
      refine lv_iload_n hx hb d_Sw_isOfferedFor_2 rfl (lv_at hl 0 rfl) ?_
      refine lv_bipush (v := 8) hx hb d_Sw_isOfferedFor_3 (by decide) ?_
      refine lv_icmp_ge (tgt := 38) hx hb d_Sw_isOfferedFor_5 (by decide) (fun c_2 => absurd c_2 (nI_ge (b := 8) (by omega) (by omega))) (fun c_2 => ?_)
      refine lv_aload_n hx hb d_Sw_isOfferedFor_8 rfl (lv_at hl 1 rfl) ?_
      refine hp_get hx hb hts iw_Sw hown hK hH h1 rfl 0 (by decide) (hts _ kw_14) (v := .ref aI) rfl d_Sw_isOfferedFor_9 ?_
      refine lv_iload_n hx hb d_Sw_isOfferedFor_12 rfl (lv_at hl 0 rfl) ?_
      refine hp_aald hx hb hK hH h2 2 rfl i rfl hi8 (by decide) (hi i hi8).1 d_Sw_isOfferedFor_13 ?_
      refine hp_get hx hb hts iw_In hown hK hH i2 rfl 0 (by decide) (hts _ kw_79) (v := va_rf (oa i)) rfl d_Sw_isOfferedFor_14 ?_
      refine hp_astore_n (lv' := [(3, va_rf (oa i)), (2, .int (nI i)), (0, .ref a), (1, .int (nI o))]) hx hb d_Sw_isOfferedFor_17 rfl hl (by decide) rfl (fun ls hl => ?_)
      refine hp_aload_n hx hb d_Sw_isOfferedFor_18 rfl (lv_at hl 0 rfl) ?_
      refine hp_ifnull (tgt := 32) hx hb d_Sw_isOfferedFor_19 (by decide) (fun c_3 => ?_) (fun q_4 c_3 => ?_)
      · refine lv_iinc (v := nI (i + 1)) (lv' := [(2, .int (nI (i + 1))), (3, va_rf (oa i)), (0, .ref a), (1, .int (nI o))]) hx hb d_Sw_isOfferedFor_32 hl (k := 1) rfl (nI_1 i) (by decide) rfl (fun ls hl => ?_)
        refine lv_goto (tgt := 2) hx hb d_Sw_isOfferedFor_35 (by decide) ?_
        exact ih (i + 1) ls (by omega) (fun j hj c hc => by rcases Nat.lt_succ_iff_lt_or_eq.mp hj with w | w; exact hno j w c hc; subst w; rw [c_3] at i4; rw [sw_one_no i4] at hc; cases hc) (lv_sub hl [0, 2, 3] rfl)
      · rw [c_3] at i4 hl
        obtain ⟨d, e1, e2, e3⟩ := sw_one_yes i4
        replace hl : lv_has ls 4 [(3, .ref q_4), (2, .int (nI i)), (0, .ref a), (1, .int (nI o))] := hl
        refine lv_aload_n hx hb d_Sw_isOfferedFor_22 rfl (lv_at hl 0 rfl) ?_
        refine hp_get hx hb hts iw_Ce hown hK hH e2 rfl 1 (by decide) (hts _ kw_80) (v := .int (nI (sg_co d))) rfl d_Sw_isOfferedFor_23 ?_
        refine lv_iload_n hx hb d_Sw_isOfferedFor_26 rfl (lv_at hl 3 rfl) ?_
        refine lv_icmp_ne (tgt := 32) hx hb d_Sw_isOfferedFor_27 (by decide) (fun c_5 => ?_) (fun c_5 => ?_)
        · refine lv_iinc (v := nI (i + 1)) (lv' := [(2, .int (nI (i + 1))), (3, .ref q_4), (0, .ref a), (1, .int (nI o))]) hx hb d_Sw_isOfferedFor_32 hl (k := 1) rfl (nI_1 i) (by decide) rfl (fun ls hl => ?_)
          refine lv_goto (tgt := 2) hx hb d_Sw_isOfferedFor_35 (by decide) ?_
          exact ih (i + 1) ls (by omega) (fun j hj c hc => by rcases Nat.lt_succ_iff_lt_or_eq.mp hj with w | w; exact hno j w c hc; subst w; rw [e1] at hc; cases hc; exact fun q => c_5 (by rw [q])) (lv_sub hl [0, 2, 3] rfl)
        · refine lv_iconst (v := 1) hx hb d_Sw_isOfferedFor_30 (by decide) ?_
          exact hp_zret hx hb hr hlocks hQ hK hH hS (Nat.le_of_ble_eq_true rfl) (Nat.le_of_ble_eq_true rfl) rfl d_Sw_isOfferedFor_31 ⟨rfl, Or.inl ⟨rfl, i, hi8, d, e1, (nI_eq (by have := (hinv.2.1 i hi8).2 d e1; omega) (by omega)).mp c_5⟩⟩
  exact Lp 8 0 ls (by omega) (fun j hj => absurd hj (Nat.not_lt_zero j)) (lv_sub hl [0, 1, 2] rfl)
abbrev rm_Sw_setOrder : Room := { frames := 1, cells := 0, slots := 0, locals := 23 }
set_option maxHeartbeats 4000000 in
set_option maxRecDepth 100000 in
theorem cn_Sw_setOrder (l : Launch) (D : va_G) (B : Nat) (M : hp_M) (a : Nat) (σ : sg_S) (F : Nat → Prop) (x k : Int32) (hsw : sw_H D M a σ F) (hinv : sg_inv σ) (hac : sg_ac σ ≤ 512) : Met l y_Sw_setOrder (wd_c y_Sw_setOrder b_Sw_setOrder 3 (some .boolean)) rm_Sw_setOrder (va_Pc [.ref a, .int x, .int k] (hp_C D B M)) (va_Qi (fun (r : Int32) (M1 : hp_M) => ∃ τ, tr_setOrder σ x k r τ ∧ sw_H D M1 a τ F ∧ sw_fr F M M1) (hp_C D B) (hp_ub B)) 0 0 (hp_ub B) := by
  rcases sg_ok_or x k with hix | ⟨o, hk, rfl, hix, hbad⟩ | ⟨o, hk, rfl, hix, hgood⟩
  · refine hp_met (by decide) (Nat.le_of_ble_eq_true rfl) ?_
    intro p e s m args below meth cd ls Q hQ hx hb hr hts hown hlocks hnm hml hK hH hS hB hl
    replace hl : lv_has ls 3 [(0, .ref a), (1, .int x), (2, .int k)] := hl
    refine lv_iload_n hx hb d_Sw_setOrder_0 rfl (lv_at hl 1 rfl) ?_
    refine hp_calli (hp_runS (As := [.int x]) (rest := []) hx hb hml hown (cn_Sw_isPort l D B M x) (hp_cwS 1 hts kw_1 kw_4 kw_2 kw_3 rfl rfl (by decide +kernel) ⟨(Nat.le_of_ble_eq_true rfl), (Nat.le_of_ble_eq_true rfl)⟩) hK hH rfl hl.1 rfl (Nat.le_of_ble_eq_true rfl) d_Sw_setOrder_1 ⟨(Nat.le_of_ble_eq_true rfl), (Nat.le_of_ble_eq_true rfl)⟩) hS (fun r_1 M_2 H locs w_3 hH hS => ?_)
    obtain ⟨eM, eR⟩ := w_3
    rw [eM] at hH
    rw [eR]
    refine lv_if_eq (tgt := 16) hx hb d_Sw_setOrder_4 (by decide) (fun c_4 => ?_) (fun c_4 => absurd (sg_port_none hix) c_4)
    refine lv_iconst (v := 0) hx hb d_Sw_setOrder_16 (by decide) ?_
    exact hp_zret hx hb hr hlocks hQ hK hH hS (Nat.le_of_ble_eq_true rfl) (Nat.le_of_ble_eq_true rfl) rfl d_Sw_setOrder_17 ⟨σ, Or.inr ⟨(fun o h => by rw [hix] at h; cases h), rfl, rfl⟩, hsw, sw_fr_rf⟩
  · refine hp_met (by decide) (Nat.le_of_ble_eq_true rfl) ?_
    intro p e s m args below meth cd ls Q hQ hx hb hr hts hown hlocks hnm hml hK hH hS hB hl
    replace hl : lv_has ls 3 [(0, .ref a), (1, .int (nI o)), (2, .int k)] := hl
    refine lv_iload_n hx hb d_Sw_setOrder_0 rfl (lv_at hl 1 rfl) ?_
    refine hp_calli (hp_runS (As := [.int (nI o)]) (rest := []) hx hb hml hown (cn_Sw_isPort l D B M (nI o)) (hp_cwS 1 hts kw_1 kw_4 kw_2 kw_3 rfl rfl (by decide +kernel) ⟨(Nat.le_of_ble_eq_true rfl), (Nat.le_of_ble_eq_true rfl)⟩) hK hH rfl hl.1 rfl (Nat.le_of_ble_eq_true rfl) d_Sw_setOrder_1 ⟨(Nat.le_of_ble_eq_true rfl), (Nat.le_of_ble_eq_true rfl)⟩) hS (fun r_1 M_2 H locs w_3 hH hS => ?_)
    obtain ⟨eM, eR⟩ := w_3
    rw [eM] at hH
    rw [eR]
    refine lv_if_eq (tgt := 16) hx hb d_Sw_setOrder_4 (by decide) (fun c_4 => absurd c_4 (by rw [sg_port_some hix]; decide)) (fun c_4 => ?_)
    refine lv_iload_n hx hb d_Sw_setOrder_7 rfl (lv_at hl 2 rfl) ?_
    refine lv_if_lt (tgt := 16) hx hb d_Sw_setOrder_8 (by decide) (fun c_5 => ?_) (fun c_5 => ?_)
    · refine lv_iconst (v := 0) hx hb d_Sw_setOrder_16 (by decide) ?_
      exact hp_zret hx hb hr hlocks hQ hK hH hS (Nat.le_of_ble_eq_true rfl) (Nat.le_of_ble_eq_true rfl) rfl d_Sw_setOrder_17 ⟨σ, Or.inr ⟨(fun o h t => hbad ⟨t.1, t.2.1⟩), rfl, rfl⟩, hsw, sw_fr_rf⟩
    · refine lv_iload_n hx hb d_Sw_setOrder_11 rfl (lv_at hl 2 rfl) ?_
      refine lv_iconst (v := 2) hx hb d_Sw_setOrder_12 (by decide) ?_
      refine lv_icmp_le (tgt := 18) hx hb d_Sw_setOrder_13 (by decide) (fun c_6 => ?_) (fun c_6 => ?_)
      · exact absurd ⟨Int32.not_lt.mp c_5, c_6⟩ hbad
      · refine lv_iconst (v := 0) hx hb d_Sw_setOrder_16 (by decide) ?_
        exact hp_zret hx hb hr hlocks hQ hK hH hS (Nat.le_of_ble_eq_true rfl) (Nat.le_of_ble_eq_true rfl) rfl d_Sw_setOrder_17 ⟨σ, Or.inr ⟨(fun o h t => hbad ⟨t.1, t.2.1⟩), rfl, rfl⟩, hsw, sw_fr_rf⟩
  · refine hp_met (by decide) (Nat.le_of_ble_eq_true rfl) ?_
    intro p e s m args below meth cd ls Q hQ hx hb hr hts hown hlocks hnm hml hK hH hS hB hl
    replace hl : lv_has ls 3 [(0, .ref a), (1, .int (nI o)), (2, .int k)] := hl
    have hsw0 := hsw
    obtain ⟨aI, aO, fI, fO, oa, la, ip, op, sp, lp, LQ, ow, hP⟩ := hsw0
    have hP0 := hP
    obtain ⟨⟨h1, h2, h3⟩, ⟨w1, w2, w3⟩, hi, ho, hf⟩ := hP0
    obtain ⟨o1, o2, o3, ⟨ofs, o4, o4'⟩, o5, ⟨ofl, o6, o6'⟩, o7, ⟨o8, o9, o10⟩, o11⟩ := ho o hk
    have hlen512 := Nat.le_trans (sg_len_le hinv hk) hac
    refine lv_iload_n hx hb d_Sw_setOrder_0 rfl (lv_at hl 1 rfl) ?_
    refine hp_calli (hp_runS (As := [.int (nI o)]) (rest := []) hx hb hml hown (cn_Sw_isPort l D B M (nI o)) (hp_cwS 1 hts kw_1 kw_4 kw_2 kw_3 rfl rfl (by decide +kernel) ⟨(Nat.le_of_ble_eq_true rfl), (Nat.le_of_ble_eq_true rfl)⟩) hK hH rfl hl.1 rfl (Nat.le_of_ble_eq_true rfl) d_Sw_setOrder_1 ⟨(Nat.le_of_ble_eq_true rfl), (Nat.le_of_ble_eq_true rfl)⟩) hS (fun r_1 M_2 H locs w_3 hH hS => ?_)
    obtain ⟨eM, eR⟩ := w_3
    rw [eM] at hH
    rw [eR]
    refine lv_if_eq (tgt := 16) hx hb d_Sw_setOrder_4 (by decide) (fun c_4 => absurd c_4 (by rw [sg_port_some hix]; decide)) (fun c_4 => ?_)
    refine lv_iload_n hx hb d_Sw_setOrder_7 rfl (lv_at hl 2 rfl) ?_
    refine lv_if_lt (tgt := 16) hx hb d_Sw_setOrder_8 (by decide) (fun c_5 => absurd c_5 (Int32.not_lt.mpr hgood.1)) (fun c_5 => ?_)
    refine lv_iload_n hx hb d_Sw_setOrder_11 rfl (lv_at hl 2 rfl) ?_
    refine lv_iconst (v := 2) hx hb d_Sw_setOrder_12 (by decide) ?_
    refine lv_icmp_le (tgt := 18) hx hb d_Sw_setOrder_13 (by decide) (fun c_6 => ?_) (fun c_6 => absurd hgood.2 c_6)
    refine lv_aload_n hx hb d_Sw_setOrder_18 rfl (lv_at hl 0 rfl) ?_
    refine hp_get hx hb hts iw_Sw hown hK hH h1 rfl 1 (by decide) (hts _ kw_5) (v := .ref aO) rfl d_Sw_setOrder_19 ?_
    refine lv_iload_n hx hb d_Sw_setOrder_22 rfl (lv_at hl 1 rfl) ?_
    refine hp_aald hx hb hK hH h3 3 rfl o rfl hk (by decide) (ho o hk).1 d_Sw_setOrder_23 ?_
    refine hp_get hx hb hts iw_Ou hown hK hH o2 rfl 4 (by decide) (hts _ kw_16) (v := .int (nI (sg_qu σ o).length)) rfl d_Sw_setOrder_24 ?_
    refine lv_if_gt (tgt := 38) hx hb d_Sw_setOrder_27 (by decide) (fun c_7 => ?_) (fun c_7 => ?_)
    · refine lv_iconst (v := 0) hx hb d_Sw_setOrder_38 (by decide) ?_
      exact hp_zret hx hb hr hlocks hQ hK hH hS (Nat.le_of_ble_eq_true rfl) (Nat.le_of_ble_eq_true rfl) rfl d_Sw_setOrder_39 ⟨σ, Or.inr ⟨(fun o' h t => by rw [hix] at h; cases h; rw [t.2.2.1] at c_7; exact absurd c_7 (by decide)), rfl, rfl⟩, hsw, sw_fr_rf⟩
    · have hq0 : sg_qu σ o = [] := sw_len0 hlen512 c_7
      refine lv_aload_n hx hb d_Sw_setOrder_30 rfl (lv_at hl 0 rfl) ?_
      refine lv_iload_n hx hb d_Sw_setOrder_31 rfl (lv_at hl 1 rfl) ?_
      refine hp_calli (hp_runV (b := a) (As := [.int (nI o)]) (rest := []) hx hb hml hown (cn_Sw_isOfferedFor l D B M a σ F o hsw hinv hk) (hp_cwV 1 hts kw_81 kw_83 kw_84 kw_2 kw_82 rfl rfl (by decide +kernel) ⟨(Nat.le_of_ble_eq_true rfl), (Nat.le_of_ble_eq_true rfl)⟩) hK hH h1 rfl rfl hl.1 rfl (Nat.le_of_ble_eq_true rfl) d_Sw_setOrder_32 ⟨(Nat.le_of_ble_eq_true rfl), (Nat.le_of_ble_eq_true rfl)⟩) hS (fun r_8 M_9 H locs w_10 hH hS => ?_)
      rcases w_10 with ⟨eM, ⟨eR, hof⟩ | ⟨eR, hof⟩⟩
      · rw [eM] at hH
        rw [eR]
        refine lv_if_eq (tgt := 40) hx hb d_Sw_setOrder_35 (by decide) (fun c_11 => absurd c_11 (by decide)) (fun c_11 => ?_)
        refine lv_iconst (v := 0) hx hb d_Sw_setOrder_38 (by decide) ?_
        exact hp_zret hx hb hr hlocks hQ hK hH hS (Nat.le_of_ble_eq_true rfl) (Nat.le_of_ble_eq_true rfl) rfl d_Sw_setOrder_39 ⟨σ, Or.inr ⟨(fun o' h t => by rw [hix] at h; cases h; exact t.2.2.2 hof), rfl, rfl⟩, hsw, sw_fr_rf⟩
      · rw [eM] at hH
        rw [eR]
        refine lv_if_eq (tgt := 40) hx hb d_Sw_setOrder_35 (by decide) (fun c_12 => ?_) (fun c_12 => absurd rfl c_12)
        refine lv_aload_n hx hb d_Sw_setOrder_40 rfl (lv_at hl 0 rfl) ?_
        refine hp_get hx hb hts iw_Sw hown hK hH h1 rfl 1 (by decide) (hts _ kw_5) (v := .ref aO) rfl d_Sw_setOrder_41 ?_
        refine lv_iload_n hx hb d_Sw_setOrder_44 rfl (lv_at hl 1 rfl) ?_
        refine hp_aald hx hb hK hH h3 3 rfl o rfl hk (by decide) (ho o hk).1 d_Sw_setOrder_45 ?_
        refine lv_iload_n hx hb d_Sw_setOrder_46 rfl (lv_at hl 2 rfl) ?_
        refine hp_put hx hb hts iw_Ou t_Ou t_Ou_ok n_Ou hown hK hH hS hB o2 rfl 0 (by decide) (hts _ kw_85) rfl  (v := .int k) rfl rfl (Nat.le_of_ble_eq_true rfl) (fs' := [.int k, .ref (sp o), .ref (lp o), va_rf (sw_hd (LQ o) none), .int (nI (sg_qu σ o).length), va_rf (la o)]) rfl d_Sw_setOrder_47 (fun M_13 H locs eM_13 hH hS => ?_)
        have f_14 : M_13 (op o) = some (.inr (ix_ou, [.int k, .ref (sp o), .ref (lp o), va_rf (sw_hd (LQ o) none), .int (nI (sg_qu σ o).length), va_rf (la o)])) := by rw [eM_13]; exact va_up_self _ _ _
        have f_15 : M_13 a = some (.inr (ix_sw, [.ref aI, .ref aO, .int (sg_sl σ), .long (lN (sg_ac σ))])) := by rw [eM_13, va_up_ne _ _ (hp_ne ix_sw ix_ou h1 o2 rfl rfl (by decide))]; exact h1
        have f_16 : M_13 aI = some (hp_aq D 12 8 fI) := by rw [eM_13, va_up_ne _ _ (hp_ne 102 ix_ou h2 o2 rfl rfl (by decide))]; exact h2
        have f_17 : M_13 aO = some (hp_aq D 13 8 fO) := by rw [eM_13, va_up_ne _ _ (hp_ne 102 ix_ou h3 o2 rfl rfl (by decide))]; exact h3
        have f_18 : M_13 (sp o) = some (hp_ai D 8 ofs) := by rw [eM_13, va_up_ne _ _ (hp_ne 100 ix_ou o4 o2 rfl rfl (by decide))]; exact o4
        have f_19 : M_13 (lp o) = some (hp_al D 8 ofl) := by rw [eM_13, va_up_ne _ _ (hp_ne 101 ix_ou o6 o2 rfl rfl (by decide))]; exact o6
        refine lv_iconst (v := 1) hx hb d_Sw_setOrder_50 (by decide) ?_
        exact hp_zret hx hb hr hlocks hQ hK hH hS (Nat.le_of_ble_eq_true rfl) (Nat.le_of_ble_eq_true rfl) rfl d_Sw_setOrder_51 (by obtain ⟨p1, p2⟩ := sw_do_setO hP hk (k := k) eM_13; exact ⟨_, Or.inl ⟨o, hix, ⟨hgood.1, hgood.2, hq0, hof⟩, rfl, rfl⟩, ⟨aI, aO, fI, fO, oa, la, ip, op, sp, lp, LQ, ow, p1⟩, p2⟩)
end
section
theorem kw_86 : Cond.methodLink R_Sw 37 y_Sw_isClass ∈ wd_T := wd_in (List.mem_of_getElem? (i := 116) (by decide +kernel)) rfl
theorem kw_87 : Cond.code y_Sw_isClass b_Sw_isClass 1 (some .boolean) ∈ wd_T := wd_in (List.mem_of_getElem? (i := 118) (by decide +kernel)) rfl
theorem kw_88 : Cond.static y_Sw_isClass ∈ wd_T := wd_in (List.mem_of_getElem? (i := 117) (by decide +kernel)) rfl
theorem kw_89 : Cond.fieldLink R_Sw 40 "EvenSwitch$Output" "steps" "[I" ∈ wd_T := wd_in (List.mem_of_getElem? (i := 65) (by decide +kernel)) rfl
theorem kw_90 : Cond.constant R_Sw 44 65536 ∈ wd_T := wd_in (List.mem_of_getElem? (i := 119) (by decide +kernel)) rfl
theorem kw_91 : Cond.classLink R_Sw 52 R_Ce ∈ wd_T := wd_in (List.mem_of_getElem? (i := 124) (by decide +kernel)) rfl
theorem kw_92 : Cond.instantiable R_Ce 8 ∈ wd_T := wd_in (List.mem_of_getElem? (i := 125) (by decide +kernel)) rfl
theorem kw_93 : Cond.initialized R_Ce ∈ wd_T := wd_in (List.mem_of_getElem? (i := 25) (by decide +kernel)) rfl
theorem kw_94 : Cond.fieldLink R_Sw 54 "EvenSwitch" "acceptedCells" "J" ∈ wd_T := wd_in (List.mem_of_getElem? (i := 91) (by decide +kernel)) rfl
theorem kw_95 : Cond.methodLink R_Sw 58 y_Ce_init ∈ wd_T := wd_in (List.mem_of_getElem? (i := 126) (by decide +kernel)) rfl
theorem kw_96 : Cond.code y_Ce_init b_Ce_init 7 none ∈ wd_T := wd_in (List.mem_of_getElem? (i := 128) (by decide +kernel)) rfl
theorem kw_97 : Cond.instanceMethod y_Ce_init ∈ wd_T := wd_in (List.mem_of_getElem? (i := 127) (by decide +kernel)) rfl
theorem d_Sw_setWeight_0 : decode b_Sw_setWeight 0 = .ok (.iload_n 1, 1) := by decide +kernel
theorem d_Sw_setWeight_1 : decode b_Sw_setWeight 1 = .ok (.invokestatic 23, 3) := by decide +kernel
theorem d_Sw_setWeight_4 : decode b_Sw_setWeight 4 = .ok (.ifCond .eq 22, 3) := by decide +kernel
theorem d_Sw_setWeight_7 : decode b_Sw_setWeight 7 = .ok (.iload_n 2, 1) := by decide +kernel
theorem d_Sw_setWeight_8 : decode b_Sw_setWeight 8 = .ok (.invokestatic 37, 3) := by decide +kernel
theorem d_Sw_setWeight_11 : decode b_Sw_setWeight 11 = .ok (.ifCond .eq 15, 3) := by decide +kernel
theorem d_Sw_setWeight_14 : decode b_Sw_setWeight 14 = .ok (.iload_n 3, 1) := by decide +kernel
theorem d_Sw_setWeight_15 : decode b_Sw_setWeight 15 = .ok (.iconst 1, 1) := by decide +kernel
theorem d_Sw_setWeight_16 : decode b_Sw_setWeight 16 = .ok (.if_icmp .lt 10, 3) := by decide +kernel
theorem d_Sw_setWeight_19 : decode b_Sw_setWeight 19 = .ok (.iload_n 3, 1) := by decide +kernel
theorem d_Sw_setWeight_20 : decode b_Sw_setWeight 20 = .ok (.sipush 255, 3) := by decide +kernel
theorem d_Sw_setWeight_23 : decode b_Sw_setWeight 23 = .ok (.if_icmp .le 5, 3) := by decide +kernel
theorem d_Sw_setWeight_26 : decode b_Sw_setWeight 26 = .ok (.iconst 0, 1) := by decide +kernel
theorem d_Sw_setWeight_27 : decode b_Sw_setWeight 27 = .ok (.ireturn, 1) := by decide +kernel
theorem d_Sw_setWeight_28 : decode b_Sw_setWeight 28 = .ok (.aload_n 0, 1) := by decide +kernel
theorem d_Sw_setWeight_29 : decode b_Sw_setWeight 29 = .ok (.getfield 17, 3) := by decide +kernel
theorem d_Sw_setWeight_32 : decode b_Sw_setWeight 32 = .ok (.iload_n 1, 1) := by decide +kernel
theorem d_Sw_setWeight_33 : decode b_Sw_setWeight 33 = .ok (.aaload, 1) := by decide +kernel
theorem d_Sw_setWeight_34 : decode b_Sw_setWeight 34 = .ok (.getfield 40, 3) := by decide +kernel
theorem d_Sw_setWeight_37 : decode b_Sw_setWeight 37 = .ok (.iload_n 2, 1) := by decide +kernel
theorem d_Sw_setWeight_38 : decode b_Sw_setWeight 38 = .ok (.ldc 44, 2) := by decide +kernel
theorem d_Sw_setWeight_40 : decode b_Sw_setWeight 40 = .ok (.iload_n 3, 1) := by decide +kernel
theorem d_Sw_setWeight_41 : decode b_Sw_setWeight 41 = .ok (.iadd, 1) := by decide +kernel
theorem d_Sw_setWeight_42 : decode b_Sw_setWeight 42 = .ok (.iconst 1, 1) := by decide +kernel
theorem d_Sw_setWeight_43 : decode b_Sw_setWeight 43 = .ok (.isub, 1) := by decide +kernel
theorem d_Sw_setWeight_44 : decode b_Sw_setWeight 44 = .ok (.iload_n 3, 1) := by decide +kernel
theorem d_Sw_setWeight_45 : decode b_Sw_setWeight 45 = .ok (.idiv, 1) := by decide +kernel
theorem d_Sw_setWeight_46 : decode b_Sw_setWeight 46 = .ok (.iastore, 1) := by decide +kernel
theorem d_Sw_setWeight_47 : decode b_Sw_setWeight 47 = .ok (.iconst 1, 1) := by decide +kernel
theorem d_Sw_setWeight_48 : decode b_Sw_setWeight 48 = .ok (.ireturn, 1) := by decide +kernel
theorem d_Sw_offer_0 : decode b_Sw_offer 0 = .ok (.iload_n 1, 1) := by decide +kernel
theorem d_Sw_offer_1 : decode b_Sw_offer 1 = .ok (.invokestatic 23, 3) := by decide +kernel
theorem d_Sw_offer_4 : decode b_Sw_offer 4 = .ok (.ifCond .eq 17, 3) := by decide +kernel
theorem d_Sw_offer_7 : decode b_Sw_offer 7 = .ok (.iload_n 2, 1) := by decide +kernel
theorem d_Sw_offer_8 : decode b_Sw_offer 8 = .ok (.invokestatic 23, 3) := by decide +kernel
theorem d_Sw_offer_11 : decode b_Sw_offer 11 = .ok (.ifCond .eq 10, 3) := by decide +kernel
theorem d_Sw_offer_14 : decode b_Sw_offer 14 = .ok (.iload_n 3, 1) := by decide +kernel
theorem d_Sw_offer_15 : decode b_Sw_offer 15 = .ok (.invokestatic 37, 3) := by decide +kernel
theorem d_Sw_offer_18 : decode b_Sw_offer 18 = .ok (.ifCond .ne 5, 3) := by decide +kernel
theorem d_Sw_offer_21 : decode b_Sw_offer 21 = .ok (.iconst 0, 1) := by decide +kernel
theorem d_Sw_offer_22 : decode b_Sw_offer 22 = .ok (.ireturn, 1) := by decide +kernel
theorem d_Sw_offer_23 : decode b_Sw_offer 23 = .ok (.aload_n 0, 1) := by decide +kernel
theorem d_Sw_offer_24 : decode b_Sw_offer 24 = .ok (.getfield 11, 3) := by decide +kernel
theorem d_Sw_offer_27 : decode b_Sw_offer 27 = .ok (.iload_n 1, 1) := by decide +kernel
theorem d_Sw_offer_28 : decode b_Sw_offer 28 = .ok (.aaload, 1) := by decide +kernel
theorem d_Sw_offer_29 : decode b_Sw_offer 29 = .ok (.astore 5, 2) := by decide +kernel
theorem d_Sw_offer_31 : decode b_Sw_offer 31 = .ok (.aload 5, 2) := by decide +kernel
theorem d_Sw_offer_33 : decode b_Sw_offer 33 = .ok (.getfield 45, 3) := by decide +kernel
theorem d_Sw_offer_36 : decode b_Sw_offer 36 = .ok (.ifnonnull 13, 3) := by decide +kernel
theorem d_Sw_offer_39 : decode b_Sw_offer 39 = .ok (.aload 5, 2) := by decide +kernel
theorem d_Sw_offer_41 : decode b_Sw_offer 41 = .ok (.getfield 49, 3) := by decide +kernel
theorem d_Sw_offer_44 : decode b_Sw_offer 44 = .ok (.bipush 64, 2) := by decide +kernel
theorem d_Sw_offer_46 : decode b_Sw_offer 46 = .ok (.if_icmp .lt 5, 3) := by decide +kernel
theorem d_Sw_offer_49 : decode b_Sw_offer 49 = .ok (.iconst 0, 1) := by decide +kernel
theorem d_Sw_offer_50 : decode b_Sw_offer 50 = .ok (.ireturn, 1) := by decide +kernel
theorem d_Sw_offer_51 : decode b_Sw_offer 51 = .ok (.aload 5, 2) := by decide +kernel
theorem d_Sw_offer_53 : decode b_Sw_offer 53 = .ok (.new 52, 3) := by decide +kernel
theorem d_Sw_offer_56 : decode b_Sw_offer 56 = .ok (.dup, 1) := by decide +kernel
theorem d_Sw_offer_57 : decode b_Sw_offer 57 = .ok (.iload_n 1, 1) := by decide +kernel
theorem d_Sw_offer_58 : decode b_Sw_offer 58 = .ok (.iload_n 2, 1) := by decide +kernel
theorem d_Sw_offer_59 : decode b_Sw_offer 59 = .ok (.iload_n 3, 1) := by decide +kernel
theorem d_Sw_offer_60 : decode b_Sw_offer 60 = .ok (.iload 4, 2) := by decide +kernel
theorem d_Sw_offer_62 : decode b_Sw_offer 62 = .ok (.aload_n 0, 1) := by decide +kernel
theorem d_Sw_offer_63 : decode b_Sw_offer 63 = .ok (.getfield 54, 3) := by decide +kernel
theorem d_Sw_offer_66 : decode b_Sw_offer 66 = .ok (.invokespecial 58, 3) := by decide +kernel
theorem d_Sw_offer_69 : decode b_Sw_offer 69 = .ok (.putfield 45, 3) := by decide +kernel
theorem d_Sw_offer_72 : decode b_Sw_offer 72 = .ok (.aload 5, 2) := by decide +kernel
theorem d_Sw_offer_74 : decode b_Sw_offer 74 = .ok (.dup, 1) := by decide +kernel
theorem d_Sw_offer_75 : decode b_Sw_offer 75 = .ok (.getfield 49, 3) := by decide +kernel
theorem d_Sw_offer_78 : decode b_Sw_offer 78 = .ok (.iconst 1, 1) := by decide +kernel
theorem d_Sw_offer_79 : decode b_Sw_offer 79 = .ok (.iadd, 1) := by decide +kernel
theorem d_Sw_offer_80 : decode b_Sw_offer 80 = .ok (.putfield 49, 3) := by decide +kernel
theorem d_Sw_offer_83 : decode b_Sw_offer 83 = .ok (.aload_n 0, 1) := by decide +kernel
theorem d_Sw_offer_84 : decode b_Sw_offer 84 = .ok (.dup, 1) := by decide +kernel
theorem d_Sw_offer_85 : decode b_Sw_offer 85 = .ok (.getfield 54, 3) := by decide +kernel
theorem d_Sw_offer_88 : decode b_Sw_offer 88 = .ok (.lconst 1, 1) := by decide +kernel
theorem d_Sw_offer_89 : decode b_Sw_offer 89 = .ok (.ladd, 1) := by decide +kernel
theorem d_Sw_offer_90 : decode b_Sw_offer 90 = .ok (.putfield 54, 3) := by decide +kernel
theorem d_Sw_offer_93 : decode b_Sw_offer 93 = .ok (.iconst 1, 1) := by decide +kernel
theorem d_Sw_offer_94 : decode b_Sw_offer 94 = .ok (.ireturn, 1) := by decide +kernel
abbrev rm_Sw_setWeight : Room := { frames := 1, cells := 0, slots := 0, locals := 20 }
set_option maxHeartbeats 4000000 in
set_option maxRecDepth 100000 in
theorem cn_Sw_setWeight (l : Launch) (D : va_G) (B : Nat) (M : hp_M) (a : Nat) (σ : sg_S) (F : Nat → Prop) (x y w : Int32) (hsw : sw_H D M a σ F) (hinv : sg_inv σ) (hac : sg_ac σ ≤ 512) : Met l y_Sw_setWeight (wd_c y_Sw_setWeight b_Sw_setWeight 4 (some .boolean)) rm_Sw_setWeight (va_Pc [.ref a, .int x, .int y, .int w] (hp_C D B M)) (va_Qi (fun (r : Int32) (M1 : hp_M) => ∃ τ, tr_setWeight σ x y w r τ ∧ sw_H D M1 a τ F ∧ sw_fr F M M1) (hp_C D B) (hp_ub B)) 0 0 (hp_ub B) := by
  rcases sg_w_or x y w with hix | ⟨o, hk, rfl, hix, hiy⟩ | ⟨o, g, hk, rfl, hix, hg, rfl, hiy, hbad⟩ | ⟨o, g, hk, rfl, hix, hg, rfl, hiy, hgood⟩
  · refine hp_met (by decide) (Nat.le_of_ble_eq_true rfl) ?_
    intro p e s m args below meth cd ls Q hQ hx hb hr hts hown hlocks hnm hml hK hH hS hB hl
    replace hl : lv_has ls 4 [(0, .ref a), (1, .int x), (2, .int y), (3, .int w)] := hl
    refine lv_iload_n hx hb d_Sw_setWeight_0 rfl (lv_at hl 1 rfl) ?_
    refine hp_calli (hp_runS (As := [.int x]) (rest := []) hx hb hml hown (cn_Sw_isPort l D B M x) (hp_cwS 1 hts kw_1 kw_4 kw_2 kw_3 rfl rfl (by decide +kernel) ⟨(Nat.le_of_ble_eq_true rfl), (Nat.le_of_ble_eq_true rfl)⟩) hK hH rfl hl.1 rfl (Nat.le_of_ble_eq_true rfl) d_Sw_setWeight_1 ⟨(Nat.le_of_ble_eq_true rfl), (Nat.le_of_ble_eq_true rfl)⟩) hS (fun r_1 M_2 H locs w_3 hH hS => ?_)
    obtain ⟨eM, eR⟩ := w_3
    rw [eM] at hH
    rw [eR]
    refine lv_if_eq (tgt := 26) hx hb d_Sw_setWeight_4 (by decide) (fun c_4 => ?_) (fun c_4 => absurd (sg_port_none hix) c_4)
    refine lv_iconst (v := 0) hx hb d_Sw_setWeight_26 (by decide) ?_
    exact hp_zret hx hb hr hlocks hQ hK hH hS (Nat.le_of_ble_eq_true rfl) (Nat.le_of_ble_eq_true rfl) rfl d_Sw_setWeight_27 ⟨σ, Or.inr ⟨(Or.inl hix), rfl, rfl⟩, hsw, sw_fr_rf⟩
  · refine hp_met (by decide) (Nat.le_of_ble_eq_true rfl) ?_
    intro p e s m args below meth cd ls Q hQ hx hb hr hts hown hlocks hnm hml hK hH hS hB hl
    replace hl : lv_has ls 4 [(0, .ref a), (1, .int (nI o)), (2, .int y), (3, .int w)] := hl
    refine lv_iload_n hx hb d_Sw_setWeight_0 rfl (lv_at hl 1 rfl) ?_
    refine hp_calli (hp_runS (As := [.int (nI o)]) (rest := []) hx hb hml hown (cn_Sw_isPort l D B M (nI o)) (hp_cwS 1 hts kw_1 kw_4 kw_2 kw_3 rfl rfl (by decide +kernel) ⟨(Nat.le_of_ble_eq_true rfl), (Nat.le_of_ble_eq_true rfl)⟩) hK hH rfl hl.1 rfl (Nat.le_of_ble_eq_true rfl) d_Sw_setWeight_1 ⟨(Nat.le_of_ble_eq_true rfl), (Nat.le_of_ble_eq_true rfl)⟩) hS (fun r_1 M_2 H locs w_3 hH hS => ?_)
    obtain ⟨eM, eR⟩ := w_3
    rw [eM] at hH
    rw [eR]
    refine lv_if_eq (tgt := 26) hx hb d_Sw_setWeight_4 (by decide) (fun c_4 => absurd c_4 (by rw [sg_port_some hix]; decide)) (fun c_4 => ?_)
    refine lv_iload_n hx hb d_Sw_setWeight_7 rfl (lv_at hl 2 rfl) ?_
    refine hp_calli (hp_runS (As := [.int y]) (rest := []) hx hb hml hown (cn_Sw_isClass l D B M y) (hp_cwS 1 hts kw_86 kw_88 kw_2 kw_87 rfl rfl (by decide +kernel) ⟨(Nat.le_of_ble_eq_true rfl), (Nat.le_of_ble_eq_true rfl)⟩) hK hH rfl hl.1 rfl (Nat.le_of_ble_eq_true rfl) d_Sw_setWeight_8 ⟨(Nat.le_of_ble_eq_true rfl), (Nat.le_of_ble_eq_true rfl)⟩) hS (fun r_5 M_6 H locs w_7 hH hS => ?_)
    obtain ⟨eM, eR⟩ := w_7
    rw [eM] at hH
    rw [eR]
    refine lv_if_eq (tgt := 26) hx hb d_Sw_setWeight_11 (by decide) (fun c_8 => ?_) (fun c_8 => absurd (sg_port_none hiy) c_8)
    refine lv_iconst (v := 0) hx hb d_Sw_setWeight_26 (by decide) ?_
    exact hp_zret hx hb hr hlocks hQ hK hH hS (Nat.le_of_ble_eq_true rfl) (Nat.le_of_ble_eq_true rfl) rfl d_Sw_setWeight_27 ⟨σ, Or.inr ⟨(Or.inr (Or.inl hiy)), rfl, rfl⟩, hsw, sw_fr_rf⟩
  · refine hp_met (by decide) (Nat.le_of_ble_eq_true rfl) ?_
    intro p e s m args below meth cd ls Q hQ hx hb hr hts hown hlocks hnm hml hK hH hS hB hl
    replace hl : lv_has ls 4 [(0, .ref a), (1, .int (nI o)), (2, .int (nI g)), (3, .int w)] := hl
    refine lv_iload_n hx hb d_Sw_setWeight_0 rfl (lv_at hl 1 rfl) ?_
    refine hp_calli (hp_runS (As := [.int (nI o)]) (rest := []) hx hb hml hown (cn_Sw_isPort l D B M (nI o)) (hp_cwS 1 hts kw_1 kw_4 kw_2 kw_3 rfl rfl (by decide +kernel) ⟨(Nat.le_of_ble_eq_true rfl), (Nat.le_of_ble_eq_true rfl)⟩) hK hH rfl hl.1 rfl (Nat.le_of_ble_eq_true rfl) d_Sw_setWeight_1 ⟨(Nat.le_of_ble_eq_true rfl), (Nat.le_of_ble_eq_true rfl)⟩) hS (fun r_1 M_2 H locs w_3 hH hS => ?_)
    obtain ⟨eM, eR⟩ := w_3
    rw [eM] at hH
    rw [eR]
    refine lv_if_eq (tgt := 26) hx hb d_Sw_setWeight_4 (by decide) (fun c_4 => absurd c_4 (by rw [sg_port_some hix]; decide)) (fun c_4 => ?_)
    refine lv_iload_n hx hb d_Sw_setWeight_7 rfl (lv_at hl 2 rfl) ?_
    refine hp_calli (hp_runS (As := [.int (nI g)]) (rest := []) hx hb hml hown (cn_Sw_isClass l D B M (nI g)) (hp_cwS 1 hts kw_86 kw_88 kw_2 kw_87 rfl rfl (by decide +kernel) ⟨(Nat.le_of_ble_eq_true rfl), (Nat.le_of_ble_eq_true rfl)⟩) hK hH rfl hl.1 rfl (Nat.le_of_ble_eq_true rfl) d_Sw_setWeight_8 ⟨(Nat.le_of_ble_eq_true rfl), (Nat.le_of_ble_eq_true rfl)⟩) hS (fun r_5 M_6 H locs w_7 hH hS => ?_)
    obtain ⟨eM, eR⟩ := w_7
    rw [eM] at hH
    rw [eR]
    refine lv_if_eq (tgt := 26) hx hb d_Sw_setWeight_11 (by decide) (fun c_8 => absurd c_8 (by rw [sg_port_some hiy]; decide)) (fun c_8 => ?_)
    refine lv_iload_n hx hb d_Sw_setWeight_14 rfl (lv_at hl 3 rfl) ?_
    refine lv_iconst (v := 1) hx hb d_Sw_setWeight_15 (by decide) ?_
    refine lv_icmp_lt (tgt := 26) hx hb d_Sw_setWeight_16 (by decide) (fun c_9 => ?_) (fun c_9 => ?_)
    · refine lv_iconst (v := 0) hx hb d_Sw_setWeight_26 (by decide) ?_
      exact hp_zret hx hb hr hlocks hQ hK hH hS (Nat.le_of_ble_eq_true rfl) (Nat.le_of_ble_eq_true rfl) rfl d_Sw_setWeight_27 ⟨σ, Or.inr ⟨(Or.inr (Or.inr hbad)), rfl, rfl⟩, hsw, sw_fr_rf⟩
    · refine lv_iload_n hx hb d_Sw_setWeight_19 rfl (lv_at hl 3 rfl) ?_
      refine lv_sipush (v := 255) hx hb d_Sw_setWeight_20 (by decide) ?_
      refine lv_icmp_le (tgt := 28) hx hb d_Sw_setWeight_23 (by decide) (fun c_10 => ?_) (fun c_10 => ?_)
      · exact absurd ⟨Int32.not_lt.mp c_9, c_10⟩ hbad
      · refine lv_iconst (v := 0) hx hb d_Sw_setWeight_26 (by decide) ?_
        exact hp_zret hx hb hr hlocks hQ hK hH hS (Nat.le_of_ble_eq_true rfl) (Nat.le_of_ble_eq_true rfl) rfl d_Sw_setWeight_27 ⟨σ, Or.inr ⟨(Or.inr (Or.inr hbad)), rfl, rfl⟩, hsw, sw_fr_rf⟩
  · refine hp_met (by decide) (Nat.le_of_ble_eq_true rfl) ?_
    intro p e s m args below meth cd ls Q hQ hx hb hr hts hown hlocks hnm hml hK hH hS hB hl
    replace hl : lv_has ls 4 [(0, .ref a), (1, .int (nI o)), (2, .int (nI g)), (3, .int w)] := hl
    have hsw0 := hsw
    obtain ⟨aI, aO, fI, fO, oa, la, ip, op, sp, lp, LQ, ow, hP⟩ := hsw0
    have hP0 := hP
    obtain ⟨⟨h1, h2, h3⟩, ⟨w1, w2, w3⟩, hi, ho, hf⟩ := hP0
    obtain ⟨o1, o2, o3, ⟨ofs, o4, o4'⟩, o5, ⟨ofl, o6, o6'⟩, o7, ⟨o8, o9, o10⟩, o11⟩ := ho o hk
    refine lv_iload_n hx hb d_Sw_setWeight_0 rfl (lv_at hl 1 rfl) ?_
    refine hp_calli (hp_runS (As := [.int (nI o)]) (rest := []) hx hb hml hown (cn_Sw_isPort l D B M (nI o)) (hp_cwS 1 hts kw_1 kw_4 kw_2 kw_3 rfl rfl (by decide +kernel) ⟨(Nat.le_of_ble_eq_true rfl), (Nat.le_of_ble_eq_true rfl)⟩) hK hH rfl hl.1 rfl (Nat.le_of_ble_eq_true rfl) d_Sw_setWeight_1 ⟨(Nat.le_of_ble_eq_true rfl), (Nat.le_of_ble_eq_true rfl)⟩) hS (fun r_1 M_2 H locs w_3 hH hS => ?_)
    obtain ⟨eM, eR⟩ := w_3
    rw [eM] at hH
    rw [eR]
    refine lv_if_eq (tgt := 26) hx hb d_Sw_setWeight_4 (by decide) (fun c_4 => absurd c_4 (by rw [sg_port_some hix]; decide)) (fun c_4 => ?_)
    refine lv_iload_n hx hb d_Sw_setWeight_7 rfl (lv_at hl 2 rfl) ?_
    refine hp_calli (hp_runS (As := [.int (nI g)]) (rest := []) hx hb hml hown (cn_Sw_isClass l D B M (nI g)) (hp_cwS 1 hts kw_86 kw_88 kw_2 kw_87 rfl rfl (by decide +kernel) ⟨(Nat.le_of_ble_eq_true rfl), (Nat.le_of_ble_eq_true rfl)⟩) hK hH rfl hl.1 rfl (Nat.le_of_ble_eq_true rfl) d_Sw_setWeight_8 ⟨(Nat.le_of_ble_eq_true rfl), (Nat.le_of_ble_eq_true rfl)⟩) hS (fun r_5 M_6 H locs w_7 hH hS => ?_)
    obtain ⟨eM, eR⟩ := w_7
    rw [eM] at hH
    rw [eR]
    refine lv_if_eq (tgt := 26) hx hb d_Sw_setWeight_11 (by decide) (fun c_8 => absurd c_8 (by rw [sg_port_some hiy]; decide)) (fun c_8 => ?_)
    refine lv_iload_n hx hb d_Sw_setWeight_14 rfl (lv_at hl 3 rfl) ?_
    refine lv_iconst (v := 1) hx hb d_Sw_setWeight_15 (by decide) ?_
    refine lv_icmp_lt (tgt := 26) hx hb d_Sw_setWeight_16 (by decide) (fun c_9 => absurd c_9 (Int32.not_lt.mpr hgood.1)) (fun c_9 => ?_)
    refine lv_iload_n hx hb d_Sw_setWeight_19 rfl (lv_at hl 3 rfl) ?_
    refine lv_sipush (v := 255) hx hb d_Sw_setWeight_20 (by decide) ?_
    refine lv_icmp_le (tgt := 28) hx hb d_Sw_setWeight_23 (by decide) (fun c_10 => ?_) (fun c_10 => absurd hgood.2 c_10)
    refine lv_aload_n hx hb d_Sw_setWeight_28 rfl (lv_at hl 0 rfl) ?_
    refine hp_get hx hb hts iw_Sw hown hK hH h1 rfl 1 (by decide) (hts _ kw_5) (v := .ref aO) rfl d_Sw_setWeight_29 ?_
    refine lv_iload_n hx hb d_Sw_setWeight_32 rfl (lv_at hl 1 rfl) ?_
    refine hp_aald hx hb hK hH h3 3 rfl o rfl hk (by decide) (ho o hk).1 d_Sw_setWeight_33 ?_
    refine hp_get hx hb hts iw_Ou hown hK hH o2 rfl 1 (by decide) (hts _ kw_89) (v := .ref (sp o)) rfl d_Sw_setWeight_34 ?_
    refine lv_iload_n hx hb d_Sw_setWeight_37 rfl (lv_at hl 2 rfl) ?_
    refine lv_ldc (v := 65536) hx hb hown (hts _ kw_90) d_Sw_setWeight_38 ?_
    refine lv_iload_n hx hb d_Sw_setWeight_40 rfl (lv_at hl 3 rfl) ?_
    refine lv_iadd hx hb d_Sw_setWeight_41 ?_
    refine lv_iconst (v := 1) hx hb d_Sw_setWeight_42 (by decide) ?_
    refine lv_isub hx hb d_Sw_setWeight_43 ?_
    refine lv_iload_n hx hb d_Sw_setWeight_44 rfl (lv_at hl 3 rfl) ?_
    refine lv_idiv hx hb d_Sw_setWeight_45 (fun q => by rw [q] at hgood; exact absurd hgood.1 (by decide)) ?_
    refine hp_ioi (sg_step_eq w) ?_
    refine hp_iast hx hb hK hH hS hB o4 g rfl hg (by decide) d_Sw_setWeight_46 (fun M_11 H locs eM_11 hH hS => ?_)
    have f_12 : M_11 (sp o) = some (hp_ai D 8 (upd ofs g (sg_step w))) := by rw [eM_11]; exact va_up_self _ _ _
    have f_13 : M_11 a = some (.inr (ix_sw, [.ref aI, .ref aO, .int (sg_sl σ), .long (lN (sg_ac σ))])) := by rw [eM_11, va_up_ne _ _ (hp_ne ix_sw 100 h1 o4 rfl rfl (by decide))]; exact h1
    have f_14 : M_11 aI = some (hp_aq D 12 8 fI) := by rw [eM_11, va_up_ne _ _ (hp_ne 102 100 h2 o4 rfl rfl (by decide))]; exact h2
    have f_15 : M_11 aO = some (hp_aq D 13 8 fO) := by rw [eM_11, va_up_ne _ _ (hp_ne 102 100 h3 o4 rfl rfl (by decide))]; exact h3
    have f_16 : M_11 (op o) = some (.inr (ix_ou, [.int (sg_kd σ o), .ref (sp o), .ref (lp o), va_rf (sw_hd (LQ o) none), .int (nI (sg_qu σ o).length), va_rf (la o)])) := by rw [eM_11, va_up_ne _ _ (hp_ne ix_ou 100 o2 o4 rfl rfl (by decide))]; exact o2
    have f_17 : M_11 (lp o) = some (hp_al D 8 ofl) := by rw [eM_11, va_up_ne _ _ (hp_ne 101 100 o6 o4 rfl rfl (by decide))]; exact o6
    refine lv_iconst (v := 1) hx hb d_Sw_setWeight_47 (by decide) ?_
    exact hp_zret hx hb hr hlocks hQ hK hH hS (Nat.le_of_ble_eq_true rfl) (Nat.le_of_ble_eq_true rfl) rfl d_Sw_setWeight_48 (by obtain ⟨p1, p2⟩ := sw_do_setW hP hk hg (w := w) o4 o4' eM_11; exact ⟨_, Or.inl ⟨o, g, hix, hiy, hgood, rfl, rfl⟩, ⟨aI, aO, fI, fO, oa, la, ip, op, sp, lp, LQ, ow, p1⟩, p2⟩)
abbrev rm_Sw_offer : Room := { frames := 2, cells := 1, slots := 8, locals := 38 }
set_option maxHeartbeats 4000000 in
set_option maxRecDepth 100000 in
theorem cn_Sw_offer (l : Launch) (D : va_G) (B : Nat) (M : hp_M) (a : Nat) (σ : sg_S) (F : Nat → Prop) (x y z t : Int32) (hsw : sw_H D M a σ F) (hinv : sg_inv σ) (hac : sg_ac σ ≤ 512) : Met l y_Sw_offer (wd_c y_Sw_offer b_Sw_offer 6 (some .boolean)) rm_Sw_offer (va_Pc [.ref a, .int x, .int y, .int z, .int t] (hp_C D B M)) (va_Qi (fun (r : Int32) (M1 : hp_M) => ∃ τ, tr_offer σ x y z t r τ ∧ sw_H D M1 a τ F ∧ sw_fr F M M1) (hp_C D B) (hp_ub B)) 1 8 (hp_ub B) := by
  rcases sg_o_or x y z with hix | ⟨i, hi8, rfl, hix, hiy⟩ | ⟨i, o, hi8, rfl, hix, ho8, rfl, hiy, hiz⟩ | ⟨i, o, k, hi8, rfl, hix, ho8, rfl, hiy, hk8, rfl, hiz⟩
  · refine hp_met (by decide) (Nat.le_of_ble_eq_true rfl) ?_
    intro p e s m args below meth cd ls Q hQ hx hb hr hts hown hlocks hnm hml hK hH hS hB hl
    replace hl : lv_has ls 6 [(0, .ref a), (1, .int x), (2, .int y), (3, .int z), (4, .int t)] := hl
    refine lv_iload_n hx hb d_Sw_offer_0 rfl (lv_at hl 1 rfl) ?_
    refine hp_calli (hp_runS (As := [.int x]) (rest := []) hx hb hml hown (cn_Sw_isPort l D B M x) (hp_cwS 1 hts kw_1 kw_4 kw_2 kw_3 rfl rfl (by decide +kernel) ⟨(Nat.le_of_ble_eq_true rfl), (Nat.le_of_ble_eq_true rfl)⟩) hK hH rfl hl.1 rfl (Nat.le_of_ble_eq_true rfl) d_Sw_offer_1 ⟨(Nat.le_of_ble_eq_true rfl), (Nat.le_of_ble_eq_true rfl)⟩) hS (fun r_1 M_2 H locs w_3 hH hS => ?_)
    obtain ⟨eM, eR⟩ := w_3
    rw [eM] at hH
    rw [eR]
    refine lv_if_eq (tgt := 21) hx hb d_Sw_offer_4 (by decide) (fun c_4 => ?_) (fun c_4 => absurd (sg_port_none hix) c_4)
    refine lv_iconst (v := 0) hx hb d_Sw_offer_21 (by decide) ?_
    exact hp_zret hx hb hr hlocks hQ hK hH hS (Nat.le_of_ble_eq_true rfl) (Nat.le_of_ble_eq_true rfl) rfl d_Sw_offer_22 ⟨σ, Or.inr ⟨(Or.inl hix), rfl, rfl⟩, hsw, sw_fr_rf⟩
  · refine hp_met (by decide) (Nat.le_of_ble_eq_true rfl) ?_
    intro p e s m args below meth cd ls Q hQ hx hb hr hts hown hlocks hnm hml hK hH hS hB hl
    replace hl : lv_has ls 6 [(0, .ref a), (1, .int (nI i)), (2, .int y), (3, .int z), (4, .int t)] := hl
    refine lv_iload_n hx hb d_Sw_offer_0 rfl (lv_at hl 1 rfl) ?_
    refine hp_calli (hp_runS (As := [.int (nI i)]) (rest := []) hx hb hml hown (cn_Sw_isPort l D B M (nI i)) (hp_cwS 1 hts kw_1 kw_4 kw_2 kw_3 rfl rfl (by decide +kernel) ⟨(Nat.le_of_ble_eq_true rfl), (Nat.le_of_ble_eq_true rfl)⟩) hK hH rfl hl.1 rfl (Nat.le_of_ble_eq_true rfl) d_Sw_offer_1 ⟨(Nat.le_of_ble_eq_true rfl), (Nat.le_of_ble_eq_true rfl)⟩) hS (fun r_1 M_2 H locs w_3 hH hS => ?_)
    obtain ⟨eM, eR⟩ := w_3
    rw [eM] at hH
    rw [eR]
    refine lv_if_eq (tgt := 21) hx hb d_Sw_offer_4 (by decide) (fun c_4 => absurd c_4 (by rw [sg_port_some hix]; decide)) (fun c_4 => ?_)
    refine lv_iload_n hx hb d_Sw_offer_7 rfl (lv_at hl 2 rfl) ?_
    refine hp_calli (hp_runS (As := [.int y]) (rest := []) hx hb hml hown (cn_Sw_isPort l D B M y) (hp_cwS 1 hts kw_1 kw_4 kw_2 kw_3 rfl rfl (by decide +kernel) ⟨(Nat.le_of_ble_eq_true rfl), (Nat.le_of_ble_eq_true rfl)⟩) hK hH rfl hl.1 rfl (Nat.le_of_ble_eq_true rfl) d_Sw_offer_8 ⟨(Nat.le_of_ble_eq_true rfl), (Nat.le_of_ble_eq_true rfl)⟩) hS (fun r_5 M_6 H locs w_7 hH hS => ?_)
    obtain ⟨eM, eR⟩ := w_7
    rw [eM] at hH
    rw [eR]
    refine lv_if_eq (tgt := 21) hx hb d_Sw_offer_11 (by decide) (fun c_8 => ?_) (fun c_8 => absurd (sg_port_none hiy) c_8)
    refine lv_iconst (v := 0) hx hb d_Sw_offer_21 (by decide) ?_
    exact hp_zret hx hb hr hlocks hQ hK hH hS (Nat.le_of_ble_eq_true rfl) (Nat.le_of_ble_eq_true rfl) rfl d_Sw_offer_22 ⟨σ, Or.inr ⟨(Or.inr (Or.inl hiy)), rfl, rfl⟩, hsw, sw_fr_rf⟩
  · refine hp_met (by decide) (Nat.le_of_ble_eq_true rfl) ?_
    intro p e s m args below meth cd ls Q hQ hx hb hr hts hown hlocks hnm hml hK hH hS hB hl
    replace hl : lv_has ls 6 [(0, .ref a), (1, .int (nI i)), (2, .int (nI o)), (3, .int z), (4, .int t)] := hl
    refine lv_iload_n hx hb d_Sw_offer_0 rfl (lv_at hl 1 rfl) ?_
    refine hp_calli (hp_runS (As := [.int (nI i)]) (rest := []) hx hb hml hown (cn_Sw_isPort l D B M (nI i)) (hp_cwS 1 hts kw_1 kw_4 kw_2 kw_3 rfl rfl (by decide +kernel) ⟨(Nat.le_of_ble_eq_true rfl), (Nat.le_of_ble_eq_true rfl)⟩) hK hH rfl hl.1 rfl (Nat.le_of_ble_eq_true rfl) d_Sw_offer_1 ⟨(Nat.le_of_ble_eq_true rfl), (Nat.le_of_ble_eq_true rfl)⟩) hS (fun r_1 M_2 H locs w_3 hH hS => ?_)
    obtain ⟨eM, eR⟩ := w_3
    rw [eM] at hH
    rw [eR]
    refine lv_if_eq (tgt := 21) hx hb d_Sw_offer_4 (by decide) (fun c_4 => absurd c_4 (by rw [sg_port_some hix]; decide)) (fun c_4 => ?_)
    refine lv_iload_n hx hb d_Sw_offer_7 rfl (lv_at hl 2 rfl) ?_
    refine hp_calli (hp_runS (As := [.int (nI o)]) (rest := []) hx hb hml hown (cn_Sw_isPort l D B M (nI o)) (hp_cwS 1 hts kw_1 kw_4 kw_2 kw_3 rfl rfl (by decide +kernel) ⟨(Nat.le_of_ble_eq_true rfl), (Nat.le_of_ble_eq_true rfl)⟩) hK hH rfl hl.1 rfl (Nat.le_of_ble_eq_true rfl) d_Sw_offer_8 ⟨(Nat.le_of_ble_eq_true rfl), (Nat.le_of_ble_eq_true rfl)⟩) hS (fun r_5 M_6 H locs w_7 hH hS => ?_)
    obtain ⟨eM, eR⟩ := w_7
    rw [eM] at hH
    rw [eR]
    refine lv_if_eq (tgt := 21) hx hb d_Sw_offer_11 (by decide) (fun c_8 => absurd c_8 (by rw [sg_port_some hiy]; decide)) (fun c_8 => ?_)
    refine lv_iload_n hx hb d_Sw_offer_14 rfl (lv_at hl 3 rfl) ?_
    refine hp_calli (hp_runS (As := [.int z]) (rest := []) hx hb hml hown (cn_Sw_isClass l D B M z) (hp_cwS 1 hts kw_86 kw_88 kw_2 kw_87 rfl rfl (by decide +kernel) ⟨(Nat.le_of_ble_eq_true rfl), (Nat.le_of_ble_eq_true rfl)⟩) hK hH rfl hl.1 rfl (Nat.le_of_ble_eq_true rfl) d_Sw_offer_15 ⟨(Nat.le_of_ble_eq_true rfl), (Nat.le_of_ble_eq_true rfl)⟩) hS (fun r_9 M_10 H locs w_11 hH hS => ?_)
    obtain ⟨eM, eR⟩ := w_11
    rw [eM] at hH
    rw [eR]
    refine lv_if_ne (tgt := 23) hx hb d_Sw_offer_18 (by decide) (fun c_12 => absurd (sg_port_none hiz) c_12) (fun c_12 => ?_)
    refine lv_iconst (v := 0) hx hb d_Sw_offer_21 (by decide) ?_
    exact hp_zret hx hb hr hlocks hQ hK hH hS (Nat.le_of_ble_eq_true rfl) (Nat.le_of_ble_eq_true rfl) rfl d_Sw_offer_22 ⟨σ, Or.inr ⟨(Or.inr (Or.inr (Or.inl hiz))), rfl, rfl⟩, hsw, sw_fr_rf⟩
  · refine hp_met (by decide) (Nat.le_of_ble_eq_true rfl) ?_
    intro p e s m args below meth cd ls Q hQ hx hb hr hts hown hlocks hnm hml hK hH hS hB hl
    replace hl : lv_has ls 6 [(0, .ref a), (1, .int (nI i)), (2, .int (nI o)), (3, .int (nI k)), (4, .int t)] := hl
    have hsw0 := hsw
    obtain ⟨aI, aO, fI, fO, oa, la, ip, op, sp, lp, LQ, ow, hP⟩ := hsw0
    have hP0 := hP
    obtain ⟨⟨h1, h2, h3⟩, ⟨w1, w2, w3⟩, hi, ho, hf⟩ := hP0
    obtain ⟨i1, i2, i3, i4⟩ := hi i hi8
    refine lv_iload_n hx hb d_Sw_offer_0 rfl (lv_at hl 1 rfl) ?_
    refine hp_calli (hp_runS (As := [.int (nI i)]) (rest := []) hx hb hml hown (cn_Sw_isPort l D B M (nI i)) (hp_cwS 1 hts kw_1 kw_4 kw_2 kw_3 rfl rfl (by decide +kernel) ⟨(Nat.le_of_ble_eq_true rfl), (Nat.le_of_ble_eq_true rfl)⟩) hK hH rfl hl.1 rfl (Nat.le_of_ble_eq_true rfl) d_Sw_offer_1 ⟨(Nat.le_of_ble_eq_true rfl), (Nat.le_of_ble_eq_true rfl)⟩) hS (fun r_1 M_2 H locs w_3 hH hS => ?_)
    obtain ⟨eM, eR⟩ := w_3
    rw [eM] at hH
    rw [eR]
    refine lv_if_eq (tgt := 21) hx hb d_Sw_offer_4 (by decide) (fun c_4 => absurd c_4 (by rw [sg_port_some hix]; decide)) (fun c_4 => ?_)
    refine lv_iload_n hx hb d_Sw_offer_7 rfl (lv_at hl 2 rfl) ?_
    refine hp_calli (hp_runS (As := [.int (nI o)]) (rest := []) hx hb hml hown (cn_Sw_isPort l D B M (nI o)) (hp_cwS 1 hts kw_1 kw_4 kw_2 kw_3 rfl rfl (by decide +kernel) ⟨(Nat.le_of_ble_eq_true rfl), (Nat.le_of_ble_eq_true rfl)⟩) hK hH rfl hl.1 rfl (Nat.le_of_ble_eq_true rfl) d_Sw_offer_8 ⟨(Nat.le_of_ble_eq_true rfl), (Nat.le_of_ble_eq_true rfl)⟩) hS (fun r_5 M_6 H locs w_7 hH hS => ?_)
    obtain ⟨eM, eR⟩ := w_7
    rw [eM] at hH
    rw [eR]
    refine lv_if_eq (tgt := 21) hx hb d_Sw_offer_11 (by decide) (fun c_8 => absurd c_8 (by rw [sg_port_some hiy]; decide)) (fun c_8 => ?_)
    refine lv_iload_n hx hb d_Sw_offer_14 rfl (lv_at hl 3 rfl) ?_
    refine hp_calli (hp_runS (As := [.int (nI k)]) (rest := []) hx hb hml hown (cn_Sw_isClass l D B M (nI k)) (hp_cwS 1 hts kw_86 kw_88 kw_2 kw_87 rfl rfl (by decide +kernel) ⟨(Nat.le_of_ble_eq_true rfl), (Nat.le_of_ble_eq_true rfl)⟩) hK hH rfl hl.1 rfl (Nat.le_of_ble_eq_true rfl) d_Sw_offer_15 ⟨(Nat.le_of_ble_eq_true rfl), (Nat.le_of_ble_eq_true rfl)⟩) hS (fun r_9 M_10 H locs w_11 hH hS => ?_)
    obtain ⟨eM, eR⟩ := w_11
    rw [eM] at hH
    rw [eR]
    refine lv_if_ne (tgt := 23) hx hb d_Sw_offer_18 (by decide) (fun c_12 => ?_) (fun c_12 => absurd c_12 (by rw [sg_port_some hiz]; decide))
    refine lv_aload_n hx hb d_Sw_offer_23 rfl (lv_at hl 0 rfl) ?_
    refine hp_get hx hb hts iw_Sw hown hK hH h1 rfl 0 (by decide) (hts _ kw_14) (v := .ref aI) rfl d_Sw_offer_24 ?_
    refine lv_iload_n hx hb d_Sw_offer_27 rfl (lv_at hl 1 rfl) ?_
    refine hp_aald hx hb hK hH h2 2 rfl i rfl hi8 (by decide) i1 d_Sw_offer_28 ?_
    refine lv_astore (lv' := [(5, .ref (ip i)), (0, .ref a), (1, .int (nI i)), (2, .int (nI o)), (3, .int (nI k)), (4, .int t)]) hx hb d_Sw_offer_29 hl (by decide) rfl (fun ls hl => ?_)
    refine lv_aload hx hb d_Sw_offer_31 (lv_at hl 0 rfl) ?_
    refine hp_get hx hb hts iw_In hown hK hH i2 rfl 0 (by decide) (hts _ kw_79) (v := va_rf (oa i)) rfl d_Sw_offer_33 ?_
    refine hp_ifnonnull (tgt := 49) hx hb d_Sw_offer_36 (by decide) (fun q_14 c_13 => ?_) (fun c_13 => ?_)
    · rw [c_13] at i4
      obtain ⟨d, e1, -, -⟩ := sw_one_yes i4
      refine lv_iconst (v := 0) hx hb d_Sw_offer_49 (by decide) ?_
      exact hp_zret hx hb hr hlocks hQ hK hH hS (Nat.le_of_ble_eq_true rfl) (Nat.le_of_ble_eq_true rfl) rfl d_Sw_offer_50 ⟨σ, Or.inr ⟨(Or.inr (Or.inr (Or.inr ⟨i, hix, Or.inl (by rw [e1]; intro q; cases q)⟩))), rfl, rfl⟩, hsw, sw_fr_rf⟩
    · rw [c_13] at i4
      have hof := sw_one_no i4
      have f_15 : M (ip i) = some (sw_i none (nI (sg_held σ i))) := by rw [← c_13]; exact i2
      refine lv_aload hx hb d_Sw_offer_39 (lv_at hl 0 rfl) ?_
      refine hp_get hx hb hts iw_In hown hK hH f_15 rfl 1 (by decide) (hts _ kw_15) (v := .int (nI (sg_held σ i))) rfl d_Sw_offer_41 ?_
      refine lv_bipush (v := 64) hx hb d_Sw_offer_44 (by decide) ?_
      refine lv_icmp_lt (tgt := 51) hx hb d_Sw_offer_46 (by decide) (fun c_16 => ?_) (fun c_16 => ?_)
      · have hlt : sg_held σ i < 64 := (nI_ltI (b := 64) (by have := (hinv.2.1 i hi8).1; omega) (by decide)).mp c_16
        refine lv_aload hx hb d_Sw_offer_51 (lv_at hl 0 rfl) ?_
        refine hp_new hx hb hts iw_Ce t_Ce t_Ce_ok hown (hts _ kw_91) (hts _ kw_92) (hts _ kw_93) hK hH hS hB (ci := ix_ce) rfl (fs := [.int 0, .int 0, .int 0, .int 0, .long 0, .int 0, .long 0, .null]) (fun j hj => by rcases (show j = 0 ∨ j = 1 ∨ j = 2 ∨ j = 3 ∨ j = 4 ∨ j = 5 ∨ j = 6 ∨ j = 7 by omega) with rfl | rfl | rfl | rfl | rfl | rfl | rfl | rfl <;> rfl) (Nat.le_of_ble_eq_true rfl) (Nat.le_of_ble_eq_true rfl) d_Sw_offer_53 (fun q_17 M_18 H zq_17 eM_18 hH hS => ?_)
        have f_19 : M_18 q_17 = some (.inr (ix_ce, [.int 0, .int 0, .int 0, .int 0, .long 0, .int 0, .long 0, .null])) := by rw [eM_18]; exact va_up_self _ _ _
        have f_20 : M_18 a = some (.inr (ix_sw, [.ref aI, .ref aO, .int (sg_sl σ), .long (lN (sg_ac σ))])) := by rw [eM_18, va_up_ne _ _ (hp_fr zq_17 h1)]; exact h1
        have f_21 : M_18 aI = some (hp_aq D 12 8 fI) := by rw [eM_18, va_up_ne _ _ (hp_fr zq_17 h2)]; exact h2
        have f_22 : M_18 aO = some (hp_aq D 13 8 fO) := by rw [eM_18, va_up_ne _ _ (hp_fr zq_17 h3)]; exact h3
        have f_23 : M_18 (ip i) = some (.inr (ix_in, [.null, .int (nI (sg_held σ i))])) := by rw [eM_18, va_up_ne _ _ (hp_fr zq_17 f_15)]; exact f_15
        refine lv_dup hx hb d_Sw_offer_56 rfl ?_
        refine lv_iload_n hx hb d_Sw_offer_57 rfl (lv_at hl 2 rfl) ?_
        refine lv_iload_n hx hb d_Sw_offer_58 rfl (lv_at hl 3 rfl) ?_
        refine lv_iload_n hx hb d_Sw_offer_59 rfl (lv_at hl 4 rfl) ?_
        refine lv_iload hx hb d_Sw_offer_60 (lv_at hl 5 rfl) ?_
        refine lv_aload_n hx hb d_Sw_offer_62 rfl (lv_at hl 1 rfl) ?_
        refine hp_get hx hb hts iw_Sw hown hK hH f_20 rfl 3 (by decide) (hts _ kw_94) (v := .long (lN (sg_ac σ))) rfl d_Sw_offer_63 ?_
        refine hp_callv (hp_runI (b := q_17) (As := [.int (nI i), .int (nI o), .int (nI k), .int t, .long (lN (sg_ac σ))]) (rest := [.ref q_17, .ref (ip i)]) hx hb hml hown (cn_Ce_init l D B M_18 q_17 i o k t (sg_ac σ) f_19) (hp_cwI 5 hts kw_95 kw_97 kw_93 kw_96 rfl rfl rfl (by decide +kernel) ⟨(Nat.le_of_ble_eq_true rfl), (Nat.le_of_ble_eq_true rfl)⟩) hK hH rfl hl.1 rfl (Nat.le_of_ble_eq_true rfl) d_Sw_offer_66 ⟨(Nat.le_of_ble_eq_true rfl), (Nat.le_of_ble_eq_true rfl)⟩) hS (fun M_25 H locs w_26 hH hS => ?_)
        have f_27 : M_25 q_17 = some (.inr (ix_ce, [.int (nI i), .int (nI o), .int (nI k), .int t, .long (lN (sg_ac σ)), .int 0, .long 0, .null])) := by rw [w_26]; exact va_up_self _ _ _
        have f_28 : M_25 a = some (.inr (ix_sw, [.ref aI, .ref aO, .int (sg_sl σ), .long (lN (sg_ac σ))])) := by rw [w_26, va_up_ne _ _ (hp_ne ix_sw ix_ce f_20 f_19 rfl rfl (by decide))]; exact f_20
        have f_29 : M_25 aI = some (hp_aq D 12 8 fI) := by rw [w_26, va_up_ne _ _ (hp_ne 102 ix_ce f_21 f_19 rfl rfl (by decide))]; exact f_21
        have f_30 : M_25 aO = some (hp_aq D 13 8 fO) := by rw [w_26, va_up_ne _ _ (hp_ne 102 ix_ce f_22 f_19 rfl rfl (by decide))]; exact f_22
        have f_31 : M_25 (ip i) = some (.inr (ix_in, [.null, .int (nI (sg_held σ i))])) := by rw [w_26, va_up_ne _ _ (hp_ne ix_in ix_ce f_23 f_19 rfl rfl (by decide))]; exact f_23
        refine hp_put hx hb hts iw_In t_In t_In_ok n_In hown hK hH hS hB f_31 rfl 0 (by decide) (hts _ kw_79) rfl  (v := .ref q_17) rfl rfl (Nat.le_of_ble_eq_true rfl) (fs' := [.ref q_17, .int (nI (sg_held σ i))]) rfl d_Sw_offer_69 (fun M_32 H locs eM_32 hH hS => ?_)
        have f_33 : M_32 (ip i) = some (.inr (ix_in, [.ref q_17, .int (nI (sg_held σ i))])) := by rw [eM_32]; exact va_up_self _ _ _
        have f_34 : M_32 a = some (.inr (ix_sw, [.ref aI, .ref aO, .int (sg_sl σ), .long (lN (sg_ac σ))])) := by rw [eM_32, va_up_ne _ _ (hp_ne ix_sw ix_in f_28 f_31 rfl rfl (by decide))]; exact f_28
        have f_35 : M_32 aI = some (hp_aq D 12 8 fI) := by rw [eM_32, va_up_ne _ _ (hp_ne 102 ix_in f_29 f_31 rfl rfl (by decide))]; exact f_29
        have f_36 : M_32 aO = some (hp_aq D 13 8 fO) := by rw [eM_32, va_up_ne _ _ (hp_ne 102 ix_in f_30 f_31 rfl rfl (by decide))]; exact f_30
        have f_37 : M_32 q_17 = some (.inr (ix_ce, [.int (nI i), .int (nI o), .int (nI k), .int t, .long (lN (sg_ac σ)), .int 0, .long 0, .null])) := by rw [eM_32, va_up_ne _ _ (hp_ne ix_ce ix_in f_27 f_31 rfl rfl (by decide))]; exact f_27
        refine lv_aload hx hb d_Sw_offer_72 (lv_at hl 0 rfl) ?_
        refine lv_dup hx hb d_Sw_offer_74 rfl ?_
        refine hp_get hx hb hts iw_In hown hK hH f_33 rfl 1 (by decide) (hts _ kw_15) (v := .int (nI (sg_held σ i))) rfl d_Sw_offer_75 ?_
        refine lv_iconst (v := 1) hx hb d_Sw_offer_78 (by decide) ?_
        refine lv_iadd hx hb d_Sw_offer_79 ?_
        refine hp_ioi (nI_1 _) ?_
        refine hp_put hx hb hts iw_In t_In t_In_ok n_In hown hK hH hS hB f_33 rfl 1 (by decide) (hts _ kw_15) rfl  (v := .int (nI (sg_held σ i + 1))) rfl rfl (Nat.le_of_ble_eq_true rfl) (fs' := [.ref q_17, .int (nI (sg_held σ i + 1))]) rfl d_Sw_offer_80 (fun M_38 H locs eM_38 hH hS => ?_)
        have f_39 : M_38 (ip i) = some (.inr (ix_in, [.ref q_17, .int (nI (sg_held σ i + 1))])) := by rw [eM_38]; exact va_up_self _ _ _
        have f_40 : M_38 a = some (.inr (ix_sw, [.ref aI, .ref aO, .int (sg_sl σ), .long (lN (sg_ac σ))])) := by rw [eM_38, va_up_ne _ _ (hp_ne ix_sw ix_in f_34 f_33 rfl rfl (by decide))]; exact f_34
        have f_41 : M_38 aI = some (hp_aq D 12 8 fI) := by rw [eM_38, va_up_ne _ _ (hp_ne 102 ix_in f_35 f_33 rfl rfl (by decide))]; exact f_35
        have f_42 : M_38 aO = some (hp_aq D 13 8 fO) := by rw [eM_38, va_up_ne _ _ (hp_ne 102 ix_in f_36 f_33 rfl rfl (by decide))]; exact f_36
        have f_43 : M_38 q_17 = some (.inr (ix_ce, [.int (nI i), .int (nI o), .int (nI k), .int t, .long (lN (sg_ac σ)), .int 0, .long 0, .null])) := by rw [eM_38, va_up_ne _ _ (hp_ne ix_ce ix_in f_37 f_33 rfl rfl (by decide))]; exact f_37
        refine lv_aload_n hx hb d_Sw_offer_83 rfl (lv_at hl 1 rfl) ?_
        refine lv_dup hx hb d_Sw_offer_84 rfl ?_
        refine hp_get hx hb hts iw_Sw hown hK hH f_40 rfl 3 (by decide) (hts _ kw_94) (v := .long (lN (sg_ac σ))) rfl d_Sw_offer_85 ?_
        refine lv_lconst (v := 1) hx hb d_Sw_offer_88 (by decide) ?_
        refine lv_ladd hx hb d_Sw_offer_89 ?_
        refine hp_lol (lN_1 _) ?_
        refine hp_put hx hb hts iw_Sw t_Sw t_Sw_ok n_Sw hown hK hH hS hB f_40 rfl 3 (by decide) (hts _ kw_94) rfl  (v := .long (lN (sg_ac σ + 1))) rfl rfl (Nat.le_of_ble_eq_true rfl) (fs' := [.ref aI, .ref aO, .int (sg_sl σ), .long (lN (sg_ac σ + 1))]) rfl d_Sw_offer_90 (fun M_44 H locs eM_44 hH hS => ?_)
        have f_45 : M_44 a = some (.inr (ix_sw, [.ref aI, .ref aO, .int (sg_sl σ), .long (lN (sg_ac σ + 1))])) := by rw [eM_44]; exact va_up_self _ _ _
        have f_46 : M_44 aI = some (hp_aq D 12 8 fI) := by rw [eM_44, va_up_ne _ _ (hp_ne 102 ix_sw f_41 f_40 rfl rfl (by decide))]; exact f_41
        have f_47 : M_44 aO = some (hp_aq D 13 8 fO) := by rw [eM_44, va_up_ne _ _ (hp_ne 102 ix_sw f_42 f_40 rfl rfl (by decide))]; exact f_42
        have f_48 : M_44 q_17 = some (.inr (ix_ce, [.int (nI i), .int (nI o), .int (nI k), .int t, .long (lN (sg_ac σ)), .int 0, .long 0, .null])) := by rw [eM_44, va_up_ne _ _ (hp_ne ix_ce ix_sw f_43 f_40 rfl rfl (by decide))]; exact f_43
        have f_49 : M_44 (ip i) = some (.inr (ix_in, [.ref q_17, .int (nI (sg_held σ i + 1))])) := by rw [eM_44, va_up_ne _ _ (hp_ne ix_in ix_sw f_39 f_40 rfl rfl (by decide))]; exact f_39
        refine lv_iconst (v := 1) hx hb d_Sw_offer_93 (by decide) ?_
        exact hp_zret hx hb hr hlocks hQ hK hH hS (Nat.le_of_ble_eq_true rfl) (Nat.le_of_ble_eq_true rfl) rfl d_Sw_offer_94 (by obtain ⟨p1, p2⟩ := sw_H_offer (M1 := M_44) hP hi8 hof (o := o) (g := k) (t := t) zq_17 (by rw [eM_44, eM_38, eM_32, w_26, eM_18, hp_uu, hp_uu]; first | done | rfl); exact ⟨_, Or.inl ⟨i, o, k, hix, hiy, hiz, hof, hlt, rfl, rfl⟩, p1, p2⟩)
      · refine lv_iconst (v := 0) hx hb d_Sw_offer_49 (by decide) ?_
        exact hp_zret hx hb hr hlocks hQ hK hH hS (Nat.le_of_ble_eq_true rfl) (Nat.le_of_ble_eq_true rfl) rfl d_Sw_offer_50 ⟨σ, Or.inr ⟨(Or.inr (Or.inr (Or.inr ⟨i, hix, Or.inr (fun q => c_16 (nI_lt (b := 64) q (by decide)))⟩))), rfl, rfl⟩, hsw, sw_fr_rf⟩
end
section
theorem kw_98 : Cond.methodLink R_Sw 109 y_Ou_takeIn ∈ wd_T := wd_in (List.mem_of_getElem? (i := 171) (by decide +kernel)) rfl
theorem kw_99 : Cond.code y_Ou_takeIn b_Ou_takeIn 3 none ∈ wd_T := wd_in (List.mem_of_getElem? (i := 174) (by decide +kernel)) rfl
theorem kw_100 : Cond.instanceMethod y_Ou_takeIn ∈ wd_T := wd_in (List.mem_of_getElem? (i := 172) (by decide +kernel)) rfl
theorem kw_101 : Cond.selects R_Ou y_Ou_takeIn y_Ou_takeIn ∈ wd_T := wd_in (List.mem_of_getElem? (i := 173) (by decide +kernel)) rfl
theorem d_Sw_takeOfferedCells_0 : decode b_Sw_takeOfferedCells 0 = .ok (.iconst 0, 1) := by decide +kernel
theorem d_Sw_takeOfferedCells_1 : decode b_Sw_takeOfferedCells 1 = .ok (.istore_n 1, 1) := by decide +kernel
theorem d_Sw_takeOfferedCells_2 : decode b_Sw_takeOfferedCells 2 = .ok (.iload_n 1, 1) := by decide +kernel
theorem d_Sw_takeOfferedCells_3 : decode b_Sw_takeOfferedCells 3 = .ok (.bipush 8, 2) := by decide +kernel
theorem d_Sw_takeOfferedCells_5 : decode b_Sw_takeOfferedCells 5 = .ok (.if_icmp .ge 50, 3) := by decide +kernel
theorem d_Sw_takeOfferedCells_8 : decode b_Sw_takeOfferedCells 8 = .ok (.aload_n 0, 1) := by decide +kernel
theorem d_Sw_takeOfferedCells_9 : decode b_Sw_takeOfferedCells 9 = .ok (.getfield 11, 3) := by decide +kernel
theorem d_Sw_takeOfferedCells_12 : decode b_Sw_takeOfferedCells 12 = .ok (.iload_n 1, 1) := by decide +kernel
theorem d_Sw_takeOfferedCells_13 : decode b_Sw_takeOfferedCells 13 = .ok (.aaload, 1) := by decide +kernel
theorem d_Sw_takeOfferedCells_14 : decode b_Sw_takeOfferedCells 14 = .ok (.getfield 45, 3) := by decide +kernel
theorem d_Sw_takeOfferedCells_17 : decode b_Sw_takeOfferedCells 17 = .ok (.astore_n 2, 1) := by decide +kernel
theorem d_Sw_takeOfferedCells_18 : decode b_Sw_takeOfferedCells 18 = .ok (.aload_n 2, 1) := by decide +kernel
theorem d_Sw_takeOfferedCells_19 : decode b_Sw_takeOfferedCells 19 = .ok (.ifnull 30, 3) := by decide +kernel
theorem d_Sw_takeOfferedCells_22 : decode b_Sw_takeOfferedCells 22 = .ok (.aload_n 0, 1) := by decide +kernel
theorem d_Sw_takeOfferedCells_23 : decode b_Sw_takeOfferedCells 23 = .ok (.getfield 11, 3) := by decide +kernel
theorem d_Sw_takeOfferedCells_26 : decode b_Sw_takeOfferedCells 26 = .ok (.iload_n 1, 1) := by decide +kernel
theorem d_Sw_takeOfferedCells_27 : decode b_Sw_takeOfferedCells 27 = .ok (.aaload, 1) := by decide +kernel
theorem d_Sw_takeOfferedCells_28 : decode b_Sw_takeOfferedCells 28 = .ok (.aconst_null, 1) := by decide +kernel
theorem d_Sw_takeOfferedCells_29 : decode b_Sw_takeOfferedCells 29 = .ok (.putfield 45, 3) := by decide +kernel
theorem d_Sw_takeOfferedCells_32 : decode b_Sw_takeOfferedCells 32 = .ok (.aload_n 0, 1) := by decide +kernel
theorem d_Sw_takeOfferedCells_33 : decode b_Sw_takeOfferedCells 33 = .ok (.getfield 17, 3) := by decide +kernel
theorem d_Sw_takeOfferedCells_36 : decode b_Sw_takeOfferedCells 36 = .ok (.aload_n 2, 1) := by decide +kernel
theorem d_Sw_takeOfferedCells_37 : decode b_Sw_takeOfferedCells 37 = .ok (.getfield 106, 3) := by decide +kernel
theorem d_Sw_takeOfferedCells_40 : decode b_Sw_takeOfferedCells 40 = .ok (.aaload, 1) := by decide +kernel
theorem d_Sw_takeOfferedCells_41 : decode b_Sw_takeOfferedCells 41 = .ok (.aload_n 2, 1) := by decide +kernel
theorem d_Sw_takeOfferedCells_42 : decode b_Sw_takeOfferedCells 42 = .ok (.aload_n 0, 1) := by decide +kernel
theorem d_Sw_takeOfferedCells_43 : decode b_Sw_takeOfferedCells 43 = .ok (.getfield 68, 3) := by decide +kernel
theorem d_Sw_takeOfferedCells_46 : decode b_Sw_takeOfferedCells 46 = .ok (.invokevirtual 109, 3) := by decide +kernel
theorem d_Sw_takeOfferedCells_49 : decode b_Sw_takeOfferedCells 49 = .ok (.iinc 1 1, 3) := by decide +kernel
theorem d_Sw_takeOfferedCells_52 : decode b_Sw_takeOfferedCells 52 = .ok (.goto (-50), 3) := by decide +kernel
theorem d_Sw_takeOfferedCells_55 : decode b_Sw_takeOfferedCells 55 = .ok (.return_, 1) := by decide +kernel
abbrev rm_Sw_takeOfferedCells : Room := { frames := 3, cells := 0, slots := 0, locals := 69 }
set_option maxHeartbeats 4000000 in
set_option maxRecDepth 100000 in
theorem cn_Sw_takeOfferedCells (l : Launch) (D : va_G) (B : Nat) (M : hp_M) (a : Nat) (σ : sg_S) (F : Nat → Prop) (hsw : sw_H D M a σ F) (hinv : sg_inv σ) : Met l y_Sw_takeOfferedCells (wd_c y_Sw_takeOfferedCells b_Sw_takeOfferedCells 3 (none)) rm_Sw_takeOfferedCells (va_Pc [.ref a] (hp_C D B M)) (va_Qv (fun  (M1 : hp_M) => sw_H D M1 a (sg_comes σ 8) F ∧ sw_fr F M M1) (hp_C D B) (hp_ub B)) 0 0 (hp_ub B) := by
  refine hp_met (by decide) (Nat.le_of_ble_eq_true rfl) ?_
  intro p e s m args below meth cd ls Q hQ hx hb hr hts hown hlocks hnm hml hK hH hS hB hl
  replace hl : lv_has ls 3 [(0, .ref a)] := hl
  refine lv_iconst (v := 0) hx hb d_Sw_takeOfferedCells_0 (by decide) ?_
  refine lv_istore_n (lv' := [(1, .int 0), (0, .ref a)]) hx hb d_Sw_takeOfferedCells_1 rfl hl (by decide) rfl (fun ls hl => ?_)
  have Lp : ∀ (n i : Nat) (M2 : hp_M) (H : Heap) (locs : List Loc) (ls : Array Slot), i + n = 8 → sw_H D M2 a (sg_comes σ i) F → sw_fr F M M2 → hp_H D B M2 H → va_S (hp_ub B) s.heap H locs → lv_has ls 3 [(1, .int (nI i)), (0, .ref a)] → W p l e rm_Sw_takeOfferedCells s m args below meth cd H locs 0 0 Q (F0 m 2 ls []) := by
    intro n
    induction n with
    | zero =>
      intro i M2 H locs ls hn hs hfr hH hS hl
      have e8 : i = 8 := by omega
      rw [e8] at hs
      refine lv_iload_n hx hb d_Sw_takeOfferedCells_2 rfl (lv_at hl 0 rfl) ?_
      refine lv_bipush (v := 8) hx hb d_Sw_takeOfferedCells_3 (by decide) ?_
      refine lv_icmp_ge (tgt := 55) hx hb d_Sw_takeOfferedCells_5 (by decide) (fun c_1 => ?_) (fun c_1 => absurd (nI_le (a := 8) (by omega) (by omega)) c_1)
      exact hp_vret hx hb hr hlocks hQ hK hH hS (Nat.le_of_ble_eq_true rfl) (Nat.le_of_ble_eq_true rfl) d_Sw_takeOfferedCells_55 ⟨hs, hfr⟩
    | succ n ih =>
      intro i M2 H locs ls hn hs hfr hH hS hl
      have hi8 : i < 8 := by omega
      have hv := sg_inv_comes hinv (n := i) (by omega)
      have hstep : sg_comes σ (i + 1) = sg_come (sg_comes σ i) i := rfl
      obtain ⟨τ, eτ⟩ : ∃ z, z = sg_comes σ i := ⟨_, rfl⟩
      rw [← eτ] at hs hv hstep
      have hs0 := hs
      obtain ⟨aI, aO, fI, fO, oa, la, ip, op, sp, lp, LQ, ow, hP⟩ := hs
      have hP0 := hP
      obtain ⟨⟨h1, h2, h3⟩, ⟨w1, w2, w3⟩, hi, ho, hf⟩ := hP0
      obtain ⟨i1, i2, i3, i4⟩ := hi i hi8
      refine lv_iload_n hx hb d_Sw_takeOfferedCells_2 rfl (lv_at hl 0 rfl) ?_
      refine lv_bipush (v := 8) hx hb d_Sw_takeOfferedCells_3 (by decide) ?_
      refine lv_icmp_ge (tgt := 55) hx hb d_Sw_takeOfferedCells_5 (by decide) (fun c_2 => absurd c_2 (nI_ge (b := 8) (by omega) (by omega))) (fun c_2 => ?_)
      refine lv_aload_n hx hb d_Sw_takeOfferedCells_8 rfl (lv_at hl 1 rfl) ?_
      refine hp_get hx hb hts iw_Sw hown hK hH h1 rfl 0 (by decide) (hts _ kw_14) (v := .ref aI) rfl d_Sw_takeOfferedCells_9 ?_
      refine lv_iload_n hx hb d_Sw_takeOfferedCells_12 rfl (lv_at hl 0 rfl) ?_
      refine hp_aald hx hb hK hH h2 2 rfl i rfl hi8 (by decide) i1 d_Sw_takeOfferedCells_13 ?_
      refine hp_get hx hb hts iw_In hown hK hH i2 rfl 0 (by decide) (hts _ kw_79) (v := va_rf (oa i)) rfl d_Sw_takeOfferedCells_14 ?_
      refine hp_astore_n (lv' := [(2, va_rf (oa i)), (1, .int (nI i)), (0, .ref a)]) hx hb d_Sw_takeOfferedCells_17 rfl hl (by decide) rfl (fun ls hl => ?_)
      refine hp_aload_n hx hb d_Sw_takeOfferedCells_18 rfl (lv_at hl 0 rfl) ?_
      refine hp_ifnull (tgt := 49) hx hb d_Sw_takeOfferedCells_19 (by decide) (fun c_3 => ?_) (fun q_4 c_3 => ?_)
      · rw [c_3] at i4
        have hof := sw_one_no i4
        refine lv_iinc (v := nI (i + 1)) (lv' := [(1, .int (nI (i + 1))), (2, va_rf (oa i)), (0, .ref a)]) hx hb d_Sw_takeOfferedCells_49 hl (k := 1) rfl (nI_1 i) (by decide) rfl (fun ls hl => ?_)
        refine lv_goto (tgt := 2) hx hb d_Sw_takeOfferedCells_52 (by decide) ?_
        exact ih (i + 1) M2 _ _ ls (by omega) (by rw [hstep]; unfold sg_come; rw [hof]; exact hs0) hfr hH hS (lv_sub hl [0, 2] rfl)
      · rw [c_3] at i4 hl
        obtain ⟨d, e1, e2, e3⟩ := sw_one_yes i4
        replace hl : lv_has ls 3 [(2, .ref q_4), (1, .int (nI i)), (0, .ref a)] := hl
        have f_5 : M2 (ip i) = some (sw_i (some q_4) (nI (sg_held τ i))) := by rw [← c_3]; exact i2
        obtain ⟨d1, d2, d3, d4, d5, d6⟩ := (hv.2.1 i hi8).2 d e1
        obtain ⟨o1, o2, o3, ⟨ofs, o4, o4'⟩, o5, ⟨ofl, o6, o6'⟩, o7, ⟨o8, o9, o10⟩, o11⟩ := ho (sg_co d) d2
        refine lv_aload_n hx hb d_Sw_takeOfferedCells_22 rfl (lv_at hl 2 rfl) ?_
        refine hp_get hx hb hts iw_Sw hown hK hH h1 rfl 0 (by decide) (hts _ kw_14) (v := .ref aI) rfl d_Sw_takeOfferedCells_23 ?_
        refine lv_iload_n hx hb d_Sw_takeOfferedCells_26 rfl (lv_at hl 1 rfl) ?_
        refine hp_aald hx hb hK hH h2 2 rfl i rfl hi8 (by decide) i1 d_Sw_takeOfferedCells_27 ?_
        refine lv_null hx hb d_Sw_takeOfferedCells_28 ?_
        refine hp_put hx hb hts iw_In t_In t_In_ok n_In hown hK hH hS hB f_5 rfl 0 (by decide) (hts _ kw_79) rfl  (v := .null) rfl rfl (Nat.le_of_ble_eq_true rfl) (fs' := [.null, .int (nI (sg_held τ i))]) rfl d_Sw_takeOfferedCells_29 (fun M_6 H locs eM_6 hH hS => ?_)
        have f_7 : M_6 (ip i) = some (.inr (ix_in, [.null, .int (nI (sg_held τ i))])) := by rw [eM_6]; exact va_up_self _ _ _
        have f_8 : M_6 a = some (.inr (ix_sw, [.ref aI, .ref aO, .int (sg_sl τ), .long (lN (sg_ac τ))])) := by rw [eM_6, va_up_ne _ _ (hp_ne ix_sw ix_in h1 f_5 rfl rfl (by decide))]; exact h1
        have f_9 : M_6 aI = some (hp_aq D 12 8 fI) := by rw [eM_6, va_up_ne _ _ (hp_ne 102 ix_in h2 f_5 rfl rfl (by decide))]; exact h2
        have f_10 : M_6 aO = some (hp_aq D 13 8 fO) := by rw [eM_6, va_up_ne _ _ (hp_ne 102 ix_in h3 f_5 rfl rfl (by decide))]; exact h3
        have f_11 : M_6 q_4 = some (.inr (ix_ce, [.int (nI (sg_ci d)), .int (nI (sg_co d)), .int (nI (sg_cg d)), .int (sg_ct d), .long (lN (sg_cs d)), .int (sg_cc d), .long (sg_cm d), .null])) := by rw [eM_6, va_up_ne _ _ (hp_ne ix_ce ix_in e2 f_5 rfl rfl (by decide))]; exact e2
        have f_12 : M_6 (op (sg_co d)) = some (.inr (ix_ou, [.int (sg_kd τ (sg_co d)), .ref (sp (sg_co d)), .ref (lp (sg_co d)), va_rf (sw_hd (LQ (sg_co d)) none), .int (nI (sg_qu τ (sg_co d)).length), va_rf (la (sg_co d))])) := by rw [eM_6, va_up_ne _ _ (hp_ne ix_ou ix_in o2 f_5 rfl rfl (by decide))]; exact o2
        have f_13 : M_6 (sp (sg_co d)) = some (hp_ai D 8 ofs) := by rw [eM_6, va_up_ne _ _ (hp_ne 100 ix_in o4 f_5 rfl rfl (by decide))]; exact o4
        have f_14 : M_6 (lp (sg_co d)) = some (hp_al D 8 ofl) := by rw [eM_6, va_up_ne _ _ (hp_ne 101 ix_in o6 f_5 rfl rfl (by decide))]; exact o6
        refine lv_aload_n hx hb d_Sw_takeOfferedCells_32 rfl (lv_at hl 2 rfl) ?_
        refine hp_get hx hb hts iw_Sw hown hK hH f_8 rfl 1 (by decide) (hts _ kw_5) (v := .ref aO) rfl d_Sw_takeOfferedCells_33 ?_
        refine lv_aload_n hx hb d_Sw_takeOfferedCells_36 rfl (lv_at hl 0 rfl) ?_
        refine hp_get hx hb hts iw_Ce hown hK hH f_11 rfl 1 (by decide) (hts _ kw_80) (v := .int (nI (sg_co d))) rfl d_Sw_takeOfferedCells_37 ?_
        refine hp_aald hx hb hK hH f_10 3 rfl (sg_co d) rfl d2 (by decide) o1 d_Sw_takeOfferedCells_40 ?_
        refine lv_aload_n hx hb d_Sw_takeOfferedCells_41 rfl (lv_at hl 0 rfl) ?_
        refine lv_aload_n hx hb d_Sw_takeOfferedCells_42 rfl (lv_at hl 2 rfl) ?_
        refine hp_get hx hb hts iw_Sw hown hK hH f_8 rfl 2 (by decide) (hts _ kw_0) (v := .int (sg_sl τ)) rfl d_Sw_takeOfferedCells_43 ?_
        have hxo : ∀ y ∈ LQ (sg_co d), y ≠ q_4 := fun y hy z => by have := o10 y hy; rw [z, e3] at this; omega
        have hch : sw_sg M_6 (LQ (sg_co d)) (sg_qu τ (sg_co d)) none := sw_sg_kept o8 (fun y hy => by rw [eM_6, va_up_ne _ _ (fun z => by have := o10 y hy; rw [z, i3] at this; omega)])
        refine hp_callv (hp_runV (b := op (sg_co d)) (As := [.ref q_4, .int (sg_sl τ)]) (rest := []) hx hb hml hown (cn_Ou_takeIn l D B M_6 (op (sg_co d)) (sg_kd τ (sg_co d)) (sp (sg_co d)) (lp (sg_co d)) (nI (sg_qu τ (sg_co d)).length) (la (sg_co d)) (LQ (sg_co d)) (sg_qu τ (sg_co d)) q_4 d none (sg_sl τ) ofl ofs f_12 hch f_11 (fun hm => hxo _ hm rfl) o9 ((hv.1 (sg_co d) d2).1) d3 (fun c hc => ((hv.1 (sg_co d) d2).2.2.2 c hc).2.2.1) f_14 f_13) (hp_cwV 2 hts kw_98 kw_100 kw_101 kw_34 kw_99 rfl rfl (by decide +kernel) ⟨(Nat.le_of_ble_eq_true rfl), (Nat.le_of_ble_eq_true rfl)⟩) hK hH f_12 rfl rfl hl.1 rfl (Nat.le_of_ble_eq_true rfl) d_Sw_takeOfferedCells_46 ⟨(Nat.le_of_ble_eq_true rfl), (Nat.le_of_ble_eq_true rfl)⟩) hS (fun M_16 H locs w_17 hH hS => ?_)
        obtain ⟨L', g, g1, p1, p2, p3, p4, p5, p6⟩ := w_17
        obtain ⟨r1, r2⟩ := sw_H_come hP hv hi8 e1 c_3 o6' o4' rfl g1 p1 p2 p3 p4 p5 (fun y b1 b2 b3 b4 => (p6 y b1 b2 b3 b4).trans (by rw [eM_6]; first | done | rfl))
        rw [← hstep] at r1
        refine lv_iinc (v := nI (i + 1)) (lv' := [(1, .int (nI (i + 1))), (2, .ref q_4), (0, .ref a)]) hx hb d_Sw_takeOfferedCells_49 hl (k := 1) rfl (nI_1 i) (by decide) rfl (fun ls hl => ?_)
        refine lv_goto (tgt := 2) hx hb d_Sw_takeOfferedCells_52 (by decide) ?_
        exact ih (i + 1) M_16 _ _ ls (by omega) r1 (sw_fr_tr hfr r2) hH hS (lv_sub hl [0, 2] rfl)
  exact Lp 8 0 M _ _ ls (by omega) hsw sw_fr_rf hH hS (lv_sub hl [0, 1] rfl)
end
section
theorem kw_102 : Cond.methodLink R_Sw 113 y_Ou_sendHead ∈ wd_T := wd_in (List.mem_of_getElem? (i := 195) (by decide +kernel)) rfl
theorem kw_103 : Cond.code y_Ou_sendHead b_Ou_sendHead 1 (some (.object "EvenSwitch$Cell")) ∈ wd_T := wd_in (List.mem_of_getElem? (i := 198) (by decide +kernel)) rfl
theorem kw_104 : Cond.instanceMethod y_Ou_sendHead ∈ wd_T := wd_in (List.mem_of_getElem? (i := 196) (by decide +kernel)) rfl
theorem kw_105 : Cond.selects R_Ou y_Ou_sendHead y_Ou_sendHead ∈ wd_T := wd_in (List.mem_of_getElem? (i := 197) (by decide +kernel)) rfl
theorem kw_106 : Cond.methodLink R_Sw 61 y_Sw_takeOfferedCells ∈ wd_T := wd_in (List.mem_of_getElem? (i := 167) (by decide +kernel)) rfl
theorem kw_107 : Cond.code y_Sw_takeOfferedCells b_Sw_takeOfferedCells 3 none ∈ wd_T := wd_in (List.mem_of_getElem? (i := 170) (by decide +kernel)) rfl
theorem kw_108 : Cond.instanceMethod y_Sw_takeOfferedCells ∈ wd_T := wd_in (List.mem_of_getElem? (i := 169) (by decide +kernel)) rfl
theorem kw_109 : Cond.selects R_Sw y_Sw_takeOfferedCells y_Sw_takeOfferedCells ∈ wd_T := wd_in (List.mem_of_getElem? (i := 1) (by decide +kernel)) rfl
theorem kw_110 : Cond.methodLink R_Sw 64 y_Sw_sendFirstCells ∈ wd_T := wd_in (List.mem_of_getElem? (i := 191) (by decide +kernel)) rfl
theorem kw_111 : Cond.code y_Sw_sendFirstCells b_Sw_sendFirstCells 4 (some .int) ∈ wd_T := wd_in (List.mem_of_getElem? (i := 194) (by decide +kernel)) rfl
theorem kw_112 : Cond.instanceMethod y_Sw_sendFirstCells ∈ wd_T := wd_in (List.mem_of_getElem? (i := 193) (by decide +kernel)) rfl
theorem kw_113 : Cond.selects R_Sw y_Sw_sendFirstCells y_Sw_sendFirstCells ∈ wd_T := wd_in (List.mem_of_getElem? (i := 5) (by decide +kernel)) rfl
theorem d_Sw_sendFirstCells_0 : decode b_Sw_sendFirstCells 0 = .ok (.iconst 0, 1) := by decide +kernel
theorem d_Sw_sendFirstCells_1 : decode b_Sw_sendFirstCells 1 = .ok (.istore_n 1, 1) := by decide +kernel
theorem d_Sw_sendFirstCells_2 : decode b_Sw_sendFirstCells 2 = .ok (.iconst 0, 1) := by decide +kernel
theorem d_Sw_sendFirstCells_3 : decode b_Sw_sendFirstCells 3 = .ok (.istore_n 2, 1) := by decide +kernel
theorem d_Sw_sendFirstCells_4 : decode b_Sw_sendFirstCells 4 = .ok (.iload_n 2, 1) := by decide +kernel
theorem d_Sw_sendFirstCells_5 : decode b_Sw_sendFirstCells 5 = .ok (.bipush 8, 2) := by decide +kernel
theorem d_Sw_sendFirstCells_7 : decode b_Sw_sendFirstCells 7 = .ok (.if_icmp .ge 44, 3) := by decide +kernel
theorem d_Sw_sendFirstCells_10 : decode b_Sw_sendFirstCells 10 = .ok (.aload_n 0, 1) := by decide +kernel
theorem d_Sw_sendFirstCells_11 : decode b_Sw_sendFirstCells 11 = .ok (.getfield 17, 3) := by decide +kernel
theorem d_Sw_sendFirstCells_14 : decode b_Sw_sendFirstCells 14 = .ok (.iload_n 2, 1) := by decide +kernel
theorem d_Sw_sendFirstCells_15 : decode b_Sw_sendFirstCells 15 = .ok (.aaload, 1) := by decide +kernel
theorem d_Sw_sendFirstCells_16 : decode b_Sw_sendFirstCells 16 = .ok (.invokevirtual 113, 3) := by decide +kernel
theorem d_Sw_sendFirstCells_19 : decode b_Sw_sendFirstCells 19 = .ok (.astore_n 3, 1) := by decide +kernel
theorem d_Sw_sendFirstCells_20 : decode b_Sw_sendFirstCells 20 = .ok (.aload_n 3, 1) := by decide +kernel
theorem d_Sw_sendFirstCells_21 : decode b_Sw_sendFirstCells 21 = .ok (.ifnull 24, 3) := by decide +kernel
theorem d_Sw_sendFirstCells_24 : decode b_Sw_sendFirstCells 24 = .ok (.aload_n 0, 1) := by decide +kernel
theorem d_Sw_sendFirstCells_25 : decode b_Sw_sendFirstCells 25 = .ok (.getfield 11, 3) := by decide +kernel
theorem d_Sw_sendFirstCells_28 : decode b_Sw_sendFirstCells 28 = .ok (.aload_n 3, 1) := by decide +kernel
theorem d_Sw_sendFirstCells_29 : decode b_Sw_sendFirstCells 29 = .ok (.getfield 78, 3) := by decide +kernel
theorem d_Sw_sendFirstCells_32 : decode b_Sw_sendFirstCells 32 = .ok (.aaload, 1) := by decide +kernel
theorem d_Sw_sendFirstCells_33 : decode b_Sw_sendFirstCells 33 = .ok (.dup, 1) := by decide +kernel
theorem d_Sw_sendFirstCells_34 : decode b_Sw_sendFirstCells 34 = .ok (.getfield 49, 3) := by decide +kernel
theorem d_Sw_sendFirstCells_37 : decode b_Sw_sendFirstCells 37 = .ok (.iconst 1, 1) := by decide +kernel
theorem d_Sw_sendFirstCells_38 : decode b_Sw_sendFirstCells 38 = .ok (.isub, 1) := by decide +kernel
theorem d_Sw_sendFirstCells_39 : decode b_Sw_sendFirstCells 39 = .ok (.putfield 49, 3) := by decide +kernel
theorem d_Sw_sendFirstCells_42 : decode b_Sw_sendFirstCells 42 = .ok (.iinc 1 1, 3) := by decide +kernel
theorem d_Sw_sendFirstCells_45 : decode b_Sw_sendFirstCells 45 = .ok (.iinc 2 1, 3) := by decide +kernel
theorem d_Sw_sendFirstCells_48 : decode b_Sw_sendFirstCells 48 = .ok (.goto (-44), 3) := by decide +kernel
theorem d_Sw_sendFirstCells_51 : decode b_Sw_sendFirstCells 51 = .ok (.iload_n 1, 1) := by decide +kernel
theorem d_Sw_sendFirstCells_52 : decode b_Sw_sendFirstCells 52 = .ok (.ireturn, 1) := by decide +kernel
theorem d_Sw_slot_0 : decode b_Sw_slot 0 = .ok (.aload_n 0, 1) := by decide +kernel
theorem d_Sw_slot_1 : decode b_Sw_slot 1 = .ok (.invokevirtual 61, 3) := by decide +kernel
theorem d_Sw_slot_4 : decode b_Sw_slot 4 = .ok (.aload_n 0, 1) := by decide +kernel
theorem d_Sw_slot_5 : decode b_Sw_slot 5 = .ok (.invokevirtual 64, 3) := by decide +kernel
theorem d_Sw_slot_8 : decode b_Sw_slot 8 = .ok (.istore_n 1, 1) := by decide +kernel
theorem d_Sw_slot_9 : decode b_Sw_slot 9 = .ok (.aload_n 0, 1) := by decide +kernel
theorem d_Sw_slot_10 : decode b_Sw_slot 10 = .ok (.dup, 1) := by decide +kernel
theorem d_Sw_slot_11 : decode b_Sw_slot 11 = .ok (.getfield 68, 3) := by decide +kernel
theorem d_Sw_slot_14 : decode b_Sw_slot 14 = .ok (.iconst 1, 1) := by decide +kernel
theorem d_Sw_slot_15 : decode b_Sw_slot 15 = .ok (.iadd, 1) := by decide +kernel
theorem d_Sw_slot_16 : decode b_Sw_slot 16 = .ok (.putfield 68, 3) := by decide +kernel
theorem d_Sw_slot_19 : decode b_Sw_slot 19 = .ok (.iload_n 1, 1) := by decide +kernel
theorem d_Sw_slot_20 : decode b_Sw_slot 20 = .ok (.ireturn, 1) := by decide +kernel
abbrev rm_Sw_sendFirstCells : Room := { frames := 3, cells := 0, slots := 0, locals := 64 }
set_option maxHeartbeats 4000000 in
set_option maxRecDepth 100000 in
theorem cn_Sw_sendFirstCells (l : Launch) (D : va_G) (B : Nat) (M : hp_M) (a : Nat) (σ : sg_S) (F : Nat → Prop) (hsw : sw_H D M a σ F) (hinv : sg_inv σ) : Met l y_Sw_sendFirstCells (wd_c y_Sw_sendFirstCells b_Sw_sendFirstCells 4 (some .int)) rm_Sw_sendFirstCells (va_Pc [.ref a] (hp_C D B M)) (va_Qi (fun (r : Int32) (M1 : hp_M) => r = nI (sg_count σ 8) ∧ sw_H D M1 a (sg_sends σ 8) F ∧ sw_fr F M M1) (hp_C D B) (hp_ub B)) 0 0 (hp_ub B) := by
  refine hp_met (by decide) (Nat.le_of_ble_eq_true rfl) ?_
  intro p e s m args below meth cd ls Q hQ hx hb hr hts hown hlocks hnm hml hK hH hS hB hl
  replace hl : lv_has ls 4 [(0, .ref a)] := hl
  refine lv_iconst (v := 0) hx hb d_Sw_sendFirstCells_0 (by decide) ?_
  refine lv_istore_n (lv' := [(1, .int 0), (0, .ref a)]) hx hb d_Sw_sendFirstCells_1 rfl hl (by decide) rfl (fun ls hl => ?_)
  refine lv_iconst (v := 0) hx hb d_Sw_sendFirstCells_2 (by decide) ?_
  refine lv_istore_n (lv' := [(2, .int 0), (1, .int 0), (0, .ref a)]) hx hb d_Sw_sendFirstCells_3 rfl hl (by decide) rfl (fun ls hl => ?_)
  have Lp : ∀ (n i : Nat) (M2 : hp_M) (H : Heap) (locs : List Loc) (ls : Array Slot), i + n = 8 → sw_H D M2 a (sg_sends σ i) F → sw_fr F M M2 → hp_H D B M2 H → va_S (hp_ub B) s.heap H locs → lv_has ls 4 [(2, .int (nI i)), (1, .int (nI (sg_count σ i))), (0, .ref a)] → W p l e rm_Sw_sendFirstCells s m args below meth cd H locs 0 0 Q (F0 m 4 ls []) := by
    intro n
    induction n with
    | zero =>
      intro i M2 H locs ls hn hs hfr hH hS hl
      have e8 : i = 8 := by omega
      subst e8
      refine lv_iload_n hx hb d_Sw_sendFirstCells_4 rfl (lv_at hl 0 rfl) ?_
      refine lv_bipush (v := 8) hx hb d_Sw_sendFirstCells_5 (by decide) ?_
      refine lv_icmp_ge (tgt := 51) hx hb d_Sw_sendFirstCells_7 (by decide) (fun c_1 => ?_) (fun c_1 => absurd (nI_le (a := 8) (by omega) (by omega)) c_1)
      refine lv_iload_n hx hb d_Sw_sendFirstCells_51 rfl (lv_at hl 1 rfl) ?_
      exact hp_iret hx hb hr hlocks hQ hK hH hS (Nat.le_of_ble_eq_true rfl) (Nat.le_of_ble_eq_true rfl) d_Sw_sendFirstCells_52 ⟨rfl, hs, hfr⟩
    | succ n ih =>
      intro i M2 H locs ls hn hs hfr hH hS hl
      have hi8 : i < 8 := by omega
      have hv := sg_inv_sends hinv (n := i) (by omega)
      have hstep : sg_sends σ (i + 1) = sg_send (sg_sends σ i) i := rfl
      have hqi := sg_qu_sends σ (Nat.le_refl i)
      obtain ⟨τ, eτ⟩ : ∃ z, z = sg_sends σ i := ⟨_, rfl⟩
      rw [← eτ] at hs hv hstep hqi
      obtain ⟨aI, aO, fI, fO, oa, la, ip, op, sp, lp, LQ, ow, hP⟩ := hs
      have hP0 := hP
      obtain ⟨⟨h1, h2, h3⟩, ⟨w1, w2, w3⟩, hi, ho, hf⟩ := hP0
      obtain ⟨o1, o2, o3, ⟨ofs, o4, o4'⟩, o5, ⟨ofl, o6, o6'⟩, o7, ⟨o8, o9, o10⟩, o11⟩ := ho i hi8
      rcases sw_q3 o8 with ⟨hq, eL⟩ | ⟨c, x, hq, eL, hxx⟩ | ⟨c, d, cs, x, y, ys, hq, eL, hxx⟩
      · rw [eL] at o2
        refine lv_iload_n hx hb d_Sw_sendFirstCells_4 rfl (lv_at hl 0 rfl) ?_
        refine lv_bipush (v := 8) hx hb d_Sw_sendFirstCells_5 (by decide) ?_
        refine lv_icmp_ge (tgt := 51) hx hb d_Sw_sendFirstCells_7 (by decide) (fun c_2 => absurd c_2 (nI_ge (b := 8) (by omega) (by omega))) (fun c_2 => ?_)
        refine lv_aload_n hx hb d_Sw_sendFirstCells_10 rfl (lv_at hl 2 rfl) ?_
        refine hp_get hx hb hts iw_Sw hown hK hH h1 rfl 1 (by decide) (hts _ kw_5) (v := .ref aO) rfl d_Sw_sendFirstCells_11 ?_
        refine lv_iload_n hx hb d_Sw_sendFirstCells_14 rfl (lv_at hl 0 rfl) ?_
        refine hp_aald hx hb hK hH h3 3 rfl i rfl hi8 (by decide) o1 d_Sw_sendFirstCells_15 ?_
        refine hp_callq (hp_runV (b := op i) (As := []) (rest := []) hx hb hml hown (cn_Ou_sendHead_0 l D B M2 (op i) (sg_kd τ i) (sp i) (lp i) (nI (sg_qu τ i).length) (la i) o2) (hp_cwV 0 hts kw_102 kw_104 kw_105 kw_34 kw_103 rfl rfl (by decide +kernel) ⟨(Nat.le_of_ble_eq_true rfl), (Nat.le_of_ble_eq_true rfl)⟩) hK hH o2 rfl rfl hl.1 rfl (Nat.le_of_ble_eq_true rfl) d_Sw_sendFirstCells_16 ⟨(Nat.le_of_ble_eq_true rfl), (Nat.le_of_ble_eq_true rfl)⟩) hS (fun r_3 M_4 H locs w_5 hH hS => ?_)
        obtain ⟨eR, eM⟩ := w_5
        rw [eR]
        obtain ⟨r1, r2⟩ := sw_H_send0 (M1 := M_4) hP hi8 hq eM
        rw [← hstep] at r1
        refine lv_astore_nN (lv' := [(3, .null), (2, .int (nI i)), (1, .int (nI (sg_count σ i))), (0, .ref a)]) hx hb d_Sw_sendFirstCells_19 rfl hl (by decide) rfl (fun ls hl => ?_)
        refine lv_aload_nN hx hb d_Sw_sendFirstCells_20 rfl (lv_at hl 0 rfl) ?_
        refine lv_ifnullN (tgt := 45) hx hb d_Sw_sendFirstCells_21 (by decide) ?_
        refine lv_iinc (v := nI (i + 1)) (lv' := [(2, .int (nI (i + 1))), (3, .null), (1, .int (nI (sg_count σ i))), (0, .ref a)]) hx hb d_Sw_sendFirstCells_45 hl (k := 1) rfl (nI_1 i) (by decide) rfl (fun ls hl => ?_)
        refine lv_goto (tgt := 4) hx hb d_Sw_sendFirstCells_48 (by decide) ?_
        exact ih (i + 1) M_4 _ _ ls (by omega) r1 (sw_fr_tr hfr r2) hH hS (by rw [sg_count_0 (hqi.symm.trans hq)]; exact lv_sub hl [0, 2, 3] rfl)
      · rw [eL] at o2
        have hcm : c ∈ sg_qu τ i := by rw [hq]; exact List.mem_cons_self
        have hc8 := ((hv.1 i hi8).2.2.2 c hcm).1
        obtain ⟨i1, i2, i3, i4⟩ := hi (sg_ci c) hc8
        refine lv_iload_n hx hb d_Sw_sendFirstCells_4 rfl (lv_at hl 0 rfl) ?_
        refine lv_bipush (v := 8) hx hb d_Sw_sendFirstCells_5 (by decide) ?_
        refine lv_icmp_ge (tgt := 51) hx hb d_Sw_sendFirstCells_7 (by decide) (fun c_6 => absurd c_6 (nI_ge (b := 8) (by omega) (by omega))) (fun c_6 => ?_)
        refine lv_aload_n hx hb d_Sw_sendFirstCells_10 rfl (lv_at hl 2 rfl) ?_
        refine hp_get hx hb hts iw_Sw hown hK hH h1 rfl 1 (by decide) (hts _ kw_5) (v := .ref aO) rfl d_Sw_sendFirstCells_11 ?_
        refine lv_iload_n hx hb d_Sw_sendFirstCells_14 rfl (lv_at hl 0 rfl) ?_
        refine hp_aald hx hb hK hH h3 3 rfl i rfl hi8 (by decide) o1 d_Sw_sendFirstCells_15 ?_
        refine hp_callq (hp_runV (b := op i) (As := []) (rest := []) hx hb hml hown (cn_Ou_sendHead_1 l D B M2 (op i) (sg_kd τ i) (sp i) (lp i) (nI (sg_qu τ i).length) (la i) x c ofl o2 hxx o6) (hp_cwV 0 hts kw_102 kw_104 kw_105 kw_34 kw_103 rfl rfl (by decide +kernel) ⟨(Nat.le_of_ble_eq_true rfl), (Nat.le_of_ble_eq_true rfl)⟩) hK hH o2 rfl rfl hl.1 rfl (Nat.le_of_ble_eq_true rfl) d_Sw_sendFirstCells_16 ⟨(Nat.le_of_ble_eq_true rfl), (Nat.le_of_ble_eq_true rfl)⟩) hS (fun r_7 M_8 H locs w_9 hH hS => ?_)
        obtain ⟨eR, g, hg, eM⟩ := w_9
        rw [eR]
        have f_10 : M_8 a = some (.inr (ix_sw, [.ref aI, .ref aO, .int (sg_sl τ), .long (lN (sg_ac τ))])) := by rw [eM, va_up_ne _ _ (hp_ne ix_sw 101 h1 o6 rfl rfl (by decide)), va_up_ne _ _ (hp_ne ix_sw ix_ce h1 hxx rfl rfl (by decide)), va_up_ne _ _ (hp_ne ix_sw ix_ou h1 o2 rfl rfl (by decide))]; exact h1
        have f_11 : M_8 aI = some (hp_aq D 12 8 fI) := by rw [eM, va_up_ne _ _ (hp_ne 102 101 h2 o6 rfl rfl (by decide)), va_up_ne _ _ (hp_ne 102 ix_ce h2 hxx rfl rfl (by decide)), va_up_ne _ _ (hp_ne 102 ix_ou h2 o2 rfl rfl (by decide))]; exact h2
        have f_12 : M_8 aO = some (hp_aq D 13 8 fO) := by rw [eM, va_up_ne _ _ (hp_ne 102 101 h3 o6 rfl rfl (by decide)), va_up_ne _ _ (hp_ne 102 ix_ce h3 hxx rfl rfl (by decide)), va_up_ne _ _ (hp_ne 102 ix_ou h3 o2 rfl rfl (by decide))]; exact h3
        have f_13 : M_8 (ip (sg_ci c)) = some (.inr (ix_in, [va_rf (oa (sg_ci c)), .int (nI (sg_held τ (sg_ci c)))])) := by rw [eM, va_up_ne _ _ (hp_ne ix_in 101 i2 o6 rfl rfl (by decide)), va_up_ne _ _ (hp_ne ix_in ix_ce i2 hxx rfl rfl (by decide)), va_up_ne _ _ (hp_ne ix_in ix_ou i2 o2 rfl rfl (by decide))]; exact i2
        have kx : M_8 x = some (sw_c c none) := by rw [eM, va_up_ne _ _ (hp_ne ix_ce 101 hxx o6 rfl rfl (by decide))]; exact va_up_self _ _ _
        have ko : M_8 (op i) = some (sw_o (sg_kd τ i) (sp i) (lp i) none (nI (sg_qu τ i).length - 1) (some x)) := by rw [eM, va_up_ne _ _ (hp_ne ix_ou 101 o2 o6 rfl rfl (by decide)), va_up_ne _ _ (hp_ne ix_ou ix_ce o2 hxx rfl rfl (by decide))]; exact va_up_self _ _ _
        have kl : M_8 (lp i) = some (hp_al D 8 g) := by rw [eM]; exact va_up_self _ _ _
        have hKe := (sg_held_send1 hq hi8 (sg_ci c)).symm
        rw [if_pos rfl] at hKe
        obtain ⟨K, eK⟩ : ∃ z, z = sg_held (sg_send1 τ i c []) (sg_ci c) := ⟨_, rfl⟩
        rw [← eK] at hKe
        refine lv_astore_n (lv' := [(3, .ref x), (2, .int (nI i)), (1, .int (nI (sg_count σ i))), (0, .ref a)]) hx hb d_Sw_sendFirstCells_19 rfl hl (by decide) rfl (fun ls hl => ?_)
        refine lv_aload_n hx hb d_Sw_sendFirstCells_20 rfl (lv_at hl 0 rfl) ?_
        refine lv_ifnull hx hb d_Sw_sendFirstCells_21 ?_
        refine lv_aload_n hx hb d_Sw_sendFirstCells_24 rfl (lv_at hl 3 rfl) ?_
        refine hp_get hx hb hts iw_Sw hown hK hH f_10 rfl 0 (by decide) (hts _ kw_14) (v := .ref aI) rfl d_Sw_sendFirstCells_25 ?_
        refine lv_aload_n hx hb d_Sw_sendFirstCells_28 rfl (lv_at hl 0 rfl) ?_
        refine hp_get hx hb hts iw_Ce hown hK hH kx rfl 0 (by decide) (hts _ kw_12) (v := .int (nI (sg_ci c))) rfl d_Sw_sendFirstCells_29 ?_
        refine hp_aald hx hb hK hH f_11 2 rfl (sg_ci c) rfl hc8 (by decide) i1 d_Sw_sendFirstCells_32 ?_
        refine lv_dup hx hb d_Sw_sendFirstCells_33 rfl ?_
        refine hp_get hx hb hts iw_In hown hK hH f_13 rfl 1 (by decide) (hts _ kw_15) (v := .int (nI (sg_held τ (sg_ci c)))) rfl d_Sw_sendFirstCells_34 ?_
        refine lv_iconst (v := 1) hx hb d_Sw_sendFirstCells_37 (by decide) ?_
        refine lv_isub hx hb d_Sw_sendFirstCells_38 ?_
        refine hp_ioi (v := nI K) (by rw [hKe]; exact nI_pred K) ?_
        refine hp_put hx hb hts iw_In t_In t_In_ok n_In hown hK hH hS hB f_13 rfl 1 (by decide) (hts _ kw_15) rfl  (v := .int (nI K)) rfl rfl (Nat.le_of_ble_eq_true rfl) (fs' := [va_rf (oa (sg_ci c)), .int (nI K)]) rfl d_Sw_sendFirstCells_39 (fun M_14 H locs eM_14 hH hS => ?_)
        have f_15 : M_14 (ip (sg_ci c)) = some (.inr (ix_in, [va_rf (oa (sg_ci c)), .int (nI K)])) := by rw [eM_14]; exact va_up_self _ _ _
        have f_16 : M_14 a = some (.inr (ix_sw, [.ref aI, .ref aO, .int (sg_sl τ), .long (lN (sg_ac τ))])) := by rw [eM_14, va_up_ne _ _ (hp_ne ix_sw ix_in f_10 f_13 rfl rfl (by decide))]; exact f_10
        have f_17 : M_14 aI = some (hp_aq D 12 8 fI) := by rw [eM_14, va_up_ne _ _ (hp_ne 102 ix_in f_11 f_13 rfl rfl (by decide))]; exact f_11
        have f_18 : M_14 aO = some (hp_aq D 13 8 fO) := by rw [eM_14, va_up_ne _ _ (hp_ne 102 ix_in f_12 f_13 rfl rfl (by decide))]; exact f_12
        have f_19 : M_14 x = some (.inr (ix_ce, [.int (nI (sg_ci c)), .int (nI (sg_co c)), .int (nI (sg_cg c)), .int (sg_ct c), .long (lN (sg_cs c)), .int (sg_cc c), .long (sg_cm c), .null])) := by rw [eM_14, va_up_ne _ _ (hp_ne ix_ce ix_in kx f_13 rfl rfl (by decide))]; exact kx
        have f_20 : M_14 (op i) = some (.inr (ix_ou, [.int (sg_kd τ i), .ref (sp i), .ref (lp i), .null, .int (nI (sg_qu τ i).length - 1), .ref x])) := by rw [eM_14, va_up_ne _ _ (hp_ne ix_ou ix_in ko f_13 rfl rfl (by decide))]; exact ko
        have f_21 : M_14 (lp i) = some (hp_al D 8 g) := by rw [eM_14, va_up_ne _ _ (hp_ne 101 ix_in kl f_13 rfl rfl (by decide))]; exact kl
        obtain ⟨r1, r2⟩ := sw_H_send1 (M1 := M_14) (xs := []) (cs := []) hP hi8 hq hc8 eL (fun j hj => by rw [if_pos rfl]; exact hg j hj) (N := nI (sg_qu τ i).length - 1) (by rw [hq]; exact nI_pred _) hKe f_20 f_21 f_19 f_15 (fun w b1 b2 b3 b4 => by rw [eM_14, va_up_ne _ _ b4, eM, va_up_ne _ _ b2, va_up_ne _ _ b3, va_up_ne _ _ b1])
        rw [← hstep] at r1
        refine lv_iinc (v := nI ((sg_count σ i) + 1)) (lv' := [(1, .int (nI ((sg_count σ i) + 1))), (3, .ref x), (2, .int (nI i)), (0, .ref a)]) hx hb d_Sw_sendFirstCells_42 hl (k := 2) rfl (nI_1 (sg_count σ i)) (by decide) rfl (fun ls hl => ?_)
        refine lv_iinc (v := nI (i + 1)) (lv' := [(2, .int (nI (i + 1))), (1, .int (nI ((sg_count σ i) + 1))), (3, .ref x), (0, .ref a)]) hx hb d_Sw_sendFirstCells_45 hl (k := 2) rfl (nI_1 i) (by decide) rfl (fun ls hl => ?_)
        refine lv_goto (tgt := 4) hx hb d_Sw_sendFirstCells_48 (by decide) ?_
        exact ih (i + 1) M_14 _ _ ls (by omega) r1 (sw_fr_tr hfr r2) hH hS (by rw [sg_count_1 (hqi.symm.trans hq)]; exact lv_sub hl [0, 1, 3] rfl)
      · rw [eL] at o2
        have hcm : c ∈ sg_qu τ i := by rw [hq]; exact List.mem_cons_self
        have hc8 := ((hv.1 i hi8).2.2.2 c hcm).1
        obtain ⟨i1, i2, i3, i4⟩ := hi (sg_ci c) hc8
        refine lv_iload_n hx hb d_Sw_sendFirstCells_4 rfl (lv_at hl 0 rfl) ?_
        refine lv_bipush (v := 8) hx hb d_Sw_sendFirstCells_5 (by decide) ?_
        refine lv_icmp_ge (tgt := 51) hx hb d_Sw_sendFirstCells_7 (by decide) (fun c_22 => absurd c_22 (nI_ge (b := 8) (by omega) (by omega))) (fun c_22 => ?_)
        refine lv_aload_n hx hb d_Sw_sendFirstCells_10 rfl (lv_at hl 2 rfl) ?_
        refine hp_get hx hb hts iw_Sw hown hK hH h1 rfl 1 (by decide) (hts _ kw_5) (v := .ref aO) rfl d_Sw_sendFirstCells_11 ?_
        refine lv_iload_n hx hb d_Sw_sendFirstCells_14 rfl (lv_at hl 0 rfl) ?_
        refine hp_aald hx hb hK hH h3 3 rfl i rfl hi8 (by decide) o1 d_Sw_sendFirstCells_15 ?_
        refine hp_callq (hp_runV (b := op i) (As := []) (rest := []) hx hb hml hown (cn_Ou_sendHead_2 l D B M2 (op i) (sg_kd τ i) (sp i) (lp i) (nI (sg_qu τ i).length) (la i) x c ofl y o2 hxx o6) (hp_cwV 0 hts kw_102 kw_104 kw_105 kw_34 kw_103 rfl rfl (by decide +kernel) ⟨(Nat.le_of_ble_eq_true rfl), (Nat.le_of_ble_eq_true rfl)⟩) hK hH o2 rfl rfl hl.1 rfl (Nat.le_of_ble_eq_true rfl) d_Sw_sendFirstCells_16 ⟨(Nat.le_of_ble_eq_true rfl), (Nat.le_of_ble_eq_true rfl)⟩) hS (fun r_23 M_24 H locs w_25 hH hS => ?_)
        obtain ⟨eR, eM⟩ := w_25
        rw [eR]
        have f_26 : M_24 a = some (.inr (ix_sw, [.ref aI, .ref aO, .int (sg_sl τ), .long (lN (sg_ac τ))])) := by rw [eM, va_up_ne _ _ (hp_ne ix_sw ix_ce h1 hxx rfl rfl (by decide)), va_up_ne _ _ (hp_ne ix_sw ix_ou h1 o2 rfl rfl (by decide))]; exact h1
        have f_27 : M_24 aI = some (hp_aq D 12 8 fI) := by rw [eM, va_up_ne _ _ (hp_ne 102 ix_ce h2 hxx rfl rfl (by decide)), va_up_ne _ _ (hp_ne 102 ix_ou h2 o2 rfl rfl (by decide))]; exact h2
        have f_28 : M_24 aO = some (hp_aq D 13 8 fO) := by rw [eM, va_up_ne _ _ (hp_ne 102 ix_ce h3 hxx rfl rfl (by decide)), va_up_ne _ _ (hp_ne 102 ix_ou h3 o2 rfl rfl (by decide))]; exact h3
        have f_29 : M_24 (ip (sg_ci c)) = some (.inr (ix_in, [va_rf (oa (sg_ci c)), .int (nI (sg_held τ (sg_ci c)))])) := by rw [eM, va_up_ne _ _ (hp_ne ix_in ix_ce i2 hxx rfl rfl (by decide)), va_up_ne _ _ (hp_ne ix_in ix_ou i2 o2 rfl rfl (by decide))]; exact i2
        have kx : M_24 x = some (sw_c c none) := by rw [eM]; exact va_up_self _ _ _
        have ko : M_24 (op i) = some (sw_o (sg_kd τ i) (sp i) (lp i) (some y) (nI (sg_qu τ i).length - 1) (some x)) := by rw [eM, va_up_ne _ _ (hp_ne ix_ou ix_ce o2 hxx rfl rfl (by decide))]; exact va_up_self _ _ _
        have kl : M_24 (lp i) = some (hp_al D 8 ofl) := by rw [eM, va_up_ne _ _ (hp_ne 101 ix_ce o6 hxx rfl rfl (by decide)), va_up_ne _ _ (hp_ne 101 ix_ou o6 o2 rfl rfl (by decide))]; exact o6
        have hKe := (sg_held_send1 hq hi8 (sg_ci c)).symm
        rw [if_pos rfl] at hKe
        obtain ⟨K, eK⟩ : ∃ z, z = sg_held (sg_send1 τ i c (d :: cs)) (sg_ci c) := ⟨_, rfl⟩
        rw [← eK] at hKe
        refine lv_astore_n (lv' := [(3, .ref x), (2, .int (nI i)), (1, .int (nI (sg_count σ i))), (0, .ref a)]) hx hb d_Sw_sendFirstCells_19 rfl hl (by decide) rfl (fun ls hl => ?_)
        refine lv_aload_n hx hb d_Sw_sendFirstCells_20 rfl (lv_at hl 0 rfl) ?_
        refine lv_ifnull hx hb d_Sw_sendFirstCells_21 ?_
        refine lv_aload_n hx hb d_Sw_sendFirstCells_24 rfl (lv_at hl 3 rfl) ?_
        refine hp_get hx hb hts iw_Sw hown hK hH f_26 rfl 0 (by decide) (hts _ kw_14) (v := .ref aI) rfl d_Sw_sendFirstCells_25 ?_
        refine lv_aload_n hx hb d_Sw_sendFirstCells_28 rfl (lv_at hl 0 rfl) ?_
        refine hp_get hx hb hts iw_Ce hown hK hH kx rfl 0 (by decide) (hts _ kw_12) (v := .int (nI (sg_ci c))) rfl d_Sw_sendFirstCells_29 ?_
        refine hp_aald hx hb hK hH f_27 2 rfl (sg_ci c) rfl hc8 (by decide) i1 d_Sw_sendFirstCells_32 ?_
        refine lv_dup hx hb d_Sw_sendFirstCells_33 rfl ?_
        refine hp_get hx hb hts iw_In hown hK hH f_29 rfl 1 (by decide) (hts _ kw_15) (v := .int (nI (sg_held τ (sg_ci c)))) rfl d_Sw_sendFirstCells_34 ?_
        refine lv_iconst (v := 1) hx hb d_Sw_sendFirstCells_37 (by decide) ?_
        refine lv_isub hx hb d_Sw_sendFirstCells_38 ?_
        refine hp_ioi (v := nI K) (by rw [hKe]; exact nI_pred K) ?_
        refine hp_put hx hb hts iw_In t_In t_In_ok n_In hown hK hH hS hB f_29 rfl 1 (by decide) (hts _ kw_15) rfl  (v := .int (nI K)) rfl rfl (Nat.le_of_ble_eq_true rfl) (fs' := [va_rf (oa (sg_ci c)), .int (nI K)]) rfl d_Sw_sendFirstCells_39 (fun M_30 H locs eM_30 hH hS => ?_)
        have f_31 : M_30 (ip (sg_ci c)) = some (.inr (ix_in, [va_rf (oa (sg_ci c)), .int (nI K)])) := by rw [eM_30]; exact va_up_self _ _ _
        have f_32 : M_30 a = some (.inr (ix_sw, [.ref aI, .ref aO, .int (sg_sl τ), .long (lN (sg_ac τ))])) := by rw [eM_30, va_up_ne _ _ (hp_ne ix_sw ix_in f_26 f_29 rfl rfl (by decide))]; exact f_26
        have f_33 : M_30 aI = some (hp_aq D 12 8 fI) := by rw [eM_30, va_up_ne _ _ (hp_ne 102 ix_in f_27 f_29 rfl rfl (by decide))]; exact f_27
        have f_34 : M_30 aO = some (hp_aq D 13 8 fO) := by rw [eM_30, va_up_ne _ _ (hp_ne 102 ix_in f_28 f_29 rfl rfl (by decide))]; exact f_28
        have f_35 : M_30 x = some (.inr (ix_ce, [.int (nI (sg_ci c)), .int (nI (sg_co c)), .int (nI (sg_cg c)), .int (sg_ct c), .long (lN (sg_cs c)), .int (sg_cc c), .long (sg_cm c), .null])) := by rw [eM_30, va_up_ne _ _ (hp_ne ix_ce ix_in kx f_29 rfl rfl (by decide))]; exact kx
        have f_36 : M_30 (op i) = some (.inr (ix_ou, [.int (sg_kd τ i), .ref (sp i), .ref (lp i), .ref y, .int (nI (sg_qu τ i).length - 1), .ref x])) := by rw [eM_30, va_up_ne _ _ (hp_ne ix_ou ix_in ko f_29 rfl rfl (by decide))]; exact ko
        have f_37 : M_30 (lp i) = some (hp_al D 8 ofl) := by rw [eM_30, va_up_ne _ _ (hp_ne 101 ix_in kl f_29 rfl rfl (by decide))]; exact kl
        obtain ⟨r1, r2⟩ := sw_H_send1 (M1 := M_30) (xs := (y :: ys)) (cs := (d :: cs)) hP hi8 hq hc8 eL (fun j hj => by rw [if_neg (by intro z; cases z)]; exact o6' j hj) (N := nI (sg_qu τ i).length - 1) (by rw [hq]; exact nI_pred _) hKe f_36 f_37 f_35 f_31 (fun w b1 b2 b3 b4 => by rw [eM_30, va_up_ne _ _ b4, eM, va_up_ne _ _ b3, va_up_ne _ _ b1])
        rw [← hstep] at r1
        refine lv_iinc (v := nI ((sg_count σ i) + 1)) (lv' := [(1, .int (nI ((sg_count σ i) + 1))), (3, .ref x), (2, .int (nI i)), (0, .ref a)]) hx hb d_Sw_sendFirstCells_42 hl (k := 2) rfl (nI_1 (sg_count σ i)) (by decide) rfl (fun ls hl => ?_)
        refine lv_iinc (v := nI (i + 1)) (lv' := [(2, .int (nI (i + 1))), (1, .int (nI ((sg_count σ i) + 1))), (3, .ref x), (0, .ref a)]) hx hb d_Sw_sendFirstCells_45 hl (k := 2) rfl (nI_1 i) (by decide) rfl (fun ls hl => ?_)
        refine lv_goto (tgt := 4) hx hb d_Sw_sendFirstCells_48 (by decide) ?_
        exact ih (i + 1) M_30 _ _ ls (by omega) r1 (sw_fr_tr hfr r2) hH hS (by rw [sg_count_1 (hqi.symm.trans hq)]; exact lv_sub hl [0, 1, 3] rfl)
  exact Lp 8 0 M _ _ ls (by omega) hsw sw_fr_rf hH hS (lv_sub hl [0, 1, 2] rfl)
abbrev rm_Sw_slot : Room := { frames := 4, cells := 0, slots := 0, locals := 91 }
set_option maxHeartbeats 4000000 in
set_option maxRecDepth 100000 in
theorem cn_Sw_slot (l : Launch) (D : va_G) (B : Nat) (M : hp_M) (a : Nat) (σ : sg_S) (F : Nat → Prop) (hsw : sw_H D M a σ F) (hinv : sg_inv σ) : Met l y_Sw_slot (wd_c y_Sw_slot b_Sw_slot 2 (some .int)) rm_Sw_slot (va_Pc [.ref a] (hp_C D B M)) (va_Qi (fun (r : Int32) (M1 : hp_M) => r = nI (sg_count (sg_comes σ 8) 8) ∧ sw_H D M1 a (sg_slot σ) F ∧ sw_fr F M M1) (hp_C D B) (hp_ub B)) 0 0 (hp_ub B) := by
  refine hp_met (by decide) (Nat.le_of_ble_eq_true rfl) ?_
  intro p e s m args below meth cd ls Q hQ hx hb hr hts hown hlocks hnm hml hK hH hS hB hl
  replace hl : lv_has ls 2 [(0, .ref a)] := hl
  have hsw0 := hsw
  obtain ⟨aI, aO, fI, fO, oa, la, ip, op, sp, lp, LQ, ow, hP⟩ := hsw0
  have hP0 := hP
  obtain ⟨⟨h1, h2, h3⟩, ⟨w1, w2, w3⟩, hi, ho, hf⟩ := hP0
  refine lv_aload_n hx hb d_Sw_slot_0 rfl (lv_at hl 0 rfl) ?_
  refine hp_callv (hp_runV (b := a) (As := []) (rest := []) hx hb hml hown (cn_Sw_takeOfferedCells l D B M a σ F hsw hinv) (hp_cwV 0 hts kw_106 kw_108 kw_109 kw_2 kw_107 rfl rfl (by decide +kernel) ⟨(Nat.le_of_ble_eq_true rfl), (Nat.le_of_ble_eq_true rfl)⟩) hK hH h1 rfl rfl hl.1 rfl (Nat.le_of_ble_eq_true rfl) d_Sw_slot_1 ⟨(Nat.le_of_ble_eq_true rfl), (Nat.le_of_ble_eq_true rfl)⟩) hS (fun M_2 H locs w_3 hH hS => ?_)
  obtain ⟨ht, hf1⟩ := w_3
  have hv := sg_inv_comes hinv (Nat.le_refl 8)
  have ht0 := ht
  obtain ⟨aI, aO, fI, fO, oa, la, ip, op, sp, lp, LQ, ow, hP⟩ := ht0
  have hP0 := hP
  obtain ⟨⟨h1, h2, h3⟩, ⟨w1, w2, w3⟩, hi, ho, hf⟩ := hP0
  refine lv_aload_n hx hb d_Sw_slot_4 rfl (lv_at hl 0 rfl) ?_
  refine hp_calli (hp_runV (b := a) (As := []) (rest := []) hx hb hml hown (cn_Sw_sendFirstCells l D B M_2 a (sg_comes σ 8) F ht hv) (hp_cwV 0 hts kw_110 kw_112 kw_113 kw_2 kw_111 rfl rfl (by decide +kernel) ⟨(Nat.le_of_ble_eq_true rfl), (Nat.le_of_ble_eq_true rfl)⟩) hK hH h1 rfl rfl hl.1 rfl (Nat.le_of_ble_eq_true rfl) d_Sw_slot_5 ⟨(Nat.le_of_ble_eq_true rfl), (Nat.le_of_ble_eq_true rfl)⟩) hS (fun r_4 M_5 H locs w_6 hH hS => ?_)
  obtain ⟨eR, hs, hf2⟩ := w_6
  rw [eR]
  clear h1 h2 h3 w1 w2 w3 hi ho hf hP
  obtain ⟨aI, aO, fI, fO, oa, la, ip, op, sp, lp, LQ, ow, hP⟩ := hs
  have hP0 := hP
  obtain ⟨⟨h1, h2, h3⟩, ⟨w1, w2, w3⟩, hi, ho, hf⟩ := hP0
  refine lv_istore_n (lv' := [(1, .int (nI (sg_count (sg_comes σ 8) 8))), (0, .ref a)]) hx hb d_Sw_slot_8 rfl hl (by decide) rfl (fun ls hl => ?_)
  refine lv_aload_n hx hb d_Sw_slot_9 rfl (lv_at hl 1 rfl) ?_
  refine lv_dup hx hb d_Sw_slot_10 rfl ?_
  refine hp_get hx hb hts iw_Sw hown hK hH h1 rfl 2 (by decide) (hts _ kw_0) (v := .int (sg_sl (sg_sends (sg_comes σ 8) 8))) rfl d_Sw_slot_11 ?_
  refine lv_iconst (v := 1) hx hb d_Sw_slot_14 (by decide) ?_
  refine lv_iadd hx hb d_Sw_slot_15 ?_
  refine hp_put hx hb hts iw_Sw t_Sw t_Sw_ok n_Sw hown hK hH hS hB h1 rfl 2 (by decide) (hts _ kw_0) rfl  (v := .int ((sg_sl (sg_sends (sg_comes σ 8) 8)) + 1)) rfl rfl (Nat.le_of_ble_eq_true rfl) (fs' := [.ref aI, .ref aO, .int ((sg_sl (sg_sends (sg_comes σ 8) 8)) + 1), .long (lN (sg_ac (sg_sends (sg_comes σ 8) 8)))]) rfl d_Sw_slot_16 (fun M_7 H locs eM_7 hH hS => ?_)
  have f_8 : M_7 a = some (.inr (ix_sw, [.ref aI, .ref aO, .int ((sg_sl (sg_sends (sg_comes σ 8) 8)) + 1), .long (lN (sg_ac (sg_sends (sg_comes σ 8) 8)))])) := by rw [eM_7]; exact va_up_self _ _ _
  have f_9 : M_7 aI = some (hp_aq D 12 8 fI) := by rw [eM_7, va_up_ne _ _ (hp_ne 102 ix_sw h2 h1 rfl rfl (by decide))]; exact h2
  have f_10 : M_7 aO = some (hp_aq D 13 8 fO) := by rw [eM_7, va_up_ne _ _ (hp_ne 102 ix_sw h3 h1 rfl rfl (by decide))]; exact h3
  refine lv_iload_n hx hb d_Sw_slot_19 rfl (lv_at hl 0 rfl) ?_
  exact hp_iret hx hb hr hlocks hQ hK hH hS (Nat.le_of_ble_eq_true rfl) (Nat.le_of_ble_eq_true rfl) d_Sw_slot_20 (by obtain ⟨r1, r2⟩ := sw_H_tick hP eM_7; exact ⟨rfl, r1, sw_fr_tr hf1 (sw_fr_tr hf2 r2)⟩)
end
section
theorem kw_114 : Cond.methodLink R_Sw 102 y_In_dropCells ∈ wd_T := wd_in (List.mem_of_getElem? (i := 259) (by decide +kernel)) rfl
theorem kw_115 : Cond.initialized R_In ∈ wd_T := wd_in (List.mem_of_getElem? (i := 21) (by decide +kernel)) rfl
theorem kw_116 : Cond.code y_In_dropCells b_In_dropCells 1 none ∈ wd_T := wd_in (List.mem_of_getElem? (i := 262) (by decide +kernel)) rfl
theorem kw_117 : Cond.instanceMethod y_In_dropCells ∈ wd_T := wd_in (List.mem_of_getElem? (i := 260) (by decide +kernel)) rfl
theorem kw_118 : Cond.selects R_In y_In_dropCells y_In_dropCells ∈ wd_T := wd_in (List.mem_of_getElem? (i := 261) (by decide +kernel)) rfl
theorem kw_119 : Cond.methodLink R_Sw 105 y_Ou_dropCells ∈ wd_T := wd_in (List.mem_of_getElem? (i := 263) (by decide +kernel)) rfl
theorem kw_120 : Cond.code y_Ou_dropCells b_Ou_dropCells 1 none ∈ wd_T := wd_in (List.mem_of_getElem? (i := 266) (by decide +kernel)) rfl
theorem kw_121 : Cond.instanceMethod y_Ou_dropCells ∈ wd_T := wd_in (List.mem_of_getElem? (i := 264) (by decide +kernel)) rfl
theorem kw_122 : Cond.selects R_Ou y_Ou_dropCells y_Ou_dropCells ∈ wd_T := wd_in (List.mem_of_getElem? (i := 265) (by decide +kernel)) rfl
theorem kw_123 : Cond.fieldLink R_Sw 96 "EvenSwitch$Cell" "serial" "J" ∈ wd_T := wd_in (List.mem_of_getElem? (i := 139) (by decide +kernel)) rfl
theorem d_Sw_reset_0 : decode b_Sw_reset 0 = .ok (.iconst 0, 1) := by decide +kernel
theorem d_Sw_reset_1 : decode b_Sw_reset 1 = .ok (.istore_n 1, 1) := by decide +kernel
theorem d_Sw_reset_2 : decode b_Sw_reset 2 = .ok (.iload_n 1, 1) := by decide +kernel
theorem d_Sw_reset_3 : decode b_Sw_reset 3 = .ok (.bipush 8, 2) := by decide +kernel
theorem d_Sw_reset_5 : decode b_Sw_reset 5 = .ok (.if_icmp .ge 27, 3) := by decide +kernel
theorem d_Sw_reset_8 : decode b_Sw_reset 8 = .ok (.aload_n 0, 1) := by decide +kernel
theorem d_Sw_reset_9 : decode b_Sw_reset 9 = .ok (.getfield 11, 3) := by decide +kernel
theorem d_Sw_reset_12 : decode b_Sw_reset 12 = .ok (.iload_n 1, 1) := by decide +kernel
theorem d_Sw_reset_13 : decode b_Sw_reset 13 = .ok (.aaload, 1) := by decide +kernel
theorem d_Sw_reset_14 : decode b_Sw_reset 14 = .ok (.invokevirtual 102, 3) := by decide +kernel
theorem d_Sw_reset_17 : decode b_Sw_reset 17 = .ok (.aload_n 0, 1) := by decide +kernel
theorem d_Sw_reset_18 : decode b_Sw_reset 18 = .ok (.getfield 17, 3) := by decide +kernel
theorem d_Sw_reset_21 : decode b_Sw_reset 21 = .ok (.iload_n 1, 1) := by decide +kernel
theorem d_Sw_reset_22 : decode b_Sw_reset 22 = .ok (.aaload, 1) := by decide +kernel
theorem d_Sw_reset_23 : decode b_Sw_reset 23 = .ok (.invokevirtual 105, 3) := by decide +kernel
theorem d_Sw_reset_26 : decode b_Sw_reset 26 = .ok (.iinc 1 1, 3) := by decide +kernel
theorem d_Sw_reset_29 : decode b_Sw_reset 29 = .ok (.goto (-27), 3) := by decide +kernel
theorem d_Sw_reset_32 : decode b_Sw_reset 32 = .ok (.return_, 1) := by decide +kernel
theorem d_Sw_leaves_0 : decode b_Sw_leaves 0 = .ok (.aconst_null, 1) := by decide +kernel
theorem d_Sw_leaves_1 : decode b_Sw_leaves 1 = .ok (.astore_n 2, 1) := by decide +kernel
theorem d_Sw_leaves_2 : decode b_Sw_leaves 2 = .ok (.iconst (-1), 1) := by decide +kernel
theorem d_Sw_leaves_3 : decode b_Sw_leaves 3 = .ok (.istore_n 3, 1) := by decide +kernel
theorem d_Sw_leaves_4 : decode b_Sw_leaves 4 = .ok (.iconst 0, 1) := by decide +kernel
theorem d_Sw_leaves_5 : decode b_Sw_leaves 5 = .ok (.istore 4, 2) := by decide +kernel
theorem d_Sw_leaves_7 : decode b_Sw_leaves 7 = .ok (.iload 4, 2) := by decide +kernel
theorem d_Sw_leaves_9 : decode b_Sw_leaves 9 = .ok (.bipush 8, 2) := by decide +kernel
theorem d_Sw_leaves_11 : decode b_Sw_leaves 11 = .ok (.if_icmp .ge 74, 3) := by decide +kernel
theorem d_Sw_leaves_14 : decode b_Sw_leaves 14 = .ok (.iconst 0, 1) := by decide +kernel
theorem d_Sw_leaves_15 : decode b_Sw_leaves 15 = .ok (.istore 5, 2) := by decide +kernel
theorem d_Sw_leaves_17 : decode b_Sw_leaves 17 = .ok (.aload_n 0, 1) := by decide +kernel
theorem d_Sw_leaves_18 : decode b_Sw_leaves 18 = .ok (.getfield 17, 3) := by decide +kernel
theorem d_Sw_leaves_21 : decode b_Sw_leaves 21 = .ok (.iload 4, 2) := by decide +kernel
theorem d_Sw_leaves_23 : decode b_Sw_leaves 23 = .ok (.aaload, 1) := by decide +kernel
theorem d_Sw_leaves_24 : decode b_Sw_leaves 24 = .ok (.getfield 93, 3) := by decide +kernel
theorem d_Sw_leaves_27 : decode b_Sw_leaves 27 = .ok (.astore 6, 2) := by decide +kernel
theorem d_Sw_leaves_29 : decode b_Sw_leaves 29 = .ok (.aload 6, 2) := by decide +kernel
theorem d_Sw_leaves_31 : decode b_Sw_leaves 31 = .ok (.ifnull 48, 3) := by decide +kernel
theorem d_Sw_leaves_34 : decode b_Sw_leaves 34 = .ok (.aload 6, 2) := by decide +kernel
theorem d_Sw_leaves_36 : decode b_Sw_leaves 36 = .ok (.getfield 75, 3) := by decide +kernel
theorem d_Sw_leaves_39 : decode b_Sw_leaves 39 = .ok (.iload_n 1, 1) := by decide +kernel
theorem d_Sw_leaves_40 : decode b_Sw_leaves 40 = .ok (.if_icmp .ne 26, 3) := by decide +kernel
theorem d_Sw_leaves_43 : decode b_Sw_leaves 43 = .ok (.aload_n 2, 1) := by decide +kernel
theorem d_Sw_leaves_44 : decode b_Sw_leaves 44 = .ok (.ifnull 16, 3) := by decide +kernel
theorem d_Sw_leaves_47 : decode b_Sw_leaves 47 = .ok (.aload 6, 2) := by decide +kernel
theorem d_Sw_leaves_49 : decode b_Sw_leaves 49 = .ok (.getfield 96, 3) := by decide +kernel
theorem d_Sw_leaves_52 : decode b_Sw_leaves 52 = .ok (.aload_n 2, 1) := by decide +kernel
theorem d_Sw_leaves_53 : decode b_Sw_leaves 53 = .ok (.getfield 96, 3) := by decide +kernel
theorem d_Sw_leaves_56 : decode b_Sw_leaves 56 = .ok (.lcmp, 1) := by decide +kernel
theorem d_Sw_leaves_57 : decode b_Sw_leaves 57 = .ok (.ifCond .ge 9, 3) := by decide +kernel
theorem d_Sw_leaves_60 : decode b_Sw_leaves 60 = .ok (.aload 6, 2) := by decide +kernel
theorem d_Sw_leaves_62 : decode b_Sw_leaves 62 = .ok (.astore_n 2, 1) := by decide +kernel
theorem d_Sw_leaves_63 : decode b_Sw_leaves 63 = .ok (.iload 5, 2) := by decide +kernel
theorem d_Sw_leaves_65 : decode b_Sw_leaves 65 = .ok (.istore_n 3, 1) := by decide +kernel
theorem d_Sw_leaves_66 : decode b_Sw_leaves 66 = .ok (.iinc 5 1, 3) := by decide +kernel
theorem d_Sw_leaves_69 : decode b_Sw_leaves 69 = .ok (.aload 6, 2) := by decide +kernel
theorem d_Sw_leaves_71 : decode b_Sw_leaves 71 = .ok (.getfield 99, 3) := by decide +kernel
theorem d_Sw_leaves_74 : decode b_Sw_leaves 74 = .ok (.astore 6, 2) := by decide +kernel
theorem d_Sw_leaves_76 : decode b_Sw_leaves 76 = .ok (.goto (-47), 3) := by decide +kernel
theorem d_Sw_leaves_79 : decode b_Sw_leaves 79 = .ok (.iinc 4 1, 3) := by decide +kernel
theorem d_Sw_leaves_82 : decode b_Sw_leaves 82 = .ok (.goto (-75), 3) := by decide +kernel
theorem d_Sw_leaves_85 : decode b_Sw_leaves 85 = .ok (.iload_n 3, 1) := by decide +kernel
theorem d_Sw_leaves_86 : decode b_Sw_leaves 86 = .ok (.ireturn, 1) := by decide +kernel
abbrev rm_Sw_reset : Room := { frames := 3, cells := 0, slots := 0, locals := 64 }
set_option maxHeartbeats 4000000 in
set_option maxRecDepth 100000 in
theorem cn_Sw_reset (l : Launch) (D : va_G) (B : Nat) (M : hp_M) (a : Nat) (σ : sg_S) (F : Nat → Prop) (hsw : sw_H D M a σ F) : Met l y_Sw_reset (wd_c y_Sw_reset b_Sw_reset 2 (none)) rm_Sw_reset (va_Pc [.ref a] (hp_C D B M)) (va_Qv (fun  (M1 : hp_M) => sw_H D M1 a (sg_reset σ) F ∧ sw_fr F M M1) (hp_C D B) (hp_ub B)) 0 0 (hp_ub B) := by
  refine hp_met (by decide) (Nat.le_of_ble_eq_true rfl) ?_
  intro p e s m args below meth cd ls Q hQ hx hb hr hts hown hlocks hnm hml hK hH hS hB hl
  replace hl : lv_has ls 2 [(0, .ref a)] := hl
  refine lv_iconst (v := 0) hx hb d_Sw_reset_0 (by decide) ?_
  refine lv_istore_n (lv' := [(1, .int 0), (0, .ref a)]) hx hb d_Sw_reset_1 rfl hl (by decide) rfl (fun ls hl => ?_)
  have Lp : ∀ (n i : Nat) (M2 : hp_M) (H : Heap) (locs : List Loc) (ls : Array Slot), i + n = 8 → sw_X D M2 a (sg_ress σ i) (sg_hhs (sg_held σ) i) F → sw_fr F M M2 → hp_H D B M2 H → va_S (hp_ub B) s.heap H locs → lv_has ls 2 [(1, .int (nI i)), (0, .ref a)] → W p l e rm_Sw_reset s m args below meth cd H locs 0 0 Q (F0 m 2 ls []) := by
    intro n
    induction n with
    | zero =>
      intro i M2 H locs ls hn hs hfr hH hS hl
      have e8 : i = 8 := by omega
      subst e8
      refine lv_iload_n hx hb d_Sw_reset_2 rfl (lv_at hl 0 rfl) ?_
      refine lv_bipush (v := 8) hx hb d_Sw_reset_3 (by decide) ?_
      refine lv_icmp_ge (tgt := 32) hx hb d_Sw_reset_5 (by decide) (fun c_1 => ?_) (fun c_1 => absurd (nI_le (a := 8) (by omega) (by omega)) c_1)
      exact hp_vret hx hb hr hlocks hQ hK hH hS (Nat.le_of_ble_eq_true rfl) (Nat.le_of_ble_eq_true rfl) d_Sw_reset_32 ⟨sw_H_reset hs, hfr⟩
    | succ n ih =>
      intro i M2 H locs ls hn hs hfr hH hS hl
      have hi8 : i < 8 := by omega
      obtain ⟨aI, aO, fI, fO, oa, la, ip, op, sp, lp, LQ, ow, hP⟩ := hs
      have hP0 := hP
      obtain ⟨⟨h1, h2, h3⟩, ⟨w1, w2, w3⟩, hi, ho, hf⟩ := hP0
      obtain ⟨o1, o2, o3, ⟨ofs, o4, o4'⟩, o5, ⟨ofl, o6, o6'⟩, o7, ⟨o8, o9, o10⟩, o11⟩ := ho i hi8
      obtain ⟨i1, i2, i3, i4⟩ := hi i hi8
      refine lv_iload_n hx hb d_Sw_reset_2 rfl (lv_at hl 0 rfl) ?_
      refine lv_bipush (v := 8) hx hb d_Sw_reset_3 (by decide) ?_
      refine lv_icmp_ge (tgt := 32) hx hb d_Sw_reset_5 (by decide) (fun c_2 => absurd c_2 (nI_ge (b := 8) (by omega) (by omega))) (fun c_2 => ?_)
      refine lv_aload_n hx hb d_Sw_reset_8 rfl (lv_at hl 1 rfl) ?_
      refine hp_get hx hb hts iw_Sw hown hK hH h1 rfl 0 (by decide) (hts _ kw_14) (v := .ref aI) rfl d_Sw_reset_9 ?_
      refine lv_iload_n hx hb d_Sw_reset_12 rfl (lv_at hl 0 rfl) ?_
      refine hp_aald hx hb hK hH h2 2 rfl i rfl hi8 (by decide) i1 d_Sw_reset_13 ?_
      refine hp_callv (hp_runV (b := ip i) (As := []) (rest := []) hx hb hml hown (cn_In_dropCells l D B M2 (ip i) (oa i) (nI (sg_hhs (sg_held σ) i i)) i2) (hp_cwV 0 hts kw_114 kw_117 kw_118 kw_115 kw_116 rfl rfl (by decide +kernel) ⟨(Nat.le_of_ble_eq_true rfl), (Nat.le_of_ble_eq_true rfl)⟩) hK hH i2 rfl rfl hl.1 rfl (Nat.le_of_ble_eq_true rfl) d_Sw_reset_14 ⟨(Nat.le_of_ble_eq_true rfl), (Nat.le_of_ble_eq_true rfl)⟩) hS (fun M_4 H locs w_5 hH hS => ?_)
      have f_6 : M_4 (ip i) = some (.inr (ix_in, [.null, .int 0])) := by rw [w_5]; exact va_up_self _ _ _
      have f_7 : M_4 a = some (.inr (ix_sw, [.ref aI, .ref aO, .int (sg_sl (sg_ress σ i)), .long (lN (sg_ac (sg_ress σ i)))])) := by rw [w_5, va_up_ne _ _ (hp_ne ix_sw ix_in h1 i2 rfl rfl (by decide))]; exact h1
      have f_8 : M_4 aI = some (hp_aq D 12 8 fI) := by rw [w_5, va_up_ne _ _ (hp_ne 102 ix_in h2 i2 rfl rfl (by decide))]; exact h2
      have f_9 : M_4 aO = some (hp_aq D 13 8 fO) := by rw [w_5, va_up_ne _ _ (hp_ne 102 ix_in h3 i2 rfl rfl (by decide))]; exact h3
      have f_10 : M_4 (op i) = some (.inr (ix_ou, [.int (sg_kd (sg_ress σ i) i), .ref (sp i), .ref (lp i), va_rf (sw_hd (LQ i) none), .int (nI (sg_qu (sg_ress σ i) i).length), va_rf (la i)])) := by rw [w_5, va_up_ne _ _ (hp_ne ix_ou ix_in o2 i2 rfl rfl (by decide))]; exact o2
      have f_11 : M_4 (sp i) = some (hp_ai D 8 ofs) := by rw [w_5, va_up_ne _ _ (hp_ne 100 ix_in o4 i2 rfl rfl (by decide))]; exact o4
      have f_12 : M_4 (lp i) = some (hp_al D 8 ofl) := by rw [w_5, va_up_ne _ _ (hp_ne 101 ix_in o6 i2 rfl rfl (by decide))]; exact o6
      refine lv_aload_n hx hb d_Sw_reset_17 rfl (lv_at hl 1 rfl) ?_
      refine hp_get hx hb hts iw_Sw hown hK hH f_7 rfl 1 (by decide) (hts _ kw_5) (v := .ref aO) rfl d_Sw_reset_18 ?_
      refine lv_iload_n hx hb d_Sw_reset_21 rfl (lv_at hl 0 rfl) ?_
      refine hp_aald hx hb hK hH f_9 3 rfl i rfl hi8 (by decide) o1 d_Sw_reset_22 ?_
      refine hp_callv (hp_runV (b := op i) (As := []) (rest := []) hx hb hml hown (cn_Ou_dropCells l D B M_4 (op i) (sg_kd (sg_ress σ i) i) (sp i) (lp i) (sw_hd (LQ i) none) (nI (sg_qu (sg_ress σ i) i).length) (la i) ofl f_10 f_12) (hp_cwV 0 hts kw_119 kw_121 kw_122 kw_34 kw_120 rfl rfl (by decide +kernel) ⟨(Nat.le_of_ble_eq_true rfl), (Nat.le_of_ble_eq_true rfl)⟩) hK hH f_10 rfl rfl hl.1 rfl (Nat.le_of_ble_eq_true rfl) d_Sw_reset_23 ⟨(Nat.le_of_ble_eq_true rfl), (Nat.le_of_ble_eq_true rfl)⟩) hS (fun M_14 H locs w_15 hH hS => ?_)
      obtain ⟨g, hg, eM⟩ := w_15
      have n1 : op i ≠ lp i := hp_ne ix_ou 101 f_10 f_12 rfl rfl (by decide)
      have n2 : ip i ≠ lp i := hp_ne ix_in 101 f_6 f_12 rfl rfl (by decide)
      have n3 : ip i ≠ op i := hp_ne ix_in ix_ou f_6 f_10 rfl rfl (by decide)
      obtain ⟨r1, r2⟩ := sw_do_res1 (M1 := M_14) hP hi8 hg (by rw [eM, va_up_ne _ _ n1]; exact va_up_self _ _ _) (by rw [eM]; exact va_up_self _ _ _) (by rw [eM, va_up_ne _ _ n2, va_up_ne _ _ n3]; exact f_6) (fun w b1 b2 b3 => by rw [eM, va_up_ne _ _ b2, va_up_ne _ _ b1, w_5, va_up_ne _ _ b3])
      refine lv_iinc (v := nI (i + 1)) (lv' := [(1, .int (nI (i + 1))), (0, .ref a)]) hx hb d_Sw_reset_26 hl (k := 0) rfl (nI_1 i) (by decide) rfl (fun ls hl => ?_)
      refine lv_goto (tgt := 2) hx hb d_Sw_reset_29 (by decide) ?_
      exact ih (i + 1) M_14 _ _ ls (by omega) ⟨_, _, _, _, _, _, _, _, _, _, _, _, r1⟩ (sw_fr_tr hfr r2) hH hS (lv_sub hl [0, 1] rfl)
  exact Lp 8 0 M _ _ ls (by omega) hsw sw_fr_rf hH hS (lv_sub hl [0, 1] rfl)
abbrev rm_Sw_leaves : Room := { frames := 0, cells := 0, slots := 0, locals := 0 }
set_option maxHeartbeats 4000000 in
set_option maxRecDepth 100000 in
theorem cn_Sw_leaves (l : Launch) (D : va_G) (B : Nat) (M : hp_M) (a : Nat) (σ : sg_S) (F : Nat → Prop) (t : Int32) (hsw : sw_H D M a σ F) (hinv : sg_inv σ) (hac : sg_ac σ ≤ 512) : Met l y_Sw_leaves (wd_c y_Sw_leaves b_Sw_leaves 7 (some .int)) rm_Sw_leaves (va_Pc [.ref a, .int t] (hp_C D B M)) (va_Qi (fun (r : Int32) (M1 : hp_M) => M1 = M ∧ r = an_leaves σ t) (hp_C D B) (hp_ub B)) 0 0 (hp_ub B) := by
  refine hp_met (by decide) (Nat.le_of_ble_eq_true rfl) ?_
  intro p e s m args below meth cd ls Q hQ hx hb hr hts hown hlocks hnm hml hK hH hS hB hl
  replace hl : lv_has ls 7 [(0, .ref a), (1, .int t)] := hl
  have hsw0 := hsw
  obtain ⟨aI, aO, fI, fO, oa, la, ip, op, sp, lp, LQ, ow, ⟨h1, h2, h3⟩, ⟨w1, w2, w3⟩, hi, ho, hf⟩ := hsw0
  refine lv_null hx hb d_Sw_leaves_0 ?_
  refine lv_astore_nN (lv' := [(2, .null), (0, .ref a), (1, .int t)]) hx hb d_Sw_leaves_1 rfl hl (by decide) rfl (fun ls hl => ?_)
  refine lv_iconst (v := (-1)) hx hb d_Sw_leaves_2 (by decide) ?_
  refine lv_istore_n (lv' := [(3, .int (-1)), (2, .null), (0, .ref a), (1, .int t)]) hx hb d_Sw_leaves_3 rfl hl (by decide) rfl (fun ls hl => ?_)
  refine lv_iconst (v := 0) hx hb d_Sw_leaves_4 (by decide) ?_
  refine lv_istore (lv' := [(4, .int 0), (3, .int (-1)), (2, .null), (0, .ref a), (1, .int t)]) hx hb d_Sw_leaves_5 hl (by decide) rfl (fun ls hl => ?_)
  have In : ∀ (cs : List sg_Ce) (L : List Nat) (pl : Nat) (ea : Option Nat) (be : Option sg_Ce × Int32) (o : Nat) (ls : Array Slot), sw_sg M L cs none → (∀ c ∈ cs, sg_cs c < 512) → lv_e M ea be.1 → (∀ (ea' : Option Nat) (ls : Array Slot), lv_e M ea' (lv_in t be pl cs).1 → lv_has ls 7 [(2, va_rf ea'), (3, .int ((lv_in t be pl cs).2)), (4, .int (nI o)), (0, .ref a), (1, .int t)] → W p l e rm_Sw_leaves s m args below meth cd s.heap [] 0 0 Q (F0 m 79 ls [])) → lv_has ls 7 [(6, va_rf (sw_hd L none)), (5, .int (nI pl)), (2, va_rf ea), (3, .int be.2), (4, .int (nI o)), (0, .ref a), (1, .int t)] → W p l e rm_Sw_leaves s m args below meth cd s.heap [] 0 0 Q (F0 m 29 ls []) := by
    intro cs
    induction cs with
    | nil =>
      intro L pl ea be o ls hL hbs he K hl
      have eL := sw_sg_nil hL rfl
      subst eL
      replace hl : lv_has ls 7 [(6, .null), (5, .int (nI pl)), (2, va_rf ea), (3, .int be.2), (4, .int (nI o)), (0, .ref a), (1, .int t)] := hl
      refine lv_aloadN hx hb d_Sw_leaves_29 (lv_at hl 0 rfl) ?_
      refine lv_ifnullN (tgt := 79) hx hb d_Sw_leaves_31 (by decide) ?_
      exact K ea ls he (lv_sub hl [2, 3, 4, 5, 6] rfl)
    | cons c cs ih =>
      intro L pl ea be o ls hL hbs he K hl
      obtain ⟨x, xs, eL, hx1, hx2⟩ := sw_sg_cons hL
      subst eL
      have hcs := hbs c List.mem_cons_self
      have hb' : ∀ d ∈ cs, sg_cs d < 512 := fun d hd => hbs d (List.mem_cons_of_mem _ hd)
      replace hl : lv_has ls 7 [(6, .ref x), (5, .int (nI pl)), (2, va_rf ea), (3, .int be.2), (4, .int (nI o)), (0, .ref a), (1, .int t)] := hl
      refine lv_aload hx hb d_Sw_leaves_29 (lv_at hl 0 rfl) ?_
      refine lv_ifnull hx hb d_Sw_leaves_31 ?_
      refine lv_aload hx hb d_Sw_leaves_34 (lv_at hl 0 rfl) ?_
      refine hp_get hx hb hts iw_Ce hown hK hH hx1 rfl 3 (by decide) (hts _ kw_11) (v := .int (sg_ct c)) rfl d_Sw_leaves_36 ?_
      refine lv_iload_n hx hb d_Sw_leaves_39 rfl (lv_at hl 6 rfl) ?_
      refine lv_icmp_ne (tgt := 66) hx hb d_Sw_leaves_40 (by decide) (fun c_1 => ?_) (fun c_1 => ?_)
      · refine lv_iinc (v := nI (pl + 1)) (lv' := [(5, .int (nI (pl + 1))), (6, .ref x), (2, va_rf ea), (3, .int be.2), (4, .int (nI o)), (0, .ref a), (1, .int t)]) hx hb d_Sw_leaves_66 hl (k := 1) rfl (nI_1 pl) (by decide) rfl (fun ls hl => ?_)
        refine lv_aload hx hb d_Sw_leaves_69 (lv_at hl 1 rfl) ?_
        refine hp_get hx hb hts iw_Ce hown hK hH hx1 rfl 7 (by decide) (hts _ kw_18) (v := va_rf (sw_hd xs none)) rfl d_Sw_leaves_71 ?_
        refine hp_astore (lv' := [(6, va_rf (sw_hd xs none)), (5, .int (nI (pl + 1))), (2, va_rf ea), (3, .int be.2), (4, .int (nI o)), (0, .ref a), (1, .int t)]) hx hb d_Sw_leaves_74 hl (by decide) rfl (fun ls hl => ?_)
        refine lv_goto (tgt := 29) hx hb d_Sw_leaves_76 (by decide) ?_
        exact ih xs (pl + 1) ea be o ls hx2 hb' he (fun ea' ls h1 h2 => K ea' ls (by rw [lv_skip (fun q => c_1 q.1)]; exact h1) (by rw [lv_skip (fun q => c_1 q.1)]; exact h2)) (lv_sub hl [0, 1, 2, 3, 4, 5, 6] rfl)
      · refine hp_aload_n hx hb d_Sw_leaves_43 rfl (lv_at hl 2 rfl) ?_
        refine hp_ifnull (tgt := 60) hx hb d_Sw_leaves_44 (by decide) (fun c_2 => ?_) (fun q_3 c_2 => ?_)
        · rw [c_2] at he
          have hbn := lv_e_no he
          refine lv_aload hx hb d_Sw_leaves_60 (lv_at hl 0 rfl) ?_
          refine lv_astore_n (lv' := [(2, .ref x), (6, .ref x), (5, .int (nI pl)), (3, .int be.2), (4, .int (nI o)), (0, .ref a), (1, .int t)]) hx hb d_Sw_leaves_62 rfl hl (by decide) rfl (fun ls hl => ?_)
          refine lv_iload hx hb d_Sw_leaves_63 (lv_at hl 2 rfl) ?_
          refine lv_istore_n (lv' := [(3, .int (nI pl)), (2, .ref x), (6, .ref x), (5, .int (nI pl)), (4, .int (nI o)), (0, .ref a), (1, .int t)]) hx hb d_Sw_leaves_65 rfl hl (by decide) rfl (fun ls hl => ?_)
          refine lv_iinc (v := nI (pl + 1)) (lv' := [(5, .int (nI (pl + 1))), (3, .int (nI pl)), (2, .ref x), (6, .ref x), (4, .int (nI o)), (0, .ref a), (1, .int t)]) hx hb d_Sw_leaves_66 hl (k := 3) rfl (nI_1 pl) (by decide) rfl (fun ls hl => ?_)
          refine lv_aload hx hb d_Sw_leaves_69 (lv_at hl 3 rfl) ?_
          refine hp_get hx hb hts iw_Ce hown hK hH hx1 rfl 7 (by decide) (hts _ kw_18) (v := va_rf (sw_hd xs none)) rfl d_Sw_leaves_71 ?_
          refine hp_astore (lv' := [(6, va_rf (sw_hd xs none)), (5, .int (nI (pl + 1))), (3, .int (nI pl)), (2, .ref x), (4, .int (nI o)), (0, .ref a), (1, .int t)]) hx hb d_Sw_leaves_74 hl (by decide) rfl (fun ls hl => ?_)
          refine lv_goto (tgt := 29) hx hb d_Sw_leaves_76 (by decide) ?_
          exact ih xs (pl + 1) (some x) (some c, nI pl) o ls hx2 hb' ⟨⟨_, hx1⟩, hcs⟩ (fun ea' ls h1 h2 => K ea' ls (by rw [lv_take c_1 (by rw [hbn]; rfl)]; exact h1) (by rw [lv_take c_1 (by rw [hbn]; rfl)]; exact h2)) (lv_sub hl [0, 1, 3, 2, 4, 5, 6] rfl)
        · rw [c_2] at hl
          replace hl : lv_has ls 7 [(6, .ref x), (5, .int (nI pl)), (2, .ref q_3), (3, .int be.2), (4, .int (nI o)), (0, .ref a), (1, .int t)] := hl
          have he0 := he
          rw [c_2] at he0
          obtain ⟨d, nd, hb1, hd1, hd2⟩ := lv_e_yes he0
          refine lv_aload hx hb d_Sw_leaves_47 (lv_at hl 0 rfl) ?_
          refine hp_get hx hb hts iw_Ce hown hK hH hx1 rfl 4 (by decide) (hts _ kw_123) (v := .long (lN (sg_cs c))) rfl d_Sw_leaves_49 ?_
          refine lv_aload_n hx hb d_Sw_leaves_52 rfl (lv_at hl 2 rfl) ?_
          refine hp_get hx hb hts iw_Ce hown hK hH hd1 rfl 4 (by decide) (hts _ kw_123) (v := .long (lN (sg_cs d))) rfl d_Sw_leaves_53 ?_
          refine W.lcmp hx hb d_Sw_leaves_56 ?_
          refine lv_if_ge (tgt := 66) hx hb d_Sw_leaves_57 (by decide) (fun c_4 => ?_) (fun c_4 => ?_)
          · replace hl : lv_has ls 7 [(6, .ref x), (5, .int (nI pl)), (2, va_rf ea), (3, .int be.2), (4, .int (nI o)), (0, .ref a), (1, .int t)] := by rw [c_2]; exact hl
            refine lv_iinc (v := nI (pl + 1)) (lv' := [(5, .int (nI (pl + 1))), (6, .ref x), (2, va_rf ea), (3, .int be.2), (4, .int (nI o)), (0, .ref a), (1, .int t)]) hx hb d_Sw_leaves_66 hl (k := 1) rfl (nI_1 pl) (by decide) rfl (fun ls hl => ?_)
            refine lv_aload hx hb d_Sw_leaves_69 (lv_at hl 1 rfl) ?_
            refine hp_get hx hb hts iw_Ce hown hK hH hx1 rfl 7 (by decide) (hts _ kw_18) (v := va_rf (sw_hd xs none)) rfl d_Sw_leaves_71 ?_
            refine hp_astore (lv' := [(6, va_rf (sw_hd xs none)), (5, .int (nI (pl + 1))), (2, va_rf ea), (3, .int be.2), (4, .int (nI o)), (0, .ref a), (1, .int t)]) hx hb d_Sw_leaves_74 hl (by decide) rfl (fun ls hl => ?_)
            refine lv_goto (tgt := 29) hx hb d_Sw_leaves_76 (by decide) ?_
            exact ih xs (pl + 1) ea be o ls hx2 hb' he (fun ea' ls h1 h2 => K ea' ls (by rw [lv_skip (fun q => by rw [hb1, lv_ge hcs hd2 c_4] at q; exact absurd q.2 (by decide))]; exact h1) (by rw [lv_skip (fun q => by rw [hb1, lv_ge hcs hd2 c_4] at q; exact absurd q.2 (by decide))]; exact h2)) (lv_sub hl [0, 1, 2, 3, 4, 5, 6] rfl)
          · refine lv_aload hx hb d_Sw_leaves_60 (lv_at hl 0 rfl) ?_
            refine lv_astore_n (lv' := [(2, .ref x), (6, .ref x), (5, .int (nI pl)), (3, .int be.2), (4, .int (nI o)), (0, .ref a), (1, .int t)]) hx hb d_Sw_leaves_62 rfl hl (by decide) rfl (fun ls hl => ?_)
            refine lv_iload hx hb d_Sw_leaves_63 (lv_at hl 2 rfl) ?_
            refine lv_istore_n (lv' := [(3, .int (nI pl)), (2, .ref x), (6, .ref x), (5, .int (nI pl)), (4, .int (nI o)), (0, .ref a), (1, .int t)]) hx hb d_Sw_leaves_65 rfl hl (by decide) rfl (fun ls hl => ?_)
            refine lv_iinc (v := nI (pl + 1)) (lv' := [(5, .int (nI (pl + 1))), (3, .int (nI pl)), (2, .ref x), (6, .ref x), (4, .int (nI o)), (0, .ref a), (1, .int t)]) hx hb d_Sw_leaves_66 hl (k := 3) rfl (nI_1 pl) (by decide) rfl (fun ls hl => ?_)
            refine lv_aload hx hb d_Sw_leaves_69 (lv_at hl 3 rfl) ?_
            refine hp_get hx hb hts iw_Ce hown hK hH hx1 rfl 7 (by decide) (hts _ kw_18) (v := va_rf (sw_hd xs none)) rfl d_Sw_leaves_71 ?_
            refine hp_astore (lv' := [(6, va_rf (sw_hd xs none)), (5, .int (nI (pl + 1))), (3, .int (nI pl)), (2, .ref x), (4, .int (nI o)), (0, .ref a), (1, .int t)]) hx hb d_Sw_leaves_74 hl (by decide) rfl (fun ls hl => ?_)
            refine lv_goto (tgt := 29) hx hb d_Sw_leaves_76 (by decide) ?_
            exact ih xs (pl + 1) (some x) (some c, nI pl) o ls hx2 hb' ⟨⟨_, hx1⟩, hcs⟩ (fun ea' ls h1 h2 => K ea' ls (by rw [lv_take c_1 (by rw [hb1]; exact lv_nge hcs hd2 c_4)]; exact h1) (by rw [lv_take c_1 (by rw [hb1]; exact lv_nge hcs hd2 c_4)]; exact h2)) (lv_sub hl [0, 1, 3, 2, 4, 5, 6] rfl)
  have Lp : ∀ (n i : Nat) (ea : Option Nat) (ls : Array Slot), i + n = 8 → lv_e M ea (lv_out σ t i).1 → lv_has ls 7 [(2, va_rf ea), (3, .int ((lv_out σ t i).2)), (4, .int (nI i)), (0, .ref a), (1, .int t)] → W p l e rm_Sw_leaves s m args below meth cd s.heap [] 0 0 Q (F0 m 7 ls []) := by
    intro n
    induction n with
    | zero =>
      intro i ea ls hn he hl
      have e8 : i = 8 := by omega
      subst e8
      refine lv_iload hx hb d_Sw_leaves_7 (lv_at hl 2 rfl) ?_
      refine lv_bipush (v := 8) hx hb d_Sw_leaves_9 (by decide) ?_
      refine lv_icmp_ge (tgt := 85) hx hb d_Sw_leaves_11 (by decide) (fun c_5 => ?_) (fun c_5 => absurd (nI_le (a := 8) (by omega) (by omega)) c_5)
      refine lv_iload_n hx hb d_Sw_leaves_85 rfl (lv_at hl 1 rfl) ?_
      exact hp_iret hx hb hr hlocks hQ hK hH hS (Nat.le_of_ble_eq_true rfl) (Nat.le_of_ble_eq_true rfl) d_Sw_leaves_86 ⟨rfl, rfl⟩
    | succ n ih =>
      intro i ea ls hn he hl
      have hi8 : i < 8 := by omega
      obtain ⟨o1, o2, o3, ⟨ofs, o4, o4'⟩, o5, ⟨ofl, o6, o6'⟩, o7, ⟨o8, o9, o10⟩, o11⟩ := ho i hi8
      refine lv_iload hx hb d_Sw_leaves_7 (lv_at hl 2 rfl) ?_
      refine lv_bipush (v := 8) hx hb d_Sw_leaves_9 (by decide) ?_
      refine lv_icmp_ge (tgt := 85) hx hb d_Sw_leaves_11 (by decide) (fun c_6 => absurd c_6 (nI_ge (b := 8) (by omega) (by omega))) (fun c_6 => ?_)
      refine lv_iconst (v := 0) hx hb d_Sw_leaves_14 (by decide) ?_
      refine lv_istore (lv' := [(5, .int 0), (2, va_rf ea), (3, .int ((lv_out σ t i).2)), (4, .int (nI i)), (0, .ref a), (1, .int t)]) hx hb d_Sw_leaves_15 hl (by decide) rfl (fun ls hl => ?_)
      refine lv_aload_n hx hb d_Sw_leaves_17 rfl (lv_at hl 4 rfl) ?_
      refine hp_get hx hb hts iw_Sw hown hK hH h1 rfl 1 (by decide) (hts _ kw_5) (v := .ref aO) rfl d_Sw_leaves_18 ?_
      refine lv_iload hx hb d_Sw_leaves_21 (lv_at hl 3 rfl) ?_
      refine hp_aald hx hb hK hH h3 3 rfl i rfl hi8 (by decide) o1 d_Sw_leaves_23 ?_
      refine hp_get hx hb hts iw_Ou hown hK hH o2 rfl 3 (by decide) (hts _ kw_17) (v := va_rf (sw_hd (LQ i) none)) rfl d_Sw_leaves_24 ?_
      refine hp_astore (lv' := [(6, va_rf (sw_hd (LQ i) none)), (5, .int 0), (2, va_rf ea), (3, .int ((lv_out σ t i).2)), (4, .int (nI i)), (0, .ref a), (1, .int t)]) hx hb d_Sw_leaves_27 hl (by decide) rfl (fun ls hl => ?_)
      refine In (sg_qu σ i) (LQ i) 0 ea (lv_out σ t i) i ls o8 (fun c hc => Nat.lt_of_lt_of_le ((hinv.1 i hi8).2.2.2 c hc).2.2.2 hac) he (fun ea' ls he' hl => ?_) (lv_sub hl [0, 1, 2, 3, 4, 5, 6] rfl)
      replace hl : lv_has ls 7 [(2, va_rf ea'), (3, .int ((lv_out σ t (i + 1)).2)), (4, .int (nI i)), (0, .ref a), (1, .int t)] := hl
      refine lv_iinc (v := nI (i + 1)) (lv' := [(4, .int (nI (i + 1))), (2, va_rf ea'), (3, .int ((lv_out σ t (i + 1)).2)), (0, .ref a), (1, .int t)]) hx hb d_Sw_leaves_79 hl (k := 2) rfl (nI_1 i) (by decide) rfl (fun ls hl => ?_)
      refine lv_goto (tgt := 7) hx hb d_Sw_leaves_82 (by decide) ?_
      exact ih (i + 1) ea' ls (by omega) he' (lv_sub hl [1, 2, 0, 3, 4] rfl)
  exact Lp 8 0 none ls (by omega) trivial (lv_sub hl [2, 1, 0, 3, 4] rfl)
end
section
theorem kw_124 : Cond.methodLink R_Sw 1 objectInit ∈ wd_T := wd_in (List.mem_of_getElem? (i := 32) (by decide +kernel)) rfl
theorem kw_125 : Cond.classLink R_Sw 9 R_In ∈ wd_T := wd_in (List.mem_of_getElem? (i := 35) (by decide +kernel)) rfl
theorem kw_126 : Cond.classLink R_Sw 15 R_Ou ∈ wd_T := wd_in (List.mem_of_getElem? (i := 37) (by decide +kernel)) rfl
theorem kw_127 : Cond.instantiable R_In 2 ∈ wd_T := wd_in (List.mem_of_getElem? (i := 39) (by decide +kernel)) rfl
theorem kw_128 : Cond.instanceMethod y_In_init ∈ wd_T := wd_in (List.mem_of_getElem? (i := 41) (by decide +kernel)) rfl
theorem kw_129 : Cond.code y_In_init b_In_init 1 none ∈ wd_T := wd_in (List.mem_of_getElem? (i := 42) (by decide +kernel)) rfl
theorem kw_130 : Cond.instantiable R_Ou 6 ∈ wd_T := wd_in (List.mem_of_getElem? (i := 53) (by decide +kernel)) rfl
theorem kw_131 : Cond.methodLink R_Sw 22 y_Ou_init ∈ wd_T := wd_in (List.mem_of_getElem? (i := 54) (by decide +kernel)) rfl
theorem kw_132 : Cond.code y_Ou_init b_Ou_init 1 none ∈ wd_T := wd_in (List.mem_of_getElem? (i := 56) (by decide +kernel)) rfl
theorem kw_133 : Cond.instanceMethod y_Ou_init ∈ wd_T := wd_in (List.mem_of_getElem? (i := 55) (by decide +kernel)) rfl
theorem d_Sw_init_0 : decode b_Sw_init 0 = .ok (.aload_n 0, 1) := by decide +kernel
theorem d_Sw_init_1 : decode b_Sw_init 1 = .ok (.invokespecial 1, 3) := by decide +kernel
theorem d_Sw_init_4 : decode b_Sw_init 4 = .ok (.aload_n 0, 1) := by decide +kernel
theorem d_Sw_init_5 : decode b_Sw_init 5 = .ok (.bipush 8, 2) := by decide +kernel
theorem d_Sw_init_7 : decode b_Sw_init 7 = .ok (.anewarray 9, 3) := by decide +kernel
theorem d_Sw_init_10 : decode b_Sw_init 10 = .ok (.putfield 11, 3) := by decide +kernel
theorem d_Sw_init_13 : decode b_Sw_init 13 = .ok (.aload_n 0, 1) := by decide +kernel
theorem d_Sw_init_14 : decode b_Sw_init 14 = .ok (.bipush 8, 2) := by decide +kernel
theorem d_Sw_init_16 : decode b_Sw_init 16 = .ok (.anewarray 15, 3) := by decide +kernel
theorem d_Sw_init_19 : decode b_Sw_init 19 = .ok (.putfield 17, 3) := by decide +kernel
theorem d_Sw_init_22 : decode b_Sw_init 22 = .ok (.iconst 0, 1) := by decide +kernel
theorem d_Sw_init_23 : decode b_Sw_init 23 = .ok (.istore_n 1, 1) := by decide +kernel
theorem d_Sw_init_24 : decode b_Sw_init 24 = .ok (.iload_n 1, 1) := by decide +kernel
theorem d_Sw_init_25 : decode b_Sw_init 25 = .ok (.bipush 8, 2) := by decide +kernel
theorem d_Sw_init_27 : decode b_Sw_init 27 = .ok (.if_icmp .ge 35, 3) := by decide +kernel
theorem d_Sw_init_30 : decode b_Sw_init 30 = .ok (.aload_n 0, 1) := by decide +kernel
theorem d_Sw_init_31 : decode b_Sw_init 31 = .ok (.getfield 11, 3) := by decide +kernel
theorem d_Sw_init_34 : decode b_Sw_init 34 = .ok (.iload_n 1, 1) := by decide +kernel
theorem d_Sw_init_35 : decode b_Sw_init 35 = .ok (.new 9, 3) := by decide +kernel
theorem d_Sw_init_38 : decode b_Sw_init 38 = .ok (.dup, 1) := by decide +kernel
theorem d_Sw_init_39 : decode b_Sw_init 39 = .ok (.invokespecial 21, 3) := by decide +kernel
theorem d_Sw_init_42 : decode b_Sw_init 42 = .ok (.aastore, 1) := by decide +kernel
theorem d_Sw_init_43 : decode b_Sw_init 43 = .ok (.aload_n 0, 1) := by decide +kernel
theorem d_Sw_init_44 : decode b_Sw_init 44 = .ok (.getfield 17, 3) := by decide +kernel
theorem d_Sw_init_47 : decode b_Sw_init 47 = .ok (.iload_n 1, 1) := by decide +kernel
theorem d_Sw_init_48 : decode b_Sw_init 48 = .ok (.new 15, 3) := by decide +kernel
theorem d_Sw_init_51 : decode b_Sw_init 51 = .ok (.dup, 1) := by decide +kernel
theorem d_Sw_init_52 : decode b_Sw_init 52 = .ok (.invokespecial 22, 3) := by decide +kernel
theorem d_Sw_init_55 : decode b_Sw_init 55 = .ok (.aastore, 1) := by decide +kernel
theorem d_Sw_init_56 : decode b_Sw_init 56 = .ok (.iinc 1 1, 3) := by decide +kernel
theorem d_Sw_init_59 : decode b_Sw_init 59 = .ok (.goto (-35), 3) := by decide +kernel
theorem d_Sw_init_62 : decode b_Sw_init 62 = .ok (.return_, 1) := by decide +kernel
abbrev rm_Sw_init : Room := { frames := 2, cells := 34, slots := 208, locals := 43 }
set_option maxHeartbeats 4000000 in
set_option maxRecDepth 100000 in
theorem cn_Sw_init (l : Launch) (D : va_G) (B : Nat) (M : hp_M) (a : Nat) (F : Nat → Prop) (h1 : M a = some (.inr (ix_sw, [.null, .null, .int 0, .long 0]))) (hF : ∀ x, F x → x ≠ a ∧ M x ≠ none) : Met l y_Sw_init (wd_c y_Sw_init b_Sw_init 2 (none)) rm_Sw_init (va_Pc [.ref a] (fun U => hp_C D B M U ∧ sw_E U)) (va_Qv (fun  (M1 : hp_M) => sw_H D M1 a sg_0 F ∧ sw_fr F M M1) (hp_C D B) (hp_ub B)) 34 208 (hp_ub B) := by
  refine hp_met2 (E := sw_E) (by decide) (Nat.le_of_ble_eq_true rfl) ?_
  intro p e s m args below meth cd ls Q hQ hx hb hr hts hown hlocks hnm hml hK hH hS hB hl hE
  replace hl : lv_has ls 2 [(0, .ref a)] := hl
  refine lv_aload_n hx hb d_Sw_init_0 rfl (lv_at hl 0 rfl) ?_
  refine W.objInit hx hb hown (hts _ kw_124) (hts _ kw_64) (hts _ kw_65) rfl (by rw [hml]; exact hl.1) rfl d_Sw_init_1 (Nat.le_of_ble_eq_true rfl) (Nat.le_of_ble_eq_true rfl) ?_
  refine W.eq (g2 := F0 m 4 ls []) rfl ?_
  refine lv_aload_n hx hb d_Sw_init_4 rfl (lv_at hl 0 rfl) ?_
  refine lv_bipush (v := 8) hx hb d_Sw_init_5 (by decide) ?_
  refine hp_newq hx hb hown (hts _ kw_125) hE.2.1 hK hH hS hB 12 2 rfl 8 (by decide) (by decide) (Nat.le_of_ble_eq_true rfl) (Nat.le_of_ble_eq_true rfl) d_Sw_init_7 (fun q_1 M_2 H zq_1 eM_2 hH hS => ?_)
  have f_3 : M_2 q_1 = some (hp_aq D 12 8 (fun _ => none)) := by rw [eM_2]; exact va_up_self _ _ _
  have f_4 : M_2 a = some (.inr (ix_sw, [.null, .null, .int 0, .long 0])) := by rw [eM_2, va_up_ne _ _ (hp_fr zq_1 h1)]; exact h1
  refine hp_putF hx hb hts iw_Sw t_Sw t_Sw_ok n_Sw hown hK hH hS hB f_4 rfl 0 (by decide) (hts _ kw_14) rfl hnm rfl (v := .ref q_1) rfl rfl (Nat.le_of_ble_eq_true rfl) (fs' := [.ref q_1, .null, .int 0, .long 0]) rfl d_Sw_init_10 (fun M_5 H locs eM_5 hH hS => ?_)
  have f_6 : M_5 a = some (.inr (ix_sw, [.ref q_1, .null, .int 0, .long 0])) := by rw [eM_5]; exact va_up_self _ _ _
  have f_7 : M_5 q_1 = some (hp_aq D 12 8 (fun _ => none)) := by rw [eM_5, va_up_ne _ _ (hp_ne 102 ix_sw f_3 f_4 rfl rfl (by decide))]; exact f_3
  refine lv_aload_n hx hb d_Sw_init_13 rfl (lv_at hl 0 rfl) ?_
  refine lv_bipush (v := 8) hx hb d_Sw_init_14 (by decide) ?_
  refine hp_newq hx hb hown (hts _ kw_126) hE.2.2 hK hH hS hB 13 3 rfl 8 (by decide) (by decide) (Nat.le_of_ble_eq_true rfl) (Nat.le_of_ble_eq_true rfl) d_Sw_init_16 (fun q_8 M_9 H zq_8 eM_9 hH hS => ?_)
  have f_10 : M_9 q_8 = some (hp_aq D 13 8 (fun _ => none)) := by rw [eM_9]; exact va_up_self _ _ _
  have f_11 : M_9 q_1 = some (hp_aq D 12 8 (fun _ => none)) := by rw [eM_9, va_up_ne _ _ (hp_fr zq_8 f_7)]; exact f_7
  have f_12 : M_9 a = some (.inr (ix_sw, [.ref q_1, .null, .int 0, .long 0])) := by rw [eM_9, va_up_ne _ _ (hp_fr zq_8 f_6)]; exact f_6
  refine hp_putF hx hb hts iw_Sw t_Sw t_Sw_ok n_Sw hown hK hH hS hB f_12 rfl 1 (by decide) (hts _ kw_5) rfl hnm rfl (v := .ref q_8) rfl rfl (Nat.le_of_ble_eq_true rfl) (fs' := [.ref q_1, .ref q_8, .int 0, .long 0]) rfl d_Sw_init_19 (fun M_13 H locs eM_13 hH hS => ?_)
  have f_14 : M_13 a = some (.inr (ix_sw, [.ref q_1, .ref q_8, .int 0, .long 0])) := by rw [eM_13]; exact va_up_self _ _ _
  have f_15 : M_13 q_1 = some (hp_aq D 12 8 (fun _ => none)) := by rw [eM_13, va_up_ne _ _ (hp_ne 102 ix_sw f_11 f_12 rfl rfl (by decide))]; exact f_11
  have f_16 : M_13 q_8 = some (hp_aq D 13 8 (fun _ => none)) := by rw [eM_13, va_up_ne _ _ (hp_ne 102 ix_sw f_10 f_12 rfl rfl (by decide))]; exact f_10
  refine lv_iconst (v := 0) hx hb d_Sw_init_22 (by decide) ?_
  refine lv_istore_n (lv' := [(1, .int 0), (0, .ref a)]) hx hb d_Sw_init_23 rfl hl (by decide) rfl (fun ls hl => ?_)
  have m1 : q_1 ≠ a := hp_ne 102 ix_sw f_15 f_14 rfl rfl (by decide)
  have m2 : q_8 ≠ a := hp_ne 102 ix_sw f_16 f_14 rfl rfl (by decide)
  have m3 : q_8 ≠ q_1 := fun z => by have h := zq_8; rw [z] at h; rw [f_7] at h; cases h
  have mF : ∀ x, F x → x ≠ a ∧ x ≠ q_1 ∧ x ≠ q_8 ∧ M x ≠ none := fun x hx => by
    obtain ⟨b1, b2⟩ := hF x hx
    have c1 : x ≠ q_1 := fun z => b2 (by rw [z]; exact zq_1)
    have c2 : x ≠ q_8 := fun z => by have h := zq_8; rw [← z, eM_5, va_up_ne _ _ b1, eM_2, va_up_ne _ _ c1] at h; exact b2 h
    exact ⟨b1, c1, c2, b2⟩
  have mf : ∀ x, F x → M_13 x = M x := fun x hx => by obtain ⟨b1, b2, b3, -⟩ := mF x hx; rw [eM_13, eM_9, eM_5, eM_2]; simp only [va_up_ne _ _ b1, va_up_ne _ _ b2, va_up_ne _ _ b3]
  have h0 : sw_I0 D M_13 a F q_1 q_8 (fun _ => none) (fun _ => none) 0 := sw_I0_0 f_14 f_15 f_16 m1 m2 m3 (fun x hx => ⟨(mF x hx).1, (mF x hx).2.1, (mF x hx).2.2.1, by rw [mf x hx]; exact (mF x hx).2.2.2⟩)
  have Lp : ∀ (n i : Nat) (M2 : hp_M) (H : Heap) (locs : List Loc) (ls : Array Slot) (fI fO : Nat → Option Nat), i + n = 8 → sw_I0 D M2 a F q_1 q_8 fI fO i → sw_fr F M M2 → hp_H D B M2 H → va_S (hp_ub B) s.heap H locs → lv_has ls 2 [(1, .int (nI i)), (0, .ref a)] → W p l e rm_Sw_init s m args below meth cd H locs (2 + 4 * i) (16 + 24 * i) Q (F0 m 24 ls []) := by
    intro n
    induction n with
    | zero =>
      intro i M2 H locs ls fI fO hn hs hfr hH hS hl
      have e8 : i = 8 := by omega
      subst e8
      refine lv_iload_n hx hb d_Sw_init_24 rfl (lv_at hl 0 rfl) ?_
      refine lv_bipush (v := 8) hx hb d_Sw_init_25 (by decide) ?_
      refine lv_icmp_ge (tgt := 62) hx hb d_Sw_init_27 (by decide) (fun c_17 => ?_) (fun c_17 => absurd (nI_le (a := 8) (by omega) (by omega)) c_17)
      exact hp_vret hx hb hr hlocks hQ hK hH hS (Nat.le_of_ble_eq_true rfl) (Nat.le_of_ble_eq_true rfl) d_Sw_init_62 ⟨sw_I0_8 hs, hfr⟩
    | succ n ih =>
      intro i M2 H locs ls fI fO hn hs hfr hH hS hl
      have hi8 : i < 8 := by omega
      have hs0 := hs
      obtain ⟨ip, op, sp, lp, ow, ⟨g1, g2, g3⟩, ⟨w1, w2, w3⟩, -, -, -⟩ := hs0
      have mIO : q_1 ≠ q_8 := fun z => by rw [z, w3] at w2; cases w2
      refine lv_iload_n hx hb d_Sw_init_24 rfl (lv_at hl 0 rfl) ?_
      refine lv_bipush (v := 8) hx hb d_Sw_init_25 (by decide) ?_
      refine lv_icmp_ge (tgt := 62) hx hb d_Sw_init_27 (by decide) (fun c_18 => absurd c_18 (nI_ge (b := 8) (by omega) (by omega))) (fun c_18 => ?_)
      refine lv_aload_n hx hb d_Sw_init_30 rfl (lv_at hl 1 rfl) ?_
      refine hp_get hx hb hts iw_Sw hown hK hH g1 rfl 0 (by decide) (hts _ kw_14) (v := .ref q_1) rfl d_Sw_init_31 ?_
      refine lv_iload_n hx hb d_Sw_init_34 rfl (lv_at hl 0 rfl) ?_
      refine hp_new hx hb hts iw_In t_In t_In_ok hown (hts _ kw_125) (hts _ kw_127) (hts _ kw_115) hK hH hS hB (ci := ix_in) rfl (fs := [.null, .int 0]) (fun j hj => by rcases (show j = 0 ∨ j = 1 by omega) with rfl | rfl <;> rfl) (by show _ ≤ 34; omega) (by show _ ≤ 208; omega) d_Sw_init_35 (fun q_19 M_20 H zq_19 eM_20 hH hS => ?_)
      have f_21 : M_20 q_19 = some (.inr (ix_in, [.null, .int 0])) := by rw [eM_20]; exact va_up_self _ _ _
      have f_22 : M_20 a = some (.inr (ix_sw, [.ref q_1, .ref q_8, .int 0, .long 0])) := by rw [eM_20, va_up_ne _ _ (hp_fr zq_19 g1)]; exact g1
      have f_23 : M_20 q_1 = some (hp_aq D 12 8 fI) := by rw [eM_20, va_up_ne _ _ (hp_fr zq_19 g2)]; exact g2
      have f_24 : M_20 q_8 = some (hp_aq D 13 8 fO) := by rw [eM_20, va_up_ne _ _ (hp_fr zq_19 g3)]; exact g3
      refine lv_dup hx hb d_Sw_init_38 rfl ?_
      refine hp_callv (hp_runIN (b := q_19) (As := []) (rest := [.ref q_19, .int (nI i), .ref q_1]) hx hb hml hown (cn_In_init l D B M_20 q_19 f_21) (hp_cwN 0 hts hE.1 kw_128 kw_115 kw_129 rfl rfl rfl (by decide +kernel) ⟨(Nat.le_of_ble_eq_true rfl), (Nat.le_of_ble_eq_true rfl)⟩) hK hH rfl hl.1 rfl (Nat.le_of_ble_eq_true rfl) d_Sw_init_39 ⟨(by show _ ≤ 34; omega), (by show _ ≤ 208; omega)⟩) hS (fun M_25 H locs w_26 hH hS => ?_)
      rw [w_26] at hH
      refine hp_aast hx hb hK hH hS hB f_23 2 rfl f_21 rfl i rfl hi8 (by decide) d_Sw_init_42 (fun M_27 H locs eM_27 hH hS => ?_)
      have f_28 : M_27 q_1 = some (hp_aq D 12 8 (va_up fI i (some q_19))) := by rw [eM_27]; exact va_up_self _ _ _
      have f_29 : M_27 a = some (.inr (ix_sw, [.ref q_1, .ref q_8, .int 0, .long 0])) := by rw [eM_27, va_up_ne _ _ (hp_ne ix_sw 102 f_22 f_23 rfl rfl (by decide))]; exact f_22
      have f_30 : M_27 q_8 = some (hp_aq D 13 8 fO) := by rw [eM_27, va_up_ne _ _ (Ne.symm mIO)]; exact f_24
      have f_31 : M_27 q_19 = some (.inr (ix_in, [.null, .int 0])) := by rw [eM_27, va_up_ne _ _ (hp_ne ix_in 102 f_21 f_23 rfl rfl (by decide))]; exact f_21
      refine lv_aload_n hx hb d_Sw_init_43 rfl (lv_at hl 1 rfl) ?_
      refine hp_get hx hb hts iw_Sw hown hK hH f_29 rfl 1 (by decide) (hts _ kw_5) (v := .ref q_8) rfl d_Sw_init_44 ?_
      refine lv_iload_n hx hb d_Sw_init_47 rfl (lv_at hl 0 rfl) ?_
      refine hp_new hx hb hts iw_Ou t_Ou t_Ou_ok hown (hts _ kw_126) (hts _ kw_130) (hts _ kw_34) hK hH hS hB (ci := ix_ou) rfl (fs := [.int 0, .null, .null, .null, .int 0, .null]) (fun j hj => by rcases (show j = 0 ∨ j = 1 ∨ j = 2 ∨ j = 3 ∨ j = 4 ∨ j = 5 by omega) with rfl | rfl | rfl | rfl | rfl | rfl <;> rfl) (by show _ ≤ 34; omega) (by show _ ≤ 208; omega) d_Sw_init_48 (fun q_32 M_33 H zq_32 eM_33 hH hS => ?_)
      have f_34 : M_33 q_32 = some (.inr (ix_ou, [.int 0, .null, .null, .null, .int 0, .null])) := by rw [eM_33]; exact va_up_self _ _ _
      have f_35 : M_33 a = some (.inr (ix_sw, [.ref q_1, .ref q_8, .int 0, .long 0])) := by rw [eM_33, va_up_ne _ _ (hp_fr zq_32 f_29)]; exact f_29
      have f_36 : M_33 q_8 = some (hp_aq D 13 8 fO) := by rw [eM_33, va_up_ne _ _ (hp_fr zq_32 f_30)]; exact f_30
      have f_37 : M_33 q_19 = some (.inr (ix_in, [.null, .int 0])) := by rw [eM_33, va_up_ne _ _ (hp_fr zq_32 f_31)]; exact f_31
      have f_38 : M_33 q_1 = some (hp_aq D 12 8 (va_up fI i (some q_19))) := by rw [eM_33, va_up_ne _ _ (hp_fr zq_32 f_28)]; exact f_28
      refine lv_dup hx hb d_Sw_init_51 rfl ?_
      refine hp_callv (hp_runI (b := q_32) (As := []) (rest := [.ref q_32, .int (nI i), .ref q_8]) hx hb hml hown (cn_Ou_init l D B M_33 q_32 f_34) (hp_cwI 0 hts kw_131 kw_133 kw_34 kw_132 rfl rfl rfl (by decide +kernel) ⟨(Nat.le_of_ble_eq_true rfl), (Nat.le_of_ble_eq_true rfl)⟩) hK hH rfl hl.1 rfl (Nat.le_of_ble_eq_true rfl) d_Sw_init_52 ⟨(by show _ ≤ 34; omega), (by show _ ≤ 208; omega)⟩) hS (fun M_40 H locs w_41 hH hS => ?_)
      obtain ⟨qs, ql, f, u1, u2, u3, u4, u5, u6, u7, u8⟩ := w_41
      have f_42 : M_40 a = some (.inr (ix_sw, [.ref q_1, .ref q_8, .int 0, .long 0])) := by rw [u8 _ (hp_ne ix_sw ix_ou f_35 f_34 rfl rfl (by decide)) (hp_fr u1 f_35) (hp_fr u2 f_35)]; exact f_35
      have f_43 : M_40 q_8 = some (hp_aq D 13 8 fO) := by rw [u8 _ (hp_ne 102 ix_ou f_36 f_34 rfl rfl (by decide)) (hp_fr u1 f_36) (hp_fr u2 f_36)]; exact f_36
      have f_44 : M_40 q_19 = some (.inr (ix_in, [.null, .int 0])) := by rw [u8 _ (hp_ne ix_in ix_ou f_37 f_34 rfl rfl (by decide)) (hp_fr u1 f_37) (hp_fr u2 f_37)]; exact f_37
      have f_45 : M_40 q_1 = some (hp_aq D 12 8 (va_up fI i (some q_19))) := by rw [u8 _ (hp_ne 102 ix_ou f_38 f_34 rfl rfl (by decide)) (hp_fr u1 f_38) (hp_fr u2 f_38)]; exact f_38
      refine hp_aast hx hb hK hH hS hB f_43 3 rfl u5 rfl i rfl hi8 (by decide) d_Sw_init_55 (fun M_46 H locs eM_46 hH hS => ?_)
      have f_47 : M_46 q_8 = some (hp_aq D 13 8 (va_up fO i (some q_32))) := by rw [eM_46]; exact va_up_self _ _ _
      have f_48 : M_46 a = some (.inr (ix_sw, [.ref q_1, .ref q_8, .int 0, .long 0])) := by rw [eM_46, va_up_ne _ _ (hp_ne ix_sw 102 f_42 f_43 rfl rfl (by decide))]; exact f_42
      have f_49 : M_46 q_19 = some (.inr (ix_in, [.null, .int 0])) := by rw [eM_46, va_up_ne _ _ (hp_ne ix_in 102 f_44 f_43 rfl rfl (by decide))]; exact f_44
      have f_50 : M_46 q_1 = some (hp_aq D 12 8 (va_up fI i (some q_19))) := by rw [eM_46, va_up_ne _ _ mIO]; exact f_45
      have f_51 : M_46 q_32 = some (.inr (ix_ou, [.int 0, .ref qs, .ref ql, .null, .int 0, .null])) := by rw [eM_46, va_up_ne _ _ (hp_ne ix_ou 102 u5 f_43 rfl rfl (by decide))]; exact u5
      have f_52 : M_46 qs = some (hp_ai D 8 f) := by rw [eM_46, va_up_ne _ _ (hp_ne 100 102 u6 f_43 rfl rfl (by decide))]; exact u6
      have f_53 : M_46 ql = some (hp_al D 8 (fun _ => 0)) := by rw [eM_46, va_up_ne _ _ (hp_ne 101 102 u7 f_43 rfl rfl (by decide))]; exact u7
      have y2 : M2 q_32 = none := by have h := zq_32; rw [eM_27, va_up_ne _ _ (Ne.symm (hp_fr zq_32 f_28)), eM_20, va_up_ne _ _ (Ne.symm (hp_fr zq_32 f_31))] at h; exact h
      have y3 : M2 qs = none := by have h := u1; rw [eM_33, va_up_ne _ _ (Ne.symm (hp_fr u1 f_34)), eM_27, va_up_ne _ _ (Ne.symm (hp_fr u1 f_38)), eM_20, va_up_ne _ _ (Ne.symm (hp_fr u1 f_37))] at h; exact h
      have y4 : M2 ql = none := by have h := u2; rw [eM_33, va_up_ne _ _ (Ne.symm (hp_fr u2 f_34)), eM_27, va_up_ne _ _ (Ne.symm (hp_fr u2 f_38)), eM_20, va_up_ne _ _ (Ne.symm (hp_fr u2 f_37))] at h; exact h
      have yf : ∀ x, M2 x ≠ none → x ≠ q_1 → x ≠ q_8 → M_46 x = M2 x := fun x b1 b2 b3 => by
        have c1 : x ≠ q_19 := fun z => b1 (by rw [z]; exact zq_19)
        have c2 : x ≠ q_32 := fun z => b1 (by rw [z]; exact y2)
        have c3 : x ≠ qs := fun z => b1 (by rw [z]; exact y3)
        have c4 : x ≠ ql := fun z => b1 (by rw [z]; exact y4)
        rw [eM_46, va_up_ne _ _ b3, u8 x c2 c3 c4, eM_33, va_up_ne _ _ c2, eM_27, va_up_ne _ _ b2, eM_20, va_up_ne _ _ c1]
      obtain ⟨r1, r2⟩ := sw_I0_step (M1 := M_46) hi8 hs u4 zq_19 y2 y3 y4 f_49 f_51 f_52 f_53 f_48 f_50 f_47 yf
      refine lv_iinc (v := nI (i + 1)) (lv' := [(1, .int (nI (i + 1))), (0, .ref a)]) hx hb d_Sw_init_56 hl (k := 0) rfl (nI_1 i) (by decide) rfl (fun ls hl => ?_)
      refine lv_goto (tgt := 24) hx hb d_Sw_init_59 (by decide) ?_
      refine W.widen (k := 2 + 4 * (i + 1)) (n := 16 + 24 * (i + 1)) (by omega) (by omega) ?_
      exact ih (i + 1) M_46 _ _ ls _ _ (by omega) r1 (sw_fr_tr hfr r2) hH hS (lv_sub hl [0, 1] rfl)
  exact Lp 8 0 M_13 _ _ ls _ _ (by omega) h0 mf hH hS (lv_sub hl [0, 1] rfl)
end
section
theorem kw_134 : Cond.fieldLink R_Md 65 "EvenSwitchModel" "thrown" "I" ∈ wd_T := wd_in (List.mem_of_getElem? (i := 277) (by decide +kernel)) rfl
theorem kw_135 : Cond.fieldLink R_Md 85 "EvenSwitchModel" "slots" "I" ∈ wd_T := wd_in (List.mem_of_getElem? (i := 293) (by decide +kernel)) rfl
theorem kw_136 : Cond.methodLink R_Md 69 y_Md_isOne ∈ wd_T := wd_in (List.mem_of_getElem? (i := 342) (by decide +kernel)) rfl
theorem kw_137 : Cond.initialized R_Md ∈ wd_T := wd_in (List.mem_of_getElem? (i := 24) (by decide +kernel)) rfl
theorem kw_138 : Cond.code y_Md_isOne b_Md_isOne 1 (some .boolean) ∈ wd_T := wd_in (List.mem_of_getElem? (i := 344) (by decide +kernel)) rfl
theorem kw_139 : Cond.static y_Md_isOne ∈ wd_T := wd_in (List.mem_of_getElem? (i := 343) (by decide +kernel)) rfl
theorem kw_140 : Cond.fieldLink R_Md 53 "EvenSwitchModel" "sentInput" "[I" ∈ wd_T := wd_in (List.mem_of_getElem? (i := 294) (by decide +kernel)) rfl
theorem kw_141 : Cond.methodLink R_Md 108 y_Md_sentOne ∈ wd_T := wd_in (List.mem_of_getElem? (i := 395) (by decide +kernel)) rfl
theorem kw_142 : Cond.code y_Md_sentOne b_Md_sentOne 2 (some .boolean) ∈ wd_T := wd_in (List.mem_of_getElem? (i := 398) (by decide +kernel)) rfl
theorem kw_143 : Cond.instanceMethod y_Md_sentOne ∈ wd_T := wd_in (List.mem_of_getElem? (i := 397) (by decide +kernel)) rfl
theorem kw_144 : Cond.selects R_Md y_Md_sentOne y_Md_sentOne ∈ wd_T := wd_in (List.mem_of_getElem? (i := 17) (by decide +kernel)) rfl
theorem kw_145 : Cond.fieldLink R_Md 56 "EvenSwitchModel" "sentTag" "[I" ∈ wd_T := wd_in (List.mem_of_getElem? (i := 295) (by decide +kernel)) rfl
theorem kw_146 : Cond.fieldLink R_Md 59 "EvenSwitchModel" "sentWait" "[I" ∈ wd_T := wd_in (List.mem_of_getElem? (i := 296) (by decide +kernel)) rfl
theorem kw_147 : Cond.fieldLink R_Md 7 "EvenSwitchModel" "many" "[I" ∈ wd_T := wd_in (List.mem_of_getElem? (i := 278) (by decide +kernel)) rfl
theorem kw_148 : Cond.methodLink R_Md 111 y_Md_isCell ∈ wd_T := wd_in (List.mem_of_getElem? (i := 423) (by decide +kernel)) rfl
theorem kw_149 : Cond.code y_Md_isCell b_Md_isCell 3 (some .boolean) ∈ wd_T := wd_in (List.mem_of_getElem? (i := 426) (by decide +kernel)) rfl
theorem kw_150 : Cond.instanceMethod y_Md_isCell ∈ wd_T := wd_in (List.mem_of_getElem? (i := 425) (by decide +kernel)) rfl
theorem kw_151 : Cond.selects R_Md y_Md_isCell y_Md_isCell ∈ wd_T := wd_in (List.mem_of_getElem? (i := 18) (by decide +kernel)) rfl
theorem kw_152 : Cond.fieldLink R_Md 13 "EvenSwitchModel" "inputs" "[I" ∈ wd_T := wd_in (List.mem_of_getElem? (i := 279) (by decide +kernel)) rfl
theorem kw_153 : Cond.constantLong R_Md 115 (-1) ∈ wd_T := wd_in (List.mem_of_getElem? (i := 431) (by decide +kernel)) rfl
theorem kw_154 : Cond.fieldLink R_Md 22 "EvenSwitchModel" "times" "[J" ∈ wd_T := wd_in (List.mem_of_getElem? (i := 282) (by decide +kernel)) rfl
theorem d_Md_isOne_0 : decode b_Md_isOne 0 = .ok (.iload_n 0, 1) := by decide +kernel
theorem d_Md_isOne_1 : decode b_Md_isOne 1 = .ok (.ifCond .lt 13, 3) := by decide +kernel
theorem d_Md_isOne_4 : decode b_Md_isOne 4 = .ok (.iload_n 0, 1) := by decide +kernel
theorem d_Md_isOne_5 : decode b_Md_isOne 5 = .ok (.bipush 8, 2) := by decide +kernel
theorem d_Md_isOne_7 : decode b_Md_isOne 7 = .ok (.if_icmp .ge 7, 3) := by decide +kernel
theorem d_Md_isOne_10 : decode b_Md_isOne 10 = .ok (.iconst 1, 1) := by decide +kernel
theorem d_Md_isOne_11 : decode b_Md_isOne 11 = .ok (.goto 4, 3) := by decide +kernel
theorem d_Md_isOne_14 : decode b_Md_isOne 14 = .ok (.iconst 0, 1) := by decide +kernel
theorem d_Md_isOne_15 : decode b_Md_isOne 15 = .ok (.ireturn, 1) := by decide +kernel
theorem d_Md_slots_0 : decode b_Md_slots 0 = .ok (.aload_n 0, 1) := by decide +kernel
theorem d_Md_slots_1 : decode b_Md_slots 1 = .ok (.iconst 0, 1) := by decide +kernel
theorem d_Md_slots_2 : decode b_Md_slots 2 = .ok (.putfield 65, 3) := by decide +kernel
theorem d_Md_slots_5 : decode b_Md_slots 5 = .ok (.aload_n 0, 1) := by decide +kernel
theorem d_Md_slots_6 : decode b_Md_slots 6 = .ok (.getfield 85, 3) := by decide +kernel
theorem d_Md_slots_9 : decode b_Md_slots 9 = .ok (.ireturn, 1) := by decide +kernel
theorem d_Md_sentOne_0 : decode b_Md_sentOne 0 = .ok (.iload_n 1, 1) := by decide +kernel
theorem d_Md_sentOne_1 : decode b_Md_sentOne 1 = .ok (.invokestatic 69, 3) := by decide +kernel
theorem d_Md_sentOne_4 : decode b_Md_sentOne 4 = .ok (.ifCond .eq 17, 3) := by decide +kernel
theorem d_Md_sentOne_7 : decode b_Md_sentOne 7 = .ok (.aload_n 0, 1) := by decide +kernel
theorem d_Md_sentOne_8 : decode b_Md_sentOne 8 = .ok (.getfield 53, 3) := by decide +kernel
theorem d_Md_sentOne_11 : decode b_Md_sentOne 11 = .ok (.iload_n 1, 1) := by decide +kernel
theorem d_Md_sentOne_12 : decode b_Md_sentOne 12 = .ok (.iaload, 1) := by decide +kernel
theorem d_Md_sentOne_13 : decode b_Md_sentOne 13 = .ok (.iconst (-1), 1) := by decide +kernel
theorem d_Md_sentOne_14 : decode b_Md_sentOne 14 = .ok (.if_icmp .eq 7, 3) := by decide +kernel
theorem d_Md_sentOne_17 : decode b_Md_sentOne 17 = .ok (.iconst 1, 1) := by decide +kernel
theorem d_Md_sentOne_18 : decode b_Md_sentOne 18 = .ok (.goto 4, 3) := by decide +kernel
theorem d_Md_sentOne_21 : decode b_Md_sentOne 21 = .ok (.iconst 0, 1) := by decide +kernel
theorem d_Md_sentOne_22 : decode b_Md_sentOne 22 = .ok (.ireturn, 1) := by decide +kernel
theorem d_Md_hasSent_0 : decode b_Md_hasSent 0 = .ok (.aload_n 0, 1) := by decide +kernel
theorem d_Md_hasSent_1 : decode b_Md_hasSent 1 = .ok (.iconst 0, 1) := by decide +kernel
theorem d_Md_hasSent_2 : decode b_Md_hasSent 2 = .ok (.putfield 65, 3) := by decide +kernel
theorem d_Md_hasSent_5 : decode b_Md_hasSent 5 = .ok (.aload_n 0, 1) := by decide +kernel
theorem d_Md_hasSent_6 : decode b_Md_hasSent 6 = .ok (.iload_n 1, 1) := by decide +kernel
theorem d_Md_hasSent_7 : decode b_Md_hasSent 7 = .ok (.invokevirtual 108, 3) := by decide +kernel
theorem d_Md_hasSent_10 : decode b_Md_hasSent 10 = .ok (.ireturn, 1) := by decide +kernel
theorem d_Md_sent_0 : decode b_Md_sent 0 = .ok (.aload_n 0, 1) := by decide +kernel
theorem d_Md_sent_1 : decode b_Md_sent 1 = .ok (.iconst 0, 1) := by decide +kernel
theorem d_Md_sent_2 : decode b_Md_sent 2 = .ok (.putfield 65, 3) := by decide +kernel
theorem d_Md_sent_5 : decode b_Md_sent 5 = .ok (.aload_n 0, 1) := by decide +kernel
theorem d_Md_sent_6 : decode b_Md_sent 6 = .ok (.iload_n 1, 1) := by decide +kernel
theorem d_Md_sent_7 : decode b_Md_sent 7 = .ok (.invokevirtual 108, 3) := by decide +kernel
theorem d_Md_sent_10 : decode b_Md_sent 10 = .ok (.ifCond .eq 12, 3) := by decide +kernel
theorem d_Md_sent_13 : decode b_Md_sent 13 = .ok (.aload_n 0, 1) := by decide +kernel
theorem d_Md_sent_14 : decode b_Md_sent 14 = .ok (.getfield 56, 3) := by decide +kernel
theorem d_Md_sent_17 : decode b_Md_sent 17 = .ok (.iload_n 1, 1) := by decide +kernel
theorem d_Md_sent_18 : decode b_Md_sent 18 = .ok (.iaload, 1) := by decide +kernel
theorem d_Md_sent_19 : decode b_Md_sent 19 = .ok (.goto 4, 3) := by decide +kernel
theorem d_Md_sent_22 : decode b_Md_sent 22 = .ok (.iconst 0, 1) := by decide +kernel
theorem d_Md_sent_23 : decode b_Md_sent 23 = .ok (.ireturn, 1) := by decide +kernel
theorem d_Md_sentFrom_0 : decode b_Md_sentFrom 0 = .ok (.aload_n 0, 1) := by decide +kernel
theorem d_Md_sentFrom_1 : decode b_Md_sentFrom 1 = .ok (.iconst 0, 1) := by decide +kernel
theorem d_Md_sentFrom_2 : decode b_Md_sentFrom 2 = .ok (.putfield 65, 3) := by decide +kernel
theorem d_Md_sentFrom_5 : decode b_Md_sentFrom 5 = .ok (.aload_n 0, 1) := by decide +kernel
theorem d_Md_sentFrom_6 : decode b_Md_sentFrom 6 = .ok (.iload_n 1, 1) := by decide +kernel
theorem d_Md_sentFrom_7 : decode b_Md_sentFrom 7 = .ok (.invokevirtual 108, 3) := by decide +kernel
theorem d_Md_sentFrom_10 : decode b_Md_sentFrom 10 = .ok (.ifCond .eq 12, 3) := by decide +kernel
theorem d_Md_sentFrom_13 : decode b_Md_sentFrom 13 = .ok (.aload_n 0, 1) := by decide +kernel
theorem d_Md_sentFrom_14 : decode b_Md_sentFrom 14 = .ok (.getfield 53, 3) := by decide +kernel
theorem d_Md_sentFrom_17 : decode b_Md_sentFrom 17 = .ok (.iload_n 1, 1) := by decide +kernel
theorem d_Md_sentFrom_18 : decode b_Md_sentFrom 18 = .ok (.iaload, 1) := by decide +kernel
theorem d_Md_sentFrom_19 : decode b_Md_sentFrom 19 = .ok (.goto 4, 3) := by decide +kernel
theorem d_Md_sentFrom_22 : decode b_Md_sentFrom 22 = .ok (.iconst (-1), 1) := by decide +kernel
theorem d_Md_sentFrom_23 : decode b_Md_sentFrom 23 = .ok (.ireturn, 1) := by decide +kernel
theorem d_Md_waited_0 : decode b_Md_waited 0 = .ok (.aload_n 0, 1) := by decide +kernel
theorem d_Md_waited_1 : decode b_Md_waited 1 = .ok (.iconst 0, 1) := by decide +kernel
theorem d_Md_waited_2 : decode b_Md_waited 2 = .ok (.putfield 65, 3) := by decide +kernel
theorem d_Md_waited_5 : decode b_Md_waited 5 = .ok (.aload_n 0, 1) := by decide +kernel
theorem d_Md_waited_6 : decode b_Md_waited 6 = .ok (.iload_n 1, 1) := by decide +kernel
theorem d_Md_waited_7 : decode b_Md_waited 7 = .ok (.invokevirtual 108, 3) := by decide +kernel
theorem d_Md_waited_10 : decode b_Md_waited 10 = .ok (.ifCond .eq 12, 3) := by decide +kernel
theorem d_Md_waited_13 : decode b_Md_waited 13 = .ok (.aload_n 0, 1) := by decide +kernel
theorem d_Md_waited_14 : decode b_Md_waited 14 = .ok (.getfield 59, 3) := by decide +kernel
theorem d_Md_waited_17 : decode b_Md_waited 17 = .ok (.iload_n 1, 1) := by decide +kernel
theorem d_Md_waited_18 : decode b_Md_waited 18 = .ok (.iaload, 1) := by decide +kernel
theorem d_Md_waited_19 : decode b_Md_waited 19 = .ok (.goto 4, 3) := by decide +kernel
theorem d_Md_waited_22 : decode b_Md_waited 22 = .ok (.iconst (-1), 1) := by decide +kernel
theorem d_Md_waited_23 : decode b_Md_waited 23 = .ok (.ireturn, 1) := by decide +kernel
theorem d_Md_waiting_0 : decode b_Md_waiting 0 = .ok (.aload_n 0, 1) := by decide +kernel
theorem d_Md_waiting_1 : decode b_Md_waiting 1 = .ok (.iconst 0, 1) := by decide +kernel
theorem d_Md_waiting_2 : decode b_Md_waiting 2 = .ok (.putfield 65, 3) := by decide +kernel
theorem d_Md_waiting_5 : decode b_Md_waiting 5 = .ok (.iload_n 1, 1) := by decide +kernel
theorem d_Md_waiting_6 : decode b_Md_waiting 6 = .ok (.invokestatic 69, 3) := by decide +kernel
theorem d_Md_waiting_9 : decode b_Md_waiting 9 = .ok (.ifCond .eq 12, 3) := by decide +kernel
theorem d_Md_waiting_12 : decode b_Md_waiting 12 = .ok (.aload_n 0, 1) := by decide +kernel
theorem d_Md_waiting_13 : decode b_Md_waiting 13 = .ok (.getfield 7, 3) := by decide +kernel
theorem d_Md_waiting_16 : decode b_Md_waiting 16 = .ok (.iload_n 1, 1) := by decide +kernel
theorem d_Md_waiting_17 : decode b_Md_waiting 17 = .ok (.iaload, 1) := by decide +kernel
theorem d_Md_waiting_18 : decode b_Md_waiting 18 = .ok (.goto 4, 3) := by decide +kernel
theorem d_Md_waiting_21 : decode b_Md_waiting 21 = .ok (.iconst (-1), 1) := by decide +kernel
theorem d_Md_waiting_22 : decode b_Md_waiting 22 = .ok (.ireturn, 1) := by decide +kernel
theorem d_Md_isCell_0 : decode b_Md_isCell 0 = .ok (.iload_n 1, 1) := by decide +kernel
theorem d_Md_isCell_1 : decode b_Md_isCell 1 = .ok (.invokestatic 69, 3) := by decide +kernel
theorem d_Md_isCell_4 : decode b_Md_isCell 4 = .ok (.ifCond .eq 21, 3) := by decide +kernel
theorem d_Md_isCell_7 : decode b_Md_isCell 7 = .ok (.iload_n 2, 1) := by decide +kernel
theorem d_Md_isCell_8 : decode b_Md_isCell 8 = .ok (.ifCond .lt 17, 3) := by decide +kernel
theorem d_Md_isCell_11 : decode b_Md_isCell 11 = .ok (.iload_n 2, 1) := by decide +kernel
theorem d_Md_isCell_12 : decode b_Md_isCell 12 = .ok (.aload_n 0, 1) := by decide +kernel
theorem d_Md_isCell_13 : decode b_Md_isCell 13 = .ok (.getfield 7, 3) := by decide +kernel
theorem d_Md_isCell_16 : decode b_Md_isCell 16 = .ok (.iload_n 1, 1) := by decide +kernel
theorem d_Md_isCell_17 : decode b_Md_isCell 17 = .ok (.iaload, 1) := by decide +kernel
theorem d_Md_isCell_18 : decode b_Md_isCell 18 = .ok (.if_icmp .ge 7, 3) := by decide +kernel
theorem d_Md_isCell_21 : decode b_Md_isCell 21 = .ok (.iconst 1, 1) := by decide +kernel
theorem d_Md_isCell_22 : decode b_Md_isCell 22 = .ok (.goto 4, 3) := by decide +kernel
theorem d_Md_isCell_25 : decode b_Md_isCell 25 = .ok (.iconst 0, 1) := by decide +kernel
theorem d_Md_isCell_26 : decode b_Md_isCell 26 = .ok (.ireturn, 1) := by decide +kernel
theorem d_Md_first_0 : decode b_Md_first 0 = .ok (.aload_n 0, 1) := by decide +kernel
theorem d_Md_first_1 : decode b_Md_first 1 = .ok (.iconst 0, 1) := by decide +kernel
theorem d_Md_first_2 : decode b_Md_first 2 = .ok (.putfield 65, 3) := by decide +kernel
theorem d_Md_first_5 : decode b_Md_first 5 = .ok (.aload_n 0, 1) := by decide +kernel
theorem d_Md_first_6 : decode b_Md_first 6 = .ok (.iload_n 1, 1) := by decide +kernel
theorem d_Md_first_7 : decode b_Md_first 7 = .ok (.iload_n 2, 1) := by decide +kernel
theorem d_Md_first_8 : decode b_Md_first 8 = .ok (.invokevirtual 111, 3) := by decide +kernel
theorem d_Md_first_11 : decode b_Md_first 11 = .ok (.ifCond .eq 18, 3) := by decide +kernel
theorem d_Md_first_14 : decode b_Md_first 14 = .ok (.aload_n 0, 1) := by decide +kernel
theorem d_Md_first_15 : decode b_Md_first 15 = .ok (.getfield 13, 3) := by decide +kernel
theorem d_Md_first_18 : decode b_Md_first 18 = .ok (.sipush 512, 3) := by decide +kernel
theorem d_Md_first_21 : decode b_Md_first 21 = .ok (.iload_n 1, 1) := by decide +kernel
theorem d_Md_first_22 : decode b_Md_first 22 = .ok (.imul, 1) := by decide +kernel
theorem d_Md_first_23 : decode b_Md_first 23 = .ok (.iload_n 2, 1) := by decide +kernel
theorem d_Md_first_24 : decode b_Md_first 24 = .ok (.iadd, 1) := by decide +kernel
theorem d_Md_first_25 : decode b_Md_first 25 = .ok (.iaload, 1) := by decide +kernel
theorem d_Md_first_26 : decode b_Md_first 26 = .ok (.goto 4, 3) := by decide +kernel
theorem d_Md_first_29 : decode b_Md_first 29 = .ok (.iconst (-1), 1) := by decide +kernel
theorem d_Md_first_30 : decode b_Md_first 30 = .ok (.ireturn, 1) := by decide +kernel
theorem d_Md_time_0 : decode b_Md_time 0 = .ok (.aload_n 0, 1) := by decide +kernel
theorem d_Md_time_1 : decode b_Md_time 1 = .ok (.iconst 0, 1) := by decide +kernel
theorem d_Md_time_2 : decode b_Md_time 2 = .ok (.putfield 65, 3) := by decide +kernel
theorem d_Md_time_5 : decode b_Md_time 5 = .ok (.aload_n 0, 1) := by decide +kernel
theorem d_Md_time_6 : decode b_Md_time 6 = .ok (.iload_n 1, 1) := by decide +kernel
theorem d_Md_time_7 : decode b_Md_time 7 = .ok (.iload_n 2, 1) := by decide +kernel
theorem d_Md_time_8 : decode b_Md_time 8 = .ok (.invokevirtual 111, 3) := by decide +kernel
theorem d_Md_time_11 : decode b_Md_time 11 = .ok (.ifCond .eq 18, 3) := by decide +kernel
theorem d_Md_time_14 : decode b_Md_time 14 = .ok (.aload_n 0, 1) := by decide +kernel
theorem d_Md_time_15 : decode b_Md_time 15 = .ok (.getfield 22, 3) := by decide +kernel
theorem d_Md_time_18 : decode b_Md_time 18 = .ok (.sipush 512, 3) := by decide +kernel
theorem d_Md_time_21 : decode b_Md_time 21 = .ok (.iload_n 1, 1) := by decide +kernel
theorem d_Md_time_22 : decode b_Md_time 22 = .ok (.imul, 1) := by decide +kernel
theorem d_Md_time_23 : decode b_Md_time 23 = .ok (.iload_n 2, 1) := by decide +kernel
theorem d_Md_time_24 : decode b_Md_time 24 = .ok (.iadd, 1) := by decide +kernel
theorem d_Md_time_25 : decode b_Md_time 25 = .ok (.laload, 1) := by decide +kernel
theorem d_Md_time_26 : decode b_Md_time 26 = .ok (.goto 6, 3) := by decide +kernel
theorem d_Md_time_29 : decode b_Md_time 29 = .ok (.ldc2_w 115, 3) := by decide +kernel
theorem d_Md_time_32 : decode b_Md_time 32 = .ok (.lreturn, 1) := by decide +kernel
abbrev rm_Md_isOne : Room := { frames := 0, cells := 0, slots := 0, locals := 0 }
set_option maxHeartbeats 4000000 in
set_option maxRecDepth 100000 in
theorem cn_Md_isOne (l : Launch) (D : va_G) (B : Nat) (M : hp_M) (x : Int32)  : Met l y_Md_isOne (wd_c y_Md_isOne b_Md_isOne 1 (some .boolean)) rm_Md_isOne (va_Pc [.int x] (hp_C D B M)) (va_Qi (fun (r : Int32) (M1 : hp_M) => M1 = M ∧ r = sg_port x) (hp_C D B) (hp_ub B)) 0 0 (hp_ub B) := by
  refine hp_met (by decide) (Nat.le_of_ble_eq_true rfl) ?_
  intro p e s m args below meth cd ls Q hQ hx hb hr hts hown hlocks hnm hml hK hH hS hB hl
  replace hl : lv_has ls 1 [(0, .int x)] := hl
  refine lv_iload_n hx hb d_Md_isOne_0 rfl (lv_at hl 0 rfl) ?_
  refine lv_if_lt (tgt := 14) hx hb d_Md_isOne_1 (by decide) (fun c_1 => ?_) (fun c_1 => ?_)
  · refine lv_iconst (v := 0) hx hb d_Md_isOne_14 (by decide) ?_
    exact hp_zret hx hb hr hlocks hQ hK hH hS (Nat.le_of_ble_eq_true rfl) (Nat.le_of_ble_eq_true rfl) rfl d_Md_isOne_15 ⟨rfl, sg_port_neg c_1⟩
  · refine lv_iload_n hx hb d_Md_isOne_4 rfl (lv_at hl 0 rfl) ?_
    refine lv_bipush (v := 8) hx hb d_Md_isOne_5 (by decide) ?_
    refine lv_icmp_ge (tgt := 14) hx hb d_Md_isOne_7 (by decide) (fun c_2 => ?_) (fun c_2 => ?_)
    · refine lv_iconst (v := 0) hx hb d_Md_isOne_14 (by decide) ?_
      exact hp_zret hx hb hr hlocks hQ hK hH hS (Nat.le_of_ble_eq_true rfl) (Nat.le_of_ble_eq_true rfl) rfl d_Md_isOne_15 ⟨rfl, sg_port_big c_2⟩
    · refine lv_iconst (v := 1) hx hb d_Md_isOne_10 (by decide) ?_
      refine lv_goto (tgt := 15) hx hb d_Md_isOne_11 (by decide) ?_
      exact hp_zret hx hb hr hlocks hQ hK hH hS (Nat.le_of_ble_eq_true rfl) (Nat.le_of_ble_eq_true rfl) rfl d_Md_isOne_15 ⟨rfl, sg_port_in c_1 c_2⟩
abbrev rm_Md_slots : Room := { frames := 0, cells := 0, slots := 0, locals := 0 }
set_option maxHeartbeats 4000000 in
set_option maxRecDepth 100000 in
theorem cn_Md_slots (l : Launch) (D : va_G) (B : Nat) (M : hp_M) (b : Nat) (ad : Nat → Nat) (th of sl : Int32) (ct : Nat → Nat → Int32) (cl : Nat → Nat → Int64) (σ : sg_S) (hm : md_H D M b ad th of sl ct cl) (hR : mo_R σ (fun _ => sg_sl σ - 1) of sl ct cl) (hinv : sg_inv σ) (hac : sg_ac σ ≤ 512) (hsei : sg_sei σ) : Met l y_Md_slots (wd_c y_Md_slots b_Md_slots 1 (some .int)) rm_Md_slots (va_Pc [.ref b] (hp_C D B M)) (va_Qi (fun (r : Int32) (M1 : hp_M) => md_H D M1 b ad 0 of sl ct cl ∧ md_fr b ad M M1 ∧ r = sg_sl σ) (hp_C D B) (hp_ub B)) 0 0 (hp_ub B) := by
  refine hp_met (by decide) (Nat.le_of_ble_eq_true rfl) ?_
  intro p e s m args below meth cd ls Q hQ hx hb hr hts hown hlocks hnm hml hK hH hS hB hl
  replace hl : lv_has ls 1 [(0, .ref b)] := hl
  have hf : md_fr b ad M M := md_fr_rf
  refine lv_aload_n hx hb d_Md_slots_0 rfl (lv_at hl 0 rfl) ?_
  refine lv_iconst (v := 0) hx hb d_Md_slots_1 (by decide) ?_
  refine hp_put hx hb hts iw_Md t_Md t_Md_ok n_Md hown hK hH hS hB hm.1 rfl 0 (by decide) (hts _ kw_134) rfl  (v := .int 0) rfl rfl (Nat.le_of_ble_eq_true rfl) (fs' := [.int 0, .ref (ad 0), .ref (ad 1), .ref (ad 2), .ref (ad 3), .ref (ad 4), .ref (ad 5), .ref (ad 6), .ref (ad 7), .ref (ad 8), .ref (ad 9), .ref (ad 10), .ref (ad 11), .ref (ad 12), .ref (ad 13), .int of, .int sl, .ref (ad 14), .ref (ad 15), .ref (ad 16)]) rfl d_Md_slots_2 (fun M_1 H locs eM_1 hH hS => ?_)
  have hm := md_pb hm (th' := 0) (of' := of) (sl' := sl) eM_1
  have hf := md_fr_b hf eM_1
  refine lv_aload_n hx hb d_Md_slots_5 rfl (lv_at hl 0 rfl) ?_
  refine hp_get hx hb hts iw_Md hown hK hH hm.1 rfl 16 (by decide) (hts _ kw_135) (v := .int sl) rfl d_Md_slots_6 ?_
  exact hp_iret hx hb hr hlocks hQ hK hH hS (Nat.le_of_ble_eq_true rfl) (Nat.le_of_ble_eq_true rfl) d_Md_slots_9 ⟨hm, hf, hR.2.1⟩
abbrev rm_Md_sentOne : Room := { frames := 1, cells := 0, slots := 0, locals := 20 }
set_option maxHeartbeats 4000000 in
set_option maxRecDepth 100000 in
theorem cn_Md_sentOne (l : Launch) (D : va_G) (B : Nat) (M : hp_M) (b : Nat) (ad : Nat → Nat) (th of sl : Int32) (ct : Nat → Nat → Int32) (cl : Nat → Nat → Int64) (σ : sg_S) (x : Int32) (hm : md_H D M b ad th of sl ct cl) (hR : mo_R σ (fun _ => sg_sl σ - 1) of sl ct cl) (hinv : sg_inv σ) (hac : sg_ac σ ≤ 512) (hsei : sg_sei σ) : Met l y_Md_sentOne (wd_c y_Md_sentOne b_Md_sentOne 2 (some .boolean)) rm_Md_sentOne (va_Pc [.ref b, .int x] (hp_C D B M)) (va_Qi (fun (r : Int32) (M1 : hp_M) => M1 = M ∧ r = an_hasSent σ x) (hp_C D B) (hp_ub B)) 0 0 (hp_ub B) := by
  rcases sg_ix_or x with ⟨hix, _⟩ | ⟨k, hk, rfl, hix⟩
  · refine hp_met (by decide) (Nat.le_of_ble_eq_true rfl) ?_
    intro p e s m args below meth cd ls Q hQ hx hb hr hts hown hlocks hnm hml hK hH hS hB hl
    replace hl : lv_has ls 2 [(0, .ref b), (1, .int x)] := hl
    refine lv_iload_n hx hb d_Md_sentOne_0 rfl (lv_at hl 1 rfl) ?_
    refine hp_calli (hp_runS (As := [.int x]) (rest := []) hx hb hml hown (cn_Md_isOne l D B M x) (hp_cwS 1 hts kw_136 kw_139 kw_137 kw_138 rfl rfl (by decide +kernel) ⟨(Nat.le_of_ble_eq_true rfl), (Nat.le_of_ble_eq_true rfl)⟩) hK hH rfl hl.1 rfl (Nat.le_of_ble_eq_true rfl) d_Md_sentOne_1 ⟨(Nat.le_of_ble_eq_true rfl), (Nat.le_of_ble_eq_true rfl)⟩) hS (fun r_1 M_2 H locs w_3 hH hS => ?_)
    obtain ⟨eM, eR⟩ := w_3
    rw [eM] at hH
    rw [eR]
    refine lv_if_eq (tgt := 21) hx hb d_Md_sentOne_4 (by decide) (fun c_4 => ?_) (fun c_4 => absurd (sg_port_none hix) c_4)
    refine lv_iconst (v := 0) hx hb d_Md_sentOne_21 (by decide) ?_
    exact hp_zret hx hb hr hlocks hQ hK hH hS (Nat.le_of_ble_eq_true rfl) (Nat.le_of_ble_eq_true rfl) rfl d_Md_sentOne_22 ⟨rfl, an_hasSent_n (sg_latest_n hix)⟩
  · refine hp_met (by decide) (Nat.le_of_ble_eq_true rfl) ?_
    intro p e s m args below meth cd ls Q hQ hx hb hr hts hown hlocks hnm hml hK hH hS hB hl
    replace hl : lv_has ls 2 [(0, .ref b), (1, .int (nI k))] := hl
    refine lv_iload_n hx hb d_Md_sentOne_0 rfl (lv_at hl 1 rfl) ?_
    refine hp_calli (hp_runS (As := [.int (nI k)]) (rest := []) hx hb hml hown (cn_Md_isOne l D B M (nI k)) (hp_cwS 1 hts kw_136 kw_139 kw_137 kw_138 rfl rfl (by decide +kernel) ⟨(Nat.le_of_ble_eq_true rfl), (Nat.le_of_ble_eq_true rfl)⟩) hK hH rfl hl.1 rfl (Nat.le_of_ble_eq_true rfl) d_Md_sentOne_1 ⟨(Nat.le_of_ble_eq_true rfl), (Nat.le_of_ble_eq_true rfl)⟩) hS (fun r_1 M_2 H locs w_3 hH hS => ?_)
    obtain ⟨eM, eR⟩ := w_3
    rw [eM] at hH
    rw [eR]
    refine lv_if_eq (tgt := 21) hx hb d_Md_sentOne_4 (by decide) (fun c_4 => absurd c_4 (by rw [sg_port_some hix]; decide)) (fun c_4 => ?_)
    refine lv_aload_n hx hb d_Md_sentOne_7 rfl (lv_at hl 0 rfl) ?_
    refine hp_get hx hb hts iw_Md hown hK hH hm.1 rfl 17 (by decide) (hts _ kw_140) (v := .ref (ad 14)) rfl d_Md_sentOne_8 ?_
    refine lv_iload_n hx hb d_Md_sentOne_11 rfl (lv_at hl 1 rfl) ?_
    refine hp_iald hx hb hK hH (show M (ad 14) = some (hp_ai D 8 (ct 14)) from hm.2.1 14 (by decide) (by decide) (by decide)) k rfl hk (by decide) (v := (ct 14 k)) rfl d_Md_sentOne_12 ?_
    refine lv_iconst (v := (-1)) hx hb d_Md_sentOne_13 (by decide) ?_
    refine lv_icmp_eq (tgt := 21) hx hb d_Md_sentOne_14 (by decide) (fun c_5 => ?_) (fun c_5 => ?_)
    · refine lv_iconst (v := 0) hx hb d_Md_sentOne_21 (by decide) ?_
      exact hp_zret hx hb hr hlocks hQ hK hH hS (Nat.le_of_ble_eq_true rfl) (Nat.le_of_ble_eq_true rfl) rfl d_Md_sentOne_22 ⟨rfl, mo_hs0 ((hR.2.2.1 k hk).2.2.2.2) (hsei k hk) (sg_latest_s hix) c_5⟩
    · refine lv_iconst (v := 1) hx hb d_Md_sentOne_17 (by decide) ?_
      refine lv_goto (tgt := 22) hx hb d_Md_sentOne_18 (by decide) ?_
      exact hp_zret hx hb hr hlocks hQ hK hH hS (Nat.le_of_ble_eq_true rfl) (Nat.le_of_ble_eq_true rfl) rfl d_Md_sentOne_22 ⟨rfl, mo_hs1 ((hR.2.2.1 k hk).2.2.2.2) (sg_latest_s hix) c_5⟩
abbrev rm_Md_hasSent : Room := { frames := 2, cells := 0, slots := 0, locals := 41 }
set_option maxHeartbeats 4000000 in
set_option maxRecDepth 100000 in
theorem cn_Md_hasSent (l : Launch) (D : va_G) (B : Nat) (M : hp_M) (b : Nat) (ad : Nat → Nat) (th of sl : Int32) (ct : Nat → Nat → Int32) (cl : Nat → Nat → Int64) (σ : sg_S) (x : Int32) (hm : md_H D M b ad th of sl ct cl) (hR : mo_R σ (fun _ => sg_sl σ - 1) of sl ct cl) (hinv : sg_inv σ) (hac : sg_ac σ ≤ 512) (hsei : sg_sei σ) : Met l y_Md_hasSent (wd_c y_Md_hasSent b_Md_hasSent 2 (some .boolean)) rm_Md_hasSent (va_Pc [.ref b, .int x] (hp_C D B M)) (va_Qi (fun (r : Int32) (M1 : hp_M) => md_H D M1 b ad 0 of sl ct cl ∧ md_fr b ad M M1 ∧ r = an_hasSent σ x) (hp_C D B) (hp_ub B)) 0 0 (hp_ub B) := by
  refine hp_met (by decide) (Nat.le_of_ble_eq_true rfl) ?_
  intro p e s m args below meth cd ls Q hQ hx hb hr hts hown hlocks hnm hml hK hH hS hB hl
  replace hl : lv_has ls 2 [(0, .ref b), (1, .int x)] := hl
  have hf : md_fr b ad M M := md_fr_rf
  refine lv_aload_n hx hb d_Md_hasSent_0 rfl (lv_at hl 0 rfl) ?_
  refine lv_iconst (v := 0) hx hb d_Md_hasSent_1 (by decide) ?_
  refine hp_put hx hb hts iw_Md t_Md t_Md_ok n_Md hown hK hH hS hB hm.1 rfl 0 (by decide) (hts _ kw_134) rfl  (v := .int 0) rfl rfl (Nat.le_of_ble_eq_true rfl) (fs' := [.int 0, .ref (ad 0), .ref (ad 1), .ref (ad 2), .ref (ad 3), .ref (ad 4), .ref (ad 5), .ref (ad 6), .ref (ad 7), .ref (ad 8), .ref (ad 9), .ref (ad 10), .ref (ad 11), .ref (ad 12), .ref (ad 13), .int of, .int sl, .ref (ad 14), .ref (ad 15), .ref (ad 16)]) rfl d_Md_hasSent_2 (fun M_1 H locs eM_1 hH hS => ?_)
  have hm := md_pb hm (th' := 0) (of' := of) (sl' := sl) eM_1
  have hf := md_fr_b hf eM_1
  refine lv_aload_n hx hb d_Md_hasSent_5 rfl (lv_at hl 0 rfl) ?_
  refine lv_iload_n hx hb d_Md_hasSent_6 rfl (lv_at hl 1 rfl) ?_
  refine hp_calli (hp_runV (b := b) (As := [.int x]) (rest := []) hx hb hml hown (cn_Md_sentOne l D B M_1 b ad 0 of sl ct cl σ x hm hR hinv hac hsei) (hp_cwV 1 hts kw_141 kw_143 kw_144 kw_137 kw_142 rfl rfl (by decide +kernel) ⟨(Nat.le_of_ble_eq_true rfl), (Nat.le_of_ble_eq_true rfl)⟩) hK hH hm.1 rfl rfl hl.1 rfl (Nat.le_of_ble_eq_true rfl) d_Md_hasSent_7 ⟨(Nat.le_of_ble_eq_true rfl), (Nat.le_of_ble_eq_true rfl)⟩) hS (fun r_2 M_3 H locs w_4 hH hS => ?_)
  obtain ⟨eM, eR⟩ := w_4
  rw [eM] at hH
  rw [eR]
  exact hp_zret hx hb hr hlocks hQ hK hH hS (Nat.le_of_ble_eq_true rfl) (Nat.le_of_ble_eq_true rfl) (an_hasSent_z σ x) d_Md_hasSent_10 ⟨hm, hf, rfl⟩
abbrev rm_Md_sent : Room := { frames := 2, cells := 0, slots := 0, locals := 41 }
set_option maxHeartbeats 4000000 in
set_option maxRecDepth 100000 in
theorem cn_Md_sent (l : Launch) (D : va_G) (B : Nat) (M : hp_M) (b : Nat) (ad : Nat → Nat) (th of sl : Int32) (ct : Nat → Nat → Int32) (cl : Nat → Nat → Int64) (σ : sg_S) (x : Int32) (hm : md_H D M b ad th of sl ct cl) (hR : mo_R σ (fun _ => sg_sl σ - 1) of sl ct cl) (hinv : sg_inv σ) (hac : sg_ac σ ≤ 512) (hsei : sg_sei σ) : Met l y_Md_sent (wd_c y_Md_sent b_Md_sent 2 (some .int)) rm_Md_sent (va_Pc [.ref b, .int x] (hp_C D B M)) (va_Qi (fun (r : Int32) (M1 : hp_M) => md_H D M1 b ad 0 of sl ct cl ∧ md_fr b ad M M1 ∧ r = an_sent σ x) (hp_C D B) (hp_ub B)) 0 0 (hp_ub B) := by
  rcases sg_lat_or σ x with hl2 | ⟨k, d, hk, rfl, hix, hse, hl2⟩
  · refine hp_met (by decide) (Nat.le_of_ble_eq_true rfl) ?_
    intro p e s m args below meth cd ls Q hQ hx hb hr hts hown hlocks hnm hml hK hH hS hB hl
    replace hl : lv_has ls 2 [(0, .ref b), (1, .int x)] := hl
    have hf : md_fr b ad M M := md_fr_rf
    refine lv_aload_n hx hb d_Md_sent_0 rfl (lv_at hl 0 rfl) ?_
    refine lv_iconst (v := 0) hx hb d_Md_sent_1 (by decide) ?_
    refine hp_put hx hb hts iw_Md t_Md t_Md_ok n_Md hown hK hH hS hB hm.1 rfl 0 (by decide) (hts _ kw_134) rfl  (v := .int 0) rfl rfl (Nat.le_of_ble_eq_true rfl) (fs' := [.int 0, .ref (ad 0), .ref (ad 1), .ref (ad 2), .ref (ad 3), .ref (ad 4), .ref (ad 5), .ref (ad 6), .ref (ad 7), .ref (ad 8), .ref (ad 9), .ref (ad 10), .ref (ad 11), .ref (ad 12), .ref (ad 13), .int of, .int sl, .ref (ad 14), .ref (ad 15), .ref (ad 16)]) rfl d_Md_sent_2 (fun M_1 H locs eM_1 hH hS => ?_)
    have hm := md_pb hm (th' := 0) (of' := of) (sl' := sl) eM_1
    have hf := md_fr_b hf eM_1
    refine lv_aload_n hx hb d_Md_sent_5 rfl (lv_at hl 0 rfl) ?_
    refine lv_iload_n hx hb d_Md_sent_6 rfl (lv_at hl 1 rfl) ?_
    refine hp_calli (hp_runV (b := b) (As := [.int x]) (rest := []) hx hb hml hown (cn_Md_sentOne l D B M_1 b ad 0 of sl ct cl σ x hm hR hinv hac hsei) (hp_cwV 1 hts kw_141 kw_143 kw_144 kw_137 kw_142 rfl rfl (by decide +kernel) ⟨(Nat.le_of_ble_eq_true rfl), (Nat.le_of_ble_eq_true rfl)⟩) hK hH hm.1 rfl rfl hl.1 rfl (Nat.le_of_ble_eq_true rfl) d_Md_sent_7 ⟨(Nat.le_of_ble_eq_true rfl), (Nat.le_of_ble_eq_true rfl)⟩) hS (fun r_2 M_3 H locs w_4 hH hS => ?_)
    obtain ⟨eM, eR⟩ := w_4
    rw [eM] at hH
    rw [eR]
    refine lv_if_eq (tgt := 22) hx hb d_Md_sent_10 (by decide) (fun c_5 => ?_) (fun c_5 => absurd (an_hasSent_n hl2).symm c_5)
    refine lv_iconst (v := 0) hx hb d_Md_sent_22 (by decide) ?_
    exact hp_iret hx hb hr hlocks hQ hK hH hS (Nat.le_of_ble_eq_true rfl) (Nat.le_of_ble_eq_true rfl) d_Md_sent_23 ⟨hm, hf, (an_sent_n hl2)⟩
  · refine hp_met (by decide) (Nat.le_of_ble_eq_true rfl) ?_
    intro p e s m args below meth cd ls Q hQ hx hb hr hts hown hlocks hnm hml hK hH hS hB hl
    replace hl : lv_has ls 2 [(0, .ref b), (1, .int (nI k))] := hl
    have hf : md_fr b ad M M := md_fr_rf
    refine lv_aload_n hx hb d_Md_sent_0 rfl (lv_at hl 0 rfl) ?_
    refine lv_iconst (v := 0) hx hb d_Md_sent_1 (by decide) ?_
    refine hp_put hx hb hts iw_Md t_Md t_Md_ok n_Md hown hK hH hS hB hm.1 rfl 0 (by decide) (hts _ kw_134) rfl  (v := .int 0) rfl rfl (Nat.le_of_ble_eq_true rfl) (fs' := [.int 0, .ref (ad 0), .ref (ad 1), .ref (ad 2), .ref (ad 3), .ref (ad 4), .ref (ad 5), .ref (ad 6), .ref (ad 7), .ref (ad 8), .ref (ad 9), .ref (ad 10), .ref (ad 11), .ref (ad 12), .ref (ad 13), .int of, .int sl, .ref (ad 14), .ref (ad 15), .ref (ad 16)]) rfl d_Md_sent_2 (fun M_1 H locs eM_1 hH hS => ?_)
    have hm := md_pb hm (th' := 0) (of' := of) (sl' := sl) eM_1
    have hf := md_fr_b hf eM_1
    refine lv_aload_n hx hb d_Md_sent_5 rfl (lv_at hl 0 rfl) ?_
    refine lv_iload_n hx hb d_Md_sent_6 rfl (lv_at hl 1 rfl) ?_
    refine hp_calli (hp_runV (b := b) (As := [.int (nI k)]) (rest := []) hx hb hml hown (cn_Md_sentOne l D B M_1 b ad 0 of sl ct cl σ (nI k) hm hR hinv hac hsei) (hp_cwV 1 hts kw_141 kw_143 kw_144 kw_137 kw_142 rfl rfl (by decide +kernel) ⟨(Nat.le_of_ble_eq_true rfl), (Nat.le_of_ble_eq_true rfl)⟩) hK hH hm.1 rfl rfl hl.1 rfl (Nat.le_of_ble_eq_true rfl) d_Md_sent_7 ⟨(Nat.le_of_ble_eq_true rfl), (Nat.le_of_ble_eq_true rfl)⟩) hS (fun r_2 M_3 H locs w_4 hH hS => ?_)
    obtain ⟨eM, eR⟩ := w_4
    rw [eM] at hH
    rw [eR]
    refine lv_if_eq (tgt := 22) hx hb d_Md_sent_10 (by decide) (fun c_5 => absurd c_5 (by rw [← an_hasSent_s hl2]; decide)) (fun c_5 => ?_)
    refine lv_aload_n hx hb d_Md_sent_13 rfl (lv_at hl 0 rfl) ?_
    refine hp_get hx hb hts iw_Md hown hK hH hm.1 rfl 18 (by decide) (hts _ kw_145) (v := .ref (ad 15)) rfl d_Md_sent_14 ?_
    refine lv_iload_n hx hb d_Md_sent_17 rfl (lv_at hl 1 rfl) ?_
    refine hp_iald hx hb hK hH (show M_1 (ad 15) = some (hp_ai D 8 (ct 15)) from hm.2.1 15 (by decide) (by decide) (by decide)) k rfl hk (by decide) (v := (ct 15 k)) rfl d_Md_sent_18 ?_
    refine lv_goto (tgt := 23) hx hb d_Md_sent_19 (by decide) ?_
    exact hp_iret hx hb hr hlocks hQ hK hH hS (Nat.le_of_ble_eq_true rfl) (Nat.le_of_ble_eq_true rfl) d_Md_sent_23 ⟨hm, hf, (by rw [← an_sent_s hl2]; exact (mo_seq ((hR.2.2.1 k hk).2.2.2.2) hse).2.1)⟩
abbrev rm_Md_sentFrom : Room := { frames := 2, cells := 0, slots := 0, locals := 41 }
set_option maxHeartbeats 4000000 in
set_option maxRecDepth 100000 in
theorem cn_Md_sentFrom (l : Launch) (D : va_G) (B : Nat) (M : hp_M) (b : Nat) (ad : Nat → Nat) (th of sl : Int32) (ct : Nat → Nat → Int32) (cl : Nat → Nat → Int64) (σ : sg_S) (x : Int32) (hm : md_H D M b ad th of sl ct cl) (hR : mo_R σ (fun _ => sg_sl σ - 1) of sl ct cl) (hinv : sg_inv σ) (hac : sg_ac σ ≤ 512) (hsei : sg_sei σ) : Met l y_Md_sentFrom (wd_c y_Md_sentFrom b_Md_sentFrom 2 (some .int)) rm_Md_sentFrom (va_Pc [.ref b, .int x] (hp_C D B M)) (va_Qi (fun (r : Int32) (M1 : hp_M) => md_H D M1 b ad 0 of sl ct cl ∧ md_fr b ad M M1 ∧ r = an_sentFrom σ x) (hp_C D B) (hp_ub B)) 0 0 (hp_ub B) := by
  rcases sg_lat_or σ x with hl2 | ⟨k, d, hk, rfl, hix, hse, hl2⟩
  · refine hp_met (by decide) (Nat.le_of_ble_eq_true rfl) ?_
    intro p e s m args below meth cd ls Q hQ hx hb hr hts hown hlocks hnm hml hK hH hS hB hl
    replace hl : lv_has ls 2 [(0, .ref b), (1, .int x)] := hl
    have hf : md_fr b ad M M := md_fr_rf
    refine lv_aload_n hx hb d_Md_sentFrom_0 rfl (lv_at hl 0 rfl) ?_
    refine lv_iconst (v := 0) hx hb d_Md_sentFrom_1 (by decide) ?_
    refine hp_put hx hb hts iw_Md t_Md t_Md_ok n_Md hown hK hH hS hB hm.1 rfl 0 (by decide) (hts _ kw_134) rfl  (v := .int 0) rfl rfl (Nat.le_of_ble_eq_true rfl) (fs' := [.int 0, .ref (ad 0), .ref (ad 1), .ref (ad 2), .ref (ad 3), .ref (ad 4), .ref (ad 5), .ref (ad 6), .ref (ad 7), .ref (ad 8), .ref (ad 9), .ref (ad 10), .ref (ad 11), .ref (ad 12), .ref (ad 13), .int of, .int sl, .ref (ad 14), .ref (ad 15), .ref (ad 16)]) rfl d_Md_sentFrom_2 (fun M_1 H locs eM_1 hH hS => ?_)
    have hm := md_pb hm (th' := 0) (of' := of) (sl' := sl) eM_1
    have hf := md_fr_b hf eM_1
    refine lv_aload_n hx hb d_Md_sentFrom_5 rfl (lv_at hl 0 rfl) ?_
    refine lv_iload_n hx hb d_Md_sentFrom_6 rfl (lv_at hl 1 rfl) ?_
    refine hp_calli (hp_runV (b := b) (As := [.int x]) (rest := []) hx hb hml hown (cn_Md_sentOne l D B M_1 b ad 0 of sl ct cl σ x hm hR hinv hac hsei) (hp_cwV 1 hts kw_141 kw_143 kw_144 kw_137 kw_142 rfl rfl (by decide +kernel) ⟨(Nat.le_of_ble_eq_true rfl), (Nat.le_of_ble_eq_true rfl)⟩) hK hH hm.1 rfl rfl hl.1 rfl (Nat.le_of_ble_eq_true rfl) d_Md_sentFrom_7 ⟨(Nat.le_of_ble_eq_true rfl), (Nat.le_of_ble_eq_true rfl)⟩) hS (fun r_2 M_3 H locs w_4 hH hS => ?_)
    obtain ⟨eM, eR⟩ := w_4
    rw [eM] at hH
    rw [eR]
    refine lv_if_eq (tgt := 22) hx hb d_Md_sentFrom_10 (by decide) (fun c_5 => ?_) (fun c_5 => absurd (an_hasSent_n hl2).symm c_5)
    refine lv_iconst (v := (-1)) hx hb d_Md_sentFrom_22 (by decide) ?_
    exact hp_iret hx hb hr hlocks hQ hK hH hS (Nat.le_of_ble_eq_true rfl) (Nat.le_of_ble_eq_true rfl) d_Md_sentFrom_23 ⟨hm, hf, (an_sentFrom_n hl2)⟩
  · refine hp_met (by decide) (Nat.le_of_ble_eq_true rfl) ?_
    intro p e s m args below meth cd ls Q hQ hx hb hr hts hown hlocks hnm hml hK hH hS hB hl
    replace hl : lv_has ls 2 [(0, .ref b), (1, .int (nI k))] := hl
    have hf : md_fr b ad M M := md_fr_rf
    refine lv_aload_n hx hb d_Md_sentFrom_0 rfl (lv_at hl 0 rfl) ?_
    refine lv_iconst (v := 0) hx hb d_Md_sentFrom_1 (by decide) ?_
    refine hp_put hx hb hts iw_Md t_Md t_Md_ok n_Md hown hK hH hS hB hm.1 rfl 0 (by decide) (hts _ kw_134) rfl  (v := .int 0) rfl rfl (Nat.le_of_ble_eq_true rfl) (fs' := [.int 0, .ref (ad 0), .ref (ad 1), .ref (ad 2), .ref (ad 3), .ref (ad 4), .ref (ad 5), .ref (ad 6), .ref (ad 7), .ref (ad 8), .ref (ad 9), .ref (ad 10), .ref (ad 11), .ref (ad 12), .ref (ad 13), .int of, .int sl, .ref (ad 14), .ref (ad 15), .ref (ad 16)]) rfl d_Md_sentFrom_2 (fun M_1 H locs eM_1 hH hS => ?_)
    have hm := md_pb hm (th' := 0) (of' := of) (sl' := sl) eM_1
    have hf := md_fr_b hf eM_1
    refine lv_aload_n hx hb d_Md_sentFrom_5 rfl (lv_at hl 0 rfl) ?_
    refine lv_iload_n hx hb d_Md_sentFrom_6 rfl (lv_at hl 1 rfl) ?_
    refine hp_calli (hp_runV (b := b) (As := [.int (nI k)]) (rest := []) hx hb hml hown (cn_Md_sentOne l D B M_1 b ad 0 of sl ct cl σ (nI k) hm hR hinv hac hsei) (hp_cwV 1 hts kw_141 kw_143 kw_144 kw_137 kw_142 rfl rfl (by decide +kernel) ⟨(Nat.le_of_ble_eq_true rfl), (Nat.le_of_ble_eq_true rfl)⟩) hK hH hm.1 rfl rfl hl.1 rfl (Nat.le_of_ble_eq_true rfl) d_Md_sentFrom_7 ⟨(Nat.le_of_ble_eq_true rfl), (Nat.le_of_ble_eq_true rfl)⟩) hS (fun r_2 M_3 H locs w_4 hH hS => ?_)
    obtain ⟨eM, eR⟩ := w_4
    rw [eM] at hH
    rw [eR]
    refine lv_if_eq (tgt := 22) hx hb d_Md_sentFrom_10 (by decide) (fun c_5 => absurd c_5 (by rw [← an_hasSent_s hl2]; decide)) (fun c_5 => ?_)
    refine lv_aload_n hx hb d_Md_sentFrom_13 rfl (lv_at hl 0 rfl) ?_
    refine hp_get hx hb hts iw_Md hown hK hH hm.1 rfl 17 (by decide) (hts _ kw_140) (v := .ref (ad 14)) rfl d_Md_sentFrom_14 ?_
    refine lv_iload_n hx hb d_Md_sentFrom_17 rfl (lv_at hl 1 rfl) ?_
    refine hp_iald hx hb hK hH (show M_1 (ad 14) = some (hp_ai D 8 (ct 14)) from hm.2.1 14 (by decide) (by decide) (by decide)) k rfl hk (by decide) (v := (ct 14 k)) rfl d_Md_sentFrom_18 ?_
    refine lv_goto (tgt := 23) hx hb d_Md_sentFrom_19 (by decide) ?_
    exact hp_iret hx hb hr hlocks hQ hK hH hS (Nat.le_of_ble_eq_true rfl) (Nat.le_of_ble_eq_true rfl) d_Md_sentFrom_23 ⟨hm, hf, (by rw [← an_sentFrom_s hl2]; exact (mo_seq ((hR.2.2.1 k hk).2.2.2.2) hse).1)⟩
abbrev rm_Md_waited : Room := { frames := 2, cells := 0, slots := 0, locals := 41 }
set_option maxHeartbeats 4000000 in
set_option maxRecDepth 100000 in
theorem cn_Md_waited (l : Launch) (D : va_G) (B : Nat) (M : hp_M) (b : Nat) (ad : Nat → Nat) (th of sl : Int32) (ct : Nat → Nat → Int32) (cl : Nat → Nat → Int64) (σ : sg_S) (x : Int32) (hm : md_H D M b ad th of sl ct cl) (hR : mo_R σ (fun _ => sg_sl σ - 1) of sl ct cl) (hinv : sg_inv σ) (hac : sg_ac σ ≤ 512) (hsei : sg_sei σ) : Met l y_Md_waited (wd_c y_Md_waited b_Md_waited 2 (some .int)) rm_Md_waited (va_Pc [.ref b, .int x] (hp_C D B M)) (va_Qi (fun (r : Int32) (M1 : hp_M) => md_H D M1 b ad 0 of sl ct cl ∧ md_fr b ad M M1 ∧ r = an_waited σ x) (hp_C D B) (hp_ub B)) 0 0 (hp_ub B) := by
  rcases sg_lat_or σ x with hl2 | ⟨k, d, hk, rfl, hix, hse, hl2⟩
  · refine hp_met (by decide) (Nat.le_of_ble_eq_true rfl) ?_
    intro p e s m args below meth cd ls Q hQ hx hb hr hts hown hlocks hnm hml hK hH hS hB hl
    replace hl : lv_has ls 2 [(0, .ref b), (1, .int x)] := hl
    have hf : md_fr b ad M M := md_fr_rf
    refine lv_aload_n hx hb d_Md_waited_0 rfl (lv_at hl 0 rfl) ?_
    refine lv_iconst (v := 0) hx hb d_Md_waited_1 (by decide) ?_
    refine hp_put hx hb hts iw_Md t_Md t_Md_ok n_Md hown hK hH hS hB hm.1 rfl 0 (by decide) (hts _ kw_134) rfl  (v := .int 0) rfl rfl (Nat.le_of_ble_eq_true rfl) (fs' := [.int 0, .ref (ad 0), .ref (ad 1), .ref (ad 2), .ref (ad 3), .ref (ad 4), .ref (ad 5), .ref (ad 6), .ref (ad 7), .ref (ad 8), .ref (ad 9), .ref (ad 10), .ref (ad 11), .ref (ad 12), .ref (ad 13), .int of, .int sl, .ref (ad 14), .ref (ad 15), .ref (ad 16)]) rfl d_Md_waited_2 (fun M_1 H locs eM_1 hH hS => ?_)
    have hm := md_pb hm (th' := 0) (of' := of) (sl' := sl) eM_1
    have hf := md_fr_b hf eM_1
    refine lv_aload_n hx hb d_Md_waited_5 rfl (lv_at hl 0 rfl) ?_
    refine lv_iload_n hx hb d_Md_waited_6 rfl (lv_at hl 1 rfl) ?_
    refine hp_calli (hp_runV (b := b) (As := [.int x]) (rest := []) hx hb hml hown (cn_Md_sentOne l D B M_1 b ad 0 of sl ct cl σ x hm hR hinv hac hsei) (hp_cwV 1 hts kw_141 kw_143 kw_144 kw_137 kw_142 rfl rfl (by decide +kernel) ⟨(Nat.le_of_ble_eq_true rfl), (Nat.le_of_ble_eq_true rfl)⟩) hK hH hm.1 rfl rfl hl.1 rfl (Nat.le_of_ble_eq_true rfl) d_Md_waited_7 ⟨(Nat.le_of_ble_eq_true rfl), (Nat.le_of_ble_eq_true rfl)⟩) hS (fun r_2 M_3 H locs w_4 hH hS => ?_)
    obtain ⟨eM, eR⟩ := w_4
    rw [eM] at hH
    rw [eR]
    refine lv_if_eq (tgt := 22) hx hb d_Md_waited_10 (by decide) (fun c_5 => ?_) (fun c_5 => absurd (an_hasSent_n hl2).symm c_5)
    refine lv_iconst (v := (-1)) hx hb d_Md_waited_22 (by decide) ?_
    exact hp_iret hx hb hr hlocks hQ hK hH hS (Nat.le_of_ble_eq_true rfl) (Nat.le_of_ble_eq_true rfl) d_Md_waited_23 ⟨hm, hf, (an_waited_n hl2)⟩
  · refine hp_met (by decide) (Nat.le_of_ble_eq_true rfl) ?_
    intro p e s m args below meth cd ls Q hQ hx hb hr hts hown hlocks hnm hml hK hH hS hB hl
    replace hl : lv_has ls 2 [(0, .ref b), (1, .int (nI k))] := hl
    have hf : md_fr b ad M M := md_fr_rf
    refine lv_aload_n hx hb d_Md_waited_0 rfl (lv_at hl 0 rfl) ?_
    refine lv_iconst (v := 0) hx hb d_Md_waited_1 (by decide) ?_
    refine hp_put hx hb hts iw_Md t_Md t_Md_ok n_Md hown hK hH hS hB hm.1 rfl 0 (by decide) (hts _ kw_134) rfl  (v := .int 0) rfl rfl (Nat.le_of_ble_eq_true rfl) (fs' := [.int 0, .ref (ad 0), .ref (ad 1), .ref (ad 2), .ref (ad 3), .ref (ad 4), .ref (ad 5), .ref (ad 6), .ref (ad 7), .ref (ad 8), .ref (ad 9), .ref (ad 10), .ref (ad 11), .ref (ad 12), .ref (ad 13), .int of, .int sl, .ref (ad 14), .ref (ad 15), .ref (ad 16)]) rfl d_Md_waited_2 (fun M_1 H locs eM_1 hH hS => ?_)
    have hm := md_pb hm (th' := 0) (of' := of) (sl' := sl) eM_1
    have hf := md_fr_b hf eM_1
    refine lv_aload_n hx hb d_Md_waited_5 rfl (lv_at hl 0 rfl) ?_
    refine lv_iload_n hx hb d_Md_waited_6 rfl (lv_at hl 1 rfl) ?_
    refine hp_calli (hp_runV (b := b) (As := [.int (nI k)]) (rest := []) hx hb hml hown (cn_Md_sentOne l D B M_1 b ad 0 of sl ct cl σ (nI k) hm hR hinv hac hsei) (hp_cwV 1 hts kw_141 kw_143 kw_144 kw_137 kw_142 rfl rfl (by decide +kernel) ⟨(Nat.le_of_ble_eq_true rfl), (Nat.le_of_ble_eq_true rfl)⟩) hK hH hm.1 rfl rfl hl.1 rfl (Nat.le_of_ble_eq_true rfl) d_Md_waited_7 ⟨(Nat.le_of_ble_eq_true rfl), (Nat.le_of_ble_eq_true rfl)⟩) hS (fun r_2 M_3 H locs w_4 hH hS => ?_)
    obtain ⟨eM, eR⟩ := w_4
    rw [eM] at hH
    rw [eR]
    refine lv_if_eq (tgt := 22) hx hb d_Md_waited_10 (by decide) (fun c_5 => absurd c_5 (by rw [← an_hasSent_s hl2]; decide)) (fun c_5 => ?_)
    refine lv_aload_n hx hb d_Md_waited_13 rfl (lv_at hl 0 rfl) ?_
    refine hp_get hx hb hts iw_Md hown hK hH hm.1 rfl 19 (by decide) (hts _ kw_146) (v := .ref (ad 16)) rfl d_Md_waited_14 ?_
    refine lv_iload_n hx hb d_Md_waited_17 rfl (lv_at hl 1 rfl) ?_
    refine hp_iald hx hb hK hH (show M_1 (ad 16) = some (hp_ai D 8 (ct 16)) from hm.2.1 16 (by decide) (by decide) (by decide)) k rfl hk (by decide) (v := (ct 16 k)) rfl d_Md_waited_18 ?_
    refine lv_goto (tgt := 23) hx hb d_Md_waited_19 (by decide) ?_
    exact hp_iret hx hb hr hlocks hQ hK hH hS (Nat.le_of_ble_eq_true rfl) (Nat.le_of_ble_eq_true rfl) d_Md_waited_23 ⟨hm, hf, (by rw [← an_waited_s hl2]; exact (mo_seq ((hR.2.2.1 k hk).2.2.2.2) hse).2.2)⟩
abbrev rm_Md_waiting : Room := { frames := 1, cells := 0, slots := 0, locals := 20 }
set_option maxHeartbeats 4000000 in
set_option maxRecDepth 100000 in
theorem cn_Md_waiting (l : Launch) (D : va_G) (B : Nat) (M : hp_M) (b : Nat) (ad : Nat → Nat) (th of sl : Int32) (ct : Nat → Nat → Int32) (cl : Nat → Nat → Int64) (σ : sg_S) (x : Int32) (hm : md_H D M b ad th of sl ct cl) (hR : mo_R σ (fun _ => sg_sl σ - 1) of sl ct cl) (hinv : sg_inv σ) (hac : sg_ac σ ≤ 512) (hsei : sg_sei σ) : Met l y_Md_waiting (wd_c y_Md_waiting b_Md_waiting 2 (some .int)) rm_Md_waiting (va_Pc [.ref b, .int x] (hp_C D B M)) (va_Qi (fun (r : Int32) (M1 : hp_M) => md_H D M1 b ad 0 of sl ct cl ∧ md_fr b ad M M1 ∧ r = an_waiting σ x) (hp_C D B) (hp_ub B)) 0 0 (hp_ub B) := by
  rcases sg_ix_or x with ⟨hix, _⟩ | ⟨k, hk, rfl, hix⟩
  · refine hp_met (by decide) (Nat.le_of_ble_eq_true rfl) ?_
    intro p e s m args below meth cd ls Q hQ hx hb hr hts hown hlocks hnm hml hK hH hS hB hl
    replace hl : lv_has ls 2 [(0, .ref b), (1, .int x)] := hl
    have hf : md_fr b ad M M := md_fr_rf
    refine lv_aload_n hx hb d_Md_waiting_0 rfl (lv_at hl 0 rfl) ?_
    refine lv_iconst (v := 0) hx hb d_Md_waiting_1 (by decide) ?_
    refine hp_put hx hb hts iw_Md t_Md t_Md_ok n_Md hown hK hH hS hB hm.1 rfl 0 (by decide) (hts _ kw_134) rfl  (v := .int 0) rfl rfl (Nat.le_of_ble_eq_true rfl) (fs' := [.int 0, .ref (ad 0), .ref (ad 1), .ref (ad 2), .ref (ad 3), .ref (ad 4), .ref (ad 5), .ref (ad 6), .ref (ad 7), .ref (ad 8), .ref (ad 9), .ref (ad 10), .ref (ad 11), .ref (ad 12), .ref (ad 13), .int of, .int sl, .ref (ad 14), .ref (ad 15), .ref (ad 16)]) rfl d_Md_waiting_2 (fun M_1 H locs eM_1 hH hS => ?_)
    have hm := md_pb hm (th' := 0) (of' := of) (sl' := sl) eM_1
    have hf := md_fr_b hf eM_1
    refine lv_iload_n hx hb d_Md_waiting_5 rfl (lv_at hl 1 rfl) ?_
    refine hp_calli (hp_runS (As := [.int x]) (rest := []) hx hb hml hown (cn_Md_isOne l D B M_1 x) (hp_cwS 1 hts kw_136 kw_139 kw_137 kw_138 rfl rfl (by decide +kernel) ⟨(Nat.le_of_ble_eq_true rfl), (Nat.le_of_ble_eq_true rfl)⟩) hK hH rfl hl.1 rfl (Nat.le_of_ble_eq_true rfl) d_Md_waiting_6 ⟨(Nat.le_of_ble_eq_true rfl), (Nat.le_of_ble_eq_true rfl)⟩) hS (fun r_2 M_3 H locs w_4 hH hS => ?_)
    obtain ⟨eM, eR⟩ := w_4
    rw [eM] at hH
    rw [eR]
    refine lv_if_eq (tgt := 21) hx hb d_Md_waiting_9 (by decide) (fun c_5 => ?_) (fun c_5 => absurd (sg_port_none hix) c_5)
    refine lv_iconst (v := (-1)) hx hb d_Md_waiting_21 (by decide) ?_
    exact hp_iret hx hb hr hlocks hQ hK hH hS (Nat.le_of_ble_eq_true rfl) (Nat.le_of_ble_eq_true rfl) d_Md_waiting_22 ⟨hm, hf, (an_waiting_n hix)⟩
  · refine hp_met (by decide) (Nat.le_of_ble_eq_true rfl) ?_
    intro p e s m args below meth cd ls Q hQ hx hb hr hts hown hlocks hnm hml hK hH hS hB hl
    replace hl : lv_has ls 2 [(0, .ref b), (1, .int (nI k))] := hl
    have hf : md_fr b ad M M := md_fr_rf
    refine lv_aload_n hx hb d_Md_waiting_0 rfl (lv_at hl 0 rfl) ?_
    refine lv_iconst (v := 0) hx hb d_Md_waiting_1 (by decide) ?_
    refine hp_put hx hb hts iw_Md t_Md t_Md_ok n_Md hown hK hH hS hB hm.1 rfl 0 (by decide) (hts _ kw_134) rfl  (v := .int 0) rfl rfl (Nat.le_of_ble_eq_true rfl) (fs' := [.int 0, .ref (ad 0), .ref (ad 1), .ref (ad 2), .ref (ad 3), .ref (ad 4), .ref (ad 5), .ref (ad 6), .ref (ad 7), .ref (ad 8), .ref (ad 9), .ref (ad 10), .ref (ad 11), .ref (ad 12), .ref (ad 13), .int of, .int sl, .ref (ad 14), .ref (ad 15), .ref (ad 16)]) rfl d_Md_waiting_2 (fun M_1 H locs eM_1 hH hS => ?_)
    have hm := md_pb hm (th' := 0) (of' := of) (sl' := sl) eM_1
    have hf := md_fr_b hf eM_1
    refine lv_iload_n hx hb d_Md_waiting_5 rfl (lv_at hl 1 rfl) ?_
    refine hp_calli (hp_runS (As := [.int (nI k)]) (rest := []) hx hb hml hown (cn_Md_isOne l D B M_1 (nI k)) (hp_cwS 1 hts kw_136 kw_139 kw_137 kw_138 rfl rfl (by decide +kernel) ⟨(Nat.le_of_ble_eq_true rfl), (Nat.le_of_ble_eq_true rfl)⟩) hK hH rfl hl.1 rfl (Nat.le_of_ble_eq_true rfl) d_Md_waiting_6 ⟨(Nat.le_of_ble_eq_true rfl), (Nat.le_of_ble_eq_true rfl)⟩) hS (fun r_2 M_3 H locs w_4 hH hS => ?_)
    obtain ⟨eM, eR⟩ := w_4
    rw [eM] at hH
    rw [eR]
    refine lv_if_eq (tgt := 21) hx hb d_Md_waiting_9 (by decide) (fun c_5 => absurd c_5 (by rw [sg_port_some hix]; decide)) (fun c_5 => ?_)
    refine lv_aload_n hx hb d_Md_waiting_12 rfl (lv_at hl 0 rfl) ?_
    refine hp_get hx hb hts iw_Md hown hK hH hm.1 rfl 1 (by decide) (hts _ kw_147) (v := .ref (ad 0)) rfl d_Md_waiting_13 ?_
    refine lv_iload_n hx hb d_Md_waiting_16 rfl (lv_at hl 1 rfl) ?_
    refine hp_iald hx hb hK hH (show M_1 (ad 0) = some (hp_ai D 8 (ct 0)) from hm.2.1 0 (by decide) (by decide) (by decide)) k rfl hk (by decide) (v := (ct 0 k)) rfl d_Md_waiting_17 ?_
    refine lv_goto (tgt := 22) hx hb d_Md_waiting_18 (by decide) ?_
    exact hp_iret hx hb hr hlocks hQ hK hH hS (Nat.le_of_ble_eq_true rfl) (Nat.le_of_ble_eq_true rfl) d_Md_waiting_22 ⟨hm, hf, (by rw [← an_waiting_s hix]; exact (hR.2.2.1 k hk).1)⟩
abbrev rm_Md_isCell : Room := { frames := 1, cells := 0, slots := 0, locals := 20 }
set_option maxHeartbeats 4000000 in
set_option maxRecDepth 100000 in
theorem cn_Md_isCell (l : Launch) (D : va_G) (B : Nat) (M : hp_M) (b : Nat) (ad : Nat → Nat) (th of sl : Int32) (ct : Nat → Nat → Int32) (cl : Nat → Nat → Int64) (σ : sg_S) (x k : Int32) (hm : md_H D M b ad th of sl ct cl) (hR : mo_R σ (fun _ => sg_sl σ - 1) of sl ct cl) (hinv : sg_inv σ) (hac : sg_ac σ ≤ 512) (hsei : sg_sei σ) : Met l y_Md_isCell (wd_c y_Md_isCell b_Md_isCell 3 (some .boolean)) rm_Md_isCell (va_Pc [.ref b, .int x, .int k] (hp_C D B M)) (va_Qi (fun (r : Int32) (M1 : hp_M) => M1 = M ∧ r = an_isCell σ x k) (hp_C D B) (hp_ub B)) 0 0 (hp_ub B) := by
  rcases sg_kth_or σ x k with hix | ⟨o, hk, rfl, hix, hneg⟩ | ⟨o, j, hk, rfl, hix, hj, rfl, hle⟩ | ⟨o, j, hk, rfl, hix, hj, rfl, hlt⟩
  · refine hp_met (by decide) (Nat.le_of_ble_eq_true rfl) ?_
    intro p e s m args below meth cd ls Q hQ hx hb hr hts hown hlocks hnm hml hK hH hS hB hl
    replace hl : lv_has ls 3 [(0, .ref b), (1, .int x), (2, .int k)] := hl
    refine lv_iload_n hx hb d_Md_isCell_0 rfl (lv_at hl 1 rfl) ?_
    refine hp_calli (hp_runS (As := [.int x]) (rest := []) hx hb hml hown (cn_Md_isOne l D B M x) (hp_cwS 1 hts kw_136 kw_139 kw_137 kw_138 rfl rfl (by decide +kernel) ⟨(Nat.le_of_ble_eq_true rfl), (Nat.le_of_ble_eq_true rfl)⟩) hK hH rfl hl.1 rfl (Nat.le_of_ble_eq_true rfl) d_Md_isCell_1 ⟨(Nat.le_of_ble_eq_true rfl), (Nat.le_of_ble_eq_true rfl)⟩) hS (fun r_1 M_2 H locs w_3 hH hS => ?_)
    obtain ⟨eM, eR⟩ := w_3
    rw [eM] at hH
    rw [eR]
    refine lv_if_eq (tgt := 25) hx hb d_Md_isCell_4 (by decide) (fun c_4 => ?_) (fun c_4 => absurd (sg_port_none hix) c_4)
    refine lv_iconst (v := 0) hx hb d_Md_isCell_25 (by decide) ?_
    exact hp_zret hx hb hr hlocks hQ hK hH hS (Nat.le_of_ble_eq_true rfl) (Nat.le_of_ble_eq_true rfl) rfl d_Md_isCell_26 ⟨rfl, an_isCell_n (sg_kth_n hix)⟩
  · refine hp_met (by decide) (Nat.le_of_ble_eq_true rfl) ?_
    intro p e s m args below meth cd ls Q hQ hx hb hr hts hown hlocks hnm hml hK hH hS hB hl
    replace hl : lv_has ls 3 [(0, .ref b), (1, .int (nI o)), (2, .int k)] := hl
    refine lv_iload_n hx hb d_Md_isCell_0 rfl (lv_at hl 1 rfl) ?_
    refine hp_calli (hp_runS (As := [.int (nI o)]) (rest := []) hx hb hml hown (cn_Md_isOne l D B M (nI o)) (hp_cwS 1 hts kw_136 kw_139 kw_137 kw_138 rfl rfl (by decide +kernel) ⟨(Nat.le_of_ble_eq_true rfl), (Nat.le_of_ble_eq_true rfl)⟩) hK hH rfl hl.1 rfl (Nat.le_of_ble_eq_true rfl) d_Md_isCell_1 ⟨(Nat.le_of_ble_eq_true rfl), (Nat.le_of_ble_eq_true rfl)⟩) hS (fun r_1 M_2 H locs w_3 hH hS => ?_)
    obtain ⟨eM, eR⟩ := w_3
    rw [eM] at hH
    rw [eR]
    refine lv_if_eq (tgt := 25) hx hb d_Md_isCell_4 (by decide) (fun c_4 => absurd c_4 (by rw [sg_port_some hix]; decide)) (fun c_4 => ?_)
    refine lv_iload_n hx hb d_Md_isCell_7 rfl (lv_at hl 2 rfl) ?_
    refine lv_if_lt (tgt := 25) hx hb d_Md_isCell_8 (by decide) (fun c_5 => ?_) (fun c_5 => absurd hneg c_5)
    refine lv_iconst (v := 0) hx hb d_Md_isCell_25 (by decide) ?_
    exact hp_zret hx hb hr hlocks hQ hK hH hS (Nat.le_of_ble_eq_true rfl) (Nat.le_of_ble_eq_true rfl) rfl d_Md_isCell_26 ⟨rfl, an_isCell_n (sg_kth_neg hneg)⟩
  · refine hp_met (by decide) (Nat.le_of_ble_eq_true rfl) ?_
    intro p e s m args below meth cd ls Q hQ hx hb hr hts hown hlocks hnm hml hK hH hS hB hl
    replace hl : lv_has ls 3 [(0, .ref b), (1, .int (nI o)), (2, .int (nI j))] := hl
    refine lv_iload_n hx hb d_Md_isCell_0 rfl (lv_at hl 1 rfl) ?_
    refine hp_calli (hp_runS (As := [.int (nI o)]) (rest := []) hx hb hml hown (cn_Md_isOne l D B M (nI o)) (hp_cwS 1 hts kw_136 kw_139 kw_137 kw_138 rfl rfl (by decide +kernel) ⟨(Nat.le_of_ble_eq_true rfl), (Nat.le_of_ble_eq_true rfl)⟩) hK hH rfl hl.1 rfl (Nat.le_of_ble_eq_true rfl) d_Md_isCell_1 ⟨(Nat.le_of_ble_eq_true rfl), (Nat.le_of_ble_eq_true rfl)⟩) hS (fun r_1 M_2 H locs w_3 hH hS => ?_)
    obtain ⟨eM, eR⟩ := w_3
    rw [eM] at hH
    rw [eR]
    refine lv_if_eq (tgt := 25) hx hb d_Md_isCell_4 (by decide) (fun c_4 => absurd c_4 (by rw [sg_port_some hix]; decide)) (fun c_4 => ?_)
    refine lv_iload_n hx hb d_Md_isCell_7 rfl (lv_at hl 2 rfl) ?_
    refine lv_if_lt (tgt := 25) hx hb d_Md_isCell_8 (by decide) (fun c_5 => absurd c_5 (nI_pos hj)) (fun c_5 => ?_)
    refine lv_iload_n hx hb d_Md_isCell_11 rfl (lv_at hl 2 rfl) ?_
    refine lv_aload_n hx hb d_Md_isCell_12 rfl (lv_at hl 0 rfl) ?_
    refine hp_get hx hb hts iw_Md hown hK hH hm.1 rfl 1 (by decide) (hts _ kw_147) (v := .ref (ad 0)) rfl d_Md_isCell_13 ?_
    refine lv_iload_n hx hb d_Md_isCell_16 rfl (lv_at hl 1 rfl) ?_
    refine hp_iald hx hb hK hH (show M (ad 0) = some (hp_ai D 8 (ct 0)) from hm.2.1 0 (by decide) (by decide) (by decide)) o rfl hk (by decide) (v := (ct 0 o)) rfl d_Md_isCell_17 ?_
    refine lv_icmp_ge (tgt := 25) hx hb d_Md_isCell_18 (by decide) (fun c_6 => ?_) (fun c_6 => absurd (by rw [(hR.2.2.1 o hk).1]; exact nI_le hle hj) c_6)
    refine lv_iconst (v := 0) hx hb d_Md_isCell_25 (by decide) ?_
    exact hp_zret hx hb hr hlocks hQ hK hH hS (Nat.le_of_ble_eq_true rfl) (Nat.le_of_ble_eq_true rfl) rfl d_Md_isCell_26 ⟨rfl, an_isCell_n ((sg_kth_s hix hj).trans (List.getElem?_eq_none hle))⟩
  · refine hp_met (by decide) (Nat.le_of_ble_eq_true rfl) ?_
    intro p e s m args below meth cd ls Q hQ hx hb hr hts hown hlocks hnm hml hK hH hS hB hl
    replace hl : lv_has ls 3 [(0, .ref b), (1, .int (nI o)), (2, .int (nI j))] := hl
    refine lv_iload_n hx hb d_Md_isCell_0 rfl (lv_at hl 1 rfl) ?_
    refine hp_calli (hp_runS (As := [.int (nI o)]) (rest := []) hx hb hml hown (cn_Md_isOne l D B M (nI o)) (hp_cwS 1 hts kw_136 kw_139 kw_137 kw_138 rfl rfl (by decide +kernel) ⟨(Nat.le_of_ble_eq_true rfl), (Nat.le_of_ble_eq_true rfl)⟩) hK hH rfl hl.1 rfl (Nat.le_of_ble_eq_true rfl) d_Md_isCell_1 ⟨(Nat.le_of_ble_eq_true rfl), (Nat.le_of_ble_eq_true rfl)⟩) hS (fun r_1 M_2 H locs w_3 hH hS => ?_)
    obtain ⟨eM, eR⟩ := w_3
    rw [eM] at hH
    rw [eR]
    refine lv_if_eq (tgt := 25) hx hb d_Md_isCell_4 (by decide) (fun c_4 => absurd c_4 (by rw [sg_port_some hix]; decide)) (fun c_4 => ?_)
    refine lv_iload_n hx hb d_Md_isCell_7 rfl (lv_at hl 2 rfl) ?_
    refine lv_if_lt (tgt := 25) hx hb d_Md_isCell_8 (by decide) (fun c_5 => absurd c_5 (nI_pos hj)) (fun c_5 => ?_)
    refine lv_iload_n hx hb d_Md_isCell_11 rfl (lv_at hl 2 rfl) ?_
    refine lv_aload_n hx hb d_Md_isCell_12 rfl (lv_at hl 0 rfl) ?_
    refine hp_get hx hb hts iw_Md hown hK hH hm.1 rfl 1 (by decide) (hts _ kw_147) (v := .ref (ad 0)) rfl d_Md_isCell_13 ?_
    refine lv_iload_n hx hb d_Md_isCell_16 rfl (lv_at hl 1 rfl) ?_
    refine hp_iald hx hb hK hH (show M (ad 0) = some (hp_ai D 8 (ct 0)) from hm.2.1 0 (by decide) (by decide) (by decide)) o rfl hk (by decide) (v := (ct 0 o)) rfl d_Md_isCell_17 ?_
    refine lv_icmp_ge (tgt := 25) hx hb d_Md_isCell_18 (by decide) (fun c_6 => absurd c_6 (by rw [(hR.2.2.1 o hk).1]; have := sg_len_le hinv hk; exact nI_ge hlt (by omega))) (fun c_6 => ?_)
    refine lv_iconst (v := 1) hx hb d_Md_isCell_21 (by decide) ?_
    refine lv_goto (tgt := 26) hx hb d_Md_isCell_22 (by decide) ?_
    exact hp_zret hx hb hr hlocks hQ hK hH hS (Nat.le_of_ble_eq_true rfl) (Nat.le_of_ble_eq_true rfl) rfl d_Md_isCell_26 ⟨rfl, an_isCell_s ((sg_kth_s hix hj).trans (List.getElem?_eq_getElem hlt))⟩
abbrev rm_Md_first : Room := { frames := 2, cells := 0, slots := 0, locals := 42 }
set_option maxHeartbeats 4000000 in
set_option maxRecDepth 100000 in
theorem cn_Md_first (l : Launch) (D : va_G) (B : Nat) (M : hp_M) (b : Nat) (ad : Nat → Nat) (th of sl : Int32) (ct : Nat → Nat → Int32) (cl : Nat → Nat → Int64) (σ : sg_S) (x k : Int32) (hm : md_H D M b ad th of sl ct cl) (hR : mo_R σ (fun _ => sg_sl σ - 1) of sl ct cl) (hinv : sg_inv σ) (hac : sg_ac σ ≤ 512) (hsei : sg_sei σ) : Met l y_Md_first (wd_c y_Md_first b_Md_first 3 (some .int)) rm_Md_first (va_Pc [.ref b, .int x, .int k] (hp_C D B M)) (va_Qi (fun (r : Int32) (M1 : hp_M) => md_H D M1 b ad 0 of sl ct cl ∧ md_fr b ad M M1 ∧ r = an_first σ x k) (hp_C D B) (hp_ub B)) 0 0 (hp_ub B) := by
  rcases sg_kth_or2 σ x k with hl2 | ⟨o, j, d, ho, rfl, rfl, hj, hd, hl2⟩
  · refine hp_met (by decide) (Nat.le_of_ble_eq_true rfl) ?_
    intro p e s m args below meth cd ls Q hQ hx hb hr hts hown hlocks hnm hml hK hH hS hB hl
    replace hl : lv_has ls 3 [(0, .ref b), (1, .int x), (2, .int k)] := hl
    have hf : md_fr b ad M M := md_fr_rf
    refine lv_aload_n hx hb d_Md_first_0 rfl (lv_at hl 0 rfl) ?_
    refine lv_iconst (v := 0) hx hb d_Md_first_1 (by decide) ?_
    refine hp_put hx hb hts iw_Md t_Md t_Md_ok n_Md hown hK hH hS hB hm.1 rfl 0 (by decide) (hts _ kw_134) rfl  (v := .int 0) rfl rfl (Nat.le_of_ble_eq_true rfl) (fs' := [.int 0, .ref (ad 0), .ref (ad 1), .ref (ad 2), .ref (ad 3), .ref (ad 4), .ref (ad 5), .ref (ad 6), .ref (ad 7), .ref (ad 8), .ref (ad 9), .ref (ad 10), .ref (ad 11), .ref (ad 12), .ref (ad 13), .int of, .int sl, .ref (ad 14), .ref (ad 15), .ref (ad 16)]) rfl d_Md_first_2 (fun M_1 H locs eM_1 hH hS => ?_)
    have hm := md_pb hm (th' := 0) (of' := of) (sl' := sl) eM_1
    have hf := md_fr_b hf eM_1
    refine lv_aload_n hx hb d_Md_first_5 rfl (lv_at hl 0 rfl) ?_
    refine lv_iload_n hx hb d_Md_first_6 rfl (lv_at hl 1 rfl) ?_
    refine lv_iload_n hx hb d_Md_first_7 rfl (lv_at hl 2 rfl) ?_
    refine hp_calli (hp_runV (b := b) (As := [.int x, .int k]) (rest := []) hx hb hml hown (cn_Md_isCell l D B M_1 b ad 0 of sl ct cl σ x k hm hR hinv hac hsei) (hp_cwV 2 hts kw_148 kw_150 kw_151 kw_137 kw_149 rfl rfl (by decide +kernel) ⟨(Nat.le_of_ble_eq_true rfl), (Nat.le_of_ble_eq_true rfl)⟩) hK hH hm.1 rfl rfl hl.1 rfl (Nat.le_of_ble_eq_true rfl) d_Md_first_8 ⟨(Nat.le_of_ble_eq_true rfl), (Nat.le_of_ble_eq_true rfl)⟩) hS (fun r_2 M_3 H locs w_4 hH hS => ?_)
    obtain ⟨eM, eR⟩ := w_4
    rw [eM] at hH
    rw [eR]
    refine lv_if_eq (tgt := 29) hx hb d_Md_first_11 (by decide) (fun c_5 => ?_) (fun c_5 => absurd (an_isCell_n hl2).symm c_5)
    refine lv_iconst (v := (-1)) hx hb d_Md_first_29 (by decide) ?_
    exact hp_iret hx hb hr hlocks hQ hK hH hS (Nat.le_of_ble_eq_true rfl) (Nat.le_of_ble_eq_true rfl) d_Md_first_30 ⟨hm, hf, (an_first_n hl2)⟩
  · refine hp_met (by decide) (Nat.le_of_ble_eq_true rfl) ?_
    intro p e s m args below meth cd ls Q hQ hx hb hr hts hown hlocks hnm hml hK hH hS hB hl
    replace hl : lv_has ls 3 [(0, .ref b), (1, .int (nI o)), (2, .int (nI j))] := hl
    have hf : md_fr b ad M M := md_fr_rf
    refine lv_aload_n hx hb d_Md_first_0 rfl (lv_at hl 0 rfl) ?_
    refine lv_iconst (v := 0) hx hb d_Md_first_1 (by decide) ?_
    refine hp_put hx hb hts iw_Md t_Md t_Md_ok n_Md hown hK hH hS hB hm.1 rfl 0 (by decide) (hts _ kw_134) rfl  (v := .int 0) rfl rfl (Nat.le_of_ble_eq_true rfl) (fs' := [.int 0, .ref (ad 0), .ref (ad 1), .ref (ad 2), .ref (ad 3), .ref (ad 4), .ref (ad 5), .ref (ad 6), .ref (ad 7), .ref (ad 8), .ref (ad 9), .ref (ad 10), .ref (ad 11), .ref (ad 12), .ref (ad 13), .int of, .int sl, .ref (ad 14), .ref (ad 15), .ref (ad 16)]) rfl d_Md_first_2 (fun M_1 H locs eM_1 hH hS => ?_)
    have hm := md_pb hm (th' := 0) (of' := of) (sl' := sl) eM_1
    have hf := md_fr_b hf eM_1
    refine lv_aload_n hx hb d_Md_first_5 rfl (lv_at hl 0 rfl) ?_
    refine lv_iload_n hx hb d_Md_first_6 rfl (lv_at hl 1 rfl) ?_
    refine lv_iload_n hx hb d_Md_first_7 rfl (lv_at hl 2 rfl) ?_
    refine hp_calli (hp_runV (b := b) (As := [.int (nI o), .int (nI j)]) (rest := []) hx hb hml hown (cn_Md_isCell l D B M_1 b ad 0 of sl ct cl σ (nI o) (nI j) hm hR hinv hac hsei) (hp_cwV 2 hts kw_148 kw_150 kw_151 kw_137 kw_149 rfl rfl (by decide +kernel) ⟨(Nat.le_of_ble_eq_true rfl), (Nat.le_of_ble_eq_true rfl)⟩) hK hH hm.1 rfl rfl hl.1 rfl (Nat.le_of_ble_eq_true rfl) d_Md_first_8 ⟨(Nat.le_of_ble_eq_true rfl), (Nat.le_of_ble_eq_true rfl)⟩) hS (fun r_2 M_3 H locs w_4 hH hS => ?_)
    obtain ⟨eM, eR⟩ := w_4
    rw [eM] at hH
    rw [eR]
    refine lv_if_eq (tgt := 29) hx hb d_Md_first_11 (by decide) (fun c_5 => absurd c_5 (by rw [← an_isCell_s hl2]; decide)) (fun c_5 => ?_)
    refine lv_aload_n hx hb d_Md_first_14 rfl (lv_at hl 0 rfl) ?_
    refine hp_get hx hb hts iw_Md hown hK hH hm.1 rfl 2 (by decide) (hts _ kw_152) (v := .ref (ad 1)) rfl d_Md_first_15 ?_
    refine lv_sipush (v := 512) hx hb d_Md_first_18 (by decide) ?_
    refine lv_iload_n hx hb d_Md_first_21 rfl (lv_at hl 1 rfl) ?_
    refine lv_imul hx hb d_Md_first_22 ?_
    refine lv_iload_n hx hb d_Md_first_23 rfl (lv_at hl 2 rfl) ?_
    refine lv_iadd hx hb d_Md_first_24 ?_
    refine hp_iald hx hb hK hH (show M_1 (ad 1) = some (hp_ai D 4096 (ct 1)) from hm.2.1 1 (by decide) (by decide) (by decide)) (512 * o + j) (md_ix512 o j) (by have := sg_len_le hinv ho; omega) (by decide) (v := (ct 1 (512 * o + j))) rfl d_Md_first_25 ?_
    refine lv_goto (tgt := 30) hx hb d_Md_first_26 (by decide) ?_
    exact hp_iret hx hb hr hlocks hQ hK hH hS (Nat.le_of_ble_eq_true rfl) (Nat.le_of_ble_eq_true rfl) d_Md_first_30 ⟨hm, hf, (by rw [← an_first_s hl2]; exact (mo_rw ((hR.2.2.1 o ho).2.2.2.1 j d hd)).1)⟩
abbrev rm_Md_time : Room := { frames := 2, cells := 0, slots := 0, locals := 42 }
set_option maxHeartbeats 4000000 in
set_option maxRecDepth 100000 in
theorem cn_Md_time (l : Launch) (D : va_G) (B : Nat) (M : hp_M) (b : Nat) (ad : Nat → Nat) (th of sl : Int32) (ct : Nat → Nat → Int32) (cl : Nat → Nat → Int64) (σ : sg_S) (x k : Int32) (hm : md_H D M b ad th of sl ct cl) (hR : mo_R σ (fun _ => sg_sl σ - 1) of sl ct cl) (hinv : sg_inv σ) (hac : sg_ac σ ≤ 512) (hsei : sg_sei σ) : Met l y_Md_time (wd_c y_Md_time b_Md_time 3 (some .long)) rm_Md_time (va_Pc [.ref b, .int x, .int k] (hp_C D B M)) (va_Ql (fun (r : Int64) (M1 : hp_M) => md_H D M1 b ad 0 of sl ct cl ∧ md_fr b ad M M1 ∧ r = an_time σ x k) (hp_C D B) (hp_ub B)) 0 0 (hp_ub B) := by
  rcases sg_kth_or2 σ x k with hl2 | ⟨o, j, d, ho, rfl, rfl, hj, hd, hl2⟩
  · refine hp_met (by decide) (Nat.le_of_ble_eq_true rfl) ?_
    intro p e s m args below meth cd ls Q hQ hx hb hr hts hown hlocks hnm hml hK hH hS hB hl
    replace hl : lv_has ls 3 [(0, .ref b), (1, .int x), (2, .int k)] := hl
    have hf : md_fr b ad M M := md_fr_rf
    refine lv_aload_n hx hb d_Md_time_0 rfl (lv_at hl 0 rfl) ?_
    refine lv_iconst (v := 0) hx hb d_Md_time_1 (by decide) ?_
    refine hp_put hx hb hts iw_Md t_Md t_Md_ok n_Md hown hK hH hS hB hm.1 rfl 0 (by decide) (hts _ kw_134) rfl  (v := .int 0) rfl rfl (Nat.le_of_ble_eq_true rfl) (fs' := [.int 0, .ref (ad 0), .ref (ad 1), .ref (ad 2), .ref (ad 3), .ref (ad 4), .ref (ad 5), .ref (ad 6), .ref (ad 7), .ref (ad 8), .ref (ad 9), .ref (ad 10), .ref (ad 11), .ref (ad 12), .ref (ad 13), .int of, .int sl, .ref (ad 14), .ref (ad 15), .ref (ad 16)]) rfl d_Md_time_2 (fun M_1 H locs eM_1 hH hS => ?_)
    have hm := md_pb hm (th' := 0) (of' := of) (sl' := sl) eM_1
    have hf := md_fr_b hf eM_1
    refine lv_aload_n hx hb d_Md_time_5 rfl (lv_at hl 0 rfl) ?_
    refine lv_iload_n hx hb d_Md_time_6 rfl (lv_at hl 1 rfl) ?_
    refine lv_iload_n hx hb d_Md_time_7 rfl (lv_at hl 2 rfl) ?_
    refine hp_calli (hp_runV (b := b) (As := [.int x, .int k]) (rest := []) hx hb hml hown (cn_Md_isCell l D B M_1 b ad 0 of sl ct cl σ x k hm hR hinv hac hsei) (hp_cwV 2 hts kw_148 kw_150 kw_151 kw_137 kw_149 rfl rfl (by decide +kernel) ⟨(Nat.le_of_ble_eq_true rfl), (Nat.le_of_ble_eq_true rfl)⟩) hK hH hm.1 rfl rfl hl.1 rfl (Nat.le_of_ble_eq_true rfl) d_Md_time_8 ⟨(Nat.le_of_ble_eq_true rfl), (Nat.le_of_ble_eq_true rfl)⟩) hS (fun r_2 M_3 H locs w_4 hH hS => ?_)
    obtain ⟨eM, eR⟩ := w_4
    rw [eM] at hH
    rw [eR]
    refine lv_if_eq (tgt := 29) hx hb d_Md_time_11 (by decide) (fun c_5 => ?_) (fun c_5 => absurd (an_isCell_n hl2).symm c_5)
    refine lv_ldc2 (v := (-1)) hx hb hown (hts _ kw_153) d_Md_time_29 ?_
    exact hp_lret hx hb hr hlocks hQ hK hH hS (Nat.le_of_ble_eq_true rfl) (Nat.le_of_ble_eq_true rfl) d_Md_time_32 ⟨hm, hf, (an_time_n hl2)⟩
  · refine hp_met (by decide) (Nat.le_of_ble_eq_true rfl) ?_
    intro p e s m args below meth cd ls Q hQ hx hb hr hts hown hlocks hnm hml hK hH hS hB hl
    replace hl : lv_has ls 3 [(0, .ref b), (1, .int (nI o)), (2, .int (nI j))] := hl
    have hf : md_fr b ad M M := md_fr_rf
    refine lv_aload_n hx hb d_Md_time_0 rfl (lv_at hl 0 rfl) ?_
    refine lv_iconst (v := 0) hx hb d_Md_time_1 (by decide) ?_
    refine hp_put hx hb hts iw_Md t_Md t_Md_ok n_Md hown hK hH hS hB hm.1 rfl 0 (by decide) (hts _ kw_134) rfl  (v := .int 0) rfl rfl (Nat.le_of_ble_eq_true rfl) (fs' := [.int 0, .ref (ad 0), .ref (ad 1), .ref (ad 2), .ref (ad 3), .ref (ad 4), .ref (ad 5), .ref (ad 6), .ref (ad 7), .ref (ad 8), .ref (ad 9), .ref (ad 10), .ref (ad 11), .ref (ad 12), .ref (ad 13), .int of, .int sl, .ref (ad 14), .ref (ad 15), .ref (ad 16)]) rfl d_Md_time_2 (fun M_1 H locs eM_1 hH hS => ?_)
    have hm := md_pb hm (th' := 0) (of' := of) (sl' := sl) eM_1
    have hf := md_fr_b hf eM_1
    refine lv_aload_n hx hb d_Md_time_5 rfl (lv_at hl 0 rfl) ?_
    refine lv_iload_n hx hb d_Md_time_6 rfl (lv_at hl 1 rfl) ?_
    refine lv_iload_n hx hb d_Md_time_7 rfl (lv_at hl 2 rfl) ?_
    refine hp_calli (hp_runV (b := b) (As := [.int (nI o), .int (nI j)]) (rest := []) hx hb hml hown (cn_Md_isCell l D B M_1 b ad 0 of sl ct cl σ (nI o) (nI j) hm hR hinv hac hsei) (hp_cwV 2 hts kw_148 kw_150 kw_151 kw_137 kw_149 rfl rfl (by decide +kernel) ⟨(Nat.le_of_ble_eq_true rfl), (Nat.le_of_ble_eq_true rfl)⟩) hK hH hm.1 rfl rfl hl.1 rfl (Nat.le_of_ble_eq_true rfl) d_Md_time_8 ⟨(Nat.le_of_ble_eq_true rfl), (Nat.le_of_ble_eq_true rfl)⟩) hS (fun r_2 M_3 H locs w_4 hH hS => ?_)
    obtain ⟨eM, eR⟩ := w_4
    rw [eM] at hH
    rw [eR]
    refine lv_if_eq (tgt := 29) hx hb d_Md_time_11 (by decide) (fun c_5 => absurd c_5 (by rw [← an_isCell_s hl2]; decide)) (fun c_5 => ?_)
    refine lv_aload_n hx hb d_Md_time_14 rfl (lv_at hl 0 rfl) ?_
    refine hp_get hx hb hts iw_Md hown hK hH hm.1 rfl 5 (by decide) (hts _ kw_154) (v := .ref (ad 4)) rfl d_Md_time_15 ?_
    refine lv_sipush (v := 512) hx hb d_Md_time_18 (by decide) ?_
    refine lv_iload_n hx hb d_Md_time_21 rfl (lv_at hl 1 rfl) ?_
    refine lv_imul hx hb d_Md_time_22 ?_
    refine lv_iload_n hx hb d_Md_time_23 rfl (lv_at hl 2 rfl) ?_
    refine lv_iadd hx hb d_Md_time_24 ?_
    refine hp_lald hx hb hK hH (show M_1 (ad 4) = some (hp_al D 4096 (cl 4)) from hm.2.2.1 4 (by decide)) (512 * o + j) (md_ix512 o j) (by have := sg_len_le hinv ho; omega) (by decide) (v := (cl 4 (512 * o + j))) rfl d_Md_time_25 ?_
    refine lv_goto (tgt := 32) hx hb d_Md_time_26 (by decide) ?_
    exact hp_lret hx hb hr hlocks hQ hK hH hS (Nat.le_of_ble_eq_true rfl) (Nat.le_of_ble_eq_true rfl) d_Md_time_32 ⟨hm, hf, (by rw [← an_time_s hl2]; exact (mo_rw ((hR.2.2.1 o ho).2.2.2.1 j d hd)).2.2.2.1)⟩
end
section
theorem kw_155 : Cond.fieldLink R_Md 41 "EvenSwitchModel" "offeredTo" "[I" ∈ wd_T := wd_in (List.mem_of_getElem? (i := 288) (by decide +kernel)) rfl
theorem kw_156 : Cond.methodLink R_Md 76 y_Md_insideOf ∈ wd_T := wd_in (List.mem_of_getElem? (i := 357) (by decide +kernel)) rfl
theorem kw_157 : Cond.code y_Md_insideOf b_Md_insideOf 5 (some .int) ∈ wd_T := wd_in (List.mem_of_getElem? (i := 360) (by decide +kernel)) rfl
theorem kw_158 : Cond.instanceMethod y_Md_insideOf ∈ wd_T := wd_in (List.mem_of_getElem? (i := 359) (by decide +kernel)) rfl
theorem kw_159 : Cond.selects R_Md y_Md_insideOf y_Md_insideOf ∈ wd_T := wd_in (List.mem_of_getElem? (i := 11) (by decide +kernel)) rfl
theorem d_Md_insideOf_0 : decode b_Md_insideOf 0 = .ok (.aload_n 0, 1) := by decide +kernel
theorem d_Md_insideOf_1 : decode b_Md_insideOf 1 = .ok (.getfield 41, 3) := by decide +kernel
theorem d_Md_insideOf_4 : decode b_Md_insideOf 4 = .ok (.iload_n 1, 1) := by decide +kernel
theorem d_Md_insideOf_5 : decode b_Md_insideOf 5 = .ok (.iaload, 1) := by decide +kernel
theorem d_Md_insideOf_6 : decode b_Md_insideOf 6 = .ok (.iconst (-1), 1) := by decide +kernel
theorem d_Md_insideOf_7 : decode b_Md_insideOf 7 = .ok (.if_icmp .ne 7, 3) := by decide +kernel
theorem d_Md_insideOf_10 : decode b_Md_insideOf 10 = .ok (.iconst 0, 1) := by decide +kernel
theorem d_Md_insideOf_11 : decode b_Md_insideOf 11 = .ok (.goto 4, 3) := by decide +kernel
theorem d_Md_insideOf_14 : decode b_Md_insideOf 14 = .ok (.iconst 1, 1) := by decide +kernel
theorem d_Md_insideOf_15 : decode b_Md_insideOf 15 = .ok (.istore_n 2, 1) := by decide +kernel
theorem d_Md_insideOf_16 : decode b_Md_insideOf 16 = .ok (.iconst 0, 1) := by decide +kernel
theorem d_Md_insideOf_17 : decode b_Md_insideOf 17 = .ok (.istore_n 3, 1) := by decide +kernel
theorem d_Md_insideOf_18 : decode b_Md_insideOf 18 = .ok (.iload_n 3, 1) := by decide +kernel
theorem d_Md_insideOf_19 : decode b_Md_insideOf 19 = .ok (.bipush 8, 2) := by decide +kernel
theorem d_Md_insideOf_21 : decode b_Md_insideOf 21 = .ok (.if_icmp .ge 54, 3) := by decide +kernel
theorem d_Md_insideOf_24 : decode b_Md_insideOf 24 = .ok (.iconst 0, 1) := by decide +kernel
theorem d_Md_insideOf_25 : decode b_Md_insideOf 25 = .ok (.istore 4, 2) := by decide +kernel
theorem d_Md_insideOf_27 : decode b_Md_insideOf 27 = .ok (.iload 4, 2) := by decide +kernel
theorem d_Md_insideOf_29 : decode b_Md_insideOf 29 = .ok (.aload_n 0, 1) := by decide +kernel
theorem d_Md_insideOf_30 : decode b_Md_insideOf 30 = .ok (.getfield 7, 3) := by decide +kernel
theorem d_Md_insideOf_33 : decode b_Md_insideOf 33 = .ok (.iload_n 3, 1) := by decide +kernel
theorem d_Md_insideOf_34 : decode b_Md_insideOf 34 = .ok (.iaload, 1) := by decide +kernel
theorem d_Md_insideOf_35 : decode b_Md_insideOf 35 = .ok (.if_icmp .ge 34, 3) := by decide +kernel
theorem d_Md_insideOf_38 : decode b_Md_insideOf 38 = .ok (.iload_n 2, 1) := by decide +kernel
theorem d_Md_insideOf_39 : decode b_Md_insideOf 39 = .ok (.aload_n 0, 1) := by decide +kernel
theorem d_Md_insideOf_40 : decode b_Md_insideOf 40 = .ok (.getfield 13, 3) := by decide +kernel
theorem d_Md_insideOf_43 : decode b_Md_insideOf 43 = .ok (.sipush 512, 3) := by decide +kernel
theorem d_Md_insideOf_46 : decode b_Md_insideOf 46 = .ok (.iload_n 3, 1) := by decide +kernel
theorem d_Md_insideOf_47 : decode b_Md_insideOf 47 = .ok (.imul, 1) := by decide +kernel
theorem d_Md_insideOf_48 : decode b_Md_insideOf 48 = .ok (.iload 4, 2) := by decide +kernel
theorem d_Md_insideOf_50 : decode b_Md_insideOf 50 = .ok (.iadd, 1) := by decide +kernel
theorem d_Md_insideOf_51 : decode b_Md_insideOf 51 = .ok (.iaload, 1) := by decide +kernel
theorem d_Md_insideOf_52 : decode b_Md_insideOf 52 = .ok (.iload_n 1, 1) := by decide +kernel
theorem d_Md_insideOf_53 : decode b_Md_insideOf 53 = .ok (.if_icmp .ne 7, 3) := by decide +kernel
theorem d_Md_insideOf_56 : decode b_Md_insideOf 56 = .ok (.iconst 1, 1) := by decide +kernel
theorem d_Md_insideOf_57 : decode b_Md_insideOf 57 = .ok (.goto 4, 3) := by decide +kernel
theorem d_Md_insideOf_60 : decode b_Md_insideOf 60 = .ok (.iconst 0, 1) := by decide +kernel
theorem d_Md_insideOf_61 : decode b_Md_insideOf 61 = .ok (.iadd, 1) := by decide +kernel
theorem d_Md_insideOf_62 : decode b_Md_insideOf 62 = .ok (.istore_n 2, 1) := by decide +kernel
theorem d_Md_insideOf_63 : decode b_Md_insideOf 63 = .ok (.iinc 4 1, 3) := by decide +kernel
theorem d_Md_insideOf_66 : decode b_Md_insideOf 66 = .ok (.goto (-39), 3) := by decide +kernel
theorem d_Md_insideOf_69 : decode b_Md_insideOf 69 = .ok (.iinc 3 1, 3) := by decide +kernel
theorem d_Md_insideOf_72 : decode b_Md_insideOf 72 = .ok (.goto (-54), 3) := by decide +kernel
theorem d_Md_insideOf_75 : decode b_Md_insideOf 75 = .ok (.iload_n 2, 1) := by decide +kernel
theorem d_Md_insideOf_76 : decode b_Md_insideOf 76 = .ok (.ireturn, 1) := by decide +kernel
theorem d_Md_inside_0 : decode b_Md_inside 0 = .ok (.aload_n 0, 1) := by decide +kernel
theorem d_Md_inside_1 : decode b_Md_inside 1 = .ok (.iconst 0, 1) := by decide +kernel
theorem d_Md_inside_2 : decode b_Md_inside 2 = .ok (.putfield 65, 3) := by decide +kernel
theorem d_Md_inside_5 : decode b_Md_inside 5 = .ok (.iload_n 1, 1) := by decide +kernel
theorem d_Md_inside_6 : decode b_Md_inside 6 = .ok (.invokestatic 69, 3) := by decide +kernel
theorem d_Md_inside_9 : decode b_Md_inside 9 = .ok (.ifCond .eq 11, 3) := by decide +kernel
theorem d_Md_inside_12 : decode b_Md_inside 12 = .ok (.aload_n 0, 1) := by decide +kernel
theorem d_Md_inside_13 : decode b_Md_inside 13 = .ok (.iload_n 1, 1) := by decide +kernel
theorem d_Md_inside_14 : decode b_Md_inside 14 = .ok (.invokevirtual 76, 3) := by decide +kernel
theorem d_Md_inside_17 : decode b_Md_inside 17 = .ok (.goto 4, 3) := by decide +kernel
theorem d_Md_inside_20 : decode b_Md_inside 20 = .ok (.iconst (-1), 1) := by decide +kernel
theorem d_Md_inside_21 : decode b_Md_inside 21 = .ok (.ireturn, 1) := by decide +kernel
theorem d_Md_isWanted_0 : decode b_Md_isWanted 0 = .ok (.aload_n 0, 1) := by decide +kernel
theorem d_Md_isWanted_1 : decode b_Md_isWanted 1 = .ok (.getfield 7, 3) := by decide +kernel
theorem d_Md_isWanted_4 : decode b_Md_isWanted 4 = .ok (.iload_n 1, 1) := by decide +kernel
theorem d_Md_isWanted_5 : decode b_Md_isWanted 5 = .ok (.iaload, 1) := by decide +kernel
theorem d_Md_isWanted_6 : decode b_Md_isWanted 6 = .ok (.ifCond .le 7, 3) := by decide +kernel
theorem d_Md_isWanted_9 : decode b_Md_isWanted 9 = .ok (.iconst 1, 1) := by decide +kernel
theorem d_Md_isWanted_10 : decode b_Md_isWanted 10 = .ok (.goto 4, 3) := by decide +kernel
theorem d_Md_isWanted_13 : decode b_Md_isWanted 13 = .ok (.iconst 0, 1) := by decide +kernel
theorem d_Md_isWanted_14 : decode b_Md_isWanted 14 = .ok (.istore_n 2, 1) := by decide +kernel
theorem d_Md_isWanted_15 : decode b_Md_isWanted 15 = .ok (.iconst 0, 1) := by decide +kernel
theorem d_Md_isWanted_16 : decode b_Md_isWanted 16 = .ok (.istore_n 3, 1) := by decide +kernel
theorem d_Md_isWanted_17 : decode b_Md_isWanted 17 = .ok (.iload_n 3, 1) := by decide +kernel
theorem d_Md_isWanted_18 : decode b_Md_isWanted 18 = .ok (.bipush 8, 2) := by decide +kernel
theorem d_Md_isWanted_20 : decode b_Md_isWanted 20 = .ok (.if_icmp .ge 29, 3) := by decide +kernel
theorem d_Md_isWanted_23 : decode b_Md_isWanted 23 = .ok (.iload_n 2, 1) := by decide +kernel
theorem d_Md_isWanted_24 : decode b_Md_isWanted 24 = .ok (.ifCond .ne 13, 3) := by decide +kernel
theorem d_Md_isWanted_27 : decode b_Md_isWanted 27 = .ok (.aload_n 0, 1) := by decide +kernel
theorem d_Md_isWanted_28 : decode b_Md_isWanted 28 = .ok (.getfield 41, 3) := by decide +kernel
theorem d_Md_isWanted_31 : decode b_Md_isWanted 31 = .ok (.iload_n 3, 1) := by decide +kernel
theorem d_Md_isWanted_32 : decode b_Md_isWanted 32 = .ok (.iaload, 1) := by decide +kernel
theorem d_Md_isWanted_33 : decode b_Md_isWanted 33 = .ok (.iload_n 1, 1) := by decide +kernel
theorem d_Md_isWanted_34 : decode b_Md_isWanted 34 = .ok (.if_icmp .ne 7, 3) := by decide +kernel
theorem d_Md_isWanted_37 : decode b_Md_isWanted 37 = .ok (.iconst 1, 1) := by decide +kernel
theorem d_Md_isWanted_38 : decode b_Md_isWanted 38 = .ok (.goto 4, 3) := by decide +kernel
theorem d_Md_isWanted_41 : decode b_Md_isWanted 41 = .ok (.iconst 0, 1) := by decide +kernel
theorem d_Md_isWanted_42 : decode b_Md_isWanted 42 = .ok (.istore_n 2, 1) := by decide +kernel
theorem d_Md_isWanted_43 : decode b_Md_isWanted 43 = .ok (.iinc 3 1, 3) := by decide +kernel
theorem d_Md_isWanted_46 : decode b_Md_isWanted 46 = .ok (.goto (-29), 3) := by decide +kernel
theorem d_Md_isWanted_49 : decode b_Md_isWanted 49 = .ok (.iload_n 2, 1) := by decide +kernel
theorem d_Md_isWanted_50 : decode b_Md_isWanted 50 = .ok (.ireturn, 1) := by decide +kernel
abbrev rm_Md_insideOf : Room := { frames := 0, cells := 0, slots := 0, locals := 0 }
set_option maxHeartbeats 4000000 in
set_option maxRecDepth 100000 in
theorem cn_Md_insideOf (l : Launch) (D : va_G) (B : Nat) (M : hp_M) (b : Nat) (ad : Nat → Nat) (th of sl : Int32) (ct : Nat → Nat → Int32) (cl : Nat → Nat → Int64) (σ : sg_S) (i : Nat) (hm : md_H D M b ad th of sl ct cl) (hR : mo_R σ (fun _ => sg_sl σ - 1) of sl ct cl) (hinv : sg_inv σ) (hac : sg_ac σ ≤ 512) (hsei : sg_sei σ) (hi8 : i < 8) : Met l y_Md_insideOf (wd_c y_Md_insideOf b_Md_insideOf 5 (some .int)) rm_Md_insideOf (va_Pc [.ref b, .int (nI i)] (hp_C D B M)) (va_Qi (fun (r : Int32) (M1 : hp_M) => M1 = M ∧ r = nI (sg_held σ i)) (hp_C D B) (hp_ub B)) 0 0 (hp_ub B) := by
  rcases hof : sg_of σ i with _ | d0
  · refine hp_met (by decide) (Nat.le_of_ble_eq_true rfl) ?_
    intro p e s m args below meth cd ls Q hQ hx hb hr hts hown hlocks hnm hml hK hH hS hB hl
    replace hl : lv_has ls 5 [(0, .ref b), (1, .int (nI i))] := hl
    refine lv_aload_n hx hb d_Md_insideOf_0 rfl (lv_at hl 0 rfl) ?_
    refine hp_get hx hb hts iw_Md hown hK hH hm.1 rfl 11 (by decide) (hts _ kw_155) (v := .ref (ad 10)) rfl d_Md_insideOf_1 ?_
    refine lv_iload_n hx hb d_Md_insideOf_4 rfl (lv_at hl 1 rfl) ?_
    refine hp_iald hx hb hK hH (show M (ad 10) = some (hp_ai D 8 (ct 10)) from hm.2.1 10 (by decide) (by decide) (by decide)) i rfl hi8 (by decide) (v := (ct 10 i)) rfl d_Md_insideOf_5 ?_
    refine lv_iconst (v := (-1)) hx hb d_Md_insideOf_6 (by decide) ?_
    refine lv_icmp_ne (tgt := 14) hx hb d_Md_insideOf_7 (by decide) (fun c_1 => absurd (show ct 10 i = -1 from by have := hR.2.2.2 i hi8; rw [hof] at this; exact this) c_1) (fun c_1 => ?_)
    refine lv_iconst (v := 0) hx hb d_Md_insideOf_10 (by decide) ?_
    refine lv_goto (tgt := 15) hx hb d_Md_insideOf_11 (by decide) ?_
    refine lv_istore_n (lv' := [(2, .int 0), (0, .ref b), (1, .int (nI i))]) hx hb d_Md_insideOf_15 rfl hl (by decide) rfl (fun ls hl => ?_)
    refine lv_iconst (v := 0) hx hb d_Md_insideOf_16 (by decide) ?_
    refine lv_istore_n (lv' := [(3, .int 0), (2, .int 0), (0, .ref b), (1, .int (nI i))]) hx hb d_Md_insideOf_17 rfl hl (by decide) rfl (fun ls hl => ?_)
    have In : ∀ (n k N o : Nat) (ls : Array Slot), o < 8 → k + n = (sg_qu σ o).length → (∀ ls : Array Slot, lv_has ls 5 [(3, .int (nI o)), (2, .int (nI (N + sg_cnt i ((sg_qu σ o).drop k)))), (0, .ref b), (1, .int (nI i))] → W p l e rm_Md_insideOf s m args below meth cd s.heap [] 0 0 Q (F0 m 69 ls [])) → lv_has ls 5 [(4, .int (nI k)), (2, .int (nI N)), (3, .int (nI o)), (0, .ref b), (1, .int (nI i))] → W p l e rm_Md_insideOf s m args below meth cd s.heap [] 0 0 Q (F0 m 27 ls []) := by
      intro n
      induction n with
      | zero =>
        intro k N o ls ho8 hn K hl
        have hm0 := (hR.2.2.1 o ho8).1
        have hlen := sg_len_le hinv ho8
        refine lv_iload hx hb d_Md_insideOf_27 (lv_at hl 0 rfl) ?_
        refine lv_aload_n hx hb d_Md_insideOf_29 rfl (lv_at hl 3 rfl) ?_
        refine hp_get hx hb hts iw_Md hown hK hH hm.1 rfl 1 (by decide) (hts _ kw_147) (v := .ref (ad 0)) rfl d_Md_insideOf_30 ?_
        refine lv_iload_n hx hb d_Md_insideOf_33 rfl (lv_at hl 2 rfl) ?_
        refine hp_iald hx hb hK hH (show M (ad 0) = some (hp_ai D 8 (ct 0)) from hm.2.1 0 (by decide) (by decide) (by decide)) o rfl ho8 (by decide) (v := (ct 0 o)) rfl d_Md_insideOf_34 ?_
        refine lv_icmp_ge (tgt := 69) hx hb d_Md_insideOf_35 (by decide) (fun c_2 => ?_) (fun c_2 => absurd (by rw [hm0]; exact nI_le (by omega) (by omega)) c_2)
        exact K ls (by rw [List.drop_eq_nil_of_le (by omega)]; exact lv_sub hl [2, 1, 3, 4] rfl)
      | succ n ih =>
        intro k N o ls ho8 hn K hl
        have hm0 := (hR.2.2.1 o ho8).1
        have hlen := sg_len_le hinv ho8
        obtain ⟨c, hc, hd, hcm⟩ := sg_drop (l := sg_qu σ o) (k := k) (by omega)
        have hc8 := ((hinv.1 o ho8).2.2.2 c hcm).1
        have hrow := (mo_rw ((hR.2.2.1 o ho8).2.2.2.1 k c hc)).1
        refine lv_iload hx hb d_Md_insideOf_27 (lv_at hl 0 rfl) ?_
        refine lv_aload_n hx hb d_Md_insideOf_29 rfl (lv_at hl 3 rfl) ?_
        refine hp_get hx hb hts iw_Md hown hK hH hm.1 rfl 1 (by decide) (hts _ kw_147) (v := .ref (ad 0)) rfl d_Md_insideOf_30 ?_
        refine lv_iload_n hx hb d_Md_insideOf_33 rfl (lv_at hl 2 rfl) ?_
        refine hp_iald hx hb hK hH (show M (ad 0) = some (hp_ai D 8 (ct 0)) from hm.2.1 0 (by decide) (by decide) (by decide)) o rfl ho8 (by decide) (v := (ct 0 o)) rfl d_Md_insideOf_34 ?_
        refine lv_icmp_ge (tgt := 69) hx hb d_Md_insideOf_35 (by decide) (fun c_3 => absurd c_3 (by rw [hm0]; exact nI_ge (by omega) (by omega))) (fun c_3 => ?_)
        refine lv_iload_n hx hb d_Md_insideOf_38 rfl (lv_at hl 1 rfl) ?_
        refine lv_aload_n hx hb d_Md_insideOf_39 rfl (lv_at hl 3 rfl) ?_
        refine hp_get hx hb hts iw_Md hown hK hH hm.1 rfl 2 (by decide) (hts _ kw_152) (v := .ref (ad 1)) rfl d_Md_insideOf_40 ?_
        refine lv_sipush (v := 512) hx hb d_Md_insideOf_43 (by decide) ?_
        refine lv_iload_n hx hb d_Md_insideOf_46 rfl (lv_at hl 2 rfl) ?_
        refine lv_imul hx hb d_Md_insideOf_47 ?_
        refine lv_iload hx hb d_Md_insideOf_48 (lv_at hl 0 rfl) ?_
        refine lv_iadd hx hb d_Md_insideOf_50 ?_
        refine hp_iald hx hb hK hH (show M (ad 1) = some (hp_ai D 4096 (ct 1)) from hm.2.1 1 (by decide) (by decide) (by decide)) (512 * o + k) (md_ix512 o k) (by omega) (by decide) (v := (ct 1 (512 * o + k))) rfl d_Md_insideOf_51 ?_
        refine lv_iload_n hx hb d_Md_insideOf_52 rfl (lv_at hl 4 rfl) ?_
        refine lv_icmp_ne (tgt := 60) hx hb d_Md_insideOf_53 (by decide) (fun c_4 => ?_) (fun c_4 => ?_)
        · refine lv_iconst (v := 0) hx hb d_Md_insideOf_60 (by decide) ?_
          refine lv_iadd hx hb d_Md_insideOf_61 ?_
          refine hp_ioi (Int32.add_zero _) ?_
          refine lv_istore_n (lv' := [(2, .int (nI N)), (4, .int (nI k)), (3, .int (nI o)), (0, .ref b), (1, .int (nI i))]) hx hb d_Md_insideOf_62 rfl hl (by decide) rfl (fun ls hl => ?_)
          refine lv_iinc (v := nI (k + 1)) (lv' := [(4, .int (nI (k + 1))), (2, .int (nI N)), (3, .int (nI o)), (0, .ref b), (1, .int (nI i))]) hx hb d_Md_insideOf_63 hl (k := 1) rfl (nI_1 k) (by decide) rfl (fun ls hl => ?_)
          refine lv_goto (tgt := 27) hx hb d_Md_insideOf_66 (by decide) ?_
          exact ih (k + 1) N o ls ho8 (by omega) (fun ls h => K ls (by rw [sg_cnt_drop i hd, if_neg (fun q => c_4 (by rw [hrow, q]))]; rw [Nat.zero_add]; exact h)) (lv_sub hl [0, 1, 2, 3, 4] rfl)
        · refine lv_iconst (v := 1) hx hb d_Md_insideOf_56 (by decide) ?_
          refine lv_goto (tgt := 61) hx hb d_Md_insideOf_57 (by decide) ?_
          refine lv_iadd hx hb d_Md_insideOf_61 ?_
          refine hp_ioi (nI_1 _) ?_
          refine lv_istore_n (lv' := [(2, .int (nI (N + 1))), (4, .int (nI k)), (3, .int (nI o)), (0, .ref b), (1, .int (nI i))]) hx hb d_Md_insideOf_62 rfl hl (by decide) rfl (fun ls hl => ?_)
          refine lv_iinc (v := nI (k + 1)) (lv' := [(4, .int (nI (k + 1))), (2, .int (nI (N + 1))), (3, .int (nI o)), (0, .ref b), (1, .int (nI i))]) hx hb d_Md_insideOf_63 hl (k := 1) rfl (nI_1 k) (by decide) rfl (fun ls hl => ?_)
          refine lv_goto (tgt := 27) hx hb d_Md_insideOf_66 (by decide) ?_
          exact ih (k + 1) (N + 1) o ls ho8 (by omega) (fun ls h => K ls (by rw [sg_cnt_drop i hd, if_pos ((nI_eq (by omega) (by omega)).mp (hrow.symm.trans c_4))]; rw [← Nat.add_assoc]; exact h)) (lv_sub hl [0, 1, 2, 3, 4] rfl)
    have Lp : ∀ (n o : Nat) (ls : Array Slot), o + n = 8 → lv_has ls 5 [(3, .int (nI o)), (2, .int (nI (sg_o1 (sg_of σ i) + sg_sum (fun x => sg_cnt i (sg_qu σ x)) o))), (0, .ref b), (1, .int (nI i))] → W p l e rm_Md_insideOf s m args below meth cd s.heap [] 0 0 Q (F0 m 18 ls []) := by
      intro n
      induction n with
      | zero =>
        intro o ls hn hl
        have e8 : o = 8 := by omega
        subst e8
        refine lv_iload_n hx hb d_Md_insideOf_18 rfl (lv_at hl 0 rfl) ?_
        refine lv_bipush (v := 8) hx hb d_Md_insideOf_19 (by decide) ?_
        refine lv_icmp_ge (tgt := 75) hx hb d_Md_insideOf_21 (by decide) (fun c_5 => ?_) (fun c_5 => absurd (nI_le (a := 8) (by omega) (by omega)) c_5)
        refine lv_iload_n hx hb d_Md_insideOf_75 rfl (lv_at hl 1 rfl) ?_
        exact hp_iret hx hb hr hlocks hQ hK hH hS (Nat.le_of_ble_eq_true rfl) (Nat.le_of_ble_eq_true rfl) d_Md_insideOf_76 ⟨rfl, rfl⟩
      | succ n ih =>
        intro o ls hn hl
        have ho8 : o < 8 := by omega
        refine lv_iload_n hx hb d_Md_insideOf_18 rfl (lv_at hl 0 rfl) ?_
        refine lv_bipush (v := 8) hx hb d_Md_insideOf_19 (by decide) ?_
        refine lv_icmp_ge (tgt := 75) hx hb d_Md_insideOf_21 (by decide) (fun c_6 => absurd c_6 (nI_ge (b := 8) (by omega) (by omega))) (fun c_6 => ?_)
        refine lv_iconst (v := 0) hx hb d_Md_insideOf_24 (by decide) ?_
        refine lv_istore (lv' := [(4, .int 0), (3, .int (nI o)), (2, .int (nI (sg_o1 (sg_of σ i) + sg_sum (fun x => sg_cnt i (sg_qu σ x)) o))), (0, .ref b), (1, .int (nI i))]) hx hb d_Md_insideOf_25 hl (by decide) rfl (fun ls hl => ?_)
        refine In (sg_qu σ o).length 0 _ o ls ho8 (by omega) (fun ls hl => ?_) (lv_sub hl [0, 2, 1, 3, 4] rfl)
        rw [Nat.add_assoc] at hl
        replace hl : lv_has ls 5 [(3, .int (nI o)), (2, .int (nI (sg_o1 (sg_of σ i) + sg_sum (fun x => sg_cnt i (sg_qu σ x)) (o + 1)))), (0, .ref b), (1, .int (nI i))] := hl
        refine lv_iinc (v := nI (o + 1)) (lv' := [(3, .int (nI (o + 1))), (2, .int (nI (sg_o1 (sg_of σ i) + sg_sum (fun x => sg_cnt i (sg_qu σ x)) (o + 1)))), (0, .ref b), (1, .int (nI i))]) hx hb d_Md_insideOf_69 hl (k := 0) rfl (nI_1 o) (by decide) rfl (fun ls hl => ?_)
        refine lv_goto (tgt := 18) hx hb d_Md_insideOf_72 (by decide) ?_
        exact ih (o + 1) ls (by omega) (lv_sub hl [0, 1, 2, 3] rfl)
    exact Lp 8 0 ls (by omega) (by rw [hof]; exact lv_sub hl [0, 1, 2, 3] rfl)
  · refine hp_met (by decide) (Nat.le_of_ble_eq_true rfl) ?_
    intro p e s m args below meth cd ls Q hQ hx hb hr hts hown hlocks hnm hml hK hH hS hB hl
    replace hl : lv_has ls 5 [(0, .ref b), (1, .int (nI i))] := hl
    refine lv_aload_n hx hb d_Md_insideOf_0 rfl (lv_at hl 0 rfl) ?_
    refine hp_get hx hb hts iw_Md hown hK hH hm.1 rfl 11 (by decide) (hts _ kw_155) (v := .ref (ad 10)) rfl d_Md_insideOf_1 ?_
    refine lv_iload_n hx hb d_Md_insideOf_4 rfl (lv_at hl 1 rfl) ?_
    refine hp_iald hx hb hK hH (show M (ad 10) = some (hp_ai D 8 (ct 10)) from hm.2.1 10 (by decide) (by decide) (by decide)) i rfl hi8 (by decide) (v := (ct 10 i)) rfl d_Md_insideOf_5 ?_
    refine lv_iconst (v := (-1)) hx hb d_Md_insideOf_6 (by decide) ?_
    refine lv_icmp_ne (tgt := 14) hx hb d_Md_insideOf_7 (by decide) (fun c_1 => ?_) (fun c_1 => absurd c_1 (by have := hR.2.2.2 i hi8; rw [hof] at this; rw [this.1]; exact md_m1 (by have := ((hinv.2.1 i hi8).2 _ hof).2.1; omega)))
    refine lv_iconst (v := 1) hx hb d_Md_insideOf_14 (by decide) ?_
    refine lv_istore_n (lv' := [(2, .int 1), (0, .ref b), (1, .int (nI i))]) hx hb d_Md_insideOf_15 rfl hl (by decide) rfl (fun ls hl => ?_)
    refine lv_iconst (v := 0) hx hb d_Md_insideOf_16 (by decide) ?_
    refine lv_istore_n (lv' := [(3, .int 0), (2, .int 1), (0, .ref b), (1, .int (nI i))]) hx hb d_Md_insideOf_17 rfl hl (by decide) rfl (fun ls hl => ?_)
    have In : ∀ (n k N o : Nat) (ls : Array Slot), o < 8 → k + n = (sg_qu σ o).length → (∀ ls : Array Slot, lv_has ls 5 [(3, .int (nI o)), (2, .int (nI (N + sg_cnt i ((sg_qu σ o).drop k)))), (0, .ref b), (1, .int (nI i))] → W p l e rm_Md_insideOf s m args below meth cd s.heap [] 0 0 Q (F0 m 69 ls [])) → lv_has ls 5 [(4, .int (nI k)), (2, .int (nI N)), (3, .int (nI o)), (0, .ref b), (1, .int (nI i))] → W p l e rm_Md_insideOf s m args below meth cd s.heap [] 0 0 Q (F0 m 27 ls []) := by
      intro n
      induction n with
      | zero =>
        intro k N o ls ho8 hn K hl
        have hm0 := (hR.2.2.1 o ho8).1
        have hlen := sg_len_le hinv ho8
        refine lv_iload hx hb d_Md_insideOf_27 (lv_at hl 0 rfl) ?_
        refine lv_aload_n hx hb d_Md_insideOf_29 rfl (lv_at hl 3 rfl) ?_
        refine hp_get hx hb hts iw_Md hown hK hH hm.1 rfl 1 (by decide) (hts _ kw_147) (v := .ref (ad 0)) rfl d_Md_insideOf_30 ?_
        refine lv_iload_n hx hb d_Md_insideOf_33 rfl (lv_at hl 2 rfl) ?_
        refine hp_iald hx hb hK hH (show M (ad 0) = some (hp_ai D 8 (ct 0)) from hm.2.1 0 (by decide) (by decide) (by decide)) o rfl ho8 (by decide) (v := (ct 0 o)) rfl d_Md_insideOf_34 ?_
        refine lv_icmp_ge (tgt := 69) hx hb d_Md_insideOf_35 (by decide) (fun c_2 => ?_) (fun c_2 => absurd (by rw [hm0]; exact nI_le (by omega) (by omega)) c_2)
        exact K ls (by rw [List.drop_eq_nil_of_le (by omega)]; exact lv_sub hl [2, 1, 3, 4] rfl)
      | succ n ih =>
        intro k N o ls ho8 hn K hl
        have hm0 := (hR.2.2.1 o ho8).1
        have hlen := sg_len_le hinv ho8
        obtain ⟨c, hc, hd, hcm⟩ := sg_drop (l := sg_qu σ o) (k := k) (by omega)
        have hc8 := ((hinv.1 o ho8).2.2.2 c hcm).1
        have hrow := (mo_rw ((hR.2.2.1 o ho8).2.2.2.1 k c hc)).1
        refine lv_iload hx hb d_Md_insideOf_27 (lv_at hl 0 rfl) ?_
        refine lv_aload_n hx hb d_Md_insideOf_29 rfl (lv_at hl 3 rfl) ?_
        refine hp_get hx hb hts iw_Md hown hK hH hm.1 rfl 1 (by decide) (hts _ kw_147) (v := .ref (ad 0)) rfl d_Md_insideOf_30 ?_
        refine lv_iload_n hx hb d_Md_insideOf_33 rfl (lv_at hl 2 rfl) ?_
        refine hp_iald hx hb hK hH (show M (ad 0) = some (hp_ai D 8 (ct 0)) from hm.2.1 0 (by decide) (by decide) (by decide)) o rfl ho8 (by decide) (v := (ct 0 o)) rfl d_Md_insideOf_34 ?_
        refine lv_icmp_ge (tgt := 69) hx hb d_Md_insideOf_35 (by decide) (fun c_3 => absurd c_3 (by rw [hm0]; exact nI_ge (by omega) (by omega))) (fun c_3 => ?_)
        refine lv_iload_n hx hb d_Md_insideOf_38 rfl (lv_at hl 1 rfl) ?_
        refine lv_aload_n hx hb d_Md_insideOf_39 rfl (lv_at hl 3 rfl) ?_
        refine hp_get hx hb hts iw_Md hown hK hH hm.1 rfl 2 (by decide) (hts _ kw_152) (v := .ref (ad 1)) rfl d_Md_insideOf_40 ?_
        refine lv_sipush (v := 512) hx hb d_Md_insideOf_43 (by decide) ?_
        refine lv_iload_n hx hb d_Md_insideOf_46 rfl (lv_at hl 2 rfl) ?_
        refine lv_imul hx hb d_Md_insideOf_47 ?_
        refine lv_iload hx hb d_Md_insideOf_48 (lv_at hl 0 rfl) ?_
        refine lv_iadd hx hb d_Md_insideOf_50 ?_
        refine hp_iald hx hb hK hH (show M (ad 1) = some (hp_ai D 4096 (ct 1)) from hm.2.1 1 (by decide) (by decide) (by decide)) (512 * o + k) (md_ix512 o k) (by omega) (by decide) (v := (ct 1 (512 * o + k))) rfl d_Md_insideOf_51 ?_
        refine lv_iload_n hx hb d_Md_insideOf_52 rfl (lv_at hl 4 rfl) ?_
        refine lv_icmp_ne (tgt := 60) hx hb d_Md_insideOf_53 (by decide) (fun c_4 => ?_) (fun c_4 => ?_)
        · refine lv_iconst (v := 0) hx hb d_Md_insideOf_60 (by decide) ?_
          refine lv_iadd hx hb d_Md_insideOf_61 ?_
          refine hp_ioi (Int32.add_zero _) ?_
          refine lv_istore_n (lv' := [(2, .int (nI N)), (4, .int (nI k)), (3, .int (nI o)), (0, .ref b), (1, .int (nI i))]) hx hb d_Md_insideOf_62 rfl hl (by decide) rfl (fun ls hl => ?_)
          refine lv_iinc (v := nI (k + 1)) (lv' := [(4, .int (nI (k + 1))), (2, .int (nI N)), (3, .int (nI o)), (0, .ref b), (1, .int (nI i))]) hx hb d_Md_insideOf_63 hl (k := 1) rfl (nI_1 k) (by decide) rfl (fun ls hl => ?_)
          refine lv_goto (tgt := 27) hx hb d_Md_insideOf_66 (by decide) ?_
          exact ih (k + 1) N o ls ho8 (by omega) (fun ls h => K ls (by rw [sg_cnt_drop i hd, if_neg (fun q => c_4 (by rw [hrow, q]))]; rw [Nat.zero_add]; exact h)) (lv_sub hl [0, 1, 2, 3, 4] rfl)
        · refine lv_iconst (v := 1) hx hb d_Md_insideOf_56 (by decide) ?_
          refine lv_goto (tgt := 61) hx hb d_Md_insideOf_57 (by decide) ?_
          refine lv_iadd hx hb d_Md_insideOf_61 ?_
          refine hp_ioi (nI_1 _) ?_
          refine lv_istore_n (lv' := [(2, .int (nI (N + 1))), (4, .int (nI k)), (3, .int (nI o)), (0, .ref b), (1, .int (nI i))]) hx hb d_Md_insideOf_62 rfl hl (by decide) rfl (fun ls hl => ?_)
          refine lv_iinc (v := nI (k + 1)) (lv' := [(4, .int (nI (k + 1))), (2, .int (nI (N + 1))), (3, .int (nI o)), (0, .ref b), (1, .int (nI i))]) hx hb d_Md_insideOf_63 hl (k := 1) rfl (nI_1 k) (by decide) rfl (fun ls hl => ?_)
          refine lv_goto (tgt := 27) hx hb d_Md_insideOf_66 (by decide) ?_
          exact ih (k + 1) (N + 1) o ls ho8 (by omega) (fun ls h => K ls (by rw [sg_cnt_drop i hd, if_pos ((nI_eq (by omega) (by omega)).mp (hrow.symm.trans c_4))]; rw [← Nat.add_assoc]; exact h)) (lv_sub hl [0, 1, 2, 3, 4] rfl)
    have Lp : ∀ (n o : Nat) (ls : Array Slot), o + n = 8 → lv_has ls 5 [(3, .int (nI o)), (2, .int (nI (sg_o1 (sg_of σ i) + sg_sum (fun x => sg_cnt i (sg_qu σ x)) o))), (0, .ref b), (1, .int (nI i))] → W p l e rm_Md_insideOf s m args below meth cd s.heap [] 0 0 Q (F0 m 18 ls []) := by
      intro n
      induction n with
      | zero =>
        intro o ls hn hl
        have e8 : o = 8 := by omega
        subst e8
        refine lv_iload_n hx hb d_Md_insideOf_18 rfl (lv_at hl 0 rfl) ?_
        refine lv_bipush (v := 8) hx hb d_Md_insideOf_19 (by decide) ?_
        refine lv_icmp_ge (tgt := 75) hx hb d_Md_insideOf_21 (by decide) (fun c_5 => ?_) (fun c_5 => absurd (nI_le (a := 8) (by omega) (by omega)) c_5)
        refine lv_iload_n hx hb d_Md_insideOf_75 rfl (lv_at hl 1 rfl) ?_
        exact hp_iret hx hb hr hlocks hQ hK hH hS (Nat.le_of_ble_eq_true rfl) (Nat.le_of_ble_eq_true rfl) d_Md_insideOf_76 ⟨rfl, rfl⟩
      | succ n ih =>
        intro o ls hn hl
        have ho8 : o < 8 := by omega
        refine lv_iload_n hx hb d_Md_insideOf_18 rfl (lv_at hl 0 rfl) ?_
        refine lv_bipush (v := 8) hx hb d_Md_insideOf_19 (by decide) ?_
        refine lv_icmp_ge (tgt := 75) hx hb d_Md_insideOf_21 (by decide) (fun c_6 => absurd c_6 (nI_ge (b := 8) (by omega) (by omega))) (fun c_6 => ?_)
        refine lv_iconst (v := 0) hx hb d_Md_insideOf_24 (by decide) ?_
        refine lv_istore (lv' := [(4, .int 0), (3, .int (nI o)), (2, .int (nI (sg_o1 (sg_of σ i) + sg_sum (fun x => sg_cnt i (sg_qu σ x)) o))), (0, .ref b), (1, .int (nI i))]) hx hb d_Md_insideOf_25 hl (by decide) rfl (fun ls hl => ?_)
        refine In (sg_qu σ o).length 0 _ o ls ho8 (by omega) (fun ls hl => ?_) (lv_sub hl [0, 2, 1, 3, 4] rfl)
        rw [Nat.add_assoc] at hl
        replace hl : lv_has ls 5 [(3, .int (nI o)), (2, .int (nI (sg_o1 (sg_of σ i) + sg_sum (fun x => sg_cnt i (sg_qu σ x)) (o + 1)))), (0, .ref b), (1, .int (nI i))] := hl
        refine lv_iinc (v := nI (o + 1)) (lv' := [(3, .int (nI (o + 1))), (2, .int (nI (sg_o1 (sg_of σ i) + sg_sum (fun x => sg_cnt i (sg_qu σ x)) (o + 1)))), (0, .ref b), (1, .int (nI i))]) hx hb d_Md_insideOf_69 hl (k := 0) rfl (nI_1 o) (by decide) rfl (fun ls hl => ?_)
        refine lv_goto (tgt := 18) hx hb d_Md_insideOf_72 (by decide) ?_
        exact ih (o + 1) ls (by omega) (lv_sub hl [0, 1, 2, 3] rfl)
    exact Lp 8 0 ls (by omega) (by rw [hof]; exact lv_sub hl [0, 1, 2, 3] rfl)
abbrev rm_Md_inside : Room := { frames := 1, cells := 0, slots := 0, locals := 24 }
set_option maxHeartbeats 4000000 in
set_option maxRecDepth 100000 in
theorem cn_Md_inside (l : Launch) (D : va_G) (B : Nat) (M : hp_M) (b : Nat) (ad : Nat → Nat) (th of sl : Int32) (ct : Nat → Nat → Int32) (cl : Nat → Nat → Int64) (σ : sg_S) (x : Int32) (hm : md_H D M b ad th of sl ct cl) (hR : mo_R σ (fun _ => sg_sl σ - 1) of sl ct cl) (hinv : sg_inv σ) (hac : sg_ac σ ≤ 512) (hsei : sg_sei σ) : Met l y_Md_inside (wd_c y_Md_inside b_Md_inside 2 (some .int)) rm_Md_inside (va_Pc [.ref b, .int x] (hp_C D B M)) (va_Qi (fun (r : Int32) (M1 : hp_M) => md_H D M1 b ad 0 of sl ct cl ∧ md_fr b ad M M1 ∧ r = an_inside σ x) (hp_C D B) (hp_ub B)) 0 0 (hp_ub B) := by
  rcases sg_ix_or x with ⟨hix, _⟩ | ⟨k, hk, rfl, hix⟩
  · refine hp_met (by decide) (Nat.le_of_ble_eq_true rfl) ?_
    intro p e s m args below meth cd ls Q hQ hx hb hr hts hown hlocks hnm hml hK hH hS hB hl
    replace hl : lv_has ls 2 [(0, .ref b), (1, .int x)] := hl
    have hf : md_fr b ad M M := md_fr_rf
    refine lv_aload_n hx hb d_Md_inside_0 rfl (lv_at hl 0 rfl) ?_
    refine lv_iconst (v := 0) hx hb d_Md_inside_1 (by decide) ?_
    refine hp_put hx hb hts iw_Md t_Md t_Md_ok n_Md hown hK hH hS hB hm.1 rfl 0 (by decide) (hts _ kw_134) rfl  (v := .int 0) rfl rfl (Nat.le_of_ble_eq_true rfl) (fs' := [.int 0, .ref (ad 0), .ref (ad 1), .ref (ad 2), .ref (ad 3), .ref (ad 4), .ref (ad 5), .ref (ad 6), .ref (ad 7), .ref (ad 8), .ref (ad 9), .ref (ad 10), .ref (ad 11), .ref (ad 12), .ref (ad 13), .int of, .int sl, .ref (ad 14), .ref (ad 15), .ref (ad 16)]) rfl d_Md_inside_2 (fun M_1 H locs eM_1 hH hS => ?_)
    have hm := md_pb hm (th' := 0) (of' := of) (sl' := sl) eM_1
    have hf := md_fr_b hf eM_1
    refine lv_iload_n hx hb d_Md_inside_5 rfl (lv_at hl 1 rfl) ?_
    refine hp_calli (hp_runS (As := [.int x]) (rest := []) hx hb hml hown (cn_Md_isOne l D B M_1 x) (hp_cwS 1 hts kw_136 kw_139 kw_137 kw_138 rfl rfl (by decide +kernel) ⟨(Nat.le_of_ble_eq_true rfl), (Nat.le_of_ble_eq_true rfl)⟩) hK hH rfl hl.1 rfl (Nat.le_of_ble_eq_true rfl) d_Md_inside_6 ⟨(Nat.le_of_ble_eq_true rfl), (Nat.le_of_ble_eq_true rfl)⟩) hS (fun r_2 M_3 H locs w_4 hH hS => ?_)
    obtain ⟨eM, eR⟩ := w_4
    rw [eM] at hH
    rw [eR]
    refine lv_if_eq (tgt := 20) hx hb d_Md_inside_9 (by decide) (fun c_5 => ?_) (fun c_5 => absurd (sg_port_none hix) c_5)
    refine lv_iconst (v := (-1)) hx hb d_Md_inside_20 (by decide) ?_
    exact hp_iret hx hb hr hlocks hQ hK hH hS (Nat.le_of_ble_eq_true rfl) (Nat.le_of_ble_eq_true rfl) d_Md_inside_21 ⟨hm, hf, (an_inside_n hix)⟩
  · refine hp_met (by decide) (Nat.le_of_ble_eq_true rfl) ?_
    intro p e s m args below meth cd ls Q hQ hx hb hr hts hown hlocks hnm hml hK hH hS hB hl
    replace hl : lv_has ls 2 [(0, .ref b), (1, .int (nI k))] := hl
    have hf : md_fr b ad M M := md_fr_rf
    refine lv_aload_n hx hb d_Md_inside_0 rfl (lv_at hl 0 rfl) ?_
    refine lv_iconst (v := 0) hx hb d_Md_inside_1 (by decide) ?_
    refine hp_put hx hb hts iw_Md t_Md t_Md_ok n_Md hown hK hH hS hB hm.1 rfl 0 (by decide) (hts _ kw_134) rfl  (v := .int 0) rfl rfl (Nat.le_of_ble_eq_true rfl) (fs' := [.int 0, .ref (ad 0), .ref (ad 1), .ref (ad 2), .ref (ad 3), .ref (ad 4), .ref (ad 5), .ref (ad 6), .ref (ad 7), .ref (ad 8), .ref (ad 9), .ref (ad 10), .ref (ad 11), .ref (ad 12), .ref (ad 13), .int of, .int sl, .ref (ad 14), .ref (ad 15), .ref (ad 16)]) rfl d_Md_inside_2 (fun M_1 H locs eM_1 hH hS => ?_)
    have hm := md_pb hm (th' := 0) (of' := of) (sl' := sl) eM_1
    have hf := md_fr_b hf eM_1
    refine lv_iload_n hx hb d_Md_inside_5 rfl (lv_at hl 1 rfl) ?_
    refine hp_calli (hp_runS (As := [.int (nI k)]) (rest := []) hx hb hml hown (cn_Md_isOne l D B M_1 (nI k)) (hp_cwS 1 hts kw_136 kw_139 kw_137 kw_138 rfl rfl (by decide +kernel) ⟨(Nat.le_of_ble_eq_true rfl), (Nat.le_of_ble_eq_true rfl)⟩) hK hH rfl hl.1 rfl (Nat.le_of_ble_eq_true rfl) d_Md_inside_6 ⟨(Nat.le_of_ble_eq_true rfl), (Nat.le_of_ble_eq_true rfl)⟩) hS (fun r_2 M_3 H locs w_4 hH hS => ?_)
    obtain ⟨eM, eR⟩ := w_4
    rw [eM] at hH
    rw [eR]
    refine lv_if_eq (tgt := 20) hx hb d_Md_inside_9 (by decide) (fun c_5 => absurd c_5 (by rw [sg_port_some hix]; decide)) (fun c_5 => ?_)
    refine lv_aload_n hx hb d_Md_inside_12 rfl (lv_at hl 0 rfl) ?_
    refine lv_iload_n hx hb d_Md_inside_13 rfl (lv_at hl 1 rfl) ?_
    refine hp_calli (hp_runV (b := b) (As := [.int (nI k)]) (rest := []) hx hb hml hown (cn_Md_insideOf l D B M_1 b ad 0 of sl ct cl σ k hm hR hinv hac hsei hk) (hp_cwV 1 hts kw_156 kw_158 kw_159 kw_137 kw_157 rfl rfl (by decide +kernel) ⟨(Nat.le_of_ble_eq_true rfl), (Nat.le_of_ble_eq_true rfl)⟩) hK hH hm.1 rfl rfl hl.1 rfl (Nat.le_of_ble_eq_true rfl) d_Md_inside_14 ⟨(Nat.le_of_ble_eq_true rfl), (Nat.le_of_ble_eq_true rfl)⟩) hS (fun r_6 M_7 H locs w_8 hH hS => ?_)
    obtain ⟨eM, eR⟩ := w_8
    rw [eM] at hH
    rw [eR]
    refine lv_goto (tgt := 21) hx hb d_Md_inside_17 (by decide) ?_
    exact hp_iret hx hb hr hlocks hQ hK hH hS (Nat.le_of_ble_eq_true rfl) (Nat.le_of_ble_eq_true rfl) d_Md_inside_21 ⟨hm, hf, (an_inside_s hix)⟩
abbrev rm_Md_isWanted : Room := { frames := 0, cells := 0, slots := 0, locals := 0 }
set_option maxHeartbeats 4000000 in
set_option maxRecDepth 100000 in
theorem cn_Md_isWanted (l : Launch) (D : va_G) (B : Nat) (M : hp_M) (b : Nat) (ad : Nat → Nat) (th of sl : Int32) (ct : Nat → Nat → Int32) (cl : Nat → Nat → Int64) (σ : sg_S) (o : Nat) (hm : md_H D M b ad th of sl ct cl) (hR : mo_R σ (fun _ => sg_sl σ - 1) of sl ct cl) (hinv : sg_inv σ) (hac : sg_ac σ ≤ 512) (hsei : sg_sei σ) (ho8 : o < 8) : Met l y_Md_isWanted (wd_c y_Md_isWanted b_Md_isWanted 4 (some .boolean)) rm_Md_isWanted (va_Pc [.ref b, .int (nI o)] (hp_C D B M)) (va_Qi (fun (r : Int32) (M1 : hp_M) => M1 = M ∧ ((r = 1 ∧ (sg_qu σ o ≠ [] ∨ sg_offTo σ o)) ∨ (r = 0 ∧ sg_qu σ o = [] ∧ ¬ sg_offTo σ o))) (hp_C D B) (hp_ub B)) 0 0 (hp_ub B) := by
  refine hp_met (by decide) (Nat.le_of_ble_eq_true rfl) ?_
  intro p e s m args below meth cd ls Q hQ hx hb hr hts hown hlocks hnm hml hK hH hS hB hl
  replace hl : lv_has ls 4 [(0, .ref b), (1, .int (nI o))] := hl
  have hm0 := (hR.2.2.1 o ho8).1
  have hlen := Nat.le_trans (sg_len_le hinv ho8) hac
  refine lv_aload_n hx hb d_Md_isWanted_0 rfl (lv_at hl 0 rfl) ?_
  refine hp_get hx hb hts iw_Md hown hK hH hm.1 rfl 1 (by decide) (hts _ kw_147) (v := .ref (ad 0)) rfl d_Md_isWanted_1 ?_
  refine lv_iload_n hx hb d_Md_isWanted_4 rfl (lv_at hl 1 rfl) ?_
  refine hp_iald hx hb hK hH (show M (ad 0) = some (hp_ai D 8 (ct 0)) from hm.2.1 0 (by decide) (by decide) (by decide)) o rfl ho8 (by decide) (v := (ct 0 o)) rfl d_Md_isWanted_5 ?_
  refine lv_if_le (tgt := 13) hx hb d_Md_isWanted_6 (by decide) (fun c_1 => ?_) (fun c_1 => ?_)
  · refine lv_iconst (v := 0) hx hb d_Md_isWanted_13 (by decide) ?_
    refine lv_istore_n (lv' := [(2, .int 0), (0, .ref b), (1, .int (nI o))]) hx hb d_Md_isWanted_14 rfl hl (by decide) rfl (fun ls hl => ?_)
    refine lv_iconst (v := 0) hx hb d_Md_isWanted_15 (by decide) ?_
    refine lv_istore_n (lv' := [(3, .int 0), (2, .int 0), (0, .ref b), (1, .int (nI o))]) hx hb d_Md_isWanted_16 rfl hl (by decide) rfl (fun ls hl => ?_)
    have Lp : ∀ (n i : Nat) (v : Int32) (ls : Array Slot), i + n = 8 → ((v = 1 ∧ (sg_qu σ o ≠ [] ∨ sg_offTo σ o)) ∨ (v = 0 ∧ sg_qu σ o = [] ∧ ∀ j, j < i → ∀ c, sg_of σ j = some c → sg_co c ≠ o)) → lv_has ls 4 [(3, .int (nI i)), (2, .int v), (0, .ref b), (1, .int (nI o))] → W p l e rm_Md_isWanted s m args below meth cd s.heap [] 0 0 Q (F0 m 17 ls []) := by
      intro n
      induction n with
      | zero =>
        intro i v ls hn hv hl
        have e8 : i = 8 := by omega
        subst e8
        refine lv_iload_n hx hb d_Md_isWanted_17 rfl (lv_at hl 0 rfl) ?_
        refine lv_bipush (v := 8) hx hb d_Md_isWanted_18 (by decide) ?_
        refine lv_icmp_ge (tgt := 49) hx hb d_Md_isWanted_20 (by decide) (fun c_2 => ?_) (fun c_2 => absurd (nI_le (a := 8) (by omega) (by omega)) c_2)
        refine lv_iload_n hx hb d_Md_isWanted_49 rfl (lv_at hl 1 rfl) ?_
        exact hp_zret hx hb hr hlocks hQ hK hH hS (Nat.le_of_ble_eq_true rfl) (Nat.le_of_ble_eq_true rfl) (by rcases hv with h | h <;> rw [h.1] <;> rfl) d_Md_isWanted_50 ⟨rfl, by rcases hv with ⟨h1, h2⟩ | ⟨h1, h2, h3⟩; exact Or.inl ⟨h1, h2⟩; exact Or.inr ⟨h1, h2, fun ⟨j, hj, c, hc, e⟩ => h3 j hj c hc e⟩⟩
      | succ n ih =>
        intro i v ls hn hv hl
        have hi8 : i < 8 := by omega
        rcases hv with ⟨h1, h2⟩ | ⟨h1, h2, h3⟩
        · rw [h1] at hl
          refine lv_iload_n hx hb d_Md_isWanted_17 rfl (lv_at hl 0 rfl) ?_
          refine lv_bipush (v := 8) hx hb d_Md_isWanted_18 (by decide) ?_
          refine lv_icmp_ge (tgt := 49) hx hb d_Md_isWanted_20 (by decide) (fun c_3 => absurd c_3 (nI_ge (b := 8) (by omega) (by omega))) (fun c_3 => ?_)
          refine lv_iload_n hx hb d_Md_isWanted_23 rfl (lv_at hl 1 rfl) ?_
          refine lv_if_ne (tgt := 37) hx hb d_Md_isWanted_24 (by decide) (fun c_4 => ?_) (fun c_4 => absurd c_4 (by decide))
          refine lv_iconst (v := 1) hx hb d_Md_isWanted_37 (by decide) ?_
          refine lv_goto (tgt := 42) hx hb d_Md_isWanted_38 (by decide) ?_
          refine lv_istore_n (lv' := [(2, .int 1), (3, .int (nI i)), (0, .ref b), (1, .int (nI o))]) hx hb d_Md_isWanted_42 rfl hl (by decide) rfl (fun ls hl => ?_)
          refine lv_iinc (v := nI (i + 1)) (lv' := [(3, .int (nI (i + 1))), (2, .int 1), (0, .ref b), (1, .int (nI o))]) hx hb d_Md_isWanted_43 hl (k := 1) rfl (nI_1 i) (by decide) rfl (fun ls hl => ?_)
          refine lv_goto (tgt := 17) hx hb d_Md_isWanted_46 (by decide) ?_
          exact ih (i + 1) 1 ls (by omega) (Or.inl ⟨rfl, h2⟩) (lv_sub hl [0, 1, 2, 3] rfl)
        · rw [h1] at hl
          refine lv_iload_n hx hb d_Md_isWanted_17 rfl (lv_at hl 0 rfl) ?_
          refine lv_bipush (v := 8) hx hb d_Md_isWanted_18 (by decide) ?_
          refine lv_icmp_ge (tgt := 49) hx hb d_Md_isWanted_20 (by decide) (fun c_5 => absurd c_5 (nI_ge (b := 8) (by omega) (by omega))) (fun c_5 => ?_)
          refine lv_iload_n hx hb d_Md_isWanted_23 rfl (lv_at hl 1 rfl) ?_
          refine lv_if_ne (tgt := 37) hx hb d_Md_isWanted_24 (by decide) (fun c_6 => absurd rfl c_6) (fun c_6 => ?_)
          refine lv_aload_n hx hb d_Md_isWanted_27 rfl (lv_at hl 2 rfl) ?_
          refine hp_get hx hb hts iw_Md hown hK hH hm.1 rfl 11 (by decide) (hts _ kw_155) (v := .ref (ad 10)) rfl d_Md_isWanted_28 ?_
          refine lv_iload_n hx hb d_Md_isWanted_31 rfl (lv_at hl 0 rfl) ?_
          refine hp_iald hx hb hK hH (show M (ad 10) = some (hp_ai D 8 (ct 10)) from hm.2.1 10 (by decide) (by decide) (by decide)) i rfl hi8 (by decide) (v := (ct 10 i)) rfl d_Md_isWanted_32 ?_
          refine lv_iload_n hx hb d_Md_isWanted_33 rfl (lv_at hl 3 rfl) ?_
          refine lv_icmp_ne (tgt := 41) hx hb d_Md_isWanted_34 (by decide) (fun c_7 => ?_) (fun c_7 => ?_)
          · refine lv_iconst (v := 0) hx hb d_Md_isWanted_41 (by decide) ?_
            refine lv_istore_n (lv' := [(2, .int 0), (3, .int (nI i)), (0, .ref b), (1, .int (nI o))]) hx hb d_Md_isWanted_42 rfl hl (by decide) rfl (fun ls hl => ?_)
            refine lv_iinc (v := nI (i + 1)) (lv' := [(3, .int (nI (i + 1))), (2, .int 0), (0, .ref b), (1, .int (nI o))]) hx hb d_Md_isWanted_43 hl (k := 1) rfl (nI_1 i) (by decide) rfl (fun ls hl => ?_)
            refine lv_goto (tgt := 17) hx hb d_Md_isWanted_46 (by decide) ?_
            exact ih (i + 1) 0 ls (by omega) (Or.inr ⟨rfl, h2, fun j hj c hc => by rcases Nat.lt_succ_iff_lt_or_eq.mp hj with w | w; exact h3 j w c hc; subst w; intro q; have := hR.2.2.2 j hi8; rw [hc] at this; exact c_7 (by rw [← q]; exact this.1)⟩) (lv_sub hl [0, 1, 2, 3] rfl)
          · refine lv_iconst (v := 1) hx hb d_Md_isWanted_37 (by decide) ?_
            refine lv_goto (tgt := 42) hx hb d_Md_isWanted_38 (by decide) ?_
            refine lv_istore_n (lv' := [(2, .int 1), (3, .int (nI i)), (0, .ref b), (1, .int (nI o))]) hx hb d_Md_isWanted_42 rfl hl (by decide) rfl (fun ls hl => ?_)
            refine lv_iinc (v := nI (i + 1)) (lv' := [(3, .int (nI (i + 1))), (2, .int 1), (0, .ref b), (1, .int (nI o))]) hx hb d_Md_isWanted_43 hl (k := 1) rfl (nI_1 i) (by decide) rfl (fun ls hl => ?_)
            refine lv_goto (tgt := 17) hx hb d_Md_isWanted_46 (by decide) ?_
            exact ih (i + 1) 1 ls (by omega) (Or.inl ⟨rfl, Or.inr (by obtain ⟨d, e1, e2, -⟩ := mo_nm1 (hR.2.2.2 i hi8) (by rw [c_7]; exact md_m1 (by omega)); exact ⟨i, hi8, d, e1, (nI_eq (by have := ((hinv.2.1 i hi8).2 d e1).2.1; omega) (by omega)).mp (e2.symm.trans c_7)⟩)⟩) (lv_sub hl [0, 1, 2, 3] rfl)
    exact Lp 8 0 _ ls (by omega) (Or.inr ⟨rfl, sw_len0 hlen (fun q => absurd (by rw [← hm0] at q; exact q) (Int32.not_lt.mpr c_1)), fun j hj => absurd hj (Nat.not_lt_zero j)⟩) (lv_sub hl [0, 1, 2, 3] rfl)
  · refine lv_iconst (v := 1) hx hb d_Md_isWanted_9 (by decide) ?_
    refine lv_goto (tgt := 14) hx hb d_Md_isWanted_10 (by decide) ?_
    refine lv_istore_n (lv' := [(2, .int 1), (0, .ref b), (1, .int (nI o))]) hx hb d_Md_isWanted_14 rfl hl (by decide) rfl (fun ls hl => ?_)
    refine lv_iconst (v := 0) hx hb d_Md_isWanted_15 (by decide) ?_
    refine lv_istore_n (lv' := [(3, .int 0), (2, .int 1), (0, .ref b), (1, .int (nI o))]) hx hb d_Md_isWanted_16 rfl hl (by decide) rfl (fun ls hl => ?_)
    have Lp : ∀ (n i : Nat) (v : Int32) (ls : Array Slot), i + n = 8 → ((v = 1 ∧ (sg_qu σ o ≠ [] ∨ sg_offTo σ o)) ∨ (v = 0 ∧ sg_qu σ o = [] ∧ ∀ j, j < i → ∀ c, sg_of σ j = some c → sg_co c ≠ o)) → lv_has ls 4 [(3, .int (nI i)), (2, .int v), (0, .ref b), (1, .int (nI o))] → W p l e rm_Md_isWanted s m args below meth cd s.heap [] 0 0 Q (F0 m 17 ls []) := by
      intro n
      induction n with
      | zero =>
        intro i v ls hn hv hl
        have e8 : i = 8 := by omega
        subst e8
        refine lv_iload_n hx hb d_Md_isWanted_17 rfl (lv_at hl 0 rfl) ?_
        refine lv_bipush (v := 8) hx hb d_Md_isWanted_18 (by decide) ?_
        refine lv_icmp_ge (tgt := 49) hx hb d_Md_isWanted_20 (by decide) (fun c_8 => ?_) (fun c_8 => absurd (nI_le (a := 8) (by omega) (by omega)) c_8)
        refine lv_iload_n hx hb d_Md_isWanted_49 rfl (lv_at hl 1 rfl) ?_
        exact hp_zret hx hb hr hlocks hQ hK hH hS (Nat.le_of_ble_eq_true rfl) (Nat.le_of_ble_eq_true rfl) (by rcases hv with h | h <;> rw [h.1] <;> rfl) d_Md_isWanted_50 ⟨rfl, by rcases hv with ⟨h1, h2⟩ | ⟨h1, h2, h3⟩; exact Or.inl ⟨h1, h2⟩; exact Or.inr ⟨h1, h2, fun ⟨j, hj, c, hc, e⟩ => h3 j hj c hc e⟩⟩
      | succ n ih =>
        intro i v ls hn hv hl
        have hi8 : i < 8 := by omega
        rcases hv with ⟨h1, h2⟩ | ⟨h1, h2, h3⟩
        · rw [h1] at hl
          refine lv_iload_n hx hb d_Md_isWanted_17 rfl (lv_at hl 0 rfl) ?_
          refine lv_bipush (v := 8) hx hb d_Md_isWanted_18 (by decide) ?_
          refine lv_icmp_ge (tgt := 49) hx hb d_Md_isWanted_20 (by decide) (fun c_9 => absurd c_9 (nI_ge (b := 8) (by omega) (by omega))) (fun c_9 => ?_)
          refine lv_iload_n hx hb d_Md_isWanted_23 rfl (lv_at hl 1 rfl) ?_
          refine lv_if_ne (tgt := 37) hx hb d_Md_isWanted_24 (by decide) (fun c_10 => ?_) (fun c_10 => absurd c_10 (by decide))
          refine lv_iconst (v := 1) hx hb d_Md_isWanted_37 (by decide) ?_
          refine lv_goto (tgt := 42) hx hb d_Md_isWanted_38 (by decide) ?_
          refine lv_istore_n (lv' := [(2, .int 1), (3, .int (nI i)), (0, .ref b), (1, .int (nI o))]) hx hb d_Md_isWanted_42 rfl hl (by decide) rfl (fun ls hl => ?_)
          refine lv_iinc (v := nI (i + 1)) (lv' := [(3, .int (nI (i + 1))), (2, .int 1), (0, .ref b), (1, .int (nI o))]) hx hb d_Md_isWanted_43 hl (k := 1) rfl (nI_1 i) (by decide) rfl (fun ls hl => ?_)
          refine lv_goto (tgt := 17) hx hb d_Md_isWanted_46 (by decide) ?_
          exact ih (i + 1) 1 ls (by omega) (Or.inl ⟨rfl, h2⟩) (lv_sub hl [0, 1, 2, 3] rfl)
        · rw [h1] at hl
          refine lv_iload_n hx hb d_Md_isWanted_17 rfl (lv_at hl 0 rfl) ?_
          refine lv_bipush (v := 8) hx hb d_Md_isWanted_18 (by decide) ?_
          refine lv_icmp_ge (tgt := 49) hx hb d_Md_isWanted_20 (by decide) (fun c_11 => absurd c_11 (nI_ge (b := 8) (by omega) (by omega))) (fun c_11 => ?_)
          refine lv_iload_n hx hb d_Md_isWanted_23 rfl (lv_at hl 1 rfl) ?_
          refine lv_if_ne (tgt := 37) hx hb d_Md_isWanted_24 (by decide) (fun c_12 => absurd rfl c_12) (fun c_12 => ?_)
          refine lv_aload_n hx hb d_Md_isWanted_27 rfl (lv_at hl 2 rfl) ?_
          refine hp_get hx hb hts iw_Md hown hK hH hm.1 rfl 11 (by decide) (hts _ kw_155) (v := .ref (ad 10)) rfl d_Md_isWanted_28 ?_
          refine lv_iload_n hx hb d_Md_isWanted_31 rfl (lv_at hl 0 rfl) ?_
          refine hp_iald hx hb hK hH (show M (ad 10) = some (hp_ai D 8 (ct 10)) from hm.2.1 10 (by decide) (by decide) (by decide)) i rfl hi8 (by decide) (v := (ct 10 i)) rfl d_Md_isWanted_32 ?_
          refine lv_iload_n hx hb d_Md_isWanted_33 rfl (lv_at hl 3 rfl) ?_
          refine lv_icmp_ne (tgt := 41) hx hb d_Md_isWanted_34 (by decide) (fun c_13 => ?_) (fun c_13 => ?_)
          · refine lv_iconst (v := 0) hx hb d_Md_isWanted_41 (by decide) ?_
            refine lv_istore_n (lv' := [(2, .int 0), (3, .int (nI i)), (0, .ref b), (1, .int (nI o))]) hx hb d_Md_isWanted_42 rfl hl (by decide) rfl (fun ls hl => ?_)
            refine lv_iinc (v := nI (i + 1)) (lv' := [(3, .int (nI (i + 1))), (2, .int 0), (0, .ref b), (1, .int (nI o))]) hx hb d_Md_isWanted_43 hl (k := 1) rfl (nI_1 i) (by decide) rfl (fun ls hl => ?_)
            refine lv_goto (tgt := 17) hx hb d_Md_isWanted_46 (by decide) ?_
            exact ih (i + 1) 0 ls (by omega) (Or.inr ⟨rfl, h2, fun j hj c hc => by rcases Nat.lt_succ_iff_lt_or_eq.mp hj with w | w; exact h3 j w c hc; subst w; intro q; have := hR.2.2.2 j hi8; rw [hc] at this; exact c_13 (by rw [← q]; exact this.1)⟩) (lv_sub hl [0, 1, 2, 3] rfl)
          · refine lv_iconst (v := 1) hx hb d_Md_isWanted_37 (by decide) ?_
            refine lv_goto (tgt := 42) hx hb d_Md_isWanted_38 (by decide) ?_
            refine lv_istore_n (lv' := [(2, .int 1), (3, .int (nI i)), (0, .ref b), (1, .int (nI o))]) hx hb d_Md_isWanted_42 rfl hl (by decide) rfl (fun ls hl => ?_)
            refine lv_iinc (v := nI (i + 1)) (lv' := [(3, .int (nI (i + 1))), (2, .int 1), (0, .ref b), (1, .int (nI o))]) hx hb d_Md_isWanted_43 hl (k := 1) rfl (nI_1 i) (by decide) rfl (fun ls hl => ?_)
            refine lv_goto (tgt := 17) hx hb d_Md_isWanted_46 (by decide) ?_
            exact ih (i + 1) 1 ls (by omega) (Or.inl ⟨rfl, Or.inr (by obtain ⟨d, e1, e2, -⟩ := mo_nm1 (hR.2.2.2 i hi8) (by rw [c_13]; exact md_m1 (by omega)); exact ⟨i, hi8, d, e1, (nI_eq (by have := ((hinv.2.1 i hi8).2 d e1).2.1; omega) (by omega)).mp (e2.symm.trans c_13)⟩)⟩) (lv_sub hl [0, 1, 2, 3] rfl)
    exact Lp 8 0 _ ls (by omega) (Or.inl ⟨rfl, Or.inl (fun q => c_1 (by rw [hm0, q]; decide))⟩) (lv_sub hl [0, 1, 2, 3] rfl)
end
section
theorem kw_160 : Cond.methodLink R_Md 73 y_Md_isWanted ∈ wd_T := wd_in (List.mem_of_getElem? (i := 345) (by decide +kernel)) rfl
theorem kw_161 : Cond.code y_Md_isWanted b_Md_isWanted 4 (some .boolean) ∈ wd_T := wd_in (List.mem_of_getElem? (i := 348) (by decide +kernel)) rfl
theorem kw_162 : Cond.instanceMethod y_Md_isWanted ∈ wd_T := wd_in (List.mem_of_getElem? (i := 347) (by decide +kernel)) rfl
theorem kw_163 : Cond.selects R_Md y_Md_isWanted y_Md_isWanted ∈ wd_T := wd_in (List.mem_of_getElem? (i := 10) (by decide +kernel)) rfl
theorem kw_164 : Cond.fieldLink R_Md 32 "EvenSwitchModel" "kinds" "[I" ∈ wd_T := wd_in (List.mem_of_getElem? (i := 285) (by decide +kernel)) rfl
theorem kw_165 : Cond.fieldLink R_Md 35 "EvenSwitchModel" "weights" "[I" ∈ wd_T := wd_in (List.mem_of_getElem? (i := 286) (by decide +kernel)) rfl
theorem kw_166 : Cond.fieldLink R_Md 44 "EvenSwitchModel" "offeredClass" "[I" ∈ wd_T := wd_in (List.mem_of_getElem? (i := 289) (by decide +kernel)) rfl
theorem kw_167 : Cond.fieldLink R_Md 47 "EvenSwitchModel" "offeredTag" "[I" ∈ wd_T := wd_in (List.mem_of_getElem? (i := 290) (by decide +kernel)) rfl
theorem kw_168 : Cond.fieldLink R_Md 50 "EvenSwitchModel" "offeredAs" "[I" ∈ wd_T := wd_in (List.mem_of_getElem? (i := 291) (by decide +kernel)) rfl
theorem kw_169 : Cond.fieldLink R_Md 80 "EvenSwitchModel" "offers" "I" ∈ wd_T := wd_in (List.mem_of_getElem? (i := 292) (by decide +kernel)) rfl
theorem d_Md_setOrder_0 : decode b_Md_setOrder 0 = .ok (.aload_n 0, 1) := by decide +kernel
theorem d_Md_setOrder_1 : decode b_Md_setOrder 1 = .ok (.iconst 0, 1) := by decide +kernel
theorem d_Md_setOrder_2 : decode b_Md_setOrder 2 = .ok (.putfield 65, 3) := by decide +kernel
theorem d_Md_setOrder_5 : decode b_Md_setOrder 5 = .ok (.iload_n 1, 1) := by decide +kernel
theorem d_Md_setOrder_6 : decode b_Md_setOrder 6 = .ok (.invokestatic 69, 3) := by decide +kernel
theorem d_Md_setOrder_9 : decode b_Md_setOrder 9 = .ok (.ifCond .eq 20, 3) := by decide +kernel
theorem d_Md_setOrder_12 : decode b_Md_setOrder 12 = .ok (.iload_n 2, 1) := by decide +kernel
theorem d_Md_setOrder_13 : decode b_Md_setOrder 13 = .ok (.ifCond .lt 16, 3) := by decide +kernel
theorem d_Md_setOrder_16 : decode b_Md_setOrder 16 = .ok (.iload_n 2, 1) := by decide +kernel
theorem d_Md_setOrder_17 : decode b_Md_setOrder 17 = .ok (.iconst 2, 1) := by decide +kernel
theorem d_Md_setOrder_18 : decode b_Md_setOrder 18 = .ok (.if_icmp .gt 11, 3) := by decide +kernel
theorem d_Md_setOrder_21 : decode b_Md_setOrder 21 = .ok (.aload_n 0, 1) := by decide +kernel
theorem d_Md_setOrder_22 : decode b_Md_setOrder 22 = .ok (.iload_n 1, 1) := by decide +kernel
theorem d_Md_setOrder_23 : decode b_Md_setOrder 23 = .ok (.invokevirtual 73, 3) := by decide +kernel
theorem d_Md_setOrder_26 : decode b_Md_setOrder 26 = .ok (.ifCond .eq 5, 3) := by decide +kernel
theorem d_Md_setOrder_29 : decode b_Md_setOrder 29 = .ok (.iconst 0, 1) := by decide +kernel
theorem d_Md_setOrder_30 : decode b_Md_setOrder 30 = .ok (.ireturn, 1) := by decide +kernel
theorem d_Md_setOrder_31 : decode b_Md_setOrder 31 = .ok (.aload_n 0, 1) := by decide +kernel
theorem d_Md_setOrder_32 : decode b_Md_setOrder 32 = .ok (.getfield 32, 3) := by decide +kernel
theorem d_Md_setOrder_35 : decode b_Md_setOrder 35 = .ok (.iload_n 1, 1) := by decide +kernel
theorem d_Md_setOrder_36 : decode b_Md_setOrder 36 = .ok (.iload_n 2, 1) := by decide +kernel
theorem d_Md_setOrder_37 : decode b_Md_setOrder 37 = .ok (.iastore, 1) := by decide +kernel
theorem d_Md_setOrder_38 : decode b_Md_setOrder 38 = .ok (.iconst 1, 1) := by decide +kernel
theorem d_Md_setOrder_39 : decode b_Md_setOrder 39 = .ok (.ireturn, 1) := by decide +kernel
theorem d_Md_setWeight_0 : decode b_Md_setWeight 0 = .ok (.aload_n 0, 1) := by decide +kernel
theorem d_Md_setWeight_1 : decode b_Md_setWeight 1 = .ok (.iconst 0, 1) := by decide +kernel
theorem d_Md_setWeight_2 : decode b_Md_setWeight 2 = .ok (.putfield 65, 3) := by decide +kernel
theorem d_Md_setWeight_5 : decode b_Md_setWeight 5 = .ok (.iload_n 1, 1) := by decide +kernel
theorem d_Md_setWeight_6 : decode b_Md_setWeight 6 = .ok (.invokestatic 69, 3) := by decide +kernel
theorem d_Md_setWeight_9 : decode b_Md_setWeight 9 = .ok (.ifCond .eq 22, 3) := by decide +kernel
theorem d_Md_setWeight_12 : decode b_Md_setWeight 12 = .ok (.iload_n 2, 1) := by decide +kernel
theorem d_Md_setWeight_13 : decode b_Md_setWeight 13 = .ok (.invokestatic 69, 3) := by decide +kernel
theorem d_Md_setWeight_16 : decode b_Md_setWeight 16 = .ok (.ifCond .eq 15, 3) := by decide +kernel
theorem d_Md_setWeight_19 : decode b_Md_setWeight 19 = .ok (.iload_n 3, 1) := by decide +kernel
theorem d_Md_setWeight_20 : decode b_Md_setWeight 20 = .ok (.iconst 1, 1) := by decide +kernel
theorem d_Md_setWeight_21 : decode b_Md_setWeight 21 = .ok (.if_icmp .lt 10, 3) := by decide +kernel
theorem d_Md_setWeight_24 : decode b_Md_setWeight 24 = .ok (.iload_n 3, 1) := by decide +kernel
theorem d_Md_setWeight_25 : decode b_Md_setWeight 25 = .ok (.sipush 255, 3) := by decide +kernel
theorem d_Md_setWeight_28 : decode b_Md_setWeight 28 = .ok (.if_icmp .le 5, 3) := by decide +kernel
theorem d_Md_setWeight_31 : decode b_Md_setWeight 31 = .ok (.iconst 0, 1) := by decide +kernel
theorem d_Md_setWeight_32 : decode b_Md_setWeight 32 = .ok (.ireturn, 1) := by decide +kernel
theorem d_Md_setWeight_33 : decode b_Md_setWeight 33 = .ok (.aload_n 0, 1) := by decide +kernel
theorem d_Md_setWeight_34 : decode b_Md_setWeight 34 = .ok (.getfield 35, 3) := by decide +kernel
theorem d_Md_setWeight_37 : decode b_Md_setWeight 37 = .ok (.bipush 8, 2) := by decide +kernel
theorem d_Md_setWeight_39 : decode b_Md_setWeight 39 = .ok (.iload_n 1, 1) := by decide +kernel
theorem d_Md_setWeight_40 : decode b_Md_setWeight 40 = .ok (.imul, 1) := by decide +kernel
theorem d_Md_setWeight_41 : decode b_Md_setWeight 41 = .ok (.iload_n 2, 1) := by decide +kernel
theorem d_Md_setWeight_42 : decode b_Md_setWeight 42 = .ok (.iadd, 1) := by decide +kernel
theorem d_Md_setWeight_43 : decode b_Md_setWeight 43 = .ok (.iload_n 3, 1) := by decide +kernel
theorem d_Md_setWeight_44 : decode b_Md_setWeight 44 = .ok (.iastore, 1) := by decide +kernel
theorem d_Md_setWeight_45 : decode b_Md_setWeight 45 = .ok (.iconst 1, 1) := by decide +kernel
theorem d_Md_setWeight_46 : decode b_Md_setWeight 46 = .ok (.ireturn, 1) := by decide +kernel
theorem d_Md_offer_0 : decode b_Md_offer 0 = .ok (.aload_n 0, 1) := by decide +kernel
theorem d_Md_offer_1 : decode b_Md_offer 1 = .ok (.iconst 0, 1) := by decide +kernel
theorem d_Md_offer_2 : decode b_Md_offer 2 = .ok (.putfield 65, 3) := by decide +kernel
theorem d_Md_offer_5 : decode b_Md_offer 5 = .ok (.iload_n 1, 1) := by decide +kernel
theorem d_Md_offer_6 : decode b_Md_offer 6 = .ok (.invokestatic 69, 3) := by decide +kernel
theorem d_Md_offer_9 : decode b_Md_offer 9 = .ok (.ifCond .eq 37, 3) := by decide +kernel
theorem d_Md_offer_12 : decode b_Md_offer 12 = .ok (.iload_n 2, 1) := by decide +kernel
theorem d_Md_offer_13 : decode b_Md_offer 13 = .ok (.invokestatic 69, 3) := by decide +kernel
theorem d_Md_offer_16 : decode b_Md_offer 16 = .ok (.ifCond .eq 30, 3) := by decide +kernel
theorem d_Md_offer_19 : decode b_Md_offer 19 = .ok (.iload_n 3, 1) := by decide +kernel
theorem d_Md_offer_20 : decode b_Md_offer 20 = .ok (.invokestatic 69, 3) := by decide +kernel
theorem d_Md_offer_23 : decode b_Md_offer 23 = .ok (.ifCond .eq 23, 3) := by decide +kernel
theorem d_Md_offer_26 : decode b_Md_offer 26 = .ok (.aload_n 0, 1) := by decide +kernel
theorem d_Md_offer_27 : decode b_Md_offer 27 = .ok (.getfield 41, 3) := by decide +kernel
theorem d_Md_offer_30 : decode b_Md_offer 30 = .ok (.iload_n 1, 1) := by decide +kernel
theorem d_Md_offer_31 : decode b_Md_offer 31 = .ok (.iaload, 1) := by decide +kernel
theorem d_Md_offer_32 : decode b_Md_offer 32 = .ok (.iconst (-1), 1) := by decide +kernel
theorem d_Md_offer_33 : decode b_Md_offer 33 = .ok (.if_icmp .ne 13, 3) := by decide +kernel
theorem d_Md_offer_36 : decode b_Md_offer 36 = .ok (.aload_n 0, 1) := by decide +kernel
theorem d_Md_offer_37 : decode b_Md_offer 37 = .ok (.iload_n 1, 1) := by decide +kernel
theorem d_Md_offer_38 : decode b_Md_offer 38 = .ok (.invokevirtual 76, 3) := by decide +kernel
theorem d_Md_offer_41 : decode b_Md_offer 41 = .ok (.bipush 64, 2) := by decide +kernel
theorem d_Md_offer_43 : decode b_Md_offer 43 = .ok (.if_icmp .ne 5, 3) := by decide +kernel
theorem d_Md_offer_46 : decode b_Md_offer 46 = .ok (.iconst 0, 1) := by decide +kernel
theorem d_Md_offer_47 : decode b_Md_offer 47 = .ok (.ireturn, 1) := by decide +kernel
theorem d_Md_offer_48 : decode b_Md_offer 48 = .ok (.aload_n 0, 1) := by decide +kernel
theorem d_Md_offer_49 : decode b_Md_offer 49 = .ok (.getfield 41, 3) := by decide +kernel
theorem d_Md_offer_52 : decode b_Md_offer 52 = .ok (.iload_n 1, 1) := by decide +kernel
theorem d_Md_offer_53 : decode b_Md_offer 53 = .ok (.iload_n 2, 1) := by decide +kernel
theorem d_Md_offer_54 : decode b_Md_offer 54 = .ok (.iastore, 1) := by decide +kernel
theorem d_Md_offer_55 : decode b_Md_offer 55 = .ok (.aload_n 0, 1) := by decide +kernel
theorem d_Md_offer_56 : decode b_Md_offer 56 = .ok (.getfield 44, 3) := by decide +kernel
theorem d_Md_offer_59 : decode b_Md_offer 59 = .ok (.iload_n 1, 1) := by decide +kernel
theorem d_Md_offer_60 : decode b_Md_offer 60 = .ok (.iload_n 3, 1) := by decide +kernel
theorem d_Md_offer_61 : decode b_Md_offer 61 = .ok (.iastore, 1) := by decide +kernel
theorem d_Md_offer_62 : decode b_Md_offer 62 = .ok (.aload_n 0, 1) := by decide +kernel
theorem d_Md_offer_63 : decode b_Md_offer 63 = .ok (.getfield 47, 3) := by decide +kernel
theorem d_Md_offer_66 : decode b_Md_offer 66 = .ok (.iload_n 1, 1) := by decide +kernel
theorem d_Md_offer_67 : decode b_Md_offer 67 = .ok (.iload 4, 2) := by decide +kernel
theorem d_Md_offer_69 : decode b_Md_offer 69 = .ok (.iastore, 1) := by decide +kernel
theorem d_Md_offer_70 : decode b_Md_offer 70 = .ok (.aload_n 0, 1) := by decide +kernel
theorem d_Md_offer_71 : decode b_Md_offer 71 = .ok (.getfield 50, 3) := by decide +kernel
theorem d_Md_offer_74 : decode b_Md_offer 74 = .ok (.iload_n 1, 1) := by decide +kernel
theorem d_Md_offer_75 : decode b_Md_offer 75 = .ok (.aload_n 0, 1) := by decide +kernel
theorem d_Md_offer_76 : decode b_Md_offer 76 = .ok (.getfield 80, 3) := by decide +kernel
theorem d_Md_offer_79 : decode b_Md_offer 79 = .ok (.iastore, 1) := by decide +kernel
theorem d_Md_offer_80 : decode b_Md_offer 80 = .ok (.aload_n 0, 1) := by decide +kernel
theorem d_Md_offer_81 : decode b_Md_offer 81 = .ok (.dup, 1) := by decide +kernel
theorem d_Md_offer_82 : decode b_Md_offer 82 = .ok (.getfield 80, 3) := by decide +kernel
theorem d_Md_offer_85 : decode b_Md_offer 85 = .ok (.iconst 1, 1) := by decide +kernel
theorem d_Md_offer_86 : decode b_Md_offer 86 = .ok (.iadd, 1) := by decide +kernel
theorem d_Md_offer_87 : decode b_Md_offer 87 = .ok (.putfield 80, 3) := by decide +kernel
theorem d_Md_offer_90 : decode b_Md_offer 90 = .ok (.iconst 1, 1) := by decide +kernel
theorem d_Md_offer_91 : decode b_Md_offer 91 = .ok (.ireturn, 1) := by decide +kernel
abbrev rm_Md_setOrder : Room := { frames := 1, cells := 0, slots := 0, locals := 23 }
set_option maxHeartbeats 4000000 in
set_option maxRecDepth 100000 in
theorem cn_Md_setOrder (l : Launch) (D : va_G) (B : Nat) (M : hp_M) (b : Nat) (ad : Nat → Nat) (th of sl : Int32) (ct : Nat → Nat → Int32) (cl : Nat → Nat → Int64) (σ : sg_S) (x k : Int32) (hm : md_H D M b ad th of sl ct cl) (hR : mo_R σ (fun _ => sg_sl σ - 1) of sl ct cl) (hinv : sg_inv σ) (hac : sg_ac σ ≤ 512) (hsei : sg_sei σ) : Met l y_Md_setOrder (wd_c y_Md_setOrder b_Md_setOrder 3 (some .boolean)) rm_Md_setOrder (va_Pc [.ref b, .int x, .int k] (hp_C D B M)) (va_Qi (fun (r : Int32) (M1 : hp_M) => ∃ (τ : sg_S) (of' : Int32) (ct' : Nat → Nat → Int32), tr_setOrder σ x k r τ ∧ md_H D M1 b ad 0 of' sl ct' cl ∧ md_fr b ad M M1 ∧ mo_R τ (fun _ => sg_sl τ - 1) of' sl ct' cl) (hp_C D B) (hp_ub B)) 0 0 (hp_ub B) := by
  rcases sg_ok_or x k with hix | ⟨o, hk, rfl, hix, hbad⟩ | ⟨o, hk, rfl, hix, hgood⟩
  · refine hp_met (by decide) (Nat.le_of_ble_eq_true rfl) ?_
    intro p e s m args below meth cd ls Q hQ hx hb hr hts hown hlocks hnm hml hK hH hS hB hl
    replace hl : lv_has ls 3 [(0, .ref b), (1, .int x), (2, .int k)] := hl
    have hf : md_fr b ad M M := md_fr_rf
    refine lv_aload_n hx hb d_Md_setOrder_0 rfl (lv_at hl 0 rfl) ?_
    refine lv_iconst (v := 0) hx hb d_Md_setOrder_1 (by decide) ?_
    refine hp_put hx hb hts iw_Md t_Md t_Md_ok n_Md hown hK hH hS hB hm.1 rfl 0 (by decide) (hts _ kw_134) rfl  (v := .int 0) rfl rfl (Nat.le_of_ble_eq_true rfl) (fs' := [.int 0, .ref (ad 0), .ref (ad 1), .ref (ad 2), .ref (ad 3), .ref (ad 4), .ref (ad 5), .ref (ad 6), .ref (ad 7), .ref (ad 8), .ref (ad 9), .ref (ad 10), .ref (ad 11), .ref (ad 12), .ref (ad 13), .int of, .int sl, .ref (ad 14), .ref (ad 15), .ref (ad 16)]) rfl d_Md_setOrder_2 (fun M_1 H locs eM_1 hH hS => ?_)
    have hm := md_pb hm (th' := 0) (of' := of) (sl' := sl) eM_1
    have hf := md_fr_b hf eM_1
    refine lv_iload_n hx hb d_Md_setOrder_5 rfl (lv_at hl 1 rfl) ?_
    refine hp_calli (hp_runS (As := [.int x]) (rest := []) hx hb hml hown (cn_Md_isOne l D B M_1 x) (hp_cwS 1 hts kw_136 kw_139 kw_137 kw_138 rfl rfl (by decide +kernel) ⟨(Nat.le_of_ble_eq_true rfl), (Nat.le_of_ble_eq_true rfl)⟩) hK hH rfl hl.1 rfl (Nat.le_of_ble_eq_true rfl) d_Md_setOrder_6 ⟨(Nat.le_of_ble_eq_true rfl), (Nat.le_of_ble_eq_true rfl)⟩) hS (fun r_2 M_3 H locs w_4 hH hS => ?_)
    obtain ⟨eM, eR⟩ := w_4
    rw [eM] at hH
    rw [eR]
    refine lv_if_eq (tgt := 29) hx hb d_Md_setOrder_9 (by decide) (fun c_5 => ?_) (fun c_5 => absurd (sg_port_none hix) c_5)
    refine lv_iconst (v := 0) hx hb d_Md_setOrder_29 (by decide) ?_
    exact hp_zret hx hb hr hlocks hQ hK hH hS (Nat.le_of_ble_eq_true rfl) (Nat.le_of_ble_eq_true rfl) rfl d_Md_setOrder_30 ⟨σ, of, ct, Or.inr ⟨(fun o h => by rw [hix] at h; cases h), rfl, rfl⟩, hm, hf, hR⟩
  · refine hp_met (by decide) (Nat.le_of_ble_eq_true rfl) ?_
    intro p e s m args below meth cd ls Q hQ hx hb hr hts hown hlocks hnm hml hK hH hS hB hl
    replace hl : lv_has ls 3 [(0, .ref b), (1, .int (nI o)), (2, .int k)] := hl
    have hf : md_fr b ad M M := md_fr_rf
    refine lv_aload_n hx hb d_Md_setOrder_0 rfl (lv_at hl 0 rfl) ?_
    refine lv_iconst (v := 0) hx hb d_Md_setOrder_1 (by decide) ?_
    refine hp_put hx hb hts iw_Md t_Md t_Md_ok n_Md hown hK hH hS hB hm.1 rfl 0 (by decide) (hts _ kw_134) rfl  (v := .int 0) rfl rfl (Nat.le_of_ble_eq_true rfl) (fs' := [.int 0, .ref (ad 0), .ref (ad 1), .ref (ad 2), .ref (ad 3), .ref (ad 4), .ref (ad 5), .ref (ad 6), .ref (ad 7), .ref (ad 8), .ref (ad 9), .ref (ad 10), .ref (ad 11), .ref (ad 12), .ref (ad 13), .int of, .int sl, .ref (ad 14), .ref (ad 15), .ref (ad 16)]) rfl d_Md_setOrder_2 (fun M_1 H locs eM_1 hH hS => ?_)
    have hm := md_pb hm (th' := 0) (of' := of) (sl' := sl) eM_1
    have hf := md_fr_b hf eM_1
    refine lv_iload_n hx hb d_Md_setOrder_5 rfl (lv_at hl 1 rfl) ?_
    refine hp_calli (hp_runS (As := [.int (nI o)]) (rest := []) hx hb hml hown (cn_Md_isOne l D B M_1 (nI o)) (hp_cwS 1 hts kw_136 kw_139 kw_137 kw_138 rfl rfl (by decide +kernel) ⟨(Nat.le_of_ble_eq_true rfl), (Nat.le_of_ble_eq_true rfl)⟩) hK hH rfl hl.1 rfl (Nat.le_of_ble_eq_true rfl) d_Md_setOrder_6 ⟨(Nat.le_of_ble_eq_true rfl), (Nat.le_of_ble_eq_true rfl)⟩) hS (fun r_2 M_3 H locs w_4 hH hS => ?_)
    obtain ⟨eM, eR⟩ := w_4
    rw [eM] at hH
    rw [eR]
    refine lv_if_eq (tgt := 29) hx hb d_Md_setOrder_9 (by decide) (fun c_5 => absurd c_5 (by rw [sg_port_some hix]; decide)) (fun c_5 => ?_)
    refine lv_iload_n hx hb d_Md_setOrder_12 rfl (lv_at hl 2 rfl) ?_
    refine lv_if_lt (tgt := 29) hx hb d_Md_setOrder_13 (by decide) (fun c_6 => ?_) (fun c_6 => ?_)
    · refine lv_iconst (v := 0) hx hb d_Md_setOrder_29 (by decide) ?_
      exact hp_zret hx hb hr hlocks hQ hK hH hS (Nat.le_of_ble_eq_true rfl) (Nat.le_of_ble_eq_true rfl) rfl d_Md_setOrder_30 ⟨σ, of, ct, Or.inr ⟨(fun o h t => hbad ⟨t.1, t.2.1⟩), rfl, rfl⟩, hm, hf, hR⟩
    · refine lv_iload_n hx hb d_Md_setOrder_16 rfl (lv_at hl 2 rfl) ?_
      refine lv_iconst (v := 2) hx hb d_Md_setOrder_17 (by decide) ?_
      refine lv_icmp_gt (tgt := 29) hx hb d_Md_setOrder_18 (by decide) (fun c_7 => ?_) (fun c_7 => ?_)
      · refine lv_iconst (v := 0) hx hb d_Md_setOrder_29 (by decide) ?_
        exact hp_zret hx hb hr hlocks hQ hK hH hS (Nat.le_of_ble_eq_true rfl) (Nat.le_of_ble_eq_true rfl) rfl d_Md_setOrder_30 ⟨σ, of, ct, Or.inr ⟨(fun o h t => hbad ⟨t.1, t.2.1⟩), rfl, rfl⟩, hm, hf, hR⟩
      · exact absurd ⟨Int32.not_lt.mp c_6, Int32.not_lt.mp c_7⟩ hbad
  · refine hp_met (by decide) (Nat.le_of_ble_eq_true rfl) ?_
    intro p e s m args below meth cd ls Q hQ hx hb hr hts hown hlocks hnm hml hK hH hS hB hl
    replace hl : lv_has ls 3 [(0, .ref b), (1, .int (nI o)), (2, .int k)] := hl
    have hf : md_fr b ad M M := md_fr_rf
    refine lv_aload_n hx hb d_Md_setOrder_0 rfl (lv_at hl 0 rfl) ?_
    refine lv_iconst (v := 0) hx hb d_Md_setOrder_1 (by decide) ?_
    refine hp_put hx hb hts iw_Md t_Md t_Md_ok n_Md hown hK hH hS hB hm.1 rfl 0 (by decide) (hts _ kw_134) rfl  (v := .int 0) rfl rfl (Nat.le_of_ble_eq_true rfl) (fs' := [.int 0, .ref (ad 0), .ref (ad 1), .ref (ad 2), .ref (ad 3), .ref (ad 4), .ref (ad 5), .ref (ad 6), .ref (ad 7), .ref (ad 8), .ref (ad 9), .ref (ad 10), .ref (ad 11), .ref (ad 12), .ref (ad 13), .int of, .int sl, .ref (ad 14), .ref (ad 15), .ref (ad 16)]) rfl d_Md_setOrder_2 (fun M_1 H locs eM_1 hH hS => ?_)
    have hm := md_pb hm (th' := 0) (of' := of) (sl' := sl) eM_1
    have hf := md_fr_b hf eM_1
    refine lv_iload_n hx hb d_Md_setOrder_5 rfl (lv_at hl 1 rfl) ?_
    refine hp_calli (hp_runS (As := [.int (nI o)]) (rest := []) hx hb hml hown (cn_Md_isOne l D B M_1 (nI o)) (hp_cwS 1 hts kw_136 kw_139 kw_137 kw_138 rfl rfl (by decide +kernel) ⟨(Nat.le_of_ble_eq_true rfl), (Nat.le_of_ble_eq_true rfl)⟩) hK hH rfl hl.1 rfl (Nat.le_of_ble_eq_true rfl) d_Md_setOrder_6 ⟨(Nat.le_of_ble_eq_true rfl), (Nat.le_of_ble_eq_true rfl)⟩) hS (fun r_2 M_3 H locs w_4 hH hS => ?_)
    obtain ⟨eM, eR⟩ := w_4
    rw [eM] at hH
    rw [eR]
    refine lv_if_eq (tgt := 29) hx hb d_Md_setOrder_9 (by decide) (fun c_5 => absurd c_5 (by rw [sg_port_some hix]; decide)) (fun c_5 => ?_)
    refine lv_iload_n hx hb d_Md_setOrder_12 rfl (lv_at hl 2 rfl) ?_
    refine lv_if_lt (tgt := 29) hx hb d_Md_setOrder_13 (by decide) (fun c_6 => absurd c_6 (Int32.not_lt.mpr hgood.1)) (fun c_6 => ?_)
    refine lv_iload_n hx hb d_Md_setOrder_16 rfl (lv_at hl 2 rfl) ?_
    refine lv_iconst (v := 2) hx hb d_Md_setOrder_17 (by decide) ?_
    refine lv_icmp_gt (tgt := 29) hx hb d_Md_setOrder_18 (by decide) (fun c_7 => absurd c_7 (Int32.not_lt.mpr hgood.2)) (fun c_7 => ?_)
    refine lv_aload_n hx hb d_Md_setOrder_21 rfl (lv_at hl 0 rfl) ?_
    refine lv_iload_n hx hb d_Md_setOrder_22 rfl (lv_at hl 1 rfl) ?_
    refine hp_calli (hp_runV (b := b) (As := [.int (nI o)]) (rest := []) hx hb hml hown (cn_Md_isWanted l D B M_1 b ad 0 of sl ct cl σ o hm hR hinv hac hsei hk) (hp_cwV 1 hts kw_160 kw_162 kw_163 kw_137 kw_161 rfl rfl (by decide +kernel) ⟨(Nat.le_of_ble_eq_true rfl), (Nat.le_of_ble_eq_true rfl)⟩) hK hH hm.1 rfl rfl hl.1 rfl (Nat.le_of_ble_eq_true rfl) d_Md_setOrder_23 ⟨(Nat.le_of_ble_eq_true rfl), (Nat.le_of_ble_eq_true rfl)⟩) hS (fun r_8 M_9 H locs w_10 hH hS => ?_)
    rcases w_10 with ⟨eM, ⟨eR, hw2⟩ | ⟨eR, hq0, hof⟩⟩
    · rw [eM] at hH
      rw [eR]
      refine lv_if_eq (tgt := 31) hx hb d_Md_setOrder_26 (by decide) (fun c_11 => absurd c_11 (by decide)) (fun c_11 => ?_)
      refine lv_iconst (v := 0) hx hb d_Md_setOrder_29 (by decide) ?_
      exact hp_zret hx hb hr hlocks hQ hK hH hS (Nat.le_of_ble_eq_true rfl) (Nat.le_of_ble_eq_true rfl) rfl d_Md_setOrder_30 ⟨σ, of, ct, Or.inr ⟨(fun o' h t => by rw [hix] at h; cases h; rcases hw2 with q | q; exact q t.2.2.1; exact t.2.2.2 q), rfl, rfl⟩, hm, hf, hR⟩
    · rw [eM] at hH
      rw [eR]
      refine lv_if_eq (tgt := 31) hx hb d_Md_setOrder_26 (by decide) (fun c_12 => ?_) (fun c_12 => absurd rfl c_12)
      refine lv_aload_n hx hb d_Md_setOrder_31 rfl (lv_at hl 0 rfl) ?_
      refine hp_get hx hb hts iw_Md hown hK hH hm.1 rfl 8 (by decide) (hts _ kw_164) (v := .ref (ad 7)) rfl d_Md_setOrder_32 ?_
      refine lv_iload_n hx hb d_Md_setOrder_35 rfl (lv_at hl 1 rfl) ?_
      refine lv_iload_n hx hb d_Md_setOrder_36 rfl (lv_at hl 2 rfl) ?_
      refine hp_iast hx hb hK hH hS hB (show M_1 (ad 7) = some (hp_ai D 8 (ct 7)) from hm.2.1 7 (by decide) (by decide) (by decide)) o rfl hk (by decide) d_Md_setOrder_37 (fun M_13 H locs eM_13 hH hS => ?_)
      have hm := md_pi hm (j := 7) (by decide) (by decide) (by decide) eM_13
      have hf := md_fr_a (j := 7) (by decide) hf eM_13
      refine lv_iconst (v := 1) hx hb d_Md_setOrder_38 (by decide) ?_
      exact hp_zret hx hb hr hlocks hQ hK hH hS (Nat.le_of_ble_eq_true rfl) (Nat.le_of_ble_eq_true rfl) rfl d_Md_setOrder_39 ⟨_, of, _, Or.inl ⟨o, hix, ⟨hgood.1, hgood.2, hq0, hof⟩, rfl, rfl⟩, hm, hf, mo_setO hR⟩
abbrev rm_Md_setWeight : Room := { frames := 1, cells := 0, slots := 0, locals := 20 }
set_option maxHeartbeats 4000000 in
set_option maxRecDepth 100000 in
theorem cn_Md_setWeight (l : Launch) (D : va_G) (B : Nat) (M : hp_M) (b : Nat) (ad : Nat → Nat) (th of sl : Int32) (ct : Nat → Nat → Int32) (cl : Nat → Nat → Int64) (σ : sg_S) (x y w : Int32) (hm : md_H D M b ad th of sl ct cl) (hR : mo_R σ (fun _ => sg_sl σ - 1) of sl ct cl) (hinv : sg_inv σ) (hac : sg_ac σ ≤ 512) (hsei : sg_sei σ) : Met l y_Md_setWeight (wd_c y_Md_setWeight b_Md_setWeight 4 (some .boolean)) rm_Md_setWeight (va_Pc [.ref b, .int x, .int y, .int w] (hp_C D B M)) (va_Qi (fun (r : Int32) (M1 : hp_M) => ∃ (τ : sg_S) (of' : Int32) (ct' : Nat → Nat → Int32), tr_setWeight σ x y w r τ ∧ md_H D M1 b ad 0 of' sl ct' cl ∧ md_fr b ad M M1 ∧ mo_R τ (fun _ => sg_sl τ - 1) of' sl ct' cl) (hp_C D B) (hp_ub B)) 0 0 (hp_ub B) := by
  rcases sg_w_or x y w with hix | ⟨o, hk, rfl, hix, hiy⟩ | ⟨o, g, hk, rfl, hix, hg, rfl, hiy, hbad⟩ | ⟨o, g, hk, rfl, hix, hg, rfl, hiy, hgood⟩
  · refine hp_met (by decide) (Nat.le_of_ble_eq_true rfl) ?_
    intro p e s m args below meth cd ls Q hQ hx hb hr hts hown hlocks hnm hml hK hH hS hB hl
    replace hl : lv_has ls 4 [(0, .ref b), (1, .int x), (2, .int y), (3, .int w)] := hl
    have hf : md_fr b ad M M := md_fr_rf
    refine lv_aload_n hx hb d_Md_setWeight_0 rfl (lv_at hl 0 rfl) ?_
    refine lv_iconst (v := 0) hx hb d_Md_setWeight_1 (by decide) ?_
    refine hp_put hx hb hts iw_Md t_Md t_Md_ok n_Md hown hK hH hS hB hm.1 rfl 0 (by decide) (hts _ kw_134) rfl  (v := .int 0) rfl rfl (Nat.le_of_ble_eq_true rfl) (fs' := [.int 0, .ref (ad 0), .ref (ad 1), .ref (ad 2), .ref (ad 3), .ref (ad 4), .ref (ad 5), .ref (ad 6), .ref (ad 7), .ref (ad 8), .ref (ad 9), .ref (ad 10), .ref (ad 11), .ref (ad 12), .ref (ad 13), .int of, .int sl, .ref (ad 14), .ref (ad 15), .ref (ad 16)]) rfl d_Md_setWeight_2 (fun M_1 H locs eM_1 hH hS => ?_)
    have hm := md_pb hm (th' := 0) (of' := of) (sl' := sl) eM_1
    have hf := md_fr_b hf eM_1
    refine lv_iload_n hx hb d_Md_setWeight_5 rfl (lv_at hl 1 rfl) ?_
    refine hp_calli (hp_runS (As := [.int x]) (rest := []) hx hb hml hown (cn_Md_isOne l D B M_1 x) (hp_cwS 1 hts kw_136 kw_139 kw_137 kw_138 rfl rfl (by decide +kernel) ⟨(Nat.le_of_ble_eq_true rfl), (Nat.le_of_ble_eq_true rfl)⟩) hK hH rfl hl.1 rfl (Nat.le_of_ble_eq_true rfl) d_Md_setWeight_6 ⟨(Nat.le_of_ble_eq_true rfl), (Nat.le_of_ble_eq_true rfl)⟩) hS (fun r_2 M_3 H locs w_4 hH hS => ?_)
    obtain ⟨eM, eR⟩ := w_4
    rw [eM] at hH
    rw [eR]
    refine lv_if_eq (tgt := 31) hx hb d_Md_setWeight_9 (by decide) (fun c_5 => ?_) (fun c_5 => absurd (sg_port_none hix) c_5)
    refine lv_iconst (v := 0) hx hb d_Md_setWeight_31 (by decide) ?_
    exact hp_zret hx hb hr hlocks hQ hK hH hS (Nat.le_of_ble_eq_true rfl) (Nat.le_of_ble_eq_true rfl) rfl d_Md_setWeight_32 ⟨σ, of, ct, Or.inr ⟨(Or.inl hix), rfl, rfl⟩, hm, hf, hR⟩
  · refine hp_met (by decide) (Nat.le_of_ble_eq_true rfl) ?_
    intro p e s m args below meth cd ls Q hQ hx hb hr hts hown hlocks hnm hml hK hH hS hB hl
    replace hl : lv_has ls 4 [(0, .ref b), (1, .int (nI o)), (2, .int y), (3, .int w)] := hl
    have hf : md_fr b ad M M := md_fr_rf
    refine lv_aload_n hx hb d_Md_setWeight_0 rfl (lv_at hl 0 rfl) ?_
    refine lv_iconst (v := 0) hx hb d_Md_setWeight_1 (by decide) ?_
    refine hp_put hx hb hts iw_Md t_Md t_Md_ok n_Md hown hK hH hS hB hm.1 rfl 0 (by decide) (hts _ kw_134) rfl  (v := .int 0) rfl rfl (Nat.le_of_ble_eq_true rfl) (fs' := [.int 0, .ref (ad 0), .ref (ad 1), .ref (ad 2), .ref (ad 3), .ref (ad 4), .ref (ad 5), .ref (ad 6), .ref (ad 7), .ref (ad 8), .ref (ad 9), .ref (ad 10), .ref (ad 11), .ref (ad 12), .ref (ad 13), .int of, .int sl, .ref (ad 14), .ref (ad 15), .ref (ad 16)]) rfl d_Md_setWeight_2 (fun M_1 H locs eM_1 hH hS => ?_)
    have hm := md_pb hm (th' := 0) (of' := of) (sl' := sl) eM_1
    have hf := md_fr_b hf eM_1
    refine lv_iload_n hx hb d_Md_setWeight_5 rfl (lv_at hl 1 rfl) ?_
    refine hp_calli (hp_runS (As := [.int (nI o)]) (rest := []) hx hb hml hown (cn_Md_isOne l D B M_1 (nI o)) (hp_cwS 1 hts kw_136 kw_139 kw_137 kw_138 rfl rfl (by decide +kernel) ⟨(Nat.le_of_ble_eq_true rfl), (Nat.le_of_ble_eq_true rfl)⟩) hK hH rfl hl.1 rfl (Nat.le_of_ble_eq_true rfl) d_Md_setWeight_6 ⟨(Nat.le_of_ble_eq_true rfl), (Nat.le_of_ble_eq_true rfl)⟩) hS (fun r_2 M_3 H locs w_4 hH hS => ?_)
    obtain ⟨eM, eR⟩ := w_4
    rw [eM] at hH
    rw [eR]
    refine lv_if_eq (tgt := 31) hx hb d_Md_setWeight_9 (by decide) (fun c_5 => absurd c_5 (by rw [sg_port_some hix]; decide)) (fun c_5 => ?_)
    refine lv_iload_n hx hb d_Md_setWeight_12 rfl (lv_at hl 2 rfl) ?_
    refine hp_calli (hp_runS (As := [.int y]) (rest := []) hx hb hml hown (cn_Md_isOne l D B M_1 y) (hp_cwS 1 hts kw_136 kw_139 kw_137 kw_138 rfl rfl (by decide +kernel) ⟨(Nat.le_of_ble_eq_true rfl), (Nat.le_of_ble_eq_true rfl)⟩) hK hH rfl hl.1 rfl (Nat.le_of_ble_eq_true rfl) d_Md_setWeight_13 ⟨(Nat.le_of_ble_eq_true rfl), (Nat.le_of_ble_eq_true rfl)⟩) hS (fun r_6 M_7 H locs w_8 hH hS => ?_)
    obtain ⟨eM, eR⟩ := w_8
    rw [eM] at hH
    rw [eR]
    refine lv_if_eq (tgt := 31) hx hb d_Md_setWeight_16 (by decide) (fun c_9 => ?_) (fun c_9 => absurd (sg_port_none hiy) c_9)
    refine lv_iconst (v := 0) hx hb d_Md_setWeight_31 (by decide) ?_
    exact hp_zret hx hb hr hlocks hQ hK hH hS (Nat.le_of_ble_eq_true rfl) (Nat.le_of_ble_eq_true rfl) rfl d_Md_setWeight_32 ⟨σ, of, ct, Or.inr ⟨(Or.inr (Or.inl hiy)), rfl, rfl⟩, hm, hf, hR⟩
  · refine hp_met (by decide) (Nat.le_of_ble_eq_true rfl) ?_
    intro p e s m args below meth cd ls Q hQ hx hb hr hts hown hlocks hnm hml hK hH hS hB hl
    replace hl : lv_has ls 4 [(0, .ref b), (1, .int (nI o)), (2, .int (nI g)), (3, .int w)] := hl
    have hf : md_fr b ad M M := md_fr_rf
    refine lv_aload_n hx hb d_Md_setWeight_0 rfl (lv_at hl 0 rfl) ?_
    refine lv_iconst (v := 0) hx hb d_Md_setWeight_1 (by decide) ?_
    refine hp_put hx hb hts iw_Md t_Md t_Md_ok n_Md hown hK hH hS hB hm.1 rfl 0 (by decide) (hts _ kw_134) rfl  (v := .int 0) rfl rfl (Nat.le_of_ble_eq_true rfl) (fs' := [.int 0, .ref (ad 0), .ref (ad 1), .ref (ad 2), .ref (ad 3), .ref (ad 4), .ref (ad 5), .ref (ad 6), .ref (ad 7), .ref (ad 8), .ref (ad 9), .ref (ad 10), .ref (ad 11), .ref (ad 12), .ref (ad 13), .int of, .int sl, .ref (ad 14), .ref (ad 15), .ref (ad 16)]) rfl d_Md_setWeight_2 (fun M_1 H locs eM_1 hH hS => ?_)
    have hm := md_pb hm (th' := 0) (of' := of) (sl' := sl) eM_1
    have hf := md_fr_b hf eM_1
    refine lv_iload_n hx hb d_Md_setWeight_5 rfl (lv_at hl 1 rfl) ?_
    refine hp_calli (hp_runS (As := [.int (nI o)]) (rest := []) hx hb hml hown (cn_Md_isOne l D B M_1 (nI o)) (hp_cwS 1 hts kw_136 kw_139 kw_137 kw_138 rfl rfl (by decide +kernel) ⟨(Nat.le_of_ble_eq_true rfl), (Nat.le_of_ble_eq_true rfl)⟩) hK hH rfl hl.1 rfl (Nat.le_of_ble_eq_true rfl) d_Md_setWeight_6 ⟨(Nat.le_of_ble_eq_true rfl), (Nat.le_of_ble_eq_true rfl)⟩) hS (fun r_2 M_3 H locs w_4 hH hS => ?_)
    obtain ⟨eM, eR⟩ := w_4
    rw [eM] at hH
    rw [eR]
    refine lv_if_eq (tgt := 31) hx hb d_Md_setWeight_9 (by decide) (fun c_5 => absurd c_5 (by rw [sg_port_some hix]; decide)) (fun c_5 => ?_)
    refine lv_iload_n hx hb d_Md_setWeight_12 rfl (lv_at hl 2 rfl) ?_
    refine hp_calli (hp_runS (As := [.int (nI g)]) (rest := []) hx hb hml hown (cn_Md_isOne l D B M_1 (nI g)) (hp_cwS 1 hts kw_136 kw_139 kw_137 kw_138 rfl rfl (by decide +kernel) ⟨(Nat.le_of_ble_eq_true rfl), (Nat.le_of_ble_eq_true rfl)⟩) hK hH rfl hl.1 rfl (Nat.le_of_ble_eq_true rfl) d_Md_setWeight_13 ⟨(Nat.le_of_ble_eq_true rfl), (Nat.le_of_ble_eq_true rfl)⟩) hS (fun r_6 M_7 H locs w_8 hH hS => ?_)
    obtain ⟨eM, eR⟩ := w_8
    rw [eM] at hH
    rw [eR]
    refine lv_if_eq (tgt := 31) hx hb d_Md_setWeight_16 (by decide) (fun c_9 => absurd c_9 (by rw [sg_port_some hiy]; decide)) (fun c_9 => ?_)
    refine lv_iload_n hx hb d_Md_setWeight_19 rfl (lv_at hl 3 rfl) ?_
    refine lv_iconst (v := 1) hx hb d_Md_setWeight_20 (by decide) ?_
    refine lv_icmp_lt (tgt := 31) hx hb d_Md_setWeight_21 (by decide) (fun c_10 => ?_) (fun c_10 => ?_)
    · refine lv_iconst (v := 0) hx hb d_Md_setWeight_31 (by decide) ?_
      exact hp_zret hx hb hr hlocks hQ hK hH hS (Nat.le_of_ble_eq_true rfl) (Nat.le_of_ble_eq_true rfl) rfl d_Md_setWeight_32 ⟨σ, of, ct, Or.inr ⟨(Or.inr (Or.inr hbad)), rfl, rfl⟩, hm, hf, hR⟩
    · refine lv_iload_n hx hb d_Md_setWeight_24 rfl (lv_at hl 3 rfl) ?_
      refine lv_sipush (v := 255) hx hb d_Md_setWeight_25 (by decide) ?_
      refine lv_icmp_le (tgt := 33) hx hb d_Md_setWeight_28 (by decide) (fun c_11 => ?_) (fun c_11 => ?_)
      · exact absurd ⟨Int32.not_lt.mp c_10, c_11⟩ hbad
      · refine lv_iconst (v := 0) hx hb d_Md_setWeight_31 (by decide) ?_
        exact hp_zret hx hb hr hlocks hQ hK hH hS (Nat.le_of_ble_eq_true rfl) (Nat.le_of_ble_eq_true rfl) rfl d_Md_setWeight_32 ⟨σ, of, ct, Or.inr ⟨(Or.inr (Or.inr hbad)), rfl, rfl⟩, hm, hf, hR⟩
  · refine hp_met (by decide) (Nat.le_of_ble_eq_true rfl) ?_
    intro p e s m args below meth cd ls Q hQ hx hb hr hts hown hlocks hnm hml hK hH hS hB hl
    replace hl : lv_has ls 4 [(0, .ref b), (1, .int (nI o)), (2, .int (nI g)), (3, .int w)] := hl
    have hf : md_fr b ad M M := md_fr_rf
    refine lv_aload_n hx hb d_Md_setWeight_0 rfl (lv_at hl 0 rfl) ?_
    refine lv_iconst (v := 0) hx hb d_Md_setWeight_1 (by decide) ?_
    refine hp_put hx hb hts iw_Md t_Md t_Md_ok n_Md hown hK hH hS hB hm.1 rfl 0 (by decide) (hts _ kw_134) rfl  (v := .int 0) rfl rfl (Nat.le_of_ble_eq_true rfl) (fs' := [.int 0, .ref (ad 0), .ref (ad 1), .ref (ad 2), .ref (ad 3), .ref (ad 4), .ref (ad 5), .ref (ad 6), .ref (ad 7), .ref (ad 8), .ref (ad 9), .ref (ad 10), .ref (ad 11), .ref (ad 12), .ref (ad 13), .int of, .int sl, .ref (ad 14), .ref (ad 15), .ref (ad 16)]) rfl d_Md_setWeight_2 (fun M_1 H locs eM_1 hH hS => ?_)
    have hm := md_pb hm (th' := 0) (of' := of) (sl' := sl) eM_1
    have hf := md_fr_b hf eM_1
    refine lv_iload_n hx hb d_Md_setWeight_5 rfl (lv_at hl 1 rfl) ?_
    refine hp_calli (hp_runS (As := [.int (nI o)]) (rest := []) hx hb hml hown (cn_Md_isOne l D B M_1 (nI o)) (hp_cwS 1 hts kw_136 kw_139 kw_137 kw_138 rfl rfl (by decide +kernel) ⟨(Nat.le_of_ble_eq_true rfl), (Nat.le_of_ble_eq_true rfl)⟩) hK hH rfl hl.1 rfl (Nat.le_of_ble_eq_true rfl) d_Md_setWeight_6 ⟨(Nat.le_of_ble_eq_true rfl), (Nat.le_of_ble_eq_true rfl)⟩) hS (fun r_2 M_3 H locs w_4 hH hS => ?_)
    obtain ⟨eM, eR⟩ := w_4
    rw [eM] at hH
    rw [eR]
    refine lv_if_eq (tgt := 31) hx hb d_Md_setWeight_9 (by decide) (fun c_5 => absurd c_5 (by rw [sg_port_some hix]; decide)) (fun c_5 => ?_)
    refine lv_iload_n hx hb d_Md_setWeight_12 rfl (lv_at hl 2 rfl) ?_
    refine hp_calli (hp_runS (As := [.int (nI g)]) (rest := []) hx hb hml hown (cn_Md_isOne l D B M_1 (nI g)) (hp_cwS 1 hts kw_136 kw_139 kw_137 kw_138 rfl rfl (by decide +kernel) ⟨(Nat.le_of_ble_eq_true rfl), (Nat.le_of_ble_eq_true rfl)⟩) hK hH rfl hl.1 rfl (Nat.le_of_ble_eq_true rfl) d_Md_setWeight_13 ⟨(Nat.le_of_ble_eq_true rfl), (Nat.le_of_ble_eq_true rfl)⟩) hS (fun r_6 M_7 H locs w_8 hH hS => ?_)
    obtain ⟨eM, eR⟩ := w_8
    rw [eM] at hH
    rw [eR]
    refine lv_if_eq (tgt := 31) hx hb d_Md_setWeight_16 (by decide) (fun c_9 => absurd c_9 (by rw [sg_port_some hiy]; decide)) (fun c_9 => ?_)
    refine lv_iload_n hx hb d_Md_setWeight_19 rfl (lv_at hl 3 rfl) ?_
    refine lv_iconst (v := 1) hx hb d_Md_setWeight_20 (by decide) ?_
    refine lv_icmp_lt (tgt := 31) hx hb d_Md_setWeight_21 (by decide) (fun c_10 => absurd c_10 (Int32.not_lt.mpr hgood.1)) (fun c_10 => ?_)
    refine lv_iload_n hx hb d_Md_setWeight_24 rfl (lv_at hl 3 rfl) ?_
    refine lv_sipush (v := 255) hx hb d_Md_setWeight_25 (by decide) ?_
    refine lv_icmp_le (tgt := 33) hx hb d_Md_setWeight_28 (by decide) (fun c_11 => ?_) (fun c_11 => absurd hgood.2 c_11)
    refine lv_aload_n hx hb d_Md_setWeight_33 rfl (lv_at hl 0 rfl) ?_
    refine hp_get hx hb hts iw_Md hown hK hH hm.1 rfl 9 (by decide) (hts _ kw_165) (v := .ref (ad 8)) rfl d_Md_setWeight_34 ?_
    refine lv_bipush (v := 8) hx hb d_Md_setWeight_37 (by decide) ?_
    refine lv_iload_n hx hb d_Md_setWeight_39 rfl (lv_at hl 1 rfl) ?_
    refine lv_imul hx hb d_Md_setWeight_40 ?_
    refine lv_iload_n hx hb d_Md_setWeight_41 rfl (lv_at hl 2 rfl) ?_
    refine lv_iadd hx hb d_Md_setWeight_42 ?_
    refine lv_iload_n hx hb d_Md_setWeight_43 rfl (lv_at hl 3 rfl) ?_
    refine hp_iast hx hb hK hH hS hB (show M_1 (ad 8) = some (hp_ai D 64 (ct 8)) from hm.2.1 8 (by decide) (by decide) (by decide)) (8 * o + g) (md_ix8 o g) (by omega) (by decide) d_Md_setWeight_44 (fun M_12 H locs eM_12 hH hS => ?_)
    have hm := md_pi hm (j := 8) (by decide) (by decide) (by decide) eM_12
    have hf := md_fr_a (j := 8) (by decide) hf eM_12
    refine lv_iconst (v := 1) hx hb d_Md_setWeight_45 (by decide) ?_
    exact hp_zret hx hb hr hlocks hQ hK hH hS (Nat.le_of_ble_eq_true rfl) (Nat.le_of_ble_eq_true rfl) rfl d_Md_setWeight_46 ⟨_, of, _, Or.inl ⟨o, g, hix, hiy, hgood, rfl, rfl⟩, hm, hf, mo_setW hR hg⟩
abbrev rm_Md_offer : Room := { frames := 1, cells := 0, slots := 0, locals := 24 }
set_option maxHeartbeats 4000000 in
set_option maxRecDepth 100000 in
theorem cn_Md_offer (l : Launch) (D : va_G) (B : Nat) (M : hp_M) (b : Nat) (ad : Nat → Nat) (th of sl : Int32) (ct : Nat → Nat → Int32) (cl : Nat → Nat → Int64) (σ : sg_S) (x y z t : Int32) (hm : md_H D M b ad th of sl ct cl) (hR : mo_R σ (fun _ => sg_sl σ - 1) of sl ct cl) (hinv : sg_inv σ) (hac : sg_ac σ ≤ 512) (hsei : sg_sei σ) : Met l y_Md_offer (wd_c y_Md_offer b_Md_offer 5 (some .boolean)) rm_Md_offer (va_Pc [.ref b, .int x, .int y, .int z, .int t] (hp_C D B M)) (va_Qi (fun (r : Int32) (M1 : hp_M) => ∃ (τ : sg_S) (of' : Int32) (ct' : Nat → Nat → Int32), tr_offer σ x y z t r τ ∧ md_H D M1 b ad 0 of' sl ct' cl ∧ md_fr b ad M M1 ∧ mo_R τ (fun _ => sg_sl τ - 1) of' sl ct' cl) (hp_C D B) (hp_ub B)) 0 0 (hp_ub B) := by
  rcases sg_o_or x y z with hix | ⟨i, hi8, rfl, hix, hiy⟩ | ⟨i, o, hi8, rfl, hix, ho8, rfl, hiy, hiz⟩ | ⟨i, o, k, hi8, rfl, hix, ho8, rfl, hiy, hk8, rfl, hiz⟩
  · refine hp_met (by decide) (Nat.le_of_ble_eq_true rfl) ?_
    intro p e s m args below meth cd ls Q hQ hx hb hr hts hown hlocks hnm hml hK hH hS hB hl
    replace hl : lv_has ls 5 [(0, .ref b), (1, .int x), (2, .int y), (3, .int z), (4, .int t)] := hl
    have hf : md_fr b ad M M := md_fr_rf
    refine lv_aload_n hx hb d_Md_offer_0 rfl (lv_at hl 0 rfl) ?_
    refine lv_iconst (v := 0) hx hb d_Md_offer_1 (by decide) ?_
    refine hp_put hx hb hts iw_Md t_Md t_Md_ok n_Md hown hK hH hS hB hm.1 rfl 0 (by decide) (hts _ kw_134) rfl  (v := .int 0) rfl rfl (Nat.le_of_ble_eq_true rfl) (fs' := [.int 0, .ref (ad 0), .ref (ad 1), .ref (ad 2), .ref (ad 3), .ref (ad 4), .ref (ad 5), .ref (ad 6), .ref (ad 7), .ref (ad 8), .ref (ad 9), .ref (ad 10), .ref (ad 11), .ref (ad 12), .ref (ad 13), .int of, .int sl, .ref (ad 14), .ref (ad 15), .ref (ad 16)]) rfl d_Md_offer_2 (fun M_1 H locs eM_1 hH hS => ?_)
    have hm := md_pb hm (th' := 0) (of' := of) (sl' := sl) eM_1
    have hf := md_fr_b hf eM_1
    refine lv_iload_n hx hb d_Md_offer_5 rfl (lv_at hl 1 rfl) ?_
    refine hp_calli (hp_runS (As := [.int x]) (rest := []) hx hb hml hown (cn_Md_isOne l D B M_1 x) (hp_cwS 1 hts kw_136 kw_139 kw_137 kw_138 rfl rfl (by decide +kernel) ⟨(Nat.le_of_ble_eq_true rfl), (Nat.le_of_ble_eq_true rfl)⟩) hK hH rfl hl.1 rfl (Nat.le_of_ble_eq_true rfl) d_Md_offer_6 ⟨(Nat.le_of_ble_eq_true rfl), (Nat.le_of_ble_eq_true rfl)⟩) hS (fun r_2 M_3 H locs w_4 hH hS => ?_)
    obtain ⟨eM, eR⟩ := w_4
    rw [eM] at hH
    rw [eR]
    refine lv_if_eq (tgt := 46) hx hb d_Md_offer_9 (by decide) (fun c_5 => ?_) (fun c_5 => absurd (sg_port_none hix) c_5)
    refine lv_iconst (v := 0) hx hb d_Md_offer_46 (by decide) ?_
    exact hp_zret hx hb hr hlocks hQ hK hH hS (Nat.le_of_ble_eq_true rfl) (Nat.le_of_ble_eq_true rfl) rfl d_Md_offer_47 ⟨σ, of, ct, Or.inr ⟨(Or.inl hix), rfl, rfl⟩, hm, hf, hR⟩
  · refine hp_met (by decide) (Nat.le_of_ble_eq_true rfl) ?_
    intro p e s m args below meth cd ls Q hQ hx hb hr hts hown hlocks hnm hml hK hH hS hB hl
    replace hl : lv_has ls 5 [(0, .ref b), (1, .int (nI i)), (2, .int y), (3, .int z), (4, .int t)] := hl
    have hf : md_fr b ad M M := md_fr_rf
    refine lv_aload_n hx hb d_Md_offer_0 rfl (lv_at hl 0 rfl) ?_
    refine lv_iconst (v := 0) hx hb d_Md_offer_1 (by decide) ?_
    refine hp_put hx hb hts iw_Md t_Md t_Md_ok n_Md hown hK hH hS hB hm.1 rfl 0 (by decide) (hts _ kw_134) rfl  (v := .int 0) rfl rfl (Nat.le_of_ble_eq_true rfl) (fs' := [.int 0, .ref (ad 0), .ref (ad 1), .ref (ad 2), .ref (ad 3), .ref (ad 4), .ref (ad 5), .ref (ad 6), .ref (ad 7), .ref (ad 8), .ref (ad 9), .ref (ad 10), .ref (ad 11), .ref (ad 12), .ref (ad 13), .int of, .int sl, .ref (ad 14), .ref (ad 15), .ref (ad 16)]) rfl d_Md_offer_2 (fun M_1 H locs eM_1 hH hS => ?_)
    have hm := md_pb hm (th' := 0) (of' := of) (sl' := sl) eM_1
    have hf := md_fr_b hf eM_1
    refine lv_iload_n hx hb d_Md_offer_5 rfl (lv_at hl 1 rfl) ?_
    refine hp_calli (hp_runS (As := [.int (nI i)]) (rest := []) hx hb hml hown (cn_Md_isOne l D B M_1 (nI i)) (hp_cwS 1 hts kw_136 kw_139 kw_137 kw_138 rfl rfl (by decide +kernel) ⟨(Nat.le_of_ble_eq_true rfl), (Nat.le_of_ble_eq_true rfl)⟩) hK hH rfl hl.1 rfl (Nat.le_of_ble_eq_true rfl) d_Md_offer_6 ⟨(Nat.le_of_ble_eq_true rfl), (Nat.le_of_ble_eq_true rfl)⟩) hS (fun r_2 M_3 H locs w_4 hH hS => ?_)
    obtain ⟨eM, eR⟩ := w_4
    rw [eM] at hH
    rw [eR]
    refine lv_if_eq (tgt := 46) hx hb d_Md_offer_9 (by decide) (fun c_5 => absurd c_5 (by rw [sg_port_some hix]; decide)) (fun c_5 => ?_)
    refine lv_iload_n hx hb d_Md_offer_12 rfl (lv_at hl 2 rfl) ?_
    refine hp_calli (hp_runS (As := [.int y]) (rest := []) hx hb hml hown (cn_Md_isOne l D B M_1 y) (hp_cwS 1 hts kw_136 kw_139 kw_137 kw_138 rfl rfl (by decide +kernel) ⟨(Nat.le_of_ble_eq_true rfl), (Nat.le_of_ble_eq_true rfl)⟩) hK hH rfl hl.1 rfl (Nat.le_of_ble_eq_true rfl) d_Md_offer_13 ⟨(Nat.le_of_ble_eq_true rfl), (Nat.le_of_ble_eq_true rfl)⟩) hS (fun r_6 M_7 H locs w_8 hH hS => ?_)
    obtain ⟨eM, eR⟩ := w_8
    rw [eM] at hH
    rw [eR]
    refine lv_if_eq (tgt := 46) hx hb d_Md_offer_16 (by decide) (fun c_9 => ?_) (fun c_9 => absurd (sg_port_none hiy) c_9)
    refine lv_iconst (v := 0) hx hb d_Md_offer_46 (by decide) ?_
    exact hp_zret hx hb hr hlocks hQ hK hH hS (Nat.le_of_ble_eq_true rfl) (Nat.le_of_ble_eq_true rfl) rfl d_Md_offer_47 ⟨σ, of, ct, Or.inr ⟨(Or.inr (Or.inl hiy)), rfl, rfl⟩, hm, hf, hR⟩
  · refine hp_met (by decide) (Nat.le_of_ble_eq_true rfl) ?_
    intro p e s m args below meth cd ls Q hQ hx hb hr hts hown hlocks hnm hml hK hH hS hB hl
    replace hl : lv_has ls 5 [(0, .ref b), (1, .int (nI i)), (2, .int (nI o)), (3, .int z), (4, .int t)] := hl
    have hf : md_fr b ad M M := md_fr_rf
    refine lv_aload_n hx hb d_Md_offer_0 rfl (lv_at hl 0 rfl) ?_
    refine lv_iconst (v := 0) hx hb d_Md_offer_1 (by decide) ?_
    refine hp_put hx hb hts iw_Md t_Md t_Md_ok n_Md hown hK hH hS hB hm.1 rfl 0 (by decide) (hts _ kw_134) rfl  (v := .int 0) rfl rfl (Nat.le_of_ble_eq_true rfl) (fs' := [.int 0, .ref (ad 0), .ref (ad 1), .ref (ad 2), .ref (ad 3), .ref (ad 4), .ref (ad 5), .ref (ad 6), .ref (ad 7), .ref (ad 8), .ref (ad 9), .ref (ad 10), .ref (ad 11), .ref (ad 12), .ref (ad 13), .int of, .int sl, .ref (ad 14), .ref (ad 15), .ref (ad 16)]) rfl d_Md_offer_2 (fun M_1 H locs eM_1 hH hS => ?_)
    have hm := md_pb hm (th' := 0) (of' := of) (sl' := sl) eM_1
    have hf := md_fr_b hf eM_1
    refine lv_iload_n hx hb d_Md_offer_5 rfl (lv_at hl 1 rfl) ?_
    refine hp_calli (hp_runS (As := [.int (nI i)]) (rest := []) hx hb hml hown (cn_Md_isOne l D B M_1 (nI i)) (hp_cwS 1 hts kw_136 kw_139 kw_137 kw_138 rfl rfl (by decide +kernel) ⟨(Nat.le_of_ble_eq_true rfl), (Nat.le_of_ble_eq_true rfl)⟩) hK hH rfl hl.1 rfl (Nat.le_of_ble_eq_true rfl) d_Md_offer_6 ⟨(Nat.le_of_ble_eq_true rfl), (Nat.le_of_ble_eq_true rfl)⟩) hS (fun r_2 M_3 H locs w_4 hH hS => ?_)
    obtain ⟨eM, eR⟩ := w_4
    rw [eM] at hH
    rw [eR]
    refine lv_if_eq (tgt := 46) hx hb d_Md_offer_9 (by decide) (fun c_5 => absurd c_5 (by rw [sg_port_some hix]; decide)) (fun c_5 => ?_)
    refine lv_iload_n hx hb d_Md_offer_12 rfl (lv_at hl 2 rfl) ?_
    refine hp_calli (hp_runS (As := [.int (nI o)]) (rest := []) hx hb hml hown (cn_Md_isOne l D B M_1 (nI o)) (hp_cwS 1 hts kw_136 kw_139 kw_137 kw_138 rfl rfl (by decide +kernel) ⟨(Nat.le_of_ble_eq_true rfl), (Nat.le_of_ble_eq_true rfl)⟩) hK hH rfl hl.1 rfl (Nat.le_of_ble_eq_true rfl) d_Md_offer_13 ⟨(Nat.le_of_ble_eq_true rfl), (Nat.le_of_ble_eq_true rfl)⟩) hS (fun r_6 M_7 H locs w_8 hH hS => ?_)
    obtain ⟨eM, eR⟩ := w_8
    rw [eM] at hH
    rw [eR]
    refine lv_if_eq (tgt := 46) hx hb d_Md_offer_16 (by decide) (fun c_9 => absurd c_9 (by rw [sg_port_some hiy]; decide)) (fun c_9 => ?_)
    refine lv_iload_n hx hb d_Md_offer_19 rfl (lv_at hl 3 rfl) ?_
    refine hp_calli (hp_runS (As := [.int z]) (rest := []) hx hb hml hown (cn_Md_isOne l D B M_1 z) (hp_cwS 1 hts kw_136 kw_139 kw_137 kw_138 rfl rfl (by decide +kernel) ⟨(Nat.le_of_ble_eq_true rfl), (Nat.le_of_ble_eq_true rfl)⟩) hK hH rfl hl.1 rfl (Nat.le_of_ble_eq_true rfl) d_Md_offer_20 ⟨(Nat.le_of_ble_eq_true rfl), (Nat.le_of_ble_eq_true rfl)⟩) hS (fun r_10 M_11 H locs w_12 hH hS => ?_)
    obtain ⟨eM, eR⟩ := w_12
    rw [eM] at hH
    rw [eR]
    refine lv_if_eq (tgt := 46) hx hb d_Md_offer_23 (by decide) (fun c_13 => ?_) (fun c_13 => absurd (sg_port_none hiz) c_13)
    refine lv_iconst (v := 0) hx hb d_Md_offer_46 (by decide) ?_
    exact hp_zret hx hb hr hlocks hQ hK hH hS (Nat.le_of_ble_eq_true rfl) (Nat.le_of_ble_eq_true rfl) rfl d_Md_offer_47 ⟨σ, of, ct, Or.inr ⟨(Or.inr (Or.inr (Or.inl hiz))), rfl, rfl⟩, hm, hf, hR⟩
  · refine hp_met (by decide) (Nat.le_of_ble_eq_true rfl) ?_
    intro p e s m args below meth cd ls Q hQ hx hb hr hts hown hlocks hnm hml hK hH hS hB hl
    replace hl : lv_has ls 5 [(0, .ref b), (1, .int (nI i)), (2, .int (nI o)), (3, .int (nI k)), (4, .int t)] := hl
    have hf : md_fr b ad M M := md_fr_rf
    refine lv_aload_n hx hb d_Md_offer_0 rfl (lv_at hl 0 rfl) ?_
    refine lv_iconst (v := 0) hx hb d_Md_offer_1 (by decide) ?_
    refine hp_put hx hb hts iw_Md t_Md t_Md_ok n_Md hown hK hH hS hB hm.1 rfl 0 (by decide) (hts _ kw_134) rfl  (v := .int 0) rfl rfl (Nat.le_of_ble_eq_true rfl) (fs' := [.int 0, .ref (ad 0), .ref (ad 1), .ref (ad 2), .ref (ad 3), .ref (ad 4), .ref (ad 5), .ref (ad 6), .ref (ad 7), .ref (ad 8), .ref (ad 9), .ref (ad 10), .ref (ad 11), .ref (ad 12), .ref (ad 13), .int of, .int sl, .ref (ad 14), .ref (ad 15), .ref (ad 16)]) rfl d_Md_offer_2 (fun M_1 H locs eM_1 hH hS => ?_)
    have hm := md_pb hm (th' := 0) (of' := of) (sl' := sl) eM_1
    have hf := md_fr_b hf eM_1
    refine lv_iload_n hx hb d_Md_offer_5 rfl (lv_at hl 1 rfl) ?_
    refine hp_calli (hp_runS (As := [.int (nI i)]) (rest := []) hx hb hml hown (cn_Md_isOne l D B M_1 (nI i)) (hp_cwS 1 hts kw_136 kw_139 kw_137 kw_138 rfl rfl (by decide +kernel) ⟨(Nat.le_of_ble_eq_true rfl), (Nat.le_of_ble_eq_true rfl)⟩) hK hH rfl hl.1 rfl (Nat.le_of_ble_eq_true rfl) d_Md_offer_6 ⟨(Nat.le_of_ble_eq_true rfl), (Nat.le_of_ble_eq_true rfl)⟩) hS (fun r_2 M_3 H locs w_4 hH hS => ?_)
    obtain ⟨eM, eR⟩ := w_4
    rw [eM] at hH
    rw [eR]
    refine lv_if_eq (tgt := 46) hx hb d_Md_offer_9 (by decide) (fun c_5 => absurd c_5 (by rw [sg_port_some hix]; decide)) (fun c_5 => ?_)
    refine lv_iload_n hx hb d_Md_offer_12 rfl (lv_at hl 2 rfl) ?_
    refine hp_calli (hp_runS (As := [.int (nI o)]) (rest := []) hx hb hml hown (cn_Md_isOne l D B M_1 (nI o)) (hp_cwS 1 hts kw_136 kw_139 kw_137 kw_138 rfl rfl (by decide +kernel) ⟨(Nat.le_of_ble_eq_true rfl), (Nat.le_of_ble_eq_true rfl)⟩) hK hH rfl hl.1 rfl (Nat.le_of_ble_eq_true rfl) d_Md_offer_13 ⟨(Nat.le_of_ble_eq_true rfl), (Nat.le_of_ble_eq_true rfl)⟩) hS (fun r_6 M_7 H locs w_8 hH hS => ?_)
    obtain ⟨eM, eR⟩ := w_8
    rw [eM] at hH
    rw [eR]
    refine lv_if_eq (tgt := 46) hx hb d_Md_offer_16 (by decide) (fun c_9 => absurd c_9 (by rw [sg_port_some hiy]; decide)) (fun c_9 => ?_)
    refine lv_iload_n hx hb d_Md_offer_19 rfl (lv_at hl 3 rfl) ?_
    refine hp_calli (hp_runS (As := [.int (nI k)]) (rest := []) hx hb hml hown (cn_Md_isOne l D B M_1 (nI k)) (hp_cwS 1 hts kw_136 kw_139 kw_137 kw_138 rfl rfl (by decide +kernel) ⟨(Nat.le_of_ble_eq_true rfl), (Nat.le_of_ble_eq_true rfl)⟩) hK hH rfl hl.1 rfl (Nat.le_of_ble_eq_true rfl) d_Md_offer_20 ⟨(Nat.le_of_ble_eq_true rfl), (Nat.le_of_ble_eq_true rfl)⟩) hS (fun r_10 M_11 H locs w_12 hH hS => ?_)
    obtain ⟨eM, eR⟩ := w_12
    rw [eM] at hH
    rw [eR]
    refine lv_if_eq (tgt := 46) hx hb d_Md_offer_23 (by decide) (fun c_13 => absurd c_13 (by rw [sg_port_some hiz]; decide)) (fun c_13 => ?_)
    refine lv_aload_n hx hb d_Md_offer_26 rfl (lv_at hl 0 rfl) ?_
    refine hp_get hx hb hts iw_Md hown hK hH hm.1 rfl 11 (by decide) (hts _ kw_155) (v := .ref (ad 10)) rfl d_Md_offer_27 ?_
    refine lv_iload_n hx hb d_Md_offer_30 rfl (lv_at hl 1 rfl) ?_
    refine hp_iald hx hb hK hH (show M_1 (ad 10) = some (hp_ai D 8 (ct 10)) from hm.2.1 10 (by decide) (by decide) (by decide)) i rfl hi8 (by decide) (v := (ct 10 i)) rfl d_Md_offer_31 ?_
    refine lv_iconst (v := (-1)) hx hb d_Md_offer_32 (by decide) ?_
    refine lv_icmp_ne (tgt := 46) hx hb d_Md_offer_33 (by decide) (fun c_14 => ?_) (fun c_14 => ?_)
    · obtain ⟨d, e1, -⟩ := mo_nm1 (hR.2.2.2 i hi8) c_14
      refine lv_iconst (v := 0) hx hb d_Md_offer_46 (by decide) ?_
      exact hp_zret hx hb hr hlocks hQ hK hH hS (Nat.le_of_ble_eq_true rfl) (Nat.le_of_ble_eq_true rfl) rfl d_Md_offer_47 ⟨σ, of, ct, Or.inr ⟨(Or.inr (Or.inr (Or.inr ⟨i, hix, Or.inl (by rw [e1]; intro q; cases q)⟩))), rfl, rfl⟩, hm, hf, hR⟩
    · have hof := mo_m1 (tk := 0) (hR.2.2.2 i hi8) (fun d hd => ((hinv.2.1 i hi8).2 d hd).2.1) c_14
      refine lv_aload_n hx hb d_Md_offer_36 rfl (lv_at hl 0 rfl) ?_
      refine lv_iload_n hx hb d_Md_offer_37 rfl (lv_at hl 1 rfl) ?_
      refine hp_calli (hp_runV (b := b) (As := [.int (nI i)]) (rest := []) hx hb hml hown (cn_Md_insideOf l D B M_1 b ad 0 of sl ct cl σ i hm hR hinv hac hsei hi8) (hp_cwV 1 hts kw_156 kw_158 kw_159 kw_137 kw_157 rfl rfl (by decide +kernel) ⟨(Nat.le_of_ble_eq_true rfl), (Nat.le_of_ble_eq_true rfl)⟩) hK hH hm.1 rfl rfl hl.1 rfl (Nat.le_of_ble_eq_true rfl) d_Md_offer_38 ⟨(Nat.le_of_ble_eq_true rfl), (Nat.le_of_ble_eq_true rfl)⟩) hS (fun r_15 M_16 H locs w_17 hH hS => ?_)
      obtain ⟨eM, eR⟩ := w_17
      rw [eM] at hH
      rw [eR]
      refine lv_bipush (v := 64) hx hb d_Md_offer_41 (by decide) ?_
      refine lv_icmp_ne (tgt := 48) hx hb d_Md_offer_43 (by decide) (fun c_18 => ?_) (fun c_18 => ?_)
      · have hlt : sg_held σ i < 64 := by have h1 := (hinv.2.1 i hi8).1; have h2 : sg_held σ i ≠ 64 := fun q => c_18 (by rw [q]; rfl); omega
        refine lv_aload_n hx hb d_Md_offer_48 rfl (lv_at hl 0 rfl) ?_
        refine hp_get hx hb hts iw_Md hown hK hH hm.1 rfl 11 (by decide) (hts _ kw_155) (v := .ref (ad 10)) rfl d_Md_offer_49 ?_
        refine lv_iload_n hx hb d_Md_offer_52 rfl (lv_at hl 1 rfl) ?_
        refine lv_iload_n hx hb d_Md_offer_53 rfl (lv_at hl 2 rfl) ?_
        refine hp_iast hx hb hK hH hS hB (show M_1 (ad 10) = some (hp_ai D 8 (ct 10)) from hm.2.1 10 (by decide) (by decide) (by decide)) i rfl hi8 (by decide) d_Md_offer_54 (fun M_19 H locs eM_19 hH hS => ?_)
        have hm := md_pi hm (j := 10) (by decide) (by decide) (by decide) eM_19
        have hf := md_fr_a (j := 10) (by decide) hf eM_19
        refine lv_aload_n hx hb d_Md_offer_55 rfl (lv_at hl 0 rfl) ?_
        refine hp_get hx hb hts iw_Md hown hK hH hm.1 rfl 12 (by decide) (hts _ kw_166) (v := .ref (ad 11)) rfl d_Md_offer_56 ?_
        refine lv_iload_n hx hb d_Md_offer_59 rfl (lv_at hl 1 rfl) ?_
        refine lv_iload_n hx hb d_Md_offer_60 rfl (lv_at hl 3 rfl) ?_
        refine hp_iast hx hb hK hH hS hB (show M_19 (ad 11) = some (hp_ai D 8 (ct 11)) from hm.2.1 11 (by decide) (by decide) (by decide)) i rfl hi8 (by decide) d_Md_offer_61 (fun M_20 H locs eM_20 hH hS => ?_)
        have hm := md_pi hm (j := 11) (by decide) (by decide) (by decide) eM_20
        have hf := md_fr_a (j := 11) (by decide) hf eM_20
        refine lv_aload_n hx hb d_Md_offer_62 rfl (lv_at hl 0 rfl) ?_
        refine hp_get hx hb hts iw_Md hown hK hH hm.1 rfl 13 (by decide) (hts _ kw_167) (v := .ref (ad 12)) rfl d_Md_offer_63 ?_
        refine lv_iload_n hx hb d_Md_offer_66 rfl (lv_at hl 1 rfl) ?_
        refine lv_iload hx hb d_Md_offer_67 (lv_at hl 4 rfl) ?_
        refine hp_iast hx hb hK hH hS hB (show M_20 (ad 12) = some (hp_ai D 8 (ct 12)) from hm.2.1 12 (by decide) (by decide) (by decide)) i rfl hi8 (by decide) d_Md_offer_69 (fun M_21 H locs eM_21 hH hS => ?_)
        have hm := md_pi hm (j := 12) (by decide) (by decide) (by decide) eM_21
        have hf := md_fr_a (j := 12) (by decide) hf eM_21
        refine lv_aload_n hx hb d_Md_offer_70 rfl (lv_at hl 0 rfl) ?_
        refine hp_get hx hb hts iw_Md hown hK hH hm.1 rfl 14 (by decide) (hts _ kw_168) (v := .ref (ad 13)) rfl d_Md_offer_71 ?_
        refine lv_iload_n hx hb d_Md_offer_74 rfl (lv_at hl 1 rfl) ?_
        refine lv_aload_n hx hb d_Md_offer_75 rfl (lv_at hl 0 rfl) ?_
        refine hp_get hx hb hts iw_Md hown hK hH hm.1 rfl 15 (by decide) (hts _ kw_169) (v := .int of) rfl d_Md_offer_76 ?_
        refine hp_iast hx hb hK hH hS hB (show M_21 (ad 13) = some (hp_ai D 8 (ct 13)) from hm.2.1 13 (by decide) (by decide) (by decide)) i rfl hi8 (by decide) d_Md_offer_79 (fun M_22 H locs eM_22 hH hS => ?_)
        have hm := md_pi hm (j := 13) (by decide) (by decide) (by decide) eM_22
        have hf := md_fr_a (j := 13) (by decide) hf eM_22
        refine lv_aload_n hx hb d_Md_offer_80 rfl (lv_at hl 0 rfl) ?_
        refine lv_dup hx hb d_Md_offer_81 rfl ?_
        refine hp_get hx hb hts iw_Md hown hK hH hm.1 rfl 15 (by decide) (hts _ kw_169) (v := .int of) rfl d_Md_offer_82 ?_
        refine lv_iconst (v := 1) hx hb d_Md_offer_85 (by decide) ?_
        refine lv_iadd hx hb d_Md_offer_86 ?_
        refine hp_ioi (v := nI (sg_ac σ + 1)) (by rw [hR.1]; exact nI_1 _) ?_
        refine hp_put hx hb hts iw_Md t_Md t_Md_ok n_Md hown hK hH hS hB hm.1 rfl 15 (by decide) (hts _ kw_169) rfl  (v := .int (nI (sg_ac σ + 1))) rfl rfl (Nat.le_of_ble_eq_true rfl) (fs' := [.int 0, .ref (ad 0), .ref (ad 1), .ref (ad 2), .ref (ad 3), .ref (ad 4), .ref (ad 5), .ref (ad 6), .ref (ad 7), .ref (ad 8), .ref (ad 9), .ref (ad 10), .ref (ad 11), .ref (ad 12), .ref (ad 13), .int (nI (sg_ac σ + 1)), .int sl, .ref (ad 14), .ref (ad 15), .ref (ad 16)]) rfl d_Md_offer_87 (fun M_23 H locs eM_23 hH hS => ?_)
        have hm := md_pb hm (th' := 0) (of' := nI (sg_ac σ + 1)) (sl' := sl) eM_23
        have hf := md_fr_b hf eM_23
        refine lv_iconst (v := 1) hx hb d_Md_offer_90 (by decide) ?_
        exact hp_zret hx hb hr hlocks hQ hK hH hS (Nat.le_of_ble_eq_true rfl) (Nat.le_of_ble_eq_true rfl) rfl d_Md_offer_91 ⟨_, _, _, Or.inl ⟨i, o, k, hix, hiy, hiz, hof, hlt, rfl, rfl⟩, hm, hf, mo_offer hR⟩
      · refine lv_iconst (v := 0) hx hb d_Md_offer_46 (by decide) ?_
        exact hp_zret hx hb hr hlocks hQ hK hH hS (Nat.le_of_ble_eq_true rfl) (Nat.le_of_ble_eq_true rfl) rfl d_Md_offer_47 ⟨σ, of, ct, Or.inr ⟨(Or.inr (Or.inr (Or.inr ⟨i, hix, Or.inr (fun q => by have := (nI_eq (b := 64) (by omega) (by decide)).mp c_18; omega)⟩))), rfl, rfl⟩, hm, hf, hR⟩
end
section
theorem kw_170 : Cond.fieldLink R_Md 38 "EvenSwitchModel" "lastTimes" "[J" ∈ wd_T := wd_in (List.mem_of_getElem? (i := 287) (by decide +kernel)) rfl
theorem kw_171 : Cond.methodLink R_Md 62 y_Md_empty ∈ wd_T := wd_in (List.mem_of_getElem? (i := 273) (by decide +kernel)) rfl
theorem kw_172 : Cond.code y_Md_empty b_Md_empty 2 none ∈ wd_T := wd_in (List.mem_of_getElem? (i := 276) (by decide +kernel)) rfl
theorem kw_173 : Cond.instanceMethod y_Md_empty ∈ wd_T := wd_in (List.mem_of_getElem? (i := 275) (by decide +kernel)) rfl
theorem kw_174 : Cond.selects R_Md y_Md_empty y_Md_empty ∈ wd_T := wd_in (List.mem_of_getElem? (i := 9) (by decide +kernel)) rfl
theorem kw_175 : Cond.methodLink R_Md 1 objectInit ∈ wd_T := wd_in (List.mem_of_getElem? (i := 272) (by decide +kernel)) rfl
theorem kw_176 : Cond.fieldLink R_Md 16 "EvenSwitchModel" "classes" "[I" ∈ wd_T := wd_in (List.mem_of_getElem? (i := 280) (by decide +kernel)) rfl
theorem kw_177 : Cond.fieldLink R_Md 19 "EvenSwitchModel" "tags" "[I" ∈ wd_T := wd_in (List.mem_of_getElem? (i := 281) (by decide +kernel)) rfl
theorem kw_178 : Cond.fieldLink R_Md 26 "EvenSwitchModel" "came" "[I" ∈ wd_T := wd_in (List.mem_of_getElem? (i := 283) (by decide +kernel)) rfl
theorem kw_179 : Cond.fieldLink R_Md 29 "EvenSwitchModel" "accepted" "[I" ∈ wd_T := wd_in (List.mem_of_getElem? (i := 284) (by decide +kernel)) rfl
theorem d_Md_empty_0 : decode b_Md_empty 0 = .ok (.iconst 0, 1) := by decide +kernel
theorem d_Md_empty_1 : decode b_Md_empty 1 = .ok (.istore_n 1, 1) := by decide +kernel
theorem d_Md_empty_2 : decode b_Md_empty 2 = .ok (.iload_n 1, 1) := by decide +kernel
theorem d_Md_empty_3 : decode b_Md_empty 3 = .ok (.bipush 8, 2) := by decide +kernel
theorem d_Md_empty_5 : decode b_Md_empty 5 = .ok (.if_icmp .ge 30, 3) := by decide +kernel
theorem d_Md_empty_8 : decode b_Md_empty 8 = .ok (.aload_n 0, 1) := by decide +kernel
theorem d_Md_empty_9 : decode b_Md_empty 9 = .ok (.getfield 7, 3) := by decide +kernel
theorem d_Md_empty_12 : decode b_Md_empty 12 = .ok (.iload_n 1, 1) := by decide +kernel
theorem d_Md_empty_13 : decode b_Md_empty 13 = .ok (.iconst 0, 1) := by decide +kernel
theorem d_Md_empty_14 : decode b_Md_empty 14 = .ok (.iastore, 1) := by decide +kernel
theorem d_Md_empty_15 : decode b_Md_empty 15 = .ok (.aload_n 0, 1) := by decide +kernel
theorem d_Md_empty_16 : decode b_Md_empty 16 = .ok (.getfield 41, 3) := by decide +kernel
theorem d_Md_empty_19 : decode b_Md_empty 19 = .ok (.iload_n 1, 1) := by decide +kernel
theorem d_Md_empty_20 : decode b_Md_empty 20 = .ok (.iconst (-1), 1) := by decide +kernel
theorem d_Md_empty_21 : decode b_Md_empty 21 = .ok (.iastore, 1) := by decide +kernel
theorem d_Md_empty_22 : decode b_Md_empty 22 = .ok (.aload_n 0, 1) := by decide +kernel
theorem d_Md_empty_23 : decode b_Md_empty 23 = .ok (.getfield 53, 3) := by decide +kernel
theorem d_Md_empty_26 : decode b_Md_empty 26 = .ok (.iload_n 1, 1) := by decide +kernel
theorem d_Md_empty_27 : decode b_Md_empty 27 = .ok (.iconst (-1), 1) := by decide +kernel
theorem d_Md_empty_28 : decode b_Md_empty 28 = .ok (.iastore, 1) := by decide +kernel
theorem d_Md_empty_29 : decode b_Md_empty 29 = .ok (.iinc 1 1, 3) := by decide +kernel
theorem d_Md_empty_32 : decode b_Md_empty 32 = .ok (.goto (-30), 3) := by decide +kernel
theorem d_Md_empty_35 : decode b_Md_empty 35 = .ok (.iconst 0, 1) := by decide +kernel
theorem d_Md_empty_36 : decode b_Md_empty 36 = .ok (.istore_n 1, 1) := by decide +kernel
theorem d_Md_empty_37 : decode b_Md_empty 37 = .ok (.iload_n 1, 1) := by decide +kernel
theorem d_Md_empty_38 : decode b_Md_empty 38 = .ok (.bipush 64, 2) := by decide +kernel
theorem d_Md_empty_40 : decode b_Md_empty 40 = .ok (.if_icmp .ge 16, 3) := by decide +kernel
theorem d_Md_empty_43 : decode b_Md_empty 43 = .ok (.aload_n 0, 1) := by decide +kernel
theorem d_Md_empty_44 : decode b_Md_empty 44 = .ok (.getfield 38, 3) := by decide +kernel
theorem d_Md_empty_47 : decode b_Md_empty 47 = .ok (.iload_n 1, 1) := by decide +kernel
theorem d_Md_empty_48 : decode b_Md_empty 48 = .ok (.lconst 0, 1) := by decide +kernel
theorem d_Md_empty_49 : decode b_Md_empty 49 = .ok (.lastore, 1) := by decide +kernel
theorem d_Md_empty_50 : decode b_Md_empty 50 = .ok (.iinc 1 1, 3) := by decide +kernel
theorem d_Md_empty_53 : decode b_Md_empty 53 = .ok (.goto (-16), 3) := by decide +kernel
theorem d_Md_empty_56 : decode b_Md_empty 56 = .ok (.return_, 1) := by decide +kernel
theorem d_Md_reset_0 : decode b_Md_reset 0 = .ok (.aload_n 0, 1) := by decide +kernel
theorem d_Md_reset_1 : decode b_Md_reset 1 = .ok (.iconst 0, 1) := by decide +kernel
theorem d_Md_reset_2 : decode b_Md_reset 2 = .ok (.putfield 65, 3) := by decide +kernel
theorem d_Md_reset_5 : decode b_Md_reset 5 = .ok (.aload_n 0, 1) := by decide +kernel
theorem d_Md_reset_6 : decode b_Md_reset 6 = .ok (.invokevirtual 62, 3) := by decide +kernel
theorem d_Md_reset_9 : decode b_Md_reset 9 = .ok (.return_, 1) := by decide +kernel
theorem d_Md_init_0 : decode b_Md_init 0 = .ok (.aload_n 0, 1) := by decide +kernel
theorem d_Md_init_1 : decode b_Md_init 1 = .ok (.invokespecial 1, 3) := by decide +kernel
theorem d_Md_init_4 : decode b_Md_init 4 = .ok (.aload_n 0, 1) := by decide +kernel
theorem d_Md_init_5 : decode b_Md_init 5 = .ok (.bipush 8, 2) := by decide +kernel
theorem d_Md_init_7 : decode b_Md_init 7 = .ok (.newarray .int, 2) := by decide +kernel
theorem d_Md_init_9 : decode b_Md_init 9 = .ok (.putfield 7, 3) := by decide +kernel
theorem d_Md_init_12 : decode b_Md_init 12 = .ok (.aload_n 0, 1) := by decide +kernel
theorem d_Md_init_13 : decode b_Md_init 13 = .ok (.sipush 4096, 3) := by decide +kernel
theorem d_Md_init_16 : decode b_Md_init 16 = .ok (.newarray .int, 2) := by decide +kernel
theorem d_Md_init_18 : decode b_Md_init 18 = .ok (.putfield 13, 3) := by decide +kernel
theorem d_Md_init_21 : decode b_Md_init 21 = .ok (.aload_n 0, 1) := by decide +kernel
theorem d_Md_init_22 : decode b_Md_init 22 = .ok (.sipush 4096, 3) := by decide +kernel
theorem d_Md_init_25 : decode b_Md_init 25 = .ok (.newarray .int, 2) := by decide +kernel
theorem d_Md_init_27 : decode b_Md_init 27 = .ok (.putfield 16, 3) := by decide +kernel
theorem d_Md_init_30 : decode b_Md_init 30 = .ok (.aload_n 0, 1) := by decide +kernel
theorem d_Md_init_31 : decode b_Md_init 31 = .ok (.sipush 4096, 3) := by decide +kernel
theorem d_Md_init_34 : decode b_Md_init 34 = .ok (.newarray .int, 2) := by decide +kernel
theorem d_Md_init_36 : decode b_Md_init 36 = .ok (.putfield 19, 3) := by decide +kernel
theorem d_Md_init_39 : decode b_Md_init 39 = .ok (.aload_n 0, 1) := by decide +kernel
theorem d_Md_init_40 : decode b_Md_init 40 = .ok (.sipush 4096, 3) := by decide +kernel
theorem d_Md_init_43 : decode b_Md_init 43 = .ok (.newarray .long, 2) := by decide +kernel
theorem d_Md_init_45 : decode b_Md_init 45 = .ok (.putfield 22, 3) := by decide +kernel
theorem d_Md_init_48 : decode b_Md_init 48 = .ok (.aload_n 0, 1) := by decide +kernel
theorem d_Md_init_49 : decode b_Md_init 49 = .ok (.sipush 4096, 3) := by decide +kernel
theorem d_Md_init_52 : decode b_Md_init 52 = .ok (.newarray .int, 2) := by decide +kernel
theorem d_Md_init_54 : decode b_Md_init 54 = .ok (.putfield 26, 3) := by decide +kernel
theorem d_Md_init_57 : decode b_Md_init 57 = .ok (.aload_n 0, 1) := by decide +kernel
theorem d_Md_init_58 : decode b_Md_init 58 = .ok (.sipush 4096, 3) := by decide +kernel
theorem d_Md_init_61 : decode b_Md_init 61 = .ok (.newarray .int, 2) := by decide +kernel
theorem d_Md_init_63 : decode b_Md_init 63 = .ok (.putfield 29, 3) := by decide +kernel
theorem d_Md_init_66 : decode b_Md_init 66 = .ok (.aload_n 0, 1) := by decide +kernel
theorem d_Md_init_67 : decode b_Md_init 67 = .ok (.bipush 8, 2) := by decide +kernel
theorem d_Md_init_69 : decode b_Md_init 69 = .ok (.newarray .int, 2) := by decide +kernel
theorem d_Md_init_71 : decode b_Md_init 71 = .ok (.putfield 32, 3) := by decide +kernel
theorem d_Md_init_74 : decode b_Md_init 74 = .ok (.aload_n 0, 1) := by decide +kernel
theorem d_Md_init_75 : decode b_Md_init 75 = .ok (.bipush 64, 2) := by decide +kernel
theorem d_Md_init_77 : decode b_Md_init 77 = .ok (.newarray .int, 2) := by decide +kernel
theorem d_Md_init_79 : decode b_Md_init 79 = .ok (.putfield 35, 3) := by decide +kernel
theorem d_Md_init_82 : decode b_Md_init 82 = .ok (.aload_n 0, 1) := by decide +kernel
theorem d_Md_init_83 : decode b_Md_init 83 = .ok (.bipush 64, 2) := by decide +kernel
theorem d_Md_init_85 : decode b_Md_init 85 = .ok (.newarray .long, 2) := by decide +kernel
theorem d_Md_init_87 : decode b_Md_init 87 = .ok (.putfield 38, 3) := by decide +kernel
theorem d_Md_init_90 : decode b_Md_init 90 = .ok (.aload_n 0, 1) := by decide +kernel
theorem d_Md_init_91 : decode b_Md_init 91 = .ok (.bipush 8, 2) := by decide +kernel
theorem d_Md_init_93 : decode b_Md_init 93 = .ok (.newarray .int, 2) := by decide +kernel
theorem d_Md_init_95 : decode b_Md_init 95 = .ok (.putfield 41, 3) := by decide +kernel
theorem d_Md_init_98 : decode b_Md_init 98 = .ok (.aload_n 0, 1) := by decide +kernel
theorem d_Md_init_99 : decode b_Md_init 99 = .ok (.bipush 8, 2) := by decide +kernel
theorem d_Md_init_101 : decode b_Md_init 101 = .ok (.newarray .int, 2) := by decide +kernel
theorem d_Md_init_103 : decode b_Md_init 103 = .ok (.putfield 44, 3) := by decide +kernel
theorem d_Md_init_106 : decode b_Md_init 106 = .ok (.aload_n 0, 1) := by decide +kernel
theorem d_Md_init_107 : decode b_Md_init 107 = .ok (.bipush 8, 2) := by decide +kernel
theorem d_Md_init_109 : decode b_Md_init 109 = .ok (.newarray .int, 2) := by decide +kernel
theorem d_Md_init_111 : decode b_Md_init 111 = .ok (.putfield 47, 3) := by decide +kernel
theorem d_Md_init_114 : decode b_Md_init 114 = .ok (.aload_n 0, 1) := by decide +kernel
theorem d_Md_init_115 : decode b_Md_init 115 = .ok (.bipush 8, 2) := by decide +kernel
theorem d_Md_init_117 : decode b_Md_init 117 = .ok (.newarray .int, 2) := by decide +kernel
theorem d_Md_init_119 : decode b_Md_init 119 = .ok (.putfield 50, 3) := by decide +kernel
theorem d_Md_init_122 : decode b_Md_init 122 = .ok (.aload_n 0, 1) := by decide +kernel
theorem d_Md_init_123 : decode b_Md_init 123 = .ok (.bipush 8, 2) := by decide +kernel
theorem d_Md_init_125 : decode b_Md_init 125 = .ok (.newarray .int, 2) := by decide +kernel
theorem d_Md_init_127 : decode b_Md_init 127 = .ok (.putfield 53, 3) := by decide +kernel
theorem d_Md_init_130 : decode b_Md_init 130 = .ok (.aload_n 0, 1) := by decide +kernel
theorem d_Md_init_131 : decode b_Md_init 131 = .ok (.bipush 8, 2) := by decide +kernel
theorem d_Md_init_133 : decode b_Md_init 133 = .ok (.newarray .int, 2) := by decide +kernel
theorem d_Md_init_135 : decode b_Md_init 135 = .ok (.putfield 56, 3) := by decide +kernel
theorem d_Md_init_138 : decode b_Md_init 138 = .ok (.aload_n 0, 1) := by decide +kernel
theorem d_Md_init_139 : decode b_Md_init 139 = .ok (.bipush 8, 2) := by decide +kernel
theorem d_Md_init_141 : decode b_Md_init 141 = .ok (.newarray .int, 2) := by decide +kernel
theorem d_Md_init_143 : decode b_Md_init 143 = .ok (.putfield 59, 3) := by decide +kernel
theorem d_Md_init_146 : decode b_Md_init 146 = .ok (.iconst 0, 1) := by decide +kernel
theorem d_Md_init_147 : decode b_Md_init 147 = .ok (.istore_n 1, 1) := by decide +kernel
theorem d_Md_init_148 : decode b_Md_init 148 = .ok (.iload_n 1, 1) := by decide +kernel
theorem d_Md_init_149 : decode b_Md_init 149 = .ok (.bipush 64, 2) := by decide +kernel
theorem d_Md_init_151 : decode b_Md_init 151 = .ok (.if_icmp .ge 16, 3) := by decide +kernel
theorem d_Md_init_154 : decode b_Md_init 154 = .ok (.aload_n 0, 1) := by decide +kernel
theorem d_Md_init_155 : decode b_Md_init 155 = .ok (.getfield 35, 3) := by decide +kernel
theorem d_Md_init_158 : decode b_Md_init 158 = .ok (.iload_n 1, 1) := by decide +kernel
theorem d_Md_init_159 : decode b_Md_init 159 = .ok (.iconst 1, 1) := by decide +kernel
theorem d_Md_init_160 : decode b_Md_init 160 = .ok (.iastore, 1) := by decide +kernel
theorem d_Md_init_161 : decode b_Md_init 161 = .ok (.iinc 1 1, 3) := by decide +kernel
theorem d_Md_init_164 : decode b_Md_init 164 = .ok (.goto (-16), 3) := by decide +kernel
theorem d_Md_init_167 : decode b_Md_init 167 = .ok (.aload_n 0, 1) := by decide +kernel
theorem d_Md_init_168 : decode b_Md_init 168 = .ok (.invokevirtual 62, 3) := by decide +kernel
theorem d_Md_init_171 : decode b_Md_init 171 = .ok (.return_, 1) := by decide +kernel
abbrev rm_Md_empty : Room := { frames := 0, cells := 0, slots := 0, locals := 0 }
set_option maxHeartbeats 4000000 in
set_option maxRecDepth 100000 in
theorem cn_Md_empty (l : Launch) (D : va_G) (B : Nat) (M : hp_M) (b : Nat) (ad : Nat → Nat) (th of sl : Int32) (ct : Nat → Nat → Int32) (cl : Nat → Nat → Int64) (hm : md_H D M b ad th of sl ct cl) : Met l y_Md_empty (wd_c y_Md_empty b_Md_empty 2 (none)) rm_Md_empty (va_Pc [.ref b] (hp_C D B M)) (va_Qv (fun  (M1 : hp_M) => ∃ (ct' : Nat → Nat → Int32) (cl' : Nat → Nat → Int64), md_H D M1 b ad th of sl ct' cl' ∧ md_fr b ad M M1 ∧ (∀ j, j < 8 → ct' 0 j = 0 ∧ ct' 10 j = -1 ∧ ct' 14 j = -1) ∧ (∀ j, j < 64 → cl' 9 j = 0) ∧ (∀ j, j ≠ 0 → j ≠ 10 → j ≠ 14 → ct' j = ct j)) (hp_C D B) (hp_ub B)) 0 0 (hp_ub B) := by
  refine hp_met (by decide) (Nat.le_of_ble_eq_true rfl) ?_
  intro p e s m args below meth cd ls Q hQ hx hb hr hts hown hlocks hnm hml hK hH hS hB hl
  replace hl : lv_has ls 2 [(0, .ref b)] := hl
  refine lv_iconst (v := 0) hx hb d_Md_empty_0 (by decide) ?_
  refine lv_istore_n (lv' := [(1, .int 0), (0, .ref b)]) hx hb d_Md_empty_1 rfl hl (by decide) rfl (fun ls hl => ?_)
  have L2 : ∀ (n k : Nat) (M2 : hp_M) (H : Heap) (locs : List Loc) (ls : Array Slot) (ct1 : Nat → Nat → Int32) (cl1 : Nat → Nat → Int64), k + n = 64 → md_H D M2 b ad th of sl ct1 cl1 → md_fr b ad M M2 → (∀ j, j < 8 → ct1 0 j = 0 ∧ ct1 10 j = -1 ∧ ct1 14 j = -1) → (∀ j, j ≠ 0 → j ≠ 10 → j ≠ 14 → ct1 j = ct j) → (∀ j, j < k → cl1 9 j = 0) → hp_H D B M2 H → va_S (hp_ub B) s.heap H locs → lv_has ls 2 [(1, .int (nI k)), (0, .ref b)] → W p l e rm_Md_empty s m args below meth cd H locs 0 0 Q (F0 m 37 ls []) := by
    intro n
    induction n with
    | zero =>
      intro k M2 H locs ls ct1 cl1 hn hm hf q1 q2 q3 hH hS hl
      refine lv_iload_n hx hb d_Md_empty_37 rfl (lv_at hl 0 rfl) ?_
      refine lv_bipush (v := 64) hx hb d_Md_empty_38 (by decide) ?_
      refine lv_icmp_ge (tgt := 56) hx hb d_Md_empty_40 (by decide) (fun c_1 => ?_) (fun c_1 => absurd (nI_le (a := 64) (by omega) (by omega)) c_1)
      exact hp_vret hx hb hr hlocks hQ hK hH hS (Nat.le_of_ble_eq_true rfl) (Nat.le_of_ble_eq_true rfl) d_Md_empty_56 ⟨ct1, cl1, hm, hf, q1, fun j hj => q3 j (by omega), q2⟩
    | succ n ih =>
      intro k M2 H locs ls ct1 cl1 hn hm hf q1 q2 q3 hH hS hl
      refine lv_iload_n hx hb d_Md_empty_37 rfl (lv_at hl 0 rfl) ?_
      refine lv_bipush (v := 64) hx hb d_Md_empty_38 (by decide) ?_
      refine lv_icmp_ge (tgt := 56) hx hb d_Md_empty_40 (by decide) (fun c_2 => absurd c_2 (nI_ge (b := 64) (by omega) (by omega))) (fun c_2 => ?_)
      refine lv_aload_n hx hb d_Md_empty_43 rfl (lv_at hl 1 rfl) ?_
      refine hp_get hx hb hts iw_Md hown hK hH hm.1 rfl 10 (by decide) (hts _ kw_170) (v := .ref (ad 9)) rfl d_Md_empty_44 ?_
      refine lv_iload_n hx hb d_Md_empty_47 rfl (lv_at hl 0 rfl) ?_
      refine lv_lconst (v := 0) hx hb d_Md_empty_48 (by decide) ?_
      refine hp_last hx hb hK hH hS hB (show M2 (ad 9) = some (hp_al D 64 (cl1 9)) from hm.2.2.1 9 (by decide)) k rfl (by omega) (by decide) d_Md_empty_49 (fun M_3 H locs eM_3 hH hS => ?_)
      have hm := md_pl hm (j := 9) (by decide) eM_3
      have hf := md_fr_a (j := 9) (by decide) hf eM_3
      refine lv_iinc (v := nI (k + 1)) (lv' := [(1, .int (nI (k + 1))), (0, .ref b)]) hx hb d_Md_empty_50 hl (k := 0) rfl (nI_1 k) (by decide) rfl (fun ls hl => ?_)
      refine lv_goto (tgt := 37) hx hb d_Md_empty_53 (by decide) ?_
      exact ih (k + 1) M_3 _ _ ls _ _ (by omega) hm hf q1 q2 (hp_fl q3) hH hS (lv_sub hl [0, 1] rfl)
  have L1 : ∀ (n k : Nat) (M2 : hp_M) (H : Heap) (locs : List Loc) (ls : Array Slot) (ct1 : Nat → Nat → Int32), k + n = 8 → md_H D M2 b ad th of sl ct1 cl → md_fr b ad M M2 → (∀ j, j < k → ct1 0 j = 0 ∧ ct1 10 j = -1 ∧ ct1 14 j = -1) → (∀ j, j ≠ 0 → j ≠ 10 → j ≠ 14 → ct1 j = ct j) → hp_H D B M2 H → va_S (hp_ub B) s.heap H locs → lv_has ls 2 [(1, .int (nI k)), (0, .ref b)] → W p l e rm_Md_empty s m args below meth cd H locs 0 0 Q (F0 m 2 ls []) := by
    intro n
    induction n with
    | zero =>
      intro k M2 H locs ls ct1 hn hm hf q1 q2 hH hS hl
      refine lv_iload_n hx hb d_Md_empty_2 rfl (lv_at hl 0 rfl) ?_
      refine lv_bipush (v := 8) hx hb d_Md_empty_3 (by decide) ?_
      refine lv_icmp_ge (tgt := 35) hx hb d_Md_empty_5 (by decide) (fun c_4 => ?_) (fun c_4 => absurd (nI_le (a := 8) (by omega) (by omega)) c_4)
      refine lv_iconst (v := 0) hx hb d_Md_empty_35 (by decide) ?_
      refine lv_istore_n (lv' := [(1, .int 0), (0, .ref b)]) hx hb d_Md_empty_36 rfl hl (by decide) rfl (fun ls hl => ?_)
      exact L2 64 0 M2 _ _ ls _ _ (by omega) hm hf (fun j hj => q1 j (by omega)) q2 (fun j hj => absurd hj (Nat.not_lt_zero j)) hH hS (lv_sub hl [0, 1] rfl)
    | succ n ih =>
      intro k M2 H locs ls ct1 hn hm hf q1 q2 hH hS hl
      refine lv_iload_n hx hb d_Md_empty_2 rfl (lv_at hl 0 rfl) ?_
      refine lv_bipush (v := 8) hx hb d_Md_empty_3 (by decide) ?_
      refine lv_icmp_ge (tgt := 35) hx hb d_Md_empty_5 (by decide) (fun c_5 => absurd c_5 (nI_ge (b := 8) (by omega) (by omega))) (fun c_5 => ?_)
      refine lv_aload_n hx hb d_Md_empty_8 rfl (lv_at hl 1 rfl) ?_
      refine hp_get hx hb hts iw_Md hown hK hH hm.1 rfl 1 (by decide) (hts _ kw_147) (v := .ref (ad 0)) rfl d_Md_empty_9 ?_
      refine lv_iload_n hx hb d_Md_empty_12 rfl (lv_at hl 0 rfl) ?_
      refine lv_iconst (v := 0) hx hb d_Md_empty_13 (by decide) ?_
      refine hp_iast hx hb hK hH hS hB (show M2 (ad 0) = some (hp_ai D 8 (ct1 0)) from hm.2.1 0 (by decide) (by decide) (by decide)) k rfl (by omega) (by decide) d_Md_empty_14 (fun M_6 H locs eM_6 hH hS => ?_)
      have hm := md_pi hm (j := 0) (by decide) (by decide) (by decide) eM_6
      have hf := md_fr_a (j := 0) (by decide) hf eM_6
      refine lv_aload_n hx hb d_Md_empty_15 rfl (lv_at hl 1 rfl) ?_
      refine hp_get hx hb hts iw_Md hown hK hH hm.1 rfl 11 (by decide) (hts _ kw_155) (v := .ref (ad 10)) rfl d_Md_empty_16 ?_
      refine lv_iload_n hx hb d_Md_empty_19 rfl (lv_at hl 0 rfl) ?_
      refine lv_iconst (v := (-1)) hx hb d_Md_empty_20 (by decide) ?_
      refine hp_iast hx hb hK hH hS hB (show M_6 (ad 10) = some (hp_ai D 8 (ct1 10)) from hm.2.1 10 (by decide) (by decide) (by decide)) k rfl (by omega) (by decide) d_Md_empty_21 (fun M_7 H locs eM_7 hH hS => ?_)
      have hm := md_pi hm (j := 10) (by decide) (by decide) (by decide) eM_7
      have hf := md_fr_a (j := 10) (by decide) hf eM_7
      refine lv_aload_n hx hb d_Md_empty_22 rfl (lv_at hl 1 rfl) ?_
      refine hp_get hx hb hts iw_Md hown hK hH hm.1 rfl 17 (by decide) (hts _ kw_140) (v := .ref (ad 14)) rfl d_Md_empty_23 ?_
      refine lv_iload_n hx hb d_Md_empty_26 rfl (lv_at hl 0 rfl) ?_
      refine lv_iconst (v := (-1)) hx hb d_Md_empty_27 (by decide) ?_
      refine hp_iast hx hb hK hH hS hB (show M_7 (ad 14) = some (hp_ai D 8 (ct1 14)) from hm.2.1 14 (by decide) (by decide) (by decide)) k rfl (by omega) (by decide) d_Md_empty_28 (fun M_8 H locs eM_8 hH hS => ?_)
      have hm := md_pi hm (j := 14) (by decide) (by decide) (by decide) eM_8
      have hf := md_fr_a (j := 14) (by decide) hf eM_8
      refine lv_iinc (v := nI (k + 1)) (lv' := [(1, .int (nI (k + 1))), (0, .ref b)]) hx hb d_Md_empty_29 hl (k := 0) rfl (nI_1 k) (by decide) rfl (fun ls hl => ?_)
      refine lv_goto (tgt := 2) hx hb d_Md_empty_32 (by decide) ?_
      exact ih (k + 1) M_8 _ _ ls _ (by omega) hm hf (mo_em q1) (mo_em2 q2) hH hS (lv_sub hl [0, 1] rfl)
  exact L1 8 0 M _ _ ls _ (by omega) hm md_fr_rf (fun j hj => absurd hj (Nat.not_lt_zero j)) (fun j _ _ _ => rfl) hH hS (lv_sub hl [0, 1] rfl)
abbrev rm_Md_reset : Room := { frames := 1, cells := 0, slots := 0, locals := 21 }
set_option maxHeartbeats 4000000 in
set_option maxRecDepth 100000 in
theorem cn_Md_reset (l : Launch) (D : va_G) (B : Nat) (M : hp_M) (b : Nat) (ad : Nat → Nat) (th of sl : Int32) (ct : Nat → Nat → Int32) (cl : Nat → Nat → Int64) (σ : sg_S) (hm : md_H D M b ad th of sl ct cl) (hR : mo_R σ (fun _ => sg_sl σ - 1) of sl ct cl) (hinv : sg_inv σ) (hac : sg_ac σ ≤ 512) (hsei : sg_sei σ) : Met l y_Md_reset (wd_c y_Md_reset b_Md_reset 1 (none)) rm_Md_reset (va_Pc [.ref b] (hp_C D B M)) (va_Qv (fun  (M1 : hp_M) => ∃ (ct' : Nat → Nat → Int32) (cl' : Nat → Nat → Int64), md_H D M1 b ad 0 of sl ct' cl' ∧ md_fr b ad M M1 ∧ mo_R (sg_reset σ) (fun _ => sg_sl (sg_reset σ) - 1) of sl ct' cl') (hp_C D B) (hp_ub B)) 0 0 (hp_ub B) := by
  refine hp_met (by decide) (Nat.le_of_ble_eq_true rfl) ?_
  intro p e s m args below meth cd ls Q hQ hx hb hr hts hown hlocks hnm hml hK hH hS hB hl
  replace hl : lv_has ls 1 [(0, .ref b)] := hl
  have hf : md_fr b ad M M := md_fr_rf
  refine lv_aload_n hx hb d_Md_reset_0 rfl (lv_at hl 0 rfl) ?_
  refine lv_iconst (v := 0) hx hb d_Md_reset_1 (by decide) ?_
  refine hp_put hx hb hts iw_Md t_Md t_Md_ok n_Md hown hK hH hS hB hm.1 rfl 0 (by decide) (hts _ kw_134) rfl  (v := .int 0) rfl rfl (Nat.le_of_ble_eq_true rfl) (fs' := [.int 0, .ref (ad 0), .ref (ad 1), .ref (ad 2), .ref (ad 3), .ref (ad 4), .ref (ad 5), .ref (ad 6), .ref (ad 7), .ref (ad 8), .ref (ad 9), .ref (ad 10), .ref (ad 11), .ref (ad 12), .ref (ad 13), .int of, .int sl, .ref (ad 14), .ref (ad 15), .ref (ad 16)]) rfl d_Md_reset_2 (fun M_1 H locs eM_1 hH hS => ?_)
  have hm := md_pb hm (th' := 0) (of' := of) (sl' := sl) eM_1
  have hf := md_fr_b hf eM_1
  refine lv_aload_n hx hb d_Md_reset_5 rfl (lv_at hl 0 rfl) ?_
  refine hp_callv (hp_runV (b := b) (As := []) (rest := []) hx hb hml hown (cn_Md_empty l D B M_1 b ad 0 of sl ct cl hm) (hp_cwV 0 hts kw_171 kw_173 kw_174 kw_137 kw_172 rfl rfl (by decide +kernel) ⟨(Nat.le_of_ble_eq_true rfl), (Nat.le_of_ble_eq_true rfl)⟩) hK hH hm.1 rfl rfl hl.1 rfl (Nat.le_of_ble_eq_true rfl) d_Md_reset_6 ⟨(Nat.le_of_ble_eq_true rfl), (Nat.le_of_ble_eq_true rfl)⟩) hS (fun M_3 H locs w_4 hH hS => ?_)
  obtain ⟨ct', cl', hm', hf', q1, q2, q3⟩ := w_4
  exact hp_vret hx hb hr hlocks hQ hK hH hS (Nat.le_of_ble_eq_true rfl) (Nat.le_of_ble_eq_true rfl) d_Md_reset_9 ⟨ct', cl', hm', md_fr_tr hf hf', mo_reset hR q1 q2 q3⟩
abbrev rm_Md_init : Room := { frames := 1, cells := 17, slots := 24776, locals := 21 }
set_option maxHeartbeats 4000000 in
set_option maxRecDepth 100000 in
theorem cn_Md_init (l : Launch) (D : va_G) (B : Nat) (M : hp_M) (b : Nat) (h1 : M b = some (.inr (ix_md, [.int 0, .null, .null, .null, .null, .null, .null, .null, .null, .null, .null, .null, .null, .null, .null, .int 0, .int 0, .null, .null, .null]))) : Met l y_Md_init (wd_c y_Md_init b_Md_init 2 (none)) rm_Md_init (va_Pc [.ref b] (hp_C D B M)) (va_Qv (fun  (M1 : hp_M) => ∃ (ad : Nat → Nat) (ct' : Nat → Nat → Int32) (cl' : Nat → Nat → Int64), md_H D M1 b ad 0 0 0 ct' cl' ∧ mo_R sg_0 (fun _ => 0 - 1) 0 0 ct' cl' ∧ (∀ x, M x ≠ none → x ≠ b → M1 x = M x) ∧ ∀ j, j < 17 → M (ad j) = none) (hp_C D B) (hp_ub B)) 17 24776 (hp_ub B) := by
  refine hp_met (by decide) (Nat.le_of_ble_eq_true rfl) ?_
  intro p e s m args below meth cd ls Q hQ hx hb hr hts hown hlocks hnm hml hK hH hS hB hl
  replace hl : lv_has ls 2 [(0, .ref b)] := hl
  have hk : md_K M M b [] := md_k0 (by rw [h1]; intro w; cases w)
  refine lv_aload_n hx hb d_Md_init_0 rfl (lv_at hl 0 rfl) ?_
  refine W.objInit hx hb hown (hts _ kw_175) (hts _ kw_64) (hts _ kw_65) rfl (by rw [hml]; exact hl.1) rfl d_Md_init_1 (Nat.le_of_ble_eq_true rfl) (Nat.le_of_ble_eq_true rfl) ?_
  refine W.eq (g2 := F0 m 4 ls []) rfl ?_
  refine lv_aload_n hx hb d_Md_init_4 rfl (lv_at hl 0 rfl) ?_
  refine lv_bipush (v := 8) hx hb d_Md_init_5 (by decide) ?_
  refine hp_newi hx hb (hts _ kw_73) hK hH hS hB 8 (by decide) (by decide) (Nat.le_of_ble_eq_true rfl) (Nat.le_of_ble_eq_true rfl) d_Md_init_7 (fun q_1 M_2 H zq_1 eM_2 hH hS => ?_)
  have f_3 : M_2 q_1 = some (hp_ai D 8 (fun _ => 0)) := by rw [eM_2]; exact va_up_self _ _ _
  have f_4 : M_2 b = some (.inr (ix_md, [.int 0, .null, .null, .null, .null, .null, .null, .null, .null, .null, .null, .null, .null, .null, .null, .int 0, .int 0, .null, .null, .null])) := by rw [eM_2, va_up_ne _ _ (hp_fr zq_1 h1)]; exact h1
  have hk := md_kn hk zq_1 eM_2
  refine hp_putF hx hb hts iw_Md t_Md t_Md_ok n_Md hown hK hH hS hB f_4 rfl 1 (by decide) (hts _ kw_147) rfl hnm rfl (v := .ref q_1) rfl rfl (Nat.le_of_ble_eq_true rfl) (fs' := [.int 0, .ref q_1, .null, .null, .null, .null, .null, .null, .null, .null, .null, .null, .null, .null, .null, .int 0, .int 0, .null, .null, .null]) rfl d_Md_init_9 (fun M_5 H locs eM_5 hH hS => ?_)
  have f_6 : M_5 b = some (.inr (ix_md, [.int 0, .ref q_1, .null, .null, .null, .null, .null, .null, .null, .null, .null, .null, .null, .null, .null, .int 0, .int 0, .null, .null, .null])) := by rw [eM_5]; exact va_up_self _ _ _
  have hk := md_kp hk eM_5
  refine lv_aload_n hx hb d_Md_init_12 rfl (lv_at hl 0 rfl) ?_
  refine lv_sipush (v := 4096) hx hb d_Md_init_13 (by decide) ?_
  refine hp_newi hx hb (hts _ kw_73) hK hH hS hB 4096 (by decide) (by decide) (Nat.le_of_ble_eq_true rfl) (Nat.le_of_ble_eq_true rfl) d_Md_init_16 (fun q_7 M_8 H zq_7 eM_8 hH hS => ?_)
  have f_9 : M_8 q_7 = some (hp_ai D 4096 (fun _ => 0)) := by rw [eM_8]; exact va_up_self _ _ _
  have f_10 : M_8 b = some (.inr (ix_md, [.int 0, .ref q_1, .null, .null, .null, .null, .null, .null, .null, .null, .null, .null, .null, .null, .null, .int 0, .int 0, .null, .null, .null])) := by rw [eM_8, va_up_ne _ _ (hp_fr zq_7 f_6)]; exact f_6
  have hk := md_kn hk zq_7 eM_8
  refine hp_putF hx hb hts iw_Md t_Md t_Md_ok n_Md hown hK hH hS hB f_10 rfl 2 (by decide) (hts _ kw_152) rfl hnm rfl (v := .ref q_7) rfl rfl (Nat.le_of_ble_eq_true rfl) (fs' := [.int 0, .ref q_1, .ref q_7, .null, .null, .null, .null, .null, .null, .null, .null, .null, .null, .null, .null, .int 0, .int 0, .null, .null, .null]) rfl d_Md_init_18 (fun M_11 H locs eM_11 hH hS => ?_)
  have f_12 : M_11 b = some (.inr (ix_md, [.int 0, .ref q_1, .ref q_7, .null, .null, .null, .null, .null, .null, .null, .null, .null, .null, .null, .null, .int 0, .int 0, .null, .null, .null])) := by rw [eM_11]; exact va_up_self _ _ _
  have hk := md_kp hk eM_11
  refine lv_aload_n hx hb d_Md_init_21 rfl (lv_at hl 0 rfl) ?_
  refine lv_sipush (v := 4096) hx hb d_Md_init_22 (by decide) ?_
  refine hp_newi hx hb (hts _ kw_73) hK hH hS hB 4096 (by decide) (by decide) (Nat.le_of_ble_eq_true rfl) (Nat.le_of_ble_eq_true rfl) d_Md_init_25 (fun q_13 M_14 H zq_13 eM_14 hH hS => ?_)
  have f_15 : M_14 q_13 = some (hp_ai D 4096 (fun _ => 0)) := by rw [eM_14]; exact va_up_self _ _ _
  have f_16 : M_14 b = some (.inr (ix_md, [.int 0, .ref q_1, .ref q_7, .null, .null, .null, .null, .null, .null, .null, .null, .null, .null, .null, .null, .int 0, .int 0, .null, .null, .null])) := by rw [eM_14, va_up_ne _ _ (hp_fr zq_13 f_12)]; exact f_12
  have hk := md_kn hk zq_13 eM_14
  refine hp_putF hx hb hts iw_Md t_Md t_Md_ok n_Md hown hK hH hS hB f_16 rfl 3 (by decide) (hts _ kw_176) rfl hnm rfl (v := .ref q_13) rfl rfl (Nat.le_of_ble_eq_true rfl) (fs' := [.int 0, .ref q_1, .ref q_7, .ref q_13, .null, .null, .null, .null, .null, .null, .null, .null, .null, .null, .null, .int 0, .int 0, .null, .null, .null]) rfl d_Md_init_27 (fun M_17 H locs eM_17 hH hS => ?_)
  have f_18 : M_17 b = some (.inr (ix_md, [.int 0, .ref q_1, .ref q_7, .ref q_13, .null, .null, .null, .null, .null, .null, .null, .null, .null, .null, .null, .int 0, .int 0, .null, .null, .null])) := by rw [eM_17]; exact va_up_self _ _ _
  have hk := md_kp hk eM_17
  refine lv_aload_n hx hb d_Md_init_30 rfl (lv_at hl 0 rfl) ?_
  refine lv_sipush (v := 4096) hx hb d_Md_init_31 (by decide) ?_
  refine hp_newi hx hb (hts _ kw_73) hK hH hS hB 4096 (by decide) (by decide) (Nat.le_of_ble_eq_true rfl) (Nat.le_of_ble_eq_true rfl) d_Md_init_34 (fun q_19 M_20 H zq_19 eM_20 hH hS => ?_)
  have f_21 : M_20 q_19 = some (hp_ai D 4096 (fun _ => 0)) := by rw [eM_20]; exact va_up_self _ _ _
  have f_22 : M_20 b = some (.inr (ix_md, [.int 0, .ref q_1, .ref q_7, .ref q_13, .null, .null, .null, .null, .null, .null, .null, .null, .null, .null, .null, .int 0, .int 0, .null, .null, .null])) := by rw [eM_20, va_up_ne _ _ (hp_fr zq_19 f_18)]; exact f_18
  have hk := md_kn hk zq_19 eM_20
  refine hp_putF hx hb hts iw_Md t_Md t_Md_ok n_Md hown hK hH hS hB f_22 rfl 4 (by decide) (hts _ kw_177) rfl hnm rfl (v := .ref q_19) rfl rfl (Nat.le_of_ble_eq_true rfl) (fs' := [.int 0, .ref q_1, .ref q_7, .ref q_13, .ref q_19, .null, .null, .null, .null, .null, .null, .null, .null, .null, .null, .int 0, .int 0, .null, .null, .null]) rfl d_Md_init_36 (fun M_23 H locs eM_23 hH hS => ?_)
  have f_24 : M_23 b = some (.inr (ix_md, [.int 0, .ref q_1, .ref q_7, .ref q_13, .ref q_19, .null, .null, .null, .null, .null, .null, .null, .null, .null, .null, .int 0, .int 0, .null, .null, .null])) := by rw [eM_23]; exact va_up_self _ _ _
  have hk := md_kp hk eM_23
  refine lv_aload_n hx hb d_Md_init_39 rfl (lv_at hl 0 rfl) ?_
  refine lv_sipush (v := 4096) hx hb d_Md_init_40 (by decide) ?_
  refine hp_newl hx hb (hts _ kw_74) hK hH hS hB 4096 (by decide) (by decide) (Nat.le_of_ble_eq_true rfl) (Nat.le_of_ble_eq_true rfl) d_Md_init_43 (fun q_25 M_26 H zq_25 eM_26 hH hS => ?_)
  have f_27 : M_26 q_25 = some (hp_al D 4096 (fun _ => 0)) := by rw [eM_26]; exact va_up_self _ _ _
  have f_28 : M_26 b = some (.inr (ix_md, [.int 0, .ref q_1, .ref q_7, .ref q_13, .ref q_19, .null, .null, .null, .null, .null, .null, .null, .null, .null, .null, .int 0, .int 0, .null, .null, .null])) := by rw [eM_26, va_up_ne _ _ (hp_fr zq_25 f_24)]; exact f_24
  have hk := md_kn hk zq_25 eM_26
  refine hp_putF hx hb hts iw_Md t_Md t_Md_ok n_Md hown hK hH hS hB f_28 rfl 5 (by decide) (hts _ kw_154) rfl hnm rfl (v := .ref q_25) rfl rfl (Nat.le_of_ble_eq_true rfl) (fs' := [.int 0, .ref q_1, .ref q_7, .ref q_13, .ref q_19, .ref q_25, .null, .null, .null, .null, .null, .null, .null, .null, .null, .int 0, .int 0, .null, .null, .null]) rfl d_Md_init_45 (fun M_29 H locs eM_29 hH hS => ?_)
  have f_30 : M_29 b = some (.inr (ix_md, [.int 0, .ref q_1, .ref q_7, .ref q_13, .ref q_19, .ref q_25, .null, .null, .null, .null, .null, .null, .null, .null, .null, .int 0, .int 0, .null, .null, .null])) := by rw [eM_29]; exact va_up_self _ _ _
  have hk := md_kp hk eM_29
  refine lv_aload_n hx hb d_Md_init_48 rfl (lv_at hl 0 rfl) ?_
  refine lv_sipush (v := 4096) hx hb d_Md_init_49 (by decide) ?_
  refine hp_newi hx hb (hts _ kw_73) hK hH hS hB 4096 (by decide) (by decide) (Nat.le_of_ble_eq_true rfl) (Nat.le_of_ble_eq_true rfl) d_Md_init_52 (fun q_31 M_32 H zq_31 eM_32 hH hS => ?_)
  have f_33 : M_32 q_31 = some (hp_ai D 4096 (fun _ => 0)) := by rw [eM_32]; exact va_up_self _ _ _
  have f_34 : M_32 b = some (.inr (ix_md, [.int 0, .ref q_1, .ref q_7, .ref q_13, .ref q_19, .ref q_25, .null, .null, .null, .null, .null, .null, .null, .null, .null, .int 0, .int 0, .null, .null, .null])) := by rw [eM_32, va_up_ne _ _ (hp_fr zq_31 f_30)]; exact f_30
  have hk := md_kn hk zq_31 eM_32
  refine hp_putF hx hb hts iw_Md t_Md t_Md_ok n_Md hown hK hH hS hB f_34 rfl 6 (by decide) (hts _ kw_178) rfl hnm rfl (v := .ref q_31) rfl rfl (Nat.le_of_ble_eq_true rfl) (fs' := [.int 0, .ref q_1, .ref q_7, .ref q_13, .ref q_19, .ref q_25, .ref q_31, .null, .null, .null, .null, .null, .null, .null, .null, .int 0, .int 0, .null, .null, .null]) rfl d_Md_init_54 (fun M_35 H locs eM_35 hH hS => ?_)
  have f_36 : M_35 b = some (.inr (ix_md, [.int 0, .ref q_1, .ref q_7, .ref q_13, .ref q_19, .ref q_25, .ref q_31, .null, .null, .null, .null, .null, .null, .null, .null, .int 0, .int 0, .null, .null, .null])) := by rw [eM_35]; exact va_up_self _ _ _
  have hk := md_kp hk eM_35
  refine lv_aload_n hx hb d_Md_init_57 rfl (lv_at hl 0 rfl) ?_
  refine lv_sipush (v := 4096) hx hb d_Md_init_58 (by decide) ?_
  refine hp_newi hx hb (hts _ kw_73) hK hH hS hB 4096 (by decide) (by decide) (Nat.le_of_ble_eq_true rfl) (Nat.le_of_ble_eq_true rfl) d_Md_init_61 (fun q_37 M_38 H zq_37 eM_38 hH hS => ?_)
  have f_39 : M_38 q_37 = some (hp_ai D 4096 (fun _ => 0)) := by rw [eM_38]; exact va_up_self _ _ _
  have f_40 : M_38 b = some (.inr (ix_md, [.int 0, .ref q_1, .ref q_7, .ref q_13, .ref q_19, .ref q_25, .ref q_31, .null, .null, .null, .null, .null, .null, .null, .null, .int 0, .int 0, .null, .null, .null])) := by rw [eM_38, va_up_ne _ _ (hp_fr zq_37 f_36)]; exact f_36
  have hk := md_kn hk zq_37 eM_38
  refine hp_putF hx hb hts iw_Md t_Md t_Md_ok n_Md hown hK hH hS hB f_40 rfl 7 (by decide) (hts _ kw_179) rfl hnm rfl (v := .ref q_37) rfl rfl (Nat.le_of_ble_eq_true rfl) (fs' := [.int 0, .ref q_1, .ref q_7, .ref q_13, .ref q_19, .ref q_25, .ref q_31, .ref q_37, .null, .null, .null, .null, .null, .null, .null, .int 0, .int 0, .null, .null, .null]) rfl d_Md_init_63 (fun M_41 H locs eM_41 hH hS => ?_)
  have f_42 : M_41 b = some (.inr (ix_md, [.int 0, .ref q_1, .ref q_7, .ref q_13, .ref q_19, .ref q_25, .ref q_31, .ref q_37, .null, .null, .null, .null, .null, .null, .null, .int 0, .int 0, .null, .null, .null])) := by rw [eM_41]; exact va_up_self _ _ _
  have hk := md_kp hk eM_41
  refine lv_aload_n hx hb d_Md_init_66 rfl (lv_at hl 0 rfl) ?_
  refine lv_bipush (v := 8) hx hb d_Md_init_67 (by decide) ?_
  refine hp_newi hx hb (hts _ kw_73) hK hH hS hB 8 (by decide) (by decide) (Nat.le_of_ble_eq_true rfl) (Nat.le_of_ble_eq_true rfl) d_Md_init_69 (fun q_43 M_44 H zq_43 eM_44 hH hS => ?_)
  have f_45 : M_44 q_43 = some (hp_ai D 8 (fun _ => 0)) := by rw [eM_44]; exact va_up_self _ _ _
  have f_46 : M_44 b = some (.inr (ix_md, [.int 0, .ref q_1, .ref q_7, .ref q_13, .ref q_19, .ref q_25, .ref q_31, .ref q_37, .null, .null, .null, .null, .null, .null, .null, .int 0, .int 0, .null, .null, .null])) := by rw [eM_44, va_up_ne _ _ (hp_fr zq_43 f_42)]; exact f_42
  have hk := md_kn hk zq_43 eM_44
  refine hp_putF hx hb hts iw_Md t_Md t_Md_ok n_Md hown hK hH hS hB f_46 rfl 8 (by decide) (hts _ kw_164) rfl hnm rfl (v := .ref q_43) rfl rfl (Nat.le_of_ble_eq_true rfl) (fs' := [.int 0, .ref q_1, .ref q_7, .ref q_13, .ref q_19, .ref q_25, .ref q_31, .ref q_37, .ref q_43, .null, .null, .null, .null, .null, .null, .int 0, .int 0, .null, .null, .null]) rfl d_Md_init_71 (fun M_47 H locs eM_47 hH hS => ?_)
  have f_48 : M_47 b = some (.inr (ix_md, [.int 0, .ref q_1, .ref q_7, .ref q_13, .ref q_19, .ref q_25, .ref q_31, .ref q_37, .ref q_43, .null, .null, .null, .null, .null, .null, .int 0, .int 0, .null, .null, .null])) := by rw [eM_47]; exact va_up_self _ _ _
  have hk := md_kp hk eM_47
  refine lv_aload_n hx hb d_Md_init_74 rfl (lv_at hl 0 rfl) ?_
  refine lv_bipush (v := 64) hx hb d_Md_init_75 (by decide) ?_
  refine hp_newi hx hb (hts _ kw_73) hK hH hS hB 64 (by decide) (by decide) (Nat.le_of_ble_eq_true rfl) (Nat.le_of_ble_eq_true rfl) d_Md_init_77 (fun q_49 M_50 H zq_49 eM_50 hH hS => ?_)
  have f_51 : M_50 q_49 = some (hp_ai D 64 (fun _ => 0)) := by rw [eM_50]; exact va_up_self _ _ _
  have f_52 : M_50 b = some (.inr (ix_md, [.int 0, .ref q_1, .ref q_7, .ref q_13, .ref q_19, .ref q_25, .ref q_31, .ref q_37, .ref q_43, .null, .null, .null, .null, .null, .null, .int 0, .int 0, .null, .null, .null])) := by rw [eM_50, va_up_ne _ _ (hp_fr zq_49 f_48)]; exact f_48
  have hk := md_kn hk zq_49 eM_50
  refine hp_putF hx hb hts iw_Md t_Md t_Md_ok n_Md hown hK hH hS hB f_52 rfl 9 (by decide) (hts _ kw_165) rfl hnm rfl (v := .ref q_49) rfl rfl (Nat.le_of_ble_eq_true rfl) (fs' := [.int 0, .ref q_1, .ref q_7, .ref q_13, .ref q_19, .ref q_25, .ref q_31, .ref q_37, .ref q_43, .ref q_49, .null, .null, .null, .null, .null, .int 0, .int 0, .null, .null, .null]) rfl d_Md_init_79 (fun M_53 H locs eM_53 hH hS => ?_)
  have f_54 : M_53 b = some (.inr (ix_md, [.int 0, .ref q_1, .ref q_7, .ref q_13, .ref q_19, .ref q_25, .ref q_31, .ref q_37, .ref q_43, .ref q_49, .null, .null, .null, .null, .null, .int 0, .int 0, .null, .null, .null])) := by rw [eM_53]; exact va_up_self _ _ _
  have hk := md_kp hk eM_53
  refine lv_aload_n hx hb d_Md_init_82 rfl (lv_at hl 0 rfl) ?_
  refine lv_bipush (v := 64) hx hb d_Md_init_83 (by decide) ?_
  refine hp_newl hx hb (hts _ kw_74) hK hH hS hB 64 (by decide) (by decide) (Nat.le_of_ble_eq_true rfl) (Nat.le_of_ble_eq_true rfl) d_Md_init_85 (fun q_55 M_56 H zq_55 eM_56 hH hS => ?_)
  have f_57 : M_56 q_55 = some (hp_al D 64 (fun _ => 0)) := by rw [eM_56]; exact va_up_self _ _ _
  have f_58 : M_56 b = some (.inr (ix_md, [.int 0, .ref q_1, .ref q_7, .ref q_13, .ref q_19, .ref q_25, .ref q_31, .ref q_37, .ref q_43, .ref q_49, .null, .null, .null, .null, .null, .int 0, .int 0, .null, .null, .null])) := by rw [eM_56, va_up_ne _ _ (hp_fr zq_55 f_54)]; exact f_54
  have hk := md_kn hk zq_55 eM_56
  refine hp_putF hx hb hts iw_Md t_Md t_Md_ok n_Md hown hK hH hS hB f_58 rfl 10 (by decide) (hts _ kw_170) rfl hnm rfl (v := .ref q_55) rfl rfl (Nat.le_of_ble_eq_true rfl) (fs' := [.int 0, .ref q_1, .ref q_7, .ref q_13, .ref q_19, .ref q_25, .ref q_31, .ref q_37, .ref q_43, .ref q_49, .ref q_55, .null, .null, .null, .null, .int 0, .int 0, .null, .null, .null]) rfl d_Md_init_87 (fun M_59 H locs eM_59 hH hS => ?_)
  have f_60 : M_59 b = some (.inr (ix_md, [.int 0, .ref q_1, .ref q_7, .ref q_13, .ref q_19, .ref q_25, .ref q_31, .ref q_37, .ref q_43, .ref q_49, .ref q_55, .null, .null, .null, .null, .int 0, .int 0, .null, .null, .null])) := by rw [eM_59]; exact va_up_self _ _ _
  have hk := md_kp hk eM_59
  refine lv_aload_n hx hb d_Md_init_90 rfl (lv_at hl 0 rfl) ?_
  refine lv_bipush (v := 8) hx hb d_Md_init_91 (by decide) ?_
  refine hp_newi hx hb (hts _ kw_73) hK hH hS hB 8 (by decide) (by decide) (Nat.le_of_ble_eq_true rfl) (Nat.le_of_ble_eq_true rfl) d_Md_init_93 (fun q_61 M_62 H zq_61 eM_62 hH hS => ?_)
  have f_63 : M_62 q_61 = some (hp_ai D 8 (fun _ => 0)) := by rw [eM_62]; exact va_up_self _ _ _
  have f_64 : M_62 b = some (.inr (ix_md, [.int 0, .ref q_1, .ref q_7, .ref q_13, .ref q_19, .ref q_25, .ref q_31, .ref q_37, .ref q_43, .ref q_49, .ref q_55, .null, .null, .null, .null, .int 0, .int 0, .null, .null, .null])) := by rw [eM_62, va_up_ne _ _ (hp_fr zq_61 f_60)]; exact f_60
  have hk := md_kn hk zq_61 eM_62
  refine hp_putF hx hb hts iw_Md t_Md t_Md_ok n_Md hown hK hH hS hB f_64 rfl 11 (by decide) (hts _ kw_155) rfl hnm rfl (v := .ref q_61) rfl rfl (Nat.le_of_ble_eq_true rfl) (fs' := [.int 0, .ref q_1, .ref q_7, .ref q_13, .ref q_19, .ref q_25, .ref q_31, .ref q_37, .ref q_43, .ref q_49, .ref q_55, .ref q_61, .null, .null, .null, .int 0, .int 0, .null, .null, .null]) rfl d_Md_init_95 (fun M_65 H locs eM_65 hH hS => ?_)
  have f_66 : M_65 b = some (.inr (ix_md, [.int 0, .ref q_1, .ref q_7, .ref q_13, .ref q_19, .ref q_25, .ref q_31, .ref q_37, .ref q_43, .ref q_49, .ref q_55, .ref q_61, .null, .null, .null, .int 0, .int 0, .null, .null, .null])) := by rw [eM_65]; exact va_up_self _ _ _
  have hk := md_kp hk eM_65
  refine lv_aload_n hx hb d_Md_init_98 rfl (lv_at hl 0 rfl) ?_
  refine lv_bipush (v := 8) hx hb d_Md_init_99 (by decide) ?_
  refine hp_newi hx hb (hts _ kw_73) hK hH hS hB 8 (by decide) (by decide) (Nat.le_of_ble_eq_true rfl) (Nat.le_of_ble_eq_true rfl) d_Md_init_101 (fun q_67 M_68 H zq_67 eM_68 hH hS => ?_)
  have f_69 : M_68 q_67 = some (hp_ai D 8 (fun _ => 0)) := by rw [eM_68]; exact va_up_self _ _ _
  have f_70 : M_68 b = some (.inr (ix_md, [.int 0, .ref q_1, .ref q_7, .ref q_13, .ref q_19, .ref q_25, .ref q_31, .ref q_37, .ref q_43, .ref q_49, .ref q_55, .ref q_61, .null, .null, .null, .int 0, .int 0, .null, .null, .null])) := by rw [eM_68, va_up_ne _ _ (hp_fr zq_67 f_66)]; exact f_66
  have hk := md_kn hk zq_67 eM_68
  refine hp_putF hx hb hts iw_Md t_Md t_Md_ok n_Md hown hK hH hS hB f_70 rfl 12 (by decide) (hts _ kw_166) rfl hnm rfl (v := .ref q_67) rfl rfl (Nat.le_of_ble_eq_true rfl) (fs' := [.int 0, .ref q_1, .ref q_7, .ref q_13, .ref q_19, .ref q_25, .ref q_31, .ref q_37, .ref q_43, .ref q_49, .ref q_55, .ref q_61, .ref q_67, .null, .null, .int 0, .int 0, .null, .null, .null]) rfl d_Md_init_103 (fun M_71 H locs eM_71 hH hS => ?_)
  have f_72 : M_71 b = some (.inr (ix_md, [.int 0, .ref q_1, .ref q_7, .ref q_13, .ref q_19, .ref q_25, .ref q_31, .ref q_37, .ref q_43, .ref q_49, .ref q_55, .ref q_61, .ref q_67, .null, .null, .int 0, .int 0, .null, .null, .null])) := by rw [eM_71]; exact va_up_self _ _ _
  have hk := md_kp hk eM_71
  refine lv_aload_n hx hb d_Md_init_106 rfl (lv_at hl 0 rfl) ?_
  refine lv_bipush (v := 8) hx hb d_Md_init_107 (by decide) ?_
  refine hp_newi hx hb (hts _ kw_73) hK hH hS hB 8 (by decide) (by decide) (Nat.le_of_ble_eq_true rfl) (Nat.le_of_ble_eq_true rfl) d_Md_init_109 (fun q_73 M_74 H zq_73 eM_74 hH hS => ?_)
  have f_75 : M_74 q_73 = some (hp_ai D 8 (fun _ => 0)) := by rw [eM_74]; exact va_up_self _ _ _
  have f_76 : M_74 b = some (.inr (ix_md, [.int 0, .ref q_1, .ref q_7, .ref q_13, .ref q_19, .ref q_25, .ref q_31, .ref q_37, .ref q_43, .ref q_49, .ref q_55, .ref q_61, .ref q_67, .null, .null, .int 0, .int 0, .null, .null, .null])) := by rw [eM_74, va_up_ne _ _ (hp_fr zq_73 f_72)]; exact f_72
  have hk := md_kn hk zq_73 eM_74
  refine hp_putF hx hb hts iw_Md t_Md t_Md_ok n_Md hown hK hH hS hB f_76 rfl 13 (by decide) (hts _ kw_167) rfl hnm rfl (v := .ref q_73) rfl rfl (Nat.le_of_ble_eq_true rfl) (fs' := [.int 0, .ref q_1, .ref q_7, .ref q_13, .ref q_19, .ref q_25, .ref q_31, .ref q_37, .ref q_43, .ref q_49, .ref q_55, .ref q_61, .ref q_67, .ref q_73, .null, .int 0, .int 0, .null, .null, .null]) rfl d_Md_init_111 (fun M_77 H locs eM_77 hH hS => ?_)
  have f_78 : M_77 b = some (.inr (ix_md, [.int 0, .ref q_1, .ref q_7, .ref q_13, .ref q_19, .ref q_25, .ref q_31, .ref q_37, .ref q_43, .ref q_49, .ref q_55, .ref q_61, .ref q_67, .ref q_73, .null, .int 0, .int 0, .null, .null, .null])) := by rw [eM_77]; exact va_up_self _ _ _
  have hk := md_kp hk eM_77
  refine lv_aload_n hx hb d_Md_init_114 rfl (lv_at hl 0 rfl) ?_
  refine lv_bipush (v := 8) hx hb d_Md_init_115 (by decide) ?_
  refine hp_newi hx hb (hts _ kw_73) hK hH hS hB 8 (by decide) (by decide) (Nat.le_of_ble_eq_true rfl) (Nat.le_of_ble_eq_true rfl) d_Md_init_117 (fun q_79 M_80 H zq_79 eM_80 hH hS => ?_)
  have f_81 : M_80 q_79 = some (hp_ai D 8 (fun _ => 0)) := by rw [eM_80]; exact va_up_self _ _ _
  have f_82 : M_80 b = some (.inr (ix_md, [.int 0, .ref q_1, .ref q_7, .ref q_13, .ref q_19, .ref q_25, .ref q_31, .ref q_37, .ref q_43, .ref q_49, .ref q_55, .ref q_61, .ref q_67, .ref q_73, .null, .int 0, .int 0, .null, .null, .null])) := by rw [eM_80, va_up_ne _ _ (hp_fr zq_79 f_78)]; exact f_78
  have hk := md_kn hk zq_79 eM_80
  refine hp_putF hx hb hts iw_Md t_Md t_Md_ok n_Md hown hK hH hS hB f_82 rfl 14 (by decide) (hts _ kw_168) rfl hnm rfl (v := .ref q_79) rfl rfl (Nat.le_of_ble_eq_true rfl) (fs' := [.int 0, .ref q_1, .ref q_7, .ref q_13, .ref q_19, .ref q_25, .ref q_31, .ref q_37, .ref q_43, .ref q_49, .ref q_55, .ref q_61, .ref q_67, .ref q_73, .ref q_79, .int 0, .int 0, .null, .null, .null]) rfl d_Md_init_119 (fun M_83 H locs eM_83 hH hS => ?_)
  have f_84 : M_83 b = some (.inr (ix_md, [.int 0, .ref q_1, .ref q_7, .ref q_13, .ref q_19, .ref q_25, .ref q_31, .ref q_37, .ref q_43, .ref q_49, .ref q_55, .ref q_61, .ref q_67, .ref q_73, .ref q_79, .int 0, .int 0, .null, .null, .null])) := by rw [eM_83]; exact va_up_self _ _ _
  have hk := md_kp hk eM_83
  refine lv_aload_n hx hb d_Md_init_122 rfl (lv_at hl 0 rfl) ?_
  refine lv_bipush (v := 8) hx hb d_Md_init_123 (by decide) ?_
  refine hp_newi hx hb (hts _ kw_73) hK hH hS hB 8 (by decide) (by decide) (Nat.le_of_ble_eq_true rfl) (Nat.le_of_ble_eq_true rfl) d_Md_init_125 (fun q_85 M_86 H zq_85 eM_86 hH hS => ?_)
  have f_87 : M_86 q_85 = some (hp_ai D 8 (fun _ => 0)) := by rw [eM_86]; exact va_up_self _ _ _
  have f_88 : M_86 b = some (.inr (ix_md, [.int 0, .ref q_1, .ref q_7, .ref q_13, .ref q_19, .ref q_25, .ref q_31, .ref q_37, .ref q_43, .ref q_49, .ref q_55, .ref q_61, .ref q_67, .ref q_73, .ref q_79, .int 0, .int 0, .null, .null, .null])) := by rw [eM_86, va_up_ne _ _ (hp_fr zq_85 f_84)]; exact f_84
  have hk := md_kn hk zq_85 eM_86
  refine hp_putF hx hb hts iw_Md t_Md t_Md_ok n_Md hown hK hH hS hB f_88 rfl 17 (by decide) (hts _ kw_140) rfl hnm rfl (v := .ref q_85) rfl rfl (Nat.le_of_ble_eq_true rfl) (fs' := [.int 0, .ref q_1, .ref q_7, .ref q_13, .ref q_19, .ref q_25, .ref q_31, .ref q_37, .ref q_43, .ref q_49, .ref q_55, .ref q_61, .ref q_67, .ref q_73, .ref q_79, .int 0, .int 0, .ref q_85, .null, .null]) rfl d_Md_init_127 (fun M_89 H locs eM_89 hH hS => ?_)
  have f_90 : M_89 b = some (.inr (ix_md, [.int 0, .ref q_1, .ref q_7, .ref q_13, .ref q_19, .ref q_25, .ref q_31, .ref q_37, .ref q_43, .ref q_49, .ref q_55, .ref q_61, .ref q_67, .ref q_73, .ref q_79, .int 0, .int 0, .ref q_85, .null, .null])) := by rw [eM_89]; exact va_up_self _ _ _
  have hk := md_kp hk eM_89
  refine lv_aload_n hx hb d_Md_init_130 rfl (lv_at hl 0 rfl) ?_
  refine lv_bipush (v := 8) hx hb d_Md_init_131 (by decide) ?_
  refine hp_newi hx hb (hts _ kw_73) hK hH hS hB 8 (by decide) (by decide) (Nat.le_of_ble_eq_true rfl) (Nat.le_of_ble_eq_true rfl) d_Md_init_133 (fun q_91 M_92 H zq_91 eM_92 hH hS => ?_)
  have f_93 : M_92 q_91 = some (hp_ai D 8 (fun _ => 0)) := by rw [eM_92]; exact va_up_self _ _ _
  have f_94 : M_92 b = some (.inr (ix_md, [.int 0, .ref q_1, .ref q_7, .ref q_13, .ref q_19, .ref q_25, .ref q_31, .ref q_37, .ref q_43, .ref q_49, .ref q_55, .ref q_61, .ref q_67, .ref q_73, .ref q_79, .int 0, .int 0, .ref q_85, .null, .null])) := by rw [eM_92, va_up_ne _ _ (hp_fr zq_91 f_90)]; exact f_90
  have hk := md_kn hk zq_91 eM_92
  refine hp_putF hx hb hts iw_Md t_Md t_Md_ok n_Md hown hK hH hS hB f_94 rfl 18 (by decide) (hts _ kw_145) rfl hnm rfl (v := .ref q_91) rfl rfl (Nat.le_of_ble_eq_true rfl) (fs' := [.int 0, .ref q_1, .ref q_7, .ref q_13, .ref q_19, .ref q_25, .ref q_31, .ref q_37, .ref q_43, .ref q_49, .ref q_55, .ref q_61, .ref q_67, .ref q_73, .ref q_79, .int 0, .int 0, .ref q_85, .ref q_91, .null]) rfl d_Md_init_135 (fun M_95 H locs eM_95 hH hS => ?_)
  have f_96 : M_95 b = some (.inr (ix_md, [.int 0, .ref q_1, .ref q_7, .ref q_13, .ref q_19, .ref q_25, .ref q_31, .ref q_37, .ref q_43, .ref q_49, .ref q_55, .ref q_61, .ref q_67, .ref q_73, .ref q_79, .int 0, .int 0, .ref q_85, .ref q_91, .null])) := by rw [eM_95]; exact va_up_self _ _ _
  have hk := md_kp hk eM_95
  refine lv_aload_n hx hb d_Md_init_138 rfl (lv_at hl 0 rfl) ?_
  refine lv_bipush (v := 8) hx hb d_Md_init_139 (by decide) ?_
  refine hp_newi hx hb (hts _ kw_73) hK hH hS hB 8 (by decide) (by decide) (Nat.le_of_ble_eq_true rfl) (Nat.le_of_ble_eq_true rfl) d_Md_init_141 (fun q_97 M_98 H zq_97 eM_98 hH hS => ?_)
  have f_99 : M_98 q_97 = some (hp_ai D 8 (fun _ => 0)) := by rw [eM_98]; exact va_up_self _ _ _
  have f_100 : M_98 b = some (.inr (ix_md, [.int 0, .ref q_1, .ref q_7, .ref q_13, .ref q_19, .ref q_25, .ref q_31, .ref q_37, .ref q_43, .ref q_49, .ref q_55, .ref q_61, .ref q_67, .ref q_73, .ref q_79, .int 0, .int 0, .ref q_85, .ref q_91, .null])) := by rw [eM_98, va_up_ne _ _ (hp_fr zq_97 f_96)]; exact f_96
  have hk := md_kn hk zq_97 eM_98
  refine hp_putF hx hb hts iw_Md t_Md t_Md_ok n_Md hown hK hH hS hB f_100 rfl 19 (by decide) (hts _ kw_146) rfl hnm rfl (v := .ref q_97) rfl rfl (Nat.le_of_ble_eq_true rfl) (fs' := [.int 0, .ref q_1, .ref q_7, .ref q_13, .ref q_19, .ref q_25, .ref q_31, .ref q_37, .ref q_43, .ref q_49, .ref q_55, .ref q_61, .ref q_67, .ref q_73, .ref q_79, .int 0, .int 0, .ref q_85, .ref q_91, .ref q_97]) rfl d_Md_init_143 (fun M_101 H locs eM_101 hH hS => ?_)
  have f_102 : M_101 b = some (.inr (ix_md, [.int 0, .ref q_1, .ref q_7, .ref q_13, .ref q_19, .ref q_25, .ref q_31, .ref q_37, .ref q_43, .ref q_49, .ref q_55, .ref q_61, .ref q_67, .ref q_73, .ref q_79, .int 0, .int 0, .ref q_85, .ref q_91, .ref q_97])) := by rw [eM_101]; exact va_up_self _ _ _
  have hk := md_kp hk eM_101
  refine lv_iconst (v := 0) hx hb d_Md_init_146 (by decide) ?_
  refine lv_istore_n (lv' := [(1, .int 0), (0, .ref b)]) hx hb d_Md_init_147 rfl hl (by decide) rfl (fun ls hl => ?_)
  obtain ⟨hk1, hk2, hk3, hk4⟩ := hk
  have hnd : [q_97, q_91, q_85, q_79, q_73, q_67, q_61, q_55, q_49, q_43, q_37, q_31, q_25, q_19, q_13, q_7, q_1].Nodup := hk1
  obtain ⟨ad, ead⟩ : ∃ ad : Nat → Nat, ad = fun j => [q_97, q_91, q_85, q_79, q_73, q_67, q_61, q_55, q_49, q_43, q_37, q_31, q_25, q_19, q_13, q_7, q_1].getD (16 - j) 0 := ⟨_, rfl⟩
  have v0 : M_101 (ad 0) = some (hp_ai D 8 (fun _ => 0)) := by rw [ead]; exact (hk2 _ (List.mem_of_getElem? (i := 16) rfl)).1
  have v1 : M_101 (ad 1) = some (hp_ai D 4096 (fun _ => 0)) := by rw [ead]; exact (hk2 _ (List.mem_of_getElem? (i := 15) rfl)).1
  have v2 : M_101 (ad 2) = some (hp_ai D 4096 (fun _ => 0)) := by rw [ead]; exact (hk2 _ (List.mem_of_getElem? (i := 14) rfl)).1
  have v3 : M_101 (ad 3) = some (hp_ai D 4096 (fun _ => 0)) := by rw [ead]; exact (hk2 _ (List.mem_of_getElem? (i := 13) rfl)).1
  have v4 : M_101 (ad 4) = some (hp_al D 4096 (fun _ => 0)) := by rw [ead]; exact (hk2 _ (List.mem_of_getElem? (i := 12) rfl)).1
  have v5 : M_101 (ad 5) = some (hp_ai D 4096 (fun _ => 0)) := by rw [ead]; exact (hk2 _ (List.mem_of_getElem? (i := 11) rfl)).1
  have v6 : M_101 (ad 6) = some (hp_ai D 4096 (fun _ => 0)) := by rw [ead]; exact (hk2 _ (List.mem_of_getElem? (i := 10) rfl)).1
  have v7 : M_101 (ad 7) = some (hp_ai D 8 (fun _ => 0)) := by rw [ead]; exact (hk2 _ (List.mem_of_getElem? (i := 9) rfl)).1
  have v8 : M_101 (ad 8) = some (hp_ai D 64 (fun _ => 0)) := by rw [ead]; exact (hk2 _ (List.mem_of_getElem? (i := 8) rfl)).1
  have v9 : M_101 (ad 9) = some (hp_al D 64 (fun _ => 0)) := by rw [ead]; exact (hk2 _ (List.mem_of_getElem? (i := 7) rfl)).1
  have v10 : M_101 (ad 10) = some (hp_ai D 8 (fun _ => 0)) := by rw [ead]; exact (hk2 _ (List.mem_of_getElem? (i := 6) rfl)).1
  have v11 : M_101 (ad 11) = some (hp_ai D 8 (fun _ => 0)) := by rw [ead]; exact (hk2 _ (List.mem_of_getElem? (i := 5) rfl)).1
  have v12 : M_101 (ad 12) = some (hp_ai D 8 (fun _ => 0)) := by rw [ead]; exact (hk2 _ (List.mem_of_getElem? (i := 4) rfl)).1
  have v13 : M_101 (ad 13) = some (hp_ai D 8 (fun _ => 0)) := by rw [ead]; exact (hk2 _ (List.mem_of_getElem? (i := 3) rfl)).1
  have v14 : M_101 (ad 14) = some (hp_ai D 8 (fun _ => 0)) := by rw [ead]; exact (hk2 _ (List.mem_of_getElem? (i := 2) rfl)).1
  have v15 : M_101 (ad 15) = some (hp_ai D 8 (fun _ => 0)) := by rw [ead]; exact (hk2 _ (List.mem_of_getElem? (i := 1) rfl)).1
  have v16 : M_101 (ad 16) = some (hp_ai D 8 (fun _ => 0)) := by rw [ead]; exact (hk2 _ (List.mem_of_getElem? (i := 0) rfl)).1
  have hm : md_H D M_101 b ad 0 0 0 (fun _ _ => 0) (fun _ _ => 0) := by
    refine ⟨by rw [ead]; exact f_102, fun j a1 a2 a3 => ?_, fun j a1 => ?_, fun i j a1 a2 a3 => ?_⟩
    · rcases (show j = 0 ∨ j = 1 ∨ j = 2 ∨ j = 3 ∨ j = 5 ∨ j = 6 ∨ j = 7 ∨ j = 8 ∨ j = 10 ∨ j = 11 ∨ j = 12 ∨ j = 13 ∨ j = 14 ∨ j = 15 ∨ j = 16 by omega) with rfl | rfl | rfl | rfl | rfl | rfl | rfl | rfl | rfl | rfl | rfl | rfl | rfl | rfl | rfl
      · exact v0
      · exact v1
      · exact v2
      · exact v3
      · exact v5
      · exact v6
      · exact v7
      · exact v8
      · exact v10
      · exact v11
      · exact v12
      · exact v13
      · exact v14
      · exact v15
      · exact v16
    · rcases a1 with rfl | rfl
      · exact v4
      · exact v9
    · rw [ead] at a3; have a4 := md_inj hnd (16 - i) (16 - j) (show 16 - i < 17 by omega) (show 16 - j < 17 by omega) a3; omega
  have hz : ∀ j, j < 17 → M (ad j) = none := fun j a1 => by
    rcases (show j = 0 ∨ j = 1 ∨ j = 2 ∨ j = 3 ∨ j = 4 ∨ j = 5 ∨ j = 6 ∨ j = 7 ∨ j = 8 ∨ j = 9 ∨ j = 10 ∨ j = 11 ∨ j = 12 ∨ j = 13 ∨ j = 14 ∨ j = 15 ∨ j = 16 by omega) with rfl | rfl | rfl | rfl | rfl | rfl | rfl | rfl | rfl | rfl | rfl | rfl | rfl | rfl | rfl | rfl | rfl
    · rw [ead]; exact (hk2 _ (List.mem_of_getElem? (i := 16) rfl)).2.2
    · rw [ead]; exact (hk2 _ (List.mem_of_getElem? (i := 15) rfl)).2.2
    · rw [ead]; exact (hk2 _ (List.mem_of_getElem? (i := 14) rfl)).2.2
    · rw [ead]; exact (hk2 _ (List.mem_of_getElem? (i := 13) rfl)).2.2
    · rw [ead]; exact (hk2 _ (List.mem_of_getElem? (i := 12) rfl)).2.2
    · rw [ead]; exact (hk2 _ (List.mem_of_getElem? (i := 11) rfl)).2.2
    · rw [ead]; exact (hk2 _ (List.mem_of_getElem? (i := 10) rfl)).2.2
    · rw [ead]; exact (hk2 _ (List.mem_of_getElem? (i := 9) rfl)).2.2
    · rw [ead]; exact (hk2 _ (List.mem_of_getElem? (i := 8) rfl)).2.2
    · rw [ead]; exact (hk2 _ (List.mem_of_getElem? (i := 7) rfl)).2.2
    · rw [ead]; exact (hk2 _ (List.mem_of_getElem? (i := 6) rfl)).2.2
    · rw [ead]; exact (hk2 _ (List.mem_of_getElem? (i := 5) rfl)).2.2
    · rw [ead]; exact (hk2 _ (List.mem_of_getElem? (i := 4) rfl)).2.2
    · rw [ead]; exact (hk2 _ (List.mem_of_getElem? (i := 3) rfl)).2.2
    · rw [ead]; exact (hk2 _ (List.mem_of_getElem? (i := 2) rfl)).2.2
    · rw [ead]; exact (hk2 _ (List.mem_of_getElem? (i := 1) rfl)).2.2
    · rw [ead]; exact (hk2 _ (List.mem_of_getElem? (i := 0) rfl)).2.2
  have Lp : ∀ (n k : Nat) (M2 : hp_M) (H : Heap) (locs : List Loc) (ls : Array Slot) (ct1 : Nat → Nat → Int32), k + n = 64 → md_H D M2 b ad 0 0 0 ct1 (fun _ _ => 0) → md_fr b ad M_101 M2 → (∀ j, j < k → ct1 8 j = 1) → (∀ j, j ≠ 8 → ct1 j = fun _ => 0) → hp_H D B M2 H → va_S (hp_ub B) s.heap H locs → lv_has ls 2 [(1, .int (nI k)), (0, .ref b)] → W p l e rm_Md_init s m args below meth cd H locs 17 24776 Q (F0 m 148 ls []) := by
    intro n
    induction n with
    | zero =>
      intro k M2 H locs ls ct1 hn hm hf q1 q2 hH hS hl
      refine lv_iload_n hx hb d_Md_init_148 rfl (lv_at hl 0 rfl) ?_
      refine lv_bipush (v := 64) hx hb d_Md_init_149 (by decide) ?_
      refine lv_icmp_ge (tgt := 167) hx hb d_Md_init_151 (by decide) (fun c_103 => ?_) (fun c_103 => absurd (nI_le (a := 64) (by omega) (by omega)) c_103)
      refine lv_aload_n hx hb d_Md_init_167 rfl (lv_at hl 1 rfl) ?_
      refine hp_callv (hp_runV (b := b) (As := []) (rest := []) hx hb hml hown (cn_Md_empty l D B M2 b ad 0 0 0 ct1 (fun _ _ => 0) hm) (hp_cwV 0 hts kw_171 kw_173 kw_174 kw_137 kw_172 rfl rfl (by decide +kernel) ⟨(Nat.le_of_ble_eq_true rfl), (Nat.le_of_ble_eq_true rfl)⟩) hK hH hm.1 rfl rfl hl.1 rfl (Nat.le_of_ble_eq_true rfl) d_Md_init_168 ⟨(Nat.le_of_ble_eq_true rfl), (Nat.le_of_ble_eq_true rfl)⟩) hS (fun M_105 H locs w_106 hH hS => ?_)
      obtain ⟨ct', cl', hm', hf', p1, p2, p3⟩ := w_106
      exact hp_vret hx hb hr hlocks hQ hK hH hS (Nat.le_of_ble_eq_true rfl) (Nat.le_of_ble_eq_true rfl) d_Md_init_171 ⟨ad, ct', cl', hm', mo_start p1 p2 (fun k hk => by rw [p3 7 (by decide) (by decide) (by decide), q2 7 (by decide)]) (fun k hk => by rw [p3 8 (by decide) (by decide) (by decide)]; exact q1 k (by omega)), fun x a1 a2 => (md_fr_tr hf hf' x a2 (fun j hj w => a1 (by rw [w]; exact hz j hj))).trans (hk4 x a1 a2), hz⟩
    | succ n ih =>
      intro k M2 H locs ls ct1 hn hm hf q1 q2 hH hS hl
      refine lv_iload_n hx hb d_Md_init_148 rfl (lv_at hl 0 rfl) ?_
      refine lv_bipush (v := 64) hx hb d_Md_init_149 (by decide) ?_
      refine lv_icmp_ge (tgt := 167) hx hb d_Md_init_151 (by decide) (fun c_107 => absurd c_107 (nI_ge (b := 64) (by omega) (by omega))) (fun c_107 => ?_)
      refine lv_aload_n hx hb d_Md_init_154 rfl (lv_at hl 1 rfl) ?_
      refine hp_get hx hb hts iw_Md hown hK hH hm.1 rfl 9 (by decide) (hts _ kw_165) (v := .ref (ad 8)) rfl d_Md_init_155 ?_
      refine lv_iload_n hx hb d_Md_init_158 rfl (lv_at hl 0 rfl) ?_
      refine lv_iconst (v := 1) hx hb d_Md_init_159 (by decide) ?_
      refine hp_iast hx hb hK hH hS hB (show M2 (ad 8) = some (hp_ai D 64 (ct1 8)) from hm.2.1 8 (by decide) (by decide) (by decide)) k rfl (by omega) (by decide) d_Md_init_160 (fun M_108 H locs eM_108 hH hS => ?_)
      have hm := md_pi hm (j := 8) (by decide) (by decide) (by decide) eM_108
      have hf := md_fr_a (j := 8) (by decide) hf eM_108
      refine lv_iinc (v := nI (k + 1)) (lv' := [(1, .int (nI (k + 1))), (0, .ref b)]) hx hb d_Md_init_161 hl (k := 0) rfl (nI_1 k) (by decide) rfl (fun ls hl => ?_)
      refine lv_goto (tgt := 148) hx hb d_Md_init_164 (by decide) ?_
      exact ih (k + 1) M_108 _ _ ls _ (by omega) hm hf (hp_fi q1) (fun j hj => by rw [va_up_ne _ _ hj]; exact q2 j hj) hH hS (lv_sub hl [0, 1] rfl)
  exact Lp 64 0 M_101 _ _ ls _ (by omega) hm md_fr_rf (fun j hj => absurd hj (Nat.not_lt_zero j)) (fun j _ => rfl) hH hS (lv_sub hl [0, 1] rfl)
end
section
theorem kw_180 : Cond.constantLong R_Md 83 256 ∈ wd_T := wd_in (List.mem_of_getElem? (i := 373) (by decide +kernel)) rfl
theorem kw_181 : Cond.constant R_Md 88 65535 ∈ wd_T := wd_in (List.mem_of_getElem? (i := 374) (by decide +kernel)) rfl
theorem d_Md_copy_0 : decode b_Md_copy 0 = .ok (.aload_n 0, 1) := by decide +kernel
theorem d_Md_copy_1 : decode b_Md_copy 1 = .ok (.getfield 13, 3) := by decide +kernel
theorem d_Md_copy_4 : decode b_Md_copy 4 = .ok (.iload_n 2, 1) := by decide +kernel
theorem d_Md_copy_5 : decode b_Md_copy 5 = .ok (.aload_n 0, 1) := by decide +kernel
theorem d_Md_copy_6 : decode b_Md_copy 6 = .ok (.getfield 13, 3) := by decide +kernel
theorem d_Md_copy_9 : decode b_Md_copy 9 = .ok (.iload_n 1, 1) := by decide +kernel
theorem d_Md_copy_10 : decode b_Md_copy 10 = .ok (.iaload, 1) := by decide +kernel
theorem d_Md_copy_11 : decode b_Md_copy 11 = .ok (.iastore, 1) := by decide +kernel
theorem d_Md_copy_12 : decode b_Md_copy 12 = .ok (.aload_n 0, 1) := by decide +kernel
theorem d_Md_copy_13 : decode b_Md_copy 13 = .ok (.getfield 16, 3) := by decide +kernel
theorem d_Md_copy_16 : decode b_Md_copy 16 = .ok (.iload_n 2, 1) := by decide +kernel
theorem d_Md_copy_17 : decode b_Md_copy 17 = .ok (.aload_n 0, 1) := by decide +kernel
theorem d_Md_copy_18 : decode b_Md_copy 18 = .ok (.getfield 16, 3) := by decide +kernel
theorem d_Md_copy_21 : decode b_Md_copy 21 = .ok (.iload_n 1, 1) := by decide +kernel
theorem d_Md_copy_22 : decode b_Md_copy 22 = .ok (.iaload, 1) := by decide +kernel
theorem d_Md_copy_23 : decode b_Md_copy 23 = .ok (.iastore, 1) := by decide +kernel
theorem d_Md_copy_24 : decode b_Md_copy 24 = .ok (.aload_n 0, 1) := by decide +kernel
theorem d_Md_copy_25 : decode b_Md_copy 25 = .ok (.getfield 19, 3) := by decide +kernel
theorem d_Md_copy_28 : decode b_Md_copy 28 = .ok (.iload_n 2, 1) := by decide +kernel
theorem d_Md_copy_29 : decode b_Md_copy 29 = .ok (.aload_n 0, 1) := by decide +kernel
theorem d_Md_copy_30 : decode b_Md_copy 30 = .ok (.getfield 19, 3) := by decide +kernel
theorem d_Md_copy_33 : decode b_Md_copy 33 = .ok (.iload_n 1, 1) := by decide +kernel
theorem d_Md_copy_34 : decode b_Md_copy 34 = .ok (.iaload, 1) := by decide +kernel
theorem d_Md_copy_35 : decode b_Md_copy 35 = .ok (.iastore, 1) := by decide +kernel
theorem d_Md_copy_36 : decode b_Md_copy 36 = .ok (.aload_n 0, 1) := by decide +kernel
theorem d_Md_copy_37 : decode b_Md_copy 37 = .ok (.getfield 22, 3) := by decide +kernel
theorem d_Md_copy_40 : decode b_Md_copy 40 = .ok (.iload_n 2, 1) := by decide +kernel
theorem d_Md_copy_41 : decode b_Md_copy 41 = .ok (.aload_n 0, 1) := by decide +kernel
theorem d_Md_copy_42 : decode b_Md_copy 42 = .ok (.getfield 22, 3) := by decide +kernel
theorem d_Md_copy_45 : decode b_Md_copy 45 = .ok (.iload_n 1, 1) := by decide +kernel
theorem d_Md_copy_46 : decode b_Md_copy 46 = .ok (.laload, 1) := by decide +kernel
theorem d_Md_copy_47 : decode b_Md_copy 47 = .ok (.lastore, 1) := by decide +kernel
theorem d_Md_copy_48 : decode b_Md_copy 48 = .ok (.aload_n 0, 1) := by decide +kernel
theorem d_Md_copy_49 : decode b_Md_copy 49 = .ok (.getfield 26, 3) := by decide +kernel
theorem d_Md_copy_52 : decode b_Md_copy 52 = .ok (.iload_n 2, 1) := by decide +kernel
theorem d_Md_copy_53 : decode b_Md_copy 53 = .ok (.aload_n 0, 1) := by decide +kernel
theorem d_Md_copy_54 : decode b_Md_copy 54 = .ok (.getfield 26, 3) := by decide +kernel
theorem d_Md_copy_57 : decode b_Md_copy 57 = .ok (.iload_n 1, 1) := by decide +kernel
theorem d_Md_copy_58 : decode b_Md_copy 58 = .ok (.iaload, 1) := by decide +kernel
theorem d_Md_copy_59 : decode b_Md_copy 59 = .ok (.iastore, 1) := by decide +kernel
theorem d_Md_copy_60 : decode b_Md_copy 60 = .ok (.aload_n 0, 1) := by decide +kernel
theorem d_Md_copy_61 : decode b_Md_copy 61 = .ok (.getfield 29, 3) := by decide +kernel
theorem d_Md_copy_64 : decode b_Md_copy 64 = .ok (.iload_n 2, 1) := by decide +kernel
theorem d_Md_copy_65 : decode b_Md_copy 65 = .ok (.aload_n 0, 1) := by decide +kernel
theorem d_Md_copy_66 : decode b_Md_copy 66 = .ok (.getfield 29, 3) := by decide +kernel
theorem d_Md_copy_69 : decode b_Md_copy 69 = .ok (.iload_n 1, 1) := by decide +kernel
theorem d_Md_copy_70 : decode b_Md_copy 70 = .ok (.iaload, 1) := by decide +kernel
theorem d_Md_copy_71 : decode b_Md_copy 71 = .ok (.iastore, 1) := by decide +kernel
theorem d_Md_copy_72 : decode b_Md_copy 72 = .ok (.return_, 1) := by decide +kernel
theorem d_Md_timeOf_0 : decode b_Md_timeOf 0 = .ok (.bipush 8, 2) := by decide +kernel
theorem d_Md_timeOf_2 : decode b_Md_timeOf 2 = .ok (.iload_n 1, 1) := by decide +kernel
theorem d_Md_timeOf_3 : decode b_Md_timeOf 3 = .ok (.imul, 1) := by decide +kernel
theorem d_Md_timeOf_4 : decode b_Md_timeOf 4 = .ok (.iload_n 2, 1) := by decide +kernel
theorem d_Md_timeOf_5 : decode b_Md_timeOf 5 = .ok (.iadd, 1) := by decide +kernel
theorem d_Md_timeOf_6 : decode b_Md_timeOf 6 = .ok (.istore_n 3, 1) := by decide +kernel
theorem d_Md_timeOf_7 : decode b_Md_timeOf 7 = .ok (.ldc2_w 83, 3) := by decide +kernel
theorem d_Md_timeOf_10 : decode b_Md_timeOf 10 = .ok (.aload_n 0, 1) := by decide +kernel
theorem d_Md_timeOf_11 : decode b_Md_timeOf 11 = .ok (.getfield 85, 3) := by decide +kernel
theorem d_Md_timeOf_14 : decode b_Md_timeOf 14 = .ok (.i2l, 1) := by decide +kernel
theorem d_Md_timeOf_15 : decode b_Md_timeOf 15 = .ok (.lmul, 1) := by decide +kernel
theorem d_Md_timeOf_16 : decode b_Md_timeOf 16 = .ok (.lstore 4, 2) := by decide +kernel
theorem d_Md_timeOf_18 : decode b_Md_timeOf 18 = .ok (.aload_n 0, 1) := by decide +kernel
theorem d_Md_timeOf_19 : decode b_Md_timeOf 19 = .ok (.getfield 38, 3) := by decide +kernel
theorem d_Md_timeOf_22 : decode b_Md_timeOf 22 = .ok (.iload_n 3, 1) := by decide +kernel
theorem d_Md_timeOf_23 : decode b_Md_timeOf 23 = .ok (.laload, 1) := by decide +kernel
theorem d_Md_timeOf_24 : decode b_Md_timeOf 24 = .ok (.lload 4, 2) := by decide +kernel
theorem d_Md_timeOf_26 : decode b_Md_timeOf 26 = .ok (.lcmp, 1) := by decide +kernel
theorem d_Md_timeOf_27 : decode b_Md_timeOf 27 = .ok (.ifCond .le 11, 3) := by decide +kernel
theorem d_Md_timeOf_30 : decode b_Md_timeOf 30 = .ok (.aload_n 0, 1) := by decide +kernel
theorem d_Md_timeOf_31 : decode b_Md_timeOf 31 = .ok (.getfield 38, 3) := by decide +kernel
theorem d_Md_timeOf_34 : decode b_Md_timeOf 34 = .ok (.iload_n 3, 1) := by decide +kernel
theorem d_Md_timeOf_35 : decode b_Md_timeOf 35 = .ok (.laload, 1) := by decide +kernel
theorem d_Md_timeOf_36 : decode b_Md_timeOf 36 = .ok (.lstore 4, 2) := by decide +kernel
theorem d_Md_timeOf_38 : decode b_Md_timeOf 38 = .ok (.lload 4, 2) := by decide +kernel
theorem d_Md_timeOf_40 : decode b_Md_timeOf 40 = .ok (.ldc 88, 2) := by decide +kernel
theorem d_Md_timeOf_42 : decode b_Md_timeOf 42 = .ok (.aload_n 0, 1) := by decide +kernel
theorem d_Md_timeOf_43 : decode b_Md_timeOf 43 = .ok (.getfield 35, 3) := by decide +kernel
theorem d_Md_timeOf_46 : decode b_Md_timeOf 46 = .ok (.iload_n 3, 1) := by decide +kernel
theorem d_Md_timeOf_47 : decode b_Md_timeOf 47 = .ok (.iaload, 1) := by decide +kernel
theorem d_Md_timeOf_48 : decode b_Md_timeOf 48 = .ok (.iadd, 1) := by decide +kernel
theorem d_Md_timeOf_49 : decode b_Md_timeOf 49 = .ok (.aload_n 0, 1) := by decide +kernel
theorem d_Md_timeOf_50 : decode b_Md_timeOf 50 = .ok (.getfield 35, 3) := by decide +kernel
theorem d_Md_timeOf_53 : decode b_Md_timeOf 53 = .ok (.iload_n 3, 1) := by decide +kernel
theorem d_Md_timeOf_54 : decode b_Md_timeOf 54 = .ok (.iaload, 1) := by decide +kernel
theorem d_Md_timeOf_55 : decode b_Md_timeOf 55 = .ok (.idiv, 1) := by decide +kernel
theorem d_Md_timeOf_56 : decode b_Md_timeOf 56 = .ok (.i2l, 1) := by decide +kernel
theorem d_Md_timeOf_57 : decode b_Md_timeOf 57 = .ok (.ladd, 1) := by decide +kernel
theorem d_Md_timeOf_58 : decode b_Md_timeOf 58 = .ok (.lreturn, 1) := by decide +kernel
theorem d_Md_isBehind_0 : decode b_Md_isBehind 0 = .ok (.aload_n 0, 1) := by decide +kernel
theorem d_Md_isBehind_1 : decode b_Md_isBehind 1 = .ok (.getfield 32, 3) := by decide +kernel
theorem d_Md_isBehind_4 : decode b_Md_isBehind 4 = .ok (.iload_n 1, 1) := by decide +kernel
theorem d_Md_isBehind_5 : decode b_Md_isBehind 5 = .ok (.iaload, 1) := by decide +kernel
theorem d_Md_isBehind_6 : decode b_Md_isBehind 6 = .ok (.ifCond .ne 5, 3) := by decide +kernel
theorem d_Md_isBehind_9 : decode b_Md_isBehind 9 = .ok (.iconst 1, 1) := by decide +kernel
theorem d_Md_isBehind_10 : decode b_Md_isBehind 10 = .ok (.ireturn, 1) := by decide +kernel
theorem d_Md_isBehind_11 : decode b_Md_isBehind 11 = .ok (.aload_n 0, 1) := by decide +kernel
theorem d_Md_isBehind_12 : decode b_Md_isBehind 12 = .ok (.getfield 32, 3) := by decide +kernel
theorem d_Md_isBehind_15 : decode b_Md_isBehind 15 = .ok (.iload_n 1, 1) := by decide +kernel
theorem d_Md_isBehind_16 : decode b_Md_isBehind 16 = .ok (.iaload, 1) := by decide +kernel
theorem d_Md_isBehind_17 : decode b_Md_isBehind 17 = .ok (.iconst 1, 1) := by decide +kernel
theorem d_Md_isBehind_18 : decode b_Md_isBehind 18 = .ok (.if_icmp .ne 21, 3) := by decide +kernel
theorem d_Md_isBehind_21 : decode b_Md_isBehind 21 = .ok (.aload_n 0, 1) := by decide +kernel
theorem d_Md_isBehind_22 : decode b_Md_isBehind 22 = .ok (.getfield 16, 3) := by decide +kernel
theorem d_Md_isBehind_25 : decode b_Md_isBehind 25 = .ok (.iload_n 2, 1) := by decide +kernel
theorem d_Md_isBehind_26 : decode b_Md_isBehind 26 = .ok (.iaload, 1) := by decide +kernel
theorem d_Md_isBehind_27 : decode b_Md_isBehind 27 = .ok (.iload_n 3, 1) := by decide +kernel
theorem d_Md_isBehind_28 : decode b_Md_isBehind 28 = .ok (.if_icmp .gt 7, 3) := by decide +kernel
theorem d_Md_isBehind_31 : decode b_Md_isBehind 31 = .ok (.iconst 1, 1) := by decide +kernel
theorem d_Md_isBehind_32 : decode b_Md_isBehind 32 = .ok (.goto 24, 3) := by decide +kernel
theorem d_Md_isBehind_35 : decode b_Md_isBehind 35 = .ok (.iconst 0, 1) := by decide +kernel
theorem d_Md_isBehind_36 : decode b_Md_isBehind 36 = .ok (.goto 20, 3) := by decide +kernel
theorem d_Md_isBehind_39 : decode b_Md_isBehind 39 = .ok (.aload_n 0, 1) := by decide +kernel
theorem d_Md_isBehind_40 : decode b_Md_isBehind 40 = .ok (.getfield 22, 3) := by decide +kernel
theorem d_Md_isBehind_43 : decode b_Md_isBehind 43 = .ok (.iload_n 2, 1) := by decide +kernel
theorem d_Md_isBehind_44 : decode b_Md_isBehind 44 = .ok (.laload, 1) := by decide +kernel
theorem d_Md_isBehind_45 : decode b_Md_isBehind 45 = .ok (.lload 4, 2) := by decide +kernel
theorem d_Md_isBehind_47 : decode b_Md_isBehind 47 = .ok (.lcmp, 1) := by decide +kernel
theorem d_Md_isBehind_48 : decode b_Md_isBehind 48 = .ok (.ifCond .gt 7, 3) := by decide +kernel
theorem d_Md_isBehind_51 : decode b_Md_isBehind 51 = .ok (.iconst 1, 1) := by decide +kernel
theorem d_Md_isBehind_52 : decode b_Md_isBehind 52 = .ok (.goto 4, 3) := by decide +kernel
theorem d_Md_isBehind_55 : decode b_Md_isBehind 55 = .ok (.iconst 0, 1) := by decide +kernel
theorem d_Md_isBehind_56 : decode b_Md_isBehind 56 = .ok (.ireturn, 1) := by decide +kernel
abbrev rm_Md_copy : Room := { frames := 0, cells := 0, slots := 0, locals := 0 }
set_option maxHeartbeats 4000000 in
set_option maxRecDepth 100000 in
theorem cn_Md_copy (l : Launch) (D : va_G) (B : Nat) (M : hp_M) (b : Nat) (ad : Nat → Nat) (th of sl : Int32) (ct : Nat → Nat → Int32) (cl : Nat → Nat → Int64) (f t : Nat) (hm : md_H D M b ad th of sl ct cl) (hf4 : f < 4096) (ht4 : t < 4096) : Met l y_Md_copy (wd_c y_Md_copy b_Md_copy 3 (none)) rm_Md_copy (va_Pc [.ref b, .int (nI f), .int (nI t)] (hp_C D B M)) (va_Qv (fun  (M1 : hp_M) => ∃ (ct' : Nat → Nat → Int32) (cl' : Nat → Nat → Int64), md_H D M1 b ad th of sl ct' cl' ∧ md_fr b ad M M1 ∧ (∀ p, mo_row ct' cl' p = if p = t then mo_row ct cl f else mo_row ct cl p) ∧ (∀ j, j = 0 ∨ 7 ≤ j → ct' j = ct j) ∧ cl' 9 = cl 9) (hp_C D B) (hp_ub B)) 0 0 (hp_ub B) := by
  refine hp_met (by decide) (Nat.le_of_ble_eq_true rfl) ?_
  intro p e s m args below meth cd ls Q hQ hx hb hr hts hown hlocks hnm hml hK hH hS hB hl
  replace hl : lv_has ls 3 [(0, .ref b), (1, .int (nI f)), (2, .int (nI t))] := hl
  have hf : md_fr b ad M M := md_fr_rf
  refine lv_aload_n hx hb d_Md_copy_0 rfl (lv_at hl 0 rfl) ?_
  refine hp_get hx hb hts iw_Md hown hK hH hm.1 rfl 2 (by decide) (hts _ kw_152) (v := .ref (ad 1)) rfl d_Md_copy_1 ?_
  refine lv_iload_n hx hb d_Md_copy_4 rfl (lv_at hl 2 rfl) ?_
  refine lv_aload_n hx hb d_Md_copy_5 rfl (lv_at hl 0 rfl) ?_
  refine hp_get hx hb hts iw_Md hown hK hH hm.1 rfl 2 (by decide) (hts _ kw_152) (v := .ref (ad 1)) rfl d_Md_copy_6 ?_
  refine lv_iload_n hx hb d_Md_copy_9 rfl (lv_at hl 1 rfl) ?_
  refine hp_iald hx hb hK hH (show M (ad 1) = some (hp_ai D 4096 (ct 1)) from hm.2.1 1 (by decide) (by decide) (by decide)) f rfl hf4 (by decide) (v := (ct 1 f)) rfl d_Md_copy_10 ?_
  refine hp_iast hx hb hK hH hS hB (show M (ad 1) = some (hp_ai D 4096 (ct 1)) from hm.2.1 1 (by decide) (by decide) (by decide)) t rfl ht4 (by decide) d_Md_copy_11 (fun M_1 H locs eM_1 hH hS => ?_)
  have hm := md_pi hm (j := 1) (by decide) (by decide) (by decide) eM_1
  have hf := md_fr_a (j := 1) (by decide) hf eM_1
  refine lv_aload_n hx hb d_Md_copy_12 rfl (lv_at hl 0 rfl) ?_
  refine hp_get hx hb hts iw_Md hown hK hH hm.1 rfl 3 (by decide) (hts _ kw_176) (v := .ref (ad 2)) rfl d_Md_copy_13 ?_
  refine lv_iload_n hx hb d_Md_copy_16 rfl (lv_at hl 2 rfl) ?_
  refine lv_aload_n hx hb d_Md_copy_17 rfl (lv_at hl 0 rfl) ?_
  refine hp_get hx hb hts iw_Md hown hK hH hm.1 rfl 3 (by decide) (hts _ kw_176) (v := .ref (ad 2)) rfl d_Md_copy_18 ?_
  refine lv_iload_n hx hb d_Md_copy_21 rfl (lv_at hl 1 rfl) ?_
  refine hp_iald hx hb hK hH (show M_1 (ad 2) = some (hp_ai D 4096 (ct 2)) from hm.2.1 2 (by decide) (by decide) (by decide)) f rfl hf4 (by decide) (v := (ct 2 f)) rfl d_Md_copy_22 ?_
  refine hp_iast hx hb hK hH hS hB (show M_1 (ad 2) = some (hp_ai D 4096 (ct 2)) from hm.2.1 2 (by decide) (by decide) (by decide)) t rfl ht4 (by decide) d_Md_copy_23 (fun M_2 H locs eM_2 hH hS => ?_)
  have hm := md_pi hm (j := 2) (by decide) (by decide) (by decide) eM_2
  have hf := md_fr_a (j := 2) (by decide) hf eM_2
  refine lv_aload_n hx hb d_Md_copy_24 rfl (lv_at hl 0 rfl) ?_
  refine hp_get hx hb hts iw_Md hown hK hH hm.1 rfl 4 (by decide) (hts _ kw_177) (v := .ref (ad 3)) rfl d_Md_copy_25 ?_
  refine lv_iload_n hx hb d_Md_copy_28 rfl (lv_at hl 2 rfl) ?_
  refine lv_aload_n hx hb d_Md_copy_29 rfl (lv_at hl 0 rfl) ?_
  refine hp_get hx hb hts iw_Md hown hK hH hm.1 rfl 4 (by decide) (hts _ kw_177) (v := .ref (ad 3)) rfl d_Md_copy_30 ?_
  refine lv_iload_n hx hb d_Md_copy_33 rfl (lv_at hl 1 rfl) ?_
  refine hp_iald hx hb hK hH (show M_2 (ad 3) = some (hp_ai D 4096 (ct 3)) from hm.2.1 3 (by decide) (by decide) (by decide)) f rfl hf4 (by decide) (v := (ct 3 f)) rfl d_Md_copy_34 ?_
  refine hp_iast hx hb hK hH hS hB (show M_2 (ad 3) = some (hp_ai D 4096 (ct 3)) from hm.2.1 3 (by decide) (by decide) (by decide)) t rfl ht4 (by decide) d_Md_copy_35 (fun M_3 H locs eM_3 hH hS => ?_)
  have hm := md_pi hm (j := 3) (by decide) (by decide) (by decide) eM_3
  have hf := md_fr_a (j := 3) (by decide) hf eM_3
  refine lv_aload_n hx hb d_Md_copy_36 rfl (lv_at hl 0 rfl) ?_
  refine hp_get hx hb hts iw_Md hown hK hH hm.1 rfl 5 (by decide) (hts _ kw_154) (v := .ref (ad 4)) rfl d_Md_copy_37 ?_
  refine lv_iload_n hx hb d_Md_copy_40 rfl (lv_at hl 2 rfl) ?_
  refine lv_aload_n hx hb d_Md_copy_41 rfl (lv_at hl 0 rfl) ?_
  refine hp_get hx hb hts iw_Md hown hK hH hm.1 rfl 5 (by decide) (hts _ kw_154) (v := .ref (ad 4)) rfl d_Md_copy_42 ?_
  refine lv_iload_n hx hb d_Md_copy_45 rfl (lv_at hl 1 rfl) ?_
  refine hp_lald hx hb hK hH (show M_3 (ad 4) = some (hp_al D 4096 (cl 4)) from hm.2.2.1 4 (by decide)) f rfl hf4 (by decide) (v := (cl 4 f)) rfl d_Md_copy_46 ?_
  refine hp_last hx hb hK hH hS hB (show M_3 (ad 4) = some (hp_al D 4096 (cl 4)) from hm.2.2.1 4 (by decide)) t rfl ht4 (by decide) d_Md_copy_47 (fun M_4 H locs eM_4 hH hS => ?_)
  have hm := md_pl hm (j := 4) (by decide) eM_4
  have hf := md_fr_a (j := 4) (by decide) hf eM_4
  refine lv_aload_n hx hb d_Md_copy_48 rfl (lv_at hl 0 rfl) ?_
  refine hp_get hx hb hts iw_Md hown hK hH hm.1 rfl 6 (by decide) (hts _ kw_178) (v := .ref (ad 5)) rfl d_Md_copy_49 ?_
  refine lv_iload_n hx hb d_Md_copy_52 rfl (lv_at hl 2 rfl) ?_
  refine lv_aload_n hx hb d_Md_copy_53 rfl (lv_at hl 0 rfl) ?_
  refine hp_get hx hb hts iw_Md hown hK hH hm.1 rfl 6 (by decide) (hts _ kw_178) (v := .ref (ad 5)) rfl d_Md_copy_54 ?_
  refine lv_iload_n hx hb d_Md_copy_57 rfl (lv_at hl 1 rfl) ?_
  refine hp_iald hx hb hK hH (show M_4 (ad 5) = some (hp_ai D 4096 (ct 5)) from hm.2.1 5 (by decide) (by decide) (by decide)) f rfl hf4 (by decide) (v := (ct 5 f)) rfl d_Md_copy_58 ?_
  refine hp_iast hx hb hK hH hS hB (show M_4 (ad 5) = some (hp_ai D 4096 (ct 5)) from hm.2.1 5 (by decide) (by decide) (by decide)) t rfl ht4 (by decide) d_Md_copy_59 (fun M_5 H locs eM_5 hH hS => ?_)
  have hm := md_pi hm (j := 5) (by decide) (by decide) (by decide) eM_5
  have hf := md_fr_a (j := 5) (by decide) hf eM_5
  refine lv_aload_n hx hb d_Md_copy_60 rfl (lv_at hl 0 rfl) ?_
  refine hp_get hx hb hts iw_Md hown hK hH hm.1 rfl 7 (by decide) (hts _ kw_179) (v := .ref (ad 6)) rfl d_Md_copy_61 ?_
  refine lv_iload_n hx hb d_Md_copy_64 rfl (lv_at hl 2 rfl) ?_
  refine lv_aload_n hx hb d_Md_copy_65 rfl (lv_at hl 0 rfl) ?_
  refine hp_get hx hb hts iw_Md hown hK hH hm.1 rfl 7 (by decide) (hts _ kw_179) (v := .ref (ad 6)) rfl d_Md_copy_66 ?_
  refine lv_iload_n hx hb d_Md_copy_69 rfl (lv_at hl 1 rfl) ?_
  refine hp_iald hx hb hK hH (show M_5 (ad 6) = some (hp_ai D 4096 (ct 6)) from hm.2.1 6 (by decide) (by decide) (by decide)) f rfl hf4 (by decide) (v := (ct 6 f)) rfl d_Md_copy_70 ?_
  refine hp_iast hx hb hK hH hS hB (show M_5 (ad 6) = some (hp_ai D 4096 (ct 6)) from hm.2.1 6 (by decide) (by decide) (by decide)) t rfl ht4 (by decide) d_Md_copy_71 (fun M_6 H locs eM_6 hH hS => ?_)
  have hm := md_pi hm (j := 6) (by decide) (by decide) (by decide) eM_6
  have hf := md_fr_a (j := 6) (by decide) hf eM_6
  exact hp_vret hx hb hr hlocks hQ hK hH hS (Nat.le_of_ble_eq_true rfl) (Nat.le_of_ble_eq_true rfl) d_Md_copy_72 ⟨_, _, hm, hf, mo_cp, fun j hj => mo_cp2 hj, rfl⟩
abbrev rm_Md_timeOf : Room := { frames := 0, cells := 0, slots := 0, locals := 0 }
set_option maxHeartbeats 4000000 in
set_option maxRecDepth 100000 in
theorem cn_Md_timeOf (l : Launch) (D : va_G) (B : Nat) (M : hp_M) (b : Nat) (ad : Nat → Nat) (th of sl : Int32) (ct : Nat → Nat → Int32) (cl : Nat → Nat → Int64) (σ : sg_S) (tk : Nat → Int32) (o g : Nat) (hm : md_H D M b ad th of sl ct cl) (hR : mo_R σ tk of sl ct cl) (hinv : sg_inv σ) (hac : sg_ac σ ≤ 512) (ho8 : o < 8) (hg8 : g < 8) : Met l y_Md_timeOf (wd_c y_Md_timeOf b_Md_timeOf 6 (some .long)) rm_Md_timeOf (va_Pc [.ref b, .int (nI o), .int (nI g)] (hp_C D B M)) (va_Ql (fun (r : Int64) (M1 : hp_M) => M1 = M ∧ r = sg_time σ o g) (hp_C D B) (hp_ub B)) 0 0 (hp_ub B) := by
  refine hp_met (by decide) (Nat.le_of_ble_eq_true rfl) ?_
  intro p e s m args below meth cd ls Q hQ hx hb hr hts hown hlocks hnm hml hK hH hS hB hl
  replace hl : lv_has ls 6 [(0, .ref b), (1, .int (nI o)), (2, .int (nI g))] := hl
  refine lv_bipush (v := 8) hx hb d_Md_timeOf_0 (by decide) ?_
  refine lv_iload_n hx hb d_Md_timeOf_2 rfl (lv_at hl 1 rfl) ?_
  refine lv_imul hx hb d_Md_timeOf_3 ?_
  refine lv_iload_n hx hb d_Md_timeOf_4 rfl (lv_at hl 2 rfl) ?_
  refine lv_iadd hx hb d_Md_timeOf_5 ?_
  refine hp_ioi (md_ix8 o g) ?_
  refine lv_istore_n (lv' := [(3, .int (nI (8 * o + g))), (0, .ref b), (1, .int (nI o)), (2, .int (nI g))]) hx hb d_Md_timeOf_6 rfl hl (by decide) rfl (fun ls hl => ?_)
  refine lv_ldc2 (v := 256) hx hb hown (hts _ kw_180) d_Md_timeOf_7 ?_
  refine lv_aload_n hx hb d_Md_timeOf_10 rfl (lv_at hl 1 rfl) ?_
  refine hp_get hx hb hts iw_Md hown hK hH hm.1 rfl 16 (by decide) (hts _ kw_135) (v := .int sl) rfl d_Md_timeOf_11 ?_
  refine lv_i2l hx hb d_Md_timeOf_14 rfl ?_
  refine lv_lmul hx hb d_Md_timeOf_15 ?_
  refine lv_lstore (lv' := [(4, .long (256 * sl.toInt64)), (3, .int (nI (8 * o + g))), (0, .ref b), (1, .int (nI o)), (2, .int (nI g))]) hx hb d_Md_timeOf_16 hl (by decide) rfl (fun ls hl => ?_)
  refine lv_aload_n hx hb d_Md_timeOf_18 rfl (lv_at hl 2 rfl) ?_
  refine hp_get hx hb hts iw_Md hown hK hH hm.1 rfl 10 (by decide) (hts _ kw_170) (v := .ref (ad 9)) rfl d_Md_timeOf_19 ?_
  refine lv_iload_n hx hb d_Md_timeOf_22 rfl (lv_at hl 1 rfl) ?_
  refine hp_lald hx hb hK hH (show M (ad 9) = some (hp_al D 64 (cl 9)) from hm.2.2.1 9 (by decide)) (8 * o + g) rfl (by omega) (by decide) (v := (sg_lt σ o g)) ((hR.2.2.1 o ho8).2.2.1 g hg8).2 d_Md_timeOf_23 ?_
  refine lv_lload hx hb d_Md_timeOf_24 (lv_at hl 0 rfl) ?_
  refine W.lcmp hx hb d_Md_timeOf_26 ?_
  refine lv_if_le (tgt := 38) hx hb d_Md_timeOf_27 (by decide) (fun c_1 => ?_) (fun c_1 => ?_)
  · refine lv_lload hx hb d_Md_timeOf_38 (lv_at hl 0 rfl) ?_
    refine lv_ldc (v := 65535) hx hb hown (hts _ kw_181) d_Md_timeOf_40 ?_
    refine lv_aload_n hx hb d_Md_timeOf_42 rfl (lv_at hl 2 rfl) ?_
    refine hp_get hx hb hts iw_Md hown hK hH hm.1 rfl 9 (by decide) (hts _ kw_165) (v := .ref (ad 8)) rfl d_Md_timeOf_43 ?_
    refine lv_iload_n hx hb d_Md_timeOf_46 rfl (lv_at hl 1 rfl) ?_
    refine hp_iald hx hb hK hH (show M (ad 8) = some (hp_ai D 64 (ct 8)) from hm.2.1 8 (by decide) (by decide) (by decide)) (8 * o + g) rfl (by omega) (by decide) (v := (sg_wt σ o g)) ((hR.2.2.1 o ho8).2.2.1 g hg8).1 d_Md_timeOf_47 ?_
    refine lv_iadd hx hb d_Md_timeOf_48 ?_
    refine lv_aload_n hx hb d_Md_timeOf_49 rfl (lv_at hl 2 rfl) ?_
    refine hp_get hx hb hts iw_Md hown hK hH hm.1 rfl 9 (by decide) (hts _ kw_165) (v := .ref (ad 8)) rfl d_Md_timeOf_50 ?_
    refine lv_iload_n hx hb d_Md_timeOf_53 rfl (lv_at hl 1 rfl) ?_
    refine hp_iald hx hb hK hH (show M (ad 8) = some (hp_ai D 64 (ct 8)) from hm.2.1 8 (by decide) (by decide) (by decide)) (8 * o + g) rfl (by omega) (by decide) (v := (sg_wt σ o g)) ((hR.2.2.1 o ho8).2.2.1 g hg8).1 d_Md_timeOf_54 ?_
    refine lv_idiv hx hb d_Md_timeOf_55 (hinv.2.2.2.1 o g ho8 hg8) ?_
    refine lv_i2l hx hb d_Md_timeOf_56 rfl ?_
    refine lv_ladd hx hb d_Md_timeOf_57 ?_
    exact hp_lret hx hb hr hlocks hQ hK hH hS (Nat.le_of_ble_eq_true rfl) (Nat.le_of_ble_eq_true rfl) d_Md_timeOf_58 ⟨rfl, by rw [hR.2.1] at *; unfold sg_time sg_step; rw [← mo_t0 ((lg_cmp_le _ _).mp c_1)]⟩
  · refine lv_aload_n hx hb d_Md_timeOf_30 rfl (lv_at hl 2 rfl) ?_
    refine hp_get hx hb hts iw_Md hown hK hH hm.1 rfl 10 (by decide) (hts _ kw_170) (v := .ref (ad 9)) rfl d_Md_timeOf_31 ?_
    refine lv_iload_n hx hb d_Md_timeOf_34 rfl (lv_at hl 1 rfl) ?_
    refine hp_lald hx hb hK hH (show M (ad 9) = some (hp_al D 64 (cl 9)) from hm.2.2.1 9 (by decide)) (8 * o + g) rfl (by omega) (by decide) (v := (sg_lt σ o g)) ((hR.2.2.1 o ho8).2.2.1 g hg8).2 d_Md_timeOf_35 ?_
    refine lv_lstore (lv' := [(4, .long (sg_lt σ o g)), (3, .int (nI (8 * o + g))), (0, .ref b), (1, .int (nI o)), (2, .int (nI g))]) hx hb d_Md_timeOf_36 hl (by decide) rfl (fun ls hl => ?_)
    refine lv_lload hx hb d_Md_timeOf_38 (lv_at hl 0 rfl) ?_
    refine lv_ldc (v := 65535) hx hb hown (hts _ kw_181) d_Md_timeOf_40 ?_
    refine lv_aload_n hx hb d_Md_timeOf_42 rfl (lv_at hl 2 rfl) ?_
    refine hp_get hx hb hts iw_Md hown hK hH hm.1 rfl 9 (by decide) (hts _ kw_165) (v := .ref (ad 8)) rfl d_Md_timeOf_43 ?_
    refine lv_iload_n hx hb d_Md_timeOf_46 rfl (lv_at hl 1 rfl) ?_
    refine hp_iald hx hb hK hH (show M (ad 8) = some (hp_ai D 64 (ct 8)) from hm.2.1 8 (by decide) (by decide) (by decide)) (8 * o + g) rfl (by omega) (by decide) (v := (sg_wt σ o g)) ((hR.2.2.1 o ho8).2.2.1 g hg8).1 d_Md_timeOf_47 ?_
    refine lv_iadd hx hb d_Md_timeOf_48 ?_
    refine lv_aload_n hx hb d_Md_timeOf_49 rfl (lv_at hl 2 rfl) ?_
    refine hp_get hx hb hts iw_Md hown hK hH hm.1 rfl 9 (by decide) (hts _ kw_165) (v := .ref (ad 8)) rfl d_Md_timeOf_50 ?_
    refine lv_iload_n hx hb d_Md_timeOf_53 rfl (lv_at hl 1 rfl) ?_
    refine hp_iald hx hb hK hH (show M (ad 8) = some (hp_ai D 64 (ct 8)) from hm.2.1 8 (by decide) (by decide) (by decide)) (8 * o + g) rfl (by omega) (by decide) (v := (sg_wt σ o g)) ((hR.2.2.1 o ho8).2.2.1 g hg8).1 d_Md_timeOf_54 ?_
    refine lv_idiv hx hb d_Md_timeOf_55 (hinv.2.2.2.1 o g ho8 hg8) ?_
    refine lv_i2l hx hb d_Md_timeOf_56 rfl ?_
    refine lv_ladd hx hb d_Md_timeOf_57 ?_
    exact hp_lret hx hb hr hlocks hQ hK hH hS (Nat.le_of_ble_eq_true rfl) (Nat.le_of_ble_eq_true rfl) d_Md_timeOf_58 ⟨rfl, by rw [hR.2.1] at *; unfold sg_time sg_step; rw [← mo_t1 (fun q => c_1 ((lg_cmp_le _ _).mpr q))]⟩
abbrev rm_Md_isBehind : Room := { frames := 0, cells := 0, slots := 0, locals := 0 }
set_option maxHeartbeats 4000000 in
set_option maxRecDepth 100000 in
theorem cn_Md_isBehind (l : Launch) (D : va_G) (B : Nat) (M : hp_M) (b : Nat) (ad : Nat → Nat) (th of sl : Int32) (ct : Nat → Nat → Int32) (cl : Nat → Nat → Int64) (o p0 : Nat) (c d : sg_Ce) (hm : md_H D M b ad th of sl ct cl) (hkd : ct 7 o = 0 ∨ ct 7 o = 1 ∨ ct 7 o = 2) (ho8 : o < 8) (hp4 : p0 < 4096) (hc8 : sg_cg c < 8) (hd8 : sg_cg d < 8) (hd2 : ct 2 p0 = nI (sg_cg d)) (hd4 : cl 4 p0 = sg_cm d) : Met l y_Md_isBehind (wd_c y_Md_isBehind b_Md_isBehind 6 (some .boolean)) rm_Md_isBehind (va_Pc [.ref b, .int (nI o), .int (nI p0), .int (nI (sg_cg c)), .long (sg_cm c)] (hp_C D B M)) (va_Qi (fun (r : Int32) (M1 : hp_M) => M1 = M ∧ r = sw_b (!(sg_bef (ct 7 o) c d))) (hp_C D B) (hp_ub B)) 0 0 (hp_ub B) := by
  rcases hkd with hkd | hkd | hkd
  · refine hp_met (by decide) (Nat.le_of_ble_eq_true rfl) ?_
    intro p e s m args below meth cd ls Q hQ hx hb hr hts hown hlocks hnm hml hK hH hS hB hl
    replace hl : lv_has ls 6 [(0, .ref b), (1, .int (nI o)), (2, .int (nI p0)), (3, .int (nI (sg_cg c))), (4, .long (sg_cm c))] := hl
    refine lv_aload_n hx hb d_Md_isBehind_0 rfl (lv_at hl 0 rfl) ?_
    refine hp_get hx hb hts iw_Md hown hK hH hm.1 rfl 8 (by decide) (hts _ kw_164) (v := .ref (ad 7)) rfl d_Md_isBehind_1 ?_
    refine lv_iload_n hx hb d_Md_isBehind_4 rfl (lv_at hl 1 rfl) ?_
    refine hp_iald hx hb hK hH (show M (ad 7) = some (hp_ai D 8 (ct 7)) from hm.2.1 7 (by decide) (by decide) (by decide)) o rfl ho8 (by decide) (v := 0) hkd d_Md_isBehind_5 ?_
    refine lv_if_ne (tgt := 11) hx hb d_Md_isBehind_6 (by decide) (fun c_1 => absurd rfl c_1) (fun c_1 => ?_)
    refine lv_iconst (v := 1) hx hb d_Md_isBehind_9 (by decide) ?_
    exact hp_zret hx hb hr hlocks hQ hK hH hS (Nat.le_of_ble_eq_true rfl) (Nat.le_of_ble_eq_true rfl) rfl d_Md_isBehind_10 ⟨rfl, by rw [hkd]; exact mb_0⟩
  · refine hp_met (by decide) (Nat.le_of_ble_eq_true rfl) ?_
    intro p e s m args below meth cd ls Q hQ hx hb hr hts hown hlocks hnm hml hK hH hS hB hl
    replace hl : lv_has ls 6 [(0, .ref b), (1, .int (nI o)), (2, .int (nI p0)), (3, .int (nI (sg_cg c))), (4, .long (sg_cm c))] := hl
    refine lv_aload_n hx hb d_Md_isBehind_0 rfl (lv_at hl 0 rfl) ?_
    refine hp_get hx hb hts iw_Md hown hK hH hm.1 rfl 8 (by decide) (hts _ kw_164) (v := .ref (ad 7)) rfl d_Md_isBehind_1 ?_
    refine lv_iload_n hx hb d_Md_isBehind_4 rfl (lv_at hl 1 rfl) ?_
    refine hp_iald hx hb hK hH (show M (ad 7) = some (hp_ai D 8 (ct 7)) from hm.2.1 7 (by decide) (by decide) (by decide)) o rfl ho8 (by decide) (v := 1) hkd d_Md_isBehind_5 ?_
    refine lv_if_ne (tgt := 11) hx hb d_Md_isBehind_6 (by decide) (fun c_1 => ?_) (fun c_1 => absurd c_1 (by decide))
    refine lv_aload_n hx hb d_Md_isBehind_11 rfl (lv_at hl 0 rfl) ?_
    refine hp_get hx hb hts iw_Md hown hK hH hm.1 rfl 8 (by decide) (hts _ kw_164) (v := .ref (ad 7)) rfl d_Md_isBehind_12 ?_
    refine lv_iload_n hx hb d_Md_isBehind_15 rfl (lv_at hl 1 rfl) ?_
    refine hp_iald hx hb hK hH (show M (ad 7) = some (hp_ai D 8 (ct 7)) from hm.2.1 7 (by decide) (by decide) (by decide)) o rfl ho8 (by decide) (v := 1) hkd d_Md_isBehind_16 ?_
    refine lv_iconst (v := 1) hx hb d_Md_isBehind_17 (by decide) ?_
    refine lv_icmp_ne (tgt := 39) hx hb d_Md_isBehind_18 (by decide) (fun c_2 => absurd rfl c_2) (fun c_2 => ?_)
    refine lv_aload_n hx hb d_Md_isBehind_21 rfl (lv_at hl 0 rfl) ?_
    refine hp_get hx hb hts iw_Md hown hK hH hm.1 rfl 3 (by decide) (hts _ kw_176) (v := .ref (ad 2)) rfl d_Md_isBehind_22 ?_
    refine lv_iload_n hx hb d_Md_isBehind_25 rfl (lv_at hl 2 rfl) ?_
    refine hp_iald hx hb hK hH (show M (ad 2) = some (hp_ai D 4096 (ct 2)) from hm.2.1 2 (by decide) (by decide) (by decide)) p0 rfl hp4 (by decide) (v := (nI (sg_cg d))) hd2 d_Md_isBehind_26 ?_
    refine lv_iload_n hx hb d_Md_isBehind_27 rfl (lv_at hl 3 rfl) ?_
    refine lv_icmp_gt (tgt := 35) hx hb d_Md_isBehind_28 (by decide) (fun c_3 => ?_) (fun c_3 => ?_)
    · refine lv_iconst (v := 0) hx hb d_Md_isBehind_35 (by decide) ?_
      refine lv_goto (tgt := 56) hx hb d_Md_isBehind_36 (by decide) ?_
      exact hp_zret hx hb hr hlocks hQ hK hH hS (Nat.le_of_ble_eq_true rfl) (Nat.le_of_ble_eq_true rfl) rfl d_Md_isBehind_56 ⟨rfl, by rw [hkd]; exact mb_1t hc8 hd8 c_3⟩
    · refine lv_iconst (v := 1) hx hb d_Md_isBehind_31 (by decide) ?_
      refine lv_goto (tgt := 56) hx hb d_Md_isBehind_32 (by decide) ?_
      exact hp_zret hx hb hr hlocks hQ hK hH hS (Nat.le_of_ble_eq_true rfl) (Nat.le_of_ble_eq_true rfl) rfl d_Md_isBehind_56 ⟨rfl, by rw [hkd]; exact mb_1f hc8 hd8 c_3⟩
  · refine hp_met (by decide) (Nat.le_of_ble_eq_true rfl) ?_
    intro p e s m args below meth cd ls Q hQ hx hb hr hts hown hlocks hnm hml hK hH hS hB hl
    replace hl : lv_has ls 6 [(0, .ref b), (1, .int (nI o)), (2, .int (nI p0)), (3, .int (nI (sg_cg c))), (4, .long (sg_cm c))] := hl
    refine lv_aload_n hx hb d_Md_isBehind_0 rfl (lv_at hl 0 rfl) ?_
    refine hp_get hx hb hts iw_Md hown hK hH hm.1 rfl 8 (by decide) (hts _ kw_164) (v := .ref (ad 7)) rfl d_Md_isBehind_1 ?_
    refine lv_iload_n hx hb d_Md_isBehind_4 rfl (lv_at hl 1 rfl) ?_
    refine hp_iald hx hb hK hH (show M (ad 7) = some (hp_ai D 8 (ct 7)) from hm.2.1 7 (by decide) (by decide) (by decide)) o rfl ho8 (by decide) (v := 2) hkd d_Md_isBehind_5 ?_
    refine lv_if_ne (tgt := 11) hx hb d_Md_isBehind_6 (by decide) (fun c_1 => ?_) (fun c_1 => absurd c_1 (by decide))
    refine lv_aload_n hx hb d_Md_isBehind_11 rfl (lv_at hl 0 rfl) ?_
    refine hp_get hx hb hts iw_Md hown hK hH hm.1 rfl 8 (by decide) (hts _ kw_164) (v := .ref (ad 7)) rfl d_Md_isBehind_12 ?_
    refine lv_iload_n hx hb d_Md_isBehind_15 rfl (lv_at hl 1 rfl) ?_
    refine hp_iald hx hb hK hH (show M (ad 7) = some (hp_ai D 8 (ct 7)) from hm.2.1 7 (by decide) (by decide) (by decide)) o rfl ho8 (by decide) (v := 2) hkd d_Md_isBehind_16 ?_
    refine lv_iconst (v := 1) hx hb d_Md_isBehind_17 (by decide) ?_
    refine lv_icmp_ne (tgt := 39) hx hb d_Md_isBehind_18 (by decide) (fun c_2 => ?_) (fun c_2 => absurd c_2 (by decide))
    refine lv_aload_n hx hb d_Md_isBehind_39 rfl (lv_at hl 0 rfl) ?_
    refine hp_get hx hb hts iw_Md hown hK hH hm.1 rfl 5 (by decide) (hts _ kw_154) (v := .ref (ad 4)) rfl d_Md_isBehind_40 ?_
    refine lv_iload_n hx hb d_Md_isBehind_43 rfl (lv_at hl 2 rfl) ?_
    refine hp_lald hx hb hK hH (show M (ad 4) = some (hp_al D 4096 (cl 4)) from hm.2.2.1 4 (by decide)) p0 rfl hp4 (by decide) (v := (sg_cm d)) hd4 d_Md_isBehind_44 ?_
    refine lv_lload hx hb d_Md_isBehind_45 (lv_at hl 4 rfl) ?_
    refine W.lcmp hx hb d_Md_isBehind_47 ?_
    refine lv_if_gt (tgt := 55) hx hb d_Md_isBehind_48 (by decide) (fun c_3 => ?_) (fun c_3 => ?_)
    · refine lv_iconst (v := 0) hx hb d_Md_isBehind_55 (by decide) ?_
      exact hp_zret hx hb hr hlocks hQ hK hH hS (Nat.le_of_ble_eq_true rfl) (Nat.le_of_ble_eq_true rfl) rfl d_Md_isBehind_56 ⟨rfl, by rw [hkd]; exact mb_2t c_3⟩
    · refine lv_iconst (v := 1) hx hb d_Md_isBehind_51 (by decide) ?_
      refine lv_goto (tgt := 56) hx hb d_Md_isBehind_52 (by decide) ?_
      exact hp_zret hx hb hr hlocks hQ hK hH hS (Nat.le_of_ble_eq_true rfl) (Nat.le_of_ble_eq_true rfl) rfl d_Md_isBehind_56 ⟨rfl, by rw [hkd]; exact mb_2f c_3⟩
end
section
theorem kw_182 : Cond.methodLink R_Md 93 y_Md_isBehind ∈ wd_T := wd_in (List.mem_of_getElem? (i := 375) (by decide +kernel)) rfl
theorem kw_183 : Cond.code y_Md_isBehind b_Md_isBehind 6 (some .boolean) ∈ wd_T := wd_in (List.mem_of_getElem? (i := 378) (by decide +kernel)) rfl
theorem kw_184 : Cond.instanceMethod y_Md_isBehind ∈ wd_T := wd_in (List.mem_of_getElem? (i := 377) (by decide +kernel)) rfl
theorem kw_185 : Cond.selects R_Md y_Md_isBehind y_Md_isBehind ∈ wd_T := wd_in (List.mem_of_getElem? (i := 14) (by decide +kernel)) rfl
theorem kw_186 : Cond.methodLink R_Md 97 y_Md_copy ∈ wd_T := wd_in (List.mem_of_getElem? (i := 379) (by decide +kernel)) rfl
theorem kw_187 : Cond.code y_Md_copy b_Md_copy 3 none ∈ wd_T := wd_in (List.mem_of_getElem? (i := 382) (by decide +kernel)) rfl
theorem kw_188 : Cond.instanceMethod y_Md_copy ∈ wd_T := wd_in (List.mem_of_getElem? (i := 381) (by decide +kernel)) rfl
theorem kw_189 : Cond.selects R_Md y_Md_copy y_Md_copy ∈ wd_T := wd_in (List.mem_of_getElem? (i := 15) (by decide +kernel)) rfl
theorem kw_190 : Cond.methodLink R_Md 89 y_Md_timeOf ∈ wd_T := wd_in (List.mem_of_getElem? (i := 369) (by decide +kernel)) rfl
theorem kw_191 : Cond.code y_Md_timeOf b_Md_timeOf 6 (some .long) ∈ wd_T := wd_in (List.mem_of_getElem? (i := 372) (by decide +kernel)) rfl
theorem kw_192 : Cond.instanceMethod y_Md_timeOf ∈ wd_T := wd_in (List.mem_of_getElem? (i := 371) (by decide +kernel)) rfl
theorem kw_193 : Cond.selects R_Md y_Md_timeOf y_Md_timeOf ∈ wd_T := wd_in (List.mem_of_getElem? (i := 13) (by decide +kernel)) rfl
theorem d_Md_come_0 : decode b_Md_come 0 = .ok (.aload_n 0, 1) := by decide +kernel
theorem d_Md_come_1 : decode b_Md_come 1 = .ok (.getfield 41, 3) := by decide +kernel
theorem d_Md_come_4 : decode b_Md_come 4 = .ok (.iload_n 1, 1) := by decide +kernel
theorem d_Md_come_5 : decode b_Md_come 5 = .ok (.iaload, 1) := by decide +kernel
theorem d_Md_come_6 : decode b_Md_come 6 = .ok (.istore_n 2, 1) := by decide +kernel
theorem d_Md_come_7 : decode b_Md_come 7 = .ok (.aload_n 0, 1) := by decide +kernel
theorem d_Md_come_8 : decode b_Md_come 8 = .ok (.getfield 44, 3) := by decide +kernel
theorem d_Md_come_11 : decode b_Md_come 11 = .ok (.iload_n 1, 1) := by decide +kernel
theorem d_Md_come_12 : decode b_Md_come 12 = .ok (.iaload, 1) := by decide +kernel
theorem d_Md_come_13 : decode b_Md_come 13 = .ok (.istore_n 3, 1) := by decide +kernel
theorem d_Md_come_14 : decode b_Md_come 14 = .ok (.lconst 0, 1) := by decide +kernel
theorem d_Md_come_15 : decode b_Md_come 15 = .ok (.lstore 4, 2) := by decide +kernel
theorem d_Md_come_17 : decode b_Md_come 17 = .ok (.aload_n 0, 1) := by decide +kernel
theorem d_Md_come_18 : decode b_Md_come 18 = .ok (.getfield 32, 3) := by decide +kernel
theorem d_Md_come_21 : decode b_Md_come 21 = .ok (.iload_n 2, 1) := by decide +kernel
theorem d_Md_come_22 : decode b_Md_come 22 = .ok (.iaload, 1) := by decide +kernel
theorem d_Md_come_23 : decode b_Md_come 23 = .ok (.iconst 2, 1) := by decide +kernel
theorem d_Md_come_24 : decode b_Md_come 24 = .ok (.if_icmp .ne 24, 3) := by decide +kernel
theorem d_Md_come_27 : decode b_Md_come 27 = .ok (.aload_n 0, 1) := by decide +kernel
theorem d_Md_come_28 : decode b_Md_come 28 = .ok (.iload_n 2, 1) := by decide +kernel
theorem d_Md_come_29 : decode b_Md_come 29 = .ok (.iload_n 3, 1) := by decide +kernel
theorem d_Md_come_30 : decode b_Md_come 30 = .ok (.invokevirtual 89, 3) := by decide +kernel
theorem d_Md_come_33 : decode b_Md_come 33 = .ok (.lstore 4, 2) := by decide +kernel
theorem d_Md_come_35 : decode b_Md_come 35 = .ok (.aload_n 0, 1) := by decide +kernel
theorem d_Md_come_36 : decode b_Md_come 36 = .ok (.getfield 38, 3) := by decide +kernel
theorem d_Md_come_39 : decode b_Md_come 39 = .ok (.bipush 8, 2) := by decide +kernel
theorem d_Md_come_41 : decode b_Md_come 41 = .ok (.iload_n 2, 1) := by decide +kernel
theorem d_Md_come_42 : decode b_Md_come 42 = .ok (.imul, 1) := by decide +kernel
theorem d_Md_come_43 : decode b_Md_come 43 = .ok (.iload_n 3, 1) := by decide +kernel
theorem d_Md_come_44 : decode b_Md_come 44 = .ok (.iadd, 1) := by decide +kernel
theorem d_Md_come_45 : decode b_Md_come 45 = .ok (.lload 4, 2) := by decide +kernel
theorem d_Md_come_47 : decode b_Md_come 47 = .ok (.lastore, 1) := by decide +kernel
theorem d_Md_come_48 : decode b_Md_come 48 = .ok (.sipush 512, 3) := by decide +kernel
theorem d_Md_come_51 : decode b_Md_come 51 = .ok (.iload_n 2, 1) := by decide +kernel
theorem d_Md_come_52 : decode b_Md_come 52 = .ok (.imul, 1) := by decide +kernel
theorem d_Md_come_53 : decode b_Md_come 53 = .ok (.aload_n 0, 1) := by decide +kernel
theorem d_Md_come_54 : decode b_Md_come 54 = .ok (.getfield 7, 3) := by decide +kernel
theorem d_Md_come_57 : decode b_Md_come 57 = .ok (.iload_n 2, 1) := by decide +kernel
theorem d_Md_come_58 : decode b_Md_come 58 = .ok (.iaload, 1) := by decide +kernel
theorem d_Md_come_59 : decode b_Md_come 59 = .ok (.iadd, 1) := by decide +kernel
theorem d_Md_come_60 : decode b_Md_come 60 = .ok (.istore 6, 2) := by decide +kernel
theorem d_Md_come_62 : decode b_Md_come 62 = .ok (.iload 6, 2) := by decide +kernel
theorem d_Md_come_64 : decode b_Md_come 64 = .ok (.sipush 512, 3) := by decide +kernel
theorem d_Md_come_67 : decode b_Md_come 67 = .ok (.iload_n 2, 1) := by decide +kernel
theorem d_Md_come_68 : decode b_Md_come 68 = .ok (.imul, 1) := by decide +kernel
theorem d_Md_come_69 : decode b_Md_come 69 = .ok (.if_icmp .le 34, 3) := by decide +kernel
theorem d_Md_come_72 : decode b_Md_come 72 = .ok (.aload_n 0, 1) := by decide +kernel
theorem d_Md_come_73 : decode b_Md_come 73 = .ok (.iload_n 2, 1) := by decide +kernel
theorem d_Md_come_74 : decode b_Md_come 74 = .ok (.iload 6, 2) := by decide +kernel
theorem d_Md_come_76 : decode b_Md_come 76 = .ok (.iconst 1, 1) := by decide +kernel
theorem d_Md_come_77 : decode b_Md_come 77 = .ok (.isub, 1) := by decide +kernel
theorem d_Md_come_78 : decode b_Md_come 78 = .ok (.iload_n 3, 1) := by decide +kernel
theorem d_Md_come_79 : decode b_Md_come 79 = .ok (.lload 4, 2) := by decide +kernel
theorem d_Md_come_81 : decode b_Md_come 81 = .ok (.invokevirtual 93, 3) := by decide +kernel
theorem d_Md_come_84 : decode b_Md_come 84 = .ok (.ifCond .ne 19, 3) := by decide +kernel
theorem d_Md_come_87 : decode b_Md_come 87 = .ok (.aload_n 0, 1) := by decide +kernel
theorem d_Md_come_88 : decode b_Md_come 88 = .ok (.iload 6, 2) := by decide +kernel
theorem d_Md_come_90 : decode b_Md_come 90 = .ok (.iconst 1, 1) := by decide +kernel
theorem d_Md_come_91 : decode b_Md_come 91 = .ok (.isub, 1) := by decide +kernel
theorem d_Md_come_92 : decode b_Md_come 92 = .ok (.iload 6, 2) := by decide +kernel
theorem d_Md_come_94 : decode b_Md_come 94 = .ok (.invokevirtual 97, 3) := by decide +kernel
theorem d_Md_come_97 : decode b_Md_come 97 = .ok (.iinc 6 (-1), 3) := by decide +kernel
theorem d_Md_come_100 : decode b_Md_come 100 = .ok (.goto (-38), 3) := by decide +kernel
theorem d_Md_come_103 : decode b_Md_come 103 = .ok (.aload_n 0, 1) := by decide +kernel
theorem d_Md_come_104 : decode b_Md_come 104 = .ok (.getfield 13, 3) := by decide +kernel
theorem d_Md_come_107 : decode b_Md_come 107 = .ok (.iload 6, 2) := by decide +kernel
theorem d_Md_come_109 : decode b_Md_come 109 = .ok (.iload_n 1, 1) := by decide +kernel
theorem d_Md_come_110 : decode b_Md_come 110 = .ok (.iastore, 1) := by decide +kernel
theorem d_Md_come_111 : decode b_Md_come 111 = .ok (.aload_n 0, 1) := by decide +kernel
theorem d_Md_come_112 : decode b_Md_come 112 = .ok (.getfield 16, 3) := by decide +kernel
theorem d_Md_come_115 : decode b_Md_come 115 = .ok (.iload 6, 2) := by decide +kernel
theorem d_Md_come_117 : decode b_Md_come 117 = .ok (.iload_n 3, 1) := by decide +kernel
theorem d_Md_come_118 : decode b_Md_come 118 = .ok (.iastore, 1) := by decide +kernel
theorem d_Md_come_119 : decode b_Md_come 119 = .ok (.aload_n 0, 1) := by decide +kernel
theorem d_Md_come_120 : decode b_Md_come 120 = .ok (.getfield 19, 3) := by decide +kernel
theorem d_Md_come_123 : decode b_Md_come 123 = .ok (.iload 6, 2) := by decide +kernel
theorem d_Md_come_125 : decode b_Md_come 125 = .ok (.aload_n 0, 1) := by decide +kernel
theorem d_Md_come_126 : decode b_Md_come 126 = .ok (.getfield 47, 3) := by decide +kernel
theorem d_Md_come_129 : decode b_Md_come 129 = .ok (.iload_n 1, 1) := by decide +kernel
theorem d_Md_come_130 : decode b_Md_come 130 = .ok (.iaload, 1) := by decide +kernel
theorem d_Md_come_131 : decode b_Md_come 131 = .ok (.iastore, 1) := by decide +kernel
theorem d_Md_come_132 : decode b_Md_come 132 = .ok (.aload_n 0, 1) := by decide +kernel
theorem d_Md_come_133 : decode b_Md_come 133 = .ok (.getfield 22, 3) := by decide +kernel
theorem d_Md_come_136 : decode b_Md_come 136 = .ok (.iload 6, 2) := by decide +kernel
theorem d_Md_come_138 : decode b_Md_come 138 = .ok (.lload 4, 2) := by decide +kernel
theorem d_Md_come_140 : decode b_Md_come 140 = .ok (.lastore, 1) := by decide +kernel
theorem d_Md_come_141 : decode b_Md_come 141 = .ok (.aload_n 0, 1) := by decide +kernel
theorem d_Md_come_142 : decode b_Md_come 142 = .ok (.getfield 26, 3) := by decide +kernel
theorem d_Md_come_145 : decode b_Md_come 145 = .ok (.iload 6, 2) := by decide +kernel
theorem d_Md_come_147 : decode b_Md_come 147 = .ok (.aload_n 0, 1) := by decide +kernel
theorem d_Md_come_148 : decode b_Md_come 148 = .ok (.getfield 85, 3) := by decide +kernel
theorem d_Md_come_151 : decode b_Md_come 151 = .ok (.iastore, 1) := by decide +kernel
theorem d_Md_come_152 : decode b_Md_come 152 = .ok (.aload_n 0, 1) := by decide +kernel
theorem d_Md_come_153 : decode b_Md_come 153 = .ok (.getfield 29, 3) := by decide +kernel
theorem d_Md_come_156 : decode b_Md_come 156 = .ok (.iload 6, 2) := by decide +kernel
theorem d_Md_come_158 : decode b_Md_come 158 = .ok (.aload_n 0, 1) := by decide +kernel
theorem d_Md_come_159 : decode b_Md_come 159 = .ok (.getfield 50, 3) := by decide +kernel
theorem d_Md_come_162 : decode b_Md_come 162 = .ok (.iload_n 1, 1) := by decide +kernel
theorem d_Md_come_163 : decode b_Md_come 163 = .ok (.iaload, 1) := by decide +kernel
theorem d_Md_come_164 : decode b_Md_come 164 = .ok (.iastore, 1) := by decide +kernel
theorem d_Md_come_165 : decode b_Md_come 165 = .ok (.aload_n 0, 1) := by decide +kernel
theorem d_Md_come_166 : decode b_Md_come 166 = .ok (.getfield 7, 3) := by decide +kernel
theorem d_Md_come_169 : decode b_Md_come 169 = .ok (.iload_n 2, 1) := by decide +kernel
theorem d_Md_come_170 : decode b_Md_come 170 = .ok (.dup2, 1) := by decide +kernel
theorem d_Md_come_171 : decode b_Md_come 171 = .ok (.iaload, 1) := by decide +kernel
theorem d_Md_come_172 : decode b_Md_come 172 = .ok (.iconst 1, 1) := by decide +kernel
theorem d_Md_come_173 : decode b_Md_come 173 = .ok (.iadd, 1) := by decide +kernel
theorem d_Md_come_174 : decode b_Md_come 174 = .ok (.iastore, 1) := by decide +kernel
theorem d_Md_come_175 : decode b_Md_come 175 = .ok (.aload_n 0, 1) := by decide +kernel
theorem d_Md_come_176 : decode b_Md_come 176 = .ok (.getfield 41, 3) := by decide +kernel
theorem d_Md_come_179 : decode b_Md_come 179 = .ok (.iload_n 1, 1) := by decide +kernel
theorem d_Md_come_180 : decode b_Md_come 180 = .ok (.iconst (-1), 1) := by decide +kernel
theorem d_Md_come_181 : decode b_Md_come 181 = .ok (.iastore, 1) := by decide +kernel
theorem d_Md_come_182 : decode b_Md_come 182 = .ok (.return_, 1) := by decide +kernel
abbrev rm_Md_come : Room := { frames := 1, cells := 0, slots := 0, locals := 25 }
set_option maxHeartbeats 4000000 in
set_option maxRecDepth 100000 in
theorem cn_Md_come (l : Launch) (D : va_G) (B : Nat) (M : hp_M) (b : Nat) (ad : Nat → Nat) (th of sl : Int32) (ct : Nat → Nat → Int32) (cl : Nat → Nat → Int64) (σ : sg_S) (tk : Nat → Int32) (i : Nat) (c : sg_Ce) (hm : md_H D M b ad th of sl ct cl) (hR : mo_R σ tk of sl ct cl) (hinv : sg_inv σ) (hac : sg_ac σ ≤ 512) (hi8 : i < 8) (hc : sg_of σ i = some c) : Met l y_Md_come (wd_c y_Md_come b_Md_come 7 (none)) rm_Md_come (va_Pc [.ref b, .int (nI i)] (hp_C D B M)) (va_Qv (fun  (M1 : hp_M) => ∃ (ct' : Nat → Nat → Int32) (cl' : Nat → Nat → Int64), md_H D M1 b ad th of sl ct' cl' ∧ md_fr b ad M M1 ∧ mo_R (sg_come1 σ i c) tk of sl ct' cl') (hp_C D B) (hp_ub B)) 0 0 (hp_ub B) := by
  refine hp_met (by decide) (Nat.le_of_ble_eq_true rfl) ?_
  intro p e s m args below meth cd ls Q hQ hx hb hr hts hown hlocks hnm hml hK hH hS hB hl
  replace hl : lv_has ls 7 [(0, .ref b), (1, .int (nI i))] := hl
  have hf : md_fr b ad M M := md_fr_rf
  obtain ⟨c1, c2, c3, c4, c5, c6⟩ := (hinv.2.1 i hi8).2 c hc
  have ho := hR.2.2.2 i hi8
  rw [hc] at ho
  obtain ⟨ho10, ho11, ho12, ho13⟩ := ho
  obtain ⟨hm0, hk7, hw8, hrow, -⟩ := hR.2.2.1 (sg_co c) c2
  have hlen := sg_len_lt hinv hi8 c2 hc
  have hkk := (hinv.1 (sg_co c) c2).1
  have hord := (hinv.1 (sg_co c) c2).2.1
  have Ex : ∀ (T : Int64) (cl1 : Nat → Nat → Int64) (k : Nat) (M3 : hp_M) (H : Heap) (locs : List Loc) (ls : Array Slot) (ct1 : Nat → Nat → Int32) (cl2 : Nat → Nat → Int64), T = sg_cm (sg_cell σ c) → (∀ x g, x < 8 → g < 8 → cl1 9 (8 * x + g) = sg_lt (sg_come1 σ i c) x g) → k ≤ (sg_qu σ (sg_co c)).length → md_H D M3 b ad th of sl ct1 cl2 → md_fr b ad M M3 → mo_up ct ct1 cl cl2 (sg_co c) k (sg_qu σ (sg_co c)).length → cl2 9 = cl1 9 → sg_ins (sg_kd σ (sg_co c)) (sg_cell σ c) (sg_qu σ (sg_co c)) = (sg_qu σ (sg_co c)).take k ++ (sg_cell σ c) :: (sg_qu σ (sg_co c)).drop k → hp_H D B M3 H → va_S (hp_ub B) s.heap H locs → lv_has ls 7 [(6, .int (nI (512 * (sg_co c) + k))), (4, .long T), (3, .int (nI (sg_cg c))), (2, .int (nI (sg_co c))), (0, .ref b), (1, .int (nI i))] → W p l e rm_Md_come s m args below meth cd H locs 0 0 Q (F0 m 103 ls []) := by
    intro T cl1 k M3 H locs ls ct1 cl2 hT h9 hkl hm hf hu hc9 hins hH hS hl
    have u3 := hu.2.2
    refine lv_aload_n hx hb d_Md_come_103 rfl (lv_at hl 4 rfl) ?_
    refine hp_get hx hb hts iw_Md hown hK hH hm.1 rfl 2 (by decide) (hts _ kw_152) (v := .ref (ad 1)) rfl d_Md_come_104 ?_
    refine lv_iload hx hb d_Md_come_107 (lv_at hl 0 rfl) ?_
    refine lv_iload_n hx hb d_Md_come_109 rfl (lv_at hl 5 rfl) ?_
    refine hp_iast hx hb hK hH hS hB (show M3 (ad 1) = some (hp_ai D 4096 (ct1 1)) from hm.2.1 1 (by decide) (by decide) (by decide)) (512 * (sg_co c) + k) rfl (by omega) (by decide) d_Md_come_110 (fun M_1 H locs eM_1 hH hS => ?_)
    have hm := md_pi hm (j := 1) (by decide) (by decide) (by decide) eM_1
    have hf := md_fr_a (j := 1) (by decide) hf eM_1
    refine lv_aload_n hx hb d_Md_come_111 rfl (lv_at hl 4 rfl) ?_
    refine hp_get hx hb hts iw_Md hown hK hH hm.1 rfl 3 (by decide) (hts _ kw_176) (v := .ref (ad 2)) rfl d_Md_come_112 ?_
    refine lv_iload hx hb d_Md_come_115 (lv_at hl 0 rfl) ?_
    refine lv_iload_n hx hb d_Md_come_117 rfl (lv_at hl 2 rfl) ?_
    refine hp_iast hx hb hK hH hS hB (show M_1 (ad 2) = some (hp_ai D 4096 (ct1 2)) from hm.2.1 2 (by decide) (by decide) (by decide)) (512 * (sg_co c) + k) rfl (by omega) (by decide) d_Md_come_118 (fun M_2 H locs eM_2 hH hS => ?_)
    have hm := md_pi hm (j := 2) (by decide) (by decide) (by decide) eM_2
    have hf := md_fr_a (j := 2) (by decide) hf eM_2
    refine lv_aload_n hx hb d_Md_come_119 rfl (lv_at hl 4 rfl) ?_
    refine hp_get hx hb hts iw_Md hown hK hH hm.1 rfl 4 (by decide) (hts _ kw_177) (v := .ref (ad 3)) rfl d_Md_come_120 ?_
    refine lv_iload hx hb d_Md_come_123 (lv_at hl 0 rfl) ?_
    refine lv_aload_n hx hb d_Md_come_125 rfl (lv_at hl 4 rfl) ?_
    refine hp_get hx hb hts iw_Md hown hK hH hm.1 rfl 13 (by decide) (hts _ kw_167) (v := .ref (ad 12)) rfl d_Md_come_126 ?_
    refine lv_iload_n hx hb d_Md_come_129 rfl (lv_at hl 5 rfl) ?_
    refine hp_iald hx hb hK hH (show M_2 (ad 12) = some (hp_ai D 8 (ct1 12)) from hm.2.1 12 (by decide) (by decide) (by decide)) i rfl hi8 (by decide) (v := (sg_ct c)) (by rw [u3 12 (by decide)]; exact ho12) d_Md_come_130 ?_
    refine hp_iast hx hb hK hH hS hB (show M_2 (ad 3) = some (hp_ai D 4096 (ct1 3)) from hm.2.1 3 (by decide) (by decide) (by decide)) (512 * (sg_co c) + k) rfl (by omega) (by decide) d_Md_come_131 (fun M_3 H locs eM_3 hH hS => ?_)
    have hm := md_pi hm (j := 3) (by decide) (by decide) (by decide) eM_3
    have hf := md_fr_a (j := 3) (by decide) hf eM_3
    refine lv_aload_n hx hb d_Md_come_132 rfl (lv_at hl 4 rfl) ?_
    refine hp_get hx hb hts iw_Md hown hK hH hm.1 rfl 5 (by decide) (hts _ kw_154) (v := .ref (ad 4)) rfl d_Md_come_133 ?_
    refine lv_iload hx hb d_Md_come_136 (lv_at hl 0 rfl) ?_
    refine lv_lload hx hb d_Md_come_138 (lv_at hl 1 rfl) ?_
    refine hp_last hx hb hK hH hS hB (show M_3 (ad 4) = some (hp_al D 4096 (cl2 4)) from hm.2.2.1 4 (by decide)) (512 * (sg_co c) + k) rfl (by omega) (by decide) d_Md_come_140 (fun M_4 H locs eM_4 hH hS => ?_)
    have hm := md_pl hm (j := 4) (by decide) eM_4
    have hf := md_fr_a (j := 4) (by decide) hf eM_4
    refine lv_aload_n hx hb d_Md_come_141 rfl (lv_at hl 4 rfl) ?_
    refine hp_get hx hb hts iw_Md hown hK hH hm.1 rfl 6 (by decide) (hts _ kw_178) (v := .ref (ad 5)) rfl d_Md_come_142 ?_
    refine lv_iload hx hb d_Md_come_145 (lv_at hl 0 rfl) ?_
    refine lv_aload_n hx hb d_Md_come_147 rfl (lv_at hl 4 rfl) ?_
    refine hp_get hx hb hts iw_Md hown hK hH hm.1 rfl 16 (by decide) (hts _ kw_135) (v := .int sl) rfl d_Md_come_148 ?_
    refine hp_iast hx hb hK hH hS hB (show M_4 (ad 5) = some (hp_ai D 4096 (ct1 5)) from hm.2.1 5 (by decide) (by decide) (by decide)) (512 * (sg_co c) + k) rfl (by omega) (by decide) d_Md_come_151 (fun M_5 H locs eM_5 hH hS => ?_)
    have hm := md_pi hm (j := 5) (by decide) (by decide) (by decide) eM_5
    have hf := md_fr_a (j := 5) (by decide) hf eM_5
    refine lv_aload_n hx hb d_Md_come_152 rfl (lv_at hl 4 rfl) ?_
    refine hp_get hx hb hts iw_Md hown hK hH hm.1 rfl 7 (by decide) (hts _ kw_179) (v := .ref (ad 6)) rfl d_Md_come_153 ?_
    refine lv_iload hx hb d_Md_come_156 (lv_at hl 0 rfl) ?_
    refine lv_aload_n hx hb d_Md_come_158 rfl (lv_at hl 4 rfl) ?_
    refine hp_get hx hb hts iw_Md hown hK hH hm.1 rfl 14 (by decide) (hts _ kw_168) (v := .ref (ad 13)) rfl d_Md_come_159 ?_
    refine lv_iload_n hx hb d_Md_come_162 rfl (lv_at hl 5 rfl) ?_
    refine hp_iald hx hb hK hH (show M_5 (ad 13) = some (hp_ai D 8 (ct1 13)) from hm.2.1 13 (by decide) (by decide) (by decide)) i rfl hi8 (by decide) (v := nI (sg_cs c)) (by rw [u3 13 (by decide)]; exact ho13) d_Md_come_163 ?_
    refine hp_iast hx hb hK hH hS hB (show M_5 (ad 6) = some (hp_ai D 4096 (ct1 6)) from hm.2.1 6 (by decide) (by decide) (by decide)) (512 * (sg_co c) + k) rfl (by omega) (by decide) d_Md_come_164 (fun M_6 H locs eM_6 hH hS => ?_)
    have hm := md_pi hm (j := 6) (by decide) (by decide) (by decide) eM_6
    have hf := md_fr_a (j := 6) (by decide) hf eM_6
    refine lv_aload_n hx hb d_Md_come_165 rfl (lv_at hl 4 rfl) ?_
    refine hp_get hx hb hts iw_Md hown hK hH hm.1 rfl 1 (by decide) (hts _ kw_147) (v := .ref (ad 0)) rfl d_Md_come_166 ?_
    refine lv_iload_n hx hb d_Md_come_169 rfl (lv_at hl 3 rfl) ?_
    refine lv_dup2_11 hx hb d_Md_come_170 rfl rfl ?_
    refine hp_iald hx hb hK hH (show M_6 (ad 0) = some (hp_ai D 8 (ct1 0)) from hm.2.1 0 (by decide) (by decide) (by decide)) (sg_co c) rfl c2 (by decide) (v := nI (sg_qu σ (sg_co c)).length) (by rw [u3 0 (by decide)]; exact hm0) d_Md_come_171 ?_
    refine lv_iconst (v := 1) hx hb d_Md_come_172 (by decide) ?_
    refine lv_iadd hx hb d_Md_come_173 ?_
    refine hp_iast hx hb hK hH hS hB (show M_6 (ad 0) = some (hp_ai D 8 (ct1 0)) from hm.2.1 0 (by decide) (by decide) (by decide)) (sg_co c) rfl c2 (by decide) d_Md_come_174 (fun M_7 H locs eM_7 hH hS => ?_)
    have hm := md_pi hm (j := 0) (by decide) (by decide) (by decide) eM_7
    have hf := md_fr_a (j := 0) (by decide) hf eM_7
    refine lv_aload_n hx hb d_Md_come_175 rfl (lv_at hl 4 rfl) ?_
    refine hp_get hx hb hts iw_Md hown hK hH hm.1 rfl 11 (by decide) (hts _ kw_155) (v := .ref (ad 10)) rfl d_Md_come_176 ?_
    refine lv_iload_n hx hb d_Md_come_179 rfl (lv_at hl 5 rfl) ?_
    refine lv_iconst (v := (-1)) hx hb d_Md_come_180 (by decide) ?_
    refine hp_iast hx hb hK hH hS hB (show M_7 (ad 10) = some (hp_ai D 8 (ct1 10)) from hm.2.1 10 (by decide) (by decide) (by decide)) i rfl hi8 (by decide) d_Md_come_181 (fun M_8 H locs eM_8 hH hS => ?_)
    have hm := md_pi hm (j := 10) (by decide) (by decide) (by decide) eM_8
    have hf := md_fr_a (j := 10) (by decide) hf eM_8
    exact hp_vret hx hb hr hlocks hQ hK hH hS (Nat.le_of_ble_eq_true rfl) (Nat.le_of_ble_eq_true rfl) d_Md_come_182 ⟨_, _, hm, hf, mo_R_come hR hinv hac hi8 hc hT h9 hc9 hkl hu hins⟩
  have Lp : ∀ (T : Int64) (cl1 : Nat → Nat → Int64), T = sg_cm (sg_cell σ c) → (∀ x g, x < 8 → g < 8 → cl1 9 (8 * x + g) = sg_lt (sg_come1 σ i c) x g) → ∀ (k : Nat) (M3 : hp_M) (H : Heap) (locs : List Loc) (ls : Array Slot) (ct1 : Nat → Nat → Int32) (cl2 : Nat → Nat → Int64), k ≤ (sg_qu σ (sg_co c)).length → md_H D M3 b ad th of sl ct1 cl2 → md_fr b ad M M3 → mo_up ct ct1 cl cl2 (sg_co c) k (sg_qu σ (sg_co c)).length → cl2 9 = cl1 9 → (∀ j d, k ≤ j → (sg_qu σ (sg_co c))[j]? = some d → sg_bef (sg_kd σ (sg_co c)) (sg_cell σ c) d = true) → hp_H D B M3 H → va_S (hp_ub B) s.heap H locs → lv_has ls 7 [(6, .int (nI (512 * (sg_co c) + k))), (4, .long T), (3, .int (nI (sg_cg c))), (2, .int (nI (sg_co c))), (0, .ref b), (1, .int (nI i))] → W p l e rm_Md_come s m args below meth cd H locs 0 0 Q (F0 m 62 ls []) := by
    intro T cl1 hT h9 k
    subst hT
    induction k with
    | zero =>
      intro M3 H locs ls ct1 cl2 hkl hm hf hu hc9 hbe hH hS hl
      have u3 := hu.2.2
      refine lv_iload hx hb d_Md_come_62 (lv_at hl 0 rfl) ?_
      refine lv_sipush (v := 512) hx hb d_Md_come_64 (by decide) ?_
      refine lv_iload_n hx hb d_Md_come_67 rfl (lv_at hl 3 rfl) ?_
      refine lv_imul hx hb d_Md_come_68 ?_
      refine lv_icmp_le (tgt := 103) hx hb d_Md_come_69 (by decide) (fun c_9 => ?_) (fun c_9 => absurd (by rw [md_s512]; exact nI_le (by omega) (by omega)) c_9)
      exact Ex _ cl1 0 M3 _ _ ls ct1 cl2 rfl h9 hkl hm hf hu hc9 (sg_ins_k hord hkk hkl hbe (Or.inl rfl)) hH hS (lv_sub hl [0, 1, 2, 3, 4, 5] rfl)
    | succ k ih =>
      intro M3 H locs ls ct1 cl2 hkl hm hf hu hc9 hbe hH hS hl
      have u3 := hu.2.2
      obtain ⟨d, hd⟩ : ∃ d, (sg_qu σ (sg_co c))[k]? = some d := ⟨_, List.getElem?_eq_getElem (by omega)⟩
      have hdm : d ∈ sg_qu σ (sg_co c) := List.mem_of_getElem? hd
      have hd8 := ((hinv.1 (sg_co c) c2).2.2.2 d hdm).2.2.1
      obtain ⟨hr1, hr2, hr3, hr4, hr5, hr6⟩ := mo_rw ((hu.1 (512 * (sg_co c) + k) (by omega)).trans (hrow k d hd))
      refine lv_iload hx hb d_Md_come_62 (lv_at hl 0 rfl) ?_
      refine lv_sipush (v := 512) hx hb d_Md_come_64 (by decide) ?_
      refine lv_iload_n hx hb d_Md_come_67 rfl (lv_at hl 3 rfl) ?_
      refine lv_imul hx hb d_Md_come_68 ?_
      refine lv_icmp_le (tgt := 103) hx hb d_Md_come_69 (by decide) (fun c_10 => absurd c_10 (by rw [md_s512]; exact nI_ge (by omega) (by omega))) (fun c_10 => ?_)
      refine lv_aload_n hx hb d_Md_come_72 rfl (lv_at hl 4 rfl) ?_
      refine lv_iload_n hx hb d_Md_come_73 rfl (lv_at hl 3 rfl) ?_
      refine lv_iload hx hb d_Md_come_74 (lv_at hl 0 rfl) ?_
      refine lv_iconst (v := 1) hx hb d_Md_come_76 (by decide) ?_
      refine lv_isub hx hb d_Md_come_77 ?_
      refine hp_ioi (nI_pred _) ?_
      refine lv_iload_n hx hb d_Md_come_78 rfl (lv_at hl 2 rfl) ?_
      refine lv_lload hx hb d_Md_come_79 (lv_at hl 1 rfl) ?_
      refine hp_calli (hp_runV (b := b) (As := [.int (nI (sg_co c)), .int (nI (512 * (sg_co c) + k)), .int (nI (sg_cg c)), .long (sg_cm (sg_cell σ c))]) (rest := []) hx hb hml hown (cn_Md_isBehind l D B M3 b ad th of sl ct1 cl2 (sg_co c) (512 * (sg_co c) + k) (sg_cell σ c) d hm (by rw [u3 7 (by decide), hk7]; exact hkk) c2 (by omega) c3 hd8 hr2 hr4) (hp_cwV 4 hts kw_182 kw_184 kw_185 kw_137 kw_183 rfl rfl (by decide +kernel) ⟨(Nat.le_of_ble_eq_true rfl), (Nat.le_of_ble_eq_true rfl)⟩) hK hH hm.1 rfl rfl hl.1 rfl (Nat.le_of_ble_eq_true rfl) d_Md_come_81 ⟨(Nat.le_of_ble_eq_true rfl), (Nat.le_of_ble_eq_true rfl)⟩) hS (fun r_11 M_12 H locs w_13 hH hS => ?_)
      obtain ⟨eM, eR⟩ := w_13
      rw [u3 7 (by decide), hk7] at eR
      rw [eM] at hH
      rw [eR]
      refine lv_if_ne (tgt := 103) hx hb d_Md_come_84 (by decide) (fun c_14 => ?_) (fun c_14 => ?_)
      · exact Ex _ cl1 (k + 1) M3 _ _ ls ct1 cl2 rfl h9 hkl hm hf hu hc9 (sg_ins_k hord hkk hkl hbe (Or.inr ⟨k, d, rfl, hd, mb_t c_14⟩)) hH hS (lv_sub hl [0, 1, 2, 3, 4, 5] rfl)
      · have hbf := mb_f c_14
        refine lv_aload_n hx hb d_Md_come_87 rfl (lv_at hl 4 rfl) ?_
        refine lv_iload hx hb d_Md_come_88 (lv_at hl 0 rfl) ?_
        refine lv_iconst (v := 1) hx hb d_Md_come_90 (by decide) ?_
        refine lv_isub hx hb d_Md_come_91 ?_
        refine hp_ioi (nI_pred _) ?_
        refine lv_iload hx hb d_Md_come_92 (lv_at hl 0 rfl) ?_
        refine hp_callv (hp_runV (b := b) (As := [.int (nI (512 * (sg_co c) + k)), .int (nI (512 * (sg_co c) + (k + 1)))]) (rest := []) hx hb hml hown (cn_Md_copy l D B M3 b ad th of sl ct1 cl2 (512 * (sg_co c) + k) (512 * (sg_co c) + (k + 1)) hm (by omega) (by omega)) (hp_cwV 2 hts kw_186 kw_188 kw_189 kw_137 kw_187 rfl rfl (by decide +kernel) ⟨(Nat.le_of_ble_eq_true rfl), (Nat.le_of_ble_eq_true rfl)⟩) hK hH hm.1 rfl rfl hl.1 rfl (Nat.le_of_ble_eq_true rfl) d_Md_come_94 ⟨(Nat.le_of_ble_eq_true rfl), (Nat.le_of_ble_eq_true rfl)⟩) hS (fun M_16 H locs w_17 hH hS => ?_)
        obtain ⟨ct2, cl3, hm', hf', cp1, cp2, cp3⟩ := w_17
        refine lv_iinc (v := nI (512 * (sg_co c) + k)) (lv' := [(6, .int (nI (512 * (sg_co c) + k))), (4, .long (sg_cm (sg_cell σ c))), (3, .int (nI (sg_cg c))), (2, .int (nI (sg_co c))), (0, .ref b), (1, .int (nI i))]) hx hb d_Md_come_97 hl (k := 0) rfl (pk_m1 _) (by decide) rfl (fun ls hl => ?_)
        refine lv_goto (tgt := 62) hx hb d_Md_come_100 (by decide) ?_
        exact ih M_16 _ _ ls _ _ (by omega) hm' (md_fr_tr hf hf') (mo_up_s hkl hu (by rw [← Nat.add_assoc] at cp1; exact cp1) cp2) (cp3.trans hc9) (fun j e hj he => by rcases Nat.lt_or_eq_of_le hj with w | w; exact hbe j e w he; subst w; rw [hd] at he; cases he; exact hbf) hH hS (lv_sub hl [0, 1, 2, 3, 4, 5] rfl)
  refine lv_aload_n hx hb d_Md_come_0 rfl (lv_at hl 0 rfl) ?_
  refine hp_get hx hb hts iw_Md hown hK hH hm.1 rfl 11 (by decide) (hts _ kw_155) (v := .ref (ad 10)) rfl d_Md_come_1 ?_
  refine lv_iload_n hx hb d_Md_come_4 rfl (lv_at hl 1 rfl) ?_
  refine hp_iald hx hb hK hH (show M (ad 10) = some (hp_ai D 8 (ct 10)) from hm.2.1 10 (by decide) (by decide) (by decide)) i rfl hi8 (by decide) (v := nI (sg_co c)) ho10 d_Md_come_5 ?_
  refine lv_istore_n (lv' := [(2, .int (nI (sg_co c))), (0, .ref b), (1, .int (nI i))]) hx hb d_Md_come_6 rfl hl (by decide) rfl (fun ls hl => ?_)
  refine lv_aload_n hx hb d_Md_come_7 rfl (lv_at hl 1 rfl) ?_
  refine hp_get hx hb hts iw_Md hown hK hH hm.1 rfl 12 (by decide) (hts _ kw_166) (v := .ref (ad 11)) rfl d_Md_come_8 ?_
  refine lv_iload_n hx hb d_Md_come_11 rfl (lv_at hl 2 rfl) ?_
  refine hp_iald hx hb hK hH (show M (ad 11) = some (hp_ai D 8 (ct 11)) from hm.2.1 11 (by decide) (by decide) (by decide)) i rfl hi8 (by decide) (v := nI (sg_cg c)) ho11 d_Md_come_12 ?_
  refine lv_istore_n (lv' := [(3, .int (nI (sg_cg c))), (2, .int (nI (sg_co c))), (0, .ref b), (1, .int (nI i))]) hx hb d_Md_come_13 rfl hl (by decide) rfl (fun ls hl => ?_)
  refine lv_lconst (v := 0) hx hb d_Md_come_14 (by decide) ?_
  refine lv_lstore (lv' := [(4, .long 0), (3, .int (nI (sg_cg c))), (2, .int (nI (sg_co c))), (0, .ref b), (1, .int (nI i))]) hx hb d_Md_come_15 hl (by decide) rfl (fun ls hl => ?_)
  refine lv_aload_n hx hb d_Md_come_17 rfl (lv_at hl 3 rfl) ?_
  refine hp_get hx hb hts iw_Md hown hK hH hm.1 rfl 8 (by decide) (hts _ kw_164) (v := .ref (ad 7)) rfl d_Md_come_18 ?_
  refine lv_iload_n hx hb d_Md_come_21 rfl (lv_at hl 2 rfl) ?_
  refine hp_iald hx hb hK hH (show M (ad 7) = some (hp_ai D 8 (ct 7)) from hm.2.1 7 (by decide) (by decide) (by decide)) (sg_co c) rfl c2 (by decide) (v := (sg_kd σ (sg_co c))) hk7 d_Md_come_22 ?_
  refine lv_iconst (v := 2) hx hb d_Md_come_23 (by decide) ?_
  refine lv_icmp_ne (tgt := 48) hx hb d_Md_come_24 (by decide) (fun c_18 => ?_) (fun c_18 => ?_)
  · refine lv_sipush (v := 512) hx hb d_Md_come_48 (by decide) ?_
    refine lv_iload_n hx hb d_Md_come_51 rfl (lv_at hl 2 rfl) ?_
    refine lv_imul hx hb d_Md_come_52 ?_
    refine lv_aload_n hx hb d_Md_come_53 rfl (lv_at hl 3 rfl) ?_
    refine hp_get hx hb hts iw_Md hown hK hH hm.1 rfl 1 (by decide) (hts _ kw_147) (v := .ref (ad 0)) rfl d_Md_come_54 ?_
    refine lv_iload_n hx hb d_Md_come_57 rfl (lv_at hl 2 rfl) ?_
    refine hp_iald hx hb hK hH (show M (ad 0) = some (hp_ai D 8 (ct 0)) from hm.2.1 0 (by decide) (by decide) (by decide)) (sg_co c) rfl c2 (by decide) (v := nI (sg_qu σ (sg_co c)).length) hm0 d_Md_come_58 ?_
    refine lv_iadd hx hb d_Md_come_59 ?_
    refine hp_ioi (md_ix512 (sg_co c) (sg_qu σ (sg_co c)).length) ?_
    refine lv_istore (lv' := [(6, .int (nI (512 * (sg_co c) + (sg_qu σ (sg_co c)).length))), (4, .long 0), (3, .int (nI (sg_cg c))), (2, .int (nI (sg_co c))), (0, .ref b), (1, .int (nI i))]) hx hb d_Md_come_60 hl (by decide) rfl (fun ls hl => ?_)
    exact Lp 0 cl (by show (0 : Int64) = if (sg_kd σ (sg_co c)) = 2 then _ else _; rw [if_neg c_18]) (mo_h9n hR c_18) _ M _ _ ls ct cl (Nat.le_refl _) hm hf (mo_up_0 rfl) rfl (fun j e hj he => absurd (List.getElem?_eq_some_iff.mp he).1 (by omega)) hH hS (lv_sub hl [0, 1, 2, 3, 4, 5] rfl)
  · refine lv_aload_n hx hb d_Md_come_27 rfl (lv_at hl 3 rfl) ?_
    refine lv_iload_n hx hb d_Md_come_28 rfl (lv_at hl 2 rfl) ?_
    refine lv_iload_n hx hb d_Md_come_29 rfl (lv_at hl 1 rfl) ?_
    refine hp_calll (hp_runV (b := b) (As := [.int (nI (sg_co c)), .int (nI (sg_cg c))]) (rest := []) hx hb hml hown (cn_Md_timeOf l D B M b ad th of sl ct cl σ tk (sg_co c) (sg_cg c) hm hR hinv hac c2 c3) (hp_cwV 2 hts kw_190 kw_192 kw_193 kw_137 kw_191 rfl rfl (by decide +kernel) ⟨(Nat.le_of_ble_eq_true rfl), (Nat.le_of_ble_eq_true rfl)⟩) hK hH hm.1 rfl rfl hl.1 rfl (Nat.le_of_ble_eq_true rfl) d_Md_come_30 ⟨(Nat.le_of_ble_eq_true rfl), (Nat.le_of_ble_eq_true rfl)⟩) hS (fun r_19 M_20 H locs w_21 hH hS => ?_)
    obtain ⟨eM, eR⟩ := w_21
    rw [eM] at hH
    rw [eR]
    refine lv_lstore (lv' := [(4, .long (sg_time σ (sg_co c) (sg_cg c))), (3, .int (nI (sg_cg c))), (2, .int (nI (sg_co c))), (0, .ref b), (1, .int (nI i))]) hx hb d_Md_come_33 hl (by decide) rfl (fun ls hl => ?_)
    refine lv_aload_n hx hb d_Md_come_35 rfl (lv_at hl 3 rfl) ?_
    refine hp_get hx hb hts iw_Md hown hK hH hm.1 rfl 10 (by decide) (hts _ kw_170) (v := .ref (ad 9)) rfl d_Md_come_36 ?_
    refine lv_bipush (v := 8) hx hb d_Md_come_39 (by decide) ?_
    refine lv_iload_n hx hb d_Md_come_41 rfl (lv_at hl 2 rfl) ?_
    refine lv_imul hx hb d_Md_come_42 ?_
    refine lv_iload_n hx hb d_Md_come_43 rfl (lv_at hl 1 rfl) ?_
    refine lv_iadd hx hb d_Md_come_44 ?_
    refine lv_lload hx hb d_Md_come_45 (lv_at hl 0 rfl) ?_
    refine hp_last hx hb hK hH hS hB (show M (ad 9) = some (hp_al D 64 (cl 9)) from hm.2.2.1 9 (by decide)) (8 * (sg_co c) + sg_cg c) (md_ix8 (sg_co c) (sg_cg c)) (by omega) (by decide) d_Md_come_47 (fun M_22 H locs eM_22 hH hS => ?_)
    have hm := md_pl hm (j := 9) (by decide) eM_22
    have hf := md_fr_a (j := 9) (by decide) hf eM_22
    refine lv_sipush (v := 512) hx hb d_Md_come_48 (by decide) ?_
    refine lv_iload_n hx hb d_Md_come_51 rfl (lv_at hl 2 rfl) ?_
    refine lv_imul hx hb d_Md_come_52 ?_
    refine lv_aload_n hx hb d_Md_come_53 rfl (lv_at hl 3 rfl) ?_
    refine hp_get hx hb hts iw_Md hown hK hH hm.1 rfl 1 (by decide) (hts _ kw_147) (v := .ref (ad 0)) rfl d_Md_come_54 ?_
    refine lv_iload_n hx hb d_Md_come_57 rfl (lv_at hl 2 rfl) ?_
    refine hp_iald hx hb hK hH (show M_22 (ad 0) = some (hp_ai D 8 (ct 0)) from hm.2.1 0 (by decide) (by decide) (by decide)) (sg_co c) rfl c2 (by decide) (v := nI (sg_qu σ (sg_co c)).length) hm0 d_Md_come_58 ?_
    refine lv_iadd hx hb d_Md_come_59 ?_
    refine hp_ioi (md_ix512 (sg_co c) (sg_qu σ (sg_co c)).length) ?_
    refine lv_istore (lv' := [(6, .int (nI (512 * (sg_co c) + (sg_qu σ (sg_co c)).length))), (4, .long (sg_time σ (sg_co c) (sg_cg c))), (3, .int (nI (sg_cg c))), (2, .int (nI (sg_co c))), (0, .ref b), (1, .int (nI i))]) hx hb d_Md_come_60 hl (by decide) rfl (fun ls hl => ?_)
    exact Lp _ _ (by show sg_time σ (sg_co c) (sg_cg c) = if (sg_kd σ (sg_co c)) = 2 then _ else _; rw [if_pos c_18]) (mo_h9 hR c3 c_18) _ M_22 _ _ ls ct _ (Nat.le_refl _) hm hf (mo_up_0 rfl) rfl (fun j e hj he => absurd (List.getElem?_eq_some_iff.mp he).1 (by omega)) hH hS (lv_sub hl [0, 1, 2, 3, 4, 5] rfl)
end
section

theorem d_Md_send_0 : decode b_Md_send 0 = .ok (.aload_n 0, 1) := by decide +kernel
theorem d_Md_send_1 : decode b_Md_send 1 = .ok (.getfield 53, 3) := by decide +kernel
theorem d_Md_send_4 : decode b_Md_send 4 = .ok (.iload_n 1, 1) := by decide +kernel
theorem d_Md_send_5 : decode b_Md_send 5 = .ok (.iconst (-1), 1) := by decide +kernel
theorem d_Md_send_6 : decode b_Md_send 6 = .ok (.iastore, 1) := by decide +kernel
theorem d_Md_send_7 : decode b_Md_send 7 = .ok (.aload_n 0, 1) := by decide +kernel
theorem d_Md_send_8 : decode b_Md_send 8 = .ok (.getfield 7, 3) := by decide +kernel
theorem d_Md_send_11 : decode b_Md_send 11 = .ok (.iload_n 1, 1) := by decide +kernel
theorem d_Md_send_12 : decode b_Md_send 12 = .ok (.iaload, 1) := by decide +kernel
theorem d_Md_send_13 : decode b_Md_send 13 = .ok (.ifCond .ne 5, 3) := by decide +kernel
theorem d_Md_send_16 : decode b_Md_send 16 = .ok (.iconst 0, 1) := by decide +kernel
theorem d_Md_send_17 : decode b_Md_send 17 = .ok (.ireturn, 1) := by decide +kernel
theorem d_Md_send_18 : decode b_Md_send 18 = .ok (.sipush 512, 3) := by decide +kernel
theorem d_Md_send_21 : decode b_Md_send 21 = .ok (.iload_n 1, 1) := by decide +kernel
theorem d_Md_send_22 : decode b_Md_send 22 = .ok (.imul, 1) := by decide +kernel
theorem d_Md_send_23 : decode b_Md_send 23 = .ok (.istore_n 2, 1) := by decide +kernel
theorem d_Md_send_24 : decode b_Md_send 24 = .ok (.aload_n 0, 1) := by decide +kernel
theorem d_Md_send_25 : decode b_Md_send 25 = .ok (.getfield 53, 3) := by decide +kernel
theorem d_Md_send_28 : decode b_Md_send 28 = .ok (.iload_n 1, 1) := by decide +kernel
theorem d_Md_send_29 : decode b_Md_send 29 = .ok (.aload_n 0, 1) := by decide +kernel
theorem d_Md_send_30 : decode b_Md_send 30 = .ok (.getfield 13, 3) := by decide +kernel
theorem d_Md_send_33 : decode b_Md_send 33 = .ok (.iload_n 2, 1) := by decide +kernel
theorem d_Md_send_34 : decode b_Md_send 34 = .ok (.iaload, 1) := by decide +kernel
theorem d_Md_send_35 : decode b_Md_send 35 = .ok (.iastore, 1) := by decide +kernel
theorem d_Md_send_36 : decode b_Md_send 36 = .ok (.aload_n 0, 1) := by decide +kernel
theorem d_Md_send_37 : decode b_Md_send 37 = .ok (.getfield 56, 3) := by decide +kernel
theorem d_Md_send_40 : decode b_Md_send 40 = .ok (.iload_n 1, 1) := by decide +kernel
theorem d_Md_send_41 : decode b_Md_send 41 = .ok (.aload_n 0, 1) := by decide +kernel
theorem d_Md_send_42 : decode b_Md_send 42 = .ok (.getfield 19, 3) := by decide +kernel
theorem d_Md_send_45 : decode b_Md_send 45 = .ok (.iload_n 2, 1) := by decide +kernel
theorem d_Md_send_46 : decode b_Md_send 46 = .ok (.iaload, 1) := by decide +kernel
theorem d_Md_send_47 : decode b_Md_send 47 = .ok (.iastore, 1) := by decide +kernel
theorem d_Md_send_48 : decode b_Md_send 48 = .ok (.aload_n 0, 1) := by decide +kernel
theorem d_Md_send_49 : decode b_Md_send 49 = .ok (.getfield 59, 3) := by decide +kernel
theorem d_Md_send_52 : decode b_Md_send 52 = .ok (.iload_n 1, 1) := by decide +kernel
theorem d_Md_send_53 : decode b_Md_send 53 = .ok (.aload_n 0, 1) := by decide +kernel
theorem d_Md_send_54 : decode b_Md_send 54 = .ok (.getfield 85, 3) := by decide +kernel
theorem d_Md_send_57 : decode b_Md_send 57 = .ok (.aload_n 0, 1) := by decide +kernel
theorem d_Md_send_58 : decode b_Md_send 58 = .ok (.getfield 26, 3) := by decide +kernel
theorem d_Md_send_61 : decode b_Md_send 61 = .ok (.iload_n 2, 1) := by decide +kernel
theorem d_Md_send_62 : decode b_Md_send 62 = .ok (.iaload, 1) := by decide +kernel
theorem d_Md_send_63 : decode b_Md_send 63 = .ok (.isub, 1) := by decide +kernel
theorem d_Md_send_64 : decode b_Md_send 64 = .ok (.iastore, 1) := by decide +kernel
theorem d_Md_send_65 : decode b_Md_send 65 = .ok (.aload_n 0, 1) := by decide +kernel
theorem d_Md_send_66 : decode b_Md_send 66 = .ok (.getfield 7, 3) := by decide +kernel
theorem d_Md_send_69 : decode b_Md_send 69 = .ok (.iload_n 1, 1) := by decide +kernel
theorem d_Md_send_70 : decode b_Md_send 70 = .ok (.dup2, 1) := by decide +kernel
theorem d_Md_send_71 : decode b_Md_send 71 = .ok (.iaload, 1) := by decide +kernel
theorem d_Md_send_72 : decode b_Md_send 72 = .ok (.iconst 1, 1) := by decide +kernel
theorem d_Md_send_73 : decode b_Md_send 73 = .ok (.isub, 1) := by decide +kernel
theorem d_Md_send_74 : decode b_Md_send 74 = .ok (.iastore, 1) := by decide +kernel
theorem d_Md_send_75 : decode b_Md_send 75 = .ok (.iload_n 2, 1) := by decide +kernel
theorem d_Md_send_76 : decode b_Md_send 76 = .ok (.istore_n 3, 1) := by decide +kernel
theorem d_Md_send_77 : decode b_Md_send 77 = .ok (.iload_n 3, 1) := by decide +kernel
theorem d_Md_send_78 : decode b_Md_send 78 = .ok (.iload_n 2, 1) := by decide +kernel
theorem d_Md_send_79 : decode b_Md_send 79 = .ok (.aload_n 0, 1) := by decide +kernel
theorem d_Md_send_80 : decode b_Md_send 80 = .ok (.getfield 7, 3) := by decide +kernel
theorem d_Md_send_83 : decode b_Md_send 83 = .ok (.iload_n 1, 1) := by decide +kernel
theorem d_Md_send_84 : decode b_Md_send 84 = .ok (.iaload, 1) := by decide +kernel
theorem d_Md_send_85 : decode b_Md_send 85 = .ok (.iadd, 1) := by decide +kernel
theorem d_Md_send_86 : decode b_Md_send 86 = .ok (.if_icmp .ge 17, 3) := by decide +kernel
theorem d_Md_send_89 : decode b_Md_send 89 = .ok (.aload_n 0, 1) := by decide +kernel
theorem d_Md_send_90 : decode b_Md_send 90 = .ok (.iload_n 3, 1) := by decide +kernel
theorem d_Md_send_91 : decode b_Md_send 91 = .ok (.iconst 1, 1) := by decide +kernel
theorem d_Md_send_92 : decode b_Md_send 92 = .ok (.iadd, 1) := by decide +kernel
theorem d_Md_send_93 : decode b_Md_send 93 = .ok (.iload_n 3, 1) := by decide +kernel
theorem d_Md_send_94 : decode b_Md_send 94 = .ok (.invokevirtual 97, 3) := by decide +kernel
theorem d_Md_send_97 : decode b_Md_send 97 = .ok (.iinc 3 1, 3) := by decide +kernel
theorem d_Md_send_100 : decode b_Md_send 100 = .ok (.goto (-23), 3) := by decide +kernel
theorem d_Md_send_103 : decode b_Md_send 103 = .ok (.iconst 0, 1) := by decide +kernel
theorem d_Md_send_104 : decode b_Md_send 104 = .ok (.istore_n 3, 1) := by decide +kernel
theorem d_Md_send_105 : decode b_Md_send 105 = .ok (.iload_n 3, 1) := by decide +kernel
theorem d_Md_send_106 : decode b_Md_send 106 = .ok (.bipush 8, 2) := by decide +kernel
theorem d_Md_send_108 : decode b_Md_send 108 = .ok (.if_icmp .ge 30, 3) := by decide +kernel
theorem d_Md_send_111 : decode b_Md_send 111 = .ok (.aload_n 0, 1) := by decide +kernel
theorem d_Md_send_112 : decode b_Md_send 112 = .ok (.getfield 7, 3) := by decide +kernel
theorem d_Md_send_115 : decode b_Md_send 115 = .ok (.iload_n 1, 1) := by decide +kernel
theorem d_Md_send_116 : decode b_Md_send 116 = .ok (.iaload, 1) := by decide +kernel
theorem d_Md_send_117 : decode b_Md_send 117 = .ok (.ifCond .ne 21, 3) := by decide +kernel
theorem d_Md_send_120 : decode b_Md_send 120 = .ok (.aload_n 0, 1) := by decide +kernel
theorem d_Md_send_121 : decode b_Md_send 121 = .ok (.getfield 38, 3) := by decide +kernel
theorem d_Md_send_124 : decode b_Md_send 124 = .ok (.bipush 8, 2) := by decide +kernel
theorem d_Md_send_126 : decode b_Md_send 126 = .ok (.iload_n 1, 1) := by decide +kernel
theorem d_Md_send_127 : decode b_Md_send 127 = .ok (.imul, 1) := by decide +kernel
theorem d_Md_send_128 : decode b_Md_send 128 = .ok (.iload_n 3, 1) := by decide +kernel
theorem d_Md_send_129 : decode b_Md_send 129 = .ok (.iadd, 1) := by decide +kernel
theorem d_Md_send_130 : decode b_Md_send 130 = .ok (.lconst 0, 1) := by decide +kernel
theorem d_Md_send_131 : decode b_Md_send 131 = .ok (.lastore, 1) := by decide +kernel
theorem d_Md_send_132 : decode b_Md_send 132 = .ok (.iinc 3 1, 3) := by decide +kernel
theorem d_Md_send_135 : decode b_Md_send 135 = .ok (.goto (-30), 3) := by decide +kernel
theorem d_Md_send_138 : decode b_Md_send 138 = .ok (.iconst 1, 1) := by decide +kernel
theorem d_Md_send_139 : decode b_Md_send 139 = .ok (.ireturn, 1) := by decide +kernel
abbrev rm_Md_send : Room := { frames := 1, cells := 0, slots := 0, locals := 22 }
set_option maxHeartbeats 4000000 in
set_option maxRecDepth 100000 in
theorem cn_Md_send (l : Launch) (D : va_G) (B : Nat) (M : hp_M) (b : Nat) (ad : Nat → Nat) (th of sl : Int32) (ct : Nat → Nat → Int32) (cl : Nat → Nat → Int64) (σ : sg_S) (tk : Nat → Int32) (o : Nat) (hm : md_H D M b ad th of sl ct cl) (hR : mo_R σ tk of sl ct cl) (hinv : sg_inv σ) (hac : sg_ac σ ≤ 512) (ho8 : o < 8) : Met l y_Md_send (wd_c y_Md_send b_Md_send 4 (some .int)) rm_Md_send (va_Pc [.ref b, .int (nI o)] (hp_C D B M)) (va_Qi (fun (r : Int32) (M1 : hp_M) => ∃ (ct' : Nat → Nat → Int32) (cl' : Nat → Nat → Int64), md_H D M1 b ad th of sl ct' cl' ∧ md_fr b ad M M1 ∧ r = (if sg_qu σ o = [] then 0 else 1) ∧ mo_R (sg_send σ o) (va_up tk o sl) of sl ct' cl') (hp_C D B) (hp_ub B)) 0 0 (hp_ub B) := by
  rcases hq : sg_qu σ o with _ | ⟨c, cs⟩
  · refine hp_met (by decide) (Nat.le_of_ble_eq_true rfl) ?_
    intro p e s m args below meth cd ls Q hQ hx hb hr hts hown hlocks hnm hml hK hH hS hB hl
    replace hl : lv_has ls 4 [(0, .ref b), (1, .int (nI o))] := hl
    have hf : md_fr b ad M M := md_fr_rf
    have hm0 := (hR.2.2.1 o ho8).1
    refine lv_aload_n hx hb d_Md_send_0 rfl (lv_at hl 0 rfl) ?_
    refine hp_get hx hb hts iw_Md hown hK hH hm.1 rfl 17 (by decide) (hts _ kw_140) (v := .ref (ad 14)) rfl d_Md_send_1 ?_
    refine lv_iload_n hx hb d_Md_send_4 rfl (lv_at hl 1 rfl) ?_
    refine lv_iconst (v := (-1)) hx hb d_Md_send_5 (by decide) ?_
    refine hp_iast hx hb hK hH hS hB (show M (ad 14) = some (hp_ai D 8 (ct 14)) from hm.2.1 14 (by decide) (by decide) (by decide)) o rfl ho8 (by decide) d_Md_send_6 (fun M_1 H locs eM_1 hH hS => ?_)
    have hm := md_pi hm (j := 14) (by decide) (by decide) (by decide) eM_1
    have hf := md_fr_a (j := 14) (by decide) hf eM_1
    refine lv_aload_n hx hb d_Md_send_7 rfl (lv_at hl 0 rfl) ?_
    refine hp_get hx hb hts iw_Md hown hK hH hm.1 rfl 1 (by decide) (hts _ kw_147) (v := .ref (ad 0)) rfl d_Md_send_8 ?_
    refine lv_iload_n hx hb d_Md_send_11 rfl (lv_at hl 1 rfl) ?_
    refine hp_iald hx hb hK hH (show M_1 (ad 0) = some (hp_ai D 8 (ct 0)) from hm.2.1 0 (by decide) (by decide) (by decide)) o rfl ho8 (by decide) (v := 0) (by rw [hm0, hq]; rfl) d_Md_send_12 ?_
    refine lv_if_ne (tgt := 18) hx hb d_Md_send_13 (by decide) (fun c_2 => absurd rfl c_2) (fun c_2 => ?_)
    refine lv_iconst (v := 0) hx hb d_Md_send_16 (by decide) ?_
    exact hp_iret hx hb hr hlocks hQ hK hH hS (Nat.le_of_ble_eq_true rfl) (Nat.le_of_ble_eq_true rfl) d_Md_send_17 ⟨_, _, hm, hf, by rw [if_pos rfl], by rw [sg_send_nil hq]; exact mo_R_send0 hR⟩
  · refine hp_met (by decide) (Nat.le_of_ble_eq_true rfl) ?_
    intro p e s m args below meth cd ls Q hQ hx hb hr hts hown hlocks hnm hml hK hH hS hB hl
    replace hl : lv_has ls 4 [(0, .ref b), (1, .int (nI o))] := hl
    have hf : md_fr b ad M M := md_fr_rf
    obtain ⟨hm0, hk7, hw8, hrow, -⟩ := hR.2.2.1 o ho8
    have hlen := sg_len_le hinv ho8
    rw [hq] at hm0 hlen hrow
    replace hm0 : ct 0 o = nI (cs.length + 1) := hm0
    replace hlen : cs.length + 1 ≤ sg_ac σ := hlen
    obtain ⟨hr1, hr2, hr3, hr4, hr5, hr6⟩ := mo_rw (hrow 0 c rfl)
    have L2 : cs = [] → ∀ (n g : Nat) (M3 : hp_M) (H : Heap) (locs : List Loc) (ls : Array Slot) (ct1 : Nat → Nat → Int32) (cl2 : Nat → Nat → Int64), g + n = 8 → md_H D M3 b ad th of sl ct1 cl2 → md_fr b ad M M3 → mo_dn ct ct1 cl cl2 o cs.length → (∀ x, x = 0 ∨ 7 ≤ x → ct1 x = (va_up (va_up (va_up (va_up (va_up ct 14 (upd (ct 14) o (-1))) 14 (upd (upd (ct 14) o (-1)) o (nI (sg_ci c)))) 15 (upd (ct 15) o (sg_ct c))) 16 (upd (ct 16) o (sl - (sg_cc c)))) 0 (upd (ct 0) o (nI cs.length))) x) → (∀ x, x < 8 * o + g → 8 * o ≤ x → cl2 9 x = 0) → (∀ x, x < 8 * o ∨ 8 * o + g ≤ x → cl2 9 x = cl 9 x) → hp_H D B M3 H → va_S (hp_ub B) s.heap H locs → lv_has ls 4 [(3, .int (nI g)), (2, .int (nI (512 * o))), (0, .ref b), (1, .int (nI o))] → W p l e rm_Md_send s m args below meth cd H locs 0 0 Q (F0 m 105 ls []) := by
      intro hnil n
      induction n with
      | zero =>
        intro g M3 H locs ls ct1 cl2 hn hm hf hdn hct q1 q2 hH hS hl
        have hz0 : ct1 0 o = 0 := by rw [hct 0 (by decide)]; show upd (ct 0) o (nI cs.length) o = 0; rw [pk_us, hnil]; rfl
        refine lv_iload_n hx hb d_Md_send_105 rfl (lv_at hl 0 rfl) ?_
        refine lv_bipush (v := 8) hx hb d_Md_send_106 (by decide) ?_
        refine lv_icmp_ge (tgt := 138) hx hb d_Md_send_108 (by decide) (fun c_1 => ?_) (fun c_1 => absurd (nI_le (a := 8) (by omega) (by omega)) c_1)
        refine lv_iconst (v := 1) hx hb d_Md_send_138 (by decide) ?_
        exact hp_iret hx hb hr hlocks hQ hK hH hS (Nat.le_of_ble_eq_true rfl) (Nat.le_of_ble_eq_true rfl) d_Md_send_139 ⟨_, _, hm, hf, by rw [if_neg (by intro w; cases w)], by rw [sg_send_cons hq]; exact mo_R_send1 hR hinv hac ho8 hq hdn (hct 0 (by decide)) (fun j hj => by rcases hj with rfl | rfl | rfl | rfl | rfl | rfl <;> exact hct _ (by decide)) (hct 14 (by decide)) (hct 15 (by decide)) (hct 16 (by decide)) (fun x g' hx hg => by by_cases w : x = o; rw [if_pos ⟨hnil, w⟩, w]; exact q1 _ (by omega) (by omega); rw [if_neg (fun z => w z.2)]; exact q2 _ (by omega))⟩
      | succ n ih =>
        intro g M3 H locs ls ct1 cl2 hn hm hf hdn hct q1 q2 hH hS hl
        have hz0 : ct1 0 o = 0 := by rw [hct 0 (by decide)]; show upd (ct 0) o (nI cs.length) o = 0; rw [pk_us, hnil]; rfl
        refine lv_iload_n hx hb d_Md_send_105 rfl (lv_at hl 0 rfl) ?_
        refine lv_bipush (v := 8) hx hb d_Md_send_106 (by decide) ?_
        refine lv_icmp_ge (tgt := 138) hx hb d_Md_send_108 (by decide) (fun c_2 => absurd c_2 (nI_ge (b := 8) (by omega) (by omega))) (fun c_2 => ?_)
        refine lv_aload_n hx hb d_Md_send_111 rfl (lv_at hl 2 rfl) ?_
        refine hp_get hx hb hts iw_Md hown hK hH hm.1 rfl 1 (by decide) (hts _ kw_147) (v := .ref (ad 0)) rfl d_Md_send_112 ?_
        refine lv_iload_n hx hb d_Md_send_115 rfl (lv_at hl 3 rfl) ?_
        refine hp_iald hx hb hK hH (show M3 (ad 0) = some (hp_ai D 8 (ct1 0)) from hm.2.1 0 (by decide) (by decide) (by decide)) o rfl ho8 (by decide) (v := 0) hz0 d_Md_send_116 ?_
        refine lv_if_ne (tgt := 138) hx hb d_Md_send_117 (by decide) (fun c_3 => absurd rfl c_3) (fun c_3 => ?_)
        refine lv_aload_n hx hb d_Md_send_120 rfl (lv_at hl 2 rfl) ?_
        refine hp_get hx hb hts iw_Md hown hK hH hm.1 rfl 10 (by decide) (hts _ kw_170) (v := .ref (ad 9)) rfl d_Md_send_121 ?_
        refine lv_bipush (v := 8) hx hb d_Md_send_124 (by decide) ?_
        refine lv_iload_n hx hb d_Md_send_126 rfl (lv_at hl 3 rfl) ?_
        refine lv_imul hx hb d_Md_send_127 ?_
        refine lv_iload_n hx hb d_Md_send_128 rfl (lv_at hl 0 rfl) ?_
        refine lv_iadd hx hb d_Md_send_129 ?_
        refine lv_lconst (v := 0) hx hb d_Md_send_130 (by decide) ?_
        refine hp_last hx hb hK hH hS hB (show M3 (ad 9) = some (hp_al D 64 (cl2 9)) from hm.2.2.1 9 (by decide)) (8 * o + g) (md_ix8 o g) (by omega) (by decide) d_Md_send_131 (fun M_4 H locs eM_4 hH hS => ?_)
        have hm := md_pl hm (j := 9) (by decide) eM_4
        have hf := md_fr_a (j := 9) (by decide) hf eM_4
        refine lv_iinc (v := nI (g + 1)) (lv' := [(3, .int (nI (g + 1))), (2, .int (nI (512 * o))), (0, .ref b), (1, .int (nI o))]) hx hb d_Md_send_132 hl (k := 0) rfl (nI_1 g) (by decide) rfl (fun ls hl => ?_)
        refine lv_goto (tgt := 105) hx hb d_Md_send_135 (by decide) ?_
        exact ih (g + 1) M_4 _ _ ls ct1 _ (by omega) hm hf hdn hct (fun x a1 a2 => by by_cases w : x = 8 * o + g; rw [w]; exact pk_uLs; exact (pk_uLn w).trans (q1 x (by omega) a2)) (fun x a1 => (pk_uLn (by omega)).trans (q2 x (by omega))) hH hS (lv_sub hl [0, 1, 2, 3] rfl)
    have Ex : ∀ (M3 : hp_M) (H : Heap) (locs : List Loc) (ls : Array Slot) (ct1 : Nat → Nat → Int32) (cl2 : Nat → Nat → Int64), md_H D M3 b ad th of sl ct1 cl2 → md_fr b ad M M3 → mo_dn ct ct1 cl cl2 o cs.length → (∀ x, x = 0 ∨ 7 ≤ x → ct1 x = (va_up (va_up (va_up (va_up (va_up ct 14 (upd (ct 14) o (-1))) 14 (upd (upd (ct 14) o (-1)) o (nI (sg_ci c)))) 15 (upd (ct 15) o (sg_ct c))) 16 (upd (ct 16) o (sl - (sg_cc c)))) 0 (upd (ct 0) o (nI cs.length))) x) → cl2 9 = cl 9 → hp_H D B M3 H → va_S (hp_ub B) s.heap H locs → lv_has ls 4 [(3, .int (nI (512 * o + cs.length))), (2, .int (nI (512 * o))), (0, .ref b), (1, .int (nI o))] → W p l e rm_Md_send s m args below meth cd H locs 0 0 Q (F0 m 103 ls []) := by
      intro M3 H locs ls ct1 cl2 hm hf hdn hct h9 hH hS hl
      by_cases hnn : cs = []
      · refine lv_iconst (v := 0) hx hb d_Md_send_103 (by decide) ?_
        refine lv_istore_n (lv' := [(3, .int 0), (2, .int (nI (512 * o))), (0, .ref b), (1, .int (nI o))]) hx hb d_Md_send_104 rfl hl (by decide) rfl (fun ls hl => ?_)
        exact L2 hnn 8 0 M3 _ _ ls ct1 cl2 (by omega) hm hf hdn hct (fun x a1 a2 => by omega) (fun x _ => by rw [h9]) hH hS (lv_sub hl [0, 1, 2, 3] rfl)
      · have hz0 : ct1 0 o = nI cs.length := by rw [hct 0 (by decide)]; exact pk_us
        have hcl : cs.length ≠ 0 := fun w => hnn (List.eq_nil_of_length_eq_zero w)
        refine lv_iconst (v := 0) hx hb d_Md_send_103 (by decide) ?_
        refine lv_istore_n (lv' := [(3, .int 0), (2, .int (nI (512 * o))), (0, .ref b), (1, .int (nI o))]) hx hb d_Md_send_104 rfl hl (by decide) rfl (fun ls hl => ?_)
        refine lv_iload_n hx hb d_Md_send_105 rfl (lv_at hl 0 rfl) ?_
        refine lv_bipush (v := 8) hx hb d_Md_send_106 (by decide) ?_
        refine lv_icmp_ge (tgt := 138) hx hb d_Md_send_108 (by decide) (fun c_5 => absurd c_5 (by decide)) (fun c_5 => ?_)
        refine lv_aload_n hx hb d_Md_send_111 rfl (lv_at hl 2 rfl) ?_
        refine hp_get hx hb hts iw_Md hown hK hH hm.1 rfl 1 (by decide) (hts _ kw_147) (v := .ref (ad 0)) rfl d_Md_send_112 ?_
        refine lv_iload_n hx hb d_Md_send_115 rfl (lv_at hl 3 rfl) ?_
        refine hp_iald hx hb hK hH (show M3 (ad 0) = some (hp_ai D 8 (ct1 0)) from hm.2.1 0 (by decide) (by decide) (by decide)) o rfl ho8 (by decide) (v := nI cs.length) hz0 d_Md_send_116 ?_
        refine lv_if_ne (tgt := 138) hx hb d_Md_send_117 (by decide) (fun c_6 => ?_) (fun c_6 => absurd c_6 (nI_ne0 (by omega) (by omega)))
        refine lv_iconst (v := 1) hx hb d_Md_send_138 (by decide) ?_
        exact hp_iret hx hb hr hlocks hQ hK hH hS (Nat.le_of_ble_eq_true rfl) (Nat.le_of_ble_eq_true rfl) d_Md_send_139 ⟨_, _, hm, hf, by rw [if_neg (by intro w; cases w)], by rw [sg_send_cons hq]; exact mo_R_send1 hR hinv hac ho8 hq hdn (hct 0 (by decide)) (fun j hj => by rcases hj with rfl | rfl | rfl | rfl | rfl | rfl <;> exact hct _ (by decide)) (hct 14 (by decide)) (hct 15 (by decide)) (hct 16 (by decide)) (fun x g' hx hg => by rw [if_neg (fun z => hnn z.1), h9])⟩
    have Lp : ∀ (n j : Nat) (M3 : hp_M) (H : Heap) (locs : List Loc) (ls : Array Slot) (ct1 : Nat → Nat → Int32) (cl2 : Nat → Nat → Int64), j + n = cs.length → md_H D M3 b ad th of sl ct1 cl2 → md_fr b ad M M3 → mo_dn ct ct1 cl cl2 o j → (∀ x, x = 0 ∨ 7 ≤ x → ct1 x = (va_up (va_up (va_up (va_up (va_up ct 14 (upd (ct 14) o (-1))) 14 (upd (upd (ct 14) o (-1)) o (nI (sg_ci c)))) 15 (upd (ct 15) o (sg_ct c))) 16 (upd (ct 16) o (sl - (sg_cc c)))) 0 (upd (ct 0) o (nI cs.length))) x) → cl2 9 = cl 9 → hp_H D B M3 H → va_S (hp_ub B) s.heap H locs → lv_has ls 4 [(3, .int (nI (512 * o + j))), (2, .int (nI (512 * o))), (0, .ref b), (1, .int (nI o))] → W p l e rm_Md_send s m args below meth cd H locs 0 0 Q (F0 m 77 ls []) := by
      intro n
      induction n with
      | zero =>
        intro j M3 H locs ls ct1 cl2 hn hm hf hdn hct h9 hH hS hl
        have hz0 : ct1 0 o = nI cs.length := by rw [hct 0 (by decide)]; exact pk_us
        refine lv_iload_n hx hb d_Md_send_77 rfl (lv_at hl 0 rfl) ?_
        refine lv_iload_n hx hb d_Md_send_78 rfl (lv_at hl 1 rfl) ?_
        refine lv_aload_n hx hb d_Md_send_79 rfl (lv_at hl 2 rfl) ?_
        refine hp_get hx hb hts iw_Md hown hK hH hm.1 rfl 1 (by decide) (hts _ kw_147) (v := .ref (ad 0)) rfl d_Md_send_80 ?_
        refine lv_iload_n hx hb d_Md_send_83 rfl (lv_at hl 3 rfl) ?_
        refine hp_iald hx hb hK hH (show M3 (ad 0) = some (hp_ai D 8 (ct1 0)) from hm.2.1 0 (by decide) (by decide) (by decide)) o rfl ho8 (by decide) (v := nI cs.length) hz0 d_Md_send_84 ?_
        refine lv_iadd hx hb d_Md_send_85 ?_
        refine hp_ioi (nI_add _ _) ?_
        refine lv_icmp_ge (tgt := 103) hx hb d_Md_send_86 (by decide) (fun c_7 => ?_) (fun c_7 => absurd (nI_le (by omega) (by omega)) c_7)
        have ej : j = cs.length := by omega
        subst ej
        exact Ex M3 _ _ ls ct1 cl2 hm hf hdn hct h9 hH hS (lv_sub hl [0, 1, 2, 3] rfl)
      | succ n ih =>
        intro j M3 H locs ls ct1 cl2 hn hm hf hdn hct h9 hH hS hl
        have hz0 : ct1 0 o = nI cs.length := by rw [hct 0 (by decide)]; exact pk_us
        refine lv_iload_n hx hb d_Md_send_77 rfl (lv_at hl 0 rfl) ?_
        refine lv_iload_n hx hb d_Md_send_78 rfl (lv_at hl 1 rfl) ?_
        refine lv_aload_n hx hb d_Md_send_79 rfl (lv_at hl 2 rfl) ?_
        refine hp_get hx hb hts iw_Md hown hK hH hm.1 rfl 1 (by decide) (hts _ kw_147) (v := .ref (ad 0)) rfl d_Md_send_80 ?_
        refine lv_iload_n hx hb d_Md_send_83 rfl (lv_at hl 3 rfl) ?_
        refine hp_iald hx hb hK hH (show M3 (ad 0) = some (hp_ai D 8 (ct1 0)) from hm.2.1 0 (by decide) (by decide) (by decide)) o rfl ho8 (by decide) (v := nI cs.length) hz0 d_Md_send_84 ?_
        refine lv_iadd hx hb d_Md_send_85 ?_
        refine hp_ioi (nI_add _ _) ?_
        refine lv_icmp_ge (tgt := 103) hx hb d_Md_send_86 (by decide) (fun c_8 => absurd c_8 (nI_ge (by omega) (by omega))) (fun c_8 => ?_)
        refine lv_aload_n hx hb d_Md_send_89 rfl (lv_at hl 2 rfl) ?_
        refine lv_iload_n hx hb d_Md_send_90 rfl (lv_at hl 0 rfl) ?_
        refine lv_iconst (v := 1) hx hb d_Md_send_91 (by decide) ?_
        refine lv_iadd hx hb d_Md_send_92 ?_
        refine hp_ioi (nI_1 _) ?_
        refine lv_iload_n hx hb d_Md_send_93 rfl (lv_at hl 0 rfl) ?_
        refine hp_callv (hp_runV (b := b) (As := [.int (nI (512 * o + j + 1)), .int (nI (512 * o + j))]) (rest := []) hx hb hml hown (cn_Md_copy l D B M3 b ad th of sl ct1 cl2 (512 * o + j + 1) (512 * o + j) hm (by omega) (by omega)) (hp_cwV 2 hts kw_186 kw_188 kw_189 kw_137 kw_187 rfl rfl (by decide +kernel) ⟨(Nat.le_of_ble_eq_true rfl), (Nat.le_of_ble_eq_true rfl)⟩) hK hH hm.1 rfl rfl hl.1 rfl (Nat.le_of_ble_eq_true rfl) d_Md_send_94 ⟨(Nat.le_of_ble_eq_true rfl), (Nat.le_of_ble_eq_true rfl)⟩) hS (fun M_10 H locs w_11 hH hS => ?_)
        obtain ⟨ct2, cl3, hm', hf', cp1, cp2, cp3⟩ := w_11
        refine lv_iinc (v := nI ((512 * o + j) + 1)) (lv' := [(3, .int (nI ((512 * o + j) + 1))), (2, .int (nI (512 * o))), (0, .ref b), (1, .int (nI o))]) hx hb d_Md_send_97 hl (k := 0) rfl (nI_1 (512 * o + j)) (by decide) rfl (fun ls hl => ?_)
        refine lv_goto (tgt := 77) hx hb d_Md_send_100 (by decide) ?_
        exact ih (j + 1) M_10 _ _ ls _ _ (by omega) hm' (md_fr_tr hf hf') (mo_dn_s hdn cp1) (fun x hx => (cp2 x hx).trans (hct x hx)) (cp3.trans h9) hH hS (lv_sub hl [0, 1, 2, 3] rfl)
    refine lv_aload_n hx hb d_Md_send_0 rfl (lv_at hl 0 rfl) ?_
    refine hp_get hx hb hts iw_Md hown hK hH hm.1 rfl 17 (by decide) (hts _ kw_140) (v := .ref (ad 14)) rfl d_Md_send_1 ?_
    refine lv_iload_n hx hb d_Md_send_4 rfl (lv_at hl 1 rfl) ?_
    refine lv_iconst (v := (-1)) hx hb d_Md_send_5 (by decide) ?_
    refine hp_iast hx hb hK hH hS hB (show M (ad 14) = some (hp_ai D 8 (ct 14)) from hm.2.1 14 (by decide) (by decide) (by decide)) o rfl ho8 (by decide) d_Md_send_6 (fun M_12 H locs eM_12 hH hS => ?_)
    have hm := md_pi hm (j := 14) (by decide) (by decide) (by decide) eM_12
    have hf := md_fr_a (j := 14) (by decide) hf eM_12
    refine lv_aload_n hx hb d_Md_send_7 rfl (lv_at hl 0 rfl) ?_
    refine hp_get hx hb hts iw_Md hown hK hH hm.1 rfl 1 (by decide) (hts _ kw_147) (v := .ref (ad 0)) rfl d_Md_send_8 ?_
    refine lv_iload_n hx hb d_Md_send_11 rfl (lv_at hl 1 rfl) ?_
    refine hp_iald hx hb hK hH (show M_12 (ad 0) = some (hp_ai D 8 (ct 0)) from hm.2.1 0 (by decide) (by decide) (by decide)) o rfl ho8 (by decide) (v := nI (cs.length + 1)) hm0 d_Md_send_12 ?_
    refine lv_if_ne (tgt := 18) hx hb d_Md_send_13 (by decide) (fun c_13 => ?_) (fun c_13 => absurd c_13 (nI_ne0 (Nat.succ_pos _) (by omega)))
    refine lv_sipush (v := 512) hx hb d_Md_send_18 (by decide) ?_
    refine lv_iload_n hx hb d_Md_send_21 rfl (lv_at hl 1 rfl) ?_
    refine lv_imul hx hb d_Md_send_22 ?_
    refine hp_ioi (md_s512 o) ?_
    refine lv_istore_n (lv' := [(2, .int (nI (512 * o))), (0, .ref b), (1, .int (nI o))]) hx hb d_Md_send_23 rfl hl (by decide) rfl (fun ls hl => ?_)
    refine lv_aload_n hx hb d_Md_send_24 rfl (lv_at hl 1 rfl) ?_
    refine hp_get hx hb hts iw_Md hown hK hH hm.1 rfl 17 (by decide) (hts _ kw_140) (v := .ref (ad 14)) rfl d_Md_send_25 ?_
    refine lv_iload_n hx hb d_Md_send_28 rfl (lv_at hl 2 rfl) ?_
    refine lv_aload_n hx hb d_Md_send_29 rfl (lv_at hl 1 rfl) ?_
    refine hp_get hx hb hts iw_Md hown hK hH hm.1 rfl 2 (by decide) (hts _ kw_152) (v := .ref (ad 1)) rfl d_Md_send_30 ?_
    refine lv_iload_n hx hb d_Md_send_33 rfl (lv_at hl 0 rfl) ?_
    refine hp_iald hx hb hK hH (show M_12 (ad 1) = some (hp_ai D 4096 (ct 1)) from hm.2.1 1 (by decide) (by decide) (by decide)) (512 * o) rfl (by omega) (by decide) (v := nI (sg_ci c)) hr1 d_Md_send_34 ?_
    refine hp_iast hx hb hK hH hS hB (show M_12 (ad 14) = some (hp_ai D 8 (upd (ct 14) o (-1))) from hm.2.1 14 (by decide) (by decide) (by decide)) o rfl ho8 (by decide) d_Md_send_35 (fun M_14 H locs eM_14 hH hS => ?_)
    have hm := md_pi hm (j := 14) (by decide) (by decide) (by decide) eM_14
    have hf := md_fr_a (j := 14) (by decide) hf eM_14
    refine lv_aload_n hx hb d_Md_send_36 rfl (lv_at hl 1 rfl) ?_
    refine hp_get hx hb hts iw_Md hown hK hH hm.1 rfl 18 (by decide) (hts _ kw_145) (v := .ref (ad 15)) rfl d_Md_send_37 ?_
    refine lv_iload_n hx hb d_Md_send_40 rfl (lv_at hl 2 rfl) ?_
    refine lv_aload_n hx hb d_Md_send_41 rfl (lv_at hl 1 rfl) ?_
    refine hp_get hx hb hts iw_Md hown hK hH hm.1 rfl 4 (by decide) (hts _ kw_177) (v := .ref (ad 3)) rfl d_Md_send_42 ?_
    refine lv_iload_n hx hb d_Md_send_45 rfl (lv_at hl 0 rfl) ?_
    refine hp_iald hx hb hK hH (show M_14 (ad 3) = some (hp_ai D 4096 (ct 3)) from hm.2.1 3 (by decide) (by decide) (by decide)) (512 * o) rfl (by omega) (by decide) (v := sg_ct c) hr3 d_Md_send_46 ?_
    refine hp_iast hx hb hK hH hS hB (show M_14 (ad 15) = some (hp_ai D 8 (ct 15)) from hm.2.1 15 (by decide) (by decide) (by decide)) o rfl ho8 (by decide) d_Md_send_47 (fun M_15 H locs eM_15 hH hS => ?_)
    have hm := md_pi hm (j := 15) (by decide) (by decide) (by decide) eM_15
    have hf := md_fr_a (j := 15) (by decide) hf eM_15
    refine lv_aload_n hx hb d_Md_send_48 rfl (lv_at hl 1 rfl) ?_
    refine hp_get hx hb hts iw_Md hown hK hH hm.1 rfl 19 (by decide) (hts _ kw_146) (v := .ref (ad 16)) rfl d_Md_send_49 ?_
    refine lv_iload_n hx hb d_Md_send_52 rfl (lv_at hl 2 rfl) ?_
    refine lv_aload_n hx hb d_Md_send_53 rfl (lv_at hl 1 rfl) ?_
    refine hp_get hx hb hts iw_Md hown hK hH hm.1 rfl 16 (by decide) (hts _ kw_135) (v := .int sl) rfl d_Md_send_54 ?_
    refine lv_aload_n hx hb d_Md_send_57 rfl (lv_at hl 1 rfl) ?_
    refine hp_get hx hb hts iw_Md hown hK hH hm.1 rfl 6 (by decide) (hts _ kw_178) (v := .ref (ad 5)) rfl d_Md_send_58 ?_
    refine lv_iload_n hx hb d_Md_send_61 rfl (lv_at hl 0 rfl) ?_
    refine hp_iald hx hb hK hH (show M_15 (ad 5) = some (hp_ai D 4096 (ct 5)) from hm.2.1 5 (by decide) (by decide) (by decide)) (512 * o) rfl (by omega) (by decide) (v := (sg_cc c)) hr5 d_Md_send_62 ?_
    refine lv_isub hx hb d_Md_send_63 ?_
    refine hp_iast hx hb hK hH hS hB (show M_15 (ad 16) = some (hp_ai D 8 (ct 16)) from hm.2.1 16 (by decide) (by decide) (by decide)) o rfl ho8 (by decide) d_Md_send_64 (fun M_16 H locs eM_16 hH hS => ?_)
    have hm := md_pi hm (j := 16) (by decide) (by decide) (by decide) eM_16
    have hf := md_fr_a (j := 16) (by decide) hf eM_16
    refine lv_aload_n hx hb d_Md_send_65 rfl (lv_at hl 1 rfl) ?_
    refine hp_get hx hb hts iw_Md hown hK hH hm.1 rfl 1 (by decide) (hts _ kw_147) (v := .ref (ad 0)) rfl d_Md_send_66 ?_
    refine lv_iload_n hx hb d_Md_send_69 rfl (lv_at hl 2 rfl) ?_
    refine lv_dup2_11 hx hb d_Md_send_70 rfl rfl ?_
    refine hp_iald hx hb hK hH (show M_16 (ad 0) = some (hp_ai D 8 (ct 0)) from hm.2.1 0 (by decide) (by decide) (by decide)) o rfl ho8 (by decide) (v := nI (cs.length + 1)) hm0 d_Md_send_71 ?_
    refine lv_iconst (v := 1) hx hb d_Md_send_72 (by decide) ?_
    refine lv_isub hx hb d_Md_send_73 ?_
    refine hp_ioi (nI_pred _) ?_
    refine hp_iast hx hb hK hH hS hB (show M_16 (ad 0) = some (hp_ai D 8 (ct 0)) from hm.2.1 0 (by decide) (by decide) (by decide)) o rfl ho8 (by decide) d_Md_send_74 (fun M_17 H locs eM_17 hH hS => ?_)
    have hm := md_pi hm (j := 0) (by decide) (by decide) (by decide) eM_17
    have hf := md_fr_a (j := 0) (by decide) hf eM_17
    refine lv_iload_n hx hb d_Md_send_75 rfl (lv_at hl 0 rfl) ?_
    refine lv_istore_n (lv' := [(3, .int (nI (512 * o))), (2, .int (nI (512 * o))), (0, .ref b), (1, .int (nI o))]) hx hb d_Md_send_76 rfl hl (by decide) rfl (fun ls hl => ?_)
    exact Lp cs.length 0 M_17 _ _ ls _ cl (by omega) hm hf ⟨fun p a1 a2 => by omega, fun p _ => rfl⟩ (fun x _ => rfl) rfl hH hS (lv_sub hl [0, 1, 2, 3] rfl)
end
section
theorem kw_194 : Cond.methodLink R_Md 105 y_Md_send ∈ wd_T := wd_in (List.mem_of_getElem? (i := 383) (by decide +kernel)) rfl
theorem kw_195 : Cond.code y_Md_send b_Md_send 4 (some .int) ∈ wd_T := wd_in (List.mem_of_getElem? (i := 386) (by decide +kernel)) rfl
theorem kw_196 : Cond.instanceMethod y_Md_send ∈ wd_T := wd_in (List.mem_of_getElem? (i := 385) (by decide +kernel)) rfl
theorem kw_197 : Cond.selects R_Md y_Md_send y_Md_send ∈ wd_T := wd_in (List.mem_of_getElem? (i := 16) (by decide +kernel)) rfl
theorem kw_198 : Cond.methodLink R_Md 101 y_Md_come ∈ wd_T := wd_in (List.mem_of_getElem? (i := 365) (by decide +kernel)) rfl
theorem kw_199 : Cond.code y_Md_come b_Md_come 7 none ∈ wd_T := wd_in (List.mem_of_getElem? (i := 368) (by decide +kernel)) rfl
theorem kw_200 : Cond.instanceMethod y_Md_come ∈ wd_T := wd_in (List.mem_of_getElem? (i := 367) (by decide +kernel)) rfl
theorem kw_201 : Cond.selects R_Md y_Md_come y_Md_come ∈ wd_T := wd_in (List.mem_of_getElem? (i := 12) (by decide +kernel)) rfl
theorem d_Md_slot_0 : decode b_Md_slot 0 = .ok (.aload_n 0, 1) := by decide +kernel
theorem d_Md_slot_1 : decode b_Md_slot 1 = .ok (.iconst 0, 1) := by decide +kernel
theorem d_Md_slot_2 : decode b_Md_slot 2 = .ok (.putfield 65, 3) := by decide +kernel
theorem d_Md_slot_5 : decode b_Md_slot 5 = .ok (.iconst 0, 1) := by decide +kernel
theorem d_Md_slot_6 : decode b_Md_slot 6 = .ok (.istore_n 1, 1) := by decide +kernel
theorem d_Md_slot_7 : decode b_Md_slot 7 = .ok (.iload_n 1, 1) := by decide +kernel
theorem d_Md_slot_8 : decode b_Md_slot 8 = .ok (.bipush 8, 2) := by decide +kernel
theorem d_Md_slot_10 : decode b_Md_slot 10 = .ok (.if_icmp .ge 24, 3) := by decide +kernel
theorem d_Md_slot_13 : decode b_Md_slot 13 = .ok (.aload_n 0, 1) := by decide +kernel
theorem d_Md_slot_14 : decode b_Md_slot 14 = .ok (.getfield 41, 3) := by decide +kernel
theorem d_Md_slot_17 : decode b_Md_slot 17 = .ok (.iload_n 1, 1) := by decide +kernel
theorem d_Md_slot_18 : decode b_Md_slot 18 = .ok (.iaload, 1) := by decide +kernel
theorem d_Md_slot_19 : decode b_Md_slot 19 = .ok (.iconst (-1), 1) := by decide +kernel
theorem d_Md_slot_20 : decode b_Md_slot 20 = .ok (.if_icmp .eq 8, 3) := by decide +kernel
theorem d_Md_slot_23 : decode b_Md_slot 23 = .ok (.aload_n 0, 1) := by decide +kernel
theorem d_Md_slot_24 : decode b_Md_slot 24 = .ok (.iload_n 1, 1) := by decide +kernel
theorem d_Md_slot_25 : decode b_Md_slot 25 = .ok (.invokevirtual 101, 3) := by decide +kernel
theorem d_Md_slot_28 : decode b_Md_slot 28 = .ok (.iinc 1 1, 3) := by decide +kernel
theorem d_Md_slot_31 : decode b_Md_slot 31 = .ok (.goto (-24), 3) := by decide +kernel
theorem d_Md_slot_34 : decode b_Md_slot 34 = .ok (.iconst 0, 1) := by decide +kernel
theorem d_Md_slot_35 : decode b_Md_slot 35 = .ok (.istore_n 1, 1) := by decide +kernel
theorem d_Md_slot_36 : decode b_Md_slot 36 = .ok (.iconst 0, 1) := by decide +kernel
theorem d_Md_slot_37 : decode b_Md_slot 37 = .ok (.istore_n 2, 1) := by decide +kernel
theorem d_Md_slot_38 : decode b_Md_slot 38 = .ok (.iload_n 2, 1) := by decide +kernel
theorem d_Md_slot_39 : decode b_Md_slot 39 = .ok (.bipush 8, 2) := by decide +kernel
theorem d_Md_slot_41 : decode b_Md_slot 41 = .ok (.if_icmp .ge 17, 3) := by decide +kernel
theorem d_Md_slot_44 : decode b_Md_slot 44 = .ok (.iload_n 1, 1) := by decide +kernel
theorem d_Md_slot_45 : decode b_Md_slot 45 = .ok (.aload_n 0, 1) := by decide +kernel
theorem d_Md_slot_46 : decode b_Md_slot 46 = .ok (.iload_n 2, 1) := by decide +kernel
theorem d_Md_slot_47 : decode b_Md_slot 47 = .ok (.invokevirtual 105, 3) := by decide +kernel
theorem d_Md_slot_50 : decode b_Md_slot 50 = .ok (.iadd, 1) := by decide +kernel
theorem d_Md_slot_51 : decode b_Md_slot 51 = .ok (.istore_n 1, 1) := by decide +kernel
theorem d_Md_slot_52 : decode b_Md_slot 52 = .ok (.iinc 2 1, 3) := by decide +kernel
theorem d_Md_slot_55 : decode b_Md_slot 55 = .ok (.goto (-17), 3) := by decide +kernel
theorem d_Md_slot_58 : decode b_Md_slot 58 = .ok (.aload_n 0, 1) := by decide +kernel
theorem d_Md_slot_59 : decode b_Md_slot 59 = .ok (.dup, 1) := by decide +kernel
theorem d_Md_slot_60 : decode b_Md_slot 60 = .ok (.getfield 85, 3) := by decide +kernel
theorem d_Md_slot_63 : decode b_Md_slot 63 = .ok (.iconst 1, 1) := by decide +kernel
theorem d_Md_slot_64 : decode b_Md_slot 64 = .ok (.iadd, 1) := by decide +kernel
theorem d_Md_slot_65 : decode b_Md_slot 65 = .ok (.putfield 85, 3) := by decide +kernel
theorem d_Md_slot_68 : decode b_Md_slot 68 = .ok (.iload_n 1, 1) := by decide +kernel
theorem d_Md_slot_69 : decode b_Md_slot 69 = .ok (.ireturn, 1) := by decide +kernel
theorem d_Md_leaves_0 : decode b_Md_leaves 0 = .ok (.aload_n 0, 1) := by decide +kernel
theorem d_Md_leaves_1 : decode b_Md_leaves 1 = .ok (.iconst 0, 1) := by decide +kernel
theorem d_Md_leaves_2 : decode b_Md_leaves 2 = .ok (.putfield 65, 3) := by decide +kernel
theorem d_Md_leaves_5 : decode b_Md_leaves 5 = .ok (.iconst (-1), 1) := by decide +kernel
theorem d_Md_leaves_6 : decode b_Md_leaves 6 = .ok (.istore_n 2, 1) := by decide +kernel
theorem d_Md_leaves_7 : decode b_Md_leaves 7 = .ok (.iconst 0, 1) := by decide +kernel
theorem d_Md_leaves_8 : decode b_Md_leaves 8 = .ok (.istore_n 3, 1) := by decide +kernel
theorem d_Md_leaves_9 : decode b_Md_leaves 9 = .ok (.iconst 0, 1) := by decide +kernel
theorem d_Md_leaves_10 : decode b_Md_leaves 10 = .ok (.istore 4, 2) := by decide +kernel
theorem d_Md_leaves_12 : decode b_Md_leaves 12 = .ok (.iload 4, 2) := by decide +kernel
theorem d_Md_leaves_14 : decode b_Md_leaves 14 = .ok (.bipush 8, 2) := by decide +kernel
theorem d_Md_leaves_16 : decode b_Md_leaves 16 = .ok (.if_icmp .ge 82, 3) := by decide +kernel
theorem d_Md_leaves_19 : decode b_Md_leaves 19 = .ok (.iconst 0, 1) := by decide +kernel
theorem d_Md_leaves_20 : decode b_Md_leaves 20 = .ok (.istore 5, 2) := by decide +kernel
theorem d_Md_leaves_22 : decode b_Md_leaves 22 = .ok (.iload 5, 2) := by decide +kernel
theorem d_Md_leaves_24 : decode b_Md_leaves 24 = .ok (.aload_n 0, 1) := by decide +kernel
theorem d_Md_leaves_25 : decode b_Md_leaves 25 = .ok (.getfield 7, 3) := by decide +kernel
theorem d_Md_leaves_28 : decode b_Md_leaves 28 = .ok (.iload 4, 2) := by decide +kernel
theorem d_Md_leaves_30 : decode b_Md_leaves 30 = .ok (.iaload, 1) := by decide +kernel
theorem d_Md_leaves_31 : decode b_Md_leaves 31 = .ok (.if_icmp .ge 61, 3) := by decide +kernel
theorem d_Md_leaves_34 : decode b_Md_leaves 34 = .ok (.sipush 512, 3) := by decide +kernel
theorem d_Md_leaves_37 : decode b_Md_leaves 37 = .ok (.iload 4, 2) := by decide +kernel
theorem d_Md_leaves_39 : decode b_Md_leaves 39 = .ok (.imul, 1) := by decide +kernel
theorem d_Md_leaves_40 : decode b_Md_leaves 40 = .ok (.iload 5, 2) := by decide +kernel
theorem d_Md_leaves_42 : decode b_Md_leaves 42 = .ok (.iadd, 1) := by decide +kernel
theorem d_Md_leaves_43 : decode b_Md_leaves 43 = .ok (.istore 6, 2) := by decide +kernel
theorem d_Md_leaves_45 : decode b_Md_leaves 45 = .ok (.aload_n 0, 1) := by decide +kernel
theorem d_Md_leaves_46 : decode b_Md_leaves 46 = .ok (.getfield 19, 3) := by decide +kernel
theorem d_Md_leaves_49 : decode b_Md_leaves 49 = .ok (.iload 6, 2) := by decide +kernel
theorem d_Md_leaves_51 : decode b_Md_leaves 51 = .ok (.iaload, 1) := by decide +kernel
theorem d_Md_leaves_52 : decode b_Md_leaves 52 = .ok (.iload_n 1, 1) := by decide +kernel
theorem d_Md_leaves_53 : decode b_Md_leaves 53 = .ok (.if_icmp .ne 33, 3) := by decide +kernel
theorem d_Md_leaves_56 : decode b_Md_leaves 56 = .ok (.iload_n 2, 1) := by decide +kernel
theorem d_Md_leaves_57 : decode b_Md_leaves 57 = .ok (.iconst (-1), 1) := by decide +kernel
theorem d_Md_leaves_58 : decode b_Md_leaves 58 = .ok (.if_icmp .eq 17, 3) := by decide +kernel
theorem d_Md_leaves_61 : decode b_Md_leaves 61 = .ok (.aload_n 0, 1) := by decide +kernel
theorem d_Md_leaves_62 : decode b_Md_leaves 62 = .ok (.getfield 29, 3) := by decide +kernel
theorem d_Md_leaves_65 : decode b_Md_leaves 65 = .ok (.iload 6, 2) := by decide +kernel
theorem d_Md_leaves_67 : decode b_Md_leaves 67 = .ok (.iaload, 1) := by decide +kernel
theorem d_Md_leaves_68 : decode b_Md_leaves 68 = .ok (.iload_n 3, 1) := by decide +kernel
theorem d_Md_leaves_69 : decode b_Md_leaves 69 = .ok (.if_icmp .le 6, 3) := by decide +kernel
theorem d_Md_leaves_72 : decode b_Md_leaves 72 = .ok (.goto 14, 3) := by decide +kernel
theorem d_Md_leaves_75 : decode b_Md_leaves 75 = .ok (.iload 5, 2) := by decide +kernel
theorem d_Md_leaves_77 : decode b_Md_leaves 77 = .ok (.istore_n 2, 1) := by decide +kernel
theorem d_Md_leaves_78 : decode b_Md_leaves 78 = .ok (.aload_n 0, 1) := by decide +kernel
theorem d_Md_leaves_79 : decode b_Md_leaves 79 = .ok (.getfield 29, 3) := by decide +kernel
theorem d_Md_leaves_82 : decode b_Md_leaves 82 = .ok (.iload 6, 2) := by decide +kernel
theorem d_Md_leaves_84 : decode b_Md_leaves 84 = .ok (.iaload, 1) := by decide +kernel
theorem d_Md_leaves_85 : decode b_Md_leaves 85 = .ok (.istore_n 3, 1) := by decide +kernel
theorem d_Md_leaves_86 : decode b_Md_leaves 86 = .ok (.iinc 5 1, 3) := by decide +kernel
theorem d_Md_leaves_89 : decode b_Md_leaves 89 = .ok (.goto (-67), 3) := by decide +kernel
theorem d_Md_leaves_92 : decode b_Md_leaves 92 = .ok (.iinc 4 1, 3) := by decide +kernel
theorem d_Md_leaves_95 : decode b_Md_leaves 95 = .ok (.goto (-83), 3) := by decide +kernel
theorem d_Md_leaves_98 : decode b_Md_leaves 98 = .ok (.iload_n 2, 1) := by decide +kernel
theorem d_Md_leaves_99 : decode b_Md_leaves 99 = .ok (.ireturn, 1) := by decide +kernel
abbrev rm_Md_slot : Room := { frames := 2, cells := 0, slots := 0, locals := 51 }
set_option maxHeartbeats 4000000 in
set_option maxRecDepth 100000 in
theorem cn_Md_slot (l : Launch) (D : va_G) (B : Nat) (M : hp_M) (b : Nat) (ad : Nat → Nat) (th of sl : Int32) (ct : Nat → Nat → Int32) (cl : Nat → Nat → Int64) (σ : sg_S) (hm : md_H D M b ad th of sl ct cl) (hR : mo_R σ (fun _ => sg_sl σ - 1) of sl ct cl) (hinv : sg_inv σ) (hac : sg_ac σ ≤ 512) (hsei : sg_sei σ) : Met l y_Md_slot (wd_c y_Md_slot b_Md_slot 3 (some .int)) rm_Md_slot (va_Pc [.ref b] (hp_C D B M)) (va_Qi (fun (r : Int32) (M1 : hp_M) => ∃ (ct' : Nat → Nat → Int32) (cl' : Nat → Nat → Int64), md_H D M1 b ad 0 of (sl + 1) ct' cl' ∧ md_fr b ad M M1 ∧ r = nI (sg_count (sg_comes σ 8) 8) ∧ mo_R (sg_slot σ) (fun _ => sg_sl (sg_slot σ) - 1) of (sl + 1) ct' cl') (hp_C D B) (hp_ub B)) 0 0 (hp_ub B) := by
  refine hp_met (by decide) (Nat.le_of_ble_eq_true rfl) ?_
  intro p e s m args below meth cd ls Q hQ hx hb hr hts hown hlocks hnm hml hK hH hS hB hl
  replace hl : lv_has ls 3 [(0, .ref b)] := hl
  have hf : md_fr b ad M M := md_fr_rf
  have hv8 := sg_inv_comes hinv (Nat.le_refl 8)
  have ha8 : sg_ac (sg_comes σ 8) ≤ 512 := by rw [sg_ac_comes]; exact hac
  have L2 : ∀ (n o : Nat) (M3 : hp_M) (H : Heap) (locs : List Loc) (ls : Array Slot) (ct1 : Nat → Nat → Int32) (cl1 : Nat → Nat → Int64), o + n = 8 → md_H D M3 b ad 0 of sl ct1 cl1 → md_fr b ad M M3 → mo_R (sg_sends (sg_comes σ 8) o) (md_tk sl o) of sl ct1 cl1 → hp_H D B M3 H → va_S (hp_ub B) s.heap H locs → lv_has ls 3 [(2, .int (nI o)), (1, .int (nI (sg_count (sg_comes σ 8) o))), (0, .ref b)] → W p l e rm_Md_slot s m args below meth cd H locs 0 0 Q (F0 m 38 ls []) := by
    intro n
    induction n with
    | zero =>
      intro o M3 H locs ls ct1 cl1 hn hm hf hR2 hH hS hl
      have e8 : o = 8 := by omega
      subst e8
      refine lv_iload_n hx hb d_Md_slot_38 rfl (lv_at hl 0 rfl) ?_
      refine lv_bipush (v := 8) hx hb d_Md_slot_39 (by decide) ?_
      refine lv_icmp_ge (tgt := 58) hx hb d_Md_slot_41 (by decide) (fun c_1 => ?_) (fun c_1 => absurd (nI_le (a := 8) (by omega) (by omega)) c_1)
      refine lv_aload_n hx hb d_Md_slot_58 rfl (lv_at hl 2 rfl) ?_
      refine lv_dup hx hb d_Md_slot_59 rfl ?_
      refine hp_get hx hb hts iw_Md hown hK hH hm.1 rfl 16 (by decide) (hts _ kw_135) (v := .int sl) rfl d_Md_slot_60 ?_
      refine lv_iconst (v := 1) hx hb d_Md_slot_63 (by decide) ?_
      refine lv_iadd hx hb d_Md_slot_64 ?_
      refine hp_put hx hb hts iw_Md t_Md t_Md_ok n_Md hown hK hH hS hB hm.1 rfl 16 (by decide) (hts _ kw_135) rfl  (v := .int (sl + 1)) rfl rfl (Nat.le_of_ble_eq_true rfl) (fs' := [.int 0, .ref (ad 0), .ref (ad 1), .ref (ad 2), .ref (ad 3), .ref (ad 4), .ref (ad 5), .ref (ad 6), .ref (ad 7), .ref (ad 8), .ref (ad 9), .ref (ad 10), .ref (ad 11), .ref (ad 12), .ref (ad 13), .int of, .int (sl + 1), .ref (ad 14), .ref (ad 15), .ref (ad 16)]) rfl d_Md_slot_65 (fun M_2 H locs eM_2 hH hS => ?_)
      have hm := md_pb hm (th' := 0) (of' := of) (sl' := sl + 1) eM_2
      have hf := md_fr_b hf eM_2
      refine lv_iload_n hx hb d_Md_slot_68 rfl (lv_at hl 1 rfl) ?_
      exact hp_iret hx hb hr hlocks hQ hK hH hS (Nat.le_of_ble_eq_true rfl) (Nat.le_of_ble_eq_true rfl) d_Md_slot_69 ⟨_, _, hm, hf, rfl, mo_R_tick hR2 (fun x hx => md_tk_eq sl hx)⟩
    | succ n ih =>
      intro o M3 H locs ls ct1 cl1 hn hm hf hR2 hH hS hl
      have ho8 : o < 8 := by omega
      have hv := sg_inv_sends hv8 (n := o) (by omega)
      have ha : sg_ac (sg_sends (sg_comes σ 8) o) ≤ 512 := by rw [sg_ac_sends]; exact ha8
      refine lv_iload_n hx hb d_Md_slot_38 rfl (lv_at hl 0 rfl) ?_
      refine lv_bipush (v := 8) hx hb d_Md_slot_39 (by decide) ?_
      refine lv_icmp_ge (tgt := 58) hx hb d_Md_slot_41 (by decide) (fun c_3 => absurd c_3 (nI_ge (b := 8) (by omega) (by omega))) (fun c_3 => ?_)
      refine lv_iload_n hx hb d_Md_slot_44 rfl (lv_at hl 1 rfl) ?_
      refine lv_aload_n hx hb d_Md_slot_45 rfl (lv_at hl 2 rfl) ?_
      refine lv_iload_n hx hb d_Md_slot_46 rfl (lv_at hl 0 rfl) ?_
      refine hp_calli (hp_runV (b := b) (As := [.int (nI o)]) (rest := [.int (nI (sg_count (sg_comes σ 8) o))]) hx hb hml hown (cn_Md_send l D B M3 b ad 0 of sl ct1 cl1 (sg_sends (sg_comes σ 8) o) (md_tk sl o) o hm hR2 hv ha ho8) (hp_cwV 1 hts kw_194 kw_196 kw_197 kw_137 kw_195 rfl rfl (by decide +kernel) ⟨(Nat.le_of_ble_eq_true rfl), (Nat.le_of_ble_eq_true rfl)⟩) hK hH hm.1 rfl rfl hl.1 rfl (Nat.le_of_ble_eq_true rfl) d_Md_slot_47 ⟨(Nat.le_of_ble_eq_true rfl), (Nat.le_of_ble_eq_true rfl)⟩) hS (fun r_4 M_5 H locs w_6 hH hS => ?_)
      obtain ⟨ct2, cl2, hm', hf', eR, hR'⟩ := w_6
      rw [eR]
      refine lv_iadd hx hb d_Md_slot_50 ?_
      refine hp_ioi (sg_count_add (sg_qu_sends (sg_comes σ 8) (Nat.le_refl o))) ?_
      refine lv_istore_n (lv' := [(1, .int (nI (sg_count (sg_comes σ 8) (o + 1)))), (2, .int (nI o)), (0, .ref b)]) hx hb d_Md_slot_51 rfl hl (by decide) rfl (fun ls hl => ?_)
      refine lv_iinc (v := nI (o + 1)) (lv' := [(2, .int (nI (o + 1))), (1, .int (nI (sg_count (sg_comes σ 8) (o + 1)))), (0, .ref b)]) hx hb d_Md_slot_52 hl (k := 1) rfl (nI_1 o) (by decide) rfl (fun ls hl => ?_)
      refine lv_goto (tgt := 38) hx hb d_Md_slot_55 (by decide) ?_
      exact ih (o + 1) M_5 _ _ ls _ _ (by omega) hm' (md_fr_tr hf hf') hR' hH hS (lv_sub hl [0, 1, 2] rfl)
  have L1 : ∀ (n i : Nat) (M3 : hp_M) (H : Heap) (locs : List Loc) (ls : Array Slot) (ct1 : Nat → Nat → Int32) (cl1 : Nat → Nat → Int64), i + n = 8 → md_H D M3 b ad 0 of sl ct1 cl1 → md_fr b ad M M3 → mo_R (sg_comes σ i) (fun _ => sl - 1) of sl ct1 cl1 → hp_H D B M3 H → va_S (hp_ub B) s.heap H locs → lv_has ls 3 [(1, .int (nI i)), (0, .ref b)] → W p l e rm_Md_slot s m args below meth cd H locs 0 0 Q (F0 m 7 ls []) := by
    intro n
    induction n with
    | zero =>
      intro i M3 H locs ls ct1 cl1 hn hm hf hR1 hH hS hl
      have e8 : i = 8 := by omega
      subst e8
      refine lv_iload_n hx hb d_Md_slot_7 rfl (lv_at hl 0 rfl) ?_
      refine lv_bipush (v := 8) hx hb d_Md_slot_8 (by decide) ?_
      refine lv_icmp_ge (tgt := 34) hx hb d_Md_slot_10 (by decide) (fun c_7 => ?_) (fun c_7 => absurd (nI_le (a := 8) (by omega) (by omega)) c_7)
      refine lv_iconst (v := 0) hx hb d_Md_slot_34 (by decide) ?_
      refine lv_istore_n (lv' := [(1, .int 0), (0, .ref b)]) hx hb d_Md_slot_35 rfl hl (by decide) rfl (fun ls hl => ?_)
      refine lv_iconst (v := 0) hx hb d_Md_slot_36 (by decide) ?_
      refine lv_istore_n (lv' := [(2, .int 0), (1, .int 0), (0, .ref b)]) hx hb d_Md_slot_37 rfl hl (by decide) rfl (fun ls hl => ?_)
      exact L2 8 0 M3 _ _ ls ct1 cl1 (by omega) hm hf hR1 hH hS (lv_sub hl [0, 1, 2] rfl)
    | succ n ih =>
      intro i M3 H locs ls ct1 cl1 hn hm hf hR1 hH hS hl
      have hi8 : i < 8 := by omega
      have hv := sg_inv_comes hinv (n := i) (by omega)
      have ha : sg_ac (sg_comes σ i) ≤ 512 := by rw [sg_ac_comes]; exact hac
      refine lv_iload_n hx hb d_Md_slot_7 rfl (lv_at hl 0 rfl) ?_
      refine lv_bipush (v := 8) hx hb d_Md_slot_8 (by decide) ?_
      refine lv_icmp_ge (tgt := 34) hx hb d_Md_slot_10 (by decide) (fun c_8 => absurd c_8 (nI_ge (b := 8) (by omega) (by omega))) (fun c_8 => ?_)
      refine lv_aload_n hx hb d_Md_slot_13 rfl (lv_at hl 1 rfl) ?_
      refine hp_get hx hb hts iw_Md hown hK hH hm.1 rfl 11 (by decide) (hts _ kw_155) (v := .ref (ad 10)) rfl d_Md_slot_14 ?_
      refine lv_iload_n hx hb d_Md_slot_17 rfl (lv_at hl 0 rfl) ?_
      refine hp_iald hx hb hK hH (show M3 (ad 10) = some (hp_ai D 8 (ct1 10)) from hm.2.1 10 (by decide) (by decide) (by decide)) i rfl hi8 (by decide) (v := (ct1 10 i)) rfl d_Md_slot_18 ?_
      refine lv_iconst (v := (-1)) hx hb d_Md_slot_19 (by decide) ?_
      refine lv_icmp_eq (tgt := 28) hx hb d_Md_slot_20 (by decide) (fun c_9 => ?_) (fun c_9 => ?_)
      · have hof := mo_m1 (tk := 0) (hR1.2.2.2 i hi8) (fun d hd => ((hv.2.1 i hi8).2 d hd).2.1) c_9
        refine lv_iinc (v := nI (i + 1)) (lv' := [(1, .int (nI (i + 1))), (0, .ref b)]) hx hb d_Md_slot_28 hl (k := 0) rfl (nI_1 i) (by decide) rfl (fun ls hl => ?_)
        refine lv_goto (tgt := 7) hx hb d_Md_slot_31 (by decide) ?_
        exact ih (i + 1) M3 _ _ ls _ _ (by omega) hm hf (by show mo_R (sg_come (sg_comes σ i) i) _ _ _ _ _; unfold sg_come; rw [hof]; exact hR1) hH hS (lv_sub hl [0, 1] rfl)
      · obtain ⟨c, hc, -⟩ := mo_nm1 (hR1.2.2.2 i hi8) c_9
        refine lv_aload_n hx hb d_Md_slot_23 rfl (lv_at hl 1 rfl) ?_
        refine lv_iload_n hx hb d_Md_slot_24 rfl (lv_at hl 0 rfl) ?_
        refine hp_callv (hp_runV (b := b) (As := [.int (nI i)]) (rest := []) hx hb hml hown (cn_Md_come l D B M3 b ad 0 of sl ct1 cl1 (sg_comes σ i) (fun _ => sl - 1) i c hm hR1 hv ha hi8 hc) (hp_cwV 1 hts kw_198 kw_200 kw_201 kw_137 kw_199 rfl rfl (by decide +kernel) ⟨(Nat.le_of_ble_eq_true rfl), (Nat.le_of_ble_eq_true rfl)⟩) hK hH hm.1 rfl rfl hl.1 rfl (Nat.le_of_ble_eq_true rfl) d_Md_slot_25 ⟨(Nat.le_of_ble_eq_true rfl), (Nat.le_of_ble_eq_true rfl)⟩) hS (fun M_11 H locs w_12 hH hS => ?_)
        obtain ⟨ct2, cl2, hm', hf', hR'⟩ := w_12
        refine lv_iinc (v := nI (i + 1)) (lv' := [(1, .int (nI (i + 1))), (0, .ref b)]) hx hb d_Md_slot_28 hl (k := 0) rfl (nI_1 i) (by decide) rfl (fun ls hl => ?_)
        refine lv_goto (tgt := 7) hx hb d_Md_slot_31 (by decide) ?_
        exact ih (i + 1) M_11 _ _ ls _ _ (by omega) hm' (md_fr_tr hf hf') (by show mo_R (sg_come (sg_comes σ i) i) _ _ _ _ _; unfold sg_come; rw [hc]; exact hR') hH hS (lv_sub hl [0, 1] rfl)
  refine lv_aload_n hx hb d_Md_slot_0 rfl (lv_at hl 0 rfl) ?_
  refine lv_iconst (v := 0) hx hb d_Md_slot_1 (by decide) ?_
  refine hp_put hx hb hts iw_Md t_Md t_Md_ok n_Md hown hK hH hS hB hm.1 rfl 0 (by decide) (hts _ kw_134) rfl  (v := .int 0) rfl rfl (Nat.le_of_ble_eq_true rfl) (fs' := [.int 0, .ref (ad 0), .ref (ad 1), .ref (ad 2), .ref (ad 3), .ref (ad 4), .ref (ad 5), .ref (ad 6), .ref (ad 7), .ref (ad 8), .ref (ad 9), .ref (ad 10), .ref (ad 11), .ref (ad 12), .ref (ad 13), .int of, .int sl, .ref (ad 14), .ref (ad 15), .ref (ad 16)]) rfl d_Md_slot_2 (fun M_13 H locs eM_13 hH hS => ?_)
  have hm := md_pb hm (th' := 0) (of' := of) (sl' := sl) eM_13
  have hf := md_fr_b hf eM_13
  refine lv_iconst (v := 0) hx hb d_Md_slot_5 (by decide) ?_
  refine lv_istore_n (lv' := [(1, .int 0), (0, .ref b)]) hx hb d_Md_slot_6 rfl hl (by decide) rfl (fun ls hl => ?_)
  exact L1 8 0 M_13 _ _ ls ct cl (by omega) hm hf (by rw [← hR.2.1] at hR; exact hR) hH hS (lv_sub hl [0, 1] rfl)
abbrev rm_Md_leaves : Room := { frames := 0, cells := 0, slots := 0, locals := 0 }
set_option maxHeartbeats 4000000 in
set_option maxRecDepth 100000 in
theorem cn_Md_leaves (l : Launch) (D : va_G) (B : Nat) (M : hp_M) (b : Nat) (ad : Nat → Nat) (th of sl : Int32) (ct : Nat → Nat → Int32) (cl : Nat → Nat → Int64) (σ : sg_S) (t : Int32) (hm : md_H D M b ad th of sl ct cl) (hR : mo_R σ (fun _ => sg_sl σ - 1) of sl ct cl) (hinv : sg_inv σ) (hac : sg_ac σ ≤ 512) (hsei : sg_sei σ) : Met l y_Md_leaves (wd_c y_Md_leaves b_Md_leaves 7 (some .int)) rm_Md_leaves (va_Pc [.ref b, .int t] (hp_C D B M)) (va_Qi (fun (r : Int32) (M1 : hp_M) => md_H D M1 b ad 0 of sl ct cl ∧ md_fr b ad M M1 ∧ r = an_leaves σ t) (hp_C D B) (hp_ub B)) 0 0 (hp_ub B) := by
  refine hp_met (by decide) (Nat.le_of_ble_eq_true rfl) ?_
  intro p e s m args below meth cd ls Q hQ hx hb hr hts hown hlocks hnm hml hK hH hS hB hl
  replace hl : lv_has ls 7 [(0, .ref b), (1, .int t)] := hl
  have hf : md_fr b ad M M := md_fr_rf
  refine lv_aload_n hx hb d_Md_leaves_0 rfl (lv_at hl 0 rfl) ?_
  refine lv_iconst (v := 0) hx hb d_Md_leaves_1 (by decide) ?_
  refine hp_put hx hb hts iw_Md t_Md t_Md_ok n_Md hown hK hH hS hB hm.1 rfl 0 (by decide) (hts _ kw_134) rfl  (v := .int 0) rfl rfl (Nat.le_of_ble_eq_true rfl) (fs' := [.int 0, .ref (ad 0), .ref (ad 1), .ref (ad 2), .ref (ad 3), .ref (ad 4), .ref (ad 5), .ref (ad 6), .ref (ad 7), .ref (ad 8), .ref (ad 9), .ref (ad 10), .ref (ad 11), .ref (ad 12), .ref (ad 13), .int of, .int sl, .ref (ad 14), .ref (ad 15), .ref (ad 16)]) rfl d_Md_leaves_2 (fun M_1 H locs eM_1 hH hS => ?_)
  have hm := md_pb hm (th' := 0) (of' := of) (sl' := sl) eM_1
  have hf := md_fr_b hf eM_1
  refine lv_iconst (v := (-1)) hx hb d_Md_leaves_5 (by decide) ?_
  refine lv_istore_n (lv' := [(2, .int (-1)), (0, .ref b), (1, .int t)]) hx hb d_Md_leaves_6 rfl hl (by decide) rfl (fun ls hl => ?_)
  refine lv_iconst (v := 0) hx hb d_Md_leaves_7 (by decide) ?_
  refine lv_istore_n (lv' := [(3, .int 0), (2, .int (-1)), (0, .ref b), (1, .int t)]) hx hb d_Md_leaves_8 rfl hl (by decide) rfl (fun ls hl => ?_)
  refine lv_iconst (v := 0) hx hb d_Md_leaves_9 (by decide) ?_
  refine lv_istore (lv' := [(4, .int 0), (3, .int 0), (2, .int (-1)), (0, .ref b), (1, .int t)]) hx hb d_Md_leaves_10 hl (by decide) rfl (fun ls hl => ?_)
  have In : ∀ (o : Nat), o < 8 → ∀ (n k : Nat) (be : Option sg_Ce × Int32) (best least : Int32) (ls : Array Slot), k + n = (sg_qu σ o).length → ls_R be best least → lv_D σ o k be.1 → (∀ (best least : Int32) (ls : Array Slot), ls_R (lv_in t be k ((sg_qu σ o).drop k)) best least → lv_D σ (o + 1) 0 (lv_in t be k ((sg_qu σ o).drop k)).1 → lv_has ls 7 [(4, .int (nI o)), (2, .int best), (3, .int least), (0, .ref b), (1, .int t)] → W p l e rm_Md_leaves s m args below meth cd H locs 0 0 Q (F0 m 92 ls [])) → lv_has ls 7 [(5, .int (nI k)), (4, .int (nI o)), (2, .int best), (3, .int least), (0, .ref b), (1, .int t)] → W p l e rm_Md_leaves s m args below meth cd H locs 0 0 Q (F0 m 22 ls []) := by
    intro o ho8 n
    have hm0 := (hR.2.2.1 o ho8).1
    have hlen := sg_len_le hinv ho8
    induction n with
    | zero =>
      intro k be best least ls hn hls hD K hl
      refine lv_iload hx hb d_Md_leaves_22 (lv_at hl 0 rfl) ?_
      refine lv_aload_n hx hb d_Md_leaves_24 rfl (lv_at hl 4 rfl) ?_
      refine hp_get hx hb hts iw_Md hown hK hH hm.1 rfl 1 (by decide) (hts _ kw_147) (v := .ref (ad 0)) rfl d_Md_leaves_25 ?_
      refine lv_iload hx hb d_Md_leaves_28 (lv_at hl 1 rfl) ?_
      refine hp_iald hx hb hK hH (show M_1 (ad 0) = some (hp_ai D 8 (ct 0)) from hm.2.1 0 (by decide) (by decide) (by decide)) o rfl ho8 (by decide) (v := (ct 0 o)) rfl d_Md_leaves_30 ?_
      refine lv_icmp_ge (tgt := 92) hx hb d_Md_leaves_31 (by decide) (fun c_2 => ?_) (fun c_2 => absurd (by rw [hm0]; exact nI_le (by omega) (by omega)) c_2)
      exact K best least ls (by rw [List.drop_eq_nil_of_le (by omega)]; exact hls) (by rw [List.drop_eq_nil_of_le (by omega)]; exact lv_D_next hD) (lv_sub hl [1, 2, 3, 4, 5] rfl)
    | succ n ih =>
      intro k be best least ls hn hls hD K hl
      obtain ⟨c, hc, hd, hcm⟩ := sg_drop (l := sg_qu σ o) (k := k) (by omega)
      have hc5 := Nat.lt_of_lt_of_le ((hinv.1 o ho8).2.2.2 c hcm).2.2.2 hac
      obtain ⟨hr1, hr2, hr3, hr4, hr5, hr6⟩ := mo_rw ((hR.2.2.1 o ho8).2.2.2.1 k c hc)
      refine lv_iload hx hb d_Md_leaves_22 (lv_at hl 0 rfl) ?_
      refine lv_aload_n hx hb d_Md_leaves_24 rfl (lv_at hl 4 rfl) ?_
      refine hp_get hx hb hts iw_Md hown hK hH hm.1 rfl 1 (by decide) (hts _ kw_147) (v := .ref (ad 0)) rfl d_Md_leaves_25 ?_
      refine lv_iload hx hb d_Md_leaves_28 (lv_at hl 1 rfl) ?_
      refine hp_iald hx hb hK hH (show M_1 (ad 0) = some (hp_ai D 8 (ct 0)) from hm.2.1 0 (by decide) (by decide) (by decide)) o rfl ho8 (by decide) (v := (ct 0 o)) rfl d_Md_leaves_30 ?_
      refine lv_icmp_ge (tgt := 92) hx hb d_Md_leaves_31 (by decide) (fun c_3 => absurd c_3 (by rw [hm0]; exact nI_ge (by omega) (by omega))) (fun c_3 => ?_)
      refine lv_sipush (v := 512) hx hb d_Md_leaves_34 (by decide) ?_
      refine lv_iload hx hb d_Md_leaves_37 (lv_at hl 1 rfl) ?_
      refine lv_imul hx hb d_Md_leaves_39 ?_
      refine lv_iload hx hb d_Md_leaves_40 (lv_at hl 0 rfl) ?_
      refine lv_iadd hx hb d_Md_leaves_42 ?_
      refine hp_ioi (md_ix512 o k) ?_
      refine lv_istore (lv' := [(6, .int (nI (512 * o + k))), (5, .int (nI k)), (4, .int (nI o)), (2, .int best), (3, .int least), (0, .ref b), (1, .int t)]) hx hb d_Md_leaves_43 hl (by decide) rfl (fun ls hl => ?_)
      refine lv_aload_n hx hb d_Md_leaves_45 rfl (lv_at hl 5 rfl) ?_
      refine hp_get hx hb hts iw_Md hown hK hH hm.1 rfl 4 (by decide) (hts _ kw_177) (v := .ref (ad 3)) rfl d_Md_leaves_46 ?_
      refine lv_iload hx hb d_Md_leaves_49 (lv_at hl 0 rfl) ?_
      refine hp_iald hx hb hK hH (show M_1 (ad 3) = some (hp_ai D 4096 (ct 3)) from hm.2.1 3 (by decide) (by decide) (by decide)) (512 * o + k) rfl (by omega) (by decide) (v := sg_ct c) hr3 d_Md_leaves_51 ?_
      refine lv_iload_n hx hb d_Md_leaves_52 rfl (lv_at hl 6 rfl) ?_
      refine lv_icmp_ne (tgt := 86) hx hb d_Md_leaves_53 (by decide) (fun c_4 => ?_) (fun c_4 => ?_)
      · refine lv_iinc (v := nI (k + 1)) (lv' := [(5, .int (nI (k + 1))), (6, .int (nI (512 * o + k))), (4, .int (nI o)), (2, .int best), (3, .int least), (0, .ref b), (1, .int t)]) hx hb d_Md_leaves_86 hl (k := 1) rfl (nI_1 k) (by decide) rfl (fun ls hl => ?_)
        refine lv_goto (tgt := 22) hx hb d_Md_leaves_89 (by decide) ?_
        exact ih (k + 1) be best least ls (by omega) hls (lv_D_skip hD) (fun best least ls h1 h2 h3 => K best least ls (by rw [hd, lv_skip (fun q => c_4 q.1)]; exact h1) (by rw [hd, lv_skip (fun q => c_4 q.1)]; exact h2) h3) (lv_sub hl [0, 2, 3, 4, 5, 6] rfl)
      · refine lv_iload_n hx hb d_Md_leaves_56 rfl (lv_at hl 3 rfl) ?_
        refine lv_iconst (v := (-1)) hx hb d_Md_leaves_57 (by decide) ?_
        refine lv_icmp_eq (tgt := 75) hx hb d_Md_leaves_58 (by decide) (fun c_5 => ?_) (fun c_5 => ?_)
        · refine lv_iload hx hb d_Md_leaves_75 (lv_at hl 1 rfl) ?_
          refine lv_istore_n (lv' := [(2, .int (nI k)), (6, .int (nI (512 * o + k))), (5, .int (nI k)), (4, .int (nI o)), (3, .int least), (0, .ref b), (1, .int t)]) hx hb d_Md_leaves_77 rfl hl (by decide) rfl (fun ls hl => ?_)
          refine lv_aload_n hx hb d_Md_leaves_78 rfl (lv_at hl 5 rfl) ?_
          refine hp_get hx hb hts iw_Md hown hK hH hm.1 rfl 7 (by decide) (hts _ kw_179) (v := .ref (ad 6)) rfl d_Md_leaves_79 ?_
          refine lv_iload hx hb d_Md_leaves_82 (lv_at hl 1 rfl) ?_
          refine hp_iald hx hb hK hH (show M_1 (ad 6) = some (hp_ai D 4096 (ct 6)) from hm.2.1 6 (by decide) (by decide) (by decide)) (512 * o + k) rfl (by omega) (by decide) (v := nI (sg_cs c)) hr6 d_Md_leaves_84 ?_
          refine lv_istore_n (lv' := [(3, .int (nI (sg_cs c))), (2, .int (nI k)), (6, .int (nI (512 * o + k))), (5, .int (nI k)), (4, .int (nI o)), (0, .ref b), (1, .int t)]) hx hb d_Md_leaves_85 rfl hl (by decide) rfl (fun ls hl => ?_)
          refine lv_iinc (v := nI (k + 1)) (lv' := [(5, .int (nI (k + 1))), (3, .int (nI (sg_cs c))), (2, .int (nI k)), (6, .int (nI (512 * o + k))), (4, .int (nI o)), (0, .ref b), (1, .int t)]) hx hb d_Md_leaves_86 hl (k := 3) rfl (nI_1 k) (by decide) rfl (fun ls hl => ?_)
          refine lv_goto (tgt := 22) hx hb d_Md_leaves_89 (by decide) ?_
          exact ih (k + 1) (some c, nI k) (nI k) (nI (sg_cs c)) ls (by omega) ⟨rfl, ⟨k, by omega, rfl⟩, rfl, hc5⟩ (lv_D_take hc) (fun best least ls h1 h2 h3 => K best least ls (by rw [hd, lv_take c_4 (by rw [ls_none hls c_5]; rfl)]; exact h1) (by rw [hd, lv_take c_4 (by rw [ls_none hls c_5]; rfl)]; exact h2) h3) (lv_sub hl [0, 4, 2, 1, 5, 6] rfl)
        · obtain ⟨d, hb1, hb2, hb3⟩ := ls_some hls c_5
          refine lv_aload_n hx hb d_Md_leaves_61 rfl (lv_at hl 5 rfl) ?_
          refine hp_get hx hb hts iw_Md hown hK hH hm.1 rfl 7 (by decide) (hts _ kw_179) (v := .ref (ad 6)) rfl d_Md_leaves_62 ?_
          refine lv_iload hx hb d_Md_leaves_65 (lv_at hl 0 rfl) ?_
          refine hp_iald hx hb hK hH (show M_1 (ad 6) = some (hp_ai D 4096 (ct 6)) from hm.2.1 6 (by decide) (by decide) (by decide)) (512 * o + k) rfl (by omega) (by decide) (v := nI (sg_cs c)) hr6 d_Md_leaves_67 ?_
          refine lv_iload_n hx hb d_Md_leaves_68 rfl (lv_at hl 4 rfl) ?_
          refine lv_icmp_le (tgt := 75) hx hb d_Md_leaves_69 (by decide) (fun c_6 => ?_) (fun c_6 => ?_)
          · refine lv_iload hx hb d_Md_leaves_75 (lv_at hl 1 rfl) ?_
            refine lv_istore_n (lv' := [(2, .int (nI k)), (6, .int (nI (512 * o + k))), (5, .int (nI k)), (4, .int (nI o)), (3, .int least), (0, .ref b), (1, .int t)]) hx hb d_Md_leaves_77 rfl hl (by decide) rfl (fun ls hl => ?_)
            refine lv_aload_n hx hb d_Md_leaves_78 rfl (lv_at hl 5 rfl) ?_
            refine hp_get hx hb hts iw_Md hown hK hH hm.1 rfl 7 (by decide) (hts _ kw_179) (v := .ref (ad 6)) rfl d_Md_leaves_79 ?_
            refine lv_iload hx hb d_Md_leaves_82 (lv_at hl 1 rfl) ?_
            refine hp_iald hx hb hK hH (show M_1 (ad 6) = some (hp_ai D 4096 (ct 6)) from hm.2.1 6 (by decide) (by decide) (by decide)) (512 * o + k) rfl (by omega) (by decide) (v := nI (sg_cs c)) hr6 d_Md_leaves_84 ?_
            refine lv_istore_n (lv' := [(3, .int (nI (sg_cs c))), (2, .int (nI k)), (6, .int (nI (512 * o + k))), (5, .int (nI k)), (4, .int (nI o)), (0, .ref b), (1, .int t)]) hx hb d_Md_leaves_85 rfl hl (by decide) rfl (fun ls hl => ?_)
            refine lv_iinc (v := nI (k + 1)) (lv' := [(5, .int (nI (k + 1))), (3, .int (nI (sg_cs c))), (2, .int (nI k)), (6, .int (nI (512 * o + k))), (4, .int (nI o)), (0, .ref b), (1, .int t)]) hx hb d_Md_leaves_86 hl (k := 3) rfl (nI_1 k) (by decide) rfl (fun ls hl => ?_)
            refine lv_goto (tgt := 22) hx hb d_Md_leaves_89 (by decide) ?_
            exact ih (k + 1) (some c, nI k) (nI k) (nI (sg_cs c)) ls (by omega) ⟨rfl, ⟨k, by omega, rfl⟩, rfl, hc5⟩ (lv_D_take hc) (fun best least ls h1 h2 h3 => K best least ls (by rw [hd, lv_take c_4 (by rw [hb1]; have q1 := lv_ne hinv ho8 hc hD hb1; have q2 := (nI_leI (by omega) (by omega)).mp (hb2 ▸ c_6); exact decide_eq_true (by omega))]; exact h1) (by rw [hd, lv_take c_4 (by rw [hb1]; have q1 := lv_ne hinv ho8 hc hD hb1; have q2 := (nI_leI (by omega) (by omega)).mp (hb2 ▸ c_6); exact decide_eq_true (by omega))]; exact h2) h3) (lv_sub hl [0, 4, 2, 1, 5, 6] rfl)
          · refine lv_goto (tgt := 86) hx hb d_Md_leaves_72 (by decide) ?_
            refine lv_iinc (v := nI (k + 1)) (lv' := [(5, .int (nI (k + 1))), (6, .int (nI (512 * o + k))), (4, .int (nI o)), (2, .int best), (3, .int least), (0, .ref b), (1, .int t)]) hx hb d_Md_leaves_86 hl (k := 1) rfl (nI_1 k) (by decide) rfl (fun ls hl => ?_)
            refine lv_goto (tgt := 22) hx hb d_Md_leaves_89 (by decide) ?_
            exact ih (k + 1) be best least ls (by omega) hls (lv_D_skip hD) (fun best least ls h1 h2 h3 => K best least ls (by rw [hd, lv_skip (fun q => by rw [hb1] at q; have q3 := of_decide_eq_true q.2; exact c_6 (by rw [hb2]; exact nI_le (by omega) (by omega)))]; exact h1) (by rw [hd, lv_skip (fun q => by rw [hb1] at q; have q3 := of_decide_eq_true q.2; exact c_6 (by rw [hb2]; exact nI_le (by omega) (by omega)))]; exact h2) h3) (lv_sub hl [0, 2, 3, 4, 5, 6] rfl)
  have Lp : ∀ (n o : Nat) (best least : Int32) (ls : Array Slot), o + n = 8 → ls_R (lv_out σ t o) best least → lv_D σ o 0 (lv_out σ t o).1 → lv_has ls 7 [(4, .int (nI o)), (2, .int best), (3, .int least), (0, .ref b), (1, .int t)] → W p l e rm_Md_leaves s m args below meth cd H locs 0 0 Q (F0 m 12 ls []) := by
    intro n
    induction n with
    | zero =>
      intro o best least ls hn hls hD hl
      have e8 : o = 8 := by omega
      subst e8
      refine lv_iload hx hb d_Md_leaves_12 (lv_at hl 0 rfl) ?_
      refine lv_bipush (v := 8) hx hb d_Md_leaves_14 (by decide) ?_
      refine lv_icmp_ge (tgt := 98) hx hb d_Md_leaves_16 (by decide) (fun c_7 => ?_) (fun c_7 => absurd (nI_le (a := 8) (by omega) (by omega)) c_7)
      refine lv_iload_n hx hb d_Md_leaves_98 rfl (lv_at hl 1 rfl) ?_
      exact hp_iret hx hb hr hlocks hQ hK hH hS (Nat.le_of_ble_eq_true rfl) (Nat.le_of_ble_eq_true rfl) d_Md_leaves_99 ⟨hm, hf, hls.1.symm⟩
    | succ n ih =>
      intro o best least ls hn hls hD hl
      have ho8 : o < 8 := by omega
      refine lv_iload hx hb d_Md_leaves_12 (lv_at hl 0 rfl) ?_
      refine lv_bipush (v := 8) hx hb d_Md_leaves_14 (by decide) ?_
      refine lv_icmp_ge (tgt := 98) hx hb d_Md_leaves_16 (by decide) (fun c_8 => absurd c_8 (nI_ge (b := 8) (by omega) (by omega))) (fun c_8 => ?_)
      refine lv_iconst (v := 0) hx hb d_Md_leaves_19 (by decide) ?_
      refine lv_istore (lv' := [(5, .int 0), (4, .int (nI o)), (2, .int best), (3, .int least), (0, .ref b), (1, .int t)]) hx hb d_Md_leaves_20 hl (by decide) rfl (fun ls hl => ?_)
      refine In o ho8 (sg_qu σ o).length 0 (lv_out σ t o) best least ls (by omega) hls hD (fun best least ls hls hD hl => ?_) (lv_sub hl [0, 1, 2, 3, 4, 5] rfl)
      refine lv_iinc (v := nI (o + 1)) (lv' := [(4, .int (nI (o + 1))), (2, .int best), (3, .int least), (0, .ref b), (1, .int t)]) hx hb d_Md_leaves_92 hl (k := 0) rfl (nI_1 o) (by decide) rfl (fun ls hl => ?_)
      refine lv_goto (tgt := 12) hx hb d_Md_leaves_95 (by decide) ?_
      exact ih (o + 1) best least ls (by omega) hls hD (lv_sub hl [0, 1, 2, 3, 4] rfl)
  exact Lp 8 0 (-1) 0 ls (by omega) ⟨rfl, rfl⟩ (fun d hd => by cases hd) (lv_sub hl [0, 2, 1, 3, 4] rfl)
end
section
/-! THE CLAIM OUT OF ONE WALK OF THE LAW'S BODY. Your part is whole_start (and what it stands on); all else here is the same for every law, but numbers. -/
def R_law : String := "EvenSwitchLaw"
def lw_P (b : Addr) (xs : List Int32) (args : Array Value) (s : State) : Prop := args = #[.ref b] ∧ s.IntsAt b xs ∧ xs.length ≤ 2560 ∧ (Jvm.Cond.and given_1 narrow_1).before args s = true
def lw_Q (_ : Array Value) (s : State) (o : Outcome) (t : State) : Prop := o = .returned (some (.int 1)) ∧ Framed s o t [] 600000 7302249
def lw_Z (below : List Frame) (a : Array Value) (s : State) : State → Prop := fun t => ∃ o, t.status = .running ∧ Ended t below o ∧ lw_Q a s o t
/-- the law's own end, with 1 on the stack, nothing written that was there before, its room as the claim has it -/
theorem lw_ret {p : Program} {l : Launch} {e : Env} {s : State} {m : MethodId} {below : List Frame} {meth : Method} {c : Code} {b : Nat} (hx : p.tables.exec = Jvm.exec) (hb : c.code = code) (hr : meth.sig.returnType = ret) (hlocks : meth.locks = false) {pc : Nat} {H : Heap} {ls : Array Slot} (hdg : decode code pc = .ok (.ireturn, 1)) : W p l e room_1 s m #[Value.ref b] below meth c H [] 600000 7302249 (lw_Z below #[Value.ref b] s) (F0 m pc ls [.int 1]) := by
  intro T hT X
  obtain ⟨fs, hret, hrun, hended, hW, hframe⟩ := X.leave (v := some (.int 1)) (hlocks := hlocks) (fun h => by rw [hr] at h; cases h)
  have hmeth' : T.vm.method? m = some meth := X.method'
  refine ⟨T.setFrames fs, ?_, .returned (some (.int 1)), hrun, hended, rfl, ⟨_, rfl⟩, hW, hframe⟩
  jvm_step X.here [X.here.top, hx, hb, hdg, hmeth', hr, ret, narrow_b1]
  (try refine ⟨rfl, ?_⟩); (try refine ⟨rfl, ?_⟩)
  first | (intro acts; rw [hret _ acts rfl rfl rfl]) | rw [hret _ _ rfl rfl rfl]
  exact Steps.refl _
/-- what holds at the law's entry: the machine, the code, the tables' words (any of lw_tbl by 'hts w (by decide +kernel)'), the script of L ints xs at the cell b, what the Statement gives of the start (any of its parts by flat_of_before) -/
def lw_At (p : Program) (s : State) (m : MethodId) (meth : Method) (c : Code) (b L : Nat) (xs : Nat → Int32) : Prop :=
  p.tables.exec = Jvm.exec ∧ c.code = code ∧ meth.sig.returnType = ret ∧ c.maxLocals = 4 ∧ s.vm.findClass R_law = some m.cls ∧ (∀ w ∈ lw_tbl, w.before #[Value.ref b] s = true) ∧ va_X b L xs s s.heap ∧ b < s.heap.size ∧ meth.locks = false ∧ (Jvm.Cond.and given_1 narrow_1).before #[Value.ref b] s = true
end
section
/-! The law: what it needs of both sides. -/
section LW1
variable {p : Program} {l : Launch} {e : Env} {R : Room} {s : State} {m : MethodId} {args : Array Value} {below : List Frame} {meth : Method} {c : Code} {H : Heap} {locs : List Loc} {cells slots : Nat} {Q : State → Prop}
variable {cc : ByteArray} {pc : Nat} {ls : Array Slot} {rest : List Value} {A : Nat → Prop} {H0 : Heap}
theorem hp_sld (hexec : p.tables.exec = Jvm.exec) (hb : c.code = cc) {b L : Nat} {xs : Nat → Int32} (hX : va_X b L xs s H0) (hbl : b < H0.size) (hbA : ¬ A b) (hS : va_S A H0 H locs) {i : Int32} (k : Nat) (hi : i = nI k) (hk : k < L) (hL : L < 2 ^ 31) (hdg : decode cc pc = .ok (.iaload, 1))
    (kk : W p l e R s m args below meth c H locs cells slots Q (F0 m (pc + 1) ls (.int (xs k) :: rest))) : W p l e R s m args below meth c H locs cells slots Q (F0 m pc ls (.int i :: .ref b :: rest)) := by
  subst hi
  refine va_sld hexec hb hX hbl hbA hS (vp_in_nI hk hL) hdg ?_
  rw [nI_clamp (by omega)]
  exact kk
end LW1
/-- the reference's addresses -/
def lw_F (q1 : Nat) (ad : Nat → Nat) : Nat → Prop := fun x => x = q1 ∨ ∃ j, j < 17 ∧ x = ad j
theorem lw_md {D : va_G} {M M1 : hp_M} {q1 : Nat} {ad : Nat → Nat} {th of sl : Int32} {ct : Nat → Nat → Int32} {cl : Nat → Nat → Int64} (h : md_H D M q1 ad th of sl ct cl) (hf : sw_fr (lw_F q1 ad) M M1) : md_H D M1 q1 ad th of sl ct cl :=
  ⟨(hf q1 (Or.inl rfl)).trans h.1, fun j a1 a2 a3 => (hf _ (Or.inr ⟨j, a1, rfl⟩)).trans (h.2.1 j a1 a2 a3), fun j a1 => (hf _ (Or.inr ⟨j, by omega, rfl⟩)).trans (h.2.2.1 j a1), h.2.2.2⟩
theorem lw_some {D : va_G} {M : hp_M} {q1 : Nat} {ad : Nat → Nat} {th of sl : Int32} {ct : Nat → Nat → Int32} {cl : Nat → Nat → Int64} (h : md_H D M q1 ad th of sl ct cl) : ∀ x, lw_F q1 ad x → M x ≠ none := by
  intro x hx
  rcases hx with rfl | ⟨j, hj, rfl⟩
  · rw [h.1]; intro w; cases w
  · by_cases h4 : j = 4 ∨ j = 9
    · rw [h.2.2.1 j h4]; intro w; cases w
    · rw [h.2.1 j hj (fun q => h4 (Or.inl q)) (fun q => h4 (Or.inr q))]; intro w; cases w
theorem lw_sw {D : va_G} {M M1 : hp_M} {q0 q1 : Nat} {ad : Nat → Nat} {th of sl : Int32} {ct : Nat → Nat → Int32} {cl : Nat → Nat → Int64} {σ : sg_S} (h : sw_H D M q0 σ (lw_F q1 ad)) (hf : md_fr q1 ad M M1) (hm : md_H D M1 q1 ad th of sl ct cl) : sw_H D M1 q0 σ (lw_F q1 ad) :=
  sw_H_kept h (fun x hx => hf x (fun w => hx (Or.inl w)) (fun j hj w => hx (Or.inr ⟨j, hj, w⟩))) (lw_some hm)
theorem tr_setOrder_sei {σ τ : sg_S} {x k r : Int32} (h : tr_setOrder σ x k r τ) (hs : sg_sei σ) : sg_sei τ := by
  rcases h with ⟨o, _, _, _, d⟩ | ⟨_, _, d⟩ <;> subst d <;> exact hs
theorem tr_setWeight_sei {σ τ : sg_S} {x y w r : Int32} (h : tr_setWeight σ x y w r τ) (hs : sg_sei σ) : sg_sei τ := by
  rcases h with ⟨o, g, _, _, _, _, d⟩ | ⟨_, _, d⟩ <;> subst d <;> exact hs
theorem tr_offer_sei {σ τ : sg_S} {x y z t r : Int32} (h : tr_offer σ x y z t r τ) (hs : sg_sei σ) : sg_sei τ := by
  rcases h with ⟨i, o, g, _, _, _, _, _, _, d⟩ | ⟨_, _, d⟩ <;> subst d <;> exact hs
theorem sg_ac_slot (σ : sg_S) : sg_ac (sg_slot σ) = sg_ac σ := by
  show sg_ac (sg_sends (sg_comes σ 8) 8) = _
  rw [sg_ac_sends, sg_ac_comes]
theorem lw_cmp {L k : Nat} (hL : L ≤ 2560) (hk : k ≤ 2560) : nI L - 5 < nI k ↔ L < k + 5 := by
  rw [Int32.lt_iff_toInt_lt, show (5 : Int32) = nI 5 from rfl, pk_sub_toInt (by omega) (by omega), nI_toInt (by omega)]
  omega
/-- going on behind a call of the script -/
def lw_K (p : Program) (l : Launch) (e : Env) (s : State) (m : MethodId) (below : List Frame) (meth : Method) (c : Code) (D : va_G) (B bs q0 q1 : Nat) (ad : Nat → Nat) (i : Nat) : Prop :=
  ∀ (M : hp_M) (H : Heap) (locs : List Loc) (ls : Array Slot) (σ : sg_S) (th of sl : Int32) (ct : Nat → Nat → Int32) (cl : Nat → Nat → Int64), sg_ac σ ≤ i + 1 → sw_H D M q0 σ (lw_F q1 ad) → md_H D M q1 ad th of sl ct cl → mo_R σ (fun _ => sg_sl σ - 1) of sl ct cl → sg_inv σ → sg_sei σ → hp_H D B M H → va_S (hp_ub B) s.heap H locs → lv_has ls 4 [(3, .int (nI (5 * i))), (0, .ref bs), (1, .ref q0), (2, .ref q1)] → W p l e room_1 s m #[Value.ref bs] below meth c H locs (53 + (i + 1)) (25008 + 8 * (i + 1)) (lw_Z below #[Value.ref bs] s) (F0 m 502 ls [])
/-- the reference is made beside a switch -/
theorem lw_new {D : va_G} {M M1 : hp_M} {a : Nat} {σ : sg_S} {F : Nat → Prop} (h : sw_H D M a σ (fun _ => False)) (hk : ∀ x, M x ≠ none → M1 x = M x) (hF : ∀ x, F x → M x = none ∧ M1 x ≠ none) : sw_H D M1 a σ F := by
  obtain ⟨aI, aO, fI, fO, oa, la, ip, op, sp, lp, LQ, ow, ⟨g1, g2, g3⟩, ⟨w1, w2, w3⟩, hi, hou, hf⟩ := h
  obtain ⟨ow', eo⟩ : ∃ z : Nat → Nat, z = fun x => if (M x).isNone = true then 99 else ow x := ⟨_, rfl⟩
  have ko : ∀ {x : Nat} {y : va_E}, M x = some y → ow' x = ow x ∧ M1 x = M x := fun {x y} hx => by
    refine ⟨?_, hk x (by rw [hx]; intro w; cases w)⟩
    rw [eo]
    show (if (M x).isNone = true then 99 else ow x) = ow x
    rw [hx]; rfl
  have kone : ∀ (w : Nat) (b : Option Nat) (c : Option sg_Ce), sw_one M ow w b c → sw_one M1 ow' w b c := fun w b c hb => by
    cases b with
    | none => exact (sw_one_no hb) ▸ trivial
    | some x =>
      obtain ⟨d, rfl, b1, b2⟩ := sw_one_yes hb
      obtain ⟨k1, k2⟩ := ko b1
      exact ⟨by rw [k2]; exact b1, by rw [k1]; exact b2⟩
  refine ⟨aI, aO, fI, fO, oa, la, ip, op, sp, lp, LQ, ow', ⟨by rw [(ko g1).2]; exact g1, by rw [(ko g2).2]; exact g2, by rw [(ko g3).2]; exact g3⟩, ⟨by rw [(ko g1).1]; exact w1, by rw [(ko g2).1]; exact w2, by rw [(ko g3).1]; exact w3⟩, fun j hj => ?_, fun x hx => ?_, fun x hx => ⟨?_, (hF x hx).2⟩⟩
  · obtain ⟨j1, j2, j3, j4⟩ := hi j hj
    exact ⟨j1, by rw [(ko j2).2]; exact j2, by rw [(ko j2).1]; exact j3, kone _ _ _ j4⟩
  · obtain ⟨q1, q2, q3, ⟨f, q4, q4'⟩, q5, ⟨f2, q6, q6'⟩, q7, ⟨q8, q9, q10⟩, q11⟩ := hou x hx
    have k8 : ∀ y ∈ LQ x, ow' y = ow y ∧ M1 y = M y := fun y hy => by
      obtain ⟨c, n, _, hc⟩ := sw_sg_mem q8 hy
      exact ko hc
    exact ⟨q1, by rw [(ko q2).2]; exact q2, by rw [(ko q2).1]; exact q3, ⟨f, by rw [(ko q4).2]; exact q4, q4'⟩, by rw [(ko q4).1]; exact q5, ⟨f2, by rw [(ko q6).2]; exact q6, q6'⟩, by rw [(ko q6).1]; exact q7, ⟨sw_sg_kept q8 (fun y hy => (k8 y hy).2), q9, fun y hy => by rw [(k8 y hy).1]; exact q10 y hy⟩, kone _ _ _ q11⟩
  · rw [eo]
    show (if (M x).isNone = true then 99 else ow x) = 99
    rw [(hF x hx).1]; rfl
theorem hp_0 {D : va_G} {B : Nat} {M : hp_M} {H : Heap} (hM : M = fun _ => none) (h : B ≤ H.size) : hp_H D B M H := by
  subst hM
  refine ⟨h, [], fun k q h => by simp at h, ⟨fun i j p q h => by simp at h, fun k q h => by simp at h⟩, fun a e => ⟨fun h => (by cases h), fun h => ?_⟩⟩
  obtain ⟨k, h⟩ := h
  simp at h
end
section
theorem kw_202 : Cond.methodLink R_law 13 y_Sw_setOrder ∈ wd_T := wd_in (List.mem_of_getElem? (i := 101) (by decide +kernel)) rfl
theorem kw_203 : Cond.code y_Sw_setOrder b_Sw_setOrder 3 (some .boolean) ∈ wd_T := wd_in (List.mem_of_getElem? (i := 104) (by decide +kernel)) rfl
theorem kw_204 : Cond.instanceMethod y_Sw_setOrder ∈ wd_T := wd_in (List.mem_of_getElem? (i := 102) (by decide +kernel)) rfl
theorem kw_205 : Cond.selects R_Sw y_Sw_setOrder y_Sw_setOrder ∈ wd_T := wd_in (List.mem_of_getElem? (i := 103) (by decide +kernel)) rfl
theorem kw_206 : Cond.methodLink R_law 17 y_Md_setOrder ∈ wd_T := wd_in (List.mem_of_getElem? (i := 338) (by decide +kernel)) rfl
theorem kw_207 : Cond.code y_Md_setOrder b_Md_setOrder 3 (some .boolean) ∈ wd_T := wd_in (List.mem_of_getElem? (i := 341) (by decide +kernel)) rfl
theorem kw_208 : Cond.instanceMethod y_Md_setOrder ∈ wd_T := wd_in (List.mem_of_getElem? (i := 339) (by decide +kernel)) rfl
theorem kw_209 : Cond.selects R_Md y_Md_setOrder y_Md_setOrder ∈ wd_T := wd_in (List.mem_of_getElem? (i := 340) (by decide +kernel)) rfl
theorem kw_210 : Cond.methodLink R_law 18 y_Sw_setWeight ∈ wd_T := wd_in (List.mem_of_getElem? (i := 112) (by decide +kernel)) rfl
theorem kw_211 : Cond.code y_Sw_setWeight b_Sw_setWeight 4 (some .boolean) ∈ wd_T := wd_in (List.mem_of_getElem? (i := 115) (by decide +kernel)) rfl
theorem kw_212 : Cond.instanceMethod y_Sw_setWeight ∈ wd_T := wd_in (List.mem_of_getElem? (i := 113) (by decide +kernel)) rfl
theorem kw_213 : Cond.selects R_Sw y_Sw_setWeight y_Sw_setWeight ∈ wd_T := wd_in (List.mem_of_getElem? (i := 114) (by decide +kernel)) rfl
theorem kw_214 : Cond.methodLink R_law 22 y_Md_setWeight ∈ wd_T := wd_in (List.mem_of_getElem? (i := 349) (by decide +kernel)) rfl
theorem kw_215 : Cond.code y_Md_setWeight b_Md_setWeight 4 (some .boolean) ∈ wd_T := wd_in (List.mem_of_getElem? (i := 352) (by decide +kernel)) rfl
theorem kw_216 : Cond.instanceMethod y_Md_setWeight ∈ wd_T := wd_in (List.mem_of_getElem? (i := 350) (by decide +kernel)) rfl
theorem kw_217 : Cond.selects R_Md y_Md_setWeight y_Md_setWeight ∈ wd_T := wd_in (List.mem_of_getElem? (i := 351) (by decide +kernel)) rfl
theorem kw_218 : Cond.methodLink R_law 23 y_Sw_offer ∈ wd_T := wd_in (List.mem_of_getElem? (i := 120) (by decide +kernel)) rfl
theorem kw_219 : Cond.code y_Sw_offer b_Sw_offer 6 (some .boolean) ∈ wd_T := wd_in (List.mem_of_getElem? (i := 123) (by decide +kernel)) rfl
theorem kw_220 : Cond.instanceMethod y_Sw_offer ∈ wd_T := wd_in (List.mem_of_getElem? (i := 121) (by decide +kernel)) rfl
theorem kw_221 : Cond.selects R_Sw y_Sw_offer y_Sw_offer ∈ wd_T := wd_in (List.mem_of_getElem? (i := 122) (by decide +kernel)) rfl
theorem kw_222 : Cond.methodLink R_law 27 y_Md_offer ∈ wd_T := wd_in (List.mem_of_getElem? (i := 353) (by decide +kernel)) rfl
theorem kw_223 : Cond.code y_Md_offer b_Md_offer 5 (some .boolean) ∈ wd_T := wd_in (List.mem_of_getElem? (i := 356) (by decide +kernel)) rfl
theorem kw_224 : Cond.instanceMethod y_Md_offer ∈ wd_T := wd_in (List.mem_of_getElem? (i := 354) (by decide +kernel)) rfl
theorem kw_225 : Cond.selects R_Md y_Md_offer y_Md_offer ∈ wd_T := wd_in (List.mem_of_getElem? (i := 355) (by decide +kernel)) rfl
theorem kw_226 : Cond.methodLink R_law 28 y_Sw_slot ∈ wd_T := wd_in (List.mem_of_getElem? (i := 163) (by decide +kernel)) rfl
theorem kw_227 : Cond.code y_Sw_slot b_Sw_slot 2 (some .int) ∈ wd_T := wd_in (List.mem_of_getElem? (i := 166) (by decide +kernel)) rfl
theorem kw_228 : Cond.instanceMethod y_Sw_slot ∈ wd_T := wd_in (List.mem_of_getElem? (i := 164) (by decide +kernel)) rfl
theorem kw_229 : Cond.selects R_Sw y_Sw_slot y_Sw_slot ∈ wd_T := wd_in (List.mem_of_getElem? (i := 165) (by decide +kernel)) rfl
theorem kw_230 : Cond.methodLink R_law 32 y_Md_slot ∈ wd_T := wd_in (List.mem_of_getElem? (i := 361) (by decide +kernel)) rfl
theorem kw_231 : Cond.code y_Md_slot b_Md_slot 3 (some .int) ∈ wd_T := wd_in (List.mem_of_getElem? (i := 364) (by decide +kernel)) rfl
theorem kw_232 : Cond.instanceMethod y_Md_slot ∈ wd_T := wd_in (List.mem_of_getElem? (i := 362) (by decide +kernel)) rfl
theorem kw_233 : Cond.selects R_Md y_Md_slot y_Md_slot ∈ wd_T := wd_in (List.mem_of_getElem? (i := 363) (by decide +kernel)) rfl
theorem kw_234 : Cond.methodLink R_law 33 y_Sw_slots ∈ wd_T := wd_in (List.mem_of_getElem? (i := 206) (by decide +kernel)) rfl
theorem kw_235 : Cond.code y_Sw_slots b_Sw_slots 1 (some .int) ∈ wd_T := wd_in (List.mem_of_getElem? (i := 209) (by decide +kernel)) rfl
theorem kw_236 : Cond.instanceMethod y_Sw_slots ∈ wd_T := wd_in (List.mem_of_getElem? (i := 207) (by decide +kernel)) rfl
theorem kw_237 : Cond.selects R_Sw y_Sw_slots y_Sw_slots ∈ wd_T := wd_in (List.mem_of_getElem? (i := 208) (by decide +kernel)) rfl
theorem kw_238 : Cond.methodLink R_law 36 y_Md_slots ∈ wd_T := wd_in (List.mem_of_getElem? (i := 387) (by decide +kernel)) rfl
theorem kw_239 : Cond.code y_Md_slots b_Md_slots 1 (some .int) ∈ wd_T := wd_in (List.mem_of_getElem? (i := 390) (by decide +kernel)) rfl
theorem kw_240 : Cond.instanceMethod y_Md_slots ∈ wd_T := wd_in (List.mem_of_getElem? (i := 388) (by decide +kernel)) rfl
theorem kw_241 : Cond.selects R_Md y_Md_slots y_Md_slots ∈ wd_T := wd_in (List.mem_of_getElem? (i := 389) (by decide +kernel)) rfl
theorem kw_242 : Cond.methodLink R_law 37 y_Sw_hasSent ∈ wd_T := wd_in (List.mem_of_getElem? (i := 210) (by decide +kernel)) rfl
theorem kw_243 : Cond.code y_Sw_hasSent b_Sw_hasSent 2 (some .boolean) ∈ wd_T := wd_in (List.mem_of_getElem? (i := 213) (by decide +kernel)) rfl
theorem kw_244 : Cond.instanceMethod y_Sw_hasSent ∈ wd_T := wd_in (List.mem_of_getElem? (i := 211) (by decide +kernel)) rfl
theorem kw_245 : Cond.selects R_Sw y_Sw_hasSent y_Sw_hasSent ∈ wd_T := wd_in (List.mem_of_getElem? (i := 212) (by decide +kernel)) rfl
theorem kw_246 : Cond.methodLink R_law 41 y_Md_hasSent ∈ wd_T := wd_in (List.mem_of_getElem? (i := 391) (by decide +kernel)) rfl
theorem kw_247 : Cond.code y_Md_hasSent b_Md_hasSent 2 (some .boolean) ∈ wd_T := wd_in (List.mem_of_getElem? (i := 394) (by decide +kernel)) rfl
theorem kw_248 : Cond.instanceMethod y_Md_hasSent ∈ wd_T := wd_in (List.mem_of_getElem? (i := 392) (by decide +kernel)) rfl
theorem kw_249 : Cond.selects R_Md y_Md_hasSent y_Md_hasSent ∈ wd_T := wd_in (List.mem_of_getElem? (i := 393) (by decide +kernel)) rfl
theorem kw_250 : Cond.methodLink R_law 42 y_Sw_sent ∈ wd_T := wd_in (List.mem_of_getElem? (i := 218) (by decide +kernel)) rfl
theorem kw_251 : Cond.code y_Sw_sent b_Sw_sent 3 (some .int) ∈ wd_T := wd_in (List.mem_of_getElem? (i := 221) (by decide +kernel)) rfl
theorem kw_252 : Cond.instanceMethod y_Sw_sent ∈ wd_T := wd_in (List.mem_of_getElem? (i := 219) (by decide +kernel)) rfl
theorem kw_253 : Cond.selects R_Sw y_Sw_sent y_Sw_sent ∈ wd_T := wd_in (List.mem_of_getElem? (i := 220) (by decide +kernel)) rfl
theorem kw_254 : Cond.methodLink R_law 46 y_Md_sent ∈ wd_T := wd_in (List.mem_of_getElem? (i := 399) (by decide +kernel)) rfl
theorem kw_255 : Cond.code y_Md_sent b_Md_sent 2 (some .int) ∈ wd_T := wd_in (List.mem_of_getElem? (i := 402) (by decide +kernel)) rfl
theorem kw_256 : Cond.instanceMethod y_Md_sent ∈ wd_T := wd_in (List.mem_of_getElem? (i := 400) (by decide +kernel)) rfl
theorem kw_257 : Cond.selects R_Md y_Md_sent y_Md_sent ∈ wd_T := wd_in (List.mem_of_getElem? (i := 401) (by decide +kernel)) rfl
theorem kw_258 : Cond.methodLink R_law 47 y_Sw_sentFrom ∈ wd_T := wd_in (List.mem_of_getElem? (i := 222) (by decide +kernel)) rfl
theorem kw_259 : Cond.code y_Sw_sentFrom b_Sw_sentFrom 3 (some .int) ∈ wd_T := wd_in (List.mem_of_getElem? (i := 225) (by decide +kernel)) rfl
theorem kw_260 : Cond.instanceMethod y_Sw_sentFrom ∈ wd_T := wd_in (List.mem_of_getElem? (i := 223) (by decide +kernel)) rfl
theorem kw_261 : Cond.selects R_Sw y_Sw_sentFrom y_Sw_sentFrom ∈ wd_T := wd_in (List.mem_of_getElem? (i := 224) (by decide +kernel)) rfl
theorem kw_262 : Cond.methodLink R_law 50 y_Md_sentFrom ∈ wd_T := wd_in (List.mem_of_getElem? (i := 403) (by decide +kernel)) rfl
theorem kw_263 : Cond.code y_Md_sentFrom b_Md_sentFrom 2 (some .int) ∈ wd_T := wd_in (List.mem_of_getElem? (i := 406) (by decide +kernel)) rfl
theorem kw_264 : Cond.instanceMethod y_Md_sentFrom ∈ wd_T := wd_in (List.mem_of_getElem? (i := 404) (by decide +kernel)) rfl
theorem kw_265 : Cond.selects R_Md y_Md_sentFrom y_Md_sentFrom ∈ wd_T := wd_in (List.mem_of_getElem? (i := 405) (by decide +kernel)) rfl
theorem kw_266 : Cond.methodLink R_law 51 y_Sw_waited ∈ wd_T := wd_in (List.mem_of_getElem? (i := 226) (by decide +kernel)) rfl
theorem kw_267 : Cond.code y_Sw_waited b_Sw_waited 3 (some .int) ∈ wd_T := wd_in (List.mem_of_getElem? (i := 229) (by decide +kernel)) rfl
theorem kw_268 : Cond.instanceMethod y_Sw_waited ∈ wd_T := wd_in (List.mem_of_getElem? (i := 227) (by decide +kernel)) rfl
theorem kw_269 : Cond.selects R_Sw y_Sw_waited y_Sw_waited ∈ wd_T := wd_in (List.mem_of_getElem? (i := 228) (by decide +kernel)) rfl
theorem kw_270 : Cond.methodLink R_law 54 y_Md_waited ∈ wd_T := wd_in (List.mem_of_getElem? (i := 407) (by decide +kernel)) rfl
theorem kw_271 : Cond.code y_Md_waited b_Md_waited 2 (some .int) ∈ wd_T := wd_in (List.mem_of_getElem? (i := 410) (by decide +kernel)) rfl
theorem kw_272 : Cond.instanceMethod y_Md_waited ∈ wd_T := wd_in (List.mem_of_getElem? (i := 408) (by decide +kernel)) rfl
theorem kw_273 : Cond.selects R_Md y_Md_waited y_Md_waited ∈ wd_T := wd_in (List.mem_of_getElem? (i := 409) (by decide +kernel)) rfl
theorem kw_274 : Cond.methodLink R_law 55 y_Sw_inside ∈ wd_T := wd_in (List.mem_of_getElem? (i := 230) (by decide +kernel)) rfl
theorem kw_275 : Cond.code y_Sw_inside b_Sw_inside 2 (some .int) ∈ wd_T := wd_in (List.mem_of_getElem? (i := 233) (by decide +kernel)) rfl
theorem kw_276 : Cond.instanceMethod y_Sw_inside ∈ wd_T := wd_in (List.mem_of_getElem? (i := 231) (by decide +kernel)) rfl
theorem kw_277 : Cond.selects R_Sw y_Sw_inside y_Sw_inside ∈ wd_T := wd_in (List.mem_of_getElem? (i := 232) (by decide +kernel)) rfl
theorem kw_278 : Cond.methodLink R_law 58 y_Md_inside ∈ wd_T := wd_in (List.mem_of_getElem? (i := 411) (by decide +kernel)) rfl
theorem kw_279 : Cond.code y_Md_inside b_Md_inside 2 (some .int) ∈ wd_T := wd_in (List.mem_of_getElem? (i := 414) (by decide +kernel)) rfl
theorem kw_280 : Cond.instanceMethod y_Md_inside ∈ wd_T := wd_in (List.mem_of_getElem? (i := 412) (by decide +kernel)) rfl
theorem kw_281 : Cond.selects R_Md y_Md_inside y_Md_inside ∈ wd_T := wd_in (List.mem_of_getElem? (i := 413) (by decide +kernel)) rfl
theorem kw_282 : Cond.methodLink R_law 59 y_Sw_waiting ∈ wd_T := wd_in (List.mem_of_getElem? (i := 234) (by decide +kernel)) rfl
theorem kw_283 : Cond.code y_Sw_waiting b_Sw_waiting 2 (some .int) ∈ wd_T := wd_in (List.mem_of_getElem? (i := 237) (by decide +kernel)) rfl
theorem kw_284 : Cond.instanceMethod y_Sw_waiting ∈ wd_T := wd_in (List.mem_of_getElem? (i := 235) (by decide +kernel)) rfl
theorem kw_285 : Cond.selects R_Sw y_Sw_waiting y_Sw_waiting ∈ wd_T := wd_in (List.mem_of_getElem? (i := 236) (by decide +kernel)) rfl
theorem kw_286 : Cond.methodLink R_law 62 y_Md_waiting ∈ wd_T := wd_in (List.mem_of_getElem? (i := 415) (by decide +kernel)) rfl
theorem kw_287 : Cond.code y_Md_waiting b_Md_waiting 2 (some .int) ∈ wd_T := wd_in (List.mem_of_getElem? (i := 418) (by decide +kernel)) rfl
theorem kw_288 : Cond.instanceMethod y_Md_waiting ∈ wd_T := wd_in (List.mem_of_getElem? (i := 416) (by decide +kernel)) rfl
theorem kw_289 : Cond.selects R_Md y_Md_waiting y_Md_waiting ∈ wd_T := wd_in (List.mem_of_getElem? (i := 417) (by decide +kernel)) rfl
theorem kw_290 : Cond.methodLink R_law 63 y_Sw_first ∈ wd_T := wd_in (List.mem_of_getElem? (i := 238) (by decide +kernel)) rfl
theorem kw_291 : Cond.code y_Sw_first b_Sw_first 4 (some .int) ∈ wd_T := wd_in (List.mem_of_getElem? (i := 241) (by decide +kernel)) rfl
theorem kw_292 : Cond.instanceMethod y_Sw_first ∈ wd_T := wd_in (List.mem_of_getElem? (i := 239) (by decide +kernel)) rfl
theorem kw_293 : Cond.selects R_Sw y_Sw_first y_Sw_first ∈ wd_T := wd_in (List.mem_of_getElem? (i := 240) (by decide +kernel)) rfl
theorem kw_294 : Cond.methodLink R_law 67 y_Md_first ∈ wd_T := wd_in (List.mem_of_getElem? (i := 419) (by decide +kernel)) rfl
theorem kw_295 : Cond.code y_Md_first b_Md_first 3 (some .int) ∈ wd_T := wd_in (List.mem_of_getElem? (i := 422) (by decide +kernel)) rfl
theorem kw_296 : Cond.instanceMethod y_Md_first ∈ wd_T := wd_in (List.mem_of_getElem? (i := 420) (by decide +kernel)) rfl
theorem kw_297 : Cond.selects R_Md y_Md_first y_Md_first ∈ wd_T := wd_in (List.mem_of_getElem? (i := 421) (by decide +kernel)) rfl
theorem kw_298 : Cond.methodLink R_law 68 y_Sw_time ∈ wd_T := wd_in (List.mem_of_getElem? (i := 246) (by decide +kernel)) rfl
theorem kw_299 : Cond.code y_Sw_time b_Sw_time 4 (some .long) ∈ wd_T := wd_in (List.mem_of_getElem? (i := 249) (by decide +kernel)) rfl
theorem kw_300 : Cond.instanceMethod y_Sw_time ∈ wd_T := wd_in (List.mem_of_getElem? (i := 247) (by decide +kernel)) rfl
theorem kw_301 : Cond.selects R_Sw y_Sw_time y_Sw_time ∈ wd_T := wd_in (List.mem_of_getElem? (i := 248) (by decide +kernel)) rfl
theorem kw_302 : Cond.methodLink R_law 72 y_Md_time ∈ wd_T := wd_in (List.mem_of_getElem? (i := 427) (by decide +kernel)) rfl
theorem kw_303 : Cond.code y_Md_time b_Md_time 3 (some .long) ∈ wd_T := wd_in (List.mem_of_getElem? (i := 430) (by decide +kernel)) rfl
theorem kw_304 : Cond.instanceMethod y_Md_time ∈ wd_T := wd_in (List.mem_of_getElem? (i := 428) (by decide +kernel)) rfl
theorem kw_305 : Cond.selects R_Md y_Md_time y_Md_time ∈ wd_T := wd_in (List.mem_of_getElem? (i := 429) (by decide +kernel)) rfl
theorem kw_306 : Cond.methodLink R_law 73 y_Sw_leaves ∈ wd_T := wd_in (List.mem_of_getElem? (i := 251) (by decide +kernel)) rfl
theorem kw_307 : Cond.code y_Sw_leaves b_Sw_leaves 7 (some .int) ∈ wd_T := wd_in (List.mem_of_getElem? (i := 254) (by decide +kernel)) rfl
theorem kw_308 : Cond.instanceMethod y_Sw_leaves ∈ wd_T := wd_in (List.mem_of_getElem? (i := 252) (by decide +kernel)) rfl
theorem kw_309 : Cond.selects R_Sw y_Sw_leaves y_Sw_leaves ∈ wd_T := wd_in (List.mem_of_getElem? (i := 253) (by decide +kernel)) rfl
theorem kw_310 : Cond.methodLink R_law 76 y_Md_leaves ∈ wd_T := wd_in (List.mem_of_getElem? (i := 432) (by decide +kernel)) rfl
theorem kw_311 : Cond.code y_Md_leaves b_Md_leaves 7 (some .int) ∈ wd_T := wd_in (List.mem_of_getElem? (i := 435) (by decide +kernel)) rfl
theorem kw_312 : Cond.instanceMethod y_Md_leaves ∈ wd_T := wd_in (List.mem_of_getElem? (i := 433) (by decide +kernel)) rfl
theorem kw_313 : Cond.selects R_Md y_Md_leaves y_Md_leaves ∈ wd_T := wd_in (List.mem_of_getElem? (i := 434) (by decide +kernel)) rfl
theorem kw_314 : Cond.methodLink R_law 77 y_Sw_reset ∈ wd_T := wd_in (List.mem_of_getElem? (i := 255) (by decide +kernel)) rfl
theorem kw_315 : Cond.code y_Sw_reset b_Sw_reset 2 none ∈ wd_T := wd_in (List.mem_of_getElem? (i := 258) (by decide +kernel)) rfl
theorem kw_316 : Cond.instanceMethod y_Sw_reset ∈ wd_T := wd_in (List.mem_of_getElem? (i := 256) (by decide +kernel)) rfl
theorem kw_317 : Cond.selects R_Sw y_Sw_reset y_Sw_reset ∈ wd_T := wd_in (List.mem_of_getElem? (i := 257) (by decide +kernel)) rfl
theorem kw_318 : Cond.methodLink R_law 80 y_Md_reset ∈ wd_T := wd_in (List.mem_of_getElem? (i := 436) (by decide +kernel)) rfl
theorem kw_319 : Cond.code y_Md_reset b_Md_reset 1 none ∈ wd_T := wd_in (List.mem_of_getElem? (i := 439) (by decide +kernel)) rfl
theorem kw_320 : Cond.instanceMethod y_Md_reset ∈ wd_T := wd_in (List.mem_of_getElem? (i := 437) (by decide +kernel)) rfl
theorem kw_321 : Cond.selects R_Md y_Md_reset y_Md_reset ∈ wd_T := wd_in (List.mem_of_getElem? (i := 438) (by decide +kernel)) rfl
theorem d_law_0 : decode code 0 = .ok (.new 7, 3) := by decide +kernel
theorem d_law_3 : decode code 3 = .ok (.dup, 1) := by decide +kernel
theorem d_law_4 : decode code 4 = .ok (.invokespecial 9, 3) := by decide +kernel
theorem d_law_7 : decode code 7 = .ok (.astore_n 1, 1) := by decide +kernel
theorem d_law_8 : decode code 8 = .ok (.new 10, 3) := by decide +kernel
theorem d_law_11 : decode code 11 = .ok (.dup, 1) := by decide +kernel
theorem d_law_12 : decode code 12 = .ok (.invokespecial 12, 3) := by decide +kernel
theorem d_law_15 : decode code 15 = .ok (.astore_n 2, 1) := by decide +kernel
theorem d_law_16 : decode code 16 = .ok (.iconst 0, 1) := by decide +kernel
theorem d_law_17 : decode code 17 = .ok (.istore_n 3, 1) := by decide +kernel
theorem d_law_18 : decode code 18 = .ok (.iload_n 3, 1) := by decide +kernel
theorem d_law_19 : decode code 19 = .ok (.aload_n 0, 1) := by decide +kernel
theorem d_law_20 : decode code 20 = .ok (.arraylength, 1) := by decide +kernel
theorem d_law_21 : decode code 21 = .ok (.iconst 5, 1) := by decide +kernel
theorem d_law_22 : decode code 22 = .ok (.isub, 1) := by decide +kernel
theorem d_law_23 : decode code 23 = .ok (.if_icmp .gt 485, 3) := by decide +kernel
theorem d_law_26 : decode code 26 = .ok (.aload_n 0, 1) := by decide +kernel
theorem d_law_27 : decode code 27 = .ok (.iload_n 3, 1) := by decide +kernel
theorem d_law_28 : decode code 28 = .ok (.iaload, 1) := by decide +kernel
theorem d_law_29 : decode code 29 = .ok (.bipush 15, 2) := by decide +kernel
theorem d_law_31 : decode code 31 = .ok (.iand, 1) := by decide +kernel
theorem d_law_32 : decode code 32 = .ok (.tableswitch 470 0 14 #[76, 109, 152, 205, 218, 231, 254, 277, 300, 323, 346, 369, 402, 436, 459], 76) := by decide +kernel
theorem d_law_108 : decode code 108 = .ok (.aload_n 1, 1) := by decide +kernel
theorem d_law_109 : decode code 109 = .ok (.aload_n 0, 1) := by decide +kernel
theorem d_law_110 : decode code 110 = .ok (.iload_n 3, 1) := by decide +kernel
theorem d_law_111 : decode code 111 = .ok (.iconst 1, 1) := by decide +kernel
theorem d_law_112 : decode code 112 = .ok (.iadd, 1) := by decide +kernel
theorem d_law_113 : decode code 113 = .ok (.iaload, 1) := by decide +kernel
theorem d_law_114 : decode code 114 = .ok (.aload_n 0, 1) := by decide +kernel
theorem d_law_115 : decode code 115 = .ok (.iload_n 3, 1) := by decide +kernel
theorem d_law_116 : decode code 116 = .ok (.iconst 2, 1) := by decide +kernel
theorem d_law_117 : decode code 117 = .ok (.iadd, 1) := by decide +kernel
theorem d_law_118 : decode code 118 = .ok (.iaload, 1) := by decide +kernel
theorem d_law_119 : decode code 119 = .ok (.invokevirtual 13, 3) := by decide +kernel
theorem d_law_122 : decode code 122 = .ok (.aload_n 2, 1) := by decide +kernel
theorem d_law_123 : decode code 123 = .ok (.aload_n 0, 1) := by decide +kernel
theorem d_law_124 : decode code 124 = .ok (.iload_n 3, 1) := by decide +kernel
theorem d_law_125 : decode code 125 = .ok (.iconst 1, 1) := by decide +kernel
theorem d_law_126 : decode code 126 = .ok (.iadd, 1) := by decide +kernel
theorem d_law_127 : decode code 127 = .ok (.iaload, 1) := by decide +kernel
theorem d_law_128 : decode code 128 = .ok (.aload_n 0, 1) := by decide +kernel
theorem d_law_129 : decode code 129 = .ok (.iload_n 3, 1) := by decide +kernel
theorem d_law_130 : decode code 130 = .ok (.iconst 2, 1) := by decide +kernel
theorem d_law_131 : decode code 131 = .ok (.iadd, 1) := by decide +kernel
theorem d_law_132 : decode code 132 = .ok (.iaload, 1) := by decide +kernel
theorem d_law_133 : decode code 133 = .ok (.invokevirtual 17, 3) := by decide +kernel
theorem d_law_136 : decode code 136 = .ok (.if_icmp .eq 366, 3) := by decide +kernel
theorem d_law_139 : decode code 139 = .ok (.iconst 0, 1) := by decide +kernel
theorem d_law_140 : decode code 140 = .ok (.ireturn, 1) := by decide +kernel
theorem d_law_141 : decode code 141 = .ok (.aload_n 1, 1) := by decide +kernel
theorem d_law_142 : decode code 142 = .ok (.aload_n 0, 1) := by decide +kernel
theorem d_law_143 : decode code 143 = .ok (.iload_n 3, 1) := by decide +kernel
theorem d_law_144 : decode code 144 = .ok (.iconst 1, 1) := by decide +kernel
theorem d_law_145 : decode code 145 = .ok (.iadd, 1) := by decide +kernel
theorem d_law_146 : decode code 146 = .ok (.iaload, 1) := by decide +kernel
theorem d_law_147 : decode code 147 = .ok (.aload_n 0, 1) := by decide +kernel
theorem d_law_148 : decode code 148 = .ok (.iload_n 3, 1) := by decide +kernel
theorem d_law_149 : decode code 149 = .ok (.iconst 2, 1) := by decide +kernel
theorem d_law_150 : decode code 150 = .ok (.iadd, 1) := by decide +kernel
theorem d_law_151 : decode code 151 = .ok (.iaload, 1) := by decide +kernel
theorem d_law_152 : decode code 152 = .ok (.aload_n 0, 1) := by decide +kernel
theorem d_law_153 : decode code 153 = .ok (.iload_n 3, 1) := by decide +kernel
theorem d_law_154 : decode code 154 = .ok (.iconst 3, 1) := by decide +kernel
theorem d_law_155 : decode code 155 = .ok (.iadd, 1) := by decide +kernel
theorem d_law_156 : decode code 156 = .ok (.iaload, 1) := by decide +kernel
theorem d_law_157 : decode code 157 = .ok (.invokevirtual 18, 3) := by decide +kernel
theorem d_law_160 : decode code 160 = .ok (.aload_n 2, 1) := by decide +kernel
theorem d_law_161 : decode code 161 = .ok (.aload_n 0, 1) := by decide +kernel
theorem d_law_162 : decode code 162 = .ok (.iload_n 3, 1) := by decide +kernel
theorem d_law_163 : decode code 163 = .ok (.iconst 1, 1) := by decide +kernel
theorem d_law_164 : decode code 164 = .ok (.iadd, 1) := by decide +kernel
theorem d_law_165 : decode code 165 = .ok (.iaload, 1) := by decide +kernel
theorem d_law_166 : decode code 166 = .ok (.aload_n 0, 1) := by decide +kernel
theorem d_law_167 : decode code 167 = .ok (.iload_n 3, 1) := by decide +kernel
theorem d_law_168 : decode code 168 = .ok (.iconst 2, 1) := by decide +kernel
theorem d_law_169 : decode code 169 = .ok (.iadd, 1) := by decide +kernel
theorem d_law_170 : decode code 170 = .ok (.iaload, 1) := by decide +kernel
theorem d_law_171 : decode code 171 = .ok (.aload_n 0, 1) := by decide +kernel
theorem d_law_172 : decode code 172 = .ok (.iload_n 3, 1) := by decide +kernel
theorem d_law_173 : decode code 173 = .ok (.iconst 3, 1) := by decide +kernel
theorem d_law_174 : decode code 174 = .ok (.iadd, 1) := by decide +kernel
theorem d_law_175 : decode code 175 = .ok (.iaload, 1) := by decide +kernel
theorem d_law_176 : decode code 176 = .ok (.invokevirtual 22, 3) := by decide +kernel
theorem d_law_179 : decode code 179 = .ok (.if_icmp .eq 323, 3) := by decide +kernel
theorem d_law_182 : decode code 182 = .ok (.iconst 0, 1) := by decide +kernel
theorem d_law_183 : decode code 183 = .ok (.ireturn, 1) := by decide +kernel
theorem d_law_184 : decode code 184 = .ok (.aload_n 1, 1) := by decide +kernel
theorem d_law_185 : decode code 185 = .ok (.aload_n 0, 1) := by decide +kernel
theorem d_law_186 : decode code 186 = .ok (.iload_n 3, 1) := by decide +kernel
theorem d_law_187 : decode code 187 = .ok (.iconst 1, 1) := by decide +kernel
theorem d_law_188 : decode code 188 = .ok (.iadd, 1) := by decide +kernel
theorem d_law_189 : decode code 189 = .ok (.iaload, 1) := by decide +kernel
theorem d_law_190 : decode code 190 = .ok (.aload_n 0, 1) := by decide +kernel
theorem d_law_191 : decode code 191 = .ok (.iload_n 3, 1) := by decide +kernel
theorem d_law_192 : decode code 192 = .ok (.iconst 2, 1) := by decide +kernel
theorem d_law_193 : decode code 193 = .ok (.iadd, 1) := by decide +kernel
theorem d_law_194 : decode code 194 = .ok (.iaload, 1) := by decide +kernel
theorem d_law_195 : decode code 195 = .ok (.aload_n 0, 1) := by decide +kernel
theorem d_law_196 : decode code 196 = .ok (.iload_n 3, 1) := by decide +kernel
theorem d_law_197 : decode code 197 = .ok (.iconst 3, 1) := by decide +kernel
theorem d_law_198 : decode code 198 = .ok (.iadd, 1) := by decide +kernel
theorem d_law_199 : decode code 199 = .ok (.iaload, 1) := by decide +kernel
theorem d_law_200 : decode code 200 = .ok (.aload_n 0, 1) := by decide +kernel
theorem d_law_201 : decode code 201 = .ok (.iload_n 3, 1) := by decide +kernel
theorem d_law_202 : decode code 202 = .ok (.iconst 4, 1) := by decide +kernel
theorem d_law_203 : decode code 203 = .ok (.iadd, 1) := by decide +kernel
theorem d_law_204 : decode code 204 = .ok (.iaload, 1) := by decide +kernel
theorem d_law_205 : decode code 205 = .ok (.invokevirtual 23, 3) := by decide +kernel
theorem d_law_208 : decode code 208 = .ok (.aload_n 2, 1) := by decide +kernel
theorem d_law_209 : decode code 209 = .ok (.aload_n 0, 1) := by decide +kernel
theorem d_law_210 : decode code 210 = .ok (.iload_n 3, 1) := by decide +kernel
theorem d_law_211 : decode code 211 = .ok (.iconst 1, 1) := by decide +kernel
theorem d_law_212 : decode code 212 = .ok (.iadd, 1) := by decide +kernel
theorem d_law_213 : decode code 213 = .ok (.iaload, 1) := by decide +kernel
theorem d_law_214 : decode code 214 = .ok (.aload_n 0, 1) := by decide +kernel
theorem d_law_215 : decode code 215 = .ok (.iload_n 3, 1) := by decide +kernel
theorem d_law_216 : decode code 216 = .ok (.iconst 2, 1) := by decide +kernel
theorem d_law_217 : decode code 217 = .ok (.iadd, 1) := by decide +kernel
theorem d_law_218 : decode code 218 = .ok (.iaload, 1) := by decide +kernel
theorem d_law_219 : decode code 219 = .ok (.aload_n 0, 1) := by decide +kernel
theorem d_law_220 : decode code 220 = .ok (.iload_n 3, 1) := by decide +kernel
theorem d_law_221 : decode code 221 = .ok (.iconst 3, 1) := by decide +kernel
theorem d_law_222 : decode code 222 = .ok (.iadd, 1) := by decide +kernel
theorem d_law_223 : decode code 223 = .ok (.iaload, 1) := by decide +kernel
theorem d_law_224 : decode code 224 = .ok (.aload_n 0, 1) := by decide +kernel
theorem d_law_225 : decode code 225 = .ok (.iload_n 3, 1) := by decide +kernel
theorem d_law_226 : decode code 226 = .ok (.iconst 4, 1) := by decide +kernel
theorem d_law_227 : decode code 227 = .ok (.iadd, 1) := by decide +kernel
theorem d_law_228 : decode code 228 = .ok (.iaload, 1) := by decide +kernel
theorem d_law_229 : decode code 229 = .ok (.invokevirtual 27, 3) := by decide +kernel
theorem d_law_232 : decode code 232 = .ok (.if_icmp .eq 270, 3) := by decide +kernel
theorem d_law_235 : decode code 235 = .ok (.iconst 0, 1) := by decide +kernel
theorem d_law_236 : decode code 236 = .ok (.ireturn, 1) := by decide +kernel
theorem d_law_237 : decode code 237 = .ok (.aload_n 1, 1) := by decide +kernel
theorem d_law_238 : decode code 238 = .ok (.invokevirtual 28, 3) := by decide +kernel
theorem d_law_241 : decode code 241 = .ok (.aload_n 2, 1) := by decide +kernel
theorem d_law_242 : decode code 242 = .ok (.invokevirtual 32, 3) := by decide +kernel
theorem d_law_245 : decode code 245 = .ok (.if_icmp .eq 257, 3) := by decide +kernel
theorem d_law_248 : decode code 248 = .ok (.iconst 0, 1) := by decide +kernel
theorem d_law_249 : decode code 249 = .ok (.ireturn, 1) := by decide +kernel
theorem d_law_250 : decode code 250 = .ok (.aload_n 1, 1) := by decide +kernel
theorem d_law_251 : decode code 251 = .ok (.invokevirtual 33, 3) := by decide +kernel
theorem d_law_254 : decode code 254 = .ok (.aload_n 2, 1) := by decide +kernel
theorem d_law_255 : decode code 255 = .ok (.invokevirtual 36, 3) := by decide +kernel
theorem d_law_258 : decode code 258 = .ok (.if_icmp .eq 244, 3) := by decide +kernel
theorem d_law_261 : decode code 261 = .ok (.iconst 0, 1) := by decide +kernel
theorem d_law_262 : decode code 262 = .ok (.ireturn, 1) := by decide +kernel
theorem d_law_263 : decode code 263 = .ok (.aload_n 1, 1) := by decide +kernel
theorem d_law_264 : decode code 264 = .ok (.aload_n 0, 1) := by decide +kernel
theorem d_law_265 : decode code 265 = .ok (.iload_n 3, 1) := by decide +kernel
theorem d_law_266 : decode code 266 = .ok (.iconst 1, 1) := by decide +kernel
theorem d_law_267 : decode code 267 = .ok (.iadd, 1) := by decide +kernel
theorem d_law_268 : decode code 268 = .ok (.iaload, 1) := by decide +kernel
theorem d_law_269 : decode code 269 = .ok (.invokevirtual 37, 3) := by decide +kernel
theorem d_law_272 : decode code 272 = .ok (.aload_n 2, 1) := by decide +kernel
theorem d_law_273 : decode code 273 = .ok (.aload_n 0, 1) := by decide +kernel
theorem d_law_274 : decode code 274 = .ok (.iload_n 3, 1) := by decide +kernel
theorem d_law_275 : decode code 275 = .ok (.iconst 1, 1) := by decide +kernel
theorem d_law_276 : decode code 276 = .ok (.iadd, 1) := by decide +kernel
theorem d_law_277 : decode code 277 = .ok (.iaload, 1) := by decide +kernel
theorem d_law_278 : decode code 278 = .ok (.invokevirtual 41, 3) := by decide +kernel
theorem d_law_281 : decode code 281 = .ok (.if_icmp .eq 221, 3) := by decide +kernel
theorem d_law_284 : decode code 284 = .ok (.iconst 0, 1) := by decide +kernel
theorem d_law_285 : decode code 285 = .ok (.ireturn, 1) := by decide +kernel
theorem d_law_286 : decode code 286 = .ok (.aload_n 1, 1) := by decide +kernel
theorem d_law_287 : decode code 287 = .ok (.aload_n 0, 1) := by decide +kernel
theorem d_law_288 : decode code 288 = .ok (.iload_n 3, 1) := by decide +kernel
theorem d_law_289 : decode code 289 = .ok (.iconst 1, 1) := by decide +kernel
theorem d_law_290 : decode code 290 = .ok (.iadd, 1) := by decide +kernel
theorem d_law_291 : decode code 291 = .ok (.iaload, 1) := by decide +kernel
theorem d_law_292 : decode code 292 = .ok (.invokevirtual 42, 3) := by decide +kernel
theorem d_law_295 : decode code 295 = .ok (.aload_n 2, 1) := by decide +kernel
theorem d_law_296 : decode code 296 = .ok (.aload_n 0, 1) := by decide +kernel
theorem d_law_297 : decode code 297 = .ok (.iload_n 3, 1) := by decide +kernel
theorem d_law_298 : decode code 298 = .ok (.iconst 1, 1) := by decide +kernel
theorem d_law_299 : decode code 299 = .ok (.iadd, 1) := by decide +kernel
theorem d_law_300 : decode code 300 = .ok (.iaload, 1) := by decide +kernel
theorem d_law_301 : decode code 301 = .ok (.invokevirtual 46, 3) := by decide +kernel
theorem d_law_304 : decode code 304 = .ok (.if_icmp .eq 198, 3) := by decide +kernel
theorem d_law_307 : decode code 307 = .ok (.iconst 0, 1) := by decide +kernel
theorem d_law_308 : decode code 308 = .ok (.ireturn, 1) := by decide +kernel
theorem d_law_309 : decode code 309 = .ok (.aload_n 1, 1) := by decide +kernel
theorem d_law_310 : decode code 310 = .ok (.aload_n 0, 1) := by decide +kernel
theorem d_law_311 : decode code 311 = .ok (.iload_n 3, 1) := by decide +kernel
theorem d_law_312 : decode code 312 = .ok (.iconst 1, 1) := by decide +kernel
theorem d_law_313 : decode code 313 = .ok (.iadd, 1) := by decide +kernel
theorem d_law_314 : decode code 314 = .ok (.iaload, 1) := by decide +kernel
theorem d_law_315 : decode code 315 = .ok (.invokevirtual 47, 3) := by decide +kernel
theorem d_law_318 : decode code 318 = .ok (.aload_n 2, 1) := by decide +kernel
theorem d_law_319 : decode code 319 = .ok (.aload_n 0, 1) := by decide +kernel
theorem d_law_320 : decode code 320 = .ok (.iload_n 3, 1) := by decide +kernel
theorem d_law_321 : decode code 321 = .ok (.iconst 1, 1) := by decide +kernel
theorem d_law_322 : decode code 322 = .ok (.iadd, 1) := by decide +kernel
theorem d_law_323 : decode code 323 = .ok (.iaload, 1) := by decide +kernel
theorem d_law_324 : decode code 324 = .ok (.invokevirtual 50, 3) := by decide +kernel
theorem d_law_327 : decode code 327 = .ok (.if_icmp .eq 175, 3) := by decide +kernel
theorem d_law_330 : decode code 330 = .ok (.iconst 0, 1) := by decide +kernel
theorem d_law_331 : decode code 331 = .ok (.ireturn, 1) := by decide +kernel
theorem d_law_332 : decode code 332 = .ok (.aload_n 1, 1) := by decide +kernel
theorem d_law_333 : decode code 333 = .ok (.aload_n 0, 1) := by decide +kernel
theorem d_law_334 : decode code 334 = .ok (.iload_n 3, 1) := by decide +kernel
theorem d_law_335 : decode code 335 = .ok (.iconst 1, 1) := by decide +kernel
theorem d_law_336 : decode code 336 = .ok (.iadd, 1) := by decide +kernel
theorem d_law_337 : decode code 337 = .ok (.iaload, 1) := by decide +kernel
theorem d_law_338 : decode code 338 = .ok (.invokevirtual 51, 3) := by decide +kernel
theorem d_law_341 : decode code 341 = .ok (.aload_n 2, 1) := by decide +kernel
theorem d_law_342 : decode code 342 = .ok (.aload_n 0, 1) := by decide +kernel
theorem d_law_343 : decode code 343 = .ok (.iload_n 3, 1) := by decide +kernel
theorem d_law_344 : decode code 344 = .ok (.iconst 1, 1) := by decide +kernel
theorem d_law_345 : decode code 345 = .ok (.iadd, 1) := by decide +kernel
theorem d_law_346 : decode code 346 = .ok (.iaload, 1) := by decide +kernel
theorem d_law_347 : decode code 347 = .ok (.invokevirtual 54, 3) := by decide +kernel
theorem d_law_350 : decode code 350 = .ok (.if_icmp .eq 152, 3) := by decide +kernel
theorem d_law_353 : decode code 353 = .ok (.iconst 0, 1) := by decide +kernel
theorem d_law_354 : decode code 354 = .ok (.ireturn, 1) := by decide +kernel
theorem d_law_355 : decode code 355 = .ok (.aload_n 1, 1) := by decide +kernel
theorem d_law_356 : decode code 356 = .ok (.aload_n 0, 1) := by decide +kernel
theorem d_law_357 : decode code 357 = .ok (.iload_n 3, 1) := by decide +kernel
theorem d_law_358 : decode code 358 = .ok (.iconst 1, 1) := by decide +kernel
theorem d_law_359 : decode code 359 = .ok (.iadd, 1) := by decide +kernel
theorem d_law_360 : decode code 360 = .ok (.iaload, 1) := by decide +kernel
theorem d_law_361 : decode code 361 = .ok (.invokevirtual 55, 3) := by decide +kernel
theorem d_law_364 : decode code 364 = .ok (.aload_n 2, 1) := by decide +kernel
theorem d_law_365 : decode code 365 = .ok (.aload_n 0, 1) := by decide +kernel
theorem d_law_366 : decode code 366 = .ok (.iload_n 3, 1) := by decide +kernel
theorem d_law_367 : decode code 367 = .ok (.iconst 1, 1) := by decide +kernel
theorem d_law_368 : decode code 368 = .ok (.iadd, 1) := by decide +kernel
theorem d_law_369 : decode code 369 = .ok (.iaload, 1) := by decide +kernel
theorem d_law_370 : decode code 370 = .ok (.invokevirtual 58, 3) := by decide +kernel
theorem d_law_373 : decode code 373 = .ok (.if_icmp .eq 129, 3) := by decide +kernel
theorem d_law_376 : decode code 376 = .ok (.iconst 0, 1) := by decide +kernel
theorem d_law_377 : decode code 377 = .ok (.ireturn, 1) := by decide +kernel
theorem d_law_378 : decode code 378 = .ok (.aload_n 1, 1) := by decide +kernel
theorem d_law_379 : decode code 379 = .ok (.aload_n 0, 1) := by decide +kernel
theorem d_law_380 : decode code 380 = .ok (.iload_n 3, 1) := by decide +kernel
theorem d_law_381 : decode code 381 = .ok (.iconst 1, 1) := by decide +kernel
theorem d_law_382 : decode code 382 = .ok (.iadd, 1) := by decide +kernel
theorem d_law_383 : decode code 383 = .ok (.iaload, 1) := by decide +kernel
theorem d_law_384 : decode code 384 = .ok (.invokevirtual 59, 3) := by decide +kernel
theorem d_law_387 : decode code 387 = .ok (.aload_n 2, 1) := by decide +kernel
theorem d_law_388 : decode code 388 = .ok (.aload_n 0, 1) := by decide +kernel
theorem d_law_389 : decode code 389 = .ok (.iload_n 3, 1) := by decide +kernel
theorem d_law_390 : decode code 390 = .ok (.iconst 1, 1) := by decide +kernel
theorem d_law_391 : decode code 391 = .ok (.iadd, 1) := by decide +kernel
theorem d_law_392 : decode code 392 = .ok (.iaload, 1) := by decide +kernel
theorem d_law_393 : decode code 393 = .ok (.invokevirtual 62, 3) := by decide +kernel
theorem d_law_396 : decode code 396 = .ok (.if_icmp .eq 106, 3) := by decide +kernel
theorem d_law_399 : decode code 399 = .ok (.iconst 0, 1) := by decide +kernel
theorem d_law_400 : decode code 400 = .ok (.ireturn, 1) := by decide +kernel
theorem d_law_401 : decode code 401 = .ok (.aload_n 1, 1) := by decide +kernel
theorem d_law_402 : decode code 402 = .ok (.aload_n 0, 1) := by decide +kernel
theorem d_law_403 : decode code 403 = .ok (.iload_n 3, 1) := by decide +kernel
theorem d_law_404 : decode code 404 = .ok (.iconst 1, 1) := by decide +kernel
theorem d_law_405 : decode code 405 = .ok (.iadd, 1) := by decide +kernel
theorem d_law_406 : decode code 406 = .ok (.iaload, 1) := by decide +kernel
theorem d_law_407 : decode code 407 = .ok (.aload_n 0, 1) := by decide +kernel
theorem d_law_408 : decode code 408 = .ok (.iload_n 3, 1) := by decide +kernel
theorem d_law_409 : decode code 409 = .ok (.iconst 2, 1) := by decide +kernel
theorem d_law_410 : decode code 410 = .ok (.iadd, 1) := by decide +kernel
theorem d_law_411 : decode code 411 = .ok (.iaload, 1) := by decide +kernel
theorem d_law_412 : decode code 412 = .ok (.invokevirtual 63, 3) := by decide +kernel
theorem d_law_415 : decode code 415 = .ok (.aload_n 2, 1) := by decide +kernel
theorem d_law_416 : decode code 416 = .ok (.aload_n 0, 1) := by decide +kernel
theorem d_law_417 : decode code 417 = .ok (.iload_n 3, 1) := by decide +kernel
theorem d_law_418 : decode code 418 = .ok (.iconst 1, 1) := by decide +kernel
theorem d_law_419 : decode code 419 = .ok (.iadd, 1) := by decide +kernel
theorem d_law_420 : decode code 420 = .ok (.iaload, 1) := by decide +kernel
theorem d_law_421 : decode code 421 = .ok (.aload_n 0, 1) := by decide +kernel
theorem d_law_422 : decode code 422 = .ok (.iload_n 3, 1) := by decide +kernel
theorem d_law_423 : decode code 423 = .ok (.iconst 2, 1) := by decide +kernel
theorem d_law_424 : decode code 424 = .ok (.iadd, 1) := by decide +kernel
theorem d_law_425 : decode code 425 = .ok (.iaload, 1) := by decide +kernel
theorem d_law_426 : decode code 426 = .ok (.invokevirtual 67, 3) := by decide +kernel
theorem d_law_429 : decode code 429 = .ok (.if_icmp .eq 73, 3) := by decide +kernel
theorem d_law_432 : decode code 432 = .ok (.iconst 0, 1) := by decide +kernel
theorem d_law_433 : decode code 433 = .ok (.ireturn, 1) := by decide +kernel
theorem d_law_434 : decode code 434 = .ok (.aload_n 1, 1) := by decide +kernel
theorem d_law_435 : decode code 435 = .ok (.aload_n 0, 1) := by decide +kernel
theorem d_law_436 : decode code 436 = .ok (.iload_n 3, 1) := by decide +kernel
theorem d_law_437 : decode code 437 = .ok (.iconst 1, 1) := by decide +kernel
theorem d_law_438 : decode code 438 = .ok (.iadd, 1) := by decide +kernel
theorem d_law_439 : decode code 439 = .ok (.iaload, 1) := by decide +kernel
theorem d_law_440 : decode code 440 = .ok (.aload_n 0, 1) := by decide +kernel
theorem d_law_441 : decode code 441 = .ok (.iload_n 3, 1) := by decide +kernel
theorem d_law_442 : decode code 442 = .ok (.iconst 2, 1) := by decide +kernel
theorem d_law_443 : decode code 443 = .ok (.iadd, 1) := by decide +kernel
theorem d_law_444 : decode code 444 = .ok (.iaload, 1) := by decide +kernel
theorem d_law_445 : decode code 445 = .ok (.invokevirtual 68, 3) := by decide +kernel
theorem d_law_448 : decode code 448 = .ok (.aload_n 2, 1) := by decide +kernel
theorem d_law_449 : decode code 449 = .ok (.aload_n 0, 1) := by decide +kernel
theorem d_law_450 : decode code 450 = .ok (.iload_n 3, 1) := by decide +kernel
theorem d_law_451 : decode code 451 = .ok (.iconst 1, 1) := by decide +kernel
theorem d_law_452 : decode code 452 = .ok (.iadd, 1) := by decide +kernel
theorem d_law_453 : decode code 453 = .ok (.iaload, 1) := by decide +kernel
theorem d_law_454 : decode code 454 = .ok (.aload_n 0, 1) := by decide +kernel
theorem d_law_455 : decode code 455 = .ok (.iload_n 3, 1) := by decide +kernel
theorem d_law_456 : decode code 456 = .ok (.iconst 2, 1) := by decide +kernel
theorem d_law_457 : decode code 457 = .ok (.iadd, 1) := by decide +kernel
theorem d_law_458 : decode code 458 = .ok (.iaload, 1) := by decide +kernel
theorem d_law_459 : decode code 459 = .ok (.invokevirtual 72, 3) := by decide +kernel
theorem d_law_462 : decode code 462 = .ok (.lcmp, 1) := by decide +kernel
theorem d_law_463 : decode code 463 = .ok (.ifCond .eq 39, 3) := by decide +kernel
theorem d_law_466 : decode code 466 = .ok (.iconst 0, 1) := by decide +kernel
theorem d_law_467 : decode code 467 = .ok (.ireturn, 1) := by decide +kernel
theorem d_law_468 : decode code 468 = .ok (.aload_n 1, 1) := by decide +kernel
theorem d_law_469 : decode code 469 = .ok (.aload_n 0, 1) := by decide +kernel
theorem d_law_470 : decode code 470 = .ok (.iload_n 3, 1) := by decide +kernel
theorem d_law_471 : decode code 471 = .ok (.iconst 1, 1) := by decide +kernel
theorem d_law_472 : decode code 472 = .ok (.iadd, 1) := by decide +kernel
theorem d_law_473 : decode code 473 = .ok (.iaload, 1) := by decide +kernel
theorem d_law_474 : decode code 474 = .ok (.invokevirtual 73, 3) := by decide +kernel
theorem d_law_477 : decode code 477 = .ok (.aload_n 2, 1) := by decide +kernel
theorem d_law_478 : decode code 478 = .ok (.aload_n 0, 1) := by decide +kernel
theorem d_law_479 : decode code 479 = .ok (.iload_n 3, 1) := by decide +kernel
theorem d_law_480 : decode code 480 = .ok (.iconst 1, 1) := by decide +kernel
theorem d_law_481 : decode code 481 = .ok (.iadd, 1) := by decide +kernel
theorem d_law_482 : decode code 482 = .ok (.iaload, 1) := by decide +kernel
theorem d_law_483 : decode code 483 = .ok (.invokevirtual 76, 3) := by decide +kernel
theorem d_law_486 : decode code 486 = .ok (.if_icmp .eq 16, 3) := by decide +kernel
theorem d_law_489 : decode code 489 = .ok (.iconst 0, 1) := by decide +kernel
theorem d_law_490 : decode code 490 = .ok (.ireturn, 1) := by decide +kernel
theorem d_law_491 : decode code 491 = .ok (.aload_n 1, 1) := by decide +kernel
theorem d_law_492 : decode code 492 = .ok (.invokevirtual 77, 3) := by decide +kernel
theorem d_law_495 : decode code 495 = .ok (.aload_n 2, 1) := by decide +kernel
theorem d_law_496 : decode code 496 = .ok (.invokevirtual 80, 3) := by decide +kernel
theorem d_law_499 : decode code 499 = .ok (.goto 3, 3) := by decide +kernel
theorem d_law_502 : decode code 502 = .ok (.iinc 3 5, 3) := by decide +kernel
theorem d_law_505 : decode code 505 = .ok (.goto (-487), 3) := by decide +kernel
theorem d_law_508 : decode code 508 = .ok (.iconst 1, 1) := by decide +kernel
theorem d_law_509 : decode code 509 = .ok (.ireturn, 1) := by decide +kernel
set_option maxHeartbeats 4000000 in
set_option maxRecDepth 100000 in
theorem lw_b0 {p : Program} {l : Launch} {e : Env} {s : State} {m : MethodId} {below : List Frame} {meth : Method} {c : Code} {D : va_G} {B bs L : Nat} {xs : Nat → Int32} (hL : L ≤ 2560) (C0 : lw_At p s m meth c bs L xs) (hB0 : B = s.heap.size) (hK : va_K D classes (hp_T D) s) {q0 q1 : Nat} {ad : Nat → Nat} {i : Nat} (hi : 5 * i + 5 ≤ L) {M : hp_M} {H : Heap} {locs : List Loc} {ls : Array Slot} {σ : sg_S} {th of sl : Int32} {ct : Nat → Nat → Int32} {cl : Nat → Nat → Int64} (hac0 : sg_ac σ ≤ i) (hsw : sw_H D M q0 σ (lw_F q1 ad)) (hm : md_H D M q1 ad th of sl ct cl) (hR : mo_R σ (fun _ => sg_sl σ - 1) of sl ct cl) (hinv : sg_inv σ) (hsei : sg_sei σ) (hH : hp_H D B M H) (hS : va_S (hp_ub B) s.heap H locs) (hl : lv_has ls 4 [(3, .int (nI (5 * i))), (0, .ref bs), (1, .ref q0), (2, .ref q1)]) (K : lw_K p l e s m below meth c D B bs q0 q1 ad i) : W p l e room_1 s m #[Value.ref bs] below meth c H locs (53 + i) (25008 + 8 * i) (lw_Z below #[Value.ref bs] s) (F0 m 108 ls []) := by
  obtain ⟨hx, hb, hr, hml, hown, hts0, hX, hbl, hlocks, hgv⟩ := C0
  have hts : ∀ w ∈ wd_T, w.before #[Value.ref bs] s = true := fun w h => hts0 w (wd_out h)
  have hB : B ≤ s.heap.size := by omega
  have hbA : ¬ hp_ub B bs := fun w => by have w : B ≤ bs := w; omega
  have hac : sg_ac σ ≤ 512 := by omega
  have hsw0 := hsw
  obtain ⟨aI, aO, fI, fO, oa, la, ip, op, sp, lp, LQ, ow, ⟨h1, -⟩, -⟩ := hsw0
  refine lv_aload_n hx hb d_law_108 rfl (lv_at hl 2 rfl) ?_
  refine lv_aload_n hx hb d_law_109 rfl (lv_at hl 1 rfl) ?_
  refine lv_iload_n hx hb d_law_110 rfl (lv_at hl 0 rfl) ?_
  refine lv_iconst (v := 1) hx hb d_law_111 (by decide) ?_
  refine lv_iadd hx hb d_law_112 ?_
  refine hp_sld hx hb hX hbl hbA hS (5 * i + 1) (nI_1 _) (by omega) (by omega) d_law_113 ?_
  refine lv_aload_n hx hb d_law_114 rfl (lv_at hl 1 rfl) ?_
  refine lv_iload_n hx hb d_law_115 rfl (lv_at hl 0 rfl) ?_
  refine lv_iconst (v := 2) hx hb d_law_116 (by decide) ?_
  refine lv_iadd hx hb d_law_117 ?_
  refine hp_sld hx hb hX hbl hbA hS (5 * i + 2) (nI_add _ 2) (by omega) (by omega) d_law_118 ?_
  refine hp_calli (hp_runV (b := q0) (As := [.int (xs (5 * i + 1)), .int (xs (5 * i + 2))]) (rest := []) hx hb hml hown (cn_Sw_setOrder l D B M q0 σ (lw_F q1 ad) (xs (5 * i + 1)) (xs (5 * i + 2)) hsw hinv hac) (hp_cwV 2 hts kw_202 kw_204 kw_205 kw_2 kw_203 rfl rfl (by decide +kernel) ⟨(Nat.le_of_ble_eq_true rfl), (Nat.le_of_ble_eq_true rfl)⟩) hK hH h1 rfl rfl hl.1 rfl (Nat.le_of_ble_eq_true rfl) d_law_119 ⟨by show _ ≤ 600000; omega, by show _ ≤ 7302249; omega⟩) hS (fun r_1 M_2 H locs w_3 hH hS => ?_)
  obtain ⟨τ, t1, hs1, fr1⟩ := w_3
  have hm1 := lw_md hm fr1
  refine lv_aload_n hx hb d_law_122 rfl (lv_at hl 3 rfl) ?_
  refine lv_aload_n hx hb d_law_123 rfl (lv_at hl 1 rfl) ?_
  refine lv_iload_n hx hb d_law_124 rfl (lv_at hl 0 rfl) ?_
  refine lv_iconst (v := 1) hx hb d_law_125 (by decide) ?_
  refine lv_iadd hx hb d_law_126 ?_
  refine hp_sld hx hb hX hbl hbA hS (5 * i + 1) (nI_1 _) (by omega) (by omega) d_law_127 ?_
  refine lv_aload_n hx hb d_law_128 rfl (lv_at hl 1 rfl) ?_
  refine lv_iload_n hx hb d_law_129 rfl (lv_at hl 0 rfl) ?_
  refine lv_iconst (v := 2) hx hb d_law_130 (by decide) ?_
  refine lv_iadd hx hb d_law_131 ?_
  refine hp_sld hx hb hX hbl hbA hS (5 * i + 2) (nI_add _ 2) (by omega) (by omega) d_law_132 ?_
  refine hp_calli (hp_runV (b := q1) (As := [.int (xs (5 * i + 1)), .int (xs (5 * i + 2))]) (rest := [.int r_1]) hx hb hml hown (cn_Md_setOrder l D B M_2 q1 ad th of sl ct cl σ (xs (5 * i + 1)) (xs (5 * i + 2)) hm1 hR hinv hac hsei) (hp_cwV 2 hts kw_206 kw_208 kw_209 kw_137 kw_207 rfl rfl (by decide +kernel) ⟨(Nat.le_of_ble_eq_true rfl), (Nat.le_of_ble_eq_true rfl)⟩) hK hH hm1.1 rfl rfl hl.1 rfl (Nat.le_of_ble_eq_true rfl) d_law_133 ⟨by show _ ≤ 600000; omega, by show _ ≤ 7302249; omega⟩) hS (fun r_4 M_5 H locs w_6 hH hS => ?_)
  obtain ⟨τ', of', ct', t2, hm', hf', hR'⟩ := w_6
  obtain ⟨er, eτ⟩ := tr_setOrder_1 t1 t2
  rw [eτ] at hs1
  obtain ⟨iv1, iv2⟩ := tr_setOrder_inv t2 hinv
  refine lv_icmp_eq (tgt := 502) hx hb d_law_136 (by decide) (fun c_7 => ?_) (fun c_7 => absurd er c_7)
  refine W.widen (k := 53 + (i + 1)) (n := 25008 + 8 * (i + 1)) (by omega) (by omega) ?_
  exact K M_5 _ _ ls τ' 0 of' sl ct' cl (by omega) (lw_sw hs1 hf' hm') hm' hR' iv1 (tr_setOrder_sei t2 hsei) hH hS (lv_sub hl [0, 1, 2, 3] rfl)
set_option maxHeartbeats 4000000 in
set_option maxRecDepth 100000 in
theorem lw_b1 {p : Program} {l : Launch} {e : Env} {s : State} {m : MethodId} {below : List Frame} {meth : Method} {c : Code} {D : va_G} {B bs L : Nat} {xs : Nat → Int32} (hL : L ≤ 2560) (C0 : lw_At p s m meth c bs L xs) (hB0 : B = s.heap.size) (hK : va_K D classes (hp_T D) s) {q0 q1 : Nat} {ad : Nat → Nat} {i : Nat} (hi : 5 * i + 5 ≤ L) {M : hp_M} {H : Heap} {locs : List Loc} {ls : Array Slot} {σ : sg_S} {th of sl : Int32} {ct : Nat → Nat → Int32} {cl : Nat → Nat → Int64} (hac0 : sg_ac σ ≤ i) (hsw : sw_H D M q0 σ (lw_F q1 ad)) (hm : md_H D M q1 ad th of sl ct cl) (hR : mo_R σ (fun _ => sg_sl σ - 1) of sl ct cl) (hinv : sg_inv σ) (hsei : sg_sei σ) (hH : hp_H D B M H) (hS : va_S (hp_ub B) s.heap H locs) (hl : lv_has ls 4 [(3, .int (nI (5 * i))), (0, .ref bs), (1, .ref q0), (2, .ref q1)]) (K : lw_K p l e s m below meth c D B bs q0 q1 ad i) : W p l e room_1 s m #[Value.ref bs] below meth c H locs (53 + i) (25008 + 8 * i) (lw_Z below #[Value.ref bs] s) (F0 m 141 ls []) := by
  obtain ⟨hx, hb, hr, hml, hown, hts0, hX, hbl, hlocks, hgv⟩ := C0
  have hts : ∀ w ∈ wd_T, w.before #[Value.ref bs] s = true := fun w h => hts0 w (wd_out h)
  have hB : B ≤ s.heap.size := by omega
  have hbA : ¬ hp_ub B bs := fun w => by have w : B ≤ bs := w; omega
  have hac : sg_ac σ ≤ 512 := by omega
  have hsw0 := hsw
  obtain ⟨aI, aO, fI, fO, oa, la, ip, op, sp, lp, LQ, ow, ⟨h1, -⟩, -⟩ := hsw0
  refine lv_aload_n hx hb d_law_141 rfl (lv_at hl 2 rfl) ?_
  refine lv_aload_n hx hb d_law_142 rfl (lv_at hl 1 rfl) ?_
  refine lv_iload_n hx hb d_law_143 rfl (lv_at hl 0 rfl) ?_
  refine lv_iconst (v := 1) hx hb d_law_144 (by decide) ?_
  refine lv_iadd hx hb d_law_145 ?_
  refine hp_sld hx hb hX hbl hbA hS (5 * i + 1) (nI_1 _) (by omega) (by omega) d_law_146 ?_
  refine lv_aload_n hx hb d_law_147 rfl (lv_at hl 1 rfl) ?_
  refine lv_iload_n hx hb d_law_148 rfl (lv_at hl 0 rfl) ?_
  refine lv_iconst (v := 2) hx hb d_law_149 (by decide) ?_
  refine lv_iadd hx hb d_law_150 ?_
  refine hp_sld hx hb hX hbl hbA hS (5 * i + 2) (nI_add _ 2) (by omega) (by omega) d_law_151 ?_
  refine lv_aload_n hx hb d_law_152 rfl (lv_at hl 1 rfl) ?_
  refine lv_iload_n hx hb d_law_153 rfl (lv_at hl 0 rfl) ?_
  refine lv_iconst (v := 3) hx hb d_law_154 (by decide) ?_
  refine lv_iadd hx hb d_law_155 ?_
  refine hp_sld hx hb hX hbl hbA hS (5 * i + 3) (nI_add _ 3) (by omega) (by omega) d_law_156 ?_
  refine hp_calli (hp_runV (b := q0) (As := [.int (xs (5 * i + 1)), .int (xs (5 * i + 2)), .int (xs (5 * i + 3))]) (rest := []) hx hb hml hown (cn_Sw_setWeight l D B M q0 σ (lw_F q1 ad) (xs (5 * i + 1)) (xs (5 * i + 2)) (xs (5 * i + 3)) hsw hinv hac) (hp_cwV 3 hts kw_210 kw_212 kw_213 kw_2 kw_211 rfl rfl (by decide +kernel) ⟨(Nat.le_of_ble_eq_true rfl), (Nat.le_of_ble_eq_true rfl)⟩) hK hH h1 rfl rfl hl.1 rfl (Nat.le_of_ble_eq_true rfl) d_law_157 ⟨by show _ ≤ 600000; omega, by show _ ≤ 7302249; omega⟩) hS (fun r_1 M_2 H locs w_3 hH hS => ?_)
  obtain ⟨τ, t1, hs1, fr1⟩ := w_3
  have hm1 := lw_md hm fr1
  refine lv_aload_n hx hb d_law_160 rfl (lv_at hl 3 rfl) ?_
  refine lv_aload_n hx hb d_law_161 rfl (lv_at hl 1 rfl) ?_
  refine lv_iload_n hx hb d_law_162 rfl (lv_at hl 0 rfl) ?_
  refine lv_iconst (v := 1) hx hb d_law_163 (by decide) ?_
  refine lv_iadd hx hb d_law_164 ?_
  refine hp_sld hx hb hX hbl hbA hS (5 * i + 1) (nI_1 _) (by omega) (by omega) d_law_165 ?_
  refine lv_aload_n hx hb d_law_166 rfl (lv_at hl 1 rfl) ?_
  refine lv_iload_n hx hb d_law_167 rfl (lv_at hl 0 rfl) ?_
  refine lv_iconst (v := 2) hx hb d_law_168 (by decide) ?_
  refine lv_iadd hx hb d_law_169 ?_
  refine hp_sld hx hb hX hbl hbA hS (5 * i + 2) (nI_add _ 2) (by omega) (by omega) d_law_170 ?_
  refine lv_aload_n hx hb d_law_171 rfl (lv_at hl 1 rfl) ?_
  refine lv_iload_n hx hb d_law_172 rfl (lv_at hl 0 rfl) ?_
  refine lv_iconst (v := 3) hx hb d_law_173 (by decide) ?_
  refine lv_iadd hx hb d_law_174 ?_
  refine hp_sld hx hb hX hbl hbA hS (5 * i + 3) (nI_add _ 3) (by omega) (by omega) d_law_175 ?_
  refine hp_calli (hp_runV (b := q1) (As := [.int (xs (5 * i + 1)), .int (xs (5 * i + 2)), .int (xs (5 * i + 3))]) (rest := [.int r_1]) hx hb hml hown (cn_Md_setWeight l D B M_2 q1 ad th of sl ct cl σ (xs (5 * i + 1)) (xs (5 * i + 2)) (xs (5 * i + 3)) hm1 hR hinv hac hsei) (hp_cwV 3 hts kw_214 kw_216 kw_217 kw_137 kw_215 rfl rfl (by decide +kernel) ⟨(Nat.le_of_ble_eq_true rfl), (Nat.le_of_ble_eq_true rfl)⟩) hK hH hm1.1 rfl rfl hl.1 rfl (Nat.le_of_ble_eq_true rfl) d_law_176 ⟨by show _ ≤ 600000; omega, by show _ ≤ 7302249; omega⟩) hS (fun r_4 M_5 H locs w_6 hH hS => ?_)
  obtain ⟨τ', of', ct', t2, hm', hf', hR'⟩ := w_6
  obtain ⟨er, eτ⟩ := tr_setWeight_1 t1 t2
  rw [eτ] at hs1
  obtain ⟨iv1, iv2⟩ := tr_setWeight_inv t2 hinv
  refine lv_icmp_eq (tgt := 502) hx hb d_law_179 (by decide) (fun c_7 => ?_) (fun c_7 => absurd er c_7)
  refine W.widen (k := 53 + (i + 1)) (n := 25008 + 8 * (i + 1)) (by omega) (by omega) ?_
  exact K M_5 _ _ ls τ' 0 of' sl ct' cl (by omega) (lw_sw hs1 hf' hm') hm' hR' iv1 (tr_setWeight_sei t2 hsei) hH hS (lv_sub hl [0, 1, 2, 3] rfl)
set_option maxHeartbeats 4000000 in
set_option maxRecDepth 100000 in
theorem lw_b2 {p : Program} {l : Launch} {e : Env} {s : State} {m : MethodId} {below : List Frame} {meth : Method} {c : Code} {D : va_G} {B bs L : Nat} {xs : Nat → Int32} (hL : L ≤ 2560) (C0 : lw_At p s m meth c bs L xs) (hB0 : B = s.heap.size) (hK : va_K D classes (hp_T D) s) {q0 q1 : Nat} {ad : Nat → Nat} {i : Nat} (hi : 5 * i + 5 ≤ L) {M : hp_M} {H : Heap} {locs : List Loc} {ls : Array Slot} {σ : sg_S} {th of sl : Int32} {ct : Nat → Nat → Int32} {cl : Nat → Nat → Int64} (hac0 : sg_ac σ ≤ i) (hsw : sw_H D M q0 σ (lw_F q1 ad)) (hm : md_H D M q1 ad th of sl ct cl) (hR : mo_R σ (fun _ => sg_sl σ - 1) of sl ct cl) (hinv : sg_inv σ) (hsei : sg_sei σ) (hH : hp_H D B M H) (hS : va_S (hp_ub B) s.heap H locs) (hl : lv_has ls 4 [(3, .int (nI (5 * i))), (0, .ref bs), (1, .ref q0), (2, .ref q1)]) (K : lw_K p l e s m below meth c D B bs q0 q1 ad i) : W p l e room_1 s m #[Value.ref bs] below meth c H locs (53 + i) (25008 + 8 * i) (lw_Z below #[Value.ref bs] s) (F0 m 184 ls []) := by
  obtain ⟨hx, hb, hr, hml, hown, hts0, hX, hbl, hlocks, hgv⟩ := C0
  have hts : ∀ w ∈ wd_T, w.before #[Value.ref bs] s = true := fun w h => hts0 w (wd_out h)
  have hB : B ≤ s.heap.size := by omega
  have hbA : ¬ hp_ub B bs := fun w => by have w : B ≤ bs := w; omega
  have hac : sg_ac σ ≤ 512 := by omega
  have hsw0 := hsw
  obtain ⟨aI, aO, fI, fO, oa, la, ip, op, sp, lp, LQ, ow, ⟨h1, -⟩, -⟩ := hsw0
  refine lv_aload_n hx hb d_law_184 rfl (lv_at hl 2 rfl) ?_
  refine lv_aload_n hx hb d_law_185 rfl (lv_at hl 1 rfl) ?_
  refine lv_iload_n hx hb d_law_186 rfl (lv_at hl 0 rfl) ?_
  refine lv_iconst (v := 1) hx hb d_law_187 (by decide) ?_
  refine lv_iadd hx hb d_law_188 ?_
  refine hp_sld hx hb hX hbl hbA hS (5 * i + 1) (nI_1 _) (by omega) (by omega) d_law_189 ?_
  refine lv_aload_n hx hb d_law_190 rfl (lv_at hl 1 rfl) ?_
  refine lv_iload_n hx hb d_law_191 rfl (lv_at hl 0 rfl) ?_
  refine lv_iconst (v := 2) hx hb d_law_192 (by decide) ?_
  refine lv_iadd hx hb d_law_193 ?_
  refine hp_sld hx hb hX hbl hbA hS (5 * i + 2) (nI_add _ 2) (by omega) (by omega) d_law_194 ?_
  refine lv_aload_n hx hb d_law_195 rfl (lv_at hl 1 rfl) ?_
  refine lv_iload_n hx hb d_law_196 rfl (lv_at hl 0 rfl) ?_
  refine lv_iconst (v := 3) hx hb d_law_197 (by decide) ?_
  refine lv_iadd hx hb d_law_198 ?_
  refine hp_sld hx hb hX hbl hbA hS (5 * i + 3) (nI_add _ 3) (by omega) (by omega) d_law_199 ?_
  refine lv_aload_n hx hb d_law_200 rfl (lv_at hl 1 rfl) ?_
  refine lv_iload_n hx hb d_law_201 rfl (lv_at hl 0 rfl) ?_
  refine lv_iconst (v := 4) hx hb d_law_202 (by decide) ?_
  refine lv_iadd hx hb d_law_203 ?_
  refine hp_sld hx hb hX hbl hbA hS (5 * i + 4) (nI_add _ 4) (by omega) (by omega) d_law_204 ?_
  refine hp_calli (hp_runV (b := q0) (As := [.int (xs (5 * i + 1)), .int (xs (5 * i + 2)), .int (xs (5 * i + 3)), .int (xs (5 * i + 4))]) (rest := []) hx hb hml hown (cn_Sw_offer l D B M q0 σ (lw_F q1 ad) (xs (5 * i + 1)) (xs (5 * i + 2)) (xs (5 * i + 3)) (xs (5 * i + 4)) hsw hinv hac) (hp_cwV 4 hts kw_218 kw_220 kw_221 kw_2 kw_219 rfl rfl (by decide +kernel) ⟨(Nat.le_of_ble_eq_true rfl), (Nat.le_of_ble_eq_true rfl)⟩) hK hH h1 rfl rfl hl.1 rfl (Nat.le_of_ble_eq_true rfl) d_law_205 ⟨by show _ ≤ 600000; omega, by show _ ≤ 7302249; omega⟩) hS (fun r_1 M_2 H locs w_3 hH hS => ?_)
  obtain ⟨τ, t1, hs1, fr1⟩ := w_3
  have hm1 := lw_md hm fr1
  refine lv_aload_n hx hb d_law_208 rfl (lv_at hl 3 rfl) ?_
  refine lv_aload_n hx hb d_law_209 rfl (lv_at hl 1 rfl) ?_
  refine lv_iload_n hx hb d_law_210 rfl (lv_at hl 0 rfl) ?_
  refine lv_iconst (v := 1) hx hb d_law_211 (by decide) ?_
  refine lv_iadd hx hb d_law_212 ?_
  refine hp_sld hx hb hX hbl hbA hS (5 * i + 1) (nI_1 _) (by omega) (by omega) d_law_213 ?_
  refine lv_aload_n hx hb d_law_214 rfl (lv_at hl 1 rfl) ?_
  refine lv_iload_n hx hb d_law_215 rfl (lv_at hl 0 rfl) ?_
  refine lv_iconst (v := 2) hx hb d_law_216 (by decide) ?_
  refine lv_iadd hx hb d_law_217 ?_
  refine hp_sld hx hb hX hbl hbA hS (5 * i + 2) (nI_add _ 2) (by omega) (by omega) d_law_218 ?_
  refine lv_aload_n hx hb d_law_219 rfl (lv_at hl 1 rfl) ?_
  refine lv_iload_n hx hb d_law_220 rfl (lv_at hl 0 rfl) ?_
  refine lv_iconst (v := 3) hx hb d_law_221 (by decide) ?_
  refine lv_iadd hx hb d_law_222 ?_
  refine hp_sld hx hb hX hbl hbA hS (5 * i + 3) (nI_add _ 3) (by omega) (by omega) d_law_223 ?_
  refine lv_aload_n hx hb d_law_224 rfl (lv_at hl 1 rfl) ?_
  refine lv_iload_n hx hb d_law_225 rfl (lv_at hl 0 rfl) ?_
  refine lv_iconst (v := 4) hx hb d_law_226 (by decide) ?_
  refine lv_iadd hx hb d_law_227 ?_
  refine hp_sld hx hb hX hbl hbA hS (5 * i + 4) (nI_add _ 4) (by omega) (by omega) d_law_228 ?_
  refine hp_calli (hp_runV (b := q1) (As := [.int (xs (5 * i + 1)), .int (xs (5 * i + 2)), .int (xs (5 * i + 3)), .int (xs (5 * i + 4))]) (rest := [.int r_1]) hx hb hml hown (cn_Md_offer l D B M_2 q1 ad th of sl ct cl σ (xs (5 * i + 1)) (xs (5 * i + 2)) (xs (5 * i + 3)) (xs (5 * i + 4)) hm1 hR hinv hac hsei) (hp_cwV 4 hts kw_222 kw_224 kw_225 kw_137 kw_223 rfl rfl (by decide +kernel) ⟨(Nat.le_of_ble_eq_true rfl), (Nat.le_of_ble_eq_true rfl)⟩) hK hH hm1.1 rfl rfl hl.1 rfl (Nat.le_of_ble_eq_true rfl) d_law_229 ⟨by show _ ≤ 600000; omega, by show _ ≤ 7302249; omega⟩) hS (fun r_4 M_5 H locs w_6 hH hS => ?_)
  obtain ⟨τ', of', ct', t2, hm', hf', hR'⟩ := w_6
  obtain ⟨er, eτ⟩ := tr_offer_1 t1 t2
  rw [eτ] at hs1
  obtain ⟨iv1, iv2⟩ := tr_offer_inv t2 hinv
  refine lv_icmp_eq (tgt := 502) hx hb d_law_232 (by decide) (fun c_7 => ?_) (fun c_7 => absurd er c_7)
  refine W.widen (k := 53 + (i + 1)) (n := 25008 + 8 * (i + 1)) (by omega) (by omega) ?_
  exact K M_5 _ _ ls τ' 0 of' sl ct' cl (by omega) (lw_sw hs1 hf' hm') hm' hR' iv1 (tr_offer_sei t2 hsei) hH hS (lv_sub hl [0, 1, 2, 3] rfl)
set_option maxHeartbeats 4000000 in
set_option maxRecDepth 100000 in
theorem lw_b3 {p : Program} {l : Launch} {e : Env} {s : State} {m : MethodId} {below : List Frame} {meth : Method} {c : Code} {D : va_G} {B bs L : Nat} {xs : Nat → Int32} (hL : L ≤ 2560) (C0 : lw_At p s m meth c bs L xs) (hB0 : B = s.heap.size) (hK : va_K D classes (hp_T D) s) {q0 q1 : Nat} {ad : Nat → Nat} {i : Nat} (hi : 5 * i + 5 ≤ L) {M : hp_M} {H : Heap} {locs : List Loc} {ls : Array Slot} {σ : sg_S} {th of sl : Int32} {ct : Nat → Nat → Int32} {cl : Nat → Nat → Int64} (hac0 : sg_ac σ ≤ i) (hsw : sw_H D M q0 σ (lw_F q1 ad)) (hm : md_H D M q1 ad th of sl ct cl) (hR : mo_R σ (fun _ => sg_sl σ - 1) of sl ct cl) (hinv : sg_inv σ) (hsei : sg_sei σ) (hH : hp_H D B M H) (hS : va_S (hp_ub B) s.heap H locs) (hl : lv_has ls 4 [(3, .int (nI (5 * i))), (0, .ref bs), (1, .ref q0), (2, .ref q1)]) (K : lw_K p l e s m below meth c D B bs q0 q1 ad i) : W p l e room_1 s m #[Value.ref bs] below meth c H locs (53 + i) (25008 + 8 * i) (lw_Z below #[Value.ref bs] s) (F0 m 237 ls []) := by
  obtain ⟨hx, hb, hr, hml, hown, hts0, hX, hbl, hlocks, hgv⟩ := C0
  have hts : ∀ w ∈ wd_T, w.before #[Value.ref bs] s = true := fun w h => hts0 w (wd_out h)
  have hB : B ≤ s.heap.size := by omega
  have hbA : ¬ hp_ub B bs := fun w => by have w : B ≤ bs := w; omega
  have hac : sg_ac σ ≤ 512 := by omega
  have hsw0 := hsw
  obtain ⟨aI, aO, fI, fO, oa, la, ip, op, sp, lp, LQ, ow, ⟨h1, -⟩, -⟩ := hsw0
  refine lv_aload_n hx hb d_law_237 rfl (lv_at hl 2 rfl) ?_
  refine hp_calli (hp_runV (b := q0) (As := []) (rest := []) hx hb hml hown (cn_Sw_slot l D B M q0 σ (lw_F q1 ad)  hsw hinv) (hp_cwV 0 hts kw_226 kw_228 kw_229 kw_2 kw_227 rfl rfl (by decide +kernel) ⟨(Nat.le_of_ble_eq_true rfl), (Nat.le_of_ble_eq_true rfl)⟩) hK hH h1 rfl rfl hl.1 rfl (Nat.le_of_ble_eq_true rfl) d_law_238 ⟨by show _ ≤ 600000; omega, by show _ ≤ 7302249; omega⟩) hS (fun r_1 M_2 H locs w_3 hH hS => ?_)
  obtain ⟨eR, hs1, fr1⟩ := w_3
  rw [eR]
  have hm1 := lw_md hm fr1
  refine lv_aload_n hx hb d_law_241 rfl (lv_at hl 3 rfl) ?_
  refine hp_calli (hp_runV (b := q1) (As := []) (rest := [.int (nI (sg_count (sg_comes σ 8) 8))]) hx hb hml hown (cn_Md_slot l D B M_2 q1 ad th of sl ct cl σ  hm1 hR hinv hac hsei) (hp_cwV 0 hts kw_230 kw_232 kw_233 kw_137 kw_231 rfl rfl (by decide +kernel) ⟨(Nat.le_of_ble_eq_true rfl), (Nat.le_of_ble_eq_true rfl)⟩) hK hH hm1.1 rfl rfl hl.1 rfl (Nat.le_of_ble_eq_true rfl) d_law_242 ⟨by show _ ≤ 600000; omega, by show _ ≤ 7302249; omega⟩) hS (fun r_4 M_5 H locs w_6 hH hS => ?_)
  obtain ⟨ct', cl', hm', hf', eR, hR'⟩ := w_6
  rw [eR]
  refine lv_icmp_eq (tgt := 502) hx hb d_law_245 (by decide) (fun c_7 => ?_) (fun c_7 => absurd rfl c_7)
  refine W.widen (k := 53 + (i + 1)) (n := 25008 + 8 * (i + 1)) (by omega) (by omega) ?_
  exact K M_5 _ _ ls (sg_slot σ) 0 of (sl + 1) ct' cl' (by rw [sg_ac_slot]; omega) (lw_sw hs1 hf' hm') hm' hR' (sg_inv_slot hinv) (sg_sei_slot hsei hinv) hH hS (lv_sub hl [0, 1, 2, 3] rfl)
set_option maxHeartbeats 4000000 in
set_option maxRecDepth 100000 in
theorem lw_b4 {p : Program} {l : Launch} {e : Env} {s : State} {m : MethodId} {below : List Frame} {meth : Method} {c : Code} {D : va_G} {B bs L : Nat} {xs : Nat → Int32} (hL : L ≤ 2560) (C0 : lw_At p s m meth c bs L xs) (hB0 : B = s.heap.size) (hK : va_K D classes (hp_T D) s) {q0 q1 : Nat} {ad : Nat → Nat} {i : Nat} (hi : 5 * i + 5 ≤ L) {M : hp_M} {H : Heap} {locs : List Loc} {ls : Array Slot} {σ : sg_S} {th of sl : Int32} {ct : Nat → Nat → Int32} {cl : Nat → Nat → Int64} (hac0 : sg_ac σ ≤ i) (hsw : sw_H D M q0 σ (lw_F q1 ad)) (hm : md_H D M q1 ad th of sl ct cl) (hR : mo_R σ (fun _ => sg_sl σ - 1) of sl ct cl) (hinv : sg_inv σ) (hsei : sg_sei σ) (hH : hp_H D B M H) (hS : va_S (hp_ub B) s.heap H locs) (hl : lv_has ls 4 [(3, .int (nI (5 * i))), (0, .ref bs), (1, .ref q0), (2, .ref q1)]) (K : lw_K p l e s m below meth c D B bs q0 q1 ad i) : W p l e room_1 s m #[Value.ref bs] below meth c H locs (53 + i) (25008 + 8 * i) (lw_Z below #[Value.ref bs] s) (F0 m 250 ls []) := by
  obtain ⟨hx, hb, hr, hml, hown, hts0, hX, hbl, hlocks, hgv⟩ := C0
  have hts : ∀ w ∈ wd_T, w.before #[Value.ref bs] s = true := fun w h => hts0 w (wd_out h)
  have hB : B ≤ s.heap.size := by omega
  have hbA : ¬ hp_ub B bs := fun w => by have w : B ≤ bs := w; omega
  have hac : sg_ac σ ≤ 512 := by omega
  have hsw0 := hsw
  obtain ⟨aI, aO, fI, fO, oa, la, ip, op, sp, lp, LQ, ow, ⟨h1, -⟩, -⟩ := hsw0
  refine lv_aload_n hx hb d_law_250 rfl (lv_at hl 2 rfl) ?_
  refine hp_calli (hp_runV (b := q0) (As := []) (rest := []) hx hb hml hown (cn_Sw_slots l D B M q0 σ (lw_F q1 ad)  hsw) (hp_cwV 0 hts kw_234 kw_236 kw_237 kw_2 kw_235 rfl rfl (by decide +kernel) ⟨(Nat.le_of_ble_eq_true rfl), (Nat.le_of_ble_eq_true rfl)⟩) hK hH h1 rfl rfl hl.1 rfl (Nat.le_of_ble_eq_true rfl) d_law_251 ⟨by show _ ≤ 600000; omega, by show _ ≤ 7302249; omega⟩) hS (fun r_1 M_2 H locs w_3 hH hS => ?_)
  obtain ⟨eM, eR⟩ := w_3
  rw [eM] at hH
  rw [eR]
  refine lv_aload_n hx hb d_law_254 rfl (lv_at hl 3 rfl) ?_
  refine hp_calli (hp_runV (b := q1) (As := []) (rest := [.int (sg_sl σ)]) hx hb hml hown (cn_Md_slots l D B M q1 ad th of sl ct cl σ  hm hR hinv hac hsei) (hp_cwV 0 hts kw_238 kw_240 kw_241 kw_137 kw_239 rfl rfl (by decide +kernel) ⟨(Nat.le_of_ble_eq_true rfl), (Nat.le_of_ble_eq_true rfl)⟩) hK hH hm.1 rfl rfl hl.1 rfl (Nat.le_of_ble_eq_true rfl) d_law_255 ⟨by show _ ≤ 600000; omega, by show _ ≤ 7302249; omega⟩) hS (fun r_4 M_5 H locs w_6 hH hS => ?_)
  obtain ⟨hm', hf', eR⟩ := w_6
  rw [eR]
  refine lv_icmp_eq (tgt := 502) hx hb d_law_258 (by decide) (fun c_7 => ?_) (fun c_7 => absurd rfl c_7)
  refine W.widen (k := 53 + (i + 1)) (n := 25008 + 8 * (i + 1)) (by omega) (by omega) ?_
  exact K M_5 _ _ ls σ 0 of sl ct cl (by omega) (lw_sw hsw hf' hm') hm' hR hinv hsei hH hS (lv_sub hl [0, 1, 2, 3] rfl)
set_option maxHeartbeats 4000000 in
set_option maxRecDepth 100000 in
theorem lw_b5 {p : Program} {l : Launch} {e : Env} {s : State} {m : MethodId} {below : List Frame} {meth : Method} {c : Code} {D : va_G} {B bs L : Nat} {xs : Nat → Int32} (hL : L ≤ 2560) (C0 : lw_At p s m meth c bs L xs) (hB0 : B = s.heap.size) (hK : va_K D classes (hp_T D) s) {q0 q1 : Nat} {ad : Nat → Nat} {i : Nat} (hi : 5 * i + 5 ≤ L) {M : hp_M} {H : Heap} {locs : List Loc} {ls : Array Slot} {σ : sg_S} {th of sl : Int32} {ct : Nat → Nat → Int32} {cl : Nat → Nat → Int64} (hac0 : sg_ac σ ≤ i) (hsw : sw_H D M q0 σ (lw_F q1 ad)) (hm : md_H D M q1 ad th of sl ct cl) (hR : mo_R σ (fun _ => sg_sl σ - 1) of sl ct cl) (hinv : sg_inv σ) (hsei : sg_sei σ) (hH : hp_H D B M H) (hS : va_S (hp_ub B) s.heap H locs) (hl : lv_has ls 4 [(3, .int (nI (5 * i))), (0, .ref bs), (1, .ref q0), (2, .ref q1)]) (K : lw_K p l e s m below meth c D B bs q0 q1 ad i) : W p l e room_1 s m #[Value.ref bs] below meth c H locs (53 + i) (25008 + 8 * i) (lw_Z below #[Value.ref bs] s) (F0 m 263 ls []) := by
  obtain ⟨hx, hb, hr, hml, hown, hts0, hX, hbl, hlocks, hgv⟩ := C0
  have hts : ∀ w ∈ wd_T, w.before #[Value.ref bs] s = true := fun w h => hts0 w (wd_out h)
  have hB : B ≤ s.heap.size := by omega
  have hbA : ¬ hp_ub B bs := fun w => by have w : B ≤ bs := w; omega
  have hac : sg_ac σ ≤ 512 := by omega
  have hsw0 := hsw
  obtain ⟨aI, aO, fI, fO, oa, la, ip, op, sp, lp, LQ, ow, ⟨h1, -⟩, -⟩ := hsw0
  refine lv_aload_n hx hb d_law_263 rfl (lv_at hl 2 rfl) ?_
  refine lv_aload_n hx hb d_law_264 rfl (lv_at hl 1 rfl) ?_
  refine lv_iload_n hx hb d_law_265 rfl (lv_at hl 0 rfl) ?_
  refine lv_iconst (v := 1) hx hb d_law_266 (by decide) ?_
  refine lv_iadd hx hb d_law_267 ?_
  refine hp_sld hx hb hX hbl hbA hS (5 * i + 1) (nI_1 _) (by omega) (by omega) d_law_268 ?_
  refine hp_calli (hp_runV (b := q0) (As := [.int (xs (5 * i + 1))]) (rest := []) hx hb hml hown (cn_Sw_hasSent l D B M q0 σ (lw_F q1 ad) (xs (5 * i + 1)) hsw) (hp_cwV 1 hts kw_242 kw_244 kw_245 kw_2 kw_243 rfl rfl (by decide +kernel) ⟨(Nat.le_of_ble_eq_true rfl), (Nat.le_of_ble_eq_true rfl)⟩) hK hH h1 rfl rfl hl.1 rfl (Nat.le_of_ble_eq_true rfl) d_law_269 ⟨by show _ ≤ 600000; omega, by show _ ≤ 7302249; omega⟩) hS (fun r_1 M_2 H locs w_3 hH hS => ?_)
  obtain ⟨eM, eR⟩ := w_3
  rw [eM] at hH
  rw [eR]
  refine lv_aload_n hx hb d_law_272 rfl (lv_at hl 3 rfl) ?_
  refine lv_aload_n hx hb d_law_273 rfl (lv_at hl 1 rfl) ?_
  refine lv_iload_n hx hb d_law_274 rfl (lv_at hl 0 rfl) ?_
  refine lv_iconst (v := 1) hx hb d_law_275 (by decide) ?_
  refine lv_iadd hx hb d_law_276 ?_
  refine hp_sld hx hb hX hbl hbA hS (5 * i + 1) (nI_1 _) (by omega) (by omega) d_law_277 ?_
  refine hp_calli (hp_runV (b := q1) (As := [.int (xs (5 * i + 1))]) (rest := [.int (an_hasSent σ (xs (5 * i + 1)))]) hx hb hml hown (cn_Md_hasSent l D B M q1 ad th of sl ct cl σ (xs (5 * i + 1)) hm hR hinv hac hsei) (hp_cwV 1 hts kw_246 kw_248 kw_249 kw_137 kw_247 rfl rfl (by decide +kernel) ⟨(Nat.le_of_ble_eq_true rfl), (Nat.le_of_ble_eq_true rfl)⟩) hK hH hm.1 rfl rfl hl.1 rfl (Nat.le_of_ble_eq_true rfl) d_law_278 ⟨by show _ ≤ 600000; omega, by show _ ≤ 7302249; omega⟩) hS (fun r_4 M_5 H locs w_6 hH hS => ?_)
  obtain ⟨hm', hf', eR⟩ := w_6
  rw [eR]
  refine lv_icmp_eq (tgt := 502) hx hb d_law_281 (by decide) (fun c_7 => ?_) (fun c_7 => absurd rfl c_7)
  refine W.widen (k := 53 + (i + 1)) (n := 25008 + 8 * (i + 1)) (by omega) (by omega) ?_
  exact K M_5 _ _ ls σ 0 of sl ct cl (by omega) (lw_sw hsw hf' hm') hm' hR hinv hsei hH hS (lv_sub hl [0, 1, 2, 3] rfl)
set_option maxHeartbeats 4000000 in
set_option maxRecDepth 100000 in
theorem lw_b6 {p : Program} {l : Launch} {e : Env} {s : State} {m : MethodId} {below : List Frame} {meth : Method} {c : Code} {D : va_G} {B bs L : Nat} {xs : Nat → Int32} (hL : L ≤ 2560) (C0 : lw_At p s m meth c bs L xs) (hB0 : B = s.heap.size) (hK : va_K D classes (hp_T D) s) {q0 q1 : Nat} {ad : Nat → Nat} {i : Nat} (hi : 5 * i + 5 ≤ L) {M : hp_M} {H : Heap} {locs : List Loc} {ls : Array Slot} {σ : sg_S} {th of sl : Int32} {ct : Nat → Nat → Int32} {cl : Nat → Nat → Int64} (hac0 : sg_ac σ ≤ i) (hsw : sw_H D M q0 σ (lw_F q1 ad)) (hm : md_H D M q1 ad th of sl ct cl) (hR : mo_R σ (fun _ => sg_sl σ - 1) of sl ct cl) (hinv : sg_inv σ) (hsei : sg_sei σ) (hH : hp_H D B M H) (hS : va_S (hp_ub B) s.heap H locs) (hl : lv_has ls 4 [(3, .int (nI (5 * i))), (0, .ref bs), (1, .ref q0), (2, .ref q1)]) (K : lw_K p l e s m below meth c D B bs q0 q1 ad i) : W p l e room_1 s m #[Value.ref bs] below meth c H locs (53 + i) (25008 + 8 * i) (lw_Z below #[Value.ref bs] s) (F0 m 286 ls []) := by
  obtain ⟨hx, hb, hr, hml, hown, hts0, hX, hbl, hlocks, hgv⟩ := C0
  have hts : ∀ w ∈ wd_T, w.before #[Value.ref bs] s = true := fun w h => hts0 w (wd_out h)
  have hB : B ≤ s.heap.size := by omega
  have hbA : ¬ hp_ub B bs := fun w => by have w : B ≤ bs := w; omega
  have hac : sg_ac σ ≤ 512 := by omega
  have hsw0 := hsw
  obtain ⟨aI, aO, fI, fO, oa, la, ip, op, sp, lp, LQ, ow, ⟨h1, -⟩, -⟩ := hsw0
  refine lv_aload_n hx hb d_law_286 rfl (lv_at hl 2 rfl) ?_
  refine lv_aload_n hx hb d_law_287 rfl (lv_at hl 1 rfl) ?_
  refine lv_iload_n hx hb d_law_288 rfl (lv_at hl 0 rfl) ?_
  refine lv_iconst (v := 1) hx hb d_law_289 (by decide) ?_
  refine lv_iadd hx hb d_law_290 ?_
  refine hp_sld hx hb hX hbl hbA hS (5 * i + 1) (nI_1 _) (by omega) (by omega) d_law_291 ?_
  refine hp_calli (hp_runV (b := q0) (As := [.int (xs (5 * i + 1))]) (rest := []) hx hb hml hown (cn_Sw_sent l D B M q0 σ (lw_F q1 ad) (xs (5 * i + 1)) hsw) (hp_cwV 1 hts kw_250 kw_252 kw_253 kw_2 kw_251 rfl rfl (by decide +kernel) ⟨(Nat.le_of_ble_eq_true rfl), (Nat.le_of_ble_eq_true rfl)⟩) hK hH h1 rfl rfl hl.1 rfl (Nat.le_of_ble_eq_true rfl) d_law_292 ⟨by show _ ≤ 600000; omega, by show _ ≤ 7302249; omega⟩) hS (fun r_1 M_2 H locs w_3 hH hS => ?_)
  obtain ⟨eM, eR⟩ := w_3
  rw [eM] at hH
  rw [eR]
  refine lv_aload_n hx hb d_law_295 rfl (lv_at hl 3 rfl) ?_
  refine lv_aload_n hx hb d_law_296 rfl (lv_at hl 1 rfl) ?_
  refine lv_iload_n hx hb d_law_297 rfl (lv_at hl 0 rfl) ?_
  refine lv_iconst (v := 1) hx hb d_law_298 (by decide) ?_
  refine lv_iadd hx hb d_law_299 ?_
  refine hp_sld hx hb hX hbl hbA hS (5 * i + 1) (nI_1 _) (by omega) (by omega) d_law_300 ?_
  refine hp_calli (hp_runV (b := q1) (As := [.int (xs (5 * i + 1))]) (rest := [.int (an_sent σ (xs (5 * i + 1)))]) hx hb hml hown (cn_Md_sent l D B M q1 ad th of sl ct cl σ (xs (5 * i + 1)) hm hR hinv hac hsei) (hp_cwV 1 hts kw_254 kw_256 kw_257 kw_137 kw_255 rfl rfl (by decide +kernel) ⟨(Nat.le_of_ble_eq_true rfl), (Nat.le_of_ble_eq_true rfl)⟩) hK hH hm.1 rfl rfl hl.1 rfl (Nat.le_of_ble_eq_true rfl) d_law_301 ⟨by show _ ≤ 600000; omega, by show _ ≤ 7302249; omega⟩) hS (fun r_4 M_5 H locs w_6 hH hS => ?_)
  obtain ⟨hm', hf', eR⟩ := w_6
  rw [eR]
  refine lv_icmp_eq (tgt := 502) hx hb d_law_304 (by decide) (fun c_7 => ?_) (fun c_7 => absurd rfl c_7)
  refine W.widen (k := 53 + (i + 1)) (n := 25008 + 8 * (i + 1)) (by omega) (by omega) ?_
  exact K M_5 _ _ ls σ 0 of sl ct cl (by omega) (lw_sw hsw hf' hm') hm' hR hinv hsei hH hS (lv_sub hl [0, 1, 2, 3] rfl)
set_option maxHeartbeats 4000000 in
set_option maxRecDepth 100000 in
theorem lw_b7 {p : Program} {l : Launch} {e : Env} {s : State} {m : MethodId} {below : List Frame} {meth : Method} {c : Code} {D : va_G} {B bs L : Nat} {xs : Nat → Int32} (hL : L ≤ 2560) (C0 : lw_At p s m meth c bs L xs) (hB0 : B = s.heap.size) (hK : va_K D classes (hp_T D) s) {q0 q1 : Nat} {ad : Nat → Nat} {i : Nat} (hi : 5 * i + 5 ≤ L) {M : hp_M} {H : Heap} {locs : List Loc} {ls : Array Slot} {σ : sg_S} {th of sl : Int32} {ct : Nat → Nat → Int32} {cl : Nat → Nat → Int64} (hac0 : sg_ac σ ≤ i) (hsw : sw_H D M q0 σ (lw_F q1 ad)) (hm : md_H D M q1 ad th of sl ct cl) (hR : mo_R σ (fun _ => sg_sl σ - 1) of sl ct cl) (hinv : sg_inv σ) (hsei : sg_sei σ) (hH : hp_H D B M H) (hS : va_S (hp_ub B) s.heap H locs) (hl : lv_has ls 4 [(3, .int (nI (5 * i))), (0, .ref bs), (1, .ref q0), (2, .ref q1)]) (K : lw_K p l e s m below meth c D B bs q0 q1 ad i) : W p l e room_1 s m #[Value.ref bs] below meth c H locs (53 + i) (25008 + 8 * i) (lw_Z below #[Value.ref bs] s) (F0 m 309 ls []) := by
  obtain ⟨hx, hb, hr, hml, hown, hts0, hX, hbl, hlocks, hgv⟩ := C0
  have hts : ∀ w ∈ wd_T, w.before #[Value.ref bs] s = true := fun w h => hts0 w (wd_out h)
  have hB : B ≤ s.heap.size := by omega
  have hbA : ¬ hp_ub B bs := fun w => by have w : B ≤ bs := w; omega
  have hac : sg_ac σ ≤ 512 := by omega
  have hsw0 := hsw
  obtain ⟨aI, aO, fI, fO, oa, la, ip, op, sp, lp, LQ, ow, ⟨h1, -⟩, -⟩ := hsw0
  refine lv_aload_n hx hb d_law_309 rfl (lv_at hl 2 rfl) ?_
  refine lv_aload_n hx hb d_law_310 rfl (lv_at hl 1 rfl) ?_
  refine lv_iload_n hx hb d_law_311 rfl (lv_at hl 0 rfl) ?_
  refine lv_iconst (v := 1) hx hb d_law_312 (by decide) ?_
  refine lv_iadd hx hb d_law_313 ?_
  refine hp_sld hx hb hX hbl hbA hS (5 * i + 1) (nI_1 _) (by omega) (by omega) d_law_314 ?_
  refine hp_calli (hp_runV (b := q0) (As := [.int (xs (5 * i + 1))]) (rest := []) hx hb hml hown (cn_Sw_sentFrom l D B M q0 σ (lw_F q1 ad) (xs (5 * i + 1)) hsw) (hp_cwV 1 hts kw_258 kw_260 kw_261 kw_2 kw_259 rfl rfl (by decide +kernel) ⟨(Nat.le_of_ble_eq_true rfl), (Nat.le_of_ble_eq_true rfl)⟩) hK hH h1 rfl rfl hl.1 rfl (Nat.le_of_ble_eq_true rfl) d_law_315 ⟨by show _ ≤ 600000; omega, by show _ ≤ 7302249; omega⟩) hS (fun r_1 M_2 H locs w_3 hH hS => ?_)
  obtain ⟨eM, eR⟩ := w_3
  rw [eM] at hH
  rw [eR]
  refine lv_aload_n hx hb d_law_318 rfl (lv_at hl 3 rfl) ?_
  refine lv_aload_n hx hb d_law_319 rfl (lv_at hl 1 rfl) ?_
  refine lv_iload_n hx hb d_law_320 rfl (lv_at hl 0 rfl) ?_
  refine lv_iconst (v := 1) hx hb d_law_321 (by decide) ?_
  refine lv_iadd hx hb d_law_322 ?_
  refine hp_sld hx hb hX hbl hbA hS (5 * i + 1) (nI_1 _) (by omega) (by omega) d_law_323 ?_
  refine hp_calli (hp_runV (b := q1) (As := [.int (xs (5 * i + 1))]) (rest := [.int (an_sentFrom σ (xs (5 * i + 1)))]) hx hb hml hown (cn_Md_sentFrom l D B M q1 ad th of sl ct cl σ (xs (5 * i + 1)) hm hR hinv hac hsei) (hp_cwV 1 hts kw_262 kw_264 kw_265 kw_137 kw_263 rfl rfl (by decide +kernel) ⟨(Nat.le_of_ble_eq_true rfl), (Nat.le_of_ble_eq_true rfl)⟩) hK hH hm.1 rfl rfl hl.1 rfl (Nat.le_of_ble_eq_true rfl) d_law_324 ⟨by show _ ≤ 600000; omega, by show _ ≤ 7302249; omega⟩) hS (fun r_4 M_5 H locs w_6 hH hS => ?_)
  obtain ⟨hm', hf', eR⟩ := w_6
  rw [eR]
  refine lv_icmp_eq (tgt := 502) hx hb d_law_327 (by decide) (fun c_7 => ?_) (fun c_7 => absurd rfl c_7)
  refine W.widen (k := 53 + (i + 1)) (n := 25008 + 8 * (i + 1)) (by omega) (by omega) ?_
  exact K M_5 _ _ ls σ 0 of sl ct cl (by omega) (lw_sw hsw hf' hm') hm' hR hinv hsei hH hS (lv_sub hl [0, 1, 2, 3] rfl)
set_option maxHeartbeats 4000000 in
set_option maxRecDepth 100000 in
theorem lw_b8 {p : Program} {l : Launch} {e : Env} {s : State} {m : MethodId} {below : List Frame} {meth : Method} {c : Code} {D : va_G} {B bs L : Nat} {xs : Nat → Int32} (hL : L ≤ 2560) (C0 : lw_At p s m meth c bs L xs) (hB0 : B = s.heap.size) (hK : va_K D classes (hp_T D) s) {q0 q1 : Nat} {ad : Nat → Nat} {i : Nat} (hi : 5 * i + 5 ≤ L) {M : hp_M} {H : Heap} {locs : List Loc} {ls : Array Slot} {σ : sg_S} {th of sl : Int32} {ct : Nat → Nat → Int32} {cl : Nat → Nat → Int64} (hac0 : sg_ac σ ≤ i) (hsw : sw_H D M q0 σ (lw_F q1 ad)) (hm : md_H D M q1 ad th of sl ct cl) (hR : mo_R σ (fun _ => sg_sl σ - 1) of sl ct cl) (hinv : sg_inv σ) (hsei : sg_sei σ) (hH : hp_H D B M H) (hS : va_S (hp_ub B) s.heap H locs) (hl : lv_has ls 4 [(3, .int (nI (5 * i))), (0, .ref bs), (1, .ref q0), (2, .ref q1)]) (K : lw_K p l e s m below meth c D B bs q0 q1 ad i) : W p l e room_1 s m #[Value.ref bs] below meth c H locs (53 + i) (25008 + 8 * i) (lw_Z below #[Value.ref bs] s) (F0 m 332 ls []) := by
  obtain ⟨hx, hb, hr, hml, hown, hts0, hX, hbl, hlocks, hgv⟩ := C0
  have hts : ∀ w ∈ wd_T, w.before #[Value.ref bs] s = true := fun w h => hts0 w (wd_out h)
  have hB : B ≤ s.heap.size := by omega
  have hbA : ¬ hp_ub B bs := fun w => by have w : B ≤ bs := w; omega
  have hac : sg_ac σ ≤ 512 := by omega
  have hsw0 := hsw
  obtain ⟨aI, aO, fI, fO, oa, la, ip, op, sp, lp, LQ, ow, ⟨h1, -⟩, -⟩ := hsw0
  refine lv_aload_n hx hb d_law_332 rfl (lv_at hl 2 rfl) ?_
  refine lv_aload_n hx hb d_law_333 rfl (lv_at hl 1 rfl) ?_
  refine lv_iload_n hx hb d_law_334 rfl (lv_at hl 0 rfl) ?_
  refine lv_iconst (v := 1) hx hb d_law_335 (by decide) ?_
  refine lv_iadd hx hb d_law_336 ?_
  refine hp_sld hx hb hX hbl hbA hS (5 * i + 1) (nI_1 _) (by omega) (by omega) d_law_337 ?_
  refine hp_calli (hp_runV (b := q0) (As := [.int (xs (5 * i + 1))]) (rest := []) hx hb hml hown (cn_Sw_waited l D B M q0 σ (lw_F q1 ad) (xs (5 * i + 1)) hsw) (hp_cwV 1 hts kw_266 kw_268 kw_269 kw_2 kw_267 rfl rfl (by decide +kernel) ⟨(Nat.le_of_ble_eq_true rfl), (Nat.le_of_ble_eq_true rfl)⟩) hK hH h1 rfl rfl hl.1 rfl (Nat.le_of_ble_eq_true rfl) d_law_338 ⟨by show _ ≤ 600000; omega, by show _ ≤ 7302249; omega⟩) hS (fun r_1 M_2 H locs w_3 hH hS => ?_)
  obtain ⟨eM, eR⟩ := w_3
  rw [eM] at hH
  rw [eR]
  refine lv_aload_n hx hb d_law_341 rfl (lv_at hl 3 rfl) ?_
  refine lv_aload_n hx hb d_law_342 rfl (lv_at hl 1 rfl) ?_
  refine lv_iload_n hx hb d_law_343 rfl (lv_at hl 0 rfl) ?_
  refine lv_iconst (v := 1) hx hb d_law_344 (by decide) ?_
  refine lv_iadd hx hb d_law_345 ?_
  refine hp_sld hx hb hX hbl hbA hS (5 * i + 1) (nI_1 _) (by omega) (by omega) d_law_346 ?_
  refine hp_calli (hp_runV (b := q1) (As := [.int (xs (5 * i + 1))]) (rest := [.int (an_waited σ (xs (5 * i + 1)))]) hx hb hml hown (cn_Md_waited l D B M q1 ad th of sl ct cl σ (xs (5 * i + 1)) hm hR hinv hac hsei) (hp_cwV 1 hts kw_270 kw_272 kw_273 kw_137 kw_271 rfl rfl (by decide +kernel) ⟨(Nat.le_of_ble_eq_true rfl), (Nat.le_of_ble_eq_true rfl)⟩) hK hH hm.1 rfl rfl hl.1 rfl (Nat.le_of_ble_eq_true rfl) d_law_347 ⟨by show _ ≤ 600000; omega, by show _ ≤ 7302249; omega⟩) hS (fun r_4 M_5 H locs w_6 hH hS => ?_)
  obtain ⟨hm', hf', eR⟩ := w_6
  rw [eR]
  refine lv_icmp_eq (tgt := 502) hx hb d_law_350 (by decide) (fun c_7 => ?_) (fun c_7 => absurd rfl c_7)
  refine W.widen (k := 53 + (i + 1)) (n := 25008 + 8 * (i + 1)) (by omega) (by omega) ?_
  exact K M_5 _ _ ls σ 0 of sl ct cl (by omega) (lw_sw hsw hf' hm') hm' hR hinv hsei hH hS (lv_sub hl [0, 1, 2, 3] rfl)
set_option maxHeartbeats 4000000 in
set_option maxRecDepth 100000 in
theorem lw_b9 {p : Program} {l : Launch} {e : Env} {s : State} {m : MethodId} {below : List Frame} {meth : Method} {c : Code} {D : va_G} {B bs L : Nat} {xs : Nat → Int32} (hL : L ≤ 2560) (C0 : lw_At p s m meth c bs L xs) (hB0 : B = s.heap.size) (hK : va_K D classes (hp_T D) s) {q0 q1 : Nat} {ad : Nat → Nat} {i : Nat} (hi : 5 * i + 5 ≤ L) {M : hp_M} {H : Heap} {locs : List Loc} {ls : Array Slot} {σ : sg_S} {th of sl : Int32} {ct : Nat → Nat → Int32} {cl : Nat → Nat → Int64} (hac0 : sg_ac σ ≤ i) (hsw : sw_H D M q0 σ (lw_F q1 ad)) (hm : md_H D M q1 ad th of sl ct cl) (hR : mo_R σ (fun _ => sg_sl σ - 1) of sl ct cl) (hinv : sg_inv σ) (hsei : sg_sei σ) (hH : hp_H D B M H) (hS : va_S (hp_ub B) s.heap H locs) (hl : lv_has ls 4 [(3, .int (nI (5 * i))), (0, .ref bs), (1, .ref q0), (2, .ref q1)]) (K : lw_K p l e s m below meth c D B bs q0 q1 ad i) : W p l e room_1 s m #[Value.ref bs] below meth c H locs (53 + i) (25008 + 8 * i) (lw_Z below #[Value.ref bs] s) (F0 m 355 ls []) := by
  obtain ⟨hx, hb, hr, hml, hown, hts0, hX, hbl, hlocks, hgv⟩ := C0
  have hts : ∀ w ∈ wd_T, w.before #[Value.ref bs] s = true := fun w h => hts0 w (wd_out h)
  have hB : B ≤ s.heap.size := by omega
  have hbA : ¬ hp_ub B bs := fun w => by have w : B ≤ bs := w; omega
  have hac : sg_ac σ ≤ 512 := by omega
  have hsw0 := hsw
  obtain ⟨aI, aO, fI, fO, oa, la, ip, op, sp, lp, LQ, ow, ⟨h1, -⟩, -⟩ := hsw0
  refine lv_aload_n hx hb d_law_355 rfl (lv_at hl 2 rfl) ?_
  refine lv_aload_n hx hb d_law_356 rfl (lv_at hl 1 rfl) ?_
  refine lv_iload_n hx hb d_law_357 rfl (lv_at hl 0 rfl) ?_
  refine lv_iconst (v := 1) hx hb d_law_358 (by decide) ?_
  refine lv_iadd hx hb d_law_359 ?_
  refine hp_sld hx hb hX hbl hbA hS (5 * i + 1) (nI_1 _) (by omega) (by omega) d_law_360 ?_
  refine hp_calli (hp_runV (b := q0) (As := [.int (xs (5 * i + 1))]) (rest := []) hx hb hml hown (cn_Sw_inside l D B M q0 σ (lw_F q1 ad) (xs (5 * i + 1)) hsw) (hp_cwV 1 hts kw_274 kw_276 kw_277 kw_2 kw_275 rfl rfl (by decide +kernel) ⟨(Nat.le_of_ble_eq_true rfl), (Nat.le_of_ble_eq_true rfl)⟩) hK hH h1 rfl rfl hl.1 rfl (Nat.le_of_ble_eq_true rfl) d_law_361 ⟨by show _ ≤ 600000; omega, by show _ ≤ 7302249; omega⟩) hS (fun r_1 M_2 H locs w_3 hH hS => ?_)
  obtain ⟨eM, eR⟩ := w_3
  rw [eM] at hH
  rw [eR]
  refine lv_aload_n hx hb d_law_364 rfl (lv_at hl 3 rfl) ?_
  refine lv_aload_n hx hb d_law_365 rfl (lv_at hl 1 rfl) ?_
  refine lv_iload_n hx hb d_law_366 rfl (lv_at hl 0 rfl) ?_
  refine lv_iconst (v := 1) hx hb d_law_367 (by decide) ?_
  refine lv_iadd hx hb d_law_368 ?_
  refine hp_sld hx hb hX hbl hbA hS (5 * i + 1) (nI_1 _) (by omega) (by omega) d_law_369 ?_
  refine hp_calli (hp_runV (b := q1) (As := [.int (xs (5 * i + 1))]) (rest := [.int (an_inside σ (xs (5 * i + 1)))]) hx hb hml hown (cn_Md_inside l D B M q1 ad th of sl ct cl σ (xs (5 * i + 1)) hm hR hinv hac hsei) (hp_cwV 1 hts kw_278 kw_280 kw_281 kw_137 kw_279 rfl rfl (by decide +kernel) ⟨(Nat.le_of_ble_eq_true rfl), (Nat.le_of_ble_eq_true rfl)⟩) hK hH hm.1 rfl rfl hl.1 rfl (Nat.le_of_ble_eq_true rfl) d_law_370 ⟨by show _ ≤ 600000; omega, by show _ ≤ 7302249; omega⟩) hS (fun r_4 M_5 H locs w_6 hH hS => ?_)
  obtain ⟨hm', hf', eR⟩ := w_6
  rw [eR]
  refine lv_icmp_eq (tgt := 502) hx hb d_law_373 (by decide) (fun c_7 => ?_) (fun c_7 => absurd rfl c_7)
  refine W.widen (k := 53 + (i + 1)) (n := 25008 + 8 * (i + 1)) (by omega) (by omega) ?_
  exact K M_5 _ _ ls σ 0 of sl ct cl (by omega) (lw_sw hsw hf' hm') hm' hR hinv hsei hH hS (lv_sub hl [0, 1, 2, 3] rfl)
set_option maxHeartbeats 4000000 in
set_option maxRecDepth 100000 in
theorem lw_b10 {p : Program} {l : Launch} {e : Env} {s : State} {m : MethodId} {below : List Frame} {meth : Method} {c : Code} {D : va_G} {B bs L : Nat} {xs : Nat → Int32} (hL : L ≤ 2560) (C0 : lw_At p s m meth c bs L xs) (hB0 : B = s.heap.size) (hK : va_K D classes (hp_T D) s) {q0 q1 : Nat} {ad : Nat → Nat} {i : Nat} (hi : 5 * i + 5 ≤ L) {M : hp_M} {H : Heap} {locs : List Loc} {ls : Array Slot} {σ : sg_S} {th of sl : Int32} {ct : Nat → Nat → Int32} {cl : Nat → Nat → Int64} (hac0 : sg_ac σ ≤ i) (hsw : sw_H D M q0 σ (lw_F q1 ad)) (hm : md_H D M q1 ad th of sl ct cl) (hR : mo_R σ (fun _ => sg_sl σ - 1) of sl ct cl) (hinv : sg_inv σ) (hsei : sg_sei σ) (hH : hp_H D B M H) (hS : va_S (hp_ub B) s.heap H locs) (hl : lv_has ls 4 [(3, .int (nI (5 * i))), (0, .ref bs), (1, .ref q0), (2, .ref q1)]) (K : lw_K p l e s m below meth c D B bs q0 q1 ad i) : W p l e room_1 s m #[Value.ref bs] below meth c H locs (53 + i) (25008 + 8 * i) (lw_Z below #[Value.ref bs] s) (F0 m 378 ls []) := by
  obtain ⟨hx, hb, hr, hml, hown, hts0, hX, hbl, hlocks, hgv⟩ := C0
  have hts : ∀ w ∈ wd_T, w.before #[Value.ref bs] s = true := fun w h => hts0 w (wd_out h)
  have hB : B ≤ s.heap.size := by omega
  have hbA : ¬ hp_ub B bs := fun w => by have w : B ≤ bs := w; omega
  have hac : sg_ac σ ≤ 512 := by omega
  have hsw0 := hsw
  obtain ⟨aI, aO, fI, fO, oa, la, ip, op, sp, lp, LQ, ow, ⟨h1, -⟩, -⟩ := hsw0
  refine lv_aload_n hx hb d_law_378 rfl (lv_at hl 2 rfl) ?_
  refine lv_aload_n hx hb d_law_379 rfl (lv_at hl 1 rfl) ?_
  refine lv_iload_n hx hb d_law_380 rfl (lv_at hl 0 rfl) ?_
  refine lv_iconst (v := 1) hx hb d_law_381 (by decide) ?_
  refine lv_iadd hx hb d_law_382 ?_
  refine hp_sld hx hb hX hbl hbA hS (5 * i + 1) (nI_1 _) (by omega) (by omega) d_law_383 ?_
  refine hp_calli (hp_runV (b := q0) (As := [.int (xs (5 * i + 1))]) (rest := []) hx hb hml hown (cn_Sw_waiting l D B M q0 σ (lw_F q1 ad) (xs (5 * i + 1)) hsw) (hp_cwV 1 hts kw_282 kw_284 kw_285 kw_2 kw_283 rfl rfl (by decide +kernel) ⟨(Nat.le_of_ble_eq_true rfl), (Nat.le_of_ble_eq_true rfl)⟩) hK hH h1 rfl rfl hl.1 rfl (Nat.le_of_ble_eq_true rfl) d_law_384 ⟨by show _ ≤ 600000; omega, by show _ ≤ 7302249; omega⟩) hS (fun r_1 M_2 H locs w_3 hH hS => ?_)
  obtain ⟨eM, eR⟩ := w_3
  rw [eM] at hH
  rw [eR]
  refine lv_aload_n hx hb d_law_387 rfl (lv_at hl 3 rfl) ?_
  refine lv_aload_n hx hb d_law_388 rfl (lv_at hl 1 rfl) ?_
  refine lv_iload_n hx hb d_law_389 rfl (lv_at hl 0 rfl) ?_
  refine lv_iconst (v := 1) hx hb d_law_390 (by decide) ?_
  refine lv_iadd hx hb d_law_391 ?_
  refine hp_sld hx hb hX hbl hbA hS (5 * i + 1) (nI_1 _) (by omega) (by omega) d_law_392 ?_
  refine hp_calli (hp_runV (b := q1) (As := [.int (xs (5 * i + 1))]) (rest := [.int (an_waiting σ (xs (5 * i + 1)))]) hx hb hml hown (cn_Md_waiting l D B M q1 ad th of sl ct cl σ (xs (5 * i + 1)) hm hR hinv hac hsei) (hp_cwV 1 hts kw_286 kw_288 kw_289 kw_137 kw_287 rfl rfl (by decide +kernel) ⟨(Nat.le_of_ble_eq_true rfl), (Nat.le_of_ble_eq_true rfl)⟩) hK hH hm.1 rfl rfl hl.1 rfl (Nat.le_of_ble_eq_true rfl) d_law_393 ⟨by show _ ≤ 600000; omega, by show _ ≤ 7302249; omega⟩) hS (fun r_4 M_5 H locs w_6 hH hS => ?_)
  obtain ⟨hm', hf', eR⟩ := w_6
  rw [eR]
  refine lv_icmp_eq (tgt := 502) hx hb d_law_396 (by decide) (fun c_7 => ?_) (fun c_7 => absurd rfl c_7)
  refine W.widen (k := 53 + (i + 1)) (n := 25008 + 8 * (i + 1)) (by omega) (by omega) ?_
  exact K M_5 _ _ ls σ 0 of sl ct cl (by omega) (lw_sw hsw hf' hm') hm' hR hinv hsei hH hS (lv_sub hl [0, 1, 2, 3] rfl)
set_option maxHeartbeats 4000000 in
set_option maxRecDepth 100000 in
theorem lw_b11 {p : Program} {l : Launch} {e : Env} {s : State} {m : MethodId} {below : List Frame} {meth : Method} {c : Code} {D : va_G} {B bs L : Nat} {xs : Nat → Int32} (hL : L ≤ 2560) (C0 : lw_At p s m meth c bs L xs) (hB0 : B = s.heap.size) (hK : va_K D classes (hp_T D) s) {q0 q1 : Nat} {ad : Nat → Nat} {i : Nat} (hi : 5 * i + 5 ≤ L) {M : hp_M} {H : Heap} {locs : List Loc} {ls : Array Slot} {σ : sg_S} {th of sl : Int32} {ct : Nat → Nat → Int32} {cl : Nat → Nat → Int64} (hac0 : sg_ac σ ≤ i) (hsw : sw_H D M q0 σ (lw_F q1 ad)) (hm : md_H D M q1 ad th of sl ct cl) (hR : mo_R σ (fun _ => sg_sl σ - 1) of sl ct cl) (hinv : sg_inv σ) (hsei : sg_sei σ) (hH : hp_H D B M H) (hS : va_S (hp_ub B) s.heap H locs) (hl : lv_has ls 4 [(3, .int (nI (5 * i))), (0, .ref bs), (1, .ref q0), (2, .ref q1)]) (K : lw_K p l e s m below meth c D B bs q0 q1 ad i) : W p l e room_1 s m #[Value.ref bs] below meth c H locs (53 + i) (25008 + 8 * i) (lw_Z below #[Value.ref bs] s) (F0 m 401 ls []) := by
  obtain ⟨hx, hb, hr, hml, hown, hts0, hX, hbl, hlocks, hgv⟩ := C0
  have hts : ∀ w ∈ wd_T, w.before #[Value.ref bs] s = true := fun w h => hts0 w (wd_out h)
  have hB : B ≤ s.heap.size := by omega
  have hbA : ¬ hp_ub B bs := fun w => by have w : B ≤ bs := w; omega
  have hac : sg_ac σ ≤ 512 := by omega
  have hsw0 := hsw
  obtain ⟨aI, aO, fI, fO, oa, la, ip, op, sp, lp, LQ, ow, ⟨h1, -⟩, -⟩ := hsw0
  refine lv_aload_n hx hb d_law_401 rfl (lv_at hl 2 rfl) ?_
  refine lv_aload_n hx hb d_law_402 rfl (lv_at hl 1 rfl) ?_
  refine lv_iload_n hx hb d_law_403 rfl (lv_at hl 0 rfl) ?_
  refine lv_iconst (v := 1) hx hb d_law_404 (by decide) ?_
  refine lv_iadd hx hb d_law_405 ?_
  refine hp_sld hx hb hX hbl hbA hS (5 * i + 1) (nI_1 _) (by omega) (by omega) d_law_406 ?_
  refine lv_aload_n hx hb d_law_407 rfl (lv_at hl 1 rfl) ?_
  refine lv_iload_n hx hb d_law_408 rfl (lv_at hl 0 rfl) ?_
  refine lv_iconst (v := 2) hx hb d_law_409 (by decide) ?_
  refine lv_iadd hx hb d_law_410 ?_
  refine hp_sld hx hb hX hbl hbA hS (5 * i + 2) (nI_add _ 2) (by omega) (by omega) d_law_411 ?_
  refine hp_calli (hp_runV (b := q0) (As := [.int (xs (5 * i + 1)), .int (xs (5 * i + 2))]) (rest := []) hx hb hml hown (cn_Sw_first l D B M q0 σ (lw_F q1 ad) (xs (5 * i + 1)) (xs (5 * i + 2)) hsw hinv hac) (hp_cwV 2 hts kw_290 kw_292 kw_293 kw_2 kw_291 rfl rfl (by decide +kernel) ⟨(Nat.le_of_ble_eq_true rfl), (Nat.le_of_ble_eq_true rfl)⟩) hK hH h1 rfl rfl hl.1 rfl (Nat.le_of_ble_eq_true rfl) d_law_412 ⟨by show _ ≤ 600000; omega, by show _ ≤ 7302249; omega⟩) hS (fun r_1 M_2 H locs w_3 hH hS => ?_)
  obtain ⟨eM, eR⟩ := w_3
  rw [eM] at hH
  rw [eR]
  refine lv_aload_n hx hb d_law_415 rfl (lv_at hl 3 rfl) ?_
  refine lv_aload_n hx hb d_law_416 rfl (lv_at hl 1 rfl) ?_
  refine lv_iload_n hx hb d_law_417 rfl (lv_at hl 0 rfl) ?_
  refine lv_iconst (v := 1) hx hb d_law_418 (by decide) ?_
  refine lv_iadd hx hb d_law_419 ?_
  refine hp_sld hx hb hX hbl hbA hS (5 * i + 1) (nI_1 _) (by omega) (by omega) d_law_420 ?_
  refine lv_aload_n hx hb d_law_421 rfl (lv_at hl 1 rfl) ?_
  refine lv_iload_n hx hb d_law_422 rfl (lv_at hl 0 rfl) ?_
  refine lv_iconst (v := 2) hx hb d_law_423 (by decide) ?_
  refine lv_iadd hx hb d_law_424 ?_
  refine hp_sld hx hb hX hbl hbA hS (5 * i + 2) (nI_add _ 2) (by omega) (by omega) d_law_425 ?_
  refine hp_calli (hp_runV (b := q1) (As := [.int (xs (5 * i + 1)), .int (xs (5 * i + 2))]) (rest := [.int (an_first σ (xs (5 * i + 1)) (xs (5 * i + 2)))]) hx hb hml hown (cn_Md_first l D B M q1 ad th of sl ct cl σ (xs (5 * i + 1)) (xs (5 * i + 2)) hm hR hinv hac hsei) (hp_cwV 2 hts kw_294 kw_296 kw_297 kw_137 kw_295 rfl rfl (by decide +kernel) ⟨(Nat.le_of_ble_eq_true rfl), (Nat.le_of_ble_eq_true rfl)⟩) hK hH hm.1 rfl rfl hl.1 rfl (Nat.le_of_ble_eq_true rfl) d_law_426 ⟨by show _ ≤ 600000; omega, by show _ ≤ 7302249; omega⟩) hS (fun r_4 M_5 H locs w_6 hH hS => ?_)
  obtain ⟨hm', hf', eR⟩ := w_6
  rw [eR]
  refine lv_icmp_eq (tgt := 502) hx hb d_law_429 (by decide) (fun c_7 => ?_) (fun c_7 => absurd rfl c_7)
  refine W.widen (k := 53 + (i + 1)) (n := 25008 + 8 * (i + 1)) (by omega) (by omega) ?_
  exact K M_5 _ _ ls σ 0 of sl ct cl (by omega) (lw_sw hsw hf' hm') hm' hR hinv hsei hH hS (lv_sub hl [0, 1, 2, 3] rfl)
set_option maxHeartbeats 4000000 in
set_option maxRecDepth 100000 in
theorem lw_b12 {p : Program} {l : Launch} {e : Env} {s : State} {m : MethodId} {below : List Frame} {meth : Method} {c : Code} {D : va_G} {B bs L : Nat} {xs : Nat → Int32} (hL : L ≤ 2560) (C0 : lw_At p s m meth c bs L xs) (hB0 : B = s.heap.size) (hK : va_K D classes (hp_T D) s) {q0 q1 : Nat} {ad : Nat → Nat} {i : Nat} (hi : 5 * i + 5 ≤ L) {M : hp_M} {H : Heap} {locs : List Loc} {ls : Array Slot} {σ : sg_S} {th of sl : Int32} {ct : Nat → Nat → Int32} {cl : Nat → Nat → Int64} (hac0 : sg_ac σ ≤ i) (hsw : sw_H D M q0 σ (lw_F q1 ad)) (hm : md_H D M q1 ad th of sl ct cl) (hR : mo_R σ (fun _ => sg_sl σ - 1) of sl ct cl) (hinv : sg_inv σ) (hsei : sg_sei σ) (hH : hp_H D B M H) (hS : va_S (hp_ub B) s.heap H locs) (hl : lv_has ls 4 [(3, .int (nI (5 * i))), (0, .ref bs), (1, .ref q0), (2, .ref q1)]) (K : lw_K p l e s m below meth c D B bs q0 q1 ad i) : W p l e room_1 s m #[Value.ref bs] below meth c H locs (53 + i) (25008 + 8 * i) (lw_Z below #[Value.ref bs] s) (F0 m 434 ls []) := by
  obtain ⟨hx, hb, hr, hml, hown, hts0, hX, hbl, hlocks, hgv⟩ := C0
  have hts : ∀ w ∈ wd_T, w.before #[Value.ref bs] s = true := fun w h => hts0 w (wd_out h)
  have hB : B ≤ s.heap.size := by omega
  have hbA : ¬ hp_ub B bs := fun w => by have w : B ≤ bs := w; omega
  have hac : sg_ac σ ≤ 512 := by omega
  have hsw0 := hsw
  obtain ⟨aI, aO, fI, fO, oa, la, ip, op, sp, lp, LQ, ow, ⟨h1, -⟩, -⟩ := hsw0
  refine lv_aload_n hx hb d_law_434 rfl (lv_at hl 2 rfl) ?_
  refine lv_aload_n hx hb d_law_435 rfl (lv_at hl 1 rfl) ?_
  refine lv_iload_n hx hb d_law_436 rfl (lv_at hl 0 rfl) ?_
  refine lv_iconst (v := 1) hx hb d_law_437 (by decide) ?_
  refine lv_iadd hx hb d_law_438 ?_
  refine hp_sld hx hb hX hbl hbA hS (5 * i + 1) (nI_1 _) (by omega) (by omega) d_law_439 ?_
  refine lv_aload_n hx hb d_law_440 rfl (lv_at hl 1 rfl) ?_
  refine lv_iload_n hx hb d_law_441 rfl (lv_at hl 0 rfl) ?_
  refine lv_iconst (v := 2) hx hb d_law_442 (by decide) ?_
  refine lv_iadd hx hb d_law_443 ?_
  refine hp_sld hx hb hX hbl hbA hS (5 * i + 2) (nI_add _ 2) (by omega) (by omega) d_law_444 ?_
  refine hp_calll (hp_runV (b := q0) (As := [.int (xs (5 * i + 1)), .int (xs (5 * i + 2))]) (rest := []) hx hb hml hown (cn_Sw_time l D B M q0 σ (lw_F q1 ad) (xs (5 * i + 1)) (xs (5 * i + 2)) hsw hinv hac) (hp_cwV 2 hts kw_298 kw_300 kw_301 kw_2 kw_299 rfl rfl (by decide +kernel) ⟨(Nat.le_of_ble_eq_true rfl), (Nat.le_of_ble_eq_true rfl)⟩) hK hH h1 rfl rfl hl.1 rfl (Nat.le_of_ble_eq_true rfl) d_law_445 ⟨by show _ ≤ 600000; omega, by show _ ≤ 7302249; omega⟩) hS (fun r_1 M_2 H locs w_3 hH hS => ?_)
  obtain ⟨eM, eR⟩ := w_3
  rw [eM] at hH
  rw [eR]
  refine lv_aload_n hx hb d_law_448 rfl (lv_at hl 3 rfl) ?_
  refine lv_aload_n hx hb d_law_449 rfl (lv_at hl 1 rfl) ?_
  refine lv_iload_n hx hb d_law_450 rfl (lv_at hl 0 rfl) ?_
  refine lv_iconst (v := 1) hx hb d_law_451 (by decide) ?_
  refine lv_iadd hx hb d_law_452 ?_
  refine hp_sld hx hb hX hbl hbA hS (5 * i + 1) (nI_1 _) (by omega) (by omega) d_law_453 ?_
  refine lv_aload_n hx hb d_law_454 rfl (lv_at hl 1 rfl) ?_
  refine lv_iload_n hx hb d_law_455 rfl (lv_at hl 0 rfl) ?_
  refine lv_iconst (v := 2) hx hb d_law_456 (by decide) ?_
  refine lv_iadd hx hb d_law_457 ?_
  refine hp_sld hx hb hX hbl hbA hS (5 * i + 2) (nI_add _ 2) (by omega) (by omega) d_law_458 ?_
  refine hp_calll (hp_runV (b := q1) (As := [.int (xs (5 * i + 1)), .int (xs (5 * i + 2))]) (rest := [.long (an_time σ (xs (5 * i + 1)) (xs (5 * i + 2)))]) hx hb hml hown (cn_Md_time l D B M q1 ad th of sl ct cl σ (xs (5 * i + 1)) (xs (5 * i + 2)) hm hR hinv hac hsei) (hp_cwV 2 hts kw_302 kw_304 kw_305 kw_137 kw_303 rfl rfl (by decide +kernel) ⟨(Nat.le_of_ble_eq_true rfl), (Nat.le_of_ble_eq_true rfl)⟩) hK hH hm.1 rfl rfl hl.1 rfl (Nat.le_of_ble_eq_true rfl) d_law_459 ⟨by show _ ≤ 600000; omega, by show _ ≤ 7302249; omega⟩) hS (fun r_4 M_5 H locs w_6 hH hS => ?_)
  obtain ⟨hm', hf', eR⟩ := w_6
  rw [eR]
  refine W.lcmp hx hb d_law_462 ?_
  refine lv_if_eq (tgt := 502) hx hb d_law_463 (by decide) (fun c_7 => ?_) (fun c_7 => absurd ((lg_cmp_eq _ _).mpr rfl) c_7)
  refine W.widen (k := 53 + (i + 1)) (n := 25008 + 8 * (i + 1)) (by omega) (by omega) ?_
  exact K M_5 _ _ ls σ 0 of sl ct cl (by omega) (lw_sw hsw hf' hm') hm' hR hinv hsei hH hS (lv_sub hl [0, 1, 2, 3] rfl)
set_option maxHeartbeats 4000000 in
set_option maxRecDepth 100000 in
theorem lw_b13 {p : Program} {l : Launch} {e : Env} {s : State} {m : MethodId} {below : List Frame} {meth : Method} {c : Code} {D : va_G} {B bs L : Nat} {xs : Nat → Int32} (hL : L ≤ 2560) (C0 : lw_At p s m meth c bs L xs) (hB0 : B = s.heap.size) (hK : va_K D classes (hp_T D) s) {q0 q1 : Nat} {ad : Nat → Nat} {i : Nat} (hi : 5 * i + 5 ≤ L) {M : hp_M} {H : Heap} {locs : List Loc} {ls : Array Slot} {σ : sg_S} {th of sl : Int32} {ct : Nat → Nat → Int32} {cl : Nat → Nat → Int64} (hac0 : sg_ac σ ≤ i) (hsw : sw_H D M q0 σ (lw_F q1 ad)) (hm : md_H D M q1 ad th of sl ct cl) (hR : mo_R σ (fun _ => sg_sl σ - 1) of sl ct cl) (hinv : sg_inv σ) (hsei : sg_sei σ) (hH : hp_H D B M H) (hS : va_S (hp_ub B) s.heap H locs) (hl : lv_has ls 4 [(3, .int (nI (5 * i))), (0, .ref bs), (1, .ref q0), (2, .ref q1)]) (K : lw_K p l e s m below meth c D B bs q0 q1 ad i) : W p l e room_1 s m #[Value.ref bs] below meth c H locs (53 + i) (25008 + 8 * i) (lw_Z below #[Value.ref bs] s) (F0 m 468 ls []) := by
  obtain ⟨hx, hb, hr, hml, hown, hts0, hX, hbl, hlocks, hgv⟩ := C0
  have hts : ∀ w ∈ wd_T, w.before #[Value.ref bs] s = true := fun w h => hts0 w (wd_out h)
  have hB : B ≤ s.heap.size := by omega
  have hbA : ¬ hp_ub B bs := fun w => by have w : B ≤ bs := w; omega
  have hac : sg_ac σ ≤ 512 := by omega
  have hsw0 := hsw
  obtain ⟨aI, aO, fI, fO, oa, la, ip, op, sp, lp, LQ, ow, ⟨h1, -⟩, -⟩ := hsw0
  refine lv_aload_n hx hb d_law_468 rfl (lv_at hl 2 rfl) ?_
  refine lv_aload_n hx hb d_law_469 rfl (lv_at hl 1 rfl) ?_
  refine lv_iload_n hx hb d_law_470 rfl (lv_at hl 0 rfl) ?_
  refine lv_iconst (v := 1) hx hb d_law_471 (by decide) ?_
  refine lv_iadd hx hb d_law_472 ?_
  refine hp_sld hx hb hX hbl hbA hS (5 * i + 1) (nI_1 _) (by omega) (by omega) d_law_473 ?_
  refine hp_calli (hp_runV (b := q0) (As := [.int (xs (5 * i + 1))]) (rest := []) hx hb hml hown (cn_Sw_leaves l D B M q0 σ (lw_F q1 ad) (xs (5 * i + 1)) hsw hinv hac) (hp_cwV 1 hts kw_306 kw_308 kw_309 kw_2 kw_307 rfl rfl (by decide +kernel) ⟨(Nat.le_of_ble_eq_true rfl), (Nat.le_of_ble_eq_true rfl)⟩) hK hH h1 rfl rfl hl.1 rfl (Nat.le_of_ble_eq_true rfl) d_law_474 ⟨by show _ ≤ 600000; omega, by show _ ≤ 7302249; omega⟩) hS (fun r_1 M_2 H locs w_3 hH hS => ?_)
  obtain ⟨eM, eR⟩ := w_3
  rw [eM] at hH
  rw [eR]
  refine lv_aload_n hx hb d_law_477 rfl (lv_at hl 3 rfl) ?_
  refine lv_aload_n hx hb d_law_478 rfl (lv_at hl 1 rfl) ?_
  refine lv_iload_n hx hb d_law_479 rfl (lv_at hl 0 rfl) ?_
  refine lv_iconst (v := 1) hx hb d_law_480 (by decide) ?_
  refine lv_iadd hx hb d_law_481 ?_
  refine hp_sld hx hb hX hbl hbA hS (5 * i + 1) (nI_1 _) (by omega) (by omega) d_law_482 ?_
  refine hp_calli (hp_runV (b := q1) (As := [.int (xs (5 * i + 1))]) (rest := [.int (an_leaves σ (xs (5 * i + 1)))]) hx hb hml hown (cn_Md_leaves l D B M q1 ad th of sl ct cl σ (xs (5 * i + 1)) hm hR hinv hac hsei) (hp_cwV 1 hts kw_310 kw_312 kw_313 kw_137 kw_311 rfl rfl (by decide +kernel) ⟨(Nat.le_of_ble_eq_true rfl), (Nat.le_of_ble_eq_true rfl)⟩) hK hH hm.1 rfl rfl hl.1 rfl (Nat.le_of_ble_eq_true rfl) d_law_483 ⟨by show _ ≤ 600000; omega, by show _ ≤ 7302249; omega⟩) hS (fun r_4 M_5 H locs w_6 hH hS => ?_)
  obtain ⟨hm', hf', eR⟩ := w_6
  rw [eR]
  refine lv_icmp_eq (tgt := 502) hx hb d_law_486 (by decide) (fun c_7 => ?_) (fun c_7 => absurd rfl c_7)
  refine W.widen (k := 53 + (i + 1)) (n := 25008 + 8 * (i + 1)) (by omega) (by omega) ?_
  exact K M_5 _ _ ls σ 0 of sl ct cl (by omega) (lw_sw hsw hf' hm') hm' hR hinv hsei hH hS (lv_sub hl [0, 1, 2, 3] rfl)
set_option maxHeartbeats 4000000 in
set_option maxRecDepth 100000 in
theorem lw_b14 {p : Program} {l : Launch} {e : Env} {s : State} {m : MethodId} {below : List Frame} {meth : Method} {c : Code} {D : va_G} {B bs L : Nat} {xs : Nat → Int32} (hL : L ≤ 2560) (C0 : lw_At p s m meth c bs L xs) (hB0 : B = s.heap.size) (hK : va_K D classes (hp_T D) s) {q0 q1 : Nat} {ad : Nat → Nat} {i : Nat} (hi : 5 * i + 5 ≤ L) {M : hp_M} {H : Heap} {locs : List Loc} {ls : Array Slot} {σ : sg_S} {th of sl : Int32} {ct : Nat → Nat → Int32} {cl : Nat → Nat → Int64} (hac0 : sg_ac σ ≤ i) (hsw : sw_H D M q0 σ (lw_F q1 ad)) (hm : md_H D M q1 ad th of sl ct cl) (hR : mo_R σ (fun _ => sg_sl σ - 1) of sl ct cl) (hinv : sg_inv σ) (hsei : sg_sei σ) (hH : hp_H D B M H) (hS : va_S (hp_ub B) s.heap H locs) (hl : lv_has ls 4 [(3, .int (nI (5 * i))), (0, .ref bs), (1, .ref q0), (2, .ref q1)]) (K : lw_K p l e s m below meth c D B bs q0 q1 ad i) : W p l e room_1 s m #[Value.ref bs] below meth c H locs (53 + i) (25008 + 8 * i) (lw_Z below #[Value.ref bs] s) (F0 m 491 ls []) := by
  obtain ⟨hx, hb, hr, hml, hown, hts0, hX, hbl, hlocks, hgv⟩ := C0
  have hts : ∀ w ∈ wd_T, w.before #[Value.ref bs] s = true := fun w h => hts0 w (wd_out h)
  have hB : B ≤ s.heap.size := by omega
  have hbA : ¬ hp_ub B bs := fun w => by have w : B ≤ bs := w; omega
  have hac : sg_ac σ ≤ 512 := by omega
  have hsw0 := hsw
  obtain ⟨aI, aO, fI, fO, oa, la, ip, op, sp, lp, LQ, ow, ⟨h1, -⟩, -⟩ := hsw0
  refine lv_aload_n hx hb d_law_491 rfl (lv_at hl 2 rfl) ?_
  refine hp_callv (hp_runV (b := q0) (As := []) (rest := []) hx hb hml hown (cn_Sw_reset l D B M q0 σ (lw_F q1 ad)  hsw) (hp_cwV 0 hts kw_314 kw_316 kw_317 kw_2 kw_315 rfl rfl (by decide +kernel) ⟨(Nat.le_of_ble_eq_true rfl), (Nat.le_of_ble_eq_true rfl)⟩) hK hH h1 rfl rfl hl.1 rfl (Nat.le_of_ble_eq_true rfl) d_law_492 ⟨by show _ ≤ 600000; omega, by show _ ≤ 7302249; omega⟩) hS (fun M_2 H locs w_3 hH hS => ?_)
  obtain ⟨hs1, fr1⟩ := w_3
  have hm1 := lw_md hm fr1
  refine lv_aload_n hx hb d_law_495 rfl (lv_at hl 3 rfl) ?_
  refine hp_callv (hp_runV (b := q1) (As := []) (rest := []) hx hb hml hown (cn_Md_reset l D B M_2 q1 ad th of sl ct cl σ  hm1 hR hinv hac hsei) (hp_cwV 0 hts kw_318 kw_320 kw_321 kw_137 kw_319 rfl rfl (by decide +kernel) ⟨(Nat.le_of_ble_eq_true rfl), (Nat.le_of_ble_eq_true rfl)⟩) hK hH hm1.1 rfl rfl hl.1 rfl (Nat.le_of_ble_eq_true rfl) d_law_496 ⟨by show _ ≤ 600000; omega, by show _ ≤ 7302249; omega⟩) hS (fun M_5 H locs w_6 hH hS => ?_)
  obtain ⟨ct', cl', hm', hf', hR'⟩ := w_6
  refine lv_goto (tgt := 502) hx hb d_law_499 (by decide) ?_
  refine W.widen (k := 53 + (i + 1)) (n := 25008 + 8 * (i + 1)) (by omega) (by omega) ?_
  exact K M_5 _ _ ls (sg_reset σ) 0 of sl ct' cl' (Nat.le_trans hac0 (Nat.le_succ i)) (lw_sw hs1 hf' hm') hm' hR' (sg_inv_reset hinv) (fun o _ d hd => by cases hd) hH hS (lv_sub hl [0, 1, 2, 3] rfl)
end
section
set_option maxHeartbeats 4000000 in
set_option maxRecDepth 100000 in
/-- THE LAW'S LOOP -/
theorem law_loop {p : Program} {l : Launch} {e : Env} {s : State} {m : MethodId} {below : List Frame} {meth : Method} {c : Code} {D : va_G} {B bs L : Nat} {xs : Nat → Int32} (hL : L ≤ 2560) (C0 : lw_At p s m meth c bs L xs) (hB0 : B = s.heap.size) (hK : va_K D classes (hp_T D) s) {q0 q1 : Nat} {ad : Nat → Nat} : ∀ (n i : Nat) (M : hp_M) (H : Heap) (locs : List Loc) (ls : Array Slot) (σ : sg_S) (th of sl : Int32) (ct : Nat → Nat → Int32) (cl : Nat → Nat → Int64), L < 5 * i + n → 5 * i ≤ L → sg_ac σ ≤ i → sw_H D M q0 σ (lw_F q1 ad) → md_H D M q1 ad th of sl ct cl → mo_R σ (fun _ => sg_sl σ - 1) of sl ct cl → sg_inv σ → sg_sei σ → hp_H D B M H → va_S (hp_ub B) s.heap H locs → lv_has ls 4 [(3, .int (nI (5 * i))), (0, .ref bs), (1, .ref q0), (2, .ref q1)] → W p l e room_1 s m #[Value.ref bs] below meth c H locs (53 + i) (25008 + 8 * i) (lw_Z below #[Value.ref bs] s) (F0 m 18 ls []) := by
  have C1 := C0
  obtain ⟨hx, hb, hr, hml, hown, hts0, hX, hbl, hlocks, hgv⟩ := C0
  have hts : ∀ w ∈ wd_T, w.before #[Value.ref bs] s = true := fun w h => hts0 w (wd_out h)
  have hB : B ≤ s.heap.size := by omega
  have hbA : ¬ hp_ub B bs := fun w => by have w : B ≤ bs := w; omega
  intro n
  induction n with
  | zero =>
    intro i M H locs ls σ th of sl ct cl h1 h2
    exact absurd h1 (by omega)
  | succ n ih =>
    intro i M H locs ls σ th of sl ct cl hn hi5 hac0 hsw hm hR hinv hsei hH hS hl
    refine lv_iload_n hx hb d_law_18 rfl (lv_at hl 0 rfl) ?_
    refine lv_aload_n hx hb d_law_19 rfl (lv_at hl 1 rfl) ?_
    refine va_slen hx hb hX hbl hbA hS d_law_20 ?_
    refine lv_iconst (v := 5) hx hb d_law_21 (by decide) ?_
    refine lv_isub hx hb d_law_22 ?_
    refine lv_icmp_gt (tgt := 508) hx hb d_law_23 (by decide) (fun c_1 => ?_) (fun c_1 => ?_)
    · refine lv_iconst (v := 1) hx hb d_law_508 (by decide) ?_
      refine va_forget (fun q hq => by have w : B ≤ q.base := hS.2.2 q hq; omega) ?_
      refine W.widen (k := 600000) (n := 7302249) (by omega) (by omega) ?_
      exact lw_ret hx hb hr hlocks d_law_509
    · have hi : 5 * i + 5 ≤ L := Nat.le_of_not_lt (fun w => c_1 ((lw_cmp hL (by omega)).mpr w))
      refine lv_aload_n hx hb d_law_26 rfl (lv_at hl 1 rfl) ?_
      refine lv_iload_n hx hb d_law_27 rfl (lv_at hl 0 rfl) ?_
      refine hp_sld hx hb hX hbl hbA hS (5 * i) rfl (by omega) (by omega) d_law_28 ?_
      refine lv_bipush (v := 15) hx hb d_law_29 (by decide) ?_
      refine lv_iand hx hb d_law_31 ?_
      obtain ⟨j, hj, ej⟩ := pk_andE (xs (5 * i)) (m := 15) 4 (by decide)
      rw [ej]
      have K : lw_K p l e s m below meth c D B bs q0 q1 ad i := by
        intro M H locs ls σ th of sl ct cl a1 a2 a3 a4 a5 a6 a7 a8 a9
        refine lv_iinc (v := nI (5 * (i + 1))) (lv' := [(3, .int (nI (5 * (i + 1)))), (0, .ref bs), (1, .ref q0), (2, .ref q1)]) hx hb d_law_502 a9 (k := 0) rfl (by rw [show Int32.ofInt 5 = nI 5 from rfl, nI_add]; rfl) (by decide) rfl (fun ls hl => ?_)
        refine lv_goto (tgt := 18) hx hb d_law_505 (by decide) ?_
        exact ih (i + 1) M H locs ls σ th of sl ct cl (by omega) (by omega) a1 a2 a3 a4 a5 a6 a7 a8 hl
      rcases (show j = 0 ∨ j = 1 ∨ j = 2 ∨ j = 3 ∨ j = 4 ∨ j = 5 ∨ j = 6 ∨ j = 7 ∨ j = 8 ∨ j = 9 ∨ j = 10 ∨ j = 11 ∨ j = 12 ∨ j = 13 ∨ j = 14 ∨ j = 15 by omega) with rfl | rfl | rfl | rfl | rfl | rfl | rfl | rfl | rfl | rfl | rfl | rfl | rfl | rfl | rfl | rfl
      · refine lv_tableIn (tgt := 108) (off := 76) hx hb d_law_32 (by decide) (by decide) (by decide) (by decide) ?_
        exact lw_b0 hL C1 hB0 hK hi hac0 hsw hm hR hinv hsei hH hS hl K
      · refine lv_tableIn (tgt := 141) (off := 109) hx hb d_law_32 (by decide) (by decide) (by decide) (by decide) ?_
        exact lw_b1 hL C1 hB0 hK hi hac0 hsw hm hR hinv hsei hH hS hl K
      · refine lv_tableIn (tgt := 184) (off := 152) hx hb d_law_32 (by decide) (by decide) (by decide) (by decide) ?_
        exact lw_b2 hL C1 hB0 hK hi hac0 hsw hm hR hinv hsei hH hS hl K
      · refine lv_tableIn (tgt := 237) (off := 205) hx hb d_law_32 (by decide) (by decide) (by decide) (by decide) ?_
        exact lw_b3 hL C1 hB0 hK hi hac0 hsw hm hR hinv hsei hH hS hl K
      · refine lv_tableIn (tgt := 250) (off := 218) hx hb d_law_32 (by decide) (by decide) (by decide) (by decide) ?_
        exact lw_b4 hL C1 hB0 hK hi hac0 hsw hm hR hinv hsei hH hS hl K
      · refine lv_tableIn (tgt := 263) (off := 231) hx hb d_law_32 (by decide) (by decide) (by decide) (by decide) ?_
        exact lw_b5 hL C1 hB0 hK hi hac0 hsw hm hR hinv hsei hH hS hl K
      · refine lv_tableIn (tgt := 286) (off := 254) hx hb d_law_32 (by decide) (by decide) (by decide) (by decide) ?_
        exact lw_b6 hL C1 hB0 hK hi hac0 hsw hm hR hinv hsei hH hS hl K
      · refine lv_tableIn (tgt := 309) (off := 277) hx hb d_law_32 (by decide) (by decide) (by decide) (by decide) ?_
        exact lw_b7 hL C1 hB0 hK hi hac0 hsw hm hR hinv hsei hH hS hl K
      · refine lv_tableIn (tgt := 332) (off := 300) hx hb d_law_32 (by decide) (by decide) (by decide) (by decide) ?_
        exact lw_b8 hL C1 hB0 hK hi hac0 hsw hm hR hinv hsei hH hS hl K
      · refine lv_tableIn (tgt := 355) (off := 323) hx hb d_law_32 (by decide) (by decide) (by decide) (by decide) ?_
        exact lw_b9 hL C1 hB0 hK hi hac0 hsw hm hR hinv hsei hH hS hl K
      · refine lv_tableIn (tgt := 378) (off := 346) hx hb d_law_32 (by decide) (by decide) (by decide) (by decide) ?_
        exact lw_b10 hL C1 hB0 hK hi hac0 hsw hm hR hinv hsei hH hS hl K
      · refine lv_tableIn (tgt := 401) (off := 369) hx hb d_law_32 (by decide) (by decide) (by decide) (by decide) ?_
        exact lw_b11 hL C1 hB0 hK hi hac0 hsw hm hR hinv hsei hH hS hl K
      · refine lv_tableIn (tgt := 434) (off := 402) hx hb d_law_32 (by decide) (by decide) (by decide) (by decide) ?_
        exact lw_b12 hL C1 hB0 hK hi hac0 hsw hm hR hinv hsei hH hS hl K
      · refine lv_tableIn (tgt := 468) (off := 436) hx hb d_law_32 (by decide) (by decide) (by decide) (by decide) ?_
        exact lw_b13 hL C1 hB0 hK hi hac0 hsw hm hR hinv hsei hH hS hl K
      · refine lv_tableIn (tgt := 491) (off := 459) hx hb d_law_32 (by decide) (by decide) (by decide) (by decide) ?_
        exact lw_b14 hL C1 hB0 hK hi hac0 hsw hm hR hinv hsei hH hS hl K
      · refine lv_tableOut (tgt := 502) hx hb d_law_32 (by decide) (by decide) ?_
        refine W.widen (k := 53 + (i + 1)) (n := 25008 + 8 * (i + 1)) (by omega) (by omega) ?_
        exact K M H locs ls σ th of sl ct cl (by omega) hsw hm hR hinv hsei hH hS hl
end
section
theorem kw_322 : Cond.instantiable R_Sw 4 ∈ wd_T := wd_in (List.mem_of_getElem? (i := 28) (by decide +kernel)) rfl
theorem kw_323 : Cond.instantiable R_Md 20 ∈ wd_T := wd_in (List.mem_of_getElem? (i := 268) (by decide +kernel)) rfl
theorem kw_324 : Cond.classLink R_law 7 R_Sw ∈ wd_T := wd_in (List.mem_of_getElem? (i := 27) (by decide +kernel)) rfl
theorem kw_325 : Cond.methodLink R_law 9 y_Sw_init ∈ wd_T := wd_in (List.mem_of_getElem? (i := 29) (by decide +kernel)) rfl
theorem kw_326 : Cond.instanceMethod y_Sw_init ∈ wd_T := wd_in (List.mem_of_getElem? (i := 30) (by decide +kernel)) rfl
theorem kw_327 : Cond.code y_Sw_init b_Sw_init 2 none ∈ wd_T := wd_in (List.mem_of_getElem? (i := 31) (by decide +kernel)) rfl
theorem kw_328 : Cond.classLink R_law 10 R_Md ∈ wd_T := wd_in (List.mem_of_getElem? (i := 267) (by decide +kernel)) rfl
theorem kw_329 : Cond.methodLink R_law 12 y_Md_init ∈ wd_T := wd_in (List.mem_of_getElem? (i := 269) (by decide +kernel)) rfl
theorem kw_330 : Cond.code y_Md_init b_Md_init 2 none ∈ wd_T := wd_in (List.mem_of_getElem? (i := 271) (by decide +kernel)) rfl
theorem kw_331 : Cond.instanceMethod y_Md_init ∈ wd_T := wd_in (List.mem_of_getElem? (i := 270) (by decide +kernel)) rfl
theorem kx_0 : Cond.methodLinkNest R_Sw 21 y_In_init "EvenSwitch" ∈ lw_tbl := List.mem_of_getElem? (i := 40) (by decide +kernel)
theorem kx_1 : Cond.arrayOver (.object R_In) ∈ lw_tbl := List.mem_of_getElem? (i := 36) (by decide +kernel)
theorem kx_2 : Cond.arrayOver (.object R_Ou) ∈ lw_tbl := List.mem_of_getElem? (i := 38) (by decide +kernel)
set_option maxHeartbeats 4000000 in
set_option maxRecDepth 100000 in
/-- THE LAW, from its entry -/
theorem whole_start {p : Program} {e : Env} {s : State} {m : MethodId} {below : List Frame} {meth : Method} {c : Code} (l : Launch) {b L : Nat} {xs : Nat → Int32} (hL : L ≤ 2560) (C0 : lw_At p s m meth c b L xs) : W p l e room_1 s m #[Value.ref b] below meth c s.heap [] 0 0 (lw_Z below #[Value.ref b] s) (entryFrame m ([Value.ref b] : List Value).toArray 4) := by
  obtain ⟨bs, ebs⟩ : ∃ z, z = b := ⟨_, rfl⟩
  rw [← ebs] at C0 ⊢
  have C1 := C0
  obtain ⟨B, hB0⟩ : ∃ z, z = s.heap.size := ⟨_, rfl⟩
  obtain ⟨hx, hb, hr, hml, hown, hts0, hX, hbl, hlocks, hgv⟩ := C0
  have hts : ∀ w ∈ wd_T, w.before #[Value.ref bs] s = true := fun w h => hts0 w (wd_out h)
  have hB : B ≤ s.heap.size := by omega
  have hbA : ¬ hp_ub B bs := fun w => by have w : B ≤ bs := w; omega
  obtain ⟨c0, iS0, hKn0⟩ := u_known (C := R_Ce) (T := F_Ce) (N := 8) (n := 8) hts iw_Ce (hts _ kw_92)
  obtain ⟨c1, iS1, hKn1⟩ := u_known (C := R_In) (T := F_In) (N := 2) (n := 2) hts iw_In (hts _ kw_127)
  obtain ⟨c2, iS2, hKn2⟩ := u_known (C := R_Ou) (T := F_Ou) (N := 6) (n := 6) hts iw_Ou (hts _ kw_130)
  obtain ⟨c3, iS3, hKn3⟩ := u_known (C := R_Sw) (T := F_Sw) (N := 4) (n := 4) hts iw_Sw (hts _ kw_322)
  obtain ⟨c4, iS4, hKn4⟩ := u_known (C := R_Md) (T := F_Md) (N := 20) (n := 20) hts iw_Md (hts _ kw_323)
  obtain ⟨cI, kI, mI, f1, f2, f3⟩ := Cond.arrayClass_spec (hts _ kw_73)
  obtain ⟨cJ, kJ, mJ, g1, g2, g3⟩ := Cond.arrayClass_spec (hts _ kw_74)
  obtain ⟨mP, cP, kP, p1, -, p3, p4, p5⟩ := Cond.arrayOver_spec (hts0 _ kx_1)
  obtain ⟨mO, cO, kO, o1, -, o3, o4, o5⟩ := Cond.arrayOver_spec (hts0 _ kx_2)
  obtain ⟨D, hK⟩ : ∃ D : va_G, va_K D classes (hp_T D) s := by
    refine ⟨(fun k => if k = 0 then c0 else if k = 1 then c1 else if k = 2 then c2 else if k = 3 then c3 else if k = 4 then c4 else if k = 10 then cI else if k = 11 then cJ else if k = 12 then cP else cO, fun k => if k = 0 then iS0 else if k = 1 then iS1 else if k = 2 then iS2 else if k = 3 then iS3 else iS4), fun k q hq => ?_, fun k q hq => ?_⟩
    · match k, hq with
      | 0, hq => cases hq; exact hKn0
      | 1, hq => cases hq; exact hKn1
      | 2, hq => cases hq; exact hKn2
      | 3, hq => cases hq; exact hKn3
      | 4, hq => cases hq; exact hKn4
      | k + 5, hq => simp [classes] at hq
    · match k, hq with
      | 0, hq => cases hq; exact ⟨fun N z => ⟨(fun k h => by cases h), kI, f2, mI, f3⟩, f1⟩
      | 1, hq => cases hq; exact ⟨fun N z => ⟨(fun k h => by cases h), kJ, g2, mJ, g3⟩, g1⟩
      | 2, hq => cases hq; exact ⟨fun N z => ⟨(fun k h => by cases h), kP, p3, mP, p4⟩, kP, mP, p3, p4, p1, p5⟩
      | 3, hq => cases hq; exact ⟨fun N z => ⟨(fun k h => by cases h), kO, o3, mO, o4⟩, kO, mO, o3, o4, o1, o5⟩
      | k + 4, hq => simp at hq
  have hE : sw_E s := ⟨va_Nw.of rfl (hts0 _ kx_0), va_AO.of (hts0 _ kx_1), va_AO.of (hts0 _ kx_2)⟩
  obtain ⟨M, eM0⟩ : ∃ z : hp_M, z = fun _ => none := ⟨_, rfl⟩
  have hH : hp_H D B M s.heap := hp_0 eM0 hB
  have hS : va_S (hp_ub B) s.heap s.heap [] := va_S.rf
  have hl := lv_entry ([.ref bs]) (n := 4) (Nat.le_of_ble_eq_true rfl)
  rw [lg_entry_eq]
  generalize (lg_sl ([.ref bs]) ++ List.replicate (4 - (lg_sl ([.ref bs])).length) Slot.unset).toArray = ls at hl ⊢
  replace hl : lv_has ls 4 [(0, .ref bs)] := hl
  refine hp_new hx hb hts iw_Sw t_Sw t_Sw_ok hown (hts _ kw_324) (hts _ kw_322) (hts _ kw_2) hK hH hS hB (ci := ix_sw) rfl (fs := [.null, .null, .int 0, .long 0]) (fun j hj => by rcases (show j = 0 ∨ j = 1 ∨ j = 2 ∨ j = 3 by omega) with rfl | rfl | rfl | rfl <;> rfl) (Nat.le_of_ble_eq_true rfl) (Nat.le_of_ble_eq_true rfl) d_law_0 (fun q_1 M_2 H zq_1 eM_2 hH hS => ?_)
  have f_3 : M_2 q_1 = some (.inr (ix_sw, [.null, .null, .int 0, .long 0])) := by rw [eM_2]; exact va_up_self _ _ _
  refine lv_dup hx hb d_law_3 rfl ?_
  refine hp_callv (hp_runI2 (E := sw_E) (b := q_1) (As := []) (rest := [.ref q_1]) sw_E_b (sw_E_w hE) hx hb hml hown (cn_Sw_init l D B M_2 q_1 (fun _ => False) f_3 (fun x h => h.elim)) (hp_cwI 0 hts kw_325 kw_326 kw_2 kw_327 rfl rfl rfl (by decide +kernel) ⟨(Nat.le_of_ble_eq_true rfl), (Nat.le_of_ble_eq_true rfl)⟩) hK hH rfl hl.1 rfl (Nat.le_of_ble_eq_true rfl) d_law_4 ⟨(Nat.le_of_ble_eq_true rfl), (Nat.le_of_ble_eq_true rfl)⟩) hS (fun Ms H locs ws hH hS => ?_)
  obtain ⟨hsw, -⟩ := ws
  refine lv_astore_n (lv' := [(1, .ref q_1), (0, .ref bs)]) hx hb d_law_7 rfl hl (by decide) rfl (fun ls hl => ?_)
  refine hp_new hx hb hts iw_Md t_Md t_Md_ok hown (hts _ kw_328) (hts _ kw_323) (hts _ kw_137) hK hH hS hB (ci := ix_md) rfl (fs := [.int 0, .null, .null, .null, .null, .null, .null, .null, .null, .null, .null, .null, .null, .null, .null, .int 0, .int 0, .null, .null, .null]) (fun j hj => by rcases (show j = 0 ∨ j = 1 ∨ j = 2 ∨ j = 3 ∨ j = 4 ∨ j = 5 ∨ j = 6 ∨ j = 7 ∨ j = 8 ∨ j = 9 ∨ j = 10 ∨ j = 11 ∨ j = 12 ∨ j = 13 ∨ j = 14 ∨ j = 15 ∨ j = 16 ∨ j = 17 ∨ j = 18 ∨ j = 19 by omega) with rfl | rfl | rfl | rfl | rfl | rfl | rfl | rfl | rfl | rfl | rfl | rfl | rfl | rfl | rfl | rfl | rfl | rfl | rfl | rfl <;> rfl) (Nat.le_of_ble_eq_true rfl) (Nat.le_of_ble_eq_true rfl) d_law_8 (fun q_4 M_5 H zq_4 eM_5 hH hS => ?_)
  have f_6 : M_5 q_4 = some (.inr (ix_md, [.int 0, .null, .null, .null, .null, .null, .null, .null, .null, .null, .null, .null, .null, .null, .null, .int 0, .int 0, .null, .null, .null])) := by rw [eM_5]; exact va_up_self _ _ _
  refine lv_dup hx hb d_law_11 rfl ?_
  refine hp_callv (hp_runI (b := q_4) (As := []) (rest := [.ref q_4]) hx hb hml hown (cn_Md_init l D B M_5 q_4 f_6) (hp_cwI 0 hts kw_329 kw_331 kw_137 kw_330 rfl rfl rfl (by decide +kernel) ⟨(Nat.le_of_ble_eq_true rfl), (Nat.le_of_ble_eq_true rfl)⟩) hK hH rfl hl.1 rfl (Nat.le_of_ble_eq_true rfl) d_law_12 ⟨(Nat.le_of_ble_eq_true rfl), (Nat.le_of_ble_eq_true rfl)⟩) hS (fun M_8 H locs w_9 hH hS => ?_)
  obtain ⟨ad, ct', cl', hm, hR, hfr, hz⟩ := w_9
  have hz' : ∀ j, j < 17 → Ms (ad j) = none := fun j hj => by
    have h := hz j hj
    have hn : ad j ≠ q_4 := fun w => by rw [w, eM_5, va_up_self] at h; cases h
    rw [eM_5, va_up_ne _ _ hn] at h; exact h
  have hkeep : ∀ x, Ms x ≠ none → M_8 x = Ms x := fun x hx => by
    have hn : x ≠ q_4 := fun w => hx (by rw [w]; exact zq_4)
    have h2 : M_5 x = Ms x := by rw [eM_5, va_up_ne _ _ hn]
    rw [hfr x (by rw [h2]; exact hx) hn, h2]
  have hsw1 : sw_H D M_8 q_1 sg_0 (lw_F q_4 ad) := lw_new hsw hkeep (fun x hx => ⟨by rcases hx with w | ⟨j, hj, w⟩ <;> rw [w]; exact zq_4; exact hz' j hj, lw_some hm x hx⟩)
  refine lv_astore_n (lv' := [(2, .ref q_4), (1, .ref q_1), (0, .ref bs)]) hx hb d_law_15 rfl hl (by decide) rfl (fun ls hl => ?_)
  refine lv_iconst (v := 0) hx hb d_law_16 (by decide) ?_
  refine lv_istore_n (lv' := [(3, .int 0), (2, .ref q_4), (1, .ref q_1), (0, .ref bs)]) hx hb d_law_17 rfl hl (by decide) rfl (fun ls hl => ?_)
  exact law_loop hL C1 hB0 hK (L + 1) 0 M_8 _ _ ls sg_0 0 0 0 ct' cl' (by omega) (by omega) (Nat.le_refl 0) hsw1 hm hR sg_inv_0 sg_sei_0 hH hS (lv_sub hl [0, 3, 2, 1] rfl)
end
section
-- ===== YOUR PART ENDS =====
set_option maxHeartbeats 4000000 in
theorem lw_walk (l : Launch) (b : Addr) (xs : List Int32) : MetFree l x (headSpec (Jvm.Cond.code x code maxLocals ret :: tables_1) room_1) (lw_P b xs) (fun _ _ _ _ _ => True) lw_Q := by
  refine MetFree.of_bodyS (code := code) (maxLocals := maxLocals) (ret := ret) (by decide) ?_ ?_
  · intro args s m h hn
    obtain ⟨meth, c, h1, h2, h3, h4, h5, h6, -, -⟩ := Cond.code_spec hn (atoms_spec (ws := Jvm.Cond.code x code maxLocals ret :: tables_1) h _ List.mem_cons_self)
    exact ⟨meth, c, h1, h2, h3, h4, h5, h6⟩
  · intro p e s m args below meth c s₁ B hml0 hP _
    obtain ⟨rfl, hx, hbd, hgv⟩ := hP
    obtain ⟨scr, harrAt, hlist, hof, hsmall⟩ := hx
    obtain ⟨hcb, hkn, -, -⟩ := State.arrayAt?_spec harrAt
    have hown : s.vm.findClass R_law = some m.cls := findClass_of_methodNamed B.named
    have hts0 : ∀ c ∈ (Jvm.Cond.code x code maxLocals ret :: tables_1), c.before #[Value.ref b] s = true := atoms_spec (ws := Jvm.Cond.code x code maxLocals ret :: tables_1) B.pre
    have hts : ∀ w ∈ lw_tbl, w.before #[Value.ref b] s = true := k2_hts_sels lw_privs (fun w hw => hts0 w (List.mem_cons_of_mem _ hw)) lw_privs_ok
    have hml : c.maxLocals = 4 := B.maxLocals_eq (hts0 _ List.mem_cons_self)
    have X₀ : Stand p l e room_1 s m #[Value.ref b] below meth c s₁ [] 0 0 := Stand.of_body B
    have hh0 : s₁.heap = s.heap := by rw [B.state]; rfl
    have hsz : scr.slots.size = xs.length := by rw [← Array.length_toList, hlist, List.length_map]
    have hval : ∀ j : Nat, j < xs.length → scr.slots[j]? = some (.int (xs.getD j 0)) := fun j hj => by
      rw [← Array.getElem?_toList, hlist]
      simp [hj]
    have hbl : b < s.heap.size := (Array.getElem?_eq_some_iff.mp hcb).1
    have hX : va_X b xs.length (fun j => xs.getD j 0) s s.heap := ⟨scr, hcb, hof, hkn, hsz, hval⟩
    have K : W p l e room_1 s m #[Value.ref b] below meth c s₁.heap [] 0 0 (lw_Z below #[Value.ref b] s) (entryFrame m ([Value.ref b] : List Value).toArray 4) := by
      rw [hh0]
      exact whole_start l hbd ⟨B.exec, B.bytes, B.returns, hml, hown, hts, hX, hbl, B.notSynchronized, hgv⟩
    obtain ⟨t, a1, o, b1, b2, b3⟩ := K s₁ rfl X₀
    exact ⟨t, o, a1, b1, b2, b3⟩
theorem lw_pre_spec {args : Array Value} {s : State} (h : (Jvm.Cond.and given_1 narrow_1).before args s = true) (hr : rest_1_c.before args s = true) : ∃ (b : Addr) (xs : List Int32), lw_P b xs args s := by
  have hs := flat_of_before _ h
  have hq := flat_of_before _ hr
  have hc : (Cond.count 1).before args s = true := hs _ (by decide +kernel)
  have harr : (Cond.arrayOf (.arg 0) .int).before args s = true := hs _ (by decide +kernel)
  have hle : (Cond.le (.length (.arg 0)) (.int 2560)).before args s = true := hs _ (by decide +kernel)
  have hlen : (Cond.isInt (.length (.arg 0))).before args s = true := hq _ (by decide +kernel)
  have hall : (Cond.all (.arg 0) (.isInt (.elem (.arg 0) (.index 0)))).before args s = true := hq _ (by decide +kernel)
  obtain ⟨b, xs, hb, hx⟩ := State.ints_of_pre rfl harr hlen hall
  have hsm : xs.length < 2 ^ 31 := hx.choose_spec.2.2.2
  have hev : (Term.length (.arg 0)).eval args s none [] s = some (.int xs.length.toInt32) := hx.length_eval hb
  have hv := Cond.le_ints hev (show (Term.int 2560).eval args s none [] s = some (.int 2560) from rfl)
  have hd : xs.length.toInt32 ≤ 2560 := by
    simpa [Cond.before, Cond.holds, hv] using hle
  have hN : xs.length ≤ 2560 := (Int32.ofNat_le_ofNat hsm (by decide)).mp (show Int32.ofNat xs.length ≤ Int32.ofNat 2560 from hd)
  exact ⟨b, xs, Cond.one_arg hc (show args[0]? = some (.ref b) from hb), hx, hN, h⟩
theorem lw_comes (l : Launch) : Comes l x (Jvm.Cond.code x code maxLocals ret :: tables_1) room_1 (fun tb e args s => Calls_1 tb e args s ∧ rest_1 tb e args s ∧ Pre_1 tb e args s)
    (fun _ _ args s o t => lw_Q args s o t) := by
  intro p e ha hc hk s m args below hf hfit hheap happ hpre
  obtain ⟨b, xs, hP⟩ := lw_pre_spec hpre.2.2 hpre.2.1
  obtain ⟨k, o, h1, h2, h3, hQ⟩ := lw_walk l b xs p e ha hc hk s m args below hf ((Spec.applies_iff_loose hf).mp happ).1 hP trivial
  exact ⟨k, o, h1, h2, h3, hQ⟩
theorem lw_frame {s t : State} {o : Outcome} {args : Array Value} (h : Framed s o t [] 600000 7302249) :
    Framed s o t (fieldLocs frame_1_writes args s ++ arrayLocs frame_1_arrays args s ++ staticLocs frame_1_statics s) 600000 7302249 := h
theorem lw_limb (L : Cond) (hL : ∀ (args : Array Value) (s t : State), L.after args s (.returned (some (.int 1))) t = true) :
    ArmFor flags0 classFile x code maxLocals ret World_1 tables_1 room_1 Calls_1 rest_1 Pre_1
      (fun tb e a s o t => postC L tb e a s o t ∧ Framed s o t (fieldLocs frame_1_writes a s ++ arrayLocs frame_1_arrays a s ++ staticLocs frame_1_statics s) 600000 7302249) := by
  intro l _ _ _ p e ha hc hk s m args below hf hfit hheap happ hpre
  obtain ⟨k, o, h1, h2, h3, rfl, hF⟩ := lw_comes l p e ha hc hk s m args below hf hfit hheap happ hpre
  exact ⟨k, _, h1, h2, h3, hL args s _, lw_frame hF⟩
theorem i_vc : Claimed_1_1 ∧ Claimed_1_2 := ⟨lw_limb limb_1_1 (fun args s t => by simp [limb_1_1, Cond.after, Cond.holds, Cond.value]), lw_limb limb_1_2 (fun args s t => Cond.after_iff.mpr (by
  first | (rw [show limb_1_2 = Cond.eq .result (.int 1) from rfl, Cond.eq_ints (x := 1) (y := 1) rfl rfl]; simp; done) | (simp [limb_1_2, Cond.value, Term.eval]; done)))⟩
end
