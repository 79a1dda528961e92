theorem kw_25 : Cond.fieldLink R_Ou 19 "EvenSwitch$Output" "lastTimes" "[J" ∈ wd_T := wd_in (List.mem_of_getElem? (i := 66) (by decide +kernel)) rfl
theorem kw_26 : Cond.methodLink R_Ou 78 y_Ar_fill_l ∈ wd_T := wd_in (List.mem_of_getElem? (i := 203) (by decide +kernel)) rfl
theorem kw_27 : Cond.initialized R_Ar ∈ wd_T := wd_in (List.mem_of_getElem? (i := 23) (by decide +kernel)) rfl
theorem kw_28 : Cond.code y_Ar_fill_l b_Ar_fill_l 5 none ∈ wd_T := wd_in (List.mem_of_getElem? (i := 205) (by decide +kernel)) rfl
theorem kw_29 : Cond.static y_Ar_fill_l ∈ wd_T := wd_in (List.mem_of_getElem? (i := 204) (by decide +kernel)) rfl
theorem kw_30 : Cond.fieldLink R_Ou 58 "EvenSwitch$Output" "head" "LEvenSwitch$Cell;" ∈ wd_T := wd_in (List.mem_of_getElem? (i := 67) (by decide +kernel)) rfl
theorem kw_31 : Cond.fieldLink R_Ou 69 "EvenSwitch$Output" "length" "I" ∈ wd_T := wd_in (List.mem_of_getElem? (i := 70) (by decide +kernel)) rfl
theorem kw_32 : Cond.fieldLink R_Ou 72 "EvenSwitch$Output" "latest" "LEvenSwitch$Cell;" ∈ wd_T := wd_in (List.mem_of_getElem? (i := 71) (by decide +kernel)) rfl
theorem kw_33 : Cond.methodLink R_Ou 75 y_Ou_forgetTimes ∈ wd_T := wd_in (List.mem_of_getElem? (i := 199) (by decide +kernel)) rfl
theorem kw_34 : Cond.initialized R_Ou ∈ wd_T := wd_in (List.mem_of_getElem? (i := 22) (by decide +kernel)) rfl
theorem kw_35 : Cond.code y_Ou_forgetTimes b_Ou_forgetTimes 1 none ∈ wd_T := wd_in (List.mem_of_getElem? (i := 202) (by decide +kernel)) rfl
theorem kw_36 : Cond.instanceMethod y_Ou_forgetTimes ∈ wd_T := wd_in (List.mem_of_getElem? (i := 201) (by decide +kernel)) rfl
theorem kw_37 : Cond.selects R_Ou y_Ou_forgetTimes y_Ou_forgetTimes ∈ wd_T := wd_in (List.mem_of_getElem? (i := 6) (by decide +kernel)) rfl
theorem kw_38 : Cond.fieldLink R_In 7 "EvenSwitch$Input" "offered" "LEvenSwitch$Cell;" ∈ wd_T := wd_in (List.mem_of_getElem? (i := 44) (by decide +kernel)) rfl
theorem kw_39 : Cond.fieldLink R_In 13 "EvenSwitch$Input" "held" "I" ∈ wd_T := wd_in (List.mem_of_getElem? (i := 46) (by decide +kernel)) rfl
theorem kw_40 : Cond.constantLong R_Ou 43 256 ∈ wd_T := wd_in (List.mem_of_getElem? (i := 179) (by decide +kernel)) rfl
theorem kw_41 : Cond.fieldLink R_Ou 45 "EvenSwitch$Cell" "group" "I" ∈ wd_T := wd_in (List.mem_of_getElem? (i := 135) (by decide +kernel)) rfl
theorem kw_42 : Cond.methodLink R_Ou 48 Lib.MathLoose.max_long.x ∈ wd_T := wd_in (List.mem_of_getElem? (i := 180) (by decide +kernel)) rfl
theorem kw_43 : Cond.static Lib.MathLoose.max_long.x ∈ wd_T := wd_in (List.mem_of_getElem? (i := 181) (by decide +kernel)) rfl
theorem kw_44 : Cond.initialized "java/lang/Math" ∈ wd_T := wd_in (List.mem_of_getElem? (i := 26) (by decide +kernel)) rfl
theorem kw_45 : Cond.code Lib.MathLoose.max_long.x Lib.MathLoose.max_long.code 4 (some .long) ∈ wd_T := wd_in (List.mem_of_getElem? (i := 182) (by decide +kernel)) rfl
theorem kw_46 : Cond.fieldLink R_Ou 15 "EvenSwitch$Output" "steps" "[I" ∈ wd_T := wd_in (List.mem_of_getElem? (i := 64) (by decide +kernel)) rfl
theorem kw_47 : Cond.fieldLink R_Ou 54 "EvenSwitch$Cell" "time" "J" ∈ wd_T := wd_in (List.mem_of_getElem? (i := 142) (by decide +kernel)) rfl
theorem kw_48 : Cond.fieldLink R_Ou 9 "EvenSwitch$Output" "kind" "I" ∈ wd_T := wd_in (List.mem_of_getElem? (i := 62) (by decide +kernel)) rfl
theorem d_Ar_fill_i_0 : decode b_Ar_fill_i 0 = .ok (.iconst 0, 1) := by decide +kernel
theorem d_Ar_fill_i_1 : decode b_Ar_fill_i 1 = .ok (.istore_n 2, 1) := by decide +kernel
theorem d_Ar_fill_i_2 : decode b_Ar_fill_i 2 = .ok (.aload_n 0, 1) := by decide +kernel
theorem d_Ar_fill_i_3 : decode b_Ar_fill_i 3 = .ok (.arraylength, 1) := by decide +kernel
theorem d_Ar_fill_i_4 : decode b_Ar_fill_i 4 = .ok (.istore_n 3, 1) := by decide +kernel
theorem d_Ar_fill_i_5 : decode b_Ar_fill_i 5 = .ok (.iload_n 2, 1) := by decide +kernel
theorem d_Ar_fill_i_6 : decode b_Ar_fill_i 6 = .ok (.iload_n 3, 1) := by decide +kernel
theorem d_Ar_fill_i_7 : decode b_Ar_fill_i 7 = .ok (.if_icmp .ge 13, 3) := by decide +kernel
theorem d_Ar_fill_i_10 : decode b_Ar_fill_i 10 = .ok (.aload_n 0, 1) := by decide +kernel
theorem d_Ar_fill_i_11 : decode b_Ar_fill_i 11 = .ok (.iload_n 2, 1) := by decide +kernel
theorem d_Ar_fill_i_12 : decode b_Ar_fill_i 12 = .ok (.iload_n 1, 1) := by decide +kernel
theorem d_Ar_fill_i_13 : decode b_Ar_fill_i 13 = .ok (.iastore, 1) := by decide +kernel
theorem d_Ar_fill_i_14 : decode b_Ar_fill_i 14 = .ok (.iinc 2 1, 3) := by decide +kernel
theorem d_Ar_fill_i_17 : decode b_Ar_fill_i 17 = .ok (.goto (-12), 3) := by decide +kernel
theorem d_Ar_fill_i_20 : decode b_Ar_fill_i 20 = .ok (.return_, 1) := by decide +kernel
theorem d_Ar_fill_l_0 : decode b_Ar_fill_l 0 = .ok (.iconst 0, 1) := by decide +kernel
theorem d_Ar_fill_l_1 : decode b_Ar_fill_l 1 = .ok (.istore_n 3, 1) := by decide +kernel
theorem d_Ar_fill_l_2 : decode b_Ar_fill_l 2 = .ok (.aload_n 0, 1) := by decide +kernel
theorem d_Ar_fill_l_3 : decode b_Ar_fill_l 3 = .ok (.arraylength, 1) := by decide +kernel
theorem d_Ar_fill_l_4 : decode b_Ar_fill_l 4 = .ok (.istore 4, 2) := by decide +kernel
theorem d_Ar_fill_l_6 : decode b_Ar_fill_l 6 = .ok (.iload_n 3, 1) := by decide +kernel
theorem d_Ar_fill_l_7 : decode b_Ar_fill_l 7 = .ok (.iload 4, 2) := by decide +kernel
theorem d_Ar_fill_l_9 : decode b_Ar_fill_l 9 = .ok (.if_icmp .ge 13, 3) := by decide +kernel
theorem d_Ar_fill_l_12 : decode b_Ar_fill_l 12 = .ok (.aload_n 0, 1) := by decide +kernel
theorem d_Ar_fill_l_13 : decode b_Ar_fill_l 13 = .ok (.iload_n 3, 1) := by decide +kernel
theorem d_Ar_fill_l_14 : decode b_Ar_fill_l 14 = .ok (.lload_n 1, 1) := by decide +kernel
theorem d_Ar_fill_l_15 : decode b_Ar_fill_l 15 = .ok (.lastore, 1) := by decide +kernel
theorem d_Ar_fill_l_16 : decode b_Ar_fill_l 16 = .ok (.iinc 3 1, 3) := by decide +kernel
theorem d_Ar_fill_l_19 : decode b_Ar_fill_l 19 = .ok (.goto (-13), 3) := by decide +kernel
theorem d_Ar_fill_l_22 : decode b_Ar_fill_l 22 = .ok (.return_, 1) := by decide +kernel
theorem d_Ou_forgetTimes_0 : decode b_Ou_forgetTimes 0 = .ok (.aload_n 0, 1) := by decide +kernel
theorem d_Ou_forgetTimes_1 : decode b_Ou_forgetTimes 1 = .ok (.getfield 19, 3) := by decide +kernel
theorem d_Ou_forgetTimes_4 : decode b_Ou_forgetTimes 4 = .ok (.lconst 0, 1) := by decide +kernel
theorem d_Ou_forgetTimes_5 : decode b_Ou_forgetTimes 5 = .ok (.invokestatic 78, 3) := by decide +kernel
theorem d_Ou_forgetTimes_8 : decode b_Ou_forgetTimes 8 = .ok (.return_, 1) := by decide +kernel
theorem d_Ou_dropCells_0 : decode b_Ou_dropCells 0 = .ok (.aload_n 0, 1) := by decide +kernel
theorem d_Ou_dropCells_1 : decode b_Ou_dropCells 1 = .ok (.aconst_null, 1) := by decide +kernel
theorem d_Ou_dropCells_2 : decode b_Ou_dropCells 2 = .ok (.putfield 58, 3) := by decide +kernel
theorem d_Ou_dropCells_5 : decode b_Ou_dropCells 5 = .ok (.aload_n 0, 1) := by decide +kernel
theorem d_Ou_dropCells_6 : decode b_Ou_dropCells 6 = .ok (.iconst 0, 1) := by decide +kernel
theorem d_Ou_dropCells_7 : decode b_Ou_dropCells 7 = .ok (.putfield 69, 3) := by decide +kernel
theorem d_Ou_dropCells_10 : decode b_Ou_dropCells 10 = .ok (.aload_n 0, 1) := by decide +kernel
theorem d_Ou_dropCells_11 : decode b_Ou_dropCells 11 = .ok (.aconst_null, 1) := by decide +kernel
theorem d_Ou_dropCells_12 : decode b_Ou_dropCells 12 = .ok (.putfield 72, 3) := by decide +kernel
theorem d_Ou_dropCells_15 : decode b_Ou_dropCells 15 = .ok (.aload_n 0, 1) := by decide +kernel
theorem d_Ou_dropCells_16 : decode b_Ou_dropCells 16 = .ok (.invokevirtual 75, 3) := by decide +kernel
theorem d_Ou_dropCells_19 : decode b_Ou_dropCells 19 = .ok (.return_, 1) := by decide +kernel
theorem d_In_dropCells_0 : decode b_In_dropCells 0 = .ok (.aload_n 0, 1) := by decide +kernel
theorem d_In_dropCells_1 : decode b_In_dropCells 1 = .ok (.aconst_null, 1) := by decide +kernel
theorem d_In_dropCells_2 : decode b_In_dropCells 2 = .ok (.putfield 7, 3) := by decide +kernel
theorem d_In_dropCells_5 : decode b_In_dropCells 5 = .ok (.aload_n 0, 1) := by decide +kernel
theorem d_In_dropCells_6 : decode b_In_dropCells 6 = .ok (.iconst 0, 1) := by decide +kernel
theorem d_In_dropCells_7 : decode b_In_dropCells 7 = .ok (.putfield 13, 3) := by decide +kernel
theorem d_In_dropCells_10 : decode b_In_dropCells 10 = .ok (.return_, 1) := by decide +kernel
theorem d_Ou_stamp_0 : decode b_Ou_stamp 0 = .ok (.ldc2_w 43, 3) := by decide +kernel
theorem d_Ou_stamp_3 : decode b_Ou_stamp 3 = .ok (.iload_n 2, 1) := by decide +kernel
theorem d_Ou_stamp_4 : decode b_Ou_stamp 4 = .ok (.i2l, 1) := by decide +kernel
theorem d_Ou_stamp_5 : decode b_Ou_stamp 5 = .ok (.lmul, 1) := by decide +kernel
theorem d_Ou_stamp_6 : decode b_Ou_stamp 6 = .ok (.aload_n 0, 1) := by decide +kernel
theorem d_Ou_stamp_7 : decode b_Ou_stamp 7 = .ok (.getfield 19, 3) := by decide +kernel
theorem d_Ou_stamp_10 : decode b_Ou_stamp 10 = .ok (.aload_n 1, 1) := by decide +kernel
theorem d_Ou_stamp_11 : decode b_Ou_stamp 11 = .ok (.getfield 45, 3) := by decide +kernel
theorem d_Ou_stamp_14 : decode b_Ou_stamp 14 = .ok (.laload, 1) := by decide +kernel
theorem d_Ou_stamp_15 : decode b_Ou_stamp 15 = .ok (.invokestatic 48, 3) := by decide +kernel
theorem d_Ou_stamp_18 : decode b_Ou_stamp 18 = .ok (.lstore_n 3, 1) := by decide +kernel
theorem d_Ou_stamp_19 : decode b_Ou_stamp 19 = .ok (.aload_n 1, 1) := by decide +kernel
theorem d_Ou_stamp_20 : decode b_Ou_stamp 20 = .ok (.lload_n 3, 1) := by decide +kernel
theorem d_Ou_stamp_21 : decode b_Ou_stamp 21 = .ok (.aload_n 0, 1) := by decide +kernel
theorem d_Ou_stamp_22 : decode b_Ou_stamp 22 = .ok (.getfield 15, 3) := by decide +kernel
theorem d_Ou_stamp_25 : decode b_Ou_stamp 25 = .ok (.aload_n 1, 1) := by decide +kernel
theorem d_Ou_stamp_26 : decode b_Ou_stamp 26 = .ok (.getfield 45, 3) := by decide +kernel
theorem d_Ou_stamp_29 : decode b_Ou_stamp 29 = .ok (.iaload, 1) := by decide +kernel
theorem d_Ou_stamp_30 : decode b_Ou_stamp 30 = .ok (.i2l, 1) := by decide +kernel
theorem d_Ou_stamp_31 : decode b_Ou_stamp 31 = .ok (.ladd, 1) := by decide +kernel
theorem d_Ou_stamp_32 : decode b_Ou_stamp 32 = .ok (.putfield 54, 3) := by decide +kernel
theorem d_Ou_stamp_35 : decode b_Ou_stamp 35 = .ok (.aload_n 0, 1) := by decide +kernel
theorem d_Ou_stamp_36 : decode b_Ou_stamp 36 = .ok (.getfield 19, 3) := by decide +kernel
theorem d_Ou_stamp_39 : decode b_Ou_stamp 39 = .ok (.aload_n 1, 1) := by decide +kernel
theorem d_Ou_stamp_40 : decode b_Ou_stamp 40 = .ok (.getfield 45, 3) := by decide +kernel
theorem d_Ou_stamp_43 : decode b_Ou_stamp 43 = .ok (.aload_n 1, 1) := by decide +kernel
theorem d_Ou_stamp_44 : decode b_Ou_stamp 44 = .ok (.getfield 54, 3) := by decide +kernel
theorem d_Ou_stamp_47 : decode b_Ou_stamp 47 = .ok (.lastore, 1) := by decide +kernel
theorem d_Ou_stamp_48 : decode b_Ou_stamp 48 = .ok (.return_, 1) := by decide +kernel
theorem d_Ou_isBefore_0 : decode b_Ou_isBefore 0 = .ok (.aload_n 0, 1) := by decide +kernel
theorem d_Ou_isBefore_1 : decode b_Ou_isBefore 1 = .ok (.getfield 9, 3) := by decide +kernel
theorem d_Ou_isBefore_4 : decode b_Ou_isBefore 4 = .ok (.lookupswitch 63 #[(1, 28), (2, 45)], 28) := by decide +kernel
theorem d_Ou_isBefore_32 : decode b_Ou_isBefore 32 = .ok (.aload_n 1, 1) := by decide +kernel
theorem d_Ou_isBefore_33 : decode b_Ou_isBefore 33 = .ok (.getfield 45, 3) := by decide +kernel
theorem d_Ou_isBefore_36 : decode b_Ou_isBefore 36 = .ok (.aload_n 2, 1) := by decide +kernel
theorem d_Ou_isBefore_37 : decode b_Ou_isBefore 37 = .ok (.getfield 45, 3) := by decide +kernel
theorem d_Ou_isBefore_40 : decode b_Ou_isBefore 40 = .ok (.if_icmp .ge 7, 3) := by decide +kernel
theorem d_Ou_isBefore_43 : decode b_Ou_isBefore 43 = .ok (.iconst 1, 1) := by decide +kernel
theorem d_Ou_isBefore_44 : decode b_Ou_isBefore 44 = .ok (.goto 4, 3) := by decide +kernel
theorem d_Ou_isBefore_47 : decode b_Ou_isBefore 47 = .ok (.iconst 0, 1) := by decide +kernel
theorem d_Ou_isBefore_48 : decode b_Ou_isBefore 48 = .ok (.ireturn, 1) := by decide +kernel
theorem d_Ou_isBefore_49 : decode b_Ou_isBefore 49 = .ok (.aload_n 1, 1) := by decide +kernel
theorem d_Ou_isBefore_50 : decode b_Ou_isBefore 50 = .ok (.getfield 54, 3) := by decide +kernel
theorem d_Ou_isBefore_53 : decode b_Ou_isBefore 53 = .ok (.aload_n 2, 1) := by decide +kernel
theorem d_Ou_isBefore_54 : decode b_Ou_isBefore 54 = .ok (.getfield 54, 3) := by decide +kernel
theorem d_Ou_isBefore_57 : decode b_Ou_isBefore 57 = .ok (.lcmp, 1) := by decide +kernel
theorem d_Ou_isBefore_58 : decode b_Ou_isBefore 58 = .ok (.ifCond .ge 7, 3) := by decide +kernel
theorem d_Ou_isBefore_61 : decode b_Ou_isBefore 61 = .ok (.iconst 1, 1) := by decide +kernel
theorem d_Ou_isBefore_62 : decode b_Ou_isBefore 62 = .ok (.goto 4, 3) := by decide +kernel
theorem d_Ou_isBefore_65 : decode b_Ou_isBefore 65 = .ok (.iconst 0, 1) := by decide +kernel
theorem d_Ou_isBefore_66 : decode b_Ou_isBefore 66 = .ok (.ireturn, 1) := by decide +kernel
theorem d_Ou_isBefore_67 : decode b_Ou_isBefore 67 = .ok (.iconst 0, 1) := by decide +kernel
theorem d_Ou_isBefore_68 : decode b_Ou_isBefore 68 = .ok (.ireturn, 1) := by decide +kernel
abbrev rm_Ar_fill_i : Room := { frames := 0, cells := 0, slots := 0, locals := 0 }
set_option maxHeartbeats 4000000 in
set_option maxRecDepth 100000 in
theorem cn_Ar_fill_i (l : Launch) (D : va_G) (B : Nat) (M : hp_M) (a n : Nat) (f : Nat → Int32) (v : Int32) (ha : M a = some (hp_ai D n f)) (hn0 : n < 2 ^ 31) : Met l y_Ar_fill_i (wd_c y_Ar_fill_i b_Ar_fill_i 4 (none)) rm_Ar_fill_i (va_Pc [.ref a, .int v] (hp_C D B M)) (va_Qv (fun  (M1 : hp_M) => ∃ g : Nat → Int32, (∀ j, j < n → g j = v) ∧ M1 = va_up M a (some (hp_ai D n g))) (hp_C D B) (hp_ub B)) 0 0 (hp_ub B) := by
  refine hp_met (by decide) (Nat.le_of_ble_eq_true rfl) ?_
  intro p e s m args below meth cd ls Q hQ hx hb hr hts hown hlocks hnm hml hK hH hS hB hl
  replace hl : lv_has ls 4 [(0, .ref a), (1, .int v)] := hl
  refine lv_iconst (v := 0) hx hb d_Ar_fill_i_0 (by decide) ?_
  refine lv_istore_n (lv' := [(2, .int 0), (0, .ref a), (1, .int v)]) hx hb d_Ar_fill_i_1 rfl hl (by decide) rfl (fun ls hl => ?_)
  refine lv_aload_n hx hb d_Ar_fill_i_2 rfl (lv_at hl 1 rfl) ?_
  refine hp_alen hx hb hK hH ha 0 rfl d_Ar_fill_i_3 ?_
  refine lv_istore_n (lv' := [(3, .int (nI n)), (2, .int 0), (0, .ref a), (1, .int v)]) hx hb d_Ar_fill_i_4 rfl hl (by decide) rfl (fun ls hl => ?_)
  have Lp : ∀ (k pp : Nat) (g : Nat → Int32) (M2 : hp_M) (H : Heap) (locs : List Loc) (ls : Array Slot), pp + k = n → (∀ j, j < pp → g j = v) → M2 = va_up M a (some (hp_ai D n g)) → hp_H D B M2 H → va_S (hp_ub B) s.heap H locs → lv_has ls 4 [(2, .int (nI pp)), (3, .int (nI n)), (0, .ref a), (1, .int v)] → W p l e rm_Ar_fill_i s m args below meth cd H locs 0 0 Q (F0 m 5 ls []) := by
    intro k
    induction k with
    | zero =>
      intro pp g M2 H locs ls hn hg eM hH hS hl
      have fa : M2 a = some (hp_ai D n g) := by rw [eM]; exact va_up_self _ _ _
      refine lv_iload_n hx hb d_Ar_fill_i_5 rfl (lv_at hl 0 rfl) ?_
      refine lv_iload_n hx hb d_Ar_fill_i_6 rfl (lv_at hl 1 rfl) ?_
      refine lv_icmp_ge (tgt := 20) hx hb d_Ar_fill_i_7 (by decide) (fun c_1 => ?_) (fun c_1 => absurd (nI_le (by omega) (by omega)) c_1)
      exact hp_vret hx hb hr hlocks hQ hK hH hS (Nat.le_of_ble_eq_true rfl) (Nat.le_of_ble_eq_true rfl) d_Ar_fill_i_20 ⟨g, fun j hj => hg j (by omega), eM⟩
    | succ k ih =>
      intro pp g M2 H locs ls hn hg eM hH hS hl
      have fa : M2 a = some (hp_ai D n g) := by rw [eM]; exact va_up_self _ _ _
      refine lv_iload_n hx hb d_Ar_fill_i_5 rfl (lv_at hl 0 rfl) ?_
      refine lv_iload_n hx hb d_Ar_fill_i_6 rfl (lv_at hl 1 rfl) ?_
      refine lv_icmp_ge (tgt := 20) hx hb d_Ar_fill_i_7 (by decide) (fun c_2 => absurd c_2 (nI_ge (by omega) (by omega))) (fun c_2 => ?_)
      refine lv_aload_n hx hb d_Ar_fill_i_10 rfl (lv_at hl 2 rfl) ?_
      refine lv_iload_n hx hb d_Ar_fill_i_11 rfl (lv_at hl 0 rfl) ?_
      refine lv_iload_n hx hb d_Ar_fill_i_12 rfl (lv_at hl 3 rfl) ?_
      refine hp_iast hx hb hK hH hS hB fa pp rfl (by omega) hn0 d_Ar_fill_i_13 (fun M_3 H locs eM_3 hH hS => ?_)
      have f_4 : M_3 a = some (hp_ai D n (upd g pp v)) := by rw [eM_3]; exact va_up_self _ _ _
      refine lv_iinc (v := nI (pp + 1)) (lv' := [(2, .int (nI (pp + 1))), (3, .int (nI n)), (0, .ref a), (1, .int v)]) hx hb d_Ar_fill_i_14 hl (k := 0) rfl (nI_1 pp) (by decide) rfl (fun ls hl => ?_)
      refine lv_goto (tgt := 5) hx hb d_Ar_fill_i_17 (by decide) ?_
      exact ih (pp + 1) _ M_3 H locs ls (by omega) (hp_fi hg) (by rw [eM_3, eM, hp_uu]) hH hS (lv_sub hl [0, 1, 2, 3] rfl)
  exact Lp n 0 f M _ _ ls (by omega) (fun j hj => absurd hj (Nat.not_lt_zero j)) (hp_id ha) hH hS (lv_sub hl [1, 0, 2, 3] rfl)
abbrev rm_Ar_fill_l : Room := { frames := 0, cells := 0, slots := 0, locals := 0 }
set_option maxHeartbeats 4000000 in
set_option maxRecDepth 100000 in
theorem cn_Ar_fill_l (l : Launch) (D : va_G) (B : Nat) (M : hp_M) (a n : Nat) (f : Nat → Int64) (v : Int64) (ha : M a = some (hp_al D n f)) (hn0 : n < 2 ^ 31) : Met l y_Ar_fill_l (wd_c y_Ar_fill_l b_Ar_fill_l 5 (none)) rm_Ar_fill_l (va_Pc [.ref a, .long v] (hp_C D B M)) (va_Qv (fun  (M1 : hp_M) => ∃ g : Nat → Int64, (∀ j, j < n → g j = v) ∧ M1 = va_up M a (some (hp_al D n g))) (hp_C D B) (hp_ub B)) 0 0 (hp_ub B) := by
  refine hp_met (by decide) (Nat.le_of_ble_eq_true rfl) ?_
  intro p e s m args below meth cd ls Q hQ hx hb hr hts hown hlocks hnm hml hK hH hS hB hl
  replace hl : lv_has ls 5 [(0, .ref a), (1, .long v)] := hl
  refine lv_iconst (v := 0) hx hb d_Ar_fill_l_0 (by decide) ?_
  refine lv_istore_n (lv' := [(3, .int 0), (0, .ref a), (1, .long v)]) hx hb d_Ar_fill_l_1 rfl hl (by decide) rfl (fun ls hl => ?_)
  refine lv_aload_n hx hb d_Ar_fill_l_2 rfl (lv_at hl 1 rfl) ?_
  refine hp_alen hx hb hK hH ha 1 rfl d_Ar_fill_l_3 ?_
  refine lv_istore (lv' := [(4, .int (nI n)), (3, .int 0), (0, .ref a), (1, .long v)]) hx hb d_Ar_fill_l_4 hl (by decide) rfl (fun ls hl => ?_)
  have Lp : ∀ (k pp : Nat) (g : Nat → Int64) (M2 : hp_M) (H : Heap) (locs : List Loc) (ls : Array Slot), pp + k = n → (∀ j, j < pp → g j = v) → M2 = va_up M a (some (hp_al D n g)) → hp_H D B M2 H → va_S (hp_ub B) s.heap H locs → lv_has ls 5 [(3, .int (nI pp)), (4, .int (nI n)), (0, .ref a), (1, .long v)] → W p l e rm_Ar_fill_l s m args below meth cd H locs 0 0 Q (F0 m 6 ls []) := by
    intro k
    induction k with
    | zero =>
      intro pp g M2 H locs ls hn hg eM hH hS hl
      have fa : M2 a = some (hp_al D n g) := by rw [eM]; exact va_up_self _ _ _
      refine lv_iload_n hx hb d_Ar_fill_l_6 rfl (lv_at hl 0 rfl) ?_
      refine lv_iload hx hb d_Ar_fill_l_7 (lv_at hl 1 rfl) ?_
      refine lv_icmp_ge (tgt := 22) hx hb d_Ar_fill_l_9 (by decide) (fun c_1 => ?_) (fun c_1 => absurd (nI_le (by omega) (by omega)) c_1)
      exact hp_vret hx hb hr hlocks hQ hK hH hS (Nat.le_of_ble_eq_true rfl) (Nat.le_of_ble_eq_true rfl) d_Ar_fill_l_22 ⟨g, fun j hj => hg j (by omega), eM⟩
    | succ k ih =>
      intro pp g M2 H locs ls hn hg eM hH hS hl
      have fa : M2 a = some (hp_al D n g) := by rw [eM]; exact va_up_self _ _ _
      refine lv_iload_n hx hb d_Ar_fill_l_6 rfl (lv_at hl 0 rfl) ?_
      refine lv_iload hx hb d_Ar_fill_l_7 (lv_at hl 1 rfl) ?_
      refine lv_icmp_ge (tgt := 22) hx hb d_Ar_fill_l_9 (by decide) (fun c_2 => absurd c_2 (nI_ge (by omega) (by omega))) (fun c_2 => ?_)
      refine lv_aload_n hx hb d_Ar_fill_l_12 rfl (lv_at hl 2 rfl) ?_
      refine lv_iload_n hx hb d_Ar_fill_l_13 rfl (lv_at hl 0 rfl) ?_
      refine lv_lload_n hx hb d_Ar_fill_l_14 rfl (lv_at hl 3 rfl) ?_
      refine hp_last hx hb hK hH hS hB fa pp rfl (by omega) hn0 d_Ar_fill_l_15 (fun M_3 H locs eM_3 hH hS => ?_)
      have f_4 : M_3 a = some (hp_al D n (vp_updL g pp v)) := by rw [eM_3]; exact va_up_self _ _ _
      refine lv_iinc (v := nI (pp + 1)) (lv' := [(3, .int (nI (pp + 1))), (4, .int (nI n)), (0, .ref a), (1, .long v)]) hx hb d_Ar_fill_l_16 hl (k := 0) rfl (nI_1 pp) (by decide) rfl (fun ls hl => ?_)
      refine lv_goto (tgt := 6) hx hb d_Ar_fill_l_19 (by decide) ?_
      exact ih (pp + 1) _ M_3 H locs ls (by omega) (hp_fl hg) (by rw [eM_3, eM, hp_uu]) hH hS (lv_sub hl [0, 1, 2, 3] rfl)
  exact Lp n 0 f M _ _ ls (by omega) (fun j hj => absurd hj (Nat.not_lt_zero j)) (hp_id ha) hH hS (lv_sub hl [1, 0, 2, 3] rfl)
abbrev rm_Ou_forgetTimes : Room := { frames := 1, cells := 0, slots := 0, locals := 24 }
set_option maxHeartbeats 4000000 in
set_option maxRecDepth 100000 in
theorem cn_Ou_forgetTimes (l : Launch) (D : va_G) (B : Nat) (M : hp_M) (po : Nat) (kd : Int32) (ps pl : Nat) (hd : Option Nat) (n : Int32) (la : Option Nat) (fl : Nat → Int64) (h1 : M po = some (sw_o kd ps pl hd n la)) (h2 : M pl = some (hp_al D 8 fl)) : Met l y_Ou_forgetTimes (wd_c y_Ou_forgetTimes b_Ou_forgetTimes 1 (none)) rm_Ou_forgetTimes (va_Pc [.ref po] (hp_C D B M)) (va_Qv (fun  (M1 : hp_M) => ∃ g : Nat → Int64, (∀ j, j < 8 → g j = 0) ∧ M1 = va_up M pl (some (hp_al D 8 g))) (hp_C D B) (hp_ub B)) 0 0 (hp_ub B) := by
  refine hp_met (by decide) (Nat.le_of_ble_eq_true rfl) ?_
  intro p e s m args below meth cd ls Q hQ hx hb hr hts hown hlocks hnm hml hK hH hS hB hl
  replace hl : lv_has ls 1 [(0, .ref po)] := hl
  refine lv_aload_n hx hb d_Ou_forgetTimes_0 rfl (lv_at hl 0 rfl) ?_
  refine hp_get hx hb hts iw_Ou hown hK hH h1 rfl 2 (by decide) (hts _ kw_25) (v := .ref pl) rfl d_Ou_forgetTimes_1 ?_
  refine lv_lconst (v := 0) hx hb d_Ou_forgetTimes_4 (by decide) ?_
  refine hp_callv (hp_runS (As := [.ref pl, .long 0]) (rest := []) hx hb hml hown (cn_Ar_fill_l l D B M pl 8 fl 0 h2 (by decide)) (hp_cwS 2 hts kw_26 kw_29 kw_27 kw_28 rfl rfl (by decide +kernel) ⟨(Nat.le_of_ble_eq_true rfl), (Nat.le_of_ble_eq_true rfl)⟩) hK hH rfl hl.1 rfl (Nat.le_of_ble_eq_true rfl) d_Ou_forgetTimes_5 ⟨(Nat.le_of_ble_eq_true rfl), (Nat.le_of_ble_eq_true rfl)⟩) hS (fun M_2 H locs w_3 hH hS => ?_)
  obtain ⟨g, hg, eM⟩ := w_3
  exact hp_vret hx hb hr hlocks hQ hK hH hS (Nat.le_of_ble_eq_true rfl) (Nat.le_of_ble_eq_true rfl) d_Ou_forgetTimes_8 ⟨g, hg, eM⟩
abbrev rm_Ou_dropCells : Room := { frames := 2, cells := 0, slots := 0, locals := 44 }
set_option maxHeartbeats 4000000 in
set_option maxRecDepth 100000 in
theorem cn_Ou_dropCells (l : Launch) (D : va_G) (B : Nat) (M : hp_M) (po : Nat) (kd : Int32) (ps pl : Nat) (hd : Option Nat) (n : Int32) (la : Option Nat) (fl : Nat → Int64) (h1 : M po = some (sw_o kd ps pl hd n la)) (h2 : M pl = some (hp_al D 8 fl)) : Met l y_Ou_dropCells (wd_c y_Ou_dropCells b_Ou_dropCells 1 (none)) rm_Ou_dropCells (va_Pc [.ref po] (hp_C D B M)) (va_Qv (fun  (M1 : hp_M) => ∃ g : Nat → Int64, (∀ j, j < 8 → g j = 0) ∧ M1 = va_up (va_up M po (some (sw_o kd ps pl none 0 none))) pl (some (hp_al D 8 g))) (hp_C D B) (hp_ub B)) 0 0 (hp_ub B) := by
  refine hp_met (by decide) (Nat.le_of_ble_eq_true rfl) ?_
  intro p e s m args below meth cd ls Q hQ hx hb hr hts hown hlocks hnm hml hK hH hS hB hl
  replace hl : lv_has ls 1 [(0, .ref po)] := hl
  refine lv_aload_n hx hb d_Ou_dropCells_0 rfl (lv_at hl 0 rfl) ?_
  refine lv_null hx hb d_Ou_dropCells_1 ?_
  refine hp_put hx hb hts iw_Ou t_Ou t_Ou_ok n_Ou hown hK hH hS hB h1 rfl 3 (by decide) (hts _ kw_30) rfl  (v := .null) rfl rfl (Nat.le_of_ble_eq_true rfl) (fs' := [.int kd, .ref ps, .ref pl, .null, .int n, va_rf la]) rfl d_Ou_dropCells_2 (fun M_1 H locs eM_1 hH hS => ?_)
  have f_2 : M_1 po = some (.inr (ix_ou, [.int kd, .ref ps, .ref pl, .null, .int n, va_rf la])) := by rw [eM_1]; exact va_up_self _ _ _
  have f_3 : M_1 pl = some (hp_al D 8 fl) := by rw [eM_1, va_up_ne _ _ (hp_ne 101 ix_ou h2 h1 rfl rfl (by decide))]; exact h2
  refine lv_aload_n hx hb d_Ou_dropCells_5 rfl (lv_at hl 0 rfl) ?_
  refine lv_iconst (v := 0) hx hb d_Ou_dropCells_6 (by decide) ?_
  refine hp_put hx hb hts iw_Ou t_Ou t_Ou_ok n_Ou hown hK hH hS hB f_2 rfl 4 (by decide) (hts _ kw_31) rfl  (v := .int 0) rfl rfl (Nat.le_of_ble_eq_true rfl) (fs' := [.int kd, .ref ps, .ref pl, .null, .int 0, va_rf la]) rfl d_Ou_dropCells_7 (fun M_4 H locs eM_4 hH hS => ?_)
  have f_5 : M_4 po = some (.inr (ix_ou, [.int kd, .ref ps, .ref pl, .null, .int 0, va_rf la])) := by rw [eM_4]; exact va_up_self _ _ _
  have f_6 : M_4 pl = some (hp_al D 8 fl) := by rw [eM_4, va_up_ne _ _ (hp_ne 101 ix_ou f_3 f_2 rfl rfl (by decide))]; exact f_3
  refine lv_aload_n hx hb d_Ou_dropCells_10 rfl (lv_at hl 0 rfl) ?_
  refine lv_null hx hb d_Ou_dropCells_11 ?_
  refine hp_put hx hb hts iw_Ou t_Ou t_Ou_ok n_Ou hown hK hH hS hB f_5 rfl 5 (by decide) (hts _ kw_32) rfl  (v := .null) rfl rfl (Nat.le_of_ble_eq_true rfl) (fs' := [.int kd, .ref ps, .ref pl, .null, .int 0, .null]) rfl d_Ou_dropCells_12 (fun M_7 H locs eM_7 hH hS => ?_)
  have f_8 : M_7 po = some (.inr (ix_ou, [.int kd, .ref ps, .ref pl, .null, .int 0, .null])) := by rw [eM_7]; exact va_up_self _ _ _
  have f_9 : M_7 pl = some (hp_al D 8 fl) := by rw [eM_7, va_up_ne _ _ (hp_ne 101 ix_ou f_6 f_5 rfl rfl (by decide))]; exact f_6
  refine lv_aload_n hx hb d_Ou_dropCells_15 rfl (lv_at hl 0 rfl) ?_
  refine hp_callv (hp_runV (b := po) (As := []) (rest := []) hx hb hml hown (cn_Ou_forgetTimes l D B M_7 po kd ps pl none 0 none fl f_8 f_9) (hp_cwV 0 hts kw_33 kw_36 kw_37 kw_34 kw_35 rfl rfl (by decide +kernel) ⟨(Nat.le_of_ble_eq_true rfl), (Nat.le_of_ble_eq_true rfl)⟩) hK hH f_8 rfl rfl hl.1 rfl (Nat.le_of_ble_eq_true rfl) d_Ou_dropCells_16 ⟨(Nat.le_of_ble_eq_true rfl), (Nat.le_of_ble_eq_true rfl)⟩) hS (fun M_11 H locs w_12 hH hS => ?_)
  obtain ⟨g, hg, eM⟩ := w_12
  exact hp_vret hx hb hr hlocks hQ hK hH hS (Nat.le_of_ble_eq_true rfl) (Nat.le_of_ble_eq_true rfl) d_Ou_dropCells_19 ⟨g, hg, by rw [eM, eM_7, eM_4, eM_1, hp_uu, hp_uu]; first | done | rfl⟩
abbrev rm_In_dropCells : Room := { frames := 0, cells := 0, slots := 0, locals := 0 }
set_option maxHeartbeats 4000000 in
set_option maxRecDepth 100000 in
theorem cn_In_dropCells (l : Launch) (D : va_G) (B : Nat) (M : hp_M) (pi : Nat) (oa : Option Nat) (n : Int32) (h1 : M pi = some (sw_i oa n)) : Met l y_In_dropCells (wd_c y_In_dropCells b_In_dropCells 1 (none)) rm_In_dropCells (va_Pc [.ref pi] (hp_C D B M)) (va_Qv (fun  (M1 : hp_M) => M1 = va_up M pi (some (sw_i none 0))) (hp_C D B) (hp_ub B)) 0 0 (hp_ub B) := by
  refine hp_met (by decide) (Nat.le_of_ble_eq_true rfl) ?_
  intro p e s m args below meth cd ls Q hQ hx hb hr hts hown hlocks hnm hml hK hH hS hB hl
  replace hl : lv_has ls 1 [(0, .ref pi)] := hl
  refine lv_aload_n hx hb d_In_dropCells_0 rfl (lv_at hl 0 rfl) ?_
  refine lv_null hx hb d_In_dropCells_1 ?_
  refine hp_put hx hb hts iw_In t_In t_In_ok n_In hown hK hH hS hB h1 rfl 0 (by decide) (hts _ kw_38) rfl  (v := .null) rfl rfl (Nat.le_of_ble_eq_true rfl) (fs' := [.null, .int n]) rfl d_In_dropCells_2 (fun M_1 H locs eM_1 hH hS => ?_)
  have f_2 : M_1 pi = some (.inr (ix_in, [.null, .int n])) := by rw [eM_1]; exact va_up_self _ _ _
  refine lv_aload_n hx hb d_In_dropCells_5 rfl (lv_at hl 0 rfl) ?_
  refine lv_iconst (v := 0) hx hb d_In_dropCells_6 (by decide) ?_
  refine hp_put hx hb hts iw_In t_In t_In_ok n_In hown hK hH hS hB f_2 rfl 1 (by decide) (hts _ kw_39) rfl  (v := .int 0) rfl rfl (Nat.le_of_ble_eq_true rfl) (fs' := [.null, .int 0]) rfl d_In_dropCells_7 (fun M_3 H locs eM_3 hH hS => ?_)
  have f_4 : M_3 pi = some (.inr (ix_in, [.null, .int 0])) := by rw [eM_3]; exact va_up_self _ _ _
  exact hp_vret hx hb hr hlocks hQ hK hH hS (Nat.le_of_ble_eq_true rfl) (Nat.le_of_ble_eq_true rfl) d_In_dropCells_10 (by rw [eM_3, eM_1, hp_uu]; first | done | rfl)
abbrev rm_Ou_stamp : Room := { frames := 1, cells := 0, slots := 0, locals := 23 }
set_option maxHeartbeats 4000000 in
set_option maxRecDepth 100000 in
theorem cn_Ou_stamp (l : Launch) (D : va_G) (B : Nat) (M : hp_M) (po : Nat) (kd : Int32) (ps pl : Nat) (hd : Option Nat) (n : Int32) (la : Option Nat) (q : Nat) (c : sg_Ce) (nx : Option Nat) (sl : Int32) (fl : Nat → Int64) (fs : Nat → Int32) (h1 : M po = some (sw_o kd ps pl hd n la)) (h2 : M pl = some (hp_al D 8 fl)) (h3 : M ps = some (hp_ai D 8 fs)) (h4 : M q = some (sw_c c nx)) (hc : sg_cg c < 8) : Met l y_Ou_stamp (wd_c y_Ou_stamp b_Ou_stamp 5 (none)) rm_Ou_stamp (va_Pc [.ref po, .ref q, .int sl] (hp_C D B M)) (va_Qv (fun  (M1 : hp_M) => M1 = va_up (va_up M q (some (sw_c (sg_ci c, sg_co c, sg_cg c, sg_ct c, sg_cs c, sg_cc c, ((if fl (sg_cg c) < 256 * sl.toInt64 then 256 * sl.toInt64 else fl (sg_cg c)) + (fs (sg_cg c)).toInt64)) nx))) pl (some (hp_al D 8 (vp_updL fl (sg_cg c) ((if fl (sg_cg c) < 256 * sl.toInt64 then 256 * sl.toInt64 else fl (sg_cg c)) + (fs (sg_cg c)).toInt64))))) (hp_C D B) (hp_ub B)) 0 0 (hp_ub B) := by
  refine hp_met (by decide) (Nat.le_of_ble_eq_true rfl) ?_
  intro p e s m args below meth cd ls Q hQ hx hb hr hts hown hlocks hnm hml hK hH hS hB hl
  replace hl : lv_has ls 5 [(0, .ref po), (1, .ref q), (2, .int sl)] := hl
  refine lv_ldc2 (v := 256) hx hb hown (hts _ kw_40) d_Ou_stamp_0 ?_
  refine lv_iload_n hx hb d_Ou_stamp_3 rfl (lv_at hl 2 rfl) ?_
  refine lv_i2l hx hb d_Ou_stamp_4 rfl ?_
  refine lv_lmul hx hb d_Ou_stamp_5 ?_
  refine lv_aload_n hx hb d_Ou_stamp_6 rfl (lv_at hl 0 rfl) ?_
  refine hp_get hx hb hts iw_Ou hown hK hH h1 rfl 2 (by decide) (hts _ kw_25) (v := .ref pl) rfl d_Ou_stamp_7 ?_
  refine lv_aload_n hx hb d_Ou_stamp_10 rfl (lv_at hl 1 rfl) ?_
  refine hp_get hx hb hts iw_Ce hown hK hH h4 rfl 2 (by decide) (hts _ kw_41) (v := .int (nI (sg_cg c))) rfl d_Ou_stamp_11 ?_
  refine hp_lald hx hb hK hH h2 (sg_cg c) rfl hc (by decide) (v := (fl (sg_cg c))) rfl d_Ou_stamp_14 ?_
  refine va_mmax_long hx hb (hml.trans hl.1.symm) hown (hts _ kw_42) (hts _ kw_43) (hts _ kw_44) (hts _ kw_45) (Nat.le_of_ble_eq_true rfl) (Nat.le_of_ble_eq_true rfl) (Nat.le_of_ble_eq_true rfl) (Nat.le_of_ble_eq_true rfl) d_Ou_stamp_15 ?_
  refine lv_lstore_n (lv' := [(3, .long (if (fl (sg_cg c)) < 256 * sl.toInt64 then 256 * sl.toInt64 else (fl (sg_cg c)))), (0, .ref po), (1, .ref q), (2, .int sl)]) hx hb d_Ou_stamp_18 rfl hl (by decide) rfl (fun ls hl => ?_)
  refine lv_aload_n hx hb d_Ou_stamp_19 rfl (lv_at hl 2 rfl) ?_
  refine lv_lload_n hx hb d_Ou_stamp_20 rfl (lv_at hl 0 rfl) ?_
  refine lv_aload_n hx hb d_Ou_stamp_21 rfl (lv_at hl 1 rfl) ?_
  refine hp_get hx hb hts iw_Ou hown hK hH h1 rfl 1 (by decide) (hts _ kw_46) (v := .ref ps) rfl d_Ou_stamp_22 ?_
  refine lv_aload_n hx hb d_Ou_stamp_25 rfl (lv_at hl 2 rfl) ?_
  refine hp_get hx hb hts iw_Ce hown hK hH h4 rfl 2 (by decide) (hts _ kw_41) (v := .int (nI (sg_cg c))) rfl d_Ou_stamp_26 ?_
  refine hp_iald hx hb hK hH h3 (sg_cg c) rfl hc (by decide) (v := (fs (sg_cg c))) rfl d_Ou_stamp_29 ?_
  refine lv_i2l hx hb d_Ou_stamp_30 rfl ?_
  refine lv_ladd hx hb d_Ou_stamp_31 ?_
  refine hp_put hx hb hts iw_Ce t_Ce t_Ce_ok n_Ce hown hK hH hS hB h4 rfl 6 (by decide) (hts _ kw_47) rfl  (v := .long ((if (fl (sg_cg c)) < 256 * sl.toInt64 then 256 * sl.toInt64 else (fl (sg_cg c))) + ((fs (sg_cg c)).toInt64))) rfl rfl (Nat.le_of_ble_eq_true rfl) (fs' := [.int (nI (sg_ci c)), .int (nI (sg_co c)), .int (nI (sg_cg c)), .int (sg_ct c), .long (lN (sg_cs c)), .int (sg_cc c), .long ((if (fl (sg_cg c)) < 256 * sl.toInt64 then 256 * sl.toInt64 else (fl (sg_cg c))) + ((fs (sg_cg c)).toInt64)), va_rf nx]) rfl d_Ou_stamp_32 (fun M_1 H locs eM_1 hH hS => ?_)
  have f_2 : M_1 q = some (.inr (ix_ce, [.int (nI (sg_ci c)), .int (nI (sg_co c)), .int (nI (sg_cg c)), .int (sg_ct c), .long (lN (sg_cs c)), .int (sg_cc c), .long ((if (fl (sg_cg c)) < 256 * sl.toInt64 then 256 * sl.toInt64 else (fl (sg_cg c))) + ((fs (sg_cg c)).toInt64)), va_rf nx])) := by rw [eM_1]; exact va_up_self _ _ _
  have f_3 : M_1 po = some (.inr (ix_ou, [.int kd, .ref ps, .ref pl, va_rf hd, .int n, va_rf la])) := by rw [eM_1, va_up_ne _ _ (hp_ne ix_ou ix_ce h1 h4 rfl rfl (by decide))]; exact h1
  have f_4 : M_1 pl = some (hp_al D 8 fl) := by rw [eM_1, va_up_ne _ _ (hp_ne 101 ix_ce h2 h4 rfl rfl (by decide))]; exact h2
  have f_5 : M_1 ps = some (hp_ai D 8 fs) := by rw [eM_1, va_up_ne _ _ (hp_ne 100 ix_ce h3 h4 rfl rfl (by decide))]; exact h3
  refine lv_aload_n hx hb d_Ou_stamp_35 rfl (lv_at hl 1 rfl) ?_
  refine hp_get hx hb hts iw_Ou hown hK hH f_3 rfl 2 (by decide) (hts _ kw_25) (v := .ref pl) rfl d_Ou_stamp_36 ?_
  refine lv_aload_n hx hb d_Ou_stamp_39 rfl (lv_at hl 2 rfl) ?_
  refine hp_get hx hb hts iw_Ce hown hK hH f_2 rfl 2 (by decide) (hts _ kw_41) (v := .int (nI (sg_cg c))) rfl d_Ou_stamp_40 ?_
  refine lv_aload_n hx hb d_Ou_stamp_43 rfl (lv_at hl 2 rfl) ?_
  refine hp_get hx hb hts iw_Ce hown hK hH f_2 rfl 6 (by decide) (hts _ kw_47) (v := .long ((if (fl (sg_cg c)) < 256 * sl.toInt64 then 256 * sl.toInt64 else (fl (sg_cg c))) + ((fs (sg_cg c)).toInt64))) rfl d_Ou_stamp_44 ?_
  refine hp_last hx hb hK hH hS hB f_4 (sg_cg c) rfl hc (by decide) d_Ou_stamp_47 (fun M_6 H locs eM_6 hH hS => ?_)
  have f_7 : M_6 pl = some (hp_al D 8 (vp_updL fl (sg_cg c) ((if (fl (sg_cg c)) < 256 * sl.toInt64 then 256 * sl.toInt64 else (fl (sg_cg c))) + ((fs (sg_cg c)).toInt64)))) := by rw [eM_6]; exact va_up_self _ _ _
  have f_8 : M_6 po = some (.inr (ix_ou, [.int kd, .ref ps, .ref pl, va_rf hd, .int n, va_rf la])) := by rw [eM_6, va_up_ne _ _ (hp_ne ix_ou 101 f_3 f_4 rfl rfl (by decide))]; exact f_3
  have f_9 : M_6 ps = some (hp_ai D 8 fs) := by rw [eM_6, va_up_ne _ _ (hp_ne 100 101 f_5 f_4 rfl rfl (by decide))]; exact f_5
  have f_10 : M_6 q = some (.inr (ix_ce, [.int (nI (sg_ci c)), .int (nI (sg_co c)), .int (nI (sg_cg c)), .int (sg_ct c), .long (lN (sg_cs c)), .int (sg_cc c), .long ((if (fl (sg_cg c)) < 256 * sl.toInt64 then 256 * sl.toInt64 else (fl (sg_cg c))) + ((fs (sg_cg c)).toInt64)), va_rf nx])) := by rw [eM_6, va_up_ne _ _ (hp_ne ix_ce 101 f_2 f_4 rfl rfl (by decide))]; exact f_2
  exact hp_vret hx hb hr hlocks hQ hK hH hS (Nat.le_of_ble_eq_true rfl) (Nat.le_of_ble_eq_true rfl) d_Ou_stamp_48 (by rw [eM_6, eM_1]; first | done | rfl)
abbrev rm_Ou_isBefore : Room := { frames := 0, cells := 0, slots := 0, locals := 0 }
set_option maxHeartbeats 4000000 in
set_option maxRecDepth 100000 in
theorem cn_Ou_isBefore (l : Launch) (D : va_G) (B : Nat) (M : hp_M) (po : Nat) (kd : Int32) (ps pl : Nat) (hd0 : Option Nat) (n : Int32) (la : Option Nat) (q x : Nat) (c d : sg_Ce) (nq nx : Option Nat) (h1 : M po = some (sw_o kd ps pl hd0 n la)) (h2 : M q = some (sw_c c nq)) (h3 : M x = some (sw_c d nx)) (hkd : kd = 0 ∨ kd = 1 ∨ kd = 2) (hc : sg_cg c < 8) (hd : sg_cg d < 8) : Met l y_Ou_isBefore (wd_c y_Ou_isBefore b_Ou_isBefore 3 (some .boolean)) rm_Ou_isBefore (va_Pc [.ref po, .ref q, .ref x] (hp_C D B M)) (va_Qi (fun (r : Int32) (M1 : hp_M) => M1 = M ∧ r = sw_b (sg_bef kd c d)) (hp_C D B) (hp_ub B)) 0 0 (hp_ub B) := by
  rcases hkd with rfl | rfl | rfl
  · refine hp_met (by decide) (Nat.le_of_ble_eq_true rfl) ?_
    intro p e s m args below meth cd ls Q hQ hx hb hr hts hown hlocks hnm hml hK hH hS hB hl
    replace hl : lv_has ls 3 [(0, .ref po), (1, .ref q), (2, .ref x)] := hl
    refine lv_aload_n hx hb d_Ou_isBefore_0 rfl (lv_at hl 0 rfl) ?_
    refine hp_get hx hb hts iw_Ou hown hK hH h1 rfl 0 (by decide) (hts _ kw_48) (v := .int 0) rfl d_Ou_isBefore_1 ?_
    refine lv_lookup (tgt := 67) (off := 63) hx hb d_Ou_isBefore_4 (by decide) (by decide) (by decide) ?_
    refine lv_iconst (v := 0) hx hb d_Ou_isBefore_67 (by decide) ?_
    exact hp_zret hx hb hr hlocks hQ hK hH hS (Nat.le_of_ble_eq_true rfl) (Nat.le_of_ble_eq_true rfl) rfl d_Ou_isBefore_68 ⟨rfl, sw_b0⟩
  · refine hp_met (by decide) (Nat.le_of_ble_eq_true rfl) ?_
    intro p e s m args below meth cd ls Q hQ hx hb hr hts hown hlocks hnm hml hK hH hS hB hl
    replace hl : lv_has ls 3 [(0, .ref po), (1, .ref q), (2, .ref x)] := hl
    refine lv_aload_n hx hb d_Ou_isBefore_0 rfl (lv_at hl 0 rfl) ?_
    refine hp_get hx hb hts iw_Ou hown hK hH h1 rfl 0 (by decide) (hts _ kw_48) (v := .int 1) rfl d_Ou_isBefore_1 ?_
    refine lv_lookup (tgt := 32) (off := 28) hx hb d_Ou_isBefore_4 (by decide) (by decide) (by decide) ?_
    refine lv_aload_n hx hb d_Ou_isBefore_32 rfl (lv_at hl 1 rfl) ?_
    refine hp_get hx hb hts iw_Ce hown hK hH h2 rfl 2 (by decide) (hts _ kw_41) (v := .int (nI (sg_cg c))) rfl d_Ou_isBefore_33 ?_
    refine lv_aload_n hx hb d_Ou_isBefore_36 rfl (lv_at hl 2 rfl) ?_
    refine hp_get hx hb hts iw_Ce hown hK hH h3 rfl 2 (by decide) (hts _ kw_41) (v := .int (nI (sg_cg d))) rfl d_Ou_isBefore_37 ?_
    refine lv_icmp_ge (tgt := 47) hx hb d_Ou_isBefore_40 (by decide) (fun c_1 => ?_) (fun c_1 => ?_)
    · refine lv_iconst (v := 0) hx hb d_Ou_isBefore_47 (by decide) ?_
      exact hp_zret hx hb hr hlocks hQ hK hH hS (Nat.le_of_ble_eq_true rfl) (Nat.le_of_ble_eq_true rfl) rfl d_Ou_isBefore_48 ⟨rfl, sw_b1f hc hd c_1⟩
    · refine lv_iconst (v := 1) hx hb d_Ou_isBefore_43 (by decide) ?_
      refine lv_goto (tgt := 48) hx hb d_Ou_isBefore_44 (by decide) ?_
      exact hp_zret hx hb hr hlocks hQ hK hH hS (Nat.le_of_ble_eq_true rfl) (Nat.le_of_ble_eq_true rfl) rfl d_Ou_isBefore_48 ⟨rfl, sw_b1t hc hd c_1⟩
  · refine hp_met (by decide) (Nat.le_of_ble_eq_true rfl) ?_
    intro p e s m args below meth cd ls Q hQ hx hb hr hts hown hlocks hnm hml hK hH hS hB hl
    replace hl : lv_has ls 3 [(0, .ref po), (1, .ref q), (2, .ref x)] := hl
    refine lv_aload_n hx hb d_Ou_isBefore_0 rfl (lv_at hl 0 rfl) ?_
    refine hp_get hx hb hts iw_Ou hown hK hH h1 rfl 0 (by decide) (hts _ kw_48) (v := .int 2) rfl d_Ou_isBefore_1 ?_
    refine lv_lookup (tgt := 49) (off := 45) hx hb d_Ou_isBefore_4 (by decide) (by decide) (by decide) ?_
    refine lv_aload_n hx hb d_Ou_isBefore_49 rfl (lv_at hl 1 rfl) ?_
    refine hp_get hx hb hts iw_Ce hown hK hH h2 rfl 6 (by decide) (hts _ kw_47) (v := .long (sg_cm c)) rfl d_Ou_isBefore_50 ?_
    refine lv_aload_n hx hb d_Ou_isBefore_53 rfl (lv_at hl 2 rfl) ?_
    refine hp_get hx hb hts iw_Ce hown hK hH h3 rfl 6 (by decide) (hts _ kw_47) (v := .long (sg_cm d)) rfl d_Ou_isBefore_54 ?_
    refine W.lcmp hx hb d_Ou_isBefore_57 ?_
    refine lv_if_ge (tgt := 65) hx hb d_Ou_isBefore_58 (by decide) (fun c_1 => ?_) (fun c_1 => ?_)
    · refine lv_iconst (v := 0) hx hb d_Ou_isBefore_65 (by decide) ?_
      exact hp_zret hx hb hr hlocks hQ hK hH hS (Nat.le_of_ble_eq_true rfl) (Nat.le_of_ble_eq_true rfl) rfl d_Ou_isBefore_66 ⟨rfl, sw_b2f c_1⟩
    · refine lv_iconst (v := 1) hx hb d_Ou_isBefore_61 (by decide) ?_
      refine lv_goto (tgt := 66) hx hb d_Ou_isBefore_62 (by decide) ?_
      exact hp_zret hx hb hr hlocks hQ hK hH hS (Nat.le_of_ble_eq_true rfl) (Nat.le_of_ble_eq_true rfl) rfl d_Ou_isBefore_66 ⟨rfl, sw_b2t c_1⟩
