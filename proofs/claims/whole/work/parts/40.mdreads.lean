theorem kw_134 : Cond.fieldLink R_Md 65 "EvenSwitchModel" "thrown" "I" ∈ wd_T := wd_in (List.mem_of_getElem? (i := 277) (by decide +kernel)) rfl
theorem kw_135 : Cond.fieldLink R_Md 85 "EvenSwitchModel" "slots" "I" ∈ wd_T := wd_in (List.mem_of_getElem? (i := 293) (by decide +kernel)) rfl
theorem kw_136 : Cond.methodLink R_Md 69 y_Md_isOne ∈ wd_T := wd_in (List.mem_of_getElem? (i := 342) (by decide +kernel)) rfl
theorem kw_137 : Cond.initialized R_Md ∈ wd_T := wd_in (List.mem_of_getElem? (i := 24) (by decide +kernel)) rfl
theorem kw_138 : Cond.code y_Md_isOne b_Md_isOne 1 (some .boolean) ∈ wd_T := wd_in (List.mem_of_getElem? (i := 344) (by decide +kernel)) rfl
theorem kw_139 : Cond.static y_Md_isOne ∈ wd_T := wd_in (List.mem_of_getElem? (i := 343) (by decide +kernel)) rfl
theorem kw_140 : Cond.fieldLink R_Md 53 "EvenSwitchModel" "sentInput" "[I" ∈ wd_T := wd_in (List.mem_of_getElem? (i := 294) (by decide +kernel)) rfl
theorem kw_141 : Cond.methodLink R_Md 108 y_Md_sentOne ∈ wd_T := wd_in (List.mem_of_getElem? (i := 395) (by decide +kernel)) rfl
theorem kw_142 : Cond.code y_Md_sentOne b_Md_sentOne 2 (some .boolean) ∈ wd_T := wd_in (List.mem_of_getElem? (i := 398) (by decide +kernel)) rfl
theorem kw_143 : Cond.instanceMethod y_Md_sentOne ∈ wd_T := wd_in (List.mem_of_getElem? (i := 397) (by decide +kernel)) rfl
theorem kw_144 : Cond.selects R_Md y_Md_sentOne y_Md_sentOne ∈ wd_T := wd_in (List.mem_of_getElem? (i := 17) (by decide +kernel)) rfl
theorem kw_145 : Cond.fieldLink R_Md 56 "EvenSwitchModel" "sentTag" "[I" ∈ wd_T := wd_in (List.mem_of_getElem? (i := 295) (by decide +kernel)) rfl
theorem kw_146 : Cond.fieldLink R_Md 59 "EvenSwitchModel" "sentWait" "[I" ∈ wd_T := wd_in (List.mem_of_getElem? (i := 296) (by decide +kernel)) rfl
theorem kw_147 : Cond.fieldLink R_Md 7 "EvenSwitchModel" "many" "[I" ∈ wd_T := wd_in (List.mem_of_getElem? (i := 278) (by decide +kernel)) rfl
theorem kw_148 : Cond.methodLink R_Md 111 y_Md_isCell ∈ wd_T := wd_in (List.mem_of_getElem? (i := 423) (by decide +kernel)) rfl
theorem kw_149 : Cond.code y_Md_isCell b_Md_isCell 3 (some .boolean) ∈ wd_T := wd_in (List.mem_of_getElem? (i := 426) (by decide +kernel)) rfl
theorem kw_150 : Cond.instanceMethod y_Md_isCell ∈ wd_T := wd_in (List.mem_of_getElem? (i := 425) (by decide +kernel)) rfl
theorem kw_151 : Cond.selects R_Md y_Md_isCell y_Md_isCell ∈ wd_T := wd_in (List.mem_of_getElem? (i := 18) (by decide +kernel)) rfl
theorem kw_152 : Cond.fieldLink R_Md 13 "EvenSwitchModel" "inputs" "[I" ∈ wd_T := wd_in (List.mem_of_getElem? (i := 279) (by decide +kernel)) rfl
theorem kw_153 : Cond.constantLong R_Md 115 (-1) ∈ wd_T := wd_in (List.mem_of_getElem? (i := 431) (by decide +kernel)) rfl
theorem kw_154 : Cond.fieldLink R_Md 22 "EvenSwitchModel" "times" "[J" ∈ wd_T := wd_in (List.mem_of_getElem? (i := 282) (by decide +kernel)) rfl
theorem d_Md_isOne_0 : decode b_Md_isOne 0 = .ok (.iload_n 0, 1) := by decide +kernel
theorem d_Md_isOne_1 : decode b_Md_isOne 1 = .ok (.ifCond .lt 13, 3) := by decide +kernel
theorem d_Md_isOne_4 : decode b_Md_isOne 4 = .ok (.iload_n 0, 1) := by decide +kernel
theorem d_Md_isOne_5 : decode b_Md_isOne 5 = .ok (.bipush 8, 2) := by decide +kernel
theorem d_Md_isOne_7 : decode b_Md_isOne 7 = .ok (.if_icmp .ge 7, 3) := by decide +kernel
theorem d_Md_isOne_10 : decode b_Md_isOne 10 = .ok (.iconst 1, 1) := by decide +kernel
theorem d_Md_isOne_11 : decode b_Md_isOne 11 = .ok (.goto 4, 3) := by decide +kernel
theorem d_Md_isOne_14 : decode b_Md_isOne 14 = .ok (.iconst 0, 1) := by decide +kernel
theorem d_Md_isOne_15 : decode b_Md_isOne 15 = .ok (.ireturn, 1) := by decide +kernel
theorem d_Md_slots_0 : decode b_Md_slots 0 = .ok (.aload_n 0, 1) := by decide +kernel
theorem d_Md_slots_1 : decode b_Md_slots 1 = .ok (.iconst 0, 1) := by decide +kernel
theorem d_Md_slots_2 : decode b_Md_slots 2 = .ok (.putfield 65, 3) := by decide +kernel
theorem d_Md_slots_5 : decode b_Md_slots 5 = .ok (.aload_n 0, 1) := by decide +kernel
theorem d_Md_slots_6 : decode b_Md_slots 6 = .ok (.getfield 85, 3) := by decide +kernel
theorem d_Md_slots_9 : decode b_Md_slots 9 = .ok (.ireturn, 1) := by decide +kernel
theorem d_Md_sentOne_0 : decode b_Md_sentOne 0 = .ok (.iload_n 1, 1) := by decide +kernel
theorem d_Md_sentOne_1 : decode b_Md_sentOne 1 = .ok (.invokestatic 69, 3) := by decide +kernel
theorem d_Md_sentOne_4 : decode b_Md_sentOne 4 = .ok (.ifCond .eq 17, 3) := by decide +kernel
theorem d_Md_sentOne_7 : decode b_Md_sentOne 7 = .ok (.aload_n 0, 1) := by decide +kernel
theorem d_Md_sentOne_8 : decode b_Md_sentOne 8 = .ok (.getfield 53, 3) := by decide +kernel
theorem d_Md_sentOne_11 : decode b_Md_sentOne 11 = .ok (.iload_n 1, 1) := by decide +kernel
theorem d_Md_sentOne_12 : decode b_Md_sentOne 12 = .ok (.iaload, 1) := by decide +kernel
theorem d_Md_sentOne_13 : decode b_Md_sentOne 13 = .ok (.iconst (-1), 1) := by decide +kernel
theorem d_Md_sentOne_14 : decode b_Md_sentOne 14 = .ok (.if_icmp .eq 7, 3) := by decide +kernel
theorem d_Md_sentOne_17 : decode b_Md_sentOne 17 = .ok (.iconst 1, 1) := by decide +kernel
theorem d_Md_sentOne_18 : decode b_Md_sentOne 18 = .ok (.goto 4, 3) := by decide +kernel
theorem d_Md_sentOne_21 : decode b_Md_sentOne 21 = .ok (.iconst 0, 1) := by decide +kernel
theorem d_Md_sentOne_22 : decode b_Md_sentOne 22 = .ok (.ireturn, 1) := by decide +kernel
theorem d_Md_hasSent_0 : decode b_Md_hasSent 0 = .ok (.aload_n 0, 1) := by decide +kernel
theorem d_Md_hasSent_1 : decode b_Md_hasSent 1 = .ok (.iconst 0, 1) := by decide +kernel
theorem d_Md_hasSent_2 : decode b_Md_hasSent 2 = .ok (.putfield 65, 3) := by decide +kernel
theorem d_Md_hasSent_5 : decode b_Md_hasSent 5 = .ok (.aload_n 0, 1) := by decide +kernel
theorem d_Md_hasSent_6 : decode b_Md_hasSent 6 = .ok (.iload_n 1, 1) := by decide +kernel
theorem d_Md_hasSent_7 : decode b_Md_hasSent 7 = .ok (.invokevirtual 108, 3) := by decide +kernel
theorem d_Md_hasSent_10 : decode b_Md_hasSent 10 = .ok (.ireturn, 1) := by decide +kernel
theorem d_Md_sent_0 : decode b_Md_sent 0 = .ok (.aload_n 0, 1) := by decide +kernel
theorem d_Md_sent_1 : decode b_Md_sent 1 = .ok (.iconst 0, 1) := by decide +kernel
theorem d_Md_sent_2 : decode b_Md_sent 2 = .ok (.putfield 65, 3) := by decide +kernel
theorem d_Md_sent_5 : decode b_Md_sent 5 = .ok (.aload_n 0, 1) := by decide +kernel
theorem d_Md_sent_6 : decode b_Md_sent 6 = .ok (.iload_n 1, 1) := by decide +kernel
theorem d_Md_sent_7 : decode b_Md_sent 7 = .ok (.invokevirtual 108, 3) := by decide +kernel
theorem d_Md_sent_10 : decode b_Md_sent 10 = .ok (.ifCond .eq 12, 3) := by decide +kernel
theorem d_Md_sent_13 : decode b_Md_sent 13 = .ok (.aload_n 0, 1) := by decide +kernel
theorem d_Md_sent_14 : decode b_Md_sent 14 = .ok (.getfield 56, 3) := by decide +kernel
theorem d_Md_sent_17 : decode b_Md_sent 17 = .ok (.iload_n 1, 1) := by decide +kernel
theorem d_Md_sent_18 : decode b_Md_sent 18 = .ok (.iaload, 1) := by decide +kernel
theorem d_Md_sent_19 : decode b_Md_sent 19 = .ok (.goto 4, 3) := by decide +kernel
theorem d_Md_sent_22 : decode b_Md_sent 22 = .ok (.iconst 0, 1) := by decide +kernel
theorem d_Md_sent_23 : decode b_Md_sent 23 = .ok (.ireturn, 1) := by decide +kernel
theorem d_Md_sentFrom_0 : decode b_Md_sentFrom 0 = .ok (.aload_n 0, 1) := by decide +kernel
theorem d_Md_sentFrom_1 : decode b_Md_sentFrom 1 = .ok (.iconst 0, 1) := by decide +kernel
theorem d_Md_sentFrom_2 : decode b_Md_sentFrom 2 = .ok (.putfield 65, 3) := by decide +kernel
theorem d_Md_sentFrom_5 : decode b_Md_sentFrom 5 = .ok (.aload_n 0, 1) := by decide +kernel
theorem d_Md_sentFrom_6 : decode b_Md_sentFrom 6 = .ok (.iload_n 1, 1) := by decide +kernel
theorem d_Md_sentFrom_7 : decode b_Md_sentFrom 7 = .ok (.invokevirtual 108, 3) := by decide +kernel
theorem d_Md_sentFrom_10 : decode b_Md_sentFrom 10 = .ok (.ifCond .eq 12, 3) := by decide +kernel
theorem d_Md_sentFrom_13 : decode b_Md_sentFrom 13 = .ok (.aload_n 0, 1) := by decide +kernel
theorem d_Md_sentFrom_14 : decode b_Md_sentFrom 14 = .ok (.getfield 53, 3) := by decide +kernel
theorem d_Md_sentFrom_17 : decode b_Md_sentFrom 17 = .ok (.iload_n 1, 1) := by decide +kernel
theorem d_Md_sentFrom_18 : decode b_Md_sentFrom 18 = .ok (.iaload, 1) := by decide +kernel
theorem d_Md_sentFrom_19 : decode b_Md_sentFrom 19 = .ok (.goto 4, 3) := by decide +kernel
theorem d_Md_sentFrom_22 : decode b_Md_sentFrom 22 = .ok (.iconst (-1), 1) := by decide +kernel
theorem d_Md_sentFrom_23 : decode b_Md_sentFrom 23 = .ok (.ireturn, 1) := by decide +kernel
theorem d_Md_waited_0 : decode b_Md_waited 0 = .ok (.aload_n 0, 1) := by decide +kernel
theorem d_Md_waited_1 : decode b_Md_waited 1 = .ok (.iconst 0, 1) := by decide +kernel
theorem d_Md_waited_2 : decode b_Md_waited 2 = .ok (.putfield 65, 3) := by decide +kernel
theorem d_Md_waited_5 : decode b_Md_waited 5 = .ok (.aload_n 0, 1) := by decide +kernel
theorem d_Md_waited_6 : decode b_Md_waited 6 = .ok (.iload_n 1, 1) := by decide +kernel
theorem d_Md_waited_7 : decode b_Md_waited 7 = .ok (.invokevirtual 108, 3) := by decide +kernel
theorem d_Md_waited_10 : decode b_Md_waited 10 = .ok (.ifCond .eq 12, 3) := by decide +kernel
theorem d_Md_waited_13 : decode b_Md_waited 13 = .ok (.aload_n 0, 1) := by decide +kernel
theorem d_Md_waited_14 : decode b_Md_waited 14 = .ok (.getfield 59, 3) := by decide +kernel
theorem d_Md_waited_17 : decode b_Md_waited 17 = .ok (.iload_n 1, 1) := by decide +kernel
theorem d_Md_waited_18 : decode b_Md_waited 18 = .ok (.iaload, 1) := by decide +kernel
theorem d_Md_waited_19 : decode b_Md_waited 19 = .ok (.goto 4, 3) := by decide +kernel
theorem d_Md_waited_22 : decode b_Md_waited 22 = .ok (.iconst (-1), 1) := by decide +kernel
theorem d_Md_waited_23 : decode b_Md_waited 23 = .ok (.ireturn, 1) := by decide +kernel
theorem d_Md_waiting_0 : decode b_Md_waiting 0 = .ok (.aload_n 0, 1) := by decide +kernel
theorem d_Md_waiting_1 : decode b_Md_waiting 1 = .ok (.iconst 0, 1) := by decide +kernel
theorem d_Md_waiting_2 : decode b_Md_waiting 2 = .ok (.putfield 65, 3) := by decide +kernel
theorem d_Md_waiting_5 : decode b_Md_waiting 5 = .ok (.iload_n 1, 1) := by decide +kernel
theorem d_Md_waiting_6 : decode b_Md_waiting 6 = .ok (.invokestatic 69, 3) := by decide +kernel
theorem d_Md_waiting_9 : decode b_Md_waiting 9 = .ok (.ifCond .eq 12, 3) := by decide +kernel
theorem d_Md_waiting_12 : decode b_Md_waiting 12 = .ok (.aload_n 0, 1) := by decide +kernel
theorem d_Md_waiting_13 : decode b_Md_waiting 13 = .ok (.getfield 7, 3) := by decide +kernel
theorem d_Md_waiting_16 : decode b_Md_waiting 16 = .ok (.iload_n 1, 1) := by decide +kernel
theorem d_Md_waiting_17 : decode b_Md_waiting 17 = .ok (.iaload, 1) := by decide +kernel
theorem d_Md_waiting_18 : decode b_Md_waiting 18 = .ok (.goto 4, 3) := by decide +kernel
theorem d_Md_waiting_21 : decode b_Md_waiting 21 = .ok (.iconst (-1), 1) := by decide +kernel
theorem d_Md_waiting_22 : decode b_Md_waiting 22 = .ok (.ireturn, 1) := by decide +kernel
theorem d_Md_isCell_0 : decode b_Md_isCell 0 = .ok (.iload_n 1, 1) := by decide +kernel
theorem d_Md_isCell_1 : decode b_Md_isCell 1 = .ok (.invokestatic 69, 3) := by decide +kernel
theorem d_Md_isCell_4 : decode b_Md_isCell 4 = .ok (.ifCond .eq 21, 3) := by decide +kernel
theorem d_Md_isCell_7 : decode b_Md_isCell 7 = .ok (.iload_n 2, 1) := by decide +kernel
theorem d_Md_isCell_8 : decode b_Md_isCell 8 = .ok (.ifCond .lt 17, 3) := by decide +kernel
theorem d_Md_isCell_11 : decode b_Md_isCell 11 = .ok (.iload_n 2, 1) := by decide +kernel
theorem d_Md_isCell_12 : decode b_Md_isCell 12 = .ok (.aload_n 0, 1) := by decide +kernel
theorem d_Md_isCell_13 : decode b_Md_isCell 13 = .ok (.getfield 7, 3) := by decide +kernel
theorem d_Md_isCell_16 : decode b_Md_isCell 16 = .ok (.iload_n 1, 1) := by decide +kernel
theorem d_Md_isCell_17 : decode b_Md_isCell 17 = .ok (.iaload, 1) := by decide +kernel
theorem d_Md_isCell_18 : decode b_Md_isCell 18 = .ok (.if_icmp .ge 7, 3) := by decide +kernel
theorem d_Md_isCell_21 : decode b_Md_isCell 21 = .ok (.iconst 1, 1) := by decide +kernel
theorem d_Md_isCell_22 : decode b_Md_isCell 22 = .ok (.goto 4, 3) := by decide +kernel
theorem d_Md_isCell_25 : decode b_Md_isCell 25 = .ok (.iconst 0, 1) := by decide +kernel
theorem d_Md_isCell_26 : decode b_Md_isCell 26 = .ok (.ireturn, 1) := by decide +kernel
theorem d_Md_first_0 : decode b_Md_first 0 = .ok (.aload_n 0, 1) := by decide +kernel
theorem d_Md_first_1 : decode b_Md_first 1 = .ok (.iconst 0, 1) := by decide +kernel
theorem d_Md_first_2 : decode b_Md_first 2 = .ok (.putfield 65, 3) := by decide +kernel
theorem d_Md_first_5 : decode b_Md_first 5 = .ok (.aload_n 0, 1) := by decide +kernel
theorem d_Md_first_6 : decode b_Md_first 6 = .ok (.iload_n 1, 1) := by decide +kernel
theorem d_Md_first_7 : decode b_Md_first 7 = .ok (.iload_n 2, 1) := by decide +kernel
theorem d_Md_first_8 : decode b_Md_first 8 = .ok (.invokevirtual 111, 3) := by decide +kernel
theorem d_Md_first_11 : decode b_Md_first 11 = .ok (.ifCond .eq 18, 3) := by decide +kernel
theorem d_Md_first_14 : decode b_Md_first 14 = .ok (.aload_n 0, 1) := by decide +kernel
theorem d_Md_first_15 : decode b_Md_first 15 = .ok (.getfield 13, 3) := by decide +kernel
theorem d_Md_first_18 : decode b_Md_first 18 = .ok (.sipush 512, 3) := by decide +kernel
theorem d_Md_first_21 : decode b_Md_first 21 = .ok (.iload_n 1, 1) := by decide +kernel
theorem d_Md_first_22 : decode b_Md_first 22 = .ok (.imul, 1) := by decide +kernel
theorem d_Md_first_23 : decode b_Md_first 23 = .ok (.iload_n 2, 1) := by decide +kernel
theorem d_Md_first_24 : decode b_Md_first 24 = .ok (.iadd, 1) := by decide +kernel
theorem d_Md_first_25 : decode b_Md_first 25 = .ok (.iaload, 1) := by decide +kernel
theorem d_Md_first_26 : decode b_Md_first 26 = .ok (.goto 4, 3) := by decide +kernel
theorem d_Md_first_29 : decode b_Md_first 29 = .ok (.iconst (-1), 1) := by decide +kernel
theorem d_Md_first_30 : decode b_Md_first 30 = .ok (.ireturn, 1) := by decide +kernel
theorem d_Md_time_0 : decode b_Md_time 0 = .ok (.aload_n 0, 1) := by decide +kernel
theorem d_Md_time_1 : decode b_Md_time 1 = .ok (.iconst 0, 1) := by decide +kernel
theorem d_Md_time_2 : decode b_Md_time 2 = .ok (.putfield 65, 3) := by decide +kernel
theorem d_Md_time_5 : decode b_Md_time 5 = .ok (.aload_n 0, 1) := by decide +kernel
theorem d_Md_time_6 : decode b_Md_time 6 = .ok (.iload_n 1, 1) := by decide +kernel
theorem d_Md_time_7 : decode b_Md_time 7 = .ok (.iload_n 2, 1) := by decide +kernel
theorem d_Md_time_8 : decode b_Md_time 8 = .ok (.invokevirtual 111, 3) := by decide +kernel
theorem d_Md_time_11 : decode b_Md_time 11 = .ok (.ifCond .eq 18, 3) := by decide +kernel
theorem d_Md_time_14 : decode b_Md_time 14 = .ok (.aload_n 0, 1) := by decide +kernel
theorem d_Md_time_15 : decode b_Md_time 15 = .ok (.getfield 22, 3) := by decide +kernel
theorem d_Md_time_18 : decode b_Md_time 18 = .ok (.sipush 512, 3) := by decide +kernel
theorem d_Md_time_21 : decode b_Md_time 21 = .ok (.iload_n 1, 1) := by decide +kernel
theorem d_Md_time_22 : decode b_Md_time 22 = .ok (.imul, 1) := by decide +kernel
theorem d_Md_time_23 : decode b_Md_time 23 = .ok (.iload_n 2, 1) := by decide +kernel
theorem d_Md_time_24 : decode b_Md_time 24 = .ok (.iadd, 1) := by decide +kernel
theorem d_Md_time_25 : decode b_Md_time 25 = .ok (.laload, 1) := by decide +kernel
theorem d_Md_time_26 : decode b_Md_time 26 = .ok (.goto 6, 3) := by decide +kernel
theorem d_Md_time_29 : decode b_Md_time 29 = .ok (.ldc2_w 115, 3) := by decide +kernel
theorem d_Md_time_32 : decode b_Md_time 32 = .ok (.lreturn, 1) := by decide +kernel
abbrev rm_Md_isOne : Room := { frames := 0, cells := 0, slots := 0, locals := 0 }
set_option maxHeartbeats 4000000 in
set_option maxRecDepth 100000 in
theorem cn_Md_isOne (l : Launch) (D : va_G) (B : Nat) (M : hp_M) (x : Int32)  : Met l y_Md_isOne (wd_c y_Md_isOne b_Md_isOne 1 (some .boolean)) rm_Md_isOne (va_Pc [.int x] (hp_C D B M)) (va_Qi (fun (r : Int32) (M1 : hp_M) => M1 = M ∧ r = sg_port x) (hp_C D B) (hp_ub B)) 0 0 (hp_ub B) := by
  refine hp_met (by decide) (Nat.le_of_ble_eq_true rfl) ?_
  intro p e s m args below meth cd ls Q hQ hx hb hr hts hown hlocks hnm hml hK hH hS hB hl
  replace hl : lv_has ls 1 [(0, .int x)] := hl
  refine lv_iload_n hx hb d_Md_isOne_0 rfl (lv_at hl 0 rfl) ?_
  refine lv_if_lt (tgt := 14) hx hb d_Md_isOne_1 (by decide) (fun c_1 => ?_) (fun c_1 => ?_)
  · refine lv_iconst (v := 0) hx hb d_Md_isOne_14 (by decide) ?_
    exact hp_zret hx hb hr hlocks hQ hK hH hS (Nat.le_of_ble_eq_true rfl) (Nat.le_of_ble_eq_true rfl) rfl d_Md_isOne_15 ⟨rfl, sg_port_neg c_1⟩
  · refine lv_iload_n hx hb d_Md_isOne_4 rfl (lv_at hl 0 rfl) ?_
    refine lv_bipush (v := 8) hx hb d_Md_isOne_5 (by decide) ?_
    refine lv_icmp_ge (tgt := 14) hx hb d_Md_isOne_7 (by decide) (fun c_2 => ?_) (fun c_2 => ?_)
    · refine lv_iconst (v := 0) hx hb d_Md_isOne_14 (by decide) ?_
      exact hp_zret hx hb hr hlocks hQ hK hH hS (Nat.le_of_ble_eq_true rfl) (Nat.le_of_ble_eq_true rfl) rfl d_Md_isOne_15 ⟨rfl, sg_port_big c_2⟩
    · refine lv_iconst (v := 1) hx hb d_Md_isOne_10 (by decide) ?_
      refine lv_goto (tgt := 15) hx hb d_Md_isOne_11 (by decide) ?_
      exact hp_zret hx hb hr hlocks hQ hK hH hS (Nat.le_of_ble_eq_true rfl) (Nat.le_of_ble_eq_true rfl) rfl d_Md_isOne_15 ⟨rfl, sg_port_in c_1 c_2⟩
abbrev rm_Md_slots : Room := { frames := 0, cells := 0, slots := 0, locals := 0 }
set_option maxHeartbeats 4000000 in
set_option maxRecDepth 100000 in
theorem cn_Md_slots (l : Launch) (D : va_G) (B : Nat) (M : hp_M) (b : Nat) (ad : Nat → Nat) (th of sl : Int32) (ct : Nat → Nat → Int32) (cl : Nat → Nat → Int64) (σ : sg_S) (hm : md_H D M b ad th of sl ct cl) (hR : mo_R σ (fun _ => sg_sl σ - 1) of sl ct cl) (hinv : sg_inv σ) (hac : sg_ac σ ≤ 512) (hsei : sg_sei σ) : Met l y_Md_slots (wd_c y_Md_slots b_Md_slots 1 (some .int)) rm_Md_slots (va_Pc [.ref b] (hp_C D B M)) (va_Qi (fun (r : Int32) (M1 : hp_M) => md_H D M1 b ad 0 of sl ct cl ∧ md_fr b ad M M1 ∧ r = sg_sl σ) (hp_C D B) (hp_ub B)) 0 0 (hp_ub B) := by
  refine hp_met (by decide) (Nat.le_of_ble_eq_true rfl) ?_
  intro p e s m args below meth cd ls Q hQ hx hb hr hts hown hlocks hnm hml hK hH hS hB hl
  replace hl : lv_has ls 1 [(0, .ref b)] := hl
  have hf : md_fr b ad M M := md_fr_rf
  refine lv_aload_n hx hb d_Md_slots_0 rfl (lv_at hl 0 rfl) ?_
  refine lv_iconst (v := 0) hx hb d_Md_slots_1 (by decide) ?_
  refine hp_put hx hb hts iw_Md t_Md t_Md_ok n_Md hown hK hH hS hB hm.1 rfl 0 (by decide) (hts _ kw_134) rfl  (v := .int 0) rfl rfl (Nat.le_of_ble_eq_true rfl) (fs' := [.int 0, .ref (ad 0), .ref (ad 1), .ref (ad 2), .ref (ad 3), .ref (ad 4), .ref (ad 5), .ref (ad 6), .ref (ad 7), .ref (ad 8), .ref (ad 9), .ref (ad 10), .ref (ad 11), .ref (ad 12), .ref (ad 13), .int of, .int sl, .ref (ad 14), .ref (ad 15), .ref (ad 16)]) rfl d_Md_slots_2 (fun M_1 H locs eM_1 hH hS => ?_)
  have hm := md_pb hm (th' := 0) (of' := of) (sl' := sl) eM_1
  have hf := md_fr_b hf eM_1
  refine lv_aload_n hx hb d_Md_slots_5 rfl (lv_at hl 0 rfl) ?_
  refine hp_get hx hb hts iw_Md hown hK hH hm.1 rfl 16 (by decide) (hts _ kw_135) (v := .int sl) rfl d_Md_slots_6 ?_
  exact hp_iret hx hb hr hlocks hQ hK hH hS (Nat.le_of_ble_eq_true rfl) (Nat.le_of_ble_eq_true rfl) d_Md_slots_9 ⟨hm, hf, hR.2.1⟩
abbrev rm_Md_sentOne : Room := { frames := 1, cells := 0, slots := 0, locals := 20 }
set_option maxHeartbeats 4000000 in
set_option maxRecDepth 100000 in
theorem cn_Md_sentOne (l : Launch) (D : va_G) (B : Nat) (M : hp_M) (b : Nat) (ad : Nat → Nat) (th of sl : Int32) (ct : Nat → Nat → Int32) (cl : Nat → Nat → Int64) (σ : sg_S) (x : Int32) (hm : md_H D M b ad th of sl ct cl) (hR : mo_R σ (fun _ => sg_sl σ - 1) of sl ct cl) (hinv : sg_inv σ) (hac : sg_ac σ ≤ 512) (hsei : sg_sei σ) : Met l y_Md_sentOne (wd_c y_Md_sentOne b_Md_sentOne 2 (some .boolean)) rm_Md_sentOne (va_Pc [.ref b, .int x] (hp_C D B M)) (va_Qi (fun (r : Int32) (M1 : hp_M) => M1 = M ∧ r = an_hasSent σ x) (hp_C D B) (hp_ub B)) 0 0 (hp_ub B) := by
  rcases sg_ix_or x with ⟨hix, _⟩ | ⟨k, hk, rfl, hix⟩
  · refine hp_met (by decide) (Nat.le_of_ble_eq_true rfl) ?_
    intro p e s m args below meth cd ls Q hQ hx hb hr hts hown hlocks hnm hml hK hH hS hB hl
    replace hl : lv_has ls 2 [(0, .ref b), (1, .int x)] := hl
    refine lv_iload_n hx hb d_Md_sentOne_0 rfl (lv_at hl 1 rfl) ?_
    refine hp_calli (hp_runS (As := [.int x]) (rest := []) hx hb hml hown (cn_Md_isOne l D B M x) (hp_cwS 1 hts kw_136 kw_139 kw_137 kw_138 rfl rfl (by decide +kernel) ⟨(Nat.le_of_ble_eq_true rfl), (Nat.le_of_ble_eq_true rfl)⟩) hK hH rfl hl.1 rfl (Nat.le_of_ble_eq_true rfl) d_Md_sentOne_1 ⟨(Nat.le_of_ble_eq_true rfl), (Nat.le_of_ble_eq_true rfl)⟩) hS (fun r_1 M_2 H locs w_3 hH hS => ?_)
    obtain ⟨eM, eR⟩ := w_3
    rw [eM] at hH
    rw [eR]
    refine lv_if_eq (tgt := 21) hx hb d_Md_sentOne_4 (by decide) (fun c_4 => ?_) (fun c_4 => absurd (sg_port_none hix) c_4)
    refine lv_iconst (v := 0) hx hb d_Md_sentOne_21 (by decide) ?_
    exact hp_zret hx hb hr hlocks hQ hK hH hS (Nat.le_of_ble_eq_true rfl) (Nat.le_of_ble_eq_true rfl) rfl d_Md_sentOne_22 ⟨rfl, an_hasSent_n (sg_latest_n hix)⟩
  · refine hp_met (by decide) (Nat.le_of_ble_eq_true rfl) ?_
    intro p e s m args below meth cd ls Q hQ hx hb hr hts hown hlocks hnm hml hK hH hS hB hl
    replace hl : lv_has ls 2 [(0, .ref b), (1, .int (nI k))] := hl
    refine lv_iload_n hx hb d_Md_sentOne_0 rfl (lv_at hl 1 rfl) ?_
    refine hp_calli (hp_runS (As := [.int (nI k)]) (rest := []) hx hb hml hown (cn_Md_isOne l D B M (nI k)) (hp_cwS 1 hts kw_136 kw_139 kw_137 kw_138 rfl rfl (by decide +kernel) ⟨(Nat.le_of_ble_eq_true rfl), (Nat.le_of_ble_eq_true rfl)⟩) hK hH rfl hl.1 rfl (Nat.le_of_ble_eq_true rfl) d_Md_sentOne_1 ⟨(Nat.le_of_ble_eq_true rfl), (Nat.le_of_ble_eq_true rfl)⟩) hS (fun r_1 M_2 H locs w_3 hH hS => ?_)
    obtain ⟨eM, eR⟩ := w_3
    rw [eM] at hH
    rw [eR]
    refine lv_if_eq (tgt := 21) hx hb d_Md_sentOne_4 (by decide) (fun c_4 => absurd c_4 (by rw [sg_port_some hix]; decide)) (fun c_4 => ?_)
    refine lv_aload_n hx hb d_Md_sentOne_7 rfl (lv_at hl 0 rfl) ?_
    refine hp_get hx hb hts iw_Md hown hK hH hm.1 rfl 17 (by decide) (hts _ kw_140) (v := .ref (ad 14)) rfl d_Md_sentOne_8 ?_
    refine lv_iload_n hx hb d_Md_sentOne_11 rfl (lv_at hl 1 rfl) ?_
    refine hp_iald hx hb hK hH (show M (ad 14) = some (hp_ai D 8 (ct 14)) from hm.2.1 14 (by decide) (by decide) (by decide)) k rfl hk (by decide) (v := (ct 14 k)) rfl d_Md_sentOne_12 ?_
    refine lv_iconst (v := (-1)) hx hb d_Md_sentOne_13 (by decide) ?_
    refine lv_icmp_eq (tgt := 21) hx hb d_Md_sentOne_14 (by decide) (fun c_5 => ?_) (fun c_5 => ?_)
    · refine lv_iconst (v := 0) hx hb d_Md_sentOne_21 (by decide) ?_
      exact hp_zret hx hb hr hlocks hQ hK hH hS (Nat.le_of_ble_eq_true rfl) (Nat.le_of_ble_eq_true rfl) rfl d_Md_sentOne_22 ⟨rfl, mo_hs0 ((hR.2.2.1 k hk).2.2.2.2) (hsei k hk) (sg_latest_s hix) c_5⟩
    · refine lv_iconst (v := 1) hx hb d_Md_sentOne_17 (by decide) ?_
      refine lv_goto (tgt := 22) hx hb d_Md_sentOne_18 (by decide) ?_
      exact hp_zret hx hb hr hlocks hQ hK hH hS (Nat.le_of_ble_eq_true rfl) (Nat.le_of_ble_eq_true rfl) rfl d_Md_sentOne_22 ⟨rfl, mo_hs1 ((hR.2.2.1 k hk).2.2.2.2) (sg_latest_s hix) c_5⟩
abbrev rm_Md_hasSent : Room := { frames := 2, cells := 0, slots := 0, locals := 41 }
set_option maxHeartbeats 4000000 in
set_option maxRecDepth 100000 in
theorem cn_Md_hasSent (l : Launch) (D : va_G) (B : Nat) (M : hp_M) (b : Nat) (ad : Nat → Nat) (th of sl : Int32) (ct : Nat → Nat → Int32) (cl : Nat → Nat → Int64) (σ : sg_S) (x : Int32) (hm : md_H D M b ad th of sl ct cl) (hR : mo_R σ (fun _ => sg_sl σ - 1) of sl ct cl) (hinv : sg_inv σ) (hac : sg_ac σ ≤ 512) (hsei : sg_sei σ) : Met l y_Md_hasSent (wd_c y_Md_hasSent b_Md_hasSent 2 (some .boolean)) rm_Md_hasSent (va_Pc [.ref b, .int x] (hp_C D B M)) (va_Qi (fun (r : Int32) (M1 : hp_M) => md_H D M1 b ad 0 of sl ct cl ∧ md_fr b ad M M1 ∧ r = an_hasSent σ x) (hp_C D B) (hp_ub B)) 0 0 (hp_ub B) := by
  refine hp_met (by decide) (Nat.le_of_ble_eq_true rfl) ?_
  intro p e s m args below meth cd ls Q hQ hx hb hr hts hown hlocks hnm hml hK hH hS hB hl
  replace hl : lv_has ls 2 [(0, .ref b), (1, .int x)] := hl
  have hf : md_fr b ad M M := md_fr_rf
  refine lv_aload_n hx hb d_Md_hasSent_0 rfl (lv_at hl 0 rfl) ?_
  refine lv_iconst (v := 0) hx hb d_Md_hasSent_1 (by decide) ?_
  refine hp_put hx hb hts iw_Md t_Md t_Md_ok n_Md hown hK hH hS hB hm.1 rfl 0 (by decide) (hts _ kw_134) rfl  (v := .int 0) rfl rfl (Nat.le_of_ble_eq_true rfl) (fs' := [.int 0, .ref (ad 0), .ref (ad 1), .ref (ad 2), .ref (ad 3), .ref (ad 4), .ref (ad 5), .ref (ad 6), .ref (ad 7), .ref (ad 8), .ref (ad 9), .ref (ad 10), .ref (ad 11), .ref (ad 12), .ref (ad 13), .int of, .int sl, .ref (ad 14), .ref (ad 15), .ref (ad 16)]) rfl d_Md_hasSent_2 (fun M_1 H locs eM_1 hH hS => ?_)
  have hm := md_pb hm (th' := 0) (of' := of) (sl' := sl) eM_1
  have hf := md_fr_b hf eM_1
  refine lv_aload_n hx hb d_Md_hasSent_5 rfl (lv_at hl 0 rfl) ?_
  refine lv_iload_n hx hb d_Md_hasSent_6 rfl (lv_at hl 1 rfl) ?_
  refine hp_calli (hp_runV (b := b) (As := [.int x]) (rest := []) hx hb hml hown (cn_Md_sentOne l D B M_1 b ad 0 of sl ct cl σ x hm hR hinv hac hsei) (hp_cwV 1 hts kw_141 kw_143 kw_144 kw_137 kw_142 rfl rfl (by decide +kernel) ⟨(Nat.le_of_ble_eq_true rfl), (Nat.le_of_ble_eq_true rfl)⟩) hK hH hm.1 rfl rfl hl.1 rfl (Nat.le_of_ble_eq_true rfl) d_Md_hasSent_7 ⟨(Nat.le_of_ble_eq_true rfl), (Nat.le_of_ble_eq_true rfl)⟩) hS (fun r_2 M_3 H locs w_4 hH hS => ?_)
  obtain ⟨eM, eR⟩ := w_4
  rw [eM] at hH
  rw [eR]
  exact hp_zret hx hb hr hlocks hQ hK hH hS (Nat.le_of_ble_eq_true rfl) (Nat.le_of_ble_eq_true rfl) (an_hasSent_z σ x) d_Md_hasSent_10 ⟨hm, hf, rfl⟩
abbrev rm_Md_sent : Room := { frames := 2, cells := 0, slots := 0, locals := 41 }
set_option maxHeartbeats 4000000 in
set_option maxRecDepth 100000 in
theorem cn_Md_sent (l : Launch) (D : va_G) (B : Nat) (M : hp_M) (b : Nat) (ad : Nat → Nat) (th of sl : Int32) (ct : Nat → Nat → Int32) (cl : Nat → Nat → Int64) (σ : sg_S) (x : Int32) (hm : md_H D M b ad th of sl ct cl) (hR : mo_R σ (fun _ => sg_sl σ - 1) of sl ct cl) (hinv : sg_inv σ) (hac : sg_ac σ ≤ 512) (hsei : sg_sei σ) : Met l y_Md_sent (wd_c y_Md_sent b_Md_sent 2 (some .int)) rm_Md_sent (va_Pc [.ref b, .int x] (hp_C D B M)) (va_Qi (fun (r : Int32) (M1 : hp_M) => md_H D M1 b ad 0 of sl ct cl ∧ md_fr b ad M M1 ∧ r = an_sent σ x) (hp_C D B) (hp_ub B)) 0 0 (hp_ub B) := by
  rcases sg_lat_or σ x with hl2 | ⟨k, d, hk, rfl, hix, hse, hl2⟩
  · refine hp_met (by decide) (Nat.le_of_ble_eq_true rfl) ?_
    intro p e s m args below meth cd ls Q hQ hx hb hr hts hown hlocks hnm hml hK hH hS hB hl
    replace hl : lv_has ls 2 [(0, .ref b), (1, .int x)] := hl
    have hf : md_fr b ad M M := md_fr_rf
    refine lv_aload_n hx hb d_Md_sent_0 rfl (lv_at hl 0 rfl) ?_
    refine lv_iconst (v := 0) hx hb d_Md_sent_1 (by decide) ?_
    refine hp_put hx hb hts iw_Md t_Md t_Md_ok n_Md hown hK hH hS hB hm.1 rfl 0 (by decide) (hts _ kw_134) rfl  (v := .int 0) rfl rfl (Nat.le_of_ble_eq_true rfl) (fs' := [.int 0, .ref (ad 0), .ref (ad 1), .ref (ad 2), .ref (ad 3), .ref (ad 4), .ref (ad 5), .ref (ad 6), .ref (ad 7), .ref (ad 8), .ref (ad 9), .ref (ad 10), .ref (ad 11), .ref (ad 12), .ref (ad 13), .int of, .int sl, .ref (ad 14), .ref (ad 15), .ref (ad 16)]) rfl d_Md_sent_2 (fun M_1 H locs eM_1 hH hS => ?_)
    have hm := md_pb hm (th' := 0) (of' := of) (sl' := sl) eM_1
    have hf := md_fr_b hf eM_1
    refine lv_aload_n hx hb d_Md_sent_5 rfl (lv_at hl 0 rfl) ?_
    refine lv_iload_n hx hb d_Md_sent_6 rfl (lv_at hl 1 rfl) ?_
    refine hp_calli (hp_runV (b := b) (As := [.int x]) (rest := []) hx hb hml hown (cn_Md_sentOne l D B M_1 b ad 0 of sl ct cl σ x hm hR hinv hac hsei) (hp_cwV 1 hts kw_141 kw_143 kw_144 kw_137 kw_142 rfl rfl (by decide +kernel) ⟨(Nat.le_of_ble_eq_true rfl), (Nat.le_of_ble_eq_true rfl)⟩) hK hH hm.1 rfl rfl hl.1 rfl (Nat.le_of_ble_eq_true rfl) d_Md_sent_7 ⟨(Nat.le_of_ble_eq_true rfl), (Nat.le_of_ble_eq_true rfl)⟩) hS (fun r_2 M_3 H locs w_4 hH hS => ?_)
    obtain ⟨eM, eR⟩ := w_4
    rw [eM] at hH
    rw [eR]
    refine lv_if_eq (tgt := 22) hx hb d_Md_sent_10 (by decide) (fun c_5 => ?_) (fun c_5 => absurd (an_hasSent_n hl2).symm c_5)
    refine lv_iconst (v := 0) hx hb d_Md_sent_22 (by decide) ?_
    exact hp_iret hx hb hr hlocks hQ hK hH hS (Nat.le_of_ble_eq_true rfl) (Nat.le_of_ble_eq_true rfl) d_Md_sent_23 ⟨hm, hf, (an_sent_n hl2)⟩
  · refine hp_met (by decide) (Nat.le_of_ble_eq_true rfl) ?_
    intro p e s m args below meth cd ls Q hQ hx hb hr hts hown hlocks hnm hml hK hH hS hB hl
    replace hl : lv_has ls 2 [(0, .ref b), (1, .int (nI k))] := hl
    have hf : md_fr b ad M M := md_fr_rf
    refine lv_aload_n hx hb d_Md_sent_0 rfl (lv_at hl 0 rfl) ?_
    refine lv_iconst (v := 0) hx hb d_Md_sent_1 (by decide) ?_
    refine hp_put hx hb hts iw_Md t_Md t_Md_ok n_Md hown hK hH hS hB hm.1 rfl 0 (by decide) (hts _ kw_134) rfl  (v := .int 0) rfl rfl (Nat.le_of_ble_eq_true rfl) (fs' := [.int 0, .ref (ad 0), .ref (ad 1), .ref (ad 2), .ref (ad 3), .ref (ad 4), .ref (ad 5), .ref (ad 6), .ref (ad 7), .ref (ad 8), .ref (ad 9), .ref (ad 10), .ref (ad 11), .ref (ad 12), .ref (ad 13), .int of, .int sl, .ref (ad 14), .ref (ad 15), .ref (ad 16)]) rfl d_Md_sent_2 (fun M_1 H locs eM_1 hH hS => ?_)
    have hm := md_pb hm (th' := 0) (of' := of) (sl' := sl) eM_1
    have hf := md_fr_b hf eM_1
    refine lv_aload_n hx hb d_Md_sent_5 rfl (lv_at hl 0 rfl) ?_
    refine lv_iload_n hx hb d_Md_sent_6 rfl (lv_at hl 1 rfl) ?_
    refine hp_calli (hp_runV (b := b) (As := [.int (nI k)]) (rest := []) hx hb hml hown (cn_Md_sentOne l D B M_1 b ad 0 of sl ct cl σ (nI k) hm hR hinv hac hsei) (hp_cwV 1 hts kw_141 kw_143 kw_144 kw_137 kw_142 rfl rfl (by decide +kernel) ⟨(Nat.le_of_ble_eq_true rfl), (Nat.le_of_ble_eq_true rfl)⟩) hK hH hm.1 rfl rfl hl.1 rfl (Nat.le_of_ble_eq_true rfl) d_Md_sent_7 ⟨(Nat.le_of_ble_eq_true rfl), (Nat.le_of_ble_eq_true rfl)⟩) hS (fun r_2 M_3 H locs w_4 hH hS => ?_)
    obtain ⟨eM, eR⟩ := w_4
    rw [eM] at hH
    rw [eR]
    refine lv_if_eq (tgt := 22) hx hb d_Md_sent_10 (by decide) (fun c_5 => absurd c_5 (by rw [← an_hasSent_s hl2]; decide)) (fun c_5 => ?_)
    refine lv_aload_n hx hb d_Md_sent_13 rfl (lv_at hl 0 rfl) ?_
    refine hp_get hx hb hts iw_Md hown hK hH hm.1 rfl 18 (by decide) (hts _ kw_145) (v := .ref (ad 15)) rfl d_Md_sent_14 ?_
    refine lv_iload_n hx hb d_Md_sent_17 rfl (lv_at hl 1 rfl) ?_
    refine hp_iald hx hb hK hH (show M_1 (ad 15) = some (hp_ai D 8 (ct 15)) from hm.2.1 15 (by decide) (by decide) (by decide)) k rfl hk (by decide) (v := (ct 15 k)) rfl d_Md_sent_18 ?_
    refine lv_goto (tgt := 23) hx hb d_Md_sent_19 (by decide) ?_
    exact hp_iret hx hb hr hlocks hQ hK hH hS (Nat.le_of_ble_eq_true rfl) (Nat.le_of_ble_eq_true rfl) d_Md_sent_23 ⟨hm, hf, (by rw [← an_sent_s hl2]; exact (mo_seq ((hR.2.2.1 k hk).2.2.2.2) hse).2.1)⟩
abbrev rm_Md_sentFrom : Room := { frames := 2, cells := 0, slots := 0, locals := 41 }
set_option maxHeartbeats 4000000 in
set_option maxRecDepth 100000 in
theorem cn_Md_sentFrom (l : Launch) (D : va_G) (B : Nat) (M : hp_M) (b : Nat) (ad : Nat → Nat) (th of sl : Int32) (ct : Nat → Nat → Int32) (cl : Nat → Nat → Int64) (σ : sg_S) (x : Int32) (hm : md_H D M b ad th of sl ct cl) (hR : mo_R σ (fun _ => sg_sl σ - 1) of sl ct cl) (hinv : sg_inv σ) (hac : sg_ac σ ≤ 512) (hsei : sg_sei σ) : Met l y_Md_sentFrom (wd_c y_Md_sentFrom b_Md_sentFrom 2 (some .int)) rm_Md_sentFrom (va_Pc [.ref b, .int x] (hp_C D B M)) (va_Qi (fun (r : Int32) (M1 : hp_M) => md_H D M1 b ad 0 of sl ct cl ∧ md_fr b ad M M1 ∧ r = an_sentFrom σ x) (hp_C D B) (hp_ub B)) 0 0 (hp_ub B) := by
  rcases sg_lat_or σ x with hl2 | ⟨k, d, hk, rfl, hix, hse, hl2⟩
  · refine hp_met (by decide) (Nat.le_of_ble_eq_true rfl) ?_
    intro p e s m args below meth cd ls Q hQ hx hb hr hts hown hlocks hnm hml hK hH hS hB hl
    replace hl : lv_has ls 2 [(0, .ref b), (1, .int x)] := hl
    have hf : md_fr b ad M M := md_fr_rf
    refine lv_aload_n hx hb d_Md_sentFrom_0 rfl (lv_at hl 0 rfl) ?_
    refine lv_iconst (v := 0) hx hb d_Md_sentFrom_1 (by decide) ?_
    refine hp_put hx hb hts iw_Md t_Md t_Md_ok n_Md hown hK hH hS hB hm.1 rfl 0 (by decide) (hts _ kw_134) rfl  (v := .int 0) rfl rfl (Nat.le_of_ble_eq_true rfl) (fs' := [.int 0, .ref (ad 0), .ref (ad 1), .ref (ad 2), .ref (ad 3), .ref (ad 4), .ref (ad 5), .ref (ad 6), .ref (ad 7), .ref (ad 8), .ref (ad 9), .ref (ad 10), .ref (ad 11), .ref (ad 12), .ref (ad 13), .int of, .int sl, .ref (ad 14), .ref (ad 15), .ref (ad 16)]) rfl d_Md_sentFrom_2 (fun M_1 H locs eM_1 hH hS => ?_)
    have hm := md_pb hm (th' := 0) (of' := of) (sl' := sl) eM_1
    have hf := md_fr_b hf eM_1
    refine lv_aload_n hx hb d_Md_sentFrom_5 rfl (lv_at hl 0 rfl) ?_
    refine lv_iload_n hx hb d_Md_sentFrom_6 rfl (lv_at hl 1 rfl) ?_
    refine hp_calli (hp_runV (b := b) (As := [.int x]) (rest := []) hx hb hml hown (cn_Md_sentOne l D B M_1 b ad 0 of sl ct cl σ x hm hR hinv hac hsei) (hp_cwV 1 hts kw_141 kw_143 kw_144 kw_137 kw_142 rfl rfl (by decide +kernel) ⟨(Nat.le_of_ble_eq_true rfl), (Nat.le_of_ble_eq_true rfl)⟩) hK hH hm.1 rfl rfl hl.1 rfl (Nat.le_of_ble_eq_true rfl) d_Md_sentFrom_7 ⟨(Nat.le_of_ble_eq_true rfl), (Nat.le_of_ble_eq_true rfl)⟩) hS (fun r_2 M_3 H locs w_4 hH hS => ?_)
    obtain ⟨eM, eR⟩ := w_4
    rw [eM] at hH
    rw [eR]
    refine lv_if_eq (tgt := 22) hx hb d_Md_sentFrom_10 (by decide) (fun c_5 => ?_) (fun c_5 => absurd (an_hasSent_n hl2).symm c_5)
    refine lv_iconst (v := (-1)) hx hb d_Md_sentFrom_22 (by decide) ?_
    exact hp_iret hx hb hr hlocks hQ hK hH hS (Nat.le_of_ble_eq_true rfl) (Nat.le_of_ble_eq_true rfl) d_Md_sentFrom_23 ⟨hm, hf, (an_sentFrom_n hl2)⟩
  · refine hp_met (by decide) (Nat.le_of_ble_eq_true rfl) ?_
    intro p e s m args below meth cd ls Q hQ hx hb hr hts hown hlocks hnm hml hK hH hS hB hl
    replace hl : lv_has ls 2 [(0, .ref b), (1, .int (nI k))] := hl
    have hf : md_fr b ad M M := md_fr_rf
    refine lv_aload_n hx hb d_Md_sentFrom_0 rfl (lv_at hl 0 rfl) ?_
    refine lv_iconst (v := 0) hx hb d_Md_sentFrom_1 (by decide) ?_
    refine hp_put hx hb hts iw_Md t_Md t_Md_ok n_Md hown hK hH hS hB hm.1 rfl 0 (by decide) (hts _ kw_134) rfl  (v := .int 0) rfl rfl (Nat.le_of_ble_eq_true rfl) (fs' := [.int 0, .ref (ad 0), .ref (ad 1), .ref (ad 2), .ref (ad 3), .ref (ad 4), .ref (ad 5), .ref (ad 6), .ref (ad 7), .ref (ad 8), .ref (ad 9), .ref (ad 10), .ref (ad 11), .ref (ad 12), .ref (ad 13), .int of, .int sl, .ref (ad 14), .ref (ad 15), .ref (ad 16)]) rfl d_Md_sentFrom_2 (fun M_1 H locs eM_1 hH hS => ?_)
    have hm := md_pb hm (th' := 0) (of' := of) (sl' := sl) eM_1
    have hf := md_fr_b hf eM_1
    refine lv_aload_n hx hb d_Md_sentFrom_5 rfl (lv_at hl 0 rfl) ?_
    refine lv_iload_n hx hb d_Md_sentFrom_6 rfl (lv_at hl 1 rfl) ?_
    refine hp_calli (hp_runV (b := b) (As := [.int (nI k)]) (rest := []) hx hb hml hown (cn_Md_sentOne l D B M_1 b ad 0 of sl ct cl σ (nI k) hm hR hinv hac hsei) (hp_cwV 1 hts kw_141 kw_143 kw_144 kw_137 kw_142 rfl rfl (by decide +kernel) ⟨(Nat.le_of_ble_eq_true rfl), (Nat.le_of_ble_eq_true rfl)⟩) hK hH hm.1 rfl rfl hl.1 rfl (Nat.le_of_ble_eq_true rfl) d_Md_sentFrom_7 ⟨(Nat.le_of_ble_eq_true rfl), (Nat.le_of_ble_eq_true rfl)⟩) hS (fun r_2 M_3 H locs w_4 hH hS => ?_)
    obtain ⟨eM, eR⟩ := w_4
    rw [eM] at hH
    rw [eR]
    refine lv_if_eq (tgt := 22) hx hb d_Md_sentFrom_10 (by decide) (fun c_5 => absurd c_5 (by rw [← an_hasSent_s hl2]; decide)) (fun c_5 => ?_)
    refine lv_aload_n hx hb d_Md_sentFrom_13 rfl (lv_at hl 0 rfl) ?_
    refine hp_get hx hb hts iw_Md hown hK hH hm.1 rfl 17 (by decide) (hts _ kw_140) (v := .ref (ad 14)) rfl d_Md_sentFrom_14 ?_
    refine lv_iload_n hx hb d_Md_sentFrom_17 rfl (lv_at hl 1 rfl) ?_
    refine hp_iald hx hb hK hH (show M_1 (ad 14) = some (hp_ai D 8 (ct 14)) from hm.2.1 14 (by decide) (by decide) (by decide)) k rfl hk (by decide) (v := (ct 14 k)) rfl d_Md_sentFrom_18 ?_
    refine lv_goto (tgt := 23) hx hb d_Md_sentFrom_19 (by decide) ?_
    exact hp_iret hx hb hr hlocks hQ hK hH hS (Nat.le_of_ble_eq_true rfl) (Nat.le_of_ble_eq_true rfl) d_Md_sentFrom_23 ⟨hm, hf, (by rw [← an_sentFrom_s hl2]; exact (mo_seq ((hR.2.2.1 k hk).2.2.2.2) hse).1)⟩
abbrev rm_Md_waited : Room := { frames := 2, cells := 0, slots := 0, locals := 41 }
set_option maxHeartbeats 4000000 in
set_option maxRecDepth 100000 in
theorem cn_Md_waited (l : Launch) (D : va_G) (B : Nat) (M : hp_M) (b : Nat) (ad : Nat → Nat) (th of sl : Int32) (ct : Nat → Nat → Int32) (cl : Nat → Nat → Int64) (σ : sg_S) (x : Int32) (hm : md_H D M b ad th of sl ct cl) (hR : mo_R σ (fun _ => sg_sl σ - 1) of sl ct cl) (hinv : sg_inv σ) (hac : sg_ac σ ≤ 512) (hsei : sg_sei σ) : Met l y_Md_waited (wd_c y_Md_waited b_Md_waited 2 (some .int)) rm_Md_waited (va_Pc [.ref b, .int x] (hp_C D B M)) (va_Qi (fun (r : Int32) (M1 : hp_M) => md_H D M1 b ad 0 of sl ct cl ∧ md_fr b ad M M1 ∧ r = an_waited σ x) (hp_C D B) (hp_ub B)) 0 0 (hp_ub B) := by
  rcases sg_lat_or σ x with hl2 | ⟨k, d, hk, rfl, hix, hse, hl2⟩
  · refine hp_met (by decide) (Nat.le_of_ble_eq_true rfl) ?_
    intro p e s m args below meth cd ls Q hQ hx hb hr hts hown hlocks hnm hml hK hH hS hB hl
    replace hl : lv_has ls 2 [(0, .ref b), (1, .int x)] := hl
    have hf : md_fr b ad M M := md_fr_rf
    refine lv_aload_n hx hb d_Md_waited_0 rfl (lv_at hl 0 rfl) ?_
    refine lv_iconst (v := 0) hx hb d_Md_waited_1 (by decide) ?_
    refine hp_put hx hb hts iw_Md t_Md t_Md_ok n_Md hown hK hH hS hB hm.1 rfl 0 (by decide) (hts _ kw_134) rfl  (v := .int 0) rfl rfl (Nat.le_of_ble_eq_true rfl) (fs' := [.int 0, .ref (ad 0), .ref (ad 1), .ref (ad 2), .ref (ad 3), .ref (ad 4), .ref (ad 5), .ref (ad 6), .ref (ad 7), .ref (ad 8), .ref (ad 9), .ref (ad 10), .ref (ad 11), .ref (ad 12), .ref (ad 13), .int of, .int sl, .ref (ad 14), .ref (ad 15), .ref (ad 16)]) rfl d_Md_waited_2 (fun M_1 H locs eM_1 hH hS => ?_)
    have hm := md_pb hm (th' := 0) (of' := of) (sl' := sl) eM_1
    have hf := md_fr_b hf eM_1
    refine lv_aload_n hx hb d_Md_waited_5 rfl (lv_at hl 0 rfl) ?_
    refine lv_iload_n hx hb d_Md_waited_6 rfl (lv_at hl 1 rfl) ?_
    refine hp_calli (hp_runV (b := b) (As := [.int x]) (rest := []) hx hb hml hown (cn_Md_sentOne l D B M_1 b ad 0 of sl ct cl σ x hm hR hinv hac hsei) (hp_cwV 1 hts kw_141 kw_143 kw_144 kw_137 kw_142 rfl rfl (by decide +kernel) ⟨(Nat.le_of_ble_eq_true rfl), (Nat.le_of_ble_eq_true rfl)⟩) hK hH hm.1 rfl rfl hl.1 rfl (Nat.le_of_ble_eq_true rfl) d_Md_waited_7 ⟨(Nat.le_of_ble_eq_true rfl), (Nat.le_of_ble_eq_true rfl)⟩) hS (fun r_2 M_3 H locs w_4 hH hS => ?_)
    obtain ⟨eM, eR⟩ := w_4
    rw [eM] at hH
    rw [eR]
    refine lv_if_eq (tgt := 22) hx hb d_Md_waited_10 (by decide) (fun c_5 => ?_) (fun c_5 => absurd (an_hasSent_n hl2).symm c_5)
    refine lv_iconst (v := (-1)) hx hb d_Md_waited_22 (by decide) ?_
    exact hp_iret hx hb hr hlocks hQ hK hH hS (Nat.le_of_ble_eq_true rfl) (Nat.le_of_ble_eq_true rfl) d_Md_waited_23 ⟨hm, hf, (an_waited_n hl2)⟩
  · refine hp_met (by decide) (Nat.le_of_ble_eq_true rfl) ?_
    intro p e s m args below meth cd ls Q hQ hx hb hr hts hown hlocks hnm hml hK hH hS hB hl
    replace hl : lv_has ls 2 [(0, .ref b), (1, .int (nI k))] := hl
    have hf : md_fr b ad M M := md_fr_rf
    refine lv_aload_n hx hb d_Md_waited_0 rfl (lv_at hl 0 rfl) ?_
    refine lv_iconst (v := 0) hx hb d_Md_waited_1 (by decide) ?_
    refine hp_put hx hb hts iw_Md t_Md t_Md_ok n_Md hown hK hH hS hB hm.1 rfl 0 (by decide) (hts _ kw_134) rfl  (v := .int 0) rfl rfl (Nat.le_of_ble_eq_true rfl) (fs' := [.int 0, .ref (ad 0), .ref (ad 1), .ref (ad 2), .ref (ad 3), .ref (ad 4), .ref (ad 5), .ref (ad 6), .ref (ad 7), .ref (ad 8), .ref (ad 9), .ref (ad 10), .ref (ad 11), .ref (ad 12), .ref (ad 13), .int of, .int sl, .ref (ad 14), .ref (ad 15), .ref (ad 16)]) rfl d_Md_waited_2 (fun M_1 H locs eM_1 hH hS => ?_)
    have hm := md_pb hm (th' := 0) (of' := of) (sl' := sl) eM_1
    have hf := md_fr_b hf eM_1
    refine lv_aload_n hx hb d_Md_waited_5 rfl (lv_at hl 0 rfl) ?_
    refine lv_iload_n hx hb d_Md_waited_6 rfl (lv_at hl 1 rfl) ?_
    refine hp_calli (hp_runV (b := b) (As := [.int (nI k)]) (rest := []) hx hb hml hown (cn_Md_sentOne l D B M_1 b ad 0 of sl ct cl σ (nI k) hm hR hinv hac hsei) (hp_cwV 1 hts kw_141 kw_143 kw_144 kw_137 kw_142 rfl rfl (by decide +kernel) ⟨(Nat.le_of_ble_eq_true rfl), (Nat.le_of_ble_eq_true rfl)⟩) hK hH hm.1 rfl rfl hl.1 rfl (Nat.le_of_ble_eq_true rfl) d_Md_waited_7 ⟨(Nat.le_of_ble_eq_true rfl), (Nat.le_of_ble_eq_true rfl)⟩) hS (fun r_2 M_3 H locs w_4 hH hS => ?_)
    obtain ⟨eM, eR⟩ := w_4
    rw [eM] at hH
    rw [eR]
    refine lv_if_eq (tgt := 22) hx hb d_Md_waited_10 (by decide) (fun c_5 => absurd c_5 (by rw [← an_hasSent_s hl2]; decide)) (fun c_5 => ?_)
    refine lv_aload_n hx hb d_Md_waited_13 rfl (lv_at hl 0 rfl) ?_
    refine hp_get hx hb hts iw_Md hown hK hH hm.1 rfl 19 (by decide) (hts _ kw_146) (v := .ref (ad 16)) rfl d_Md_waited_14 ?_
    refine lv_iload_n hx hb d_Md_waited_17 rfl (lv_at hl 1 rfl) ?_
    refine hp_iald hx hb hK hH (show M_1 (ad 16) = some (hp_ai D 8 (ct 16)) from hm.2.1 16 (by decide) (by decide) (by decide)) k rfl hk (by decide) (v := (ct 16 k)) rfl d_Md_waited_18 ?_
    refine lv_goto (tgt := 23) hx hb d_Md_waited_19 (by decide) ?_
    exact hp_iret hx hb hr hlocks hQ hK hH hS (Nat.le_of_ble_eq_true rfl) (Nat.le_of_ble_eq_true rfl) d_Md_waited_23 ⟨hm, hf, (by rw [← an_waited_s hl2]; exact (mo_seq ((hR.2.2.1 k hk).2.2.2.2) hse).2.2)⟩
abbrev rm_Md_waiting : Room := { frames := 1, cells := 0, slots := 0, locals := 20 }
set_option maxHeartbeats 4000000 in
set_option maxRecDepth 100000 in
theorem cn_Md_waiting (l : Launch) (D : va_G) (B : Nat) (M : hp_M) (b : Nat) (ad : Nat → Nat) (th of sl : Int32) (ct : Nat → Nat → Int32) (cl : Nat → Nat → Int64) (σ : sg_S) (x : Int32) (hm : md_H D M b ad th of sl ct cl) (hR : mo_R σ (fun _ => sg_sl σ - 1) of sl ct cl) (hinv : sg_inv σ) (hac : sg_ac σ ≤ 512) (hsei : sg_sei σ) : Met l y_Md_waiting (wd_c y_Md_waiting b_Md_waiting 2 (some .int)) rm_Md_waiting (va_Pc [.ref b, .int x] (hp_C D B M)) (va_Qi (fun (r : Int32) (M1 : hp_M) => md_H D M1 b ad 0 of sl ct cl ∧ md_fr b ad M M1 ∧ r = an_waiting σ x) (hp_C D B) (hp_ub B)) 0 0 (hp_ub B) := by
  rcases sg_ix_or x with ⟨hix, _⟩ | ⟨k, hk, rfl, hix⟩
  · refine hp_met (by decide) (Nat.le_of_ble_eq_true rfl) ?_
    intro p e s m args below meth cd ls Q hQ hx hb hr hts hown hlocks hnm hml hK hH hS hB hl
    replace hl : lv_has ls 2 [(0, .ref b), (1, .int x)] := hl
    have hf : md_fr b ad M M := md_fr_rf
    refine lv_aload_n hx hb d_Md_waiting_0 rfl (lv_at hl 0 rfl) ?_
    refine lv_iconst (v := 0) hx hb d_Md_waiting_1 (by decide) ?_
    refine hp_put hx hb hts iw_Md t_Md t_Md_ok n_Md hown hK hH hS hB hm.1 rfl 0 (by decide) (hts _ kw_134) rfl  (v := .int 0) rfl rfl (Nat.le_of_ble_eq_true rfl) (fs' := [.int 0, .ref (ad 0), .ref (ad 1), .ref (ad 2), .ref (ad 3), .ref (ad 4), .ref (ad 5), .ref (ad 6), .ref (ad 7), .ref (ad 8), .ref (ad 9), .ref (ad 10), .ref (ad 11), .ref (ad 12), .ref (ad 13), .int of, .int sl, .ref (ad 14), .ref (ad 15), .ref (ad 16)]) rfl d_Md_waiting_2 (fun M_1 H locs eM_1 hH hS => ?_)
    have hm := md_pb hm (th' := 0) (of' := of) (sl' := sl) eM_1
    have hf := md_fr_b hf eM_1
    refine lv_iload_n hx hb d_Md_waiting_5 rfl (lv_at hl 1 rfl) ?_
    refine hp_calli (hp_runS (As := [.int x]) (rest := []) hx hb hml hown (cn_Md_isOne l D B M_1 x) (hp_cwS 1 hts kw_136 kw_139 kw_137 kw_138 rfl rfl (by decide +kernel) ⟨(Nat.le_of_ble_eq_true rfl), (Nat.le_of_ble_eq_true rfl)⟩) hK hH rfl hl.1 rfl (Nat.le_of_ble_eq_true rfl) d_Md_waiting_6 ⟨(Nat.le_of_ble_eq_true rfl), (Nat.le_of_ble_eq_true rfl)⟩) hS (fun r_2 M_3 H locs w_4 hH hS => ?_)
    obtain ⟨eM, eR⟩ := w_4
    rw [eM] at hH
    rw [eR]
    refine lv_if_eq (tgt := 21) hx hb d_Md_waiting_9 (by decide) (fun c_5 => ?_) (fun c_5 => absurd (sg_port_none hix) c_5)
    refine lv_iconst (v := (-1)) hx hb d_Md_waiting_21 (by decide) ?_
    exact hp_iret hx hb hr hlocks hQ hK hH hS (Nat.le_of_ble_eq_true rfl) (Nat.le_of_ble_eq_true rfl) d_Md_waiting_22 ⟨hm, hf, (an_waiting_n hix)⟩
  · refine hp_met (by decide) (Nat.le_of_ble_eq_true rfl) ?_
    intro p e s m args below meth cd ls Q hQ hx hb hr hts hown hlocks hnm hml hK hH hS hB hl
    replace hl : lv_has ls 2 [(0, .ref b), (1, .int (nI k))] := hl
    have hf : md_fr b ad M M := md_fr_rf
    refine lv_aload_n hx hb d_Md_waiting_0 rfl (lv_at hl 0 rfl) ?_
    refine lv_iconst (v := 0) hx hb d_Md_waiting_1 (by decide) ?_
    refine hp_put hx hb hts iw_Md t_Md t_Md_ok n_Md hown hK hH hS hB hm.1 rfl 0 (by decide) (hts _ kw_134) rfl  (v := .int 0) rfl rfl (Nat.le_of_ble_eq_true rfl) (fs' := [.int 0, .ref (ad 0), .ref (ad 1), .ref (ad 2), .ref (ad 3), .ref (ad 4), .ref (ad 5), .ref (ad 6), .ref (ad 7), .ref (ad 8), .ref (ad 9), .ref (ad 10), .ref (ad 11), .ref (ad 12), .ref (ad 13), .int of, .int sl, .ref (ad 14), .ref (ad 15), .ref (ad 16)]) rfl d_Md_waiting_2 (fun M_1 H locs eM_1 hH hS => ?_)
    have hm := md_pb hm (th' := 0) (of' := of) (sl' := sl) eM_1
    have hf := md_fr_b hf eM_1
    refine lv_iload_n hx hb d_Md_waiting_5 rfl (lv_at hl 1 rfl) ?_
    refine hp_calli (hp_runS (As := [.int (nI k)]) (rest := []) hx hb hml hown (cn_Md_isOne l D B M_1 (nI k)) (hp_cwS 1 hts kw_136 kw_139 kw_137 kw_138 rfl rfl (by decide +kernel) ⟨(Nat.le_of_ble_eq_true rfl), (Nat.le_of_ble_eq_true rfl)⟩) hK hH rfl hl.1 rfl (Nat.le_of_ble_eq_true rfl) d_Md_waiting_6 ⟨(Nat.le_of_ble_eq_true rfl), (Nat.le_of_ble_eq_true rfl)⟩) hS (fun r_2 M_3 H locs w_4 hH hS => ?_)
    obtain ⟨eM, eR⟩ := w_4
    rw [eM] at hH
    rw [eR]
    refine lv_if_eq (tgt := 21) hx hb d_Md_waiting_9 (by decide) (fun c_5 => absurd c_5 (by rw [sg_port_some hix]; decide)) (fun c_5 => ?_)
    refine lv_aload_n hx hb d_Md_waiting_12 rfl (lv_at hl 0 rfl) ?_
    refine hp_get hx hb hts iw_Md hown hK hH hm.1 rfl 1 (by decide) (hts _ kw_147) (v := .ref (ad 0)) rfl d_Md_waiting_13 ?_
    refine lv_iload_n hx hb d_Md_waiting_16 rfl (lv_at hl 1 rfl) ?_
    refine hp_iald hx hb hK hH (show M_1 (ad 0) = some (hp_ai D 8 (ct 0)) from hm.2.1 0 (by decide) (by decide) (by decide)) k rfl hk (by decide) (v := (ct 0 k)) rfl d_Md_waiting_17 ?_
    refine lv_goto (tgt := 22) hx hb d_Md_waiting_18 (by decide) ?_
    exact hp_iret hx hb hr hlocks hQ hK hH hS (Nat.le_of_ble_eq_true rfl) (Nat.le_of_ble_eq_true rfl) d_Md_waiting_22 ⟨hm, hf, (by rw [← an_waiting_s hix]; exact (hR.2.2.1 k hk).1)⟩
abbrev rm_Md_isCell : Room := { frames := 1, cells := 0, slots := 0, locals := 20 }
set_option maxHeartbeats 4000000 in
set_option maxRecDepth 100000 in
theorem cn_Md_isCell (l : Launch) (D : va_G) (B : Nat) (M : hp_M) (b : Nat) (ad : Nat → Nat) (th of sl : Int32) (ct : Nat → Nat → Int32) (cl : Nat → Nat → Int64) (σ : sg_S) (x k : Int32) (hm : md_H D M b ad th of sl ct cl) (hR : mo_R σ (fun _ => sg_sl σ - 1) of sl ct cl) (hinv : sg_inv σ) (hac : sg_ac σ ≤ 512) (hsei : sg_sei σ) : Met l y_Md_isCell (wd_c y_Md_isCell b_Md_isCell 3 (some .boolean)) rm_Md_isCell (va_Pc [.ref b, .int x, .int k] (hp_C D B M)) (va_Qi (fun (r : Int32) (M1 : hp_M) => M1 = M ∧ r = an_isCell σ x k) (hp_C D B) (hp_ub B)) 0 0 (hp_ub B) := by
  rcases sg_kth_or σ x k with hix | ⟨o, hk, rfl, hix, hneg⟩ | ⟨o, j, hk, rfl, hix, hj, rfl, hle⟩ | ⟨o, j, hk, rfl, hix, hj, rfl, hlt⟩
  · refine hp_met (by decide) (Nat.le_of_ble_eq_true rfl) ?_
    intro p e s m args below meth cd ls Q hQ hx hb hr hts hown hlocks hnm hml hK hH hS hB hl
    replace hl : lv_has ls 3 [(0, .ref b), (1, .int x), (2, .int k)] := hl
    refine lv_iload_n hx hb d_Md_isCell_0 rfl (lv_at hl 1 rfl) ?_
    refine hp_calli (hp_runS (As := [.int x]) (rest := []) hx hb hml hown (cn_Md_isOne l D B M x) (hp_cwS 1 hts kw_136 kw_139 kw_137 kw_138 rfl rfl (by decide +kernel) ⟨(Nat.le_of_ble_eq_true rfl), (Nat.le_of_ble_eq_true rfl)⟩) hK hH rfl hl.1 rfl (Nat.le_of_ble_eq_true rfl) d_Md_isCell_1 ⟨(Nat.le_of_ble_eq_true rfl), (Nat.le_of_ble_eq_true rfl)⟩) hS (fun r_1 M_2 H locs w_3 hH hS => ?_)
    obtain ⟨eM, eR⟩ := w_3
    rw [eM] at hH
    rw [eR]
    refine lv_if_eq (tgt := 25) hx hb d_Md_isCell_4 (by decide) (fun c_4 => ?_) (fun c_4 => absurd (sg_port_none hix) c_4)
    refine lv_iconst (v := 0) hx hb d_Md_isCell_25 (by decide) ?_
    exact hp_zret hx hb hr hlocks hQ hK hH hS (Nat.le_of_ble_eq_true rfl) (Nat.le_of_ble_eq_true rfl) rfl d_Md_isCell_26 ⟨rfl, an_isCell_n (sg_kth_n hix)⟩
  · refine hp_met (by decide) (Nat.le_of_ble_eq_true rfl) ?_
    intro p e s m args below meth cd ls Q hQ hx hb hr hts hown hlocks hnm hml hK hH hS hB hl
    replace hl : lv_has ls 3 [(0, .ref b), (1, .int (nI o)), (2, .int k)] := hl
    refine lv_iload_n hx hb d_Md_isCell_0 rfl (lv_at hl 1 rfl) ?_
    refine hp_calli (hp_runS (As := [.int (nI o)]) (rest := []) hx hb hml hown (cn_Md_isOne l D B M (nI o)) (hp_cwS 1 hts kw_136 kw_139 kw_137 kw_138 rfl rfl (by decide +kernel) ⟨(Nat.le_of_ble_eq_true rfl), (Nat.le_of_ble_eq_true rfl)⟩) hK hH rfl hl.1 rfl (Nat.le_of_ble_eq_true rfl) d_Md_isCell_1 ⟨(Nat.le_of_ble_eq_true rfl), (Nat.le_of_ble_eq_true rfl)⟩) hS (fun r_1 M_2 H locs w_3 hH hS => ?_)
    obtain ⟨eM, eR⟩ := w_3
    rw [eM] at hH
    rw [eR]
    refine lv_if_eq (tgt := 25) hx hb d_Md_isCell_4 (by decide) (fun c_4 => absurd c_4 (by rw [sg_port_some hix]; decide)) (fun c_4 => ?_)
    refine lv_iload_n hx hb d_Md_isCell_7 rfl (lv_at hl 2 rfl) ?_
    refine lv_if_lt (tgt := 25) hx hb d_Md_isCell_8 (by decide) (fun c_5 => ?_) (fun c_5 => absurd hneg c_5)
    refine lv_iconst (v := 0) hx hb d_Md_isCell_25 (by decide) ?_
    exact hp_zret hx hb hr hlocks hQ hK hH hS (Nat.le_of_ble_eq_true rfl) (Nat.le_of_ble_eq_true rfl) rfl d_Md_isCell_26 ⟨rfl, an_isCell_n (sg_kth_neg hneg)⟩
  · refine hp_met (by decide) (Nat.le_of_ble_eq_true rfl) ?_
    intro p e s m args below meth cd ls Q hQ hx hb hr hts hown hlocks hnm hml hK hH hS hB hl
    replace hl : lv_has ls 3 [(0, .ref b), (1, .int (nI o)), (2, .int (nI j))] := hl
    refine lv_iload_n hx hb d_Md_isCell_0 rfl (lv_at hl 1 rfl) ?_
    refine hp_calli (hp_runS (As := [.int (nI o)]) (rest := []) hx hb hml hown (cn_Md_isOne l D B M (nI o)) (hp_cwS 1 hts kw_136 kw_139 kw_137 kw_138 rfl rfl (by decide +kernel) ⟨(Nat.le_of_ble_eq_true rfl), (Nat.le_of_ble_eq_true rfl)⟩) hK hH rfl hl.1 rfl (Nat.le_of_ble_eq_true rfl) d_Md_isCell_1 ⟨(Nat.le_of_ble_eq_true rfl), (Nat.le_of_ble_eq_true rfl)⟩) hS (fun r_1 M_2 H locs w_3 hH hS => ?_)
    obtain ⟨eM, eR⟩ := w_3
    rw [eM] at hH
    rw [eR]
    refine lv_if_eq (tgt := 25) hx hb d_Md_isCell_4 (by decide) (fun c_4 => absurd c_4 (by rw [sg_port_some hix]; decide)) (fun c_4 => ?_)
    refine lv_iload_n hx hb d_Md_isCell_7 rfl (lv_at hl 2 rfl) ?_
    refine lv_if_lt (tgt := 25) hx hb d_Md_isCell_8 (by decide) (fun c_5 => absurd c_5 (nI_pos hj)) (fun c_5 => ?_)
    refine lv_iload_n hx hb d_Md_isCell_11 rfl (lv_at hl 2 rfl) ?_
    refine lv_aload_n hx hb d_Md_isCell_12 rfl (lv_at hl 0 rfl) ?_
    refine hp_get hx hb hts iw_Md hown hK hH hm.1 rfl 1 (by decide) (hts _ kw_147) (v := .ref (ad 0)) rfl d_Md_isCell_13 ?_
    refine lv_iload_n hx hb d_Md_isCell_16 rfl (lv_at hl 1 rfl) ?_
    refine hp_iald hx hb hK hH (show M (ad 0) = some (hp_ai D 8 (ct 0)) from hm.2.1 0 (by decide) (by decide) (by decide)) o rfl hk (by decide) (v := (ct 0 o)) rfl d_Md_isCell_17 ?_
    refine lv_icmp_ge (tgt := 25) hx hb d_Md_isCell_18 (by decide) (fun c_6 => ?_) (fun c_6 => absurd (by rw [(hR.2.2.1 o hk).1]; exact nI_le hle hj) c_6)
    refine lv_iconst (v := 0) hx hb d_Md_isCell_25 (by decide) ?_
    exact hp_zret hx hb hr hlocks hQ hK hH hS (Nat.le_of_ble_eq_true rfl) (Nat.le_of_ble_eq_true rfl) rfl d_Md_isCell_26 ⟨rfl, an_isCell_n ((sg_kth_s hix hj).trans (List.getElem?_eq_none hle))⟩
  · refine hp_met (by decide) (Nat.le_of_ble_eq_true rfl) ?_
    intro p e s m args below meth cd ls Q hQ hx hb hr hts hown hlocks hnm hml hK hH hS hB hl
    replace hl : lv_has ls 3 [(0, .ref b), (1, .int (nI o)), (2, .int (nI j))] := hl
    refine lv_iload_n hx hb d_Md_isCell_0 rfl (lv_at hl 1 rfl) ?_
    refine hp_calli (hp_runS (As := [.int (nI o)]) (rest := []) hx hb hml hown (cn_Md_isOne l D B M (nI o)) (hp_cwS 1 hts kw_136 kw_139 kw_137 kw_138 rfl rfl (by decide +kernel) ⟨(Nat.le_of_ble_eq_true rfl), (Nat.le_of_ble_eq_true rfl)⟩) hK hH rfl hl.1 rfl (Nat.le_of_ble_eq_true rfl) d_Md_isCell_1 ⟨(Nat.le_of_ble_eq_true rfl), (Nat.le_of_ble_eq_true rfl)⟩) hS (fun r_1 M_2 H locs w_3 hH hS => ?_)
    obtain ⟨eM, eR⟩ := w_3
    rw [eM] at hH
    rw [eR]
    refine lv_if_eq (tgt := 25) hx hb d_Md_isCell_4 (by decide) (fun c_4 => absurd c_4 (by rw [sg_port_some hix]; decide)) (fun c_4 => ?_)
    refine lv_iload_n hx hb d_Md_isCell_7 rfl (lv_at hl 2 rfl) ?_
    refine lv_if_lt (tgt := 25) hx hb d_Md_isCell_8 (by decide) (fun c_5 => absurd c_5 (nI_pos hj)) (fun c_5 => ?_)
    refine lv_iload_n hx hb d_Md_isCell_11 rfl (lv_at hl 2 rfl) ?_
    refine lv_aload_n hx hb d_Md_isCell_12 rfl (lv_at hl 0 rfl) ?_
    refine hp_get hx hb hts iw_Md hown hK hH hm.1 rfl 1 (by decide) (hts _ kw_147) (v := .ref (ad 0)) rfl d_Md_isCell_13 ?_
    refine lv_iload_n hx hb d_Md_isCell_16 rfl (lv_at hl 1 rfl) ?_
    refine hp_iald hx hb hK hH (show M (ad 0) = some (hp_ai D 8 (ct 0)) from hm.2.1 0 (by decide) (by decide) (by decide)) o rfl hk (by decide) (v := (ct 0 o)) rfl d_Md_isCell_17 ?_
    refine lv_icmp_ge (tgt := 25) hx hb d_Md_isCell_18 (by decide) (fun c_6 => absurd c_6 (by rw [(hR.2.2.1 o hk).1]; have := sg_len_le hinv hk; exact nI_ge hlt (by omega))) (fun c_6 => ?_)
    refine lv_iconst (v := 1) hx hb d_Md_isCell_21 (by decide) ?_
    refine lv_goto (tgt := 26) hx hb d_Md_isCell_22 (by decide) ?_
    exact hp_zret hx hb hr hlocks hQ hK hH hS (Nat.le_of_ble_eq_true rfl) (Nat.le_of_ble_eq_true rfl) rfl d_Md_isCell_26 ⟨rfl, an_isCell_s ((sg_kth_s hix hj).trans (List.getElem?_eq_getElem hlt))⟩
abbrev rm_Md_first : Room := { frames := 2, cells := 0, slots := 0, locals := 42 }
set_option maxHeartbeats 4000000 in
set_option maxRecDepth 100000 in
theorem cn_Md_first (l : Launch) (D : va_G) (B : Nat) (M : hp_M) (b : Nat) (ad : Nat → Nat) (th of sl : Int32) (ct : Nat → Nat → Int32) (cl : Nat → Nat → Int64) (σ : sg_S) (x k : Int32) (hm : md_H D M b ad th of sl ct cl) (hR : mo_R σ (fun _ => sg_sl σ - 1) of sl ct cl) (hinv : sg_inv σ) (hac : sg_ac σ ≤ 512) (hsei : sg_sei σ) : Met l y_Md_first (wd_c y_Md_first b_Md_first 3 (some .int)) rm_Md_first (va_Pc [.ref b, .int x, .int k] (hp_C D B M)) (va_Qi (fun (r : Int32) (M1 : hp_M) => md_H D M1 b ad 0 of sl ct cl ∧ md_fr b ad M M1 ∧ r = an_first σ x k) (hp_C D B) (hp_ub B)) 0 0 (hp_ub B) := by
  rcases sg_kth_or2 σ x k with hl2 | ⟨o, j, d, ho, rfl, rfl, hj, hd, hl2⟩
  · refine hp_met (by decide) (Nat.le_of_ble_eq_true rfl) ?_
    intro p e s m args below meth cd ls Q hQ hx hb hr hts hown hlocks hnm hml hK hH hS hB hl
    replace hl : lv_has ls 3 [(0, .ref b), (1, .int x), (2, .int k)] := hl
    have hf : md_fr b ad M M := md_fr_rf
    refine lv_aload_n hx hb d_Md_first_0 rfl (lv_at hl 0 rfl) ?_
    refine lv_iconst (v := 0) hx hb d_Md_first_1 (by decide) ?_
    refine hp_put hx hb hts iw_Md t_Md t_Md_ok n_Md hown hK hH hS hB hm.1 rfl 0 (by decide) (hts _ kw_134) rfl  (v := .int 0) rfl rfl (Nat.le_of_ble_eq_true rfl) (fs' := [.int 0, .ref (ad 0), .ref (ad 1), .ref (ad 2), .ref (ad 3), .ref (ad 4), .ref (ad 5), .ref (ad 6), .ref (ad 7), .ref (ad 8), .ref (ad 9), .ref (ad 10), .ref (ad 11), .ref (ad 12), .ref (ad 13), .int of, .int sl, .ref (ad 14), .ref (ad 15), .ref (ad 16)]) rfl d_Md_first_2 (fun M_1 H locs eM_1 hH hS => ?_)
    have hm := md_pb hm (th' := 0) (of' := of) (sl' := sl) eM_1
    have hf := md_fr_b hf eM_1
    refine lv_aload_n hx hb d_Md_first_5 rfl (lv_at hl 0 rfl) ?_
    refine lv_iload_n hx hb d_Md_first_6 rfl (lv_at hl 1 rfl) ?_
    refine lv_iload_n hx hb d_Md_first_7 rfl (lv_at hl 2 rfl) ?_
    refine hp_calli (hp_runV (b := b) (As := [.int x, .int k]) (rest := []) hx hb hml hown (cn_Md_isCell l D B M_1 b ad 0 of sl ct cl σ x k hm hR hinv hac hsei) (hp_cwV 2 hts kw_148 kw_150 kw_151 kw_137 kw_149 rfl rfl (by decide +kernel) ⟨(Nat.le_of_ble_eq_true rfl), (Nat.le_of_ble_eq_true rfl)⟩) hK hH hm.1 rfl rfl hl.1 rfl (Nat.le_of_ble_eq_true rfl) d_Md_first_8 ⟨(Nat.le_of_ble_eq_true rfl), (Nat.le_of_ble_eq_true rfl)⟩) hS (fun r_2 M_3 H locs w_4 hH hS => ?_)
    obtain ⟨eM, eR⟩ := w_4
    rw [eM] at hH
    rw [eR]
    refine lv_if_eq (tgt := 29) hx hb d_Md_first_11 (by decide) (fun c_5 => ?_) (fun c_5 => absurd (an_isCell_n hl2).symm c_5)
    refine lv_iconst (v := (-1)) hx hb d_Md_first_29 (by decide) ?_
    exact hp_iret hx hb hr hlocks hQ hK hH hS (Nat.le_of_ble_eq_true rfl) (Nat.le_of_ble_eq_true rfl) d_Md_first_30 ⟨hm, hf, (an_first_n hl2)⟩
  · refine hp_met (by decide) (Nat.le_of_ble_eq_true rfl) ?_
    intro p e s m args below meth cd ls Q hQ hx hb hr hts hown hlocks hnm hml hK hH hS hB hl
    replace hl : lv_has ls 3 [(0, .ref b), (1, .int (nI o)), (2, .int (nI j))] := hl
    have hf : md_fr b ad M M := md_fr_rf
    refine lv_aload_n hx hb d_Md_first_0 rfl (lv_at hl 0 rfl) ?_
    refine lv_iconst (v := 0) hx hb d_Md_first_1 (by decide) ?_
    refine hp_put hx hb hts iw_Md t_Md t_Md_ok n_Md hown hK hH hS hB hm.1 rfl 0 (by decide) (hts _ kw_134) rfl  (v := .int 0) rfl rfl (Nat.le_of_ble_eq_true rfl) (fs' := [.int 0, .ref (ad 0), .ref (ad 1), .ref (ad 2), .ref (ad 3), .ref (ad 4), .ref (ad 5), .ref (ad 6), .ref (ad 7), .ref (ad 8), .ref (ad 9), .ref (ad 10), .ref (ad 11), .ref (ad 12), .ref (ad 13), .int of, .int sl, .ref (ad 14), .ref (ad 15), .ref (ad 16)]) rfl d_Md_first_2 (fun M_1 H locs eM_1 hH hS => ?_)
    have hm := md_pb hm (th' := 0) (of' := of) (sl' := sl) eM_1
    have hf := md_fr_b hf eM_1
    refine lv_aload_n hx hb d_Md_first_5 rfl (lv_at hl 0 rfl) ?_
    refine lv_iload_n hx hb d_Md_first_6 rfl (lv_at hl 1 rfl) ?_
    refine lv_iload_n hx hb d_Md_first_7 rfl (lv_at hl 2 rfl) ?_
    refine hp_calli (hp_runV (b := b) (As := [.int (nI o), .int (nI j)]) (rest := []) hx hb hml hown (cn_Md_isCell l D B M_1 b ad 0 of sl ct cl σ (nI o) (nI j) hm hR hinv hac hsei) (hp_cwV 2 hts kw_148 kw_150 kw_151 kw_137 kw_149 rfl rfl (by decide +kernel) ⟨(Nat.le_of_ble_eq_true rfl), (Nat.le_of_ble_eq_true rfl)⟩) hK hH hm.1 rfl rfl hl.1 rfl (Nat.le_of_ble_eq_true rfl) d_Md_first_8 ⟨(Nat.le_of_ble_eq_true rfl), (Nat.le_of_ble_eq_true rfl)⟩) hS (fun r_2 M_3 H locs w_4 hH hS => ?_)
    obtain ⟨eM, eR⟩ := w_4
    rw [eM] at hH
    rw [eR]
    refine lv_if_eq (tgt := 29) hx hb d_Md_first_11 (by decide) (fun c_5 => absurd c_5 (by rw [← an_isCell_s hl2]; decide)) (fun c_5 => ?_)
    refine lv_aload_n hx hb d_Md_first_14 rfl (lv_at hl 0 rfl) ?_
    refine hp_get hx hb hts iw_Md hown hK hH hm.1 rfl 2 (by decide) (hts _ kw_152) (v := .ref (ad 1)) rfl d_Md_first_15 ?_
    refine lv_sipush (v := 512) hx hb d_Md_first_18 (by decide) ?_
    refine lv_iload_n hx hb d_Md_first_21 rfl (lv_at hl 1 rfl) ?_
    refine lv_imul hx hb d_Md_first_22 ?_
    refine lv_iload_n hx hb d_Md_first_23 rfl (lv_at hl 2 rfl) ?_
    refine lv_iadd hx hb d_Md_first_24 ?_
    refine hp_iald hx hb hK hH (show M_1 (ad 1) = some (hp_ai D 4096 (ct 1)) from hm.2.1 1 (by decide) (by decide) (by decide)) (512 * o + j) (md_ix512 o j) (by have := sg_len_le hinv ho; omega) (by decide) (v := (ct 1 (512 * o + j))) rfl d_Md_first_25 ?_
    refine lv_goto (tgt := 30) hx hb d_Md_first_26 (by decide) ?_
    exact hp_iret hx hb hr hlocks hQ hK hH hS (Nat.le_of_ble_eq_true rfl) (Nat.le_of_ble_eq_true rfl) d_Md_first_30 ⟨hm, hf, (by rw [← an_first_s hl2]; exact (mo_rw ((hR.2.2.1 o ho).2.2.2.1 j d hd)).1)⟩
abbrev rm_Md_time : Room := { frames := 2, cells := 0, slots := 0, locals := 42 }
set_option maxHeartbeats 4000000 in
set_option maxRecDepth 100000 in
theorem cn_Md_time (l : Launch) (D : va_G) (B : Nat) (M : hp_M) (b : Nat) (ad : Nat → Nat) (th of sl : Int32) (ct : Nat → Nat → Int32) (cl : Nat → Nat → Int64) (σ : sg_S) (x k : Int32) (hm : md_H D M b ad th of sl ct cl) (hR : mo_R σ (fun _ => sg_sl σ - 1) of sl ct cl) (hinv : sg_inv σ) (hac : sg_ac σ ≤ 512) (hsei : sg_sei σ) : Met l y_Md_time (wd_c y_Md_time b_Md_time 3 (some .long)) rm_Md_time (va_Pc [.ref b, .int x, .int k] (hp_C D B M)) (va_Ql (fun (r : Int64) (M1 : hp_M) => md_H D M1 b ad 0 of sl ct cl ∧ md_fr b ad M M1 ∧ r = an_time σ x k) (hp_C D B) (hp_ub B)) 0 0 (hp_ub B) := by
  rcases sg_kth_or2 σ x k with hl2 | ⟨o, j, d, ho, rfl, rfl, hj, hd, hl2⟩
  · refine hp_met (by decide) (Nat.le_of_ble_eq_true rfl) ?_
    intro p e s m args below meth cd ls Q hQ hx hb hr hts hown hlocks hnm hml hK hH hS hB hl
    replace hl : lv_has ls 3 [(0, .ref b), (1, .int x), (2, .int k)] := hl
    have hf : md_fr b ad M M := md_fr_rf
    refine lv_aload_n hx hb d_Md_time_0 rfl (lv_at hl 0 rfl) ?_
    refine lv_iconst (v := 0) hx hb d_Md_time_1 (by decide) ?_
    refine hp_put hx hb hts iw_Md t_Md t_Md_ok n_Md hown hK hH hS hB hm.1 rfl 0 (by decide) (hts _ kw_134) rfl  (v := .int 0) rfl rfl (Nat.le_of_ble_eq_true rfl) (fs' := [.int 0, .ref (ad 0), .ref (ad 1), .ref (ad 2), .ref (ad 3), .ref (ad 4), .ref (ad 5), .ref (ad 6), .ref (ad 7), .ref (ad 8), .ref (ad 9), .ref (ad 10), .ref (ad 11), .ref (ad 12), .ref (ad 13), .int of, .int sl, .ref (ad 14), .ref (ad 15), .ref (ad 16)]) rfl d_Md_time_2 (fun M_1 H locs eM_1 hH hS => ?_)
    have hm := md_pb hm (th' := 0) (of' := of) (sl' := sl) eM_1
    have hf := md_fr_b hf eM_1
    refine lv_aload_n hx hb d_Md_time_5 rfl (lv_at hl 0 rfl) ?_
    refine lv_iload_n hx hb d_Md_time_6 rfl (lv_at hl 1 rfl) ?_
    refine lv_iload_n hx hb d_Md_time_7 rfl (lv_at hl 2 rfl) ?_
    refine hp_calli (hp_runV (b := b) (As := [.int x, .int k]) (rest := []) hx hb hml hown (cn_Md_isCell l D B M_1 b ad 0 of sl ct cl σ x k hm hR hinv hac hsei) (hp_cwV 2 hts kw_148 kw_150 kw_151 kw_137 kw_149 rfl rfl (by decide +kernel) ⟨(Nat.le_of_ble_eq_true rfl), (Nat.le_of_ble_eq_true rfl)⟩) hK hH hm.1 rfl rfl hl.1 rfl (Nat.le_of_ble_eq_true rfl) d_Md_time_8 ⟨(Nat.le_of_ble_eq_true rfl), (Nat.le_of_ble_eq_true rfl)⟩) hS (fun r_2 M_3 H locs w_4 hH hS => ?_)
    obtain ⟨eM, eR⟩ := w_4
    rw [eM] at hH
    rw [eR]
    refine lv_if_eq (tgt := 29) hx hb d_Md_time_11 (by decide) (fun c_5 => ?_) (fun c_5 => absurd (an_isCell_n hl2).symm c_5)
    refine lv_ldc2 (v := (-1)) hx hb hown (hts _ kw_153) d_Md_time_29 ?_
    exact hp_lret hx hb hr hlocks hQ hK hH hS (Nat.le_of_ble_eq_true rfl) (Nat.le_of_ble_eq_true rfl) d_Md_time_32 ⟨hm, hf, (an_time_n hl2)⟩
  · refine hp_met (by decide) (Nat.le_of_ble_eq_true rfl) ?_
    intro p e s m args below meth cd ls Q hQ hx hb hr hts hown hlocks hnm hml hK hH hS hB hl
    replace hl : lv_has ls 3 [(0, .ref b), (1, .int (nI o)), (2, .int (nI j))] := hl
    have hf : md_fr b ad M M := md_fr_rf
    refine lv_aload_n hx hb d_Md_time_0 rfl (lv_at hl 0 rfl) ?_
    refine lv_iconst (v := 0) hx hb d_Md_time_1 (by decide) ?_
    refine hp_put hx hb hts iw_Md t_Md t_Md_ok n_Md hown hK hH hS hB hm.1 rfl 0 (by decide) (hts _ kw_134) rfl  (v := .int 0) rfl rfl (Nat.le_of_ble_eq_true rfl) (fs' := [.int 0, .ref (ad 0), .ref (ad 1), .ref (ad 2), .ref (ad 3), .ref (ad 4), .ref (ad 5), .ref (ad 6), .ref (ad 7), .ref (ad 8), .ref (ad 9), .ref (ad 10), .ref (ad 11), .ref (ad 12), .ref (ad 13), .int of, .int sl, .ref (ad 14), .ref (ad 15), .ref (ad 16)]) rfl d_Md_time_2 (fun M_1 H locs eM_1 hH hS => ?_)
    have hm := md_pb hm (th' := 0) (of' := of) (sl' := sl) eM_1
    have hf := md_fr_b hf eM_1
    refine lv_aload_n hx hb d_Md_time_5 rfl (lv_at hl 0 rfl) ?_
    refine lv_iload_n hx hb d_Md_time_6 rfl (lv_at hl 1 rfl) ?_
    refine lv_iload_n hx hb d_Md_time_7 rfl (lv_at hl 2 rfl) ?_
    refine hp_calli (hp_runV (b := b) (As := [.int (nI o), .int (nI j)]) (rest := []) hx hb hml hown (cn_Md_isCell l D B M_1 b ad 0 of sl ct cl σ (nI o) (nI j) hm hR hinv hac hsei) (hp_cwV 2 hts kw_148 kw_150 kw_151 kw_137 kw_149 rfl rfl (by decide +kernel) ⟨(Nat.le_of_ble_eq_true rfl), (Nat.le_of_ble_eq_true rfl)⟩) hK hH hm.1 rfl rfl hl.1 rfl (Nat.le_of_ble_eq_true rfl) d_Md_time_8 ⟨(Nat.le_of_ble_eq_true rfl), (Nat.le_of_ble_eq_true rfl)⟩) hS (fun r_2 M_3 H locs w_4 hH hS => ?_)
    obtain ⟨eM, eR⟩ := w_4
    rw [eM] at hH
    rw [eR]
    refine lv_if_eq (tgt := 29) hx hb d_Md_time_11 (by decide) (fun c_5 => absurd c_5 (by rw [← an_isCell_s hl2]; decide)) (fun c_5 => ?_)
    refine lv_aload_n hx hb d_Md_time_14 rfl (lv_at hl 0 rfl) ?_
    refine hp_get hx hb hts iw_Md hown hK hH hm.1 rfl 5 (by decide) (hts _ kw_154) (v := .ref (ad 4)) rfl d_Md_time_15 ?_
    refine lv_sipush (v := 512) hx hb d_Md_time_18 (by decide) ?_
    refine lv_iload_n hx hb d_Md_time_21 rfl (lv_at hl 1 rfl) ?_
    refine lv_imul hx hb d_Md_time_22 ?_
    refine lv_iload_n hx hb d_Md_time_23 rfl (lv_at hl 2 rfl) ?_
    refine lv_iadd hx hb d_Md_time_24 ?_
    refine hp_lald hx hb hK hH (show M_1 (ad 4) = some (hp_al D 4096 (cl 4)) from hm.2.2.1 4 (by decide)) (512 * o + j) (md_ix512 o j) (by have := sg_len_le hinv ho; omega) (by decide) (v := (cl 4 (512 * o + j))) rfl d_Md_time_25 ?_
    refine lv_goto (tgt := 32) hx hb d_Md_time_26 (by decide) ?_
    exact hp_lret hx hb hr hlocks hQ hK hH hS (Nat.le_of_ble_eq_true rfl) (Nat.le_of_ble_eq_true rfl) d_Md_time_32 ⟨hm, hf, (by rw [← an_time_s hl2]; exact (mo_rw ((hR.2.2.1 o ho).2.2.2.1 j d hd)).2.2.2.1)⟩
