theorem iw_Ce : ∀ w ∈ u_ws R_Ce F_Ce 8, w ∈ wd_T := by decide +kernel
theorem iw_In : ∀ w ∈ u_ws R_In F_In 2, w ∈ wd_T := by decide +kernel
theorem iw_Ou : ∀ w ∈ u_ws R_Ou F_Ou 6, w ∈ wd_T := by decide +kernel
theorem iw_Sw : ∀ w ∈ u_ws R_Sw F_Sw 4, w ∈ wd_T := by decide +kernel
theorem iw_Md : ∀ w ∈ u_ws R_Md F_Md 20, w ∈ wd_T := by decide +kernel
theorem kw_0 : Cond.fieldLink R_Sw 68 "EvenSwitch" "slotNumber" "I" ∈ wd_T := wd_in (List.mem_of_getElem? (i := 90) (by decide +kernel)) rfl
theorem kw_1 : Cond.methodLink R_Sw 23 y_Sw_isPort ∈ wd_T := wd_in (List.mem_of_getElem? (i := 105) (by decide +kernel)) rfl
theorem kw_2 : Cond.initialized R_Sw ∈ wd_T := wd_in (List.mem_of_getElem? (i := 20) (by decide +kernel)) rfl
theorem kw_3 : Cond.code y_Sw_isPort b_Sw_isPort 1 (some .boolean) ∈ wd_T := wd_in (List.mem_of_getElem? (i := 107) (by decide +kernel)) rfl
theorem kw_4 : Cond.static y_Sw_isPort ∈ wd_T := wd_in (List.mem_of_getElem? (i := 106) (by decide +kernel)) rfl
theorem kw_5 : Cond.fieldLink R_Sw 17 "EvenSwitch" "outputs" "[LEvenSwitch$Output;" ∈ wd_T := wd_in (List.mem_of_getElem? (i := 89) (by decide +kernel)) rfl
theorem kw_6 : Cond.fieldLink R_Sw 117 "EvenSwitch$Output" "latest" "LEvenSwitch$Cell;" ∈ wd_T := wd_in (List.mem_of_getElem? (i := 72) (by decide +kernel)) rfl
theorem kw_7 : Cond.methodLink R_Sw 71 y_Sw_latestSent ∈ wd_T := wd_in (List.mem_of_getElem? (i := 214) (by decide +kernel)) rfl
theorem kw_8 : Cond.code y_Sw_latestSent b_Sw_latestSent 2 (some (.object "EvenSwitch$Cell")) ∈ wd_T := wd_in (List.mem_of_getElem? (i := 217) (by decide +kernel)) rfl
theorem kw_9 : Cond.instanceMethod y_Sw_latestSent ∈ wd_T := wd_in (List.mem_of_getElem? (i := 216) (by decide +kernel)) rfl
theorem kw_10 : Cond.selects R_Sw y_Sw_latestSent y_Sw_latestSent ∈ wd_T := wd_in (List.mem_of_getElem? (i := 7) (by decide +kernel)) rfl
theorem kw_11 : Cond.fieldLink R_Sw 75 "EvenSwitch$Cell" "tag" "I" ∈ wd_T := wd_in (List.mem_of_getElem? (i := 137) (by decide +kernel)) rfl
theorem kw_12 : Cond.fieldLink R_Sw 78 "EvenSwitch$Cell" "input" "I" ∈ wd_T := wd_in (List.mem_of_getElem? (i := 131) (by decide +kernel)) rfl
theorem kw_13 : Cond.fieldLink R_Sw 81 "EvenSwitch$Cell" "cameInSlot" "I" ∈ wd_T := wd_in (List.mem_of_getElem? (i := 141) (by decide +kernel)) rfl
theorem kw_14 : Cond.fieldLink R_Sw 11 "EvenSwitch" "inputs" "[LEvenSwitch$Input;" ∈ wd_T := wd_in (List.mem_of_getElem? (i := 88) (by decide +kernel)) rfl
theorem kw_15 : Cond.fieldLink R_Sw 49 "EvenSwitch$Input" "held" "I" ∈ wd_T := wd_in (List.mem_of_getElem? (i := 47) (by decide +kernel)) rfl
theorem kw_16 : Cond.fieldLink R_Sw 27 "EvenSwitch$Output" "length" "I" ∈ wd_T := wd_in (List.mem_of_getElem? (i := 69) (by decide +kernel)) rfl
theorem d_Sw_isPort_0 : decode b_Sw_isPort 0 = .ok (.iload_n 0, 1) := by decide +kernel
theorem d_Sw_isPort_1 : decode b_Sw_isPort 1 = .ok (.ifCond .lt 13, 3) := by decide +kernel
theorem d_Sw_isPort_4 : decode b_Sw_isPort 4 = .ok (.iload_n 0, 1) := by decide +kernel
theorem d_Sw_isPort_5 : decode b_Sw_isPort 5 = .ok (.bipush 8, 2) := by decide +kernel
theorem d_Sw_isPort_7 : decode b_Sw_isPort 7 = .ok (.if_icmp .ge 7, 3) := by decide +kernel
theorem d_Sw_isPort_10 : decode b_Sw_isPort 10 = .ok (.iconst 1, 1) := by decide +kernel
theorem d_Sw_isPort_11 : decode b_Sw_isPort 11 = .ok (.goto 4, 3) := by decide +kernel
theorem d_Sw_isPort_14 : decode b_Sw_isPort 14 = .ok (.iconst 0, 1) := by decide +kernel
theorem d_Sw_isPort_15 : decode b_Sw_isPort 15 = .ok (.ireturn, 1) := by decide +kernel
theorem d_Sw_isClass_0 : decode b_Sw_isClass 0 = .ok (.iload_n 0, 1) := by decide +kernel
theorem d_Sw_isClass_1 : decode b_Sw_isClass 1 = .ok (.ifCond .lt 13, 3) := by decide +kernel
theorem d_Sw_isClass_4 : decode b_Sw_isClass 4 = .ok (.iload_n 0, 1) := by decide +kernel
theorem d_Sw_isClass_5 : decode b_Sw_isClass 5 = .ok (.bipush 8, 2) := by decide +kernel
theorem d_Sw_isClass_7 : decode b_Sw_isClass 7 = .ok (.if_icmp .ge 7, 3) := by decide +kernel
theorem d_Sw_isClass_10 : decode b_Sw_isClass 10 = .ok (.iconst 1, 1) := by decide +kernel
theorem d_Sw_isClass_11 : decode b_Sw_isClass 11 = .ok (.goto 4, 3) := by decide +kernel
theorem d_Sw_isClass_14 : decode b_Sw_isClass 14 = .ok (.iconst 0, 1) := by decide +kernel
theorem d_Sw_isClass_15 : decode b_Sw_isClass 15 = .ok (.ireturn, 1) := by decide +kernel
theorem d_Sw_slots_0 : decode b_Sw_slots 0 = .ok (.aload_n 0, 1) := by decide +kernel
theorem d_Sw_slots_1 : decode b_Sw_slots 1 = .ok (.getfield 68, 3) := by decide +kernel
theorem d_Sw_slots_4 : decode b_Sw_slots 4 = .ok (.ireturn, 1) := by decide +kernel
theorem d_Sw_latestSent_0 : decode b_Sw_latestSent 0 = .ok (.iload_n 1, 1) := by decide +kernel
theorem d_Sw_latestSent_1 : decode b_Sw_latestSent 1 = .ok (.invokestatic 23, 3) := by decide +kernel
theorem d_Sw_latestSent_4 : decode b_Sw_latestSent 4 = .ok (.ifCond .eq 15, 3) := by decide +kernel
theorem d_Sw_latestSent_7 : decode b_Sw_latestSent 7 = .ok (.aload_n 0, 1) := by decide +kernel
theorem d_Sw_latestSent_8 : decode b_Sw_latestSent 8 = .ok (.getfield 17, 3) := by decide +kernel
theorem d_Sw_latestSent_11 : decode b_Sw_latestSent 11 = .ok (.iload_n 1, 1) := by decide +kernel
theorem d_Sw_latestSent_12 : decode b_Sw_latestSent 12 = .ok (.aaload, 1) := by decide +kernel
theorem d_Sw_latestSent_13 : decode b_Sw_latestSent 13 = .ok (.getfield 117, 3) := by decide +kernel
theorem d_Sw_latestSent_16 : decode b_Sw_latestSent 16 = .ok (.goto 4, 3) := by decide +kernel
theorem d_Sw_latestSent_19 : decode b_Sw_latestSent 19 = .ok (.aconst_null, 1) := by decide +kernel
theorem d_Sw_latestSent_20 : decode b_Sw_latestSent 20 = .ok (.areturn, 1) := by decide +kernel
theorem d_Sw_hasSent_0 : decode b_Sw_hasSent 0 = .ok (.aload_n 0, 1) := by decide +kernel
theorem d_Sw_hasSent_1 : decode b_Sw_hasSent 1 = .ok (.iload_n 1, 1) := by decide +kernel
theorem d_Sw_hasSent_2 : decode b_Sw_hasSent 2 = .ok (.invokevirtual 71, 3) := by decide +kernel
theorem d_Sw_hasSent_5 : decode b_Sw_hasSent 5 = .ok (.ifnull 7, 3) := by decide +kernel
theorem d_Sw_hasSent_8 : decode b_Sw_hasSent 8 = .ok (.iconst 1, 1) := by decide +kernel
theorem d_Sw_hasSent_9 : decode b_Sw_hasSent 9 = .ok (.goto 4, 3) := by decide +kernel
theorem d_Sw_hasSent_12 : decode b_Sw_hasSent 12 = .ok (.iconst 0, 1) := by decide +kernel
theorem d_Sw_hasSent_13 : decode b_Sw_hasSent 13 = .ok (.ireturn, 1) := by decide +kernel
theorem d_Sw_sent_0 : decode b_Sw_sent 0 = .ok (.aload_n 0, 1) := by decide +kernel
theorem d_Sw_sent_1 : decode b_Sw_sent 1 = .ok (.iload_n 1, 1) := by decide +kernel
theorem d_Sw_sent_2 : decode b_Sw_sent 2 = .ok (.invokevirtual 71, 3) := by decide +kernel
theorem d_Sw_sent_5 : decode b_Sw_sent 5 = .ok (.astore_n 2, 1) := by decide +kernel
theorem d_Sw_sent_6 : decode b_Sw_sent 6 = .ok (.aload_n 2, 1) := by decide +kernel
theorem d_Sw_sent_7 : decode b_Sw_sent 7 = .ok (.ifnonnull 7, 3) := by decide +kernel
theorem d_Sw_sent_10 : decode b_Sw_sent 10 = .ok (.iconst 0, 1) := by decide +kernel
theorem d_Sw_sent_11 : decode b_Sw_sent 11 = .ok (.goto 7, 3) := by decide +kernel
theorem d_Sw_sent_14 : decode b_Sw_sent 14 = .ok (.aload_n 2, 1) := by decide +kernel
theorem d_Sw_sent_15 : decode b_Sw_sent 15 = .ok (.getfield 75, 3) := by decide +kernel
theorem d_Sw_sent_18 : decode b_Sw_sent 18 = .ok (.ireturn, 1) := by decide +kernel
theorem d_Sw_sentFrom_0 : decode b_Sw_sentFrom 0 = .ok (.aload_n 0, 1) := by decide +kernel
theorem d_Sw_sentFrom_1 : decode b_Sw_sentFrom 1 = .ok (.iload_n 1, 1) := by decide +kernel
theorem d_Sw_sentFrom_2 : decode b_Sw_sentFrom 2 = .ok (.invokevirtual 71, 3) := by decide +kernel
theorem d_Sw_sentFrom_5 : decode b_Sw_sentFrom 5 = .ok (.astore_n 2, 1) := by decide +kernel
theorem d_Sw_sentFrom_6 : decode b_Sw_sentFrom 6 = .ok (.aload_n 2, 1) := by decide +kernel
theorem d_Sw_sentFrom_7 : decode b_Sw_sentFrom 7 = .ok (.ifnonnull 7, 3) := by decide +kernel
theorem d_Sw_sentFrom_10 : decode b_Sw_sentFrom 10 = .ok (.iconst (-1), 1) := by decide +kernel
theorem d_Sw_sentFrom_11 : decode b_Sw_sentFrom 11 = .ok (.goto 7, 3) := by decide +kernel
theorem d_Sw_sentFrom_14 : decode b_Sw_sentFrom 14 = .ok (.aload_n 2, 1) := by decide +kernel
theorem d_Sw_sentFrom_15 : decode b_Sw_sentFrom 15 = .ok (.getfield 78, 3) := by decide +kernel
theorem d_Sw_sentFrom_18 : decode b_Sw_sentFrom 18 = .ok (.ireturn, 1) := by decide +kernel
theorem d_Sw_waited_0 : decode b_Sw_waited 0 = .ok (.aload_n 0, 1) := by decide +kernel
theorem d_Sw_waited_1 : decode b_Sw_waited 1 = .ok (.iload_n 1, 1) := by decide +kernel
theorem d_Sw_waited_2 : decode b_Sw_waited 2 = .ok (.invokevirtual 71, 3) := by decide +kernel
theorem d_Sw_waited_5 : decode b_Sw_waited 5 = .ok (.astore_n 2, 1) := by decide +kernel
theorem d_Sw_waited_6 : decode b_Sw_waited 6 = .ok (.aload_n 2, 1) := by decide +kernel
theorem d_Sw_waited_7 : decode b_Sw_waited 7 = .ok (.ifnonnull 7, 3) := by decide +kernel
theorem d_Sw_waited_10 : decode b_Sw_waited 10 = .ok (.iconst (-1), 1) := by decide +kernel
theorem d_Sw_waited_11 : decode b_Sw_waited 11 = .ok (.goto 14, 3) := by decide +kernel
theorem d_Sw_waited_14 : decode b_Sw_waited 14 = .ok (.aload_n 0, 1) := by decide +kernel
theorem d_Sw_waited_15 : decode b_Sw_waited 15 = .ok (.getfield 68, 3) := by decide +kernel
theorem d_Sw_waited_18 : decode b_Sw_waited 18 = .ok (.iconst 1, 1) := by decide +kernel
theorem d_Sw_waited_19 : decode b_Sw_waited 19 = .ok (.isub, 1) := by decide +kernel
theorem d_Sw_waited_20 : decode b_Sw_waited 20 = .ok (.aload_n 2, 1) := by decide +kernel
theorem d_Sw_waited_21 : decode b_Sw_waited 21 = .ok (.getfield 81, 3) := by decide +kernel
theorem d_Sw_waited_24 : decode b_Sw_waited 24 = .ok (.isub, 1) := by decide +kernel
theorem d_Sw_waited_25 : decode b_Sw_waited 25 = .ok (.ireturn, 1) := by decide +kernel
theorem d_Sw_inside_0 : decode b_Sw_inside 0 = .ok (.iload_n 1, 1) := by decide +kernel
theorem d_Sw_inside_1 : decode b_Sw_inside 1 = .ok (.invokestatic 23, 3) := by decide +kernel
theorem d_Sw_inside_4 : decode b_Sw_inside 4 = .ok (.ifCond .eq 15, 3) := by decide +kernel
theorem d_Sw_inside_7 : decode b_Sw_inside 7 = .ok (.aload_n 0, 1) := by decide +kernel
theorem d_Sw_inside_8 : decode b_Sw_inside 8 = .ok (.getfield 11, 3) := by decide +kernel
theorem d_Sw_inside_11 : decode b_Sw_inside 11 = .ok (.iload_n 1, 1) := by decide +kernel
theorem d_Sw_inside_12 : decode b_Sw_inside 12 = .ok (.aaload, 1) := by decide +kernel
theorem d_Sw_inside_13 : decode b_Sw_inside 13 = .ok (.getfield 49, 3) := by decide +kernel
theorem d_Sw_inside_16 : decode b_Sw_inside 16 = .ok (.goto 4, 3) := by decide +kernel
theorem d_Sw_inside_19 : decode b_Sw_inside 19 = .ok (.iconst (-1), 1) := by decide +kernel
theorem d_Sw_inside_20 : decode b_Sw_inside 20 = .ok (.ireturn, 1) := by decide +kernel
theorem d_Sw_waiting_0 : decode b_Sw_waiting 0 = .ok (.iload_n 1, 1) := by decide +kernel
theorem d_Sw_waiting_1 : decode b_Sw_waiting 1 = .ok (.invokestatic 23, 3) := by decide +kernel
theorem d_Sw_waiting_4 : decode b_Sw_waiting 4 = .ok (.ifCond .eq 15, 3) := by decide +kernel
theorem d_Sw_waiting_7 : decode b_Sw_waiting 7 = .ok (.aload_n 0, 1) := by decide +kernel
theorem d_Sw_waiting_8 : decode b_Sw_waiting 8 = .ok (.getfield 17, 3) := by decide +kernel
theorem d_Sw_waiting_11 : decode b_Sw_waiting 11 = .ok (.iload_n 1, 1) := by decide +kernel
theorem d_Sw_waiting_12 : decode b_Sw_waiting 12 = .ok (.aaload, 1) := by decide +kernel
theorem d_Sw_waiting_13 : decode b_Sw_waiting 13 = .ok (.getfield 27, 3) := by decide +kernel
theorem d_Sw_waiting_16 : decode b_Sw_waiting 16 = .ok (.goto 4, 3) := by decide +kernel
theorem d_Sw_waiting_19 : decode b_Sw_waiting 19 = .ok (.iconst (-1), 1) := by decide +kernel
theorem d_Sw_waiting_20 : decode b_Sw_waiting 20 = .ok (.ireturn, 1) := by decide +kernel
abbrev rm_Sw_isPort : Room := { frames := 0, cells := 0, slots := 0, locals := 0 }
set_option maxHeartbeats 4000000 in
set_option maxRecDepth 100000 in
theorem cn_Sw_isPort (l : Launch) (D : va_G) (B : Nat) (M : hp_M) (x : Int32)  : Met l y_Sw_isPort (wd_c y_Sw_isPort b_Sw_isPort 1 (some .boolean)) rm_Sw_isPort (va_Pc [.int x] (hp_C D B M)) (va_Qi (fun (r : Int32) (M1 : hp_M) => M1 = M ∧ r = sg_port x) (hp_C D B) (hp_ub B)) 0 0 (hp_ub B) := by
  refine hp_met (by decide) (Nat.le_of_ble_eq_true rfl) ?_
  intro p e s m args below meth cd ls Q hQ hx hb hr hts hown hlocks hnm hml hK hH hS hB hl
  replace hl : lv_has ls 1 [(0, .int x)] := hl
  refine lv_iload_n hx hb d_Sw_isPort_0 rfl (lv_at hl 0 rfl) ?_
  refine lv_if_lt (tgt := 14) hx hb d_Sw_isPort_1 (by decide) (fun c_1 => ?_) (fun c_1 => ?_)
  · refine lv_iconst (v := 0) hx hb d_Sw_isPort_14 (by decide) ?_
    exact hp_zret hx hb hr hlocks hQ hK hH hS (Nat.le_of_ble_eq_true rfl) (Nat.le_of_ble_eq_true rfl) rfl d_Sw_isPort_15 ⟨rfl, sg_port_neg c_1⟩
  · refine lv_iload_n hx hb d_Sw_isPort_4 rfl (lv_at hl 0 rfl) ?_
    refine lv_bipush (v := 8) hx hb d_Sw_isPort_5 (by decide) ?_
    refine lv_icmp_ge (tgt := 14) hx hb d_Sw_isPort_7 (by decide) (fun c_2 => ?_) (fun c_2 => ?_)
    · refine lv_iconst (v := 0) hx hb d_Sw_isPort_14 (by decide) ?_
      exact hp_zret hx hb hr hlocks hQ hK hH hS (Nat.le_of_ble_eq_true rfl) (Nat.le_of_ble_eq_true rfl) rfl d_Sw_isPort_15 ⟨rfl, sg_port_big c_2⟩
    · refine lv_iconst (v := 1) hx hb d_Sw_isPort_10 (by decide) ?_
      refine lv_goto (tgt := 15) hx hb d_Sw_isPort_11 (by decide) ?_
      exact hp_zret hx hb hr hlocks hQ hK hH hS (Nat.le_of_ble_eq_true rfl) (Nat.le_of_ble_eq_true rfl) rfl d_Sw_isPort_15 ⟨rfl, sg_port_in c_1 c_2⟩
abbrev rm_Sw_isClass : Room := { frames := 0, cells := 0, slots := 0, locals := 0 }
set_option maxHeartbeats 4000000 in
set_option maxRecDepth 100000 in
theorem cn_Sw_isClass (l : Launch) (D : va_G) (B : Nat) (M : hp_M) (x : Int32)  : Met l y_Sw_isClass (wd_c y_Sw_isClass b_Sw_isClass 1 (some .boolean)) rm_Sw_isClass (va_Pc [.int x] (hp_C D B M)) (va_Qi (fun (r : Int32) (M1 : hp_M) => M1 = M ∧ r = sg_port x) (hp_C D B) (hp_ub B)) 0 0 (hp_ub B) := by
  refine hp_met (by decide) (Nat.le_of_ble_eq_true rfl) ?_
  intro p e s m args below meth cd ls Q hQ hx hb hr hts hown hlocks hnm hml hK hH hS hB hl
  replace hl : lv_has ls 1 [(0, .int x)] := hl
  refine lv_iload_n hx hb d_Sw_isClass_0 rfl (lv_at hl 0 rfl) ?_
  refine lv_if_lt (tgt := 14) hx hb d_Sw_isClass_1 (by decide) (fun c_1 => ?_) (fun c_1 => ?_)
  · refine lv_iconst (v := 0) hx hb d_Sw_isClass_14 (by decide) ?_
    exact hp_zret hx hb hr hlocks hQ hK hH hS (Nat.le_of_ble_eq_true rfl) (Nat.le_of_ble_eq_true rfl) rfl d_Sw_isClass_15 ⟨rfl, sg_port_neg c_1⟩
  · refine lv_iload_n hx hb d_Sw_isClass_4 rfl (lv_at hl 0 rfl) ?_
    refine lv_bipush (v := 8) hx hb d_Sw_isClass_5 (by decide) ?_
    refine lv_icmp_ge (tgt := 14) hx hb d_Sw_isClass_7 (by decide) (fun c_2 => ?_) (fun c_2 => ?_)
    · refine lv_iconst (v := 0) hx hb d_Sw_isClass_14 (by decide) ?_
      exact hp_zret hx hb hr hlocks hQ hK hH hS (Nat.le_of_ble_eq_true rfl) (Nat.le_of_ble_eq_true rfl) rfl d_Sw_isClass_15 ⟨rfl, sg_port_big c_2⟩
    · refine lv_iconst (v := 1) hx hb d_Sw_isClass_10 (by decide) ?_
      refine lv_goto (tgt := 15) hx hb d_Sw_isClass_11 (by decide) ?_
      exact hp_zret hx hb hr hlocks hQ hK hH hS (Nat.le_of_ble_eq_true rfl) (Nat.le_of_ble_eq_true rfl) rfl d_Sw_isClass_15 ⟨rfl, sg_port_in c_1 c_2⟩
abbrev rm_Sw_slots : Room := { frames := 0, cells := 0, slots := 0, locals := 0 }
set_option maxHeartbeats 4000000 in
set_option maxRecDepth 100000 in
theorem cn_Sw_slots (l : Launch) (D : va_G) (B : Nat) (M : hp_M) (a : Nat) (σ : sg_S) (F : Nat → Prop) (hsw : sw_H D M a σ F) : Met l y_Sw_slots (wd_c y_Sw_slots b_Sw_slots 1 (some .int)) rm_Sw_slots (va_Pc [.ref a] (hp_C D B M)) (va_Qi (fun (r : Int32) (M1 : hp_M) => M1 = M ∧ r = sg_sl σ) (hp_C D B) (hp_ub B)) 0 0 (hp_ub B) := by
  refine hp_met (by decide) (Nat.le_of_ble_eq_true rfl) ?_
  intro p e s m args below meth cd ls Q hQ hx hb hr hts hown hlocks hnm hml hK hH hS hB hl
  replace hl : lv_has ls 1 [(0, .ref a)] := hl
  have hsw0 := hsw
  obtain ⟨aI, aO, fI, fO, oa, la, ip, op, sp, lp, LQ, ow, ⟨h1, h2, h3⟩, ⟨w1, w2, w3⟩, hi, ho, hf⟩ := hsw0
  refine lv_aload_n hx hb d_Sw_slots_0 rfl (lv_at hl 0 rfl) ?_
  refine hp_get hx hb hts iw_Sw hown hK hH h1 rfl 2 (by decide) (hts _ kw_0) (v := .int (sg_sl σ)) rfl d_Sw_slots_1 ?_
  exact hp_iret hx hb hr hlocks hQ hK hH hS (Nat.le_of_ble_eq_true rfl) (Nat.le_of_ble_eq_true rfl) d_Sw_slots_4 ⟨rfl, rfl⟩
abbrev rm_Sw_latestSent : Room := { frames := 1, cells := 0, slots := 0, locals := 20 }
set_option maxHeartbeats 4000000 in
set_option maxRecDepth 100000 in
theorem cn_Sw_latestSent (l : Launch) (D : va_G) (B : Nat) (M : hp_M) (a : Nat) (σ : sg_S) (F : Nat → Prop) (x : Int32) (hsw : sw_H D M a σ F) : Met l y_Sw_latestSent (wd_c y_Sw_latestSent b_Sw_latestSent 2 (some (.object "EvenSwitch$Cell"))) rm_Sw_latestSent (va_Pc [.ref a, .int x] (hp_C D B M)) (va_Qq (fun (r : Option Nat) (M1 : hp_M) => M1 = M ∧ ((r = none ∧ sg_latest σ x = none) ∨ ∃ (q : Nat) (d : sg_Ce) (nx : Option Nat), r = some q ∧ sg_latest σ x = some d ∧ M q = some (sw_c d nx))) (hp_C D B) (hp_ub B)) 0 0 (hp_ub B) := by
  rcases sg_ix_or x with ⟨hix, _⟩ | ⟨k, hk, rfl, hix⟩
  · refine hp_met (by decide) (Nat.le_of_ble_eq_true rfl) ?_
    intro p e s m args below meth cd ls Q hQ hx hb hr hts hown hlocks hnm hml hK hH hS hB hl
    replace hl : lv_has ls 2 [(0, .ref a), (1, .int x)] := hl
    refine lv_iload_n hx hb d_Sw_latestSent_0 rfl (lv_at hl 1 rfl) ?_
    refine hp_calli (hp_runS (As := [.int x]) (rest := []) hx hb hml hown (cn_Sw_isPort l D B M x) (hp_cwS 1 hts kw_1 kw_4 kw_2 kw_3 rfl rfl (by decide +kernel) ⟨(Nat.le_of_ble_eq_true rfl), (Nat.le_of_ble_eq_true rfl)⟩) hK hH rfl hl.1 rfl (Nat.le_of_ble_eq_true rfl) d_Sw_latestSent_1 ⟨(Nat.le_of_ble_eq_true rfl), (Nat.le_of_ble_eq_true rfl)⟩) hS (fun r_1 M_2 H locs w_3 hH hS => ?_)
    obtain ⟨eM, eR⟩ := w_3
    rw [eM] at hH
    rw [eR]
    refine lv_if_eq (tgt := 19) hx hb d_Sw_latestSent_4 (by decide) (fun c_4 => ?_) (fun c_4 => absurd (sg_port_none hix) c_4)
    refine lv_null hx hb d_Sw_latestSent_19 ?_
    exact hp_qret (v := none) hx hb hr hlocks hQ hK hH hS (Nat.le_of_ble_eq_true rfl) (Nat.le_of_ble_eq_true rfl) d_Sw_latestSent_20 ⟨rfl, Or.inl ⟨rfl, sg_latest_n hix⟩⟩
  · refine hp_met (by decide) (Nat.le_of_ble_eq_true rfl) ?_
    intro p e s m args below meth cd ls Q hQ hx hb hr hts hown hlocks hnm hml hK hH hS hB hl
    replace hl : lv_has ls 2 [(0, .ref a), (1, .int (nI k))] := hl
    have hsw0 := hsw
    obtain ⟨aI, aO, fI, fO, oa, la, ip, op, sp, lp, LQ, ow, ⟨h1, h2, h3⟩, ⟨w1, w2, w3⟩, hi, ho, hf⟩ := hsw0
    obtain ⟨o1, o2, o3, ⟨ofs, o4, o4'⟩, o5, ⟨ofl, o6, o6'⟩, o7, ⟨o8, o9, o10⟩, o11⟩ := ho k hk
    refine lv_iload_n hx hb d_Sw_latestSent_0 rfl (lv_at hl 1 rfl) ?_
    refine hp_calli (hp_runS (As := [.int (nI k)]) (rest := []) hx hb hml hown (cn_Sw_isPort l D B M (nI k)) (hp_cwS 1 hts kw_1 kw_4 kw_2 kw_3 rfl rfl (by decide +kernel) ⟨(Nat.le_of_ble_eq_true rfl), (Nat.le_of_ble_eq_true rfl)⟩) hK hH rfl hl.1 rfl (Nat.le_of_ble_eq_true rfl) d_Sw_latestSent_1 ⟨(Nat.le_of_ble_eq_true rfl), (Nat.le_of_ble_eq_true rfl)⟩) hS (fun r_1 M_2 H locs w_3 hH hS => ?_)
    obtain ⟨eM, eR⟩ := w_3
    rw [eM] at hH
    rw [eR]
    refine lv_if_eq (tgt := 19) hx hb d_Sw_latestSent_4 (by decide) (fun c_4 => absurd c_4 (by rw [sg_port_some hix]; decide)) (fun c_4 => ?_)
    refine lv_aload_n hx hb d_Sw_latestSent_7 rfl (lv_at hl 0 rfl) ?_
    refine hp_get hx hb hts iw_Sw hown hK hH h1 rfl 1 (by decide) (hts _ kw_5) (v := .ref aO) rfl d_Sw_latestSent_8 ?_
    refine lv_iload_n hx hb d_Sw_latestSent_11 rfl (lv_at hl 1 rfl) ?_
    refine hp_aald hx hb hK hH h3 3 rfl k rfl hk (by decide) (ho k hk).1 d_Sw_latestSent_12 ?_
    refine hp_get hx hb hts iw_Ou hown hK hH o2 rfl 5 (by decide) (hts _ kw_6) (v := va_rf (la k)) rfl d_Sw_latestSent_13 ?_
    refine lv_goto (tgt := 20) hx hb d_Sw_latestSent_16 (by decide) ?_
    exact hp_qret (v := la k) hx hb hr hlocks hQ hK hH hS (Nat.le_of_ble_eq_true rfl) (Nat.le_of_ble_eq_true rfl) d_Sw_latestSent_20 ⟨rfl, by rw [sg_latest_s hix]; exact sw_one_or o11⟩
abbrev rm_Sw_hasSent : Room := { frames := 2, cells := 0, slots := 0, locals := 41 }
set_option maxHeartbeats 4000000 in
set_option maxRecDepth 100000 in
theorem cn_Sw_hasSent (l : Launch) (D : va_G) (B : Nat) (M : hp_M) (a : Nat) (σ : sg_S) (F : Nat → Prop) (x : Int32) (hsw : sw_H D M a σ F) : Met l y_Sw_hasSent (wd_c y_Sw_hasSent b_Sw_hasSent 2 (some .boolean)) rm_Sw_hasSent (va_Pc [.ref a, .int x] (hp_C D B M)) (va_Qi (fun (r : Int32) (M1 : hp_M) => M1 = M ∧ r = an_hasSent σ x) (hp_C D B) (hp_ub B)) 0 0 (hp_ub B) := by
  refine hp_met (by decide) (Nat.le_of_ble_eq_true rfl) ?_
  intro p e s m args below meth cd ls Q hQ hx hb hr hts hown hlocks hnm hml hK hH hS hB hl
  replace hl : lv_has ls 2 [(0, .ref a), (1, .int x)] := hl
  have hsw0 := hsw
  obtain ⟨aI, aO, fI, fO, oa, la, ip, op, sp, lp, LQ, ow, ⟨h1, h2, h3⟩, ⟨w1, w2, w3⟩, hi, ho, hf⟩ := hsw0
  refine lv_aload_n hx hb d_Sw_hasSent_0 rfl (lv_at hl 0 rfl) ?_
  refine lv_iload_n hx hb d_Sw_hasSent_1 rfl (lv_at hl 1 rfl) ?_
  refine hp_callq (hp_runV (b := a) (As := [.int x]) (rest := []) hx hb hml hown (cn_Sw_latestSent l D B M a σ F x hsw) (hp_cwV 1 hts kw_7 kw_9 kw_10 kw_2 kw_8 rfl rfl (by decide +kernel) ⟨(Nat.le_of_ble_eq_true rfl), (Nat.le_of_ble_eq_true rfl)⟩) hK hH h1 rfl rfl hl.1 rfl (Nat.le_of_ble_eq_true rfl) d_Sw_hasSent_2 ⟨(Nat.le_of_ble_eq_true rfl), (Nat.le_of_ble_eq_true rfl)⟩) hS (fun r_1 M_2 H locs w_3 hH hS => ?_)
  rcases w_3 with ⟨eM, ⟨eR, hl2⟩ | ⟨q, d, nx, eR, hl2, hq⟩⟩
  · rw [eM] at hH
    rw [eR]
    refine lv_ifnullN (tgt := 12) hx hb d_Sw_hasSent_5 (by decide) ?_
    refine lv_iconst (v := 0) hx hb d_Sw_hasSent_12 (by decide) ?_
    exact hp_zret hx hb hr hlocks hQ hK hH hS (Nat.le_of_ble_eq_true rfl) (Nat.le_of_ble_eq_true rfl) rfl d_Sw_hasSent_13 ⟨rfl, an_hasSent_n hl2⟩
  · rw [eM] at hH
    rw [eR]
    refine lv_ifnull hx hb d_Sw_hasSent_5 ?_
    refine lv_iconst (v := 1) hx hb d_Sw_hasSent_8 (by decide) ?_
    refine lv_goto (tgt := 13) hx hb d_Sw_hasSent_9 (by decide) ?_
    exact hp_zret hx hb hr hlocks hQ hK hH hS (Nat.le_of_ble_eq_true rfl) (Nat.le_of_ble_eq_true rfl) rfl d_Sw_hasSent_13 ⟨rfl, an_hasSent_s hl2⟩
abbrev rm_Sw_sent : Room := { frames := 2, cells := 0, slots := 0, locals := 41 }
set_option maxHeartbeats 4000000 in
set_option maxRecDepth 100000 in
theorem cn_Sw_sent (l : Launch) (D : va_G) (B : Nat) (M : hp_M) (a : Nat) (σ : sg_S) (F : Nat → Prop) (x : Int32) (hsw : sw_H D M a σ F) : Met l y_Sw_sent (wd_c y_Sw_sent b_Sw_sent 3 (some .int)) rm_Sw_sent (va_Pc [.ref a, .int x] (hp_C D B M)) (va_Qi (fun (r : Int32) (M1 : hp_M) => M1 = M ∧ r = an_sent σ x) (hp_C D B) (hp_ub B)) 0 0 (hp_ub B) := by
  refine hp_met (by decide) (Nat.le_of_ble_eq_true rfl) ?_
  intro p e s m args below meth cd ls Q hQ hx hb hr hts hown hlocks hnm hml hK hH hS hB hl
  replace hl : lv_has ls 3 [(0, .ref a), (1, .int x)] := hl
  have hsw0 := hsw
  obtain ⟨aI, aO, fI, fO, oa, la, ip, op, sp, lp, LQ, ow, ⟨h1, h2, h3⟩, ⟨w1, w2, w3⟩, hi, ho, hf⟩ := hsw0
  refine lv_aload_n hx hb d_Sw_sent_0 rfl (lv_at hl 0 rfl) ?_
  refine lv_iload_n hx hb d_Sw_sent_1 rfl (lv_at hl 1 rfl) ?_
  refine hp_callq (hp_runV (b := a) (As := [.int x]) (rest := []) hx hb hml hown (cn_Sw_latestSent l D B M a σ F x hsw) (hp_cwV 1 hts kw_7 kw_9 kw_10 kw_2 kw_8 rfl rfl (by decide +kernel) ⟨(Nat.le_of_ble_eq_true rfl), (Nat.le_of_ble_eq_true rfl)⟩) hK hH h1 rfl rfl hl.1 rfl (Nat.le_of_ble_eq_true rfl) d_Sw_sent_2 ⟨(Nat.le_of_ble_eq_true rfl), (Nat.le_of_ble_eq_true rfl)⟩) hS (fun r_1 M_2 H locs w_3 hH hS => ?_)
  rcases w_3 with ⟨eM, ⟨eR, hl2⟩ | ⟨q, d, nx, eR, hl2, hq⟩⟩
  · rw [eM] at hH
    rw [eR]
    refine lv_astore_nN (lv' := [(2, .null), (0, .ref a), (1, .int x)]) hx hb d_Sw_sent_5 rfl hl (by decide) rfl (fun ls hl => ?_)
    refine lv_aload_nN hx hb d_Sw_sent_6 rfl (lv_at hl 0 rfl) ?_
    refine lv_ifnonnullN hx hb d_Sw_sent_7 ?_
    refine lv_iconst (v := 0) hx hb d_Sw_sent_10 (by decide) ?_
    refine lv_goto (tgt := 18) hx hb d_Sw_sent_11 (by decide) ?_
    exact hp_iret hx hb hr hlocks hQ hK hH hS (Nat.le_of_ble_eq_true rfl) (Nat.le_of_ble_eq_true rfl) d_Sw_sent_18 ⟨rfl, an_sent_n hl2⟩
  · rw [eM] at hH
    rw [eR]
    refine lv_astore_n (lv' := [(2, .ref q), (0, .ref a), (1, .int x)]) hx hb d_Sw_sent_5 rfl hl (by decide) rfl (fun ls hl => ?_)
    refine lv_aload_n hx hb d_Sw_sent_6 rfl (lv_at hl 0 rfl) ?_
    refine lv_ifnonnull (tgt := 14) hx hb d_Sw_sent_7 (by decide) ?_
    refine lv_aload_n hx hb d_Sw_sent_14 rfl (lv_at hl 0 rfl) ?_
    refine hp_get hx hb hts iw_Ce hown hK hH hq rfl 3 (by decide) (hts _ kw_11) (v := .int (sg_ct d)) rfl d_Sw_sent_15 ?_
    exact hp_iret hx hb hr hlocks hQ hK hH hS (Nat.le_of_ble_eq_true rfl) (Nat.le_of_ble_eq_true rfl) d_Sw_sent_18 ⟨rfl, an_sent_s hl2⟩
abbrev rm_Sw_sentFrom : Room := { frames := 2, cells := 0, slots := 0, locals := 41 }
set_option maxHeartbeats 4000000 in
set_option maxRecDepth 100000 in
theorem cn_Sw_sentFrom (l : Launch) (D : va_G) (B : Nat) (M : hp_M) (a : Nat) (σ : sg_S) (F : Nat → Prop) (x : Int32) (hsw : sw_H D M a σ F) : Met l y_Sw_sentFrom (wd_c y_Sw_sentFrom b_Sw_sentFrom 3 (some .int)) rm_Sw_sentFrom (va_Pc [.ref a, .int x] (hp_C D B M)) (va_Qi (fun (r : Int32) (M1 : hp_M) => M1 = M ∧ r = an_sentFrom σ x) (hp_C D B) (hp_ub B)) 0 0 (hp_ub B) := by
  refine hp_met (by decide) (Nat.le_of_ble_eq_true rfl) ?_
  intro p e s m args below meth cd ls Q hQ hx hb hr hts hown hlocks hnm hml hK hH hS hB hl
  replace hl : lv_has ls 3 [(0, .ref a), (1, .int x)] := hl
  have hsw0 := hsw
  obtain ⟨aI, aO, fI, fO, oa, la, ip, op, sp, lp, LQ, ow, ⟨h1, h2, h3⟩, ⟨w1, w2, w3⟩, hi, ho, hf⟩ := hsw0
  refine lv_aload_n hx hb d_Sw_sentFrom_0 rfl (lv_at hl 0 rfl) ?_
  refine lv_iload_n hx hb d_Sw_sentFrom_1 rfl (lv_at hl 1 rfl) ?_
  refine hp_callq (hp_runV (b := a) (As := [.int x]) (rest := []) hx hb hml hown (cn_Sw_latestSent l D B M a σ F x hsw) (hp_cwV 1 hts kw_7 kw_9 kw_10 kw_2 kw_8 rfl rfl (by decide +kernel) ⟨(Nat.le_of_ble_eq_true rfl), (Nat.le_of_ble_eq_true rfl)⟩) hK hH h1 rfl rfl hl.1 rfl (Nat.le_of_ble_eq_true rfl) d_Sw_sentFrom_2 ⟨(Nat.le_of_ble_eq_true rfl), (Nat.le_of_ble_eq_true rfl)⟩) hS (fun r_1 M_2 H locs w_3 hH hS => ?_)
  rcases w_3 with ⟨eM, ⟨eR, hl2⟩ | ⟨q, d, nx, eR, hl2, hq⟩⟩
  · rw [eM] at hH
    rw [eR]
    refine lv_astore_nN (lv' := [(2, .null), (0, .ref a), (1, .int x)]) hx hb d_Sw_sentFrom_5 rfl hl (by decide) rfl (fun ls hl => ?_)
    refine lv_aload_nN hx hb d_Sw_sentFrom_6 rfl (lv_at hl 0 rfl) ?_
    refine lv_ifnonnullN hx hb d_Sw_sentFrom_7 ?_
    refine lv_iconst (v := (-1)) hx hb d_Sw_sentFrom_10 (by decide) ?_
    refine lv_goto (tgt := 18) hx hb d_Sw_sentFrom_11 (by decide) ?_
    exact hp_iret hx hb hr hlocks hQ hK hH hS (Nat.le_of_ble_eq_true rfl) (Nat.le_of_ble_eq_true rfl) d_Sw_sentFrom_18 ⟨rfl, an_sentFrom_n hl2⟩
  · rw [eM] at hH
    rw [eR]
    refine lv_astore_n (lv' := [(2, .ref q), (0, .ref a), (1, .int x)]) hx hb d_Sw_sentFrom_5 rfl hl (by decide) rfl (fun ls hl => ?_)
    refine lv_aload_n hx hb d_Sw_sentFrom_6 rfl (lv_at hl 0 rfl) ?_
    refine lv_ifnonnull (tgt := 14) hx hb d_Sw_sentFrom_7 (by decide) ?_
    refine lv_aload_n hx hb d_Sw_sentFrom_14 rfl (lv_at hl 0 rfl) ?_
    refine hp_get hx hb hts iw_Ce hown hK hH hq rfl 0 (by decide) (hts _ kw_12) (v := .int (nI (sg_ci d))) rfl d_Sw_sentFrom_15 ?_
    exact hp_iret hx hb hr hlocks hQ hK hH hS (Nat.le_of_ble_eq_true rfl) (Nat.le_of_ble_eq_true rfl) d_Sw_sentFrom_18 ⟨rfl, an_sentFrom_s hl2⟩
abbrev rm_Sw_waited : Room := { frames := 2, cells := 0, slots := 0, locals := 41 }
set_option maxHeartbeats 4000000 in
set_option maxRecDepth 100000 in
theorem cn_Sw_waited (l : Launch) (D : va_G) (B : Nat) (M : hp_M) (a : Nat) (σ : sg_S) (F : Nat → Prop) (x : Int32) (hsw : sw_H D M a σ F) : Met l y_Sw_waited (wd_c y_Sw_waited b_Sw_waited 3 (some .int)) rm_Sw_waited (va_Pc [.ref a, .int x] (hp_C D B M)) (va_Qi (fun (r : Int32) (M1 : hp_M) => M1 = M ∧ r = an_waited σ x) (hp_C D B) (hp_ub B)) 0 0 (hp_ub B) := by
  refine hp_met (by decide) (Nat.le_of_ble_eq_true rfl) ?_
  intro p e s m args below meth cd ls Q hQ hx hb hr hts hown hlocks hnm hml hK hH hS hB hl
  replace hl : lv_has ls 3 [(0, .ref a), (1, .int x)] := hl
  have hsw0 := hsw
  obtain ⟨aI, aO, fI, fO, oa, la, ip, op, sp, lp, LQ, ow, ⟨h1, h2, h3⟩, ⟨w1, w2, w3⟩, hi, ho, hf⟩ := hsw0
  refine lv_aload_n hx hb d_Sw_waited_0 rfl (lv_at hl 0 rfl) ?_
  refine lv_iload_n hx hb d_Sw_waited_1 rfl (lv_at hl 1 rfl) ?_
  refine hp_callq (hp_runV (b := a) (As := [.int x]) (rest := []) hx hb hml hown (cn_Sw_latestSent l D B M a σ F x hsw) (hp_cwV 1 hts kw_7 kw_9 kw_10 kw_2 kw_8 rfl rfl (by decide +kernel) ⟨(Nat.le_of_ble_eq_true rfl), (Nat.le_of_ble_eq_true rfl)⟩) hK hH h1 rfl rfl hl.1 rfl (Nat.le_of_ble_eq_true rfl) d_Sw_waited_2 ⟨(Nat.le_of_ble_eq_true rfl), (Nat.le_of_ble_eq_true rfl)⟩) hS (fun r_1 M_2 H locs w_3 hH hS => ?_)
  rcases w_3 with ⟨eM, ⟨eR, hl2⟩ | ⟨q, d, nx, eR, hl2, hq⟩⟩
  · rw [eM] at hH
    rw [eR]
    refine lv_astore_nN (lv' := [(2, .null), (0, .ref a), (1, .int x)]) hx hb d_Sw_waited_5 rfl hl (by decide) rfl (fun ls hl => ?_)
    refine lv_aload_nN hx hb d_Sw_waited_6 rfl (lv_at hl 0 rfl) ?_
    refine lv_ifnonnullN hx hb d_Sw_waited_7 ?_
    refine lv_iconst (v := (-1)) hx hb d_Sw_waited_10 (by decide) ?_
    refine lv_goto (tgt := 25) hx hb d_Sw_waited_11 (by decide) ?_
    exact hp_iret hx hb hr hlocks hQ hK hH hS (Nat.le_of_ble_eq_true rfl) (Nat.le_of_ble_eq_true rfl) d_Sw_waited_25 ⟨rfl, an_waited_n hl2⟩
  · rw [eM] at hH
    rw [eR]
    refine lv_astore_n (lv' := [(2, .ref q), (0, .ref a), (1, .int x)]) hx hb d_Sw_waited_5 rfl hl (by decide) rfl (fun ls hl => ?_)
    refine lv_aload_n hx hb d_Sw_waited_6 rfl (lv_at hl 0 rfl) ?_
    refine lv_ifnonnull (tgt := 14) hx hb d_Sw_waited_7 (by decide) ?_
    refine lv_aload_n hx hb d_Sw_waited_14 rfl (lv_at hl 1 rfl) ?_
    refine hp_get hx hb hts iw_Sw hown hK hH h1 rfl 2 (by decide) (hts _ kw_0) (v := .int (sg_sl σ)) rfl d_Sw_waited_15 ?_
    refine lv_iconst (v := 1) hx hb d_Sw_waited_18 (by decide) ?_
    refine lv_isub hx hb d_Sw_waited_19 ?_
    refine lv_aload_n hx hb d_Sw_waited_20 rfl (lv_at hl 0 rfl) ?_
    refine hp_get hx hb hts iw_Ce hown hK hH hq rfl 5 (by decide) (hts _ kw_13) (v := .int (sg_cc d)) rfl d_Sw_waited_21 ?_
    refine lv_isub hx hb d_Sw_waited_24 ?_
    exact hp_iret hx hb hr hlocks hQ hK hH hS (Nat.le_of_ble_eq_true rfl) (Nat.le_of_ble_eq_true rfl) d_Sw_waited_25 ⟨rfl, an_waited_s hl2⟩
abbrev rm_Sw_inside : Room := { frames := 1, cells := 0, slots := 0, locals := 20 }
set_option maxHeartbeats 4000000 in
set_option maxRecDepth 100000 in
theorem cn_Sw_inside (l : Launch) (D : va_G) (B : Nat) (M : hp_M) (a : Nat) (σ : sg_S) (F : Nat → Prop) (x : Int32) (hsw : sw_H D M a σ F) : Met l y_Sw_inside (wd_c y_Sw_inside b_Sw_inside 2 (some .int)) rm_Sw_inside (va_Pc [.ref a, .int x] (hp_C D B M)) (va_Qi (fun (r : Int32) (M1 : hp_M) => M1 = M ∧ r = an_inside σ x) (hp_C D B) (hp_ub B)) 0 0 (hp_ub B) := by
  rcases sg_ix_or x with ⟨hix, _⟩ | ⟨k, hk, rfl, hix⟩
  · refine hp_met (by decide) (Nat.le_of_ble_eq_true rfl) ?_
    intro p e s m args below meth cd ls Q hQ hx hb hr hts hown hlocks hnm hml hK hH hS hB hl
    replace hl : lv_has ls 2 [(0, .ref a), (1, .int x)] := hl
    refine lv_iload_n hx hb d_Sw_inside_0 rfl (lv_at hl 1 rfl) ?_
    refine hp_calli (hp_runS (As := [.int x]) (rest := []) hx hb hml hown (cn_Sw_isPort l D B M x) (hp_cwS 1 hts kw_1 kw_4 kw_2 kw_3 rfl rfl (by decide +kernel) ⟨(Nat.le_of_ble_eq_true rfl), (Nat.le_of_ble_eq_true rfl)⟩) hK hH rfl hl.1 rfl (Nat.le_of_ble_eq_true rfl) d_Sw_inside_1 ⟨(Nat.le_of_ble_eq_true rfl), (Nat.le_of_ble_eq_true rfl)⟩) hS (fun r_1 M_2 H locs w_3 hH hS => ?_)
    obtain ⟨eM, eR⟩ := w_3
    rw [eM] at hH
    rw [eR]
    refine lv_if_eq (tgt := 19) hx hb d_Sw_inside_4 (by decide) (fun c_4 => ?_) (fun c_4 => absurd (sg_port_none hix) c_4)
    refine lv_iconst (v := (-1)) hx hb d_Sw_inside_19 (by decide) ?_
    exact hp_iret hx hb hr hlocks hQ hK hH hS (Nat.le_of_ble_eq_true rfl) (Nat.le_of_ble_eq_true rfl) d_Sw_inside_20 ⟨rfl, an_inside_n hix⟩
  · refine hp_met (by decide) (Nat.le_of_ble_eq_true rfl) ?_
    intro p e s m args below meth cd ls Q hQ hx hb hr hts hown hlocks hnm hml hK hH hS hB hl
    replace hl : lv_has ls 2 [(0, .ref a), (1, .int (nI k))] := hl
    have hsw0 := hsw
    obtain ⟨aI, aO, fI, fO, oa, la, ip, op, sp, lp, LQ, ow, ⟨h1, h2, h3⟩, ⟨w1, w2, w3⟩, hi, ho, hf⟩ := hsw0
    obtain ⟨i1, i2, i3, i4⟩ := hi k hk
    refine lv_iload_n hx hb d_Sw_inside_0 rfl (lv_at hl 1 rfl) ?_
    refine hp_calli (hp_runS (As := [.int (nI k)]) (rest := []) hx hb hml hown (cn_Sw_isPort l D B M (nI k)) (hp_cwS 1 hts kw_1 kw_4 kw_2 kw_3 rfl rfl (by decide +kernel) ⟨(Nat.le_of_ble_eq_true rfl), (Nat.le_of_ble_eq_true rfl)⟩) hK hH rfl hl.1 rfl (Nat.le_of_ble_eq_true rfl) d_Sw_inside_1 ⟨(Nat.le_of_ble_eq_true rfl), (Nat.le_of_ble_eq_true rfl)⟩) hS (fun r_1 M_2 H locs w_3 hH hS => ?_)
    obtain ⟨eM, eR⟩ := w_3
    rw [eM] at hH
    rw [eR]
    refine lv_if_eq (tgt := 19) hx hb d_Sw_inside_4 (by decide) (fun c_4 => absurd c_4 (by rw [sg_port_some hix]; decide)) (fun c_4 => ?_)
    refine lv_aload_n hx hb d_Sw_inside_7 rfl (lv_at hl 0 rfl) ?_
    refine hp_get hx hb hts iw_Sw hown hK hH h1 rfl 0 (by decide) (hts _ kw_14) (v := .ref aI) rfl d_Sw_inside_8 ?_
    refine lv_iload_n hx hb d_Sw_inside_11 rfl (lv_at hl 1 rfl) ?_
    refine hp_aald hx hb hK hH h2 2 rfl k rfl hk (by decide) (hi k hk).1 d_Sw_inside_12 ?_
    refine hp_get hx hb hts iw_In hown hK hH i2 rfl 1 (by decide) (hts _ kw_15) (v := .int (nI (sg_held σ k))) rfl d_Sw_inside_13 ?_
    refine lv_goto (tgt := 20) hx hb d_Sw_inside_16 (by decide) ?_
    exact hp_iret hx hb hr hlocks hQ hK hH hS (Nat.le_of_ble_eq_true rfl) (Nat.le_of_ble_eq_true rfl) d_Sw_inside_20 ⟨rfl, an_inside_s hix⟩
abbrev rm_Sw_waiting : Room := { frames := 1, cells := 0, slots := 0, locals := 20 }
set_option maxHeartbeats 4000000 in
set_option maxRecDepth 100000 in
theorem cn_Sw_waiting (l : Launch) (D : va_G) (B : Nat) (M : hp_M) (a : Nat) (σ : sg_S) (F : Nat → Prop) (x : Int32) (hsw : sw_H D M a σ F) : Met l y_Sw_waiting (wd_c y_Sw_waiting b_Sw_waiting 2 (some .int)) rm_Sw_waiting (va_Pc [.ref a, .int x] (hp_C D B M)) (va_Qi (fun (r : Int32) (M1 : hp_M) => M1 = M ∧ r = an_waiting σ x) (hp_C D B) (hp_ub B)) 0 0 (hp_ub B) := by
  rcases sg_ix_or x with ⟨hix, _⟩ | ⟨k, hk, rfl, hix⟩
  · refine hp_met (by decide) (Nat.le_of_ble_eq_true rfl) ?_
    intro p e s m args below meth cd ls Q hQ hx hb hr hts hown hlocks hnm hml hK hH hS hB hl
    replace hl : lv_has ls 2 [(0, .ref a), (1, .int x)] := hl
    refine lv_iload_n hx hb d_Sw_waiting_0 rfl (lv_at hl 1 rfl) ?_
    refine hp_calli (hp_runS (As := [.int x]) (rest := []) hx hb hml hown (cn_Sw_isPort l D B M x) (hp_cwS 1 hts kw_1 kw_4 kw_2 kw_3 rfl rfl (by decide +kernel) ⟨(Nat.le_of_ble_eq_true rfl), (Nat.le_of_ble_eq_true rfl)⟩) hK hH rfl hl.1 rfl (Nat.le_of_ble_eq_true rfl) d_Sw_waiting_1 ⟨(Nat.le_of_ble_eq_true rfl), (Nat.le_of_ble_eq_true rfl)⟩) hS (fun r_1 M_2 H locs w_3 hH hS => ?_)
    obtain ⟨eM, eR⟩ := w_3
    rw [eM] at hH
    rw [eR]
    refine lv_if_eq (tgt := 19) hx hb d_Sw_waiting_4 (by decide) (fun c_4 => ?_) (fun c_4 => absurd (sg_port_none hix) c_4)
    refine lv_iconst (v := (-1)) hx hb d_Sw_waiting_19 (by decide) ?_
    exact hp_iret hx hb hr hlocks hQ hK hH hS (Nat.le_of_ble_eq_true rfl) (Nat.le_of_ble_eq_true rfl) d_Sw_waiting_20 ⟨rfl, an_waiting_n hix⟩
  · refine hp_met (by decide) (Nat.le_of_ble_eq_true rfl) ?_
    intro p e s m args below meth cd ls Q hQ hx hb hr hts hown hlocks hnm hml hK hH hS hB hl
    replace hl : lv_has ls 2 [(0, .ref a), (1, .int (nI k))] := hl
    have hsw0 := hsw
    obtain ⟨aI, aO, fI, fO, oa, la, ip, op, sp, lp, LQ, ow, ⟨h1, h2, h3⟩, ⟨w1, w2, w3⟩, hi, ho, hf⟩ := hsw0
    obtain ⟨o1, o2, o3, ⟨ofs, o4, o4'⟩, o5, ⟨ofl, o6, o6'⟩, o7, ⟨o8, o9, o10⟩, o11⟩ := ho k hk
    refine lv_iload_n hx hb d_Sw_waiting_0 rfl (lv_at hl 1 rfl) ?_
    refine hp_calli (hp_runS (As := [.int (nI k)]) (rest := []) hx hb hml hown (cn_Sw_isPort l D B M (nI k)) (hp_cwS 1 hts kw_1 kw_4 kw_2 kw_3 rfl rfl (by decide +kernel) ⟨(Nat.le_of_ble_eq_true rfl), (Nat.le_of_ble_eq_true rfl)⟩) hK hH rfl hl.1 rfl (Nat.le_of_ble_eq_true rfl) d_Sw_waiting_1 ⟨(Nat.le_of_ble_eq_true rfl), (Nat.le_of_ble_eq_true rfl)⟩) hS (fun r_1 M_2 H locs w_3 hH hS => ?_)
    obtain ⟨eM, eR⟩ := w_3
    rw [eM] at hH
    rw [eR]
    refine lv_if_eq (tgt := 19) hx hb d_Sw_waiting_4 (by decide) (fun c_4 => absurd c_4 (by rw [sg_port_some hix]; decide)) (fun c_4 => ?_)
    refine lv_aload_n hx hb d_Sw_waiting_7 rfl (lv_at hl 0 rfl) ?_
    refine hp_get hx hb hts iw_Sw hown hK hH h1 rfl 1 (by decide) (hts _ kw_5) (v := .ref aO) rfl d_Sw_waiting_8 ?_
    refine lv_iload_n hx hb d_Sw_waiting_11 rfl (lv_at hl 1 rfl) ?_
    refine hp_aald hx hb hK hH h3 3 rfl k rfl hk (by decide) (ho k hk).1 d_Sw_waiting_12 ?_
    refine hp_get hx hb hts iw_Ou hown hK hH o2 rfl 4 (by decide) (hts _ kw_16) (v := .int (nI (sg_qu σ k).length)) rfl d_Sw_waiting_13 ?_
    refine lv_goto (tgt := 20) hx hb d_Sw_waiting_16 (by decide) ?_
    exact hp_iret hx hb hr hlocks hQ hK hH hS (Nat.le_of_ble_eq_true rfl) (Nat.le_of_ble_eq_true rfl) d_Sw_waiting_20 ⟨rfl, an_waiting_s hix⟩
