theorem kw_160 : Cond.methodLink R_Md 73 y_Md_isWanted ∈ wd_T := wd_in (List.mem_of_getElem? (i := 345) (by decide +kernel)) rfl
theorem kw_161 : Cond.code y_Md_isWanted b_Md_isWanted 4 (some .boolean) ∈ wd_T := wd_in (List.mem_of_getElem? (i := 348) (by decide +kernel)) rfl
theorem kw_162 : Cond.instanceMethod y_Md_isWanted ∈ wd_T := wd_in (List.mem_of_getElem? (i := 347) (by decide +kernel)) rfl
theorem kw_163 : Cond.selects R_Md y_Md_isWanted y_Md_isWanted ∈ wd_T := wd_in (List.mem_of_getElem? (i := 10) (by decide +kernel)) rfl
theorem kw_164 : Cond.fieldLink R_Md 32 "EvenSwitchModel" "kinds" "[I" ∈ wd_T := wd_in (List.mem_of_getElem? (i := 285) (by decide +kernel)) rfl
theorem kw_165 : Cond.fieldLink R_Md 35 "EvenSwitchModel" "weights" "[I" ∈ wd_T := wd_in (List.mem_of_getElem? (i := 286) (by decide +kernel)) rfl
theorem kw_166 : Cond.fieldLink R_Md 44 "EvenSwitchModel" "offeredClass" "[I" ∈ wd_T := wd_in (List.mem_of_getElem? (i := 289) (by decide +kernel)) rfl
theorem kw_167 : Cond.fieldLink R_Md 47 "EvenSwitchModel" "offeredTag" "[I" ∈ wd_T := wd_in (List.mem_of_getElem? (i := 290) (by decide +kernel)) rfl
theorem kw_168 : Cond.fieldLink R_Md 50 "EvenSwitchModel" "offeredAs" "[I" ∈ wd_T := wd_in (List.mem_of_getElem? (i := 291) (by decide +kernel)) rfl
theorem kw_169 : Cond.fieldLink R_Md 80 "EvenSwitchModel" "offers" "I" ∈ wd_T := wd_in (List.mem_of_getElem? (i := 292) (by decide +kernel)) rfl
theorem d_Md_setOrder_0 : decode b_Md_setOrder 0 = .ok (.aload_n 0, 1) := by decide +kernel
theorem d_Md_setOrder_1 : decode b_Md_setOrder 1 = .ok (.iconst 0, 1) := by decide +kernel
theorem d_Md_setOrder_2 : decode b_Md_setOrder 2 = .ok (.putfield 65, 3) := by decide +kernel
theorem d_Md_setOrder_5 : decode b_Md_setOrder 5 = .ok (.iload_n 1, 1) := by decide +kernel
theorem d_Md_setOrder_6 : decode b_Md_setOrder 6 = .ok (.invokestatic 69, 3) := by decide +kernel
theorem d_Md_setOrder_9 : decode b_Md_setOrder 9 = .ok (.ifCond .eq 20, 3) := by decide +kernel
theorem d_Md_setOrder_12 : decode b_Md_setOrder 12 = .ok (.iload_n 2, 1) := by decide +kernel
theorem d_Md_setOrder_13 : decode b_Md_setOrder 13 = .ok (.ifCond .lt 16, 3) := by decide +kernel
theorem d_Md_setOrder_16 : decode b_Md_setOrder 16 = .ok (.iload_n 2, 1) := by decide +kernel
theorem d_Md_setOrder_17 : decode b_Md_setOrder 17 = .ok (.iconst 2, 1) := by decide +kernel
theorem d_Md_setOrder_18 : decode b_Md_setOrder 18 = .ok (.if_icmp .gt 11, 3) := by decide +kernel
theorem d_Md_setOrder_21 : decode b_Md_setOrder 21 = .ok (.aload_n 0, 1) := by decide +kernel
theorem d_Md_setOrder_22 : decode b_Md_setOrder 22 = .ok (.iload_n 1, 1) := by decide +kernel
theorem d_Md_setOrder_23 : decode b_Md_setOrder 23 = .ok (.invokevirtual 73, 3) := by decide +kernel
theorem d_Md_setOrder_26 : decode b_Md_setOrder 26 = .ok (.ifCond .eq 5, 3) := by decide +kernel
theorem d_Md_setOrder_29 : decode b_Md_setOrder 29 = .ok (.iconst 0, 1) := by decide +kernel
theorem d_Md_setOrder_30 : decode b_Md_setOrder 30 = .ok (.ireturn, 1) := by decide +kernel
theorem d_Md_setOrder_31 : decode b_Md_setOrder 31 = .ok (.aload_n 0, 1) := by decide +kernel
theorem d_Md_setOrder_32 : decode b_Md_setOrder 32 = .ok (.getfield 32, 3) := by decide +kernel
theorem d_Md_setOrder_35 : decode b_Md_setOrder 35 = .ok (.iload_n 1, 1) := by decide +kernel
theorem d_Md_setOrder_36 : decode b_Md_setOrder 36 = .ok (.iload_n 2, 1) := by decide +kernel
theorem d_Md_setOrder_37 : decode b_Md_setOrder 37 = .ok (.iastore, 1) := by decide +kernel
theorem d_Md_setOrder_38 : decode b_Md_setOrder 38 = .ok (.iconst 1, 1) := by decide +kernel
theorem d_Md_setOrder_39 : decode b_Md_setOrder 39 = .ok (.ireturn, 1) := by decide +kernel
theorem d_Md_setWeight_0 : decode b_Md_setWeight 0 = .ok (.aload_n 0, 1) := by decide +kernel
theorem d_Md_setWeight_1 : decode b_Md_setWeight 1 = .ok (.iconst 0, 1) := by decide +kernel
theorem d_Md_setWeight_2 : decode b_Md_setWeight 2 = .ok (.putfield 65, 3) := by decide +kernel
theorem d_Md_setWeight_5 : decode b_Md_setWeight 5 = .ok (.iload_n 1, 1) := by decide +kernel
theorem d_Md_setWeight_6 : decode b_Md_setWeight 6 = .ok (.invokestatic 69, 3) := by decide +kernel
theorem d_Md_setWeight_9 : decode b_Md_setWeight 9 = .ok (.ifCond .eq 22, 3) := by decide +kernel
theorem d_Md_setWeight_12 : decode b_Md_setWeight 12 = .ok (.iload_n 2, 1) := by decide +kernel
theorem d_Md_setWeight_13 : decode b_Md_setWeight 13 = .ok (.invokestatic 69, 3) := by decide +kernel
theorem d_Md_setWeight_16 : decode b_Md_setWeight 16 = .ok (.ifCond .eq 15, 3) := by decide +kernel
theorem d_Md_setWeight_19 : decode b_Md_setWeight 19 = .ok (.iload_n 3, 1) := by decide +kernel
theorem d_Md_setWeight_20 : decode b_Md_setWeight 20 = .ok (.iconst 1, 1) := by decide +kernel
theorem d_Md_setWeight_21 : decode b_Md_setWeight 21 = .ok (.if_icmp .lt 10, 3) := by decide +kernel
theorem d_Md_setWeight_24 : decode b_Md_setWeight 24 = .ok (.iload_n 3, 1) := by decide +kernel
theorem d_Md_setWeight_25 : decode b_Md_setWeight 25 = .ok (.sipush 255, 3) := by decide +kernel
theorem d_Md_setWeight_28 : decode b_Md_setWeight 28 = .ok (.if_icmp .le 5, 3) := by decide +kernel
theorem d_Md_setWeight_31 : decode b_Md_setWeight 31 = .ok (.iconst 0, 1) := by decide +kernel
theorem d_Md_setWeight_32 : decode b_Md_setWeight 32 = .ok (.ireturn, 1) := by decide +kernel
theorem d_Md_setWeight_33 : decode b_Md_setWeight 33 = .ok (.aload_n 0, 1) := by decide +kernel
theorem d_Md_setWeight_34 : decode b_Md_setWeight 34 = .ok (.getfield 35, 3) := by decide +kernel
theorem d_Md_setWeight_37 : decode b_Md_setWeight 37 = .ok (.bipush 8, 2) := by decide +kernel
theorem d_Md_setWeight_39 : decode b_Md_setWeight 39 = .ok (.iload_n 1, 1) := by decide +kernel
theorem d_Md_setWeight_40 : decode b_Md_setWeight 40 = .ok (.imul, 1) := by decide +kernel
theorem d_Md_setWeight_41 : decode b_Md_setWeight 41 = .ok (.iload_n 2, 1) := by decide +kernel
theorem d_Md_setWeight_42 : decode b_Md_setWeight 42 = .ok (.iadd, 1) := by decide +kernel
theorem d_Md_setWeight_43 : decode b_Md_setWeight 43 = .ok (.iload_n 3, 1) := by decide +kernel
theorem d_Md_setWeight_44 : decode b_Md_setWeight 44 = .ok (.iastore, 1) := by decide +kernel
theorem d_Md_setWeight_45 : decode b_Md_setWeight 45 = .ok (.iconst 1, 1) := by decide +kernel
theorem d_Md_setWeight_46 : decode b_Md_setWeight 46 = .ok (.ireturn, 1) := by decide +kernel
theorem d_Md_offer_0 : decode b_Md_offer 0 = .ok (.aload_n 0, 1) := by decide +kernel
theorem d_Md_offer_1 : decode b_Md_offer 1 = .ok (.iconst 0, 1) := by decide +kernel
theorem d_Md_offer_2 : decode b_Md_offer 2 = .ok (.putfield 65, 3) := by decide +kernel
theorem d_Md_offer_5 : decode b_Md_offer 5 = .ok (.iload_n 1, 1) := by decide +kernel
theorem d_Md_offer_6 : decode b_Md_offer 6 = .ok (.invokestatic 69, 3) := by decide +kernel
theorem d_Md_offer_9 : decode b_Md_offer 9 = .ok (.ifCond .eq 37, 3) := by decide +kernel
theorem d_Md_offer_12 : decode b_Md_offer 12 = .ok (.iload_n 2, 1) := by decide +kernel
theorem d_Md_offer_13 : decode b_Md_offer 13 = .ok (.invokestatic 69, 3) := by decide +kernel
theorem d_Md_offer_16 : decode b_Md_offer 16 = .ok (.ifCond .eq 30, 3) := by decide +kernel
theorem d_Md_offer_19 : decode b_Md_offer 19 = .ok (.iload_n 3, 1) := by decide +kernel
theorem d_Md_offer_20 : decode b_Md_offer 20 = .ok (.invokestatic 69, 3) := by decide +kernel
theorem d_Md_offer_23 : decode b_Md_offer 23 = .ok (.ifCond .eq 23, 3) := by decide +kernel
theorem d_Md_offer_26 : decode b_Md_offer 26 = .ok (.aload_n 0, 1) := by decide +kernel
theorem d_Md_offer_27 : decode b_Md_offer 27 = .ok (.getfield 41, 3) := by decide +kernel
theorem d_Md_offer_30 : decode b_Md_offer 30 = .ok (.iload_n 1, 1) := by decide +kernel
theorem d_Md_offer_31 : decode b_Md_offer 31 = .ok (.iaload, 1) := by decide +kernel
theorem d_Md_offer_32 : decode b_Md_offer 32 = .ok (.iconst (-1), 1) := by decide +kernel
theorem d_Md_offer_33 : decode b_Md_offer 33 = .ok (.if_icmp .ne 13, 3) := by decide +kernel
theorem d_Md_offer_36 : decode b_Md_offer 36 = .ok (.aload_n 0, 1) := by decide +kernel
theorem d_Md_offer_37 : decode b_Md_offer 37 = .ok (.iload_n 1, 1) := by decide +kernel
theorem d_Md_offer_38 : decode b_Md_offer 38 = .ok (.invokevirtual 76, 3) := by decide +kernel
theorem d_Md_offer_41 : decode b_Md_offer 41 = .ok (.bipush 64, 2) := by decide +kernel
theorem d_Md_offer_43 : decode b_Md_offer 43 = .ok (.if_icmp .ne 5, 3) := by decide +kernel
theorem d_Md_offer_46 : decode b_Md_offer 46 = .ok (.iconst 0, 1) := by decide +kernel
theorem d_Md_offer_47 : decode b_Md_offer 47 = .ok (.ireturn, 1) := by decide +kernel
theorem d_Md_offer_48 : decode b_Md_offer 48 = .ok (.aload_n 0, 1) := by decide +kernel
theorem d_Md_offer_49 : decode b_Md_offer 49 = .ok (.getfield 41, 3) := by decide +kernel
theorem d_Md_offer_52 : decode b_Md_offer 52 = .ok (.iload_n 1, 1) := by decide +kernel
theorem d_Md_offer_53 : decode b_Md_offer 53 = .ok (.iload_n 2, 1) := by decide +kernel
theorem d_Md_offer_54 : decode b_Md_offer 54 = .ok (.iastore, 1) := by decide +kernel
theorem d_Md_offer_55 : decode b_Md_offer 55 = .ok (.aload_n 0, 1) := by decide +kernel
theorem d_Md_offer_56 : decode b_Md_offer 56 = .ok (.getfield 44, 3) := by decide +kernel
theorem d_Md_offer_59 : decode b_Md_offer 59 = .ok (.iload_n 1, 1) := by decide +kernel
theorem d_Md_offer_60 : decode b_Md_offer 60 = .ok (.iload_n 3, 1) := by decide +kernel
theorem d_Md_offer_61 : decode b_Md_offer 61 = .ok (.iastore, 1) := by decide +kernel
theorem d_Md_offer_62 : decode b_Md_offer 62 = .ok (.aload_n 0, 1) := by decide +kernel
theorem d_Md_offer_63 : decode b_Md_offer 63 = .ok (.getfield 47, 3) := by decide +kernel
theorem d_Md_offer_66 : decode b_Md_offer 66 = .ok (.iload_n 1, 1) := by decide +kernel
theorem d_Md_offer_67 : decode b_Md_offer 67 = .ok (.iload 4, 2) := by decide +kernel
theorem d_Md_offer_69 : decode b_Md_offer 69 = .ok (.iastore, 1) := by decide +kernel
theorem d_Md_offer_70 : decode b_Md_offer 70 = .ok (.aload_n 0, 1) := by decide +kernel
theorem d_Md_offer_71 : decode b_Md_offer 71 = .ok (.getfield 50, 3) := by decide +kernel
theorem d_Md_offer_74 : decode b_Md_offer 74 = .ok (.iload_n 1, 1) := by decide +kernel
theorem d_Md_offer_75 : decode b_Md_offer 75 = .ok (.aload_n 0, 1) := by decide +kernel
theorem d_Md_offer_76 : decode b_Md_offer 76 = .ok (.getfield 80, 3) := by decide +kernel
theorem d_Md_offer_79 : decode b_Md_offer 79 = .ok (.iastore, 1) := by decide +kernel
theorem d_Md_offer_80 : decode b_Md_offer 80 = .ok (.aload_n 0, 1) := by decide +kernel
theorem d_Md_offer_81 : decode b_Md_offer 81 = .ok (.dup, 1) := by decide +kernel
theorem d_Md_offer_82 : decode b_Md_offer 82 = .ok (.getfield 80, 3) := by decide +kernel
theorem d_Md_offer_85 : decode b_Md_offer 85 = .ok (.iconst 1, 1) := by decide +kernel
theorem d_Md_offer_86 : decode b_Md_offer 86 = .ok (.iadd, 1) := by decide +kernel
theorem d_Md_offer_87 : decode b_Md_offer 87 = .ok (.putfield 80, 3) := by decide +kernel
theorem d_Md_offer_90 : decode b_Md_offer 90 = .ok (.iconst 1, 1) := by decide +kernel
theorem d_Md_offer_91 : decode b_Md_offer 91 = .ok (.ireturn, 1) := by decide +kernel
abbrev rm_Md_setOrder : Room := { frames := 1, cells := 0, slots := 0, locals := 23 }
set_option maxHeartbeats 4000000 in
set_option maxRecDepth 100000 in
theorem cn_Md_setOrder (l : Launch) (D : va_G) (B : Nat) (M : hp_M) (b : Nat) (ad : Nat → Nat) (th of sl : Int32) (ct : Nat → Nat → Int32) (cl : Nat → Nat → Int64) (σ : sg_S) (x k : Int32) (hm : md_H D M b ad th of sl ct cl) (hR : mo_R σ (fun _ => sg_sl σ - 1) of sl ct cl) (hinv : sg_inv σ) (hac : sg_ac σ ≤ 512) (hsei : sg_sei σ) : Met l y_Md_setOrder (wd_c y_Md_setOrder b_Md_setOrder 3 (some .boolean)) rm_Md_setOrder (va_Pc [.ref b, .int x, .int k] (hp_C D B M)) (va_Qi (fun (r : Int32) (M1 : hp_M) => ∃ (τ : sg_S) (of' : Int32) (ct' : Nat → Nat → Int32), tr_setOrder σ x k r τ ∧ md_H D M1 b ad 0 of' sl ct' cl ∧ md_fr b ad M M1 ∧ mo_R τ (fun _ => sg_sl τ - 1) of' sl ct' cl) (hp_C D B) (hp_ub B)) 0 0 (hp_ub B) := by
  rcases sg_ok_or x k with hix | ⟨o, hk, rfl, hix, hbad⟩ | ⟨o, hk, rfl, hix, hgood⟩
  · refine hp_met (by decide) (Nat.le_of_ble_eq_true rfl) ?_
    intro p e s m args below meth cd ls Q hQ hx hb hr hts hown hlocks hnm hml hK hH hS hB hl
    replace hl : lv_has ls 3 [(0, .ref b), (1, .int x), (2, .int k)] := hl
    have hf : md_fr b ad M M := md_fr_rf
    refine lv_aload_n hx hb d_Md_setOrder_0 rfl (lv_at hl 0 rfl) ?_
    refine lv_iconst (v := 0) hx hb d_Md_setOrder_1 (by decide) ?_
    refine hp_put hx hb hts iw_Md t_Md t_Md_ok n_Md hown hK hH hS hB hm.1 rfl 0 (by decide) (hts _ kw_134) rfl  (v := .int 0) rfl rfl (Nat.le_of_ble_eq_true rfl) (fs' := [.int 0, .ref (ad 0), .ref (ad 1), .ref (ad 2), .ref (ad 3), .ref (ad 4), .ref (ad 5), .ref (ad 6), .ref (ad 7), .ref (ad 8), .ref (ad 9), .ref (ad 10), .ref (ad 11), .ref (ad 12), .ref (ad 13), .int of, .int sl, .ref (ad 14), .ref (ad 15), .ref (ad 16)]) rfl d_Md_setOrder_2 (fun M_1 H locs eM_1 hH hS => ?_)
    have hm := md_pb hm (th' := 0) (of' := of) (sl' := sl) eM_1
    have hf := md_fr_b hf eM_1
    refine lv_iload_n hx hb d_Md_setOrder_5 rfl (lv_at hl 1 rfl) ?_
    refine hp_calli (hp_runS (As := [.int x]) (rest := []) hx hb hml hown (cn_Md_isOne l D B M_1 x) (hp_cwS 1 hts kw_136 kw_139 kw_137 kw_138 rfl rfl (by decide +kernel) ⟨(Nat.le_of_ble_eq_true rfl), (Nat.le_of_ble_eq_true rfl)⟩) hK hH rfl hl.1 rfl (Nat.le_of_ble_eq_true rfl) d_Md_setOrder_6 ⟨(Nat.le_of_ble_eq_true rfl), (Nat.le_of_ble_eq_true rfl)⟩) hS (fun r_2 M_3 H locs w_4 hH hS => ?_)
    obtain ⟨eM, eR⟩ := w_4
    rw [eM] at hH
    rw [eR]
    refine lv_if_eq (tgt := 29) hx hb d_Md_setOrder_9 (by decide) (fun c_5 => ?_) (fun c_5 => absurd (sg_port_none hix) c_5)
    refine lv_iconst (v := 0) hx hb d_Md_setOrder_29 (by decide) ?_
    exact hp_zret hx hb hr hlocks hQ hK hH hS (Nat.le_of_ble_eq_true rfl) (Nat.le_of_ble_eq_true rfl) rfl d_Md_setOrder_30 ⟨σ, of, ct, Or.inr ⟨(fun o h => by rw [hix] at h; cases h), rfl, rfl⟩, hm, hf, hR⟩
  · refine hp_met (by decide) (Nat.le_of_ble_eq_true rfl) ?_
    intro p e s m args below meth cd ls Q hQ hx hb hr hts hown hlocks hnm hml hK hH hS hB hl
    replace hl : lv_has ls 3 [(0, .ref b), (1, .int (nI o)), (2, .int k)] := hl
    have hf : md_fr b ad M M := md_fr_rf
    refine lv_aload_n hx hb d_Md_setOrder_0 rfl (lv_at hl 0 rfl) ?_
    refine lv_iconst (v := 0) hx hb d_Md_setOrder_1 (by decide) ?_
    refine hp_put hx hb hts iw_Md t_Md t_Md_ok n_Md hown hK hH hS hB hm.1 rfl 0 (by decide) (hts _ kw_134) rfl  (v := .int 0) rfl rfl (Nat.le_of_ble_eq_true rfl) (fs' := [.int 0, .ref (ad 0), .ref (ad 1), .ref (ad 2), .ref (ad 3), .ref (ad 4), .ref (ad 5), .ref (ad 6), .ref (ad 7), .ref (ad 8), .ref (ad 9), .ref (ad 10), .ref (ad 11), .ref (ad 12), .ref (ad 13), .int of, .int sl, .ref (ad 14), .ref (ad 15), .ref (ad 16)]) rfl d_Md_setOrder_2 (fun M_1 H locs eM_1 hH hS => ?_)
    have hm := md_pb hm (th' := 0) (of' := of) (sl' := sl) eM_1
    have hf := md_fr_b hf eM_1
    refine lv_iload_n hx hb d_Md_setOrder_5 rfl (lv_at hl 1 rfl) ?_
    refine hp_calli (hp_runS (As := [.int (nI o)]) (rest := []) hx hb hml hown (cn_Md_isOne l D B M_1 (nI o)) (hp_cwS 1 hts kw_136 kw_139 kw_137 kw_138 rfl rfl (by decide +kernel) ⟨(Nat.le_of_ble_eq_true rfl), (Nat.le_of_ble_eq_true rfl)⟩) hK hH rfl hl.1 rfl (Nat.le_of_ble_eq_true rfl) d_Md_setOrder_6 ⟨(Nat.le_of_ble_eq_true rfl), (Nat.le_of_ble_eq_true rfl)⟩) hS (fun r_2 M_3 H locs w_4 hH hS => ?_)
    obtain ⟨eM, eR⟩ := w_4
    rw [eM] at hH
    rw [eR]
    refine lv_if_eq (tgt := 29) hx hb d_Md_setOrder_9 (by decide) (fun c_5 => absurd c_5 (by rw [sg_port_some hix]; decide)) (fun c_5 => ?_)
    refine lv_iload_n hx hb d_Md_setOrder_12 rfl (lv_at hl 2 rfl) ?_
    refine lv_if_lt (tgt := 29) hx hb d_Md_setOrder_13 (by decide) (fun c_6 => ?_) (fun c_6 => ?_)
    · refine lv_iconst (v := 0) hx hb d_Md_setOrder_29 (by decide) ?_
      exact hp_zret hx hb hr hlocks hQ hK hH hS (Nat.le_of_ble_eq_true rfl) (Nat.le_of_ble_eq_true rfl) rfl d_Md_setOrder_30 ⟨σ, of, ct, Or.inr ⟨(fun o h t => hbad ⟨t.1, t.2.1⟩), rfl, rfl⟩, hm, hf, hR⟩
    · refine lv_iload_n hx hb d_Md_setOrder_16 rfl (lv_at hl 2 rfl) ?_
      refine lv_iconst (v := 2) hx hb d_Md_setOrder_17 (by decide) ?_
      refine lv_icmp_gt (tgt := 29) hx hb d_Md_setOrder_18 (by decide) (fun c_7 => ?_) (fun c_7 => ?_)
      · refine lv_iconst (v := 0) hx hb d_Md_setOrder_29 (by decide) ?_
        exact hp_zret hx hb hr hlocks hQ hK hH hS (Nat.le_of_ble_eq_true rfl) (Nat.le_of_ble_eq_true rfl) rfl d_Md_setOrder_30 ⟨σ, of, ct, Or.inr ⟨(fun o h t => hbad ⟨t.1, t.2.1⟩), rfl, rfl⟩, hm, hf, hR⟩
      · exact absurd ⟨Int32.not_lt.mp c_6, Int32.not_lt.mp c_7⟩ hbad
  · refine hp_met (by decide) (Nat.le_of_ble_eq_true rfl) ?_
    intro p e s m args below meth cd ls Q hQ hx hb hr hts hown hlocks hnm hml hK hH hS hB hl
    replace hl : lv_has ls 3 [(0, .ref b), (1, .int (nI o)), (2, .int k)] := hl
    have hf : md_fr b ad M M := md_fr_rf
    refine lv_aload_n hx hb d_Md_setOrder_0 rfl (lv_at hl 0 rfl) ?_
    refine lv_iconst (v := 0) hx hb d_Md_setOrder_1 (by decide) ?_
    refine hp_put hx hb hts iw_Md t_Md t_Md_ok n_Md hown hK hH hS hB hm.1 rfl 0 (by decide) (hts _ kw_134) rfl  (v := .int 0) rfl rfl (Nat.le_of_ble_eq_true rfl) (fs' := [.int 0, .ref (ad 0), .ref (ad 1), .ref (ad 2), .ref (ad 3), .ref (ad 4), .ref (ad 5), .ref (ad 6), .ref (ad 7), .ref (ad 8), .ref (ad 9), .ref (ad 10), .ref (ad 11), .ref (ad 12), .ref (ad 13), .int of, .int sl, .ref (ad 14), .ref (ad 15), .ref (ad 16)]) rfl d_Md_setOrder_2 (fun M_1 H locs eM_1 hH hS => ?_)
    have hm := md_pb hm (th' := 0) (of' := of) (sl' := sl) eM_1
    have hf := md_fr_b hf eM_1
    refine lv_iload_n hx hb d_Md_setOrder_5 rfl (lv_at hl 1 rfl) ?_
    refine hp_calli (hp_runS (As := [.int (nI o)]) (rest := []) hx hb hml hown (cn_Md_isOne l D B M_1 (nI o)) (hp_cwS 1 hts kw_136 kw_139 kw_137 kw_138 rfl rfl (by decide +kernel) ⟨(Nat.le_of_ble_eq_true rfl), (Nat.le_of_ble_eq_true rfl)⟩) hK hH rfl hl.1 rfl (Nat.le_of_ble_eq_true rfl) d_Md_setOrder_6 ⟨(Nat.le_of_ble_eq_true rfl), (Nat.le_of_ble_eq_true rfl)⟩) hS (fun r_2 M_3 H locs w_4 hH hS => ?_)
    obtain ⟨eM, eR⟩ := w_4
    rw [eM] at hH
    rw [eR]
    refine lv_if_eq (tgt := 29) hx hb d_Md_setOrder_9 (by decide) (fun c_5 => absurd c_5 (by rw [sg_port_some hix]; decide)) (fun c_5 => ?_)
    refine lv_iload_n hx hb d_Md_setOrder_12 rfl (lv_at hl 2 rfl) ?_
    refine lv_if_lt (tgt := 29) hx hb d_Md_setOrder_13 (by decide) (fun c_6 => absurd c_6 (Int32.not_lt.mpr hgood.1)) (fun c_6 => ?_)
    refine lv_iload_n hx hb d_Md_setOrder_16 rfl (lv_at hl 2 rfl) ?_
    refine lv_iconst (v := 2) hx hb d_Md_setOrder_17 (by decide) ?_
    refine lv_icmp_gt (tgt := 29) hx hb d_Md_setOrder_18 (by decide) (fun c_7 => absurd c_7 (Int32.not_lt.mpr hgood.2)) (fun c_7 => ?_)
    refine lv_aload_n hx hb d_Md_setOrder_21 rfl (lv_at hl 0 rfl) ?_
    refine lv_iload_n hx hb d_Md_setOrder_22 rfl (lv_at hl 1 rfl) ?_
    refine hp_calli (hp_runV (b := b) (As := [.int (nI o)]) (rest := []) hx hb hml hown (cn_Md_isWanted l D B M_1 b ad 0 of sl ct cl σ o hm hR hinv hac hsei hk) (hp_cwV 1 hts kw_160 kw_162 kw_163 kw_137 kw_161 rfl rfl (by decide +kernel) ⟨(Nat.le_of_ble_eq_true rfl), (Nat.le_of_ble_eq_true rfl)⟩) hK hH hm.1 rfl rfl hl.1 rfl (Nat.le_of_ble_eq_true rfl) d_Md_setOrder_23 ⟨(Nat.le_of_ble_eq_true rfl), (Nat.le_of_ble_eq_true rfl)⟩) hS (fun r_8 M_9 H locs w_10 hH hS => ?_)
    rcases w_10 with ⟨eM, ⟨eR, hw2⟩ | ⟨eR, hq0, hof⟩⟩
    · rw [eM] at hH
      rw [eR]
      refine lv_if_eq (tgt := 31) hx hb d_Md_setOrder_26 (by decide) (fun c_11 => absurd c_11 (by decide)) (fun c_11 => ?_)
      refine lv_iconst (v := 0) hx hb d_Md_setOrder_29 (by decide) ?_
      exact hp_zret hx hb hr hlocks hQ hK hH hS (Nat.le_of_ble_eq_true rfl) (Nat.le_of_ble_eq_true rfl) rfl d_Md_setOrder_30 ⟨σ, of, ct, Or.inr ⟨(fun o' h t => by rw [hix] at h; cases h; rcases hw2 with q | q; exact q t.2.2.1; exact t.2.2.2 q), rfl, rfl⟩, hm, hf, hR⟩
    · rw [eM] at hH
      rw [eR]
      refine lv_if_eq (tgt := 31) hx hb d_Md_setOrder_26 (by decide) (fun c_12 => ?_) (fun c_12 => absurd rfl c_12)
      refine lv_aload_n hx hb d_Md_setOrder_31 rfl (lv_at hl 0 rfl) ?_
      refine hp_get hx hb hts iw_Md hown hK hH hm.1 rfl 8 (by decide) (hts _ kw_164) (v := .ref (ad 7)) rfl d_Md_setOrder_32 ?_
      refine lv_iload_n hx hb d_Md_setOrder_35 rfl (lv_at hl 1 rfl) ?_
      refine lv_iload_n hx hb d_Md_setOrder_36 rfl (lv_at hl 2 rfl) ?_
      refine hp_iast hx hb hK hH hS hB (show M_1 (ad 7) = some (hp_ai D 8 (ct 7)) from hm.2.1 7 (by decide) (by decide) (by decide)) o rfl hk (by decide) d_Md_setOrder_37 (fun M_13 H locs eM_13 hH hS => ?_)
      have hm := md_pi hm (j := 7) (by decide) (by decide) (by decide) eM_13
      have hf := md_fr_a (j := 7) (by decide) hf eM_13
      refine lv_iconst (v := 1) hx hb d_Md_setOrder_38 (by decide) ?_
      exact hp_zret hx hb hr hlocks hQ hK hH hS (Nat.le_of_ble_eq_true rfl) (Nat.le_of_ble_eq_true rfl) rfl d_Md_setOrder_39 ⟨_, of, _, Or.inl ⟨o, hix, ⟨hgood.1, hgood.2, hq0, hof⟩, rfl, rfl⟩, hm, hf, mo_setO hR⟩
abbrev rm_Md_setWeight : Room := { frames := 1, cells := 0, slots := 0, locals := 20 }
set_option maxHeartbeats 4000000 in
set_option maxRecDepth 100000 in
theorem cn_Md_setWeight (l : Launch) (D : va_G) (B : Nat) (M : hp_M) (b : Nat) (ad : Nat → Nat) (th of sl : Int32) (ct : Nat → Nat → Int32) (cl : Nat → Nat → Int64) (σ : sg_S) (x y w : Int32) (hm : md_H D M b ad th of sl ct cl) (hR : mo_R σ (fun _ => sg_sl σ - 1) of sl ct cl) (hinv : sg_inv σ) (hac : sg_ac σ ≤ 512) (hsei : sg_sei σ) : Met l y_Md_setWeight (wd_c y_Md_setWeight b_Md_setWeight 4 (some .boolean)) rm_Md_setWeight (va_Pc [.ref b, .int x, .int y, .int w] (hp_C D B M)) (va_Qi (fun (r : Int32) (M1 : hp_M) => ∃ (τ : sg_S) (of' : Int32) (ct' : Nat → Nat → Int32), tr_setWeight σ x y w r τ ∧ md_H D M1 b ad 0 of' sl ct' cl ∧ md_fr b ad M M1 ∧ mo_R τ (fun _ => sg_sl τ - 1) of' sl ct' cl) (hp_C D B) (hp_ub B)) 0 0 (hp_ub B) := by
  rcases sg_w_or x y w with hix | ⟨o, hk, rfl, hix, hiy⟩ | ⟨o, g, hk, rfl, hix, hg, rfl, hiy, hbad⟩ | ⟨o, g, hk, rfl, hix, hg, rfl, hiy, hgood⟩
  · refine hp_met (by decide) (Nat.le_of_ble_eq_true rfl) ?_
    intro p e s m args below meth cd ls Q hQ hx hb hr hts hown hlocks hnm hml hK hH hS hB hl
    replace hl : lv_has ls 4 [(0, .ref b), (1, .int x), (2, .int y), (3, .int w)] := hl
    have hf : md_fr b ad M M := md_fr_rf
    refine lv_aload_n hx hb d_Md_setWeight_0 rfl (lv_at hl 0 rfl) ?_
    refine lv_iconst (v := 0) hx hb d_Md_setWeight_1 (by decide) ?_
    refine hp_put hx hb hts iw_Md t_Md t_Md_ok n_Md hown hK hH hS hB hm.1 rfl 0 (by decide) (hts _ kw_134) rfl  (v := .int 0) rfl rfl (Nat.le_of_ble_eq_true rfl) (fs' := [.int 0, .ref (ad 0), .ref (ad 1), .ref (ad 2), .ref (ad 3), .ref (ad 4), .ref (ad 5), .ref (ad 6), .ref (ad 7), .ref (ad 8), .ref (ad 9), .ref (ad 10), .ref (ad 11), .ref (ad 12), .ref (ad 13), .int of, .int sl, .ref (ad 14), .ref (ad 15), .ref (ad 16)]) rfl d_Md_setWeight_2 (fun M_1 H locs eM_1 hH hS => ?_)
    have hm := md_pb hm (th' := 0) (of' := of) (sl' := sl) eM_1
    have hf := md_fr_b hf eM_1
    refine lv_iload_n hx hb d_Md_setWeight_5 rfl (lv_at hl 1 rfl) ?_
    refine hp_calli (hp_runS (As := [.int x]) (rest := []) hx hb hml hown (cn_Md_isOne l D B M_1 x) (hp_cwS 1 hts kw_136 kw_139 kw_137 kw_138 rfl rfl (by decide +kernel) ⟨(Nat.le_of_ble_eq_true rfl), (Nat.le_of_ble_eq_true rfl)⟩) hK hH rfl hl.1 rfl (Nat.le_of_ble_eq_true rfl) d_Md_setWeight_6 ⟨(Nat.le_of_ble_eq_true rfl), (Nat.le_of_ble_eq_true rfl)⟩) hS (fun r_2 M_3 H locs w_4 hH hS => ?_)
    obtain ⟨eM, eR⟩ := w_4
    rw [eM] at hH
    rw [eR]
    refine lv_if_eq (tgt := 31) hx hb d_Md_setWeight_9 (by decide) (fun c_5 => ?_) (fun c_5 => absurd (sg_port_none hix) c_5)
    refine lv_iconst (v := 0) hx hb d_Md_setWeight_31 (by decide) ?_
    exact hp_zret hx hb hr hlocks hQ hK hH hS (Nat.le_of_ble_eq_true rfl) (Nat.le_of_ble_eq_true rfl) rfl d_Md_setWeight_32 ⟨σ, of, ct, Or.inr ⟨(Or.inl hix), rfl, rfl⟩, hm, hf, hR⟩
  · refine hp_met (by decide) (Nat.le_of_ble_eq_true rfl) ?_
    intro p e s m args below meth cd ls Q hQ hx hb hr hts hown hlocks hnm hml hK hH hS hB hl
    replace hl : lv_has ls 4 [(0, .ref b), (1, .int (nI o)), (2, .int y), (3, .int w)] := hl
    have hf : md_fr b ad M M := md_fr_rf
    refine lv_aload_n hx hb d_Md_setWeight_0 rfl (lv_at hl 0 rfl) ?_
    refine lv_iconst (v := 0) hx hb d_Md_setWeight_1 (by decide) ?_
    refine hp_put hx hb hts iw_Md t_Md t_Md_ok n_Md hown hK hH hS hB hm.1 rfl 0 (by decide) (hts _ kw_134) rfl  (v := .int 0) rfl rfl (Nat.le_of_ble_eq_true rfl) (fs' := [.int 0, .ref (ad 0), .ref (ad 1), .ref (ad 2), .ref (ad 3), .ref (ad 4), .ref (ad 5), .ref (ad 6), .ref (ad 7), .ref (ad 8), .ref (ad 9), .ref (ad 10), .ref (ad 11), .ref (ad 12), .ref (ad 13), .int of, .int sl, .ref (ad 14), .ref (ad 15), .ref (ad 16)]) rfl d_Md_setWeight_2 (fun M_1 H locs eM_1 hH hS => ?_)
    have hm := md_pb hm (th' := 0) (of' := of) (sl' := sl) eM_1
    have hf := md_fr_b hf eM_1
    refine lv_iload_n hx hb d_Md_setWeight_5 rfl (lv_at hl 1 rfl) ?_
    refine hp_calli (hp_runS (As := [.int (nI o)]) (rest := []) hx hb hml hown (cn_Md_isOne l D B M_1 (nI o)) (hp_cwS 1 hts kw_136 kw_139 kw_137 kw_138 rfl rfl (by decide +kernel) ⟨(Nat.le_of_ble_eq_true rfl), (Nat.le_of_ble_eq_true rfl)⟩) hK hH rfl hl.1 rfl (Nat.le_of_ble_eq_true rfl) d_Md_setWeight_6 ⟨(Nat.le_of_ble_eq_true rfl), (Nat.le_of_ble_eq_true rfl)⟩) hS (fun r_2 M_3 H locs w_4 hH hS => ?_)
    obtain ⟨eM, eR⟩ := w_4
    rw [eM] at hH
    rw [eR]
    refine lv_if_eq (tgt := 31) hx hb d_Md_setWeight_9 (by decide) (fun c_5 => absurd c_5 (by rw [sg_port_some hix]; decide)) (fun c_5 => ?_)
    refine lv_iload_n hx hb d_Md_setWeight_12 rfl (lv_at hl 2 rfl) ?_
    refine hp_calli (hp_runS (As := [.int y]) (rest := []) hx hb hml hown (cn_Md_isOne l D B M_1 y) (hp_cwS 1 hts kw_136 kw_139 kw_137 kw_138 rfl rfl (by decide +kernel) ⟨(Nat.le_of_ble_eq_true rfl), (Nat.le_of_ble_eq_true rfl)⟩) hK hH rfl hl.1 rfl (Nat.le_of_ble_eq_true rfl) d_Md_setWeight_13 ⟨(Nat.le_of_ble_eq_true rfl), (Nat.le_of_ble_eq_true rfl)⟩) hS (fun r_6 M_7 H locs w_8 hH hS => ?_)
    obtain ⟨eM, eR⟩ := w_8
    rw [eM] at hH
    rw [eR]
    refine lv_if_eq (tgt := 31) hx hb d_Md_setWeight_16 (by decide) (fun c_9 => ?_) (fun c_9 => absurd (sg_port_none hiy) c_9)
    refine lv_iconst (v := 0) hx hb d_Md_setWeight_31 (by decide) ?_
    exact hp_zret hx hb hr hlocks hQ hK hH hS (Nat.le_of_ble_eq_true rfl) (Nat.le_of_ble_eq_true rfl) rfl d_Md_setWeight_32 ⟨σ, of, ct, Or.inr ⟨(Or.inr (Or.inl hiy)), rfl, rfl⟩, hm, hf, hR⟩
  · refine hp_met (by decide) (Nat.le_of_ble_eq_true rfl) ?_
    intro p e s m args below meth cd ls Q hQ hx hb hr hts hown hlocks hnm hml hK hH hS hB hl
    replace hl : lv_has ls 4 [(0, .ref b), (1, .int (nI o)), (2, .int (nI g)), (3, .int w)] := hl
    have hf : md_fr b ad M M := md_fr_rf
    refine lv_aload_n hx hb d_Md_setWeight_0 rfl (lv_at hl 0 rfl) ?_
    refine lv_iconst (v := 0) hx hb d_Md_setWeight_1 (by decide) ?_
    refine hp_put hx hb hts iw_Md t_Md t_Md_ok n_Md hown hK hH hS hB hm.1 rfl 0 (by decide) (hts _ kw_134) rfl  (v := .int 0) rfl rfl (Nat.le_of_ble_eq_true rfl) (fs' := [.int 0, .ref (ad 0), .ref (ad 1), .ref (ad 2), .ref (ad 3), .ref (ad 4), .ref (ad 5), .ref (ad 6), .ref (ad 7), .ref (ad 8), .ref (ad 9), .ref (ad 10), .ref (ad 11), .ref (ad 12), .ref (ad 13), .int of, .int sl, .ref (ad 14), .ref (ad 15), .ref (ad 16)]) rfl d_Md_setWeight_2 (fun M_1 H locs eM_1 hH hS => ?_)
    have hm := md_pb hm (th' := 0) (of' := of) (sl' := sl) eM_1
    have hf := md_fr_b hf eM_1
    refine lv_iload_n hx hb d_Md_setWeight_5 rfl (lv_at hl 1 rfl) ?_
    refine hp_calli (hp_runS (As := [.int (nI o)]) (rest := []) hx hb hml hown (cn_Md_isOne l D B M_1 (nI o)) (hp_cwS 1 hts kw_136 kw_139 kw_137 kw_138 rfl rfl (by decide +kernel) ⟨(Nat.le_of_ble_eq_true rfl), (Nat.le_of_ble_eq_true rfl)⟩) hK hH rfl hl.1 rfl (Nat.le_of_ble_eq_true rfl) d_Md_setWeight_6 ⟨(Nat.le_of_ble_eq_true rfl), (Nat.le_of_ble_eq_true rfl)⟩) hS (fun r_2 M_3 H locs w_4 hH hS => ?_)
    obtain ⟨eM, eR⟩ := w_4
    rw [eM] at hH
    rw [eR]
    refine lv_if_eq (tgt := 31) hx hb d_Md_setWeight_9 (by decide) (fun c_5 => absurd c_5 (by rw [sg_port_some hix]; decide)) (fun c_5 => ?_)
    refine lv_iload_n hx hb d_Md_setWeight_12 rfl (lv_at hl 2 rfl) ?_
    refine hp_calli (hp_runS (As := [.int (nI g)]) (rest := []) hx hb hml hown (cn_Md_isOne l D B M_1 (nI g)) (hp_cwS 1 hts kw_136 kw_139 kw_137 kw_138 rfl rfl (by decide +kernel) ⟨(Nat.le_of_ble_eq_true rfl), (Nat.le_of_ble_eq_true rfl)⟩) hK hH rfl hl.1 rfl (Nat.le_of_ble_eq_true rfl) d_Md_setWeight_13 ⟨(Nat.le_of_ble_eq_true rfl), (Nat.le_of_ble_eq_true rfl)⟩) hS (fun r_6 M_7 H locs w_8 hH hS => ?_)
    obtain ⟨eM, eR⟩ := w_8
    rw [eM] at hH
    rw [eR]
    refine lv_if_eq (tgt := 31) hx hb d_Md_setWeight_16 (by decide) (fun c_9 => absurd c_9 (by rw [sg_port_some hiy]; decide)) (fun c_9 => ?_)
    refine lv_iload_n hx hb d_Md_setWeight_19 rfl (lv_at hl 3 rfl) ?_
    refine lv_iconst (v := 1) hx hb d_Md_setWeight_20 (by decide) ?_
    refine lv_icmp_lt (tgt := 31) hx hb d_Md_setWeight_21 (by decide) (fun c_10 => ?_) (fun c_10 => ?_)
    · refine lv_iconst (v := 0) hx hb d_Md_setWeight_31 (by decide) ?_
      exact hp_zret hx hb hr hlocks hQ hK hH hS (Nat.le_of_ble_eq_true rfl) (Nat.le_of_ble_eq_true rfl) rfl d_Md_setWeight_32 ⟨σ, of, ct, Or.inr ⟨(Or.inr (Or.inr hbad)), rfl, rfl⟩, hm, hf, hR⟩
    · refine lv_iload_n hx hb d_Md_setWeight_24 rfl (lv_at hl 3 rfl) ?_
      refine lv_sipush (v := 255) hx hb d_Md_setWeight_25 (by decide) ?_
      refine lv_icmp_le (tgt := 33) hx hb d_Md_setWeight_28 (by decide) (fun c_11 => ?_) (fun c_11 => ?_)
      · exact absurd ⟨Int32.not_lt.mp c_10, c_11⟩ hbad
      · refine lv_iconst (v := 0) hx hb d_Md_setWeight_31 (by decide) ?_
        exact hp_zret hx hb hr hlocks hQ hK hH hS (Nat.le_of_ble_eq_true rfl) (Nat.le_of_ble_eq_true rfl) rfl d_Md_setWeight_32 ⟨σ, of, ct, Or.inr ⟨(Or.inr (Or.inr hbad)), rfl, rfl⟩, hm, hf, hR⟩
  · refine hp_met (by decide) (Nat.le_of_ble_eq_true rfl) ?_
    intro p e s m args below meth cd ls Q hQ hx hb hr hts hown hlocks hnm hml hK hH hS hB hl
    replace hl : lv_has ls 4 [(0, .ref b), (1, .int (nI o)), (2, .int (nI g)), (3, .int w)] := hl
    have hf : md_fr b ad M M := md_fr_rf
    refine lv_aload_n hx hb d_Md_setWeight_0 rfl (lv_at hl 0 rfl) ?_
    refine lv_iconst (v := 0) hx hb d_Md_setWeight_1 (by decide) ?_
    refine hp_put hx hb hts iw_Md t_Md t_Md_ok n_Md hown hK hH hS hB hm.1 rfl 0 (by decide) (hts _ kw_134) rfl  (v := .int 0) rfl rfl (Nat.le_of_ble_eq_true rfl) (fs' := [.int 0, .ref (ad 0), .ref (ad 1), .ref (ad 2), .ref (ad 3), .ref (ad 4), .ref (ad 5), .ref (ad 6), .ref (ad 7), .ref (ad 8), .ref (ad 9), .ref (ad 10), .ref (ad 11), .ref (ad 12), .ref (ad 13), .int of, .int sl, .ref (ad 14), .ref (ad 15), .ref (ad 16)]) rfl d_Md_setWeight_2 (fun M_1 H locs eM_1 hH hS => ?_)
    have hm := md_pb hm (th' := 0) (of' := of) (sl' := sl) eM_1
    have hf := md_fr_b hf eM_1
    refine lv_iload_n hx hb d_Md_setWeight_5 rfl (lv_at hl 1 rfl) ?_
    refine hp_calli (hp_runS (As := [.int (nI o)]) (rest := []) hx hb hml hown (cn_Md_isOne l D B M_1 (nI o)) (hp_cwS 1 hts kw_136 kw_139 kw_137 kw_138 rfl rfl (by decide +kernel) ⟨(Nat.le_of_ble_eq_true rfl), (Nat.le_of_ble_eq_true rfl)⟩) hK hH rfl hl.1 rfl (Nat.le_of_ble_eq_true rfl) d_Md_setWeight_6 ⟨(Nat.le_of_ble_eq_true rfl), (Nat.le_of_ble_eq_true rfl)⟩) hS (fun r_2 M_3 H locs w_4 hH hS => ?_)
    obtain ⟨eM, eR⟩ := w_4
    rw [eM] at hH
    rw [eR]
    refine lv_if_eq (tgt := 31) hx hb d_Md_setWeight_9 (by decide) (fun c_5 => absurd c_5 (by rw [sg_port_some hix]; decide)) (fun c_5 => ?_)
    refine lv_iload_n hx hb d_Md_setWeight_12 rfl (lv_at hl 2 rfl) ?_
    refine hp_calli (hp_runS (As := [.int (nI g)]) (rest := []) hx hb hml hown (cn_Md_isOne l D B M_1 (nI g)) (hp_cwS 1 hts kw_136 kw_139 kw_137 kw_138 rfl rfl (by decide +kernel) ⟨(Nat.le_of_ble_eq_true rfl), (Nat.le_of_ble_eq_true rfl)⟩) hK hH rfl hl.1 rfl (Nat.le_of_ble_eq_true rfl) d_Md_setWeight_13 ⟨(Nat.le_of_ble_eq_true rfl), (Nat.le_of_ble_eq_true rfl)⟩) hS (fun r_6 M_7 H locs w_8 hH hS => ?_)
    obtain ⟨eM, eR⟩ := w_8
    rw [eM] at hH
    rw [eR]
    refine lv_if_eq (tgt := 31) hx hb d_Md_setWeight_16 (by decide) (fun c_9 => absurd c_9 (by rw [sg_port_some hiy]; decide)) (fun c_9 => ?_)
    refine lv_iload_n hx hb d_Md_setWeight_19 rfl (lv_at hl 3 rfl) ?_
    refine lv_iconst (v := 1) hx hb d_Md_setWeight_20 (by decide) ?_
    refine lv_icmp_lt (tgt := 31) hx hb d_Md_setWeight_21 (by decide) (fun c_10 => absurd c_10 (Int32.not_lt.mpr hgood.1)) (fun c_10 => ?_)
    refine lv_iload_n hx hb d_Md_setWeight_24 rfl (lv_at hl 3 rfl) ?_
    refine lv_sipush (v := 255) hx hb d_Md_setWeight_25 (by decide) ?_
    refine lv_icmp_le (tgt := 33) hx hb d_Md_setWeight_28 (by decide) (fun c_11 => ?_) (fun c_11 => absurd hgood.2 c_11)
    refine lv_aload_n hx hb d_Md_setWeight_33 rfl (lv_at hl 0 rfl) ?_
    refine hp_get hx hb hts iw_Md hown hK hH hm.1 rfl 9 (by decide) (hts _ kw_165) (v := .ref (ad 8)) rfl d_Md_setWeight_34 ?_
    refine lv_bipush (v := 8) hx hb d_Md_setWeight_37 (by decide) ?_
    refine lv_iload_n hx hb d_Md_setWeight_39 rfl (lv_at hl 1 rfl) ?_
    refine lv_imul hx hb d_Md_setWeight_40 ?_
    refine lv_iload_n hx hb d_Md_setWeight_41 rfl (lv_at hl 2 rfl) ?_
    refine lv_iadd hx hb d_Md_setWeight_42 ?_
    refine lv_iload_n hx hb d_Md_setWeight_43 rfl (lv_at hl 3 rfl) ?_
    refine hp_iast hx hb hK hH hS hB (show M_1 (ad 8) = some (hp_ai D 64 (ct 8)) from hm.2.1 8 (by decide) (by decide) (by decide)) (8 * o + g) (md_ix8 o g) (by omega) (by decide) d_Md_setWeight_44 (fun M_12 H locs eM_12 hH hS => ?_)
    have hm := md_pi hm (j := 8) (by decide) (by decide) (by decide) eM_12
    have hf := md_fr_a (j := 8) (by decide) hf eM_12
    refine lv_iconst (v := 1) hx hb d_Md_setWeight_45 (by decide) ?_
    exact hp_zret hx hb hr hlocks hQ hK hH hS (Nat.le_of_ble_eq_true rfl) (Nat.le_of_ble_eq_true rfl) rfl d_Md_setWeight_46 ⟨_, of, _, Or.inl ⟨o, g, hix, hiy, hgood, rfl, rfl⟩, hm, hf, mo_setW hR hg⟩
abbrev rm_Md_offer : Room := { frames := 1, cells := 0, slots := 0, locals := 24 }
set_option maxHeartbeats 4000000 in
set_option maxRecDepth 100000 in
theorem cn_Md_offer (l : Launch) (D : va_G) (B : Nat) (M : hp_M) (b : Nat) (ad : Nat → Nat) (th of sl : Int32) (ct : Nat → Nat → Int32) (cl : Nat → Nat → Int64) (σ : sg_S) (x y z t : Int32) (hm : md_H D M b ad th of sl ct cl) (hR : mo_R σ (fun _ => sg_sl σ - 1) of sl ct cl) (hinv : sg_inv σ) (hac : sg_ac σ ≤ 512) (hsei : sg_sei σ) : Met l y_Md_offer (wd_c y_Md_offer b_Md_offer 5 (some .boolean)) rm_Md_offer (va_Pc [.ref b, .int x, .int y, .int z, .int t] (hp_C D B M)) (va_Qi (fun (r : Int32) (M1 : hp_M) => ∃ (τ : sg_S) (of' : Int32) (ct' : Nat → Nat → Int32), tr_offer σ x y z t r τ ∧ md_H D M1 b ad 0 of' sl ct' cl ∧ md_fr b ad M M1 ∧ mo_R τ (fun _ => sg_sl τ - 1) of' sl ct' cl) (hp_C D B) (hp_ub B)) 0 0 (hp_ub B) := by
  rcases sg_o_or x y z with hix | ⟨i, hi8, rfl, hix, hiy⟩ | ⟨i, o, hi8, rfl, hix, ho8, rfl, hiy, hiz⟩ | ⟨i, o, k, hi8, rfl, hix, ho8, rfl, hiy, hk8, rfl, hiz⟩
  · refine hp_met (by decide) (Nat.le_of_ble_eq_true rfl) ?_
    intro p e s m args below meth cd ls Q hQ hx hb hr hts hown hlocks hnm hml hK hH hS hB hl
    replace hl : lv_has ls 5 [(0, .ref b), (1, .int x), (2, .int y), (3, .int z), (4, .int t)] := hl
    have hf : md_fr b ad M M := md_fr_rf
    refine lv_aload_n hx hb d_Md_offer_0 rfl (lv_at hl 0 rfl) ?_
    refine lv_iconst (v := 0) hx hb d_Md_offer_1 (by decide) ?_
    refine hp_put hx hb hts iw_Md t_Md t_Md_ok n_Md hown hK hH hS hB hm.1 rfl 0 (by decide) (hts _ kw_134) rfl  (v := .int 0) rfl rfl (Nat.le_of_ble_eq_true rfl) (fs' := [.int 0, .ref (ad 0), .ref (ad 1), .ref (ad 2), .ref (ad 3), .ref (ad 4), .ref (ad 5), .ref (ad 6), .ref (ad 7), .ref (ad 8), .ref (ad 9), .ref (ad 10), .ref (ad 11), .ref (ad 12), .ref (ad 13), .int of, .int sl, .ref (ad 14), .ref (ad 15), .ref (ad 16)]) rfl d_Md_offer_2 (fun M_1 H locs eM_1 hH hS => ?_)
    have hm := md_pb hm (th' := 0) (of' := of) (sl' := sl) eM_1
    have hf := md_fr_b hf eM_1
    refine lv_iload_n hx hb d_Md_offer_5 rfl (lv_at hl 1 rfl) ?_
    refine hp_calli (hp_runS (As := [.int x]) (rest := []) hx hb hml hown (cn_Md_isOne l D B M_1 x) (hp_cwS 1 hts kw_136 kw_139 kw_137 kw_138 rfl rfl (by decide +kernel) ⟨(Nat.le_of_ble_eq_true rfl), (Nat.le_of_ble_eq_true rfl)⟩) hK hH rfl hl.1 rfl (Nat.le_of_ble_eq_true rfl) d_Md_offer_6 ⟨(Nat.le_of_ble_eq_true rfl), (Nat.le_of_ble_eq_true rfl)⟩) hS (fun r_2 M_3 H locs w_4 hH hS => ?_)
    obtain ⟨eM, eR⟩ := w_4
    rw [eM] at hH
    rw [eR]
    refine lv_if_eq (tgt := 46) hx hb d_Md_offer_9 (by decide) (fun c_5 => ?_) (fun c_5 => absurd (sg_port_none hix) c_5)
    refine lv_iconst (v := 0) hx hb d_Md_offer_46 (by decide) ?_
    exact hp_zret hx hb hr hlocks hQ hK hH hS (Nat.le_of_ble_eq_true rfl) (Nat.le_of_ble_eq_true rfl) rfl d_Md_offer_47 ⟨σ, of, ct, Or.inr ⟨(Or.inl hix), rfl, rfl⟩, hm, hf, hR⟩
  · refine hp_met (by decide) (Nat.le_of_ble_eq_true rfl) ?_
    intro p e s m args below meth cd ls Q hQ hx hb hr hts hown hlocks hnm hml hK hH hS hB hl
    replace hl : lv_has ls 5 [(0, .ref b), (1, .int (nI i)), (2, .int y), (3, .int z), (4, .int t)] := hl
    have hf : md_fr b ad M M := md_fr_rf
    refine lv_aload_n hx hb d_Md_offer_0 rfl (lv_at hl 0 rfl) ?_
    refine lv_iconst (v := 0) hx hb d_Md_offer_1 (by decide) ?_
    refine hp_put hx hb hts iw_Md t_Md t_Md_ok n_Md hown hK hH hS hB hm.1 rfl 0 (by decide) (hts _ kw_134) rfl  (v := .int 0) rfl rfl (Nat.le_of_ble_eq_true rfl) (fs' := [.int 0, .ref (ad 0), .ref (ad 1), .ref (ad 2), .ref (ad 3), .ref (ad 4), .ref (ad 5), .ref (ad 6), .ref (ad 7), .ref (ad 8), .ref (ad 9), .ref (ad 10), .ref (ad 11), .ref (ad 12), .ref (ad 13), .int of, .int sl, .ref (ad 14), .ref (ad 15), .ref (ad 16)]) rfl d_Md_offer_2 (fun M_1 H locs eM_1 hH hS => ?_)
    have hm := md_pb hm (th' := 0) (of' := of) (sl' := sl) eM_1
    have hf := md_fr_b hf eM_1
    refine lv_iload_n hx hb d_Md_offer_5 rfl (lv_at hl 1 rfl) ?_
    refine hp_calli (hp_runS (As := [.int (nI i)]) (rest := []) hx hb hml hown (cn_Md_isOne l D B M_1 (nI i)) (hp_cwS 1 hts kw_136 kw_139 kw_137 kw_138 rfl rfl (by decide +kernel) ⟨(Nat.le_of_ble_eq_true rfl), (Nat.le_of_ble_eq_true rfl)⟩) hK hH rfl hl.1 rfl (Nat.le_of_ble_eq_true rfl) d_Md_offer_6 ⟨(Nat.le_of_ble_eq_true rfl), (Nat.le_of_ble_eq_true rfl)⟩) hS (fun r_2 M_3 H locs w_4 hH hS => ?_)
    obtain ⟨eM, eR⟩ := w_4
    rw [eM] at hH
    rw [eR]
    refine lv_if_eq (tgt := 46) hx hb d_Md_offer_9 (by decide) (fun c_5 => absurd c_5 (by rw [sg_port_some hix]; decide)) (fun c_5 => ?_)
    refine lv_iload_n hx hb d_Md_offer_12 rfl (lv_at hl 2 rfl) ?_
    refine hp_calli (hp_runS (As := [.int y]) (rest := []) hx hb hml hown (cn_Md_isOne l D B M_1 y) (hp_cwS 1 hts kw_136 kw_139 kw_137 kw_138 rfl rfl (by decide +kernel) ⟨(Nat.le_of_ble_eq_true rfl), (Nat.le_of_ble_eq_true rfl)⟩) hK hH rfl hl.1 rfl (Nat.le_of_ble_eq_true rfl) d_Md_offer_13 ⟨(Nat.le_of_ble_eq_true rfl), (Nat.le_of_ble_eq_true rfl)⟩) hS (fun r_6 M_7 H locs w_8 hH hS => ?_)
    obtain ⟨eM, eR⟩ := w_8
    rw [eM] at hH
    rw [eR]
    refine lv_if_eq (tgt := 46) hx hb d_Md_offer_16 (by decide) (fun c_9 => ?_) (fun c_9 => absurd (sg_port_none hiy) c_9)
    refine lv_iconst (v := 0) hx hb d_Md_offer_46 (by decide) ?_
    exact hp_zret hx hb hr hlocks hQ hK hH hS (Nat.le_of_ble_eq_true rfl) (Nat.le_of_ble_eq_true rfl) rfl d_Md_offer_47 ⟨σ, of, ct, Or.inr ⟨(Or.inr (Or.inl hiy)), rfl, rfl⟩, hm, hf, hR⟩
  · refine hp_met (by decide) (Nat.le_of_ble_eq_true rfl) ?_
    intro p e s m args below meth cd ls Q hQ hx hb hr hts hown hlocks hnm hml hK hH hS hB hl
    replace hl : lv_has ls 5 [(0, .ref b), (1, .int (nI i)), (2, .int (nI o)), (3, .int z), (4, .int t)] := hl
    have hf : md_fr b ad M M := md_fr_rf
    refine lv_aload_n hx hb d_Md_offer_0 rfl (lv_at hl 0 rfl) ?_
    refine lv_iconst (v := 0) hx hb d_Md_offer_1 (by decide) ?_
    refine hp_put hx hb hts iw_Md t_Md t_Md_ok n_Md hown hK hH hS hB hm.1 rfl 0 (by decide) (hts _ kw_134) rfl  (v := .int 0) rfl rfl (Nat.le_of_ble_eq_true rfl) (fs' := [.int 0, .ref (ad 0), .ref (ad 1), .ref (ad 2), .ref (ad 3), .ref (ad 4), .ref (ad 5), .ref (ad 6), .ref (ad 7), .ref (ad 8), .ref (ad 9), .ref (ad 10), .ref (ad 11), .ref (ad 12), .ref (ad 13), .int of, .int sl, .ref (ad 14), .ref (ad 15), .ref (ad 16)]) rfl d_Md_offer_2 (fun M_1 H locs eM_1 hH hS => ?_)
    have hm := md_pb hm (th' := 0) (of' := of) (sl' := sl) eM_1
    have hf := md_fr_b hf eM_1
    refine lv_iload_n hx hb d_Md_offer_5 rfl (lv_at hl 1 rfl) ?_
    refine hp_calli (hp_runS (As := [.int (nI i)]) (rest := []) hx hb hml hown (cn_Md_isOne l D B M_1 (nI i)) (hp_cwS 1 hts kw_136 kw_139 kw_137 kw_138 rfl rfl (by decide +kernel) ⟨(Nat.le_of_ble_eq_true rfl), (Nat.le_of_ble_eq_true rfl)⟩) hK hH rfl hl.1 rfl (Nat.le_of_ble_eq_true rfl) d_Md_offer_6 ⟨(Nat.le_of_ble_eq_true rfl), (Nat.le_of_ble_eq_true rfl)⟩) hS (fun r_2 M_3 H locs w_4 hH hS => ?_)
    obtain ⟨eM, eR⟩ := w_4
    rw [eM] at hH
    rw [eR]
    refine lv_if_eq (tgt := 46) hx hb d_Md_offer_9 (by decide) (fun c_5 => absurd c_5 (by rw [sg_port_some hix]; decide)) (fun c_5 => ?_)
    refine lv_iload_n hx hb d_Md_offer_12 rfl (lv_at hl 2 rfl) ?_
    refine hp_calli (hp_runS (As := [.int (nI o)]) (rest := []) hx hb hml hown (cn_Md_isOne l D B M_1 (nI o)) (hp_cwS 1 hts kw_136 kw_139 kw_137 kw_138 rfl rfl (by decide +kernel) ⟨(Nat.le_of_ble_eq_true rfl), (Nat.le_of_ble_eq_true rfl)⟩) hK hH rfl hl.1 rfl (Nat.le_of_ble_eq_true rfl) d_Md_offer_13 ⟨(Nat.le_of_ble_eq_true rfl), (Nat.le_of_ble_eq_true rfl)⟩) hS (fun r_6 M_7 H locs w_8 hH hS => ?_)
    obtain ⟨eM, eR⟩ := w_8
    rw [eM] at hH
    rw [eR]
    refine lv_if_eq (tgt := 46) hx hb d_Md_offer_16 (by decide) (fun c_9 => absurd c_9 (by rw [sg_port_some hiy]; decide)) (fun c_9 => ?_)
    refine lv_iload_n hx hb d_Md_offer_19 rfl (lv_at hl 3 rfl) ?_
    refine hp_calli (hp_runS (As := [.int z]) (rest := []) hx hb hml hown (cn_Md_isOne l D B M_1 z) (hp_cwS 1 hts kw_136 kw_139 kw_137 kw_138 rfl rfl (by decide +kernel) ⟨(Nat.le_of_ble_eq_true rfl), (Nat.le_of_ble_eq_true rfl)⟩) hK hH rfl hl.1 rfl (Nat.le_of_ble_eq_true rfl) d_Md_offer_20 ⟨(Nat.le_of_ble_eq_true rfl), (Nat.le_of_ble_eq_true rfl)⟩) hS (fun r_10 M_11 H locs w_12 hH hS => ?_)
    obtain ⟨eM, eR⟩ := w_12
    rw [eM] at hH
    rw [eR]
    refine lv_if_eq (tgt := 46) hx hb d_Md_offer_23 (by decide) (fun c_13 => ?_) (fun c_13 => absurd (sg_port_none hiz) c_13)
    refine lv_iconst (v := 0) hx hb d_Md_offer_46 (by decide) ?_
    exact hp_zret hx hb hr hlocks hQ hK hH hS (Nat.le_of_ble_eq_true rfl) (Nat.le_of_ble_eq_true rfl) rfl d_Md_offer_47 ⟨σ, of, ct, Or.inr ⟨(Or.inr (Or.inr (Or.inl hiz))), rfl, rfl⟩, hm, hf, hR⟩
  · refine hp_met (by decide) (Nat.le_of_ble_eq_true rfl) ?_
    intro p e s m args below meth cd ls Q hQ hx hb hr hts hown hlocks hnm hml hK hH hS hB hl
    replace hl : lv_has ls 5 [(0, .ref b), (1, .int (nI i)), (2, .int (nI o)), (3, .int (nI k)), (4, .int t)] := hl
    have hf : md_fr b ad M M := md_fr_rf
    refine lv_aload_n hx hb d_Md_offer_0 rfl (lv_at hl 0 rfl) ?_
    refine lv_iconst (v := 0) hx hb d_Md_offer_1 (by decide) ?_
    refine hp_put hx hb hts iw_Md t_Md t_Md_ok n_Md hown hK hH hS hB hm.1 rfl 0 (by decide) (hts _ kw_134) rfl  (v := .int 0) rfl rfl (Nat.le_of_ble_eq_true rfl) (fs' := [.int 0, .ref (ad 0), .ref (ad 1), .ref (ad 2), .ref (ad 3), .ref (ad 4), .ref (ad 5), .ref (ad 6), .ref (ad 7), .ref (ad 8), .ref (ad 9), .ref (ad 10), .ref (ad 11), .ref (ad 12), .ref (ad 13), .int of, .int sl, .ref (ad 14), .ref (ad 15), .ref (ad 16)]) rfl d_Md_offer_2 (fun M_1 H locs eM_1 hH hS => ?_)
    have hm := md_pb hm (th' := 0) (of' := of) (sl' := sl) eM_1
    have hf := md_fr_b hf eM_1
    refine lv_iload_n hx hb d_Md_offer_5 rfl (lv_at hl 1 rfl) ?_
    refine hp_calli (hp_runS (As := [.int (nI i)]) (rest := []) hx hb hml hown (cn_Md_isOne l D B M_1 (nI i)) (hp_cwS 1 hts kw_136 kw_139 kw_137 kw_138 rfl rfl (by decide +kernel) ⟨(Nat.le_of_ble_eq_true rfl), (Nat.le_of_ble_eq_true rfl)⟩) hK hH rfl hl.1 rfl (Nat.le_of_ble_eq_true rfl) d_Md_offer_6 ⟨(Nat.le_of_ble_eq_true rfl), (Nat.le_of_ble_eq_true rfl)⟩) hS (fun r_2 M_3 H locs w_4 hH hS => ?_)
    obtain ⟨eM, eR⟩ := w_4
    rw [eM] at hH
    rw [eR]
    refine lv_if_eq (tgt := 46) hx hb d_Md_offer_9 (by decide) (fun c_5 => absurd c_5 (by rw [sg_port_some hix]; decide)) (fun c_5 => ?_)
    refine lv_iload_n hx hb d_Md_offer_12 rfl (lv_at hl 2 rfl) ?_
    refine hp_calli (hp_runS (As := [.int (nI o)]) (rest := []) hx hb hml hown (cn_Md_isOne l D B M_1 (nI o)) (hp_cwS 1 hts kw_136 kw_139 kw_137 kw_138 rfl rfl (by decide +kernel) ⟨(Nat.le_of_ble_eq_true rfl), (Nat.le_of_ble_eq_true rfl)⟩) hK hH rfl hl.1 rfl (Nat.le_of_ble_eq_true rfl) d_Md_offer_13 ⟨(Nat.le_of_ble_eq_true rfl), (Nat.le_of_ble_eq_true rfl)⟩) hS (fun r_6 M_7 H locs w_8 hH hS => ?_)
    obtain ⟨eM, eR⟩ := w_8
    rw [eM] at hH
    rw [eR]
    refine lv_if_eq (tgt := 46) hx hb d_Md_offer_16 (by decide) (fun c_9 => absurd c_9 (by rw [sg_port_some hiy]; decide)) (fun c_9 => ?_)
    refine lv_iload_n hx hb d_Md_offer_19 rfl (lv_at hl 3 rfl) ?_
    refine hp_calli (hp_runS (As := [.int (nI k)]) (rest := []) hx hb hml hown (cn_Md_isOne l D B M_1 (nI k)) (hp_cwS 1 hts kw_136 kw_139 kw_137 kw_138 rfl rfl (by decide +kernel) ⟨(Nat.le_of_ble_eq_true rfl), (Nat.le_of_ble_eq_true rfl)⟩) hK hH rfl hl.1 rfl (Nat.le_of_ble_eq_true rfl) d_Md_offer_20 ⟨(Nat.le_of_ble_eq_true rfl), (Nat.le_of_ble_eq_true rfl)⟩) hS (fun r_10 M_11 H locs w_12 hH hS => ?_)
    obtain ⟨eM, eR⟩ := w_12
    rw [eM] at hH
    rw [eR]
    refine lv_if_eq (tgt := 46) hx hb d_Md_offer_23 (by decide) (fun c_13 => absurd c_13 (by rw [sg_port_some hiz]; decide)) (fun c_13 => ?_)
    refine lv_aload_n hx hb d_Md_offer_26 rfl (lv_at hl 0 rfl) ?_
    refine hp_get hx hb hts iw_Md hown hK hH hm.1 rfl 11 (by decide) (hts _ kw_155) (v := .ref (ad 10)) rfl d_Md_offer_27 ?_
    refine lv_iload_n hx hb d_Md_offer_30 rfl (lv_at hl 1 rfl) ?_
    refine hp_iald hx hb hK hH (show M_1 (ad 10) = some (hp_ai D 8 (ct 10)) from hm.2.1 10 (by decide) (by decide) (by decide)) i rfl hi8 (by decide) (v := (ct 10 i)) rfl d_Md_offer_31 ?_
    refine lv_iconst (v := (-1)) hx hb d_Md_offer_32 (by decide) ?_
    refine lv_icmp_ne (tgt := 46) hx hb d_Md_offer_33 (by decide) (fun c_14 => ?_) (fun c_14 => ?_)
    · obtain ⟨d, e1, -⟩ := mo_nm1 (hR.2.2.2 i hi8) c_14
      refine lv_iconst (v := 0) hx hb d_Md_offer_46 (by decide) ?_
      exact hp_zret hx hb hr hlocks hQ hK hH hS (Nat.le_of_ble_eq_true rfl) (Nat.le_of_ble_eq_true rfl) rfl d_Md_offer_47 ⟨σ, of, ct, Or.inr ⟨(Or.inr (Or.inr (Or.inr ⟨i, hix, Or.inl (by rw [e1]; intro q; cases q)⟩))), rfl, rfl⟩, hm, hf, hR⟩
    · have hof := mo_m1 (tk := 0) (hR.2.2.2 i hi8) (fun d hd => ((hinv.2.1 i hi8).2 d hd).2.1) c_14
      refine lv_aload_n hx hb d_Md_offer_36 rfl (lv_at hl 0 rfl) ?_
      refine lv_iload_n hx hb d_Md_offer_37 rfl (lv_at hl 1 rfl) ?_
      refine hp_calli (hp_runV (b := b) (As := [.int (nI i)]) (rest := []) hx hb hml hown (cn_Md_insideOf l D B M_1 b ad 0 of sl ct cl σ i hm hR hinv hac hsei hi8) (hp_cwV 1 hts kw_156 kw_158 kw_159 kw_137 kw_157 rfl rfl (by decide +kernel) ⟨(Nat.le_of_ble_eq_true rfl), (Nat.le_of_ble_eq_true rfl)⟩) hK hH hm.1 rfl rfl hl.1 rfl (Nat.le_of_ble_eq_true rfl) d_Md_offer_38 ⟨(Nat.le_of_ble_eq_true rfl), (Nat.le_of_ble_eq_true rfl)⟩) hS (fun r_15 M_16 H locs w_17 hH hS => ?_)
      obtain ⟨eM, eR⟩ := w_17
      rw [eM] at hH
      rw [eR]
      refine lv_bipush (v := 64) hx hb d_Md_offer_41 (by decide) ?_
      refine lv_icmp_ne (tgt := 48) hx hb d_Md_offer_43 (by decide) (fun c_18 => ?_) (fun c_18 => ?_)
      · have hlt : sg_held σ i < 64 := by have h1 := (hinv.2.1 i hi8).1; have h2 : sg_held σ i ≠ 64 := fun q => c_18 (by rw [q]; rfl); omega
        refine lv_aload_n hx hb d_Md_offer_48 rfl (lv_at hl 0 rfl) ?_
        refine hp_get hx hb hts iw_Md hown hK hH hm.1 rfl 11 (by decide) (hts _ kw_155) (v := .ref (ad 10)) rfl d_Md_offer_49 ?_
        refine lv_iload_n hx hb d_Md_offer_52 rfl (lv_at hl 1 rfl) ?_
        refine lv_iload_n hx hb d_Md_offer_53 rfl (lv_at hl 2 rfl) ?_
        refine hp_iast hx hb hK hH hS hB (show M_1 (ad 10) = some (hp_ai D 8 (ct 10)) from hm.2.1 10 (by decide) (by decide) (by decide)) i rfl hi8 (by decide) d_Md_offer_54 (fun M_19 H locs eM_19 hH hS => ?_)
        have hm := md_pi hm (j := 10) (by decide) (by decide) (by decide) eM_19
        have hf := md_fr_a (j := 10) (by decide) hf eM_19
        refine lv_aload_n hx hb d_Md_offer_55 rfl (lv_at hl 0 rfl) ?_
        refine hp_get hx hb hts iw_Md hown hK hH hm.1 rfl 12 (by decide) (hts _ kw_166) (v := .ref (ad 11)) rfl d_Md_offer_56 ?_
        refine lv_iload_n hx hb d_Md_offer_59 rfl (lv_at hl 1 rfl) ?_
        refine lv_iload_n hx hb d_Md_offer_60 rfl (lv_at hl 3 rfl) ?_
        refine hp_iast hx hb hK hH hS hB (show M_19 (ad 11) = some (hp_ai D 8 (ct 11)) from hm.2.1 11 (by decide) (by decide) (by decide)) i rfl hi8 (by decide) d_Md_offer_61 (fun M_20 H locs eM_20 hH hS => ?_)
        have hm := md_pi hm (j := 11) (by decide) (by decide) (by decide) eM_20
        have hf := md_fr_a (j := 11) (by decide) hf eM_20
        refine lv_aload_n hx hb d_Md_offer_62 rfl (lv_at hl 0 rfl) ?_
        refine hp_get hx hb hts iw_Md hown hK hH hm.1 rfl 13 (by decide) (hts _ kw_167) (v := .ref (ad 12)) rfl d_Md_offer_63 ?_
        refine lv_iload_n hx hb d_Md_offer_66 rfl (lv_at hl 1 rfl) ?_
        refine lv_iload hx hb d_Md_offer_67 (lv_at hl 4 rfl) ?_
        refine hp_iast hx hb hK hH hS hB (show M_20 (ad 12) = some (hp_ai D 8 (ct 12)) from hm.2.1 12 (by decide) (by decide) (by decide)) i rfl hi8 (by decide) d_Md_offer_69 (fun M_21 H locs eM_21 hH hS => ?_)
        have hm := md_pi hm (j := 12) (by decide) (by decide) (by decide) eM_21
        have hf := md_fr_a (j := 12) (by decide) hf eM_21
        refine lv_aload_n hx hb d_Md_offer_70 rfl (lv_at hl 0 rfl) ?_
        refine hp_get hx hb hts iw_Md hown hK hH hm.1 rfl 14 (by decide) (hts _ kw_168) (v := .ref (ad 13)) rfl d_Md_offer_71 ?_
        refine lv_iload_n hx hb d_Md_offer_74 rfl (lv_at hl 1 rfl) ?_
        refine lv_aload_n hx hb d_Md_offer_75 rfl (lv_at hl 0 rfl) ?_
        refine hp_get hx hb hts iw_Md hown hK hH hm.1 rfl 15 (by decide) (hts _ kw_169) (v := .int of) rfl d_Md_offer_76 ?_
        refine hp_iast hx hb hK hH hS hB (show M_21 (ad 13) = some (hp_ai D 8 (ct 13)) from hm.2.1 13 (by decide) (by decide) (by decide)) i rfl hi8 (by decide) d_Md_offer_79 (fun M_22 H locs eM_22 hH hS => ?_)
        have hm := md_pi hm (j := 13) (by decide) (by decide) (by decide) eM_22
        have hf := md_fr_a (j := 13) (by decide) hf eM_22
        refine lv_aload_n hx hb d_Md_offer_80 rfl (lv_at hl 0 rfl) ?_
        refine lv_dup hx hb d_Md_offer_81 rfl ?_
        refine hp_get hx hb hts iw_Md hown hK hH hm.1 rfl 15 (by decide) (hts _ kw_169) (v := .int of) rfl d_Md_offer_82 ?_
        refine lv_iconst (v := 1) hx hb d_Md_offer_85 (by decide) ?_
        refine lv_iadd hx hb d_Md_offer_86 ?_
        refine hp_ioi (v := nI (sg_ac σ + 1)) (by rw [hR.1]; exact nI_1 _) ?_
        refine hp_put hx hb hts iw_Md t_Md t_Md_ok n_Md hown hK hH hS hB hm.1 rfl 15 (by decide) (hts _ kw_169) rfl  (v := .int (nI (sg_ac σ + 1))) rfl rfl (Nat.le_of_ble_eq_true rfl) (fs' := [.int 0, .ref (ad 0), .ref (ad 1), .ref (ad 2), .ref (ad 3), .ref (ad 4), .ref (ad 5), .ref (ad 6), .ref (ad 7), .ref (ad 8), .ref (ad 9), .ref (ad 10), .ref (ad 11), .ref (ad 12), .ref (ad 13), .int (nI (sg_ac σ + 1)), .int sl, .ref (ad 14), .ref (ad 15), .ref (ad 16)]) rfl d_Md_offer_87 (fun M_23 H locs eM_23 hH hS => ?_)
        have hm := md_pb hm (th' := 0) (of' := nI (sg_ac σ + 1)) (sl' := sl) eM_23
        have hf := md_fr_b hf eM_23
        refine lv_iconst (v := 1) hx hb d_Md_offer_90 (by decide) ?_
        exact hp_zret hx hb hr hlocks hQ hK hH hS (Nat.le_of_ble_eq_true rfl) (Nat.le_of_ble_eq_true rfl) rfl d_Md_offer_91 ⟨_, _, _, Or.inl ⟨i, o, k, hix, hiy, hiz, hof, hlt, rfl, rfl⟩, hm, hf, mo_offer hR⟩
      · refine lv_iconst (v := 0) hx hb d_Md_offer_46 (by decide) ?_
        exact hp_zret hx hb hr hlocks hQ hK hH hS (Nat.le_of_ble_eq_true rfl) (Nat.le_of_ble_eq_true rfl) rfl d_Md_offer_47 ⟨σ, of, ct, Or.inr ⟨(Or.inr (Or.inr (Or.inr ⟨i, hix, Or.inr (fun q => by have := (nI_eq (b := 64) (by omega) (by decide)).mp c_18; omega)⟩))), rfl, rfl⟩, hm, hf, hR⟩
