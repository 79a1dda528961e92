theorem kw_86 : Cond.methodLink R_Sw 37 y_Sw_isClass ∈ wd_T := wd_in (List.mem_of_getElem? (i := 116) (by decide +kernel)) rfl
theorem kw_87 : Cond.code y_Sw_isClass b_Sw_isClass 1 (some .boolean) ∈ wd_T := wd_in (List.mem_of_getElem? (i := 118) (by decide +kernel)) rfl
theorem kw_88 : Cond.static y_Sw_isClass ∈ wd_T := wd_in (List.mem_of_getElem? (i := 117) (by decide +kernel)) rfl
theorem kw_89 : Cond.fieldLink R_Sw 40 "EvenSwitch$Output" "steps" "[I" ∈ wd_T := wd_in (List.mem_of_getElem? (i := 65) (by decide +kernel)) rfl
theorem kw_90 : Cond.constant R_Sw 44 65536 ∈ wd_T := wd_in (List.mem_of_getElem? (i := 119) (by decide +kernel)) rfl
theorem kw_91 : Cond.classLink R_Sw 52 R_Ce ∈ wd_T := wd_in (List.mem_of_getElem? (i := 124) (by decide +kernel)) rfl
theorem kw_92 : Cond.instantiable R_Ce 8 ∈ wd_T := wd_in (List.mem_of_getElem? (i := 125) (by decide +kernel)) rfl
theorem kw_93 : Cond.initialized R_Ce ∈ wd_T := wd_in (List.mem_of_getElem? (i := 25) (by decide +kernel)) rfl
theorem kw_94 : Cond.fieldLink R_Sw 54 "EvenSwitch" "acceptedCells" "J" ∈ wd_T := wd_in (List.mem_of_getElem? (i := 91) (by decide +kernel)) rfl
theorem kw_95 : Cond.methodLink R_Sw 58 y_Ce_init ∈ wd_T := wd_in (List.mem_of_getElem? (i := 126) (by decide +kernel)) rfl
theorem kw_96 : Cond.code y_Ce_init b_Ce_init 7 none ∈ wd_T := wd_in (List.mem_of_getElem? (i := 128) (by decide +kernel)) rfl
theorem kw_97 : Cond.instanceMethod y_Ce_init ∈ wd_T := wd_in (List.mem_of_getElem? (i := 127) (by decide +kernel)) rfl
theorem d_Sw_setWeight_0 : decode b_Sw_setWeight 0 = .ok (.iload_n 1, 1) := by decide +kernel
theorem d_Sw_setWeight_1 : decode b_Sw_setWeight 1 = .ok (.invokestatic 23, 3) := by decide +kernel
theorem d_Sw_setWeight_4 : decode b_Sw_setWeight 4 = .ok (.ifCond .eq 22, 3) := by decide +kernel
theorem d_Sw_setWeight_7 : decode b_Sw_setWeight 7 = .ok (.iload_n 2, 1) := by decide +kernel
theorem d_Sw_setWeight_8 : decode b_Sw_setWeight 8 = .ok (.invokestatic 37, 3) := by decide +kernel
theorem d_Sw_setWeight_11 : decode b_Sw_setWeight 11 = .ok (.ifCond .eq 15, 3) := by decide +kernel
theorem d_Sw_setWeight_14 : decode b_Sw_setWeight 14 = .ok (.iload_n 3, 1) := by decide +kernel
theorem d_Sw_setWeight_15 : decode b_Sw_setWeight 15 = .ok (.iconst 1, 1) := by decide +kernel
theorem d_Sw_setWeight_16 : decode b_Sw_setWeight 16 = .ok (.if_icmp .lt 10, 3) := by decide +kernel
theorem d_Sw_setWeight_19 : decode b_Sw_setWeight 19 = .ok (.iload_n 3, 1) := by decide +kernel
theorem d_Sw_setWeight_20 : decode b_Sw_setWeight 20 = .ok (.sipush 255, 3) := by decide +kernel
theorem d_Sw_setWeight_23 : decode b_Sw_setWeight 23 = .ok (.if_icmp .le 5, 3) := by decide +kernel
theorem d_Sw_setWeight_26 : decode b_Sw_setWeight 26 = .ok (.iconst 0, 1) := by decide +kernel
theorem d_Sw_setWeight_27 : decode b_Sw_setWeight 27 = .ok (.ireturn, 1) := by decide +kernel
theorem d_Sw_setWeight_28 : decode b_Sw_setWeight 28 = .ok (.aload_n 0, 1) := by decide +kernel
theorem d_Sw_setWeight_29 : decode b_Sw_setWeight 29 = .ok (.getfield 17, 3) := by decide +kernel
theorem d_Sw_setWeight_32 : decode b_Sw_setWeight 32 = .ok (.iload_n 1, 1) := by decide +kernel
theorem d_Sw_setWeight_33 : decode b_Sw_setWeight 33 = .ok (.aaload, 1) := by decide +kernel
theorem d_Sw_setWeight_34 : decode b_Sw_setWeight 34 = .ok (.getfield 40, 3) := by decide +kernel
theorem d_Sw_setWeight_37 : decode b_Sw_setWeight 37 = .ok (.iload_n 2, 1) := by decide +kernel
theorem d_Sw_setWeight_38 : decode b_Sw_setWeight 38 = .ok (.ldc 44, 2) := by decide +kernel
theorem d_Sw_setWeight_40 : decode b_Sw_setWeight 40 = .ok (.iload_n 3, 1) := by decide +kernel
theorem d_Sw_setWeight_41 : decode b_Sw_setWeight 41 = .ok (.iadd, 1) := by decide +kernel
theorem d_Sw_setWeight_42 : decode b_Sw_setWeight 42 = .ok (.iconst 1, 1) := by decide +kernel
theorem d_Sw_setWeight_43 : decode b_Sw_setWeight 43 = .ok (.isub, 1) := by decide +kernel
theorem d_Sw_setWeight_44 : decode b_Sw_setWeight 44 = .ok (.iload_n 3, 1) := by decide +kernel
theorem d_Sw_setWeight_45 : decode b_Sw_setWeight 45 = .ok (.idiv, 1) := by decide +kernel
theorem d_Sw_setWeight_46 : decode b_Sw_setWeight 46 = .ok (.iastore, 1) := by decide +kernel
theorem d_Sw_setWeight_47 : decode b_Sw_setWeight 47 = .ok (.iconst 1, 1) := by decide +kernel
theorem d_Sw_setWeight_48 : decode b_Sw_setWeight 48 = .ok (.ireturn, 1) := by decide +kernel
theorem d_Sw_offer_0 : decode b_Sw_offer 0 = .ok (.iload_n 1, 1) := by decide +kernel
theorem d_Sw_offer_1 : decode b_Sw_offer 1 = .ok (.invokestatic 23, 3) := by decide +kernel
theorem d_Sw_offer_4 : decode b_Sw_offer 4 = .ok (.ifCond .eq 17, 3) := by decide +kernel
theorem d_Sw_offer_7 : decode b_Sw_offer 7 = .ok (.iload_n 2, 1) := by decide +kernel
theorem d_Sw_offer_8 : decode b_Sw_offer 8 = .ok (.invokestatic 23, 3) := by decide +kernel
theorem d_Sw_offer_11 : decode b_Sw_offer 11 = .ok (.ifCond .eq 10, 3) := by decide +kernel
theorem d_Sw_offer_14 : decode b_Sw_offer 14 = .ok (.iload_n 3, 1) := by decide +kernel
theorem d_Sw_offer_15 : decode b_Sw_offer 15 = .ok (.invokestatic 37, 3) := by decide +kernel
theorem d_Sw_offer_18 : decode b_Sw_offer 18 = .ok (.ifCond .ne 5, 3) := by decide +kernel
theorem d_Sw_offer_21 : decode b_Sw_offer 21 = .ok (.iconst 0, 1) := by decide +kernel
theorem d_Sw_offer_22 : decode b_Sw_offer 22 = .ok (.ireturn, 1) := by decide +kernel
theorem d_Sw_offer_23 : decode b_Sw_offer 23 = .ok (.aload_n 0, 1) := by decide +kernel
theorem d_Sw_offer_24 : decode b_Sw_offer 24 = .ok (.getfield 11, 3) := by decide +kernel
theorem d_Sw_offer_27 : decode b_Sw_offer 27 = .ok (.iload_n 1, 1) := by decide +kernel
theorem d_Sw_offer_28 : decode b_Sw_offer 28 = .ok (.aaload, 1) := by decide +kernel
theorem d_Sw_offer_29 : decode b_Sw_offer 29 = .ok (.astore 5, 2) := by decide +kernel
theorem d_Sw_offer_31 : decode b_Sw_offer 31 = .ok (.aload 5, 2) := by decide +kernel
theorem d_Sw_offer_33 : decode b_Sw_offer 33 = .ok (.getfield 45, 3) := by decide +kernel
theorem d_Sw_offer_36 : decode b_Sw_offer 36 = .ok (.ifnonnull 13, 3) := by decide +kernel
theorem d_Sw_offer_39 : decode b_Sw_offer 39 = .ok (.aload 5, 2) := by decide +kernel
theorem d_Sw_offer_41 : decode b_Sw_offer 41 = .ok (.getfield 49, 3) := by decide +kernel
theorem d_Sw_offer_44 : decode b_Sw_offer 44 = .ok (.bipush 64, 2) := by decide +kernel
theorem d_Sw_offer_46 : decode b_Sw_offer 46 = .ok (.if_icmp .lt 5, 3) := by decide +kernel
theorem d_Sw_offer_49 : decode b_Sw_offer 49 = .ok (.iconst 0, 1) := by decide +kernel
theorem d_Sw_offer_50 : decode b_Sw_offer 50 = .ok (.ireturn, 1) := by decide +kernel
theorem d_Sw_offer_51 : decode b_Sw_offer 51 = .ok (.aload 5, 2) := by decide +kernel
theorem d_Sw_offer_53 : decode b_Sw_offer 53 = .ok (.new 52, 3) := by decide +kernel
theorem d_Sw_offer_56 : decode b_Sw_offer 56 = .ok (.dup, 1) := by decide +kernel
theorem d_Sw_offer_57 : decode b_Sw_offer 57 = .ok (.iload_n 1, 1) := by decide +kernel
theorem d_Sw_offer_58 : decode b_Sw_offer 58 = .ok (.iload_n 2, 1) := by decide +kernel
theorem d_Sw_offer_59 : decode b_Sw_offer 59 = .ok (.iload_n 3, 1) := by decide +kernel
theorem d_Sw_offer_60 : decode b_Sw_offer 60 = .ok (.iload 4, 2) := by decide +kernel
theorem d_Sw_offer_62 : decode b_Sw_offer 62 = .ok (.aload_n 0, 1) := by decide +kernel
theorem d_Sw_offer_63 : decode b_Sw_offer 63 = .ok (.getfield 54, 3) := by decide +kernel
theorem d_Sw_offer_66 : decode b_Sw_offer 66 = .ok (.invokespecial 58, 3) := by decide +kernel
theorem d_Sw_offer_69 : decode b_Sw_offer 69 = .ok (.putfield 45, 3) := by decide +kernel
theorem d_Sw_offer_72 : decode b_Sw_offer 72 = .ok (.aload 5, 2) := by decide +kernel
theorem d_Sw_offer_74 : decode b_Sw_offer 74 = .ok (.dup, 1) := by decide +kernel
theorem d_Sw_offer_75 : decode b_Sw_offer 75 = .ok (.getfield 49, 3) := by decide +kernel
theorem d_Sw_offer_78 : decode b_Sw_offer 78 = .ok (.iconst 1, 1) := by decide +kernel
theorem d_Sw_offer_79 : decode b_Sw_offer 79 = .ok (.iadd, 1) := by decide +kernel
theorem d_Sw_offer_80 : decode b_Sw_offer 80 = .ok (.putfield 49, 3) := by decide +kernel
theorem d_Sw_offer_83 : decode b_Sw_offer 83 = .ok (.aload_n 0, 1) := by decide +kernel
theorem d_Sw_offer_84 : decode b_Sw_offer 84 = .ok (.dup, 1) := by decide +kernel
theorem d_Sw_offer_85 : decode b_Sw_offer 85 = .ok (.getfield 54, 3) := by decide +kernel
theorem d_Sw_offer_88 : decode b_Sw_offer 88 = .ok (.lconst 1, 1) := by decide +kernel
theorem d_Sw_offer_89 : decode b_Sw_offer 89 = .ok (.ladd, 1) := by decide +kernel
theorem d_Sw_offer_90 : decode b_Sw_offer 90 = .ok (.putfield 54, 3) := by decide +kernel
theorem d_Sw_offer_93 : decode b_Sw_offer 93 = .ok (.iconst 1, 1) := by decide +kernel
theorem d_Sw_offer_94 : decode b_Sw_offer 94 = .ok (.ireturn, 1) := by decide +kernel
abbrev rm_Sw_setWeight : Room := { frames := 1, cells := 0, slots := 0, locals := 20 }
set_option maxHeartbeats 4000000 in
set_option maxRecDepth 100000 in
theorem cn_Sw_setWeight (l : Launch) (D : va_G) (B : Nat) (M : hp_M) (a : Nat) (σ : sg_S) (F : Nat → Prop) (x y w : Int32) (hsw : sw_H D M a σ F) (hinv : sg_inv σ) (hac : sg_ac σ ≤ 512) : Met l y_Sw_setWeight (wd_c y_Sw_setWeight b_Sw_setWeight 4 (some .boolean)) rm_Sw_setWeight (va_Pc [.ref a, .int x, .int y, .int w] (hp_C D B M)) (va_Qi (fun (r : Int32) (M1 : hp_M) => ∃ τ, tr_setWeight σ x y w r τ ∧ sw_H D M1 a τ F ∧ sw_fr F M M1) (hp_C D B) (hp_ub B)) 0 0 (hp_ub B) := by
  rcases sg_w_or x y w with hix | ⟨o, hk, rfl, hix, hiy⟩ | ⟨o, g, hk, rfl, hix, hg, rfl, hiy, hbad⟩ | ⟨o, g, hk, rfl, hix, hg, rfl, hiy, hgood⟩
  · refine hp_met (by decide) (Nat.le_of_ble_eq_true rfl) ?_
    intro p e s m args below meth cd ls Q hQ hx hb hr hts hown hlocks hnm hml hK hH hS hB hl
    replace hl : lv_has ls 4 [(0, .ref a), (1, .int x), (2, .int y), (3, .int w)] := hl
    refine lv_iload_n hx hb d_Sw_setWeight_0 rfl (lv_at hl 1 rfl) ?_
    refine hp_calli (hp_runS (As := [.int x]) (rest := []) hx hb hml hown (cn_Sw_isPort l D B M x) (hp_cwS 1 hts kw_1 kw_4 kw_2 kw_3 rfl rfl (by decide +kernel) ⟨(Nat.le_of_ble_eq_true rfl), (Nat.le_of_ble_eq_true rfl)⟩) hK hH rfl hl.1 rfl (Nat.le_of_ble_eq_true rfl) d_Sw_setWeight_1 ⟨(Nat.le_of_ble_eq_true rfl), (Nat.le_of_ble_eq_true rfl)⟩) hS (fun r_1 M_2 H locs w_3 hH hS => ?_)
    obtain ⟨eM, eR⟩ := w_3
    rw [eM] at hH
    rw [eR]
    refine lv_if_eq (tgt := 26) hx hb d_Sw_setWeight_4 (by decide) (fun c_4 => ?_) (fun c_4 => absurd (sg_port_none hix) c_4)
    refine lv_iconst (v := 0) hx hb d_Sw_setWeight_26 (by decide) ?_
    exact hp_zret hx hb hr hlocks hQ hK hH hS (Nat.le_of_ble_eq_true rfl) (Nat.le_of_ble_eq_true rfl) rfl d_Sw_setWeight_27 ⟨σ, Or.inr ⟨(Or.inl hix), rfl, rfl⟩, hsw, sw_fr_rf⟩
  · refine hp_met (by decide) (Nat.le_of_ble_eq_true rfl) ?_
    intro p e s m args below meth cd ls Q hQ hx hb hr hts hown hlocks hnm hml hK hH hS hB hl
    replace hl : lv_has ls 4 [(0, .ref a), (1, .int (nI o)), (2, .int y), (3, .int w)] := hl
    refine lv_iload_n hx hb d_Sw_setWeight_0 rfl (lv_at hl 1 rfl) ?_
    refine hp_calli (hp_runS (As := [.int (nI o)]) (rest := []) hx hb hml hown (cn_Sw_isPort l D B M (nI o)) (hp_cwS 1 hts kw_1 kw_4 kw_2 kw_3 rfl rfl (by decide +kernel) ⟨(Nat.le_of_ble_eq_true rfl), (Nat.le_of_ble_eq_true rfl)⟩) hK hH rfl hl.1 rfl (Nat.le_of_ble_eq_true rfl) d_Sw_setWeight_1 ⟨(Nat.le_of_ble_eq_true rfl), (Nat.le_of_ble_eq_true rfl)⟩) hS (fun r_1 M_2 H locs w_3 hH hS => ?_)
    obtain ⟨eM, eR⟩ := w_3
    rw [eM] at hH
    rw [eR]
    refine lv_if_eq (tgt := 26) hx hb d_Sw_setWeight_4 (by decide) (fun c_4 => absurd c_4 (by rw [sg_port_some hix]; decide)) (fun c_4 => ?_)
    refine lv_iload_n hx hb d_Sw_setWeight_7 rfl (lv_at hl 2 rfl) ?_
    refine hp_calli (hp_runS (As := [.int y]) (rest := []) hx hb hml hown (cn_Sw_isClass l D B M y) (hp_cwS 1 hts kw_86 kw_88 kw_2 kw_87 rfl rfl (by decide +kernel) ⟨(Nat.le_of_ble_eq_true rfl), (Nat.le_of_ble_eq_true rfl)⟩) hK hH rfl hl.1 rfl (Nat.le_of_ble_eq_true rfl) d_Sw_setWeight_8 ⟨(Nat.le_of_ble_eq_true rfl), (Nat.le_of_ble_eq_true rfl)⟩) hS (fun r_5 M_6 H locs w_7 hH hS => ?_)
    obtain ⟨eM, eR⟩ := w_7
    rw [eM] at hH
    rw [eR]
    refine lv_if_eq (tgt := 26) hx hb d_Sw_setWeight_11 (by decide) (fun c_8 => ?_) (fun c_8 => absurd (sg_port_none hiy) c_8)
    refine lv_iconst (v := 0) hx hb d_Sw_setWeight_26 (by decide) ?_
    exact hp_zret hx hb hr hlocks hQ hK hH hS (Nat.le_of_ble_eq_true rfl) (Nat.le_of_ble_eq_true rfl) rfl d_Sw_setWeight_27 ⟨σ, Or.inr ⟨(Or.inr (Or.inl hiy)), rfl, rfl⟩, hsw, sw_fr_rf⟩
  · refine hp_met (by decide) (Nat.le_of_ble_eq_true rfl) ?_
    intro p e s m args below meth cd ls Q hQ hx hb hr hts hown hlocks hnm hml hK hH hS hB hl
    replace hl : lv_has ls 4 [(0, .ref a), (1, .int (nI o)), (2, .int (nI g)), (3, .int w)] := hl
    refine lv_iload_n hx hb d_Sw_setWeight_0 rfl (lv_at hl 1 rfl) ?_
    refine hp_calli (hp_runS (As := [.int (nI o)]) (rest := []) hx hb hml hown (cn_Sw_isPort l D B M (nI o)) (hp_cwS 1 hts kw_1 kw_4 kw_2 kw_3 rfl rfl (by decide +kernel) ⟨(Nat.le_of_ble_eq_true rfl), (Nat.le_of_ble_eq_true rfl)⟩) hK hH rfl hl.1 rfl (Nat.le_of_ble_eq_true rfl) d_Sw_setWeight_1 ⟨(Nat.le_of_ble_eq_true rfl), (Nat.le_of_ble_eq_true rfl)⟩) hS (fun r_1 M_2 H locs w_3 hH hS => ?_)
    obtain ⟨eM, eR⟩ := w_3
    rw [eM] at hH
    rw [eR]
    refine lv_if_eq (tgt := 26) hx hb d_Sw_setWeight_4 (by decide) (fun c_4 => absurd c_4 (by rw [sg_port_some hix]; decide)) (fun c_4 => ?_)
    refine lv_iload_n hx hb d_Sw_setWeight_7 rfl (lv_at hl 2 rfl) ?_
    refine hp_calli (hp_runS (As := [.int (nI g)]) (rest := []) hx hb hml hown (cn_Sw_isClass l D B M (nI g)) (hp_cwS 1 hts kw_86 kw_88 kw_2 kw_87 rfl rfl (by decide +kernel) ⟨(Nat.le_of_ble_eq_true rfl), (Nat.le_of_ble_eq_true rfl)⟩) hK hH rfl hl.1 rfl (Nat.le_of_ble_eq_true rfl) d_Sw_setWeight_8 ⟨(Nat.le_of_ble_eq_true rfl), (Nat.le_of_ble_eq_true rfl)⟩) hS (fun r_5 M_6 H locs w_7 hH hS => ?_)
    obtain ⟨eM, eR⟩ := w_7
    rw [eM] at hH
    rw [eR]
    refine lv_if_eq (tgt := 26) hx hb d_Sw_setWeight_11 (by decide) (fun c_8 => absurd c_8 (by rw [sg_port_some hiy]; decide)) (fun c_8 => ?_)
    refine lv_iload_n hx hb d_Sw_setWeight_14 rfl (lv_at hl 3 rfl) ?_
    refine lv_iconst (v := 1) hx hb d_Sw_setWeight_15 (by decide) ?_
    refine lv_icmp_lt (tgt := 26) hx hb d_Sw_setWeight_16 (by decide) (fun c_9 => ?_) (fun c_9 => ?_)
    · refine lv_iconst (v := 0) hx hb d_Sw_setWeight_26 (by decide) ?_
      exact hp_zret hx hb hr hlocks hQ hK hH hS (Nat.le_of_ble_eq_true rfl) (Nat.le_of_ble_eq_true rfl) rfl d_Sw_setWeight_27 ⟨σ, Or.inr ⟨(Or.inr (Or.inr hbad)), rfl, rfl⟩, hsw, sw_fr_rf⟩
    · refine lv_iload_n hx hb d_Sw_setWeight_19 rfl (lv_at hl 3 rfl) ?_
      refine lv_sipush (v := 255) hx hb d_Sw_setWeight_20 (by decide) ?_
      refine lv_icmp_le (tgt := 28) hx hb d_Sw_setWeight_23 (by decide) (fun c_10 => ?_) (fun c_10 => ?_)
      · exact absurd ⟨Int32.not_lt.mp c_9, c_10⟩ hbad
      · refine lv_iconst (v := 0) hx hb d_Sw_setWeight_26 (by decide) ?_
        exact hp_zret hx hb hr hlocks hQ hK hH hS (Nat.le_of_ble_eq_true rfl) (Nat.le_of_ble_eq_true rfl) rfl d_Sw_setWeight_27 ⟨σ, Or.inr ⟨(Or.inr (Or.inr hbad)), rfl, rfl⟩, hsw, sw_fr_rf⟩
  · refine hp_met (by decide) (Nat.le_of_ble_eq_true rfl) ?_
    intro p e s m args below meth cd ls Q hQ hx hb hr hts hown hlocks hnm hml hK hH hS hB hl
    replace hl : lv_has ls 4 [(0, .ref a), (1, .int (nI o)), (2, .int (nI g)), (3, .int w)] := hl
    have hsw0 := hsw
    obtain ⟨aI, aO, fI, fO, oa, la, ip, op, sp, lp, LQ, ow, hP⟩ := hsw0
    have hP0 := hP
    obtain ⟨⟨h1, h2, h3⟩, ⟨w1, w2, w3⟩, hi, ho, hf⟩ := hP0
    obtain ⟨o1, o2, o3, ⟨ofs, o4, o4'⟩, o5, ⟨ofl, o6, o6'⟩, o7, ⟨o8, o9, o10⟩, o11⟩ := ho o hk
    refine lv_iload_n hx hb d_Sw_setWeight_0 rfl (lv_at hl 1 rfl) ?_
    refine hp_calli (hp_runS (As := [.int (nI o)]) (rest := []) hx hb hml hown (cn_Sw_isPort l D B M (nI o)) (hp_cwS 1 hts kw_1 kw_4 kw_2 kw_3 rfl rfl (by decide +kernel) ⟨(Nat.le_of_ble_eq_true rfl), (Nat.le_of_ble_eq_true rfl)⟩) hK hH rfl hl.1 rfl (Nat.le_of_ble_eq_true rfl) d_Sw_setWeight_1 ⟨(Nat.le_of_ble_eq_true rfl), (Nat.le_of_ble_eq_true rfl)⟩) hS (fun r_1 M_2 H locs w_3 hH hS => ?_)
    obtain ⟨eM, eR⟩ := w_3
    rw [eM] at hH
    rw [eR]
    refine lv_if_eq (tgt := 26) hx hb d_Sw_setWeight_4 (by decide) (fun c_4 => absurd c_4 (by rw [sg_port_some hix]; decide)) (fun c_4 => ?_)
    refine lv_iload_n hx hb d_Sw_setWeight_7 rfl (lv_at hl 2 rfl) ?_
    refine hp_calli (hp_runS (As := [.int (nI g)]) (rest := []) hx hb hml hown (cn_Sw_isClass l D B M (nI g)) (hp_cwS 1 hts kw_86 kw_88 kw_2 kw_87 rfl rfl (by decide +kernel) ⟨(Nat.le_of_ble_eq_true rfl), (Nat.le_of_ble_eq_true rfl)⟩) hK hH rfl hl.1 rfl (Nat.le_of_ble_eq_true rfl) d_Sw_setWeight_8 ⟨(Nat.le_of_ble_eq_true rfl), (Nat.le_of_ble_eq_true rfl)⟩) hS (fun r_5 M_6 H locs w_7 hH hS => ?_)
    obtain ⟨eM, eR⟩ := w_7
    rw [eM] at hH
    rw [eR]
    refine lv_if_eq (tgt := 26) hx hb d_Sw_setWeight_11 (by decide) (fun c_8 => absurd c_8 (by rw [sg_port_some hiy]; decide)) (fun c_8 => ?_)
    refine lv_iload_n hx hb d_Sw_setWeight_14 rfl (lv_at hl 3 rfl) ?_
    refine lv_iconst (v := 1) hx hb d_Sw_setWeight_15 (by decide) ?_
    refine lv_icmp_lt (tgt := 26) hx hb d_Sw_setWeight_16 (by decide) (fun c_9 => absurd c_9 (Int32.not_lt.mpr hgood.1)) (fun c_9 => ?_)
    refine lv_iload_n hx hb d_Sw_setWeight_19 rfl (lv_at hl 3 rfl) ?_
    refine lv_sipush (v := 255) hx hb d_Sw_setWeight_20 (by decide) ?_
    refine lv_icmp_le (tgt := 28) hx hb d_Sw_setWeight_23 (by decide) (fun c_10 => ?_) (fun c_10 => absurd hgood.2 c_10)
    refine lv_aload_n hx hb d_Sw_setWeight_28 rfl (lv_at hl 0 rfl) ?_
    refine hp_get hx hb hts iw_Sw hown hK hH h1 rfl 1 (by decide) (hts _ kw_5) (v := .ref aO) rfl d_Sw_setWeight_29 ?_
    refine lv_iload_n hx hb d_Sw_setWeight_32 rfl (lv_at hl 1 rfl) ?_
    refine hp_aald hx hb hK hH h3 3 rfl o rfl hk (by decide) (ho o hk).1 d_Sw_setWeight_33 ?_
    refine hp_get hx hb hts iw_Ou hown hK hH o2 rfl 1 (by decide) (hts _ kw_89) (v := .ref (sp o)) rfl d_Sw_setWeight_34 ?_
    refine lv_iload_n hx hb d_Sw_setWeight_37 rfl (lv_at hl 2 rfl) ?_
    refine lv_ldc (v := 65536) hx hb hown (hts _ kw_90) d_Sw_setWeight_38 ?_
    refine lv_iload_n hx hb d_Sw_setWeight_40 rfl (lv_at hl 3 rfl) ?_
    refine lv_iadd hx hb d_Sw_setWeight_41 ?_
    refine lv_iconst (v := 1) hx hb d_Sw_setWeight_42 (by decide) ?_
    refine lv_isub hx hb d_Sw_setWeight_43 ?_
    refine lv_iload_n hx hb d_Sw_setWeight_44 rfl (lv_at hl 3 rfl) ?_
    refine lv_idiv hx hb d_Sw_setWeight_45 (fun q => by rw [q] at hgood; exact absurd hgood.1 (by decide)) ?_
    refine hp_ioi (sg_step_eq w) ?_
    refine hp_iast hx hb hK hH hS hB o4 g rfl hg (by decide) d_Sw_setWeight_46 (fun M_11 H locs eM_11 hH hS => ?_)
    have f_12 : M_11 (sp o) = some (hp_ai D 8 (upd ofs g (sg_step w))) := by rw [eM_11]; exact va_up_self _ _ _
    have f_13 : M_11 a = some (.inr (ix_sw, [.ref aI, .ref aO, .int (sg_sl σ), .long (lN (sg_ac σ))])) := by rw [eM_11, va_up_ne _ _ (hp_ne ix_sw 100 h1 o4 rfl rfl (by decide))]; exact h1
    have f_14 : M_11 aI = some (hp_aq D 12 8 fI) := by rw [eM_11, va_up_ne _ _ (hp_ne 102 100 h2 o4 rfl rfl (by decide))]; exact h2
    have f_15 : M_11 aO = some (hp_aq D 13 8 fO) := by rw [eM_11, va_up_ne _ _ (hp_ne 102 100 h3 o4 rfl rfl (by decide))]; exact h3
    have f_16 : M_11 (op o) = some (.inr (ix_ou, [.int (sg_kd σ o), .ref (sp o), .ref (lp o), va_rf (sw_hd (LQ o) none), .int (nI (sg_qu σ o).length), va_rf (la o)])) := by rw [eM_11, va_up_ne _ _ (hp_ne ix_ou 100 o2 o4 rfl rfl (by decide))]; exact o2
    have f_17 : M_11 (lp o) = some (hp_al D 8 ofl) := by rw [eM_11, va_up_ne _ _ (hp_ne 101 100 o6 o4 rfl rfl (by decide))]; exact o6
    refine lv_iconst (v := 1) hx hb d_Sw_setWeight_47 (by decide) ?_
    exact hp_zret hx hb hr hlocks hQ hK hH hS (Nat.le_of_ble_eq_true rfl) (Nat.le_of_ble_eq_true rfl) rfl d_Sw_setWeight_48 (by obtain ⟨p1, p2⟩ := sw_do_setW hP hk hg (w := w) o4 o4' eM_11; exact ⟨_, Or.inl ⟨o, g, hix, hiy, hgood, rfl, rfl⟩, ⟨aI, aO, fI, fO, oa, la, ip, op, sp, lp, LQ, ow, p1⟩, p2⟩)
abbrev rm_Sw_offer : Room := { frames := 2, cells := 1, slots := 8, locals := 38 }
set_option maxHeartbeats 4000000 in
set_option maxRecDepth 100000 in
theorem cn_Sw_offer (l : Launch) (D : va_G) (B : Nat) (M : hp_M) (a : Nat) (σ : sg_S) (F : Nat → Prop) (x y z t : Int32) (hsw : sw_H D M a σ F) (hinv : sg_inv σ) (hac : sg_ac σ ≤ 512) : Met l y_Sw_offer (wd_c y_Sw_offer b_Sw_offer 6 (some .boolean)) rm_Sw_offer (va_Pc [.ref a, .int x, .int y, .int z, .int t] (hp_C D B M)) (va_Qi (fun (r : Int32) (M1 : hp_M) => ∃ τ, tr_offer σ x y z t r τ ∧ sw_H D M1 a τ F ∧ sw_fr F M M1) (hp_C D B) (hp_ub B)) 1 8 (hp_ub B) := by
  rcases sg_o_or x y z with hix | ⟨i, hi8, rfl, hix, hiy⟩ | ⟨i, o, hi8, rfl, hix, ho8, rfl, hiy, hiz⟩ | ⟨i, o, k, hi8, rfl, hix, ho8, rfl, hiy, hk8, rfl, hiz⟩
  · refine hp_met (by decide) (Nat.le_of_ble_eq_true rfl) ?_
    intro p e s m args below meth cd ls Q hQ hx hb hr hts hown hlocks hnm hml hK hH hS hB hl
    replace hl : lv_has ls 6 [(0, .ref a), (1, .int x), (2, .int y), (3, .int z), (4, .int t)] := hl
    refine lv_iload_n hx hb d_Sw_offer_0 rfl (lv_at hl 1 rfl) ?_
    refine hp_calli (hp_runS (As := [.int x]) (rest := []) hx hb hml hown (cn_Sw_isPort l D B M x) (hp_cwS 1 hts kw_1 kw_4 kw_2 kw_3 rfl rfl (by decide +kernel) ⟨(Nat.le_of_ble_eq_true rfl), (Nat.le_of_ble_eq_true rfl)⟩) hK hH rfl hl.1 rfl (Nat.le_of_ble_eq_true rfl) d_Sw_offer_1 ⟨(Nat.le_of_ble_eq_true rfl), (Nat.le_of_ble_eq_true rfl)⟩) hS (fun r_1 M_2 H locs w_3 hH hS => ?_)
    obtain ⟨eM, eR⟩ := w_3
    rw [eM] at hH
    rw [eR]
    refine lv_if_eq (tgt := 21) hx hb d_Sw_offer_4 (by decide) (fun c_4 => ?_) (fun c_4 => absurd (sg_port_none hix) c_4)
    refine lv_iconst (v := 0) hx hb d_Sw_offer_21 (by decide) ?_
    exact hp_zret hx hb hr hlocks hQ hK hH hS (Nat.le_of_ble_eq_true rfl) (Nat.le_of_ble_eq_true rfl) rfl d_Sw_offer_22 ⟨σ, Or.inr ⟨(Or.inl hix), rfl, rfl⟩, hsw, sw_fr_rf⟩
  · refine hp_met (by decide) (Nat.le_of_ble_eq_true rfl) ?_
    intro p e s m args below meth cd ls Q hQ hx hb hr hts hown hlocks hnm hml hK hH hS hB hl
    replace hl : lv_has ls 6 [(0, .ref a), (1, .int (nI i)), (2, .int y), (3, .int z), (4, .int t)] := hl
    refine lv_iload_n hx hb d_Sw_offer_0 rfl (lv_at hl 1 rfl) ?_
    refine hp_calli (hp_runS (As := [.int (nI i)]) (rest := []) hx hb hml hown (cn_Sw_isPort l D B M (nI i)) (hp_cwS 1 hts kw_1 kw_4 kw_2 kw_3 rfl rfl (by decide +kernel) ⟨(Nat.le_of_ble_eq_true rfl), (Nat.le_of_ble_eq_true rfl)⟩) hK hH rfl hl.1 rfl (Nat.le_of_ble_eq_true rfl) d_Sw_offer_1 ⟨(Nat.le_of_ble_eq_true rfl), (Nat.le_of_ble_eq_true rfl)⟩) hS (fun r_1 M_2 H locs w_3 hH hS => ?_)
    obtain ⟨eM, eR⟩ := w_3
    rw [eM] at hH
    rw [eR]
    refine lv_if_eq (tgt := 21) hx hb d_Sw_offer_4 (by decide) (fun c_4 => absurd c_4 (by rw [sg_port_some hix]; decide)) (fun c_4 => ?_)
    refine lv_iload_n hx hb d_Sw_offer_7 rfl (lv_at hl 2 rfl) ?_
    refine hp_calli (hp_runS (As := [.int y]) (rest := []) hx hb hml hown (cn_Sw_isPort l D B M y) (hp_cwS 1 hts kw_1 kw_4 kw_2 kw_3 rfl rfl (by decide +kernel) ⟨(Nat.le_of_ble_eq_true rfl), (Nat.le_of_ble_eq_true rfl)⟩) hK hH rfl hl.1 rfl (Nat.le_of_ble_eq_true rfl) d_Sw_offer_8 ⟨(Nat.le_of_ble_eq_true rfl), (Nat.le_of_ble_eq_true rfl)⟩) hS (fun r_5 M_6 H locs w_7 hH hS => ?_)
    obtain ⟨eM, eR⟩ := w_7
    rw [eM] at hH
    rw [eR]
    refine lv_if_eq (tgt := 21) hx hb d_Sw_offer_11 (by decide) (fun c_8 => ?_) (fun c_8 => absurd (sg_port_none hiy) c_8)
    refine lv_iconst (v := 0) hx hb d_Sw_offer_21 (by decide) ?_
    exact hp_zret hx hb hr hlocks hQ hK hH hS (Nat.le_of_ble_eq_true rfl) (Nat.le_of_ble_eq_true rfl) rfl d_Sw_offer_22 ⟨σ, Or.inr ⟨(Or.inr (Or.inl hiy)), rfl, rfl⟩, hsw, sw_fr_rf⟩
  · refine hp_met (by decide) (Nat.le_of_ble_eq_true rfl) ?_
    intro p e s m args below meth cd ls Q hQ hx hb hr hts hown hlocks hnm hml hK hH hS hB hl
    replace hl : lv_has ls 6 [(0, .ref a), (1, .int (nI i)), (2, .int (nI o)), (3, .int z), (4, .int t)] := hl
    refine lv_iload_n hx hb d_Sw_offer_0 rfl (lv_at hl 1 rfl) ?_
    refine hp_calli (hp_runS (As := [.int (nI i)]) (rest := []) hx hb hml hown (cn_Sw_isPort l D B M (nI i)) (hp_cwS 1 hts kw_1 kw_4 kw_2 kw_3 rfl rfl (by decide +kernel) ⟨(Nat.le_of_ble_eq_true rfl), (Nat.le_of_ble_eq_true rfl)⟩) hK hH rfl hl.1 rfl (Nat.le_of_ble_eq_true rfl) d_Sw_offer_1 ⟨(Nat.le_of_ble_eq_true rfl), (Nat.le_of_ble_eq_true rfl)⟩) hS (fun r_1 M_2 H locs w_3 hH hS => ?_)
    obtain ⟨eM, eR⟩ := w_3
    rw [eM] at hH
    rw [eR]
    refine lv_if_eq (tgt := 21) hx hb d_Sw_offer_4 (by decide) (fun c_4 => absurd c_4 (by rw [sg_port_some hix]; decide)) (fun c_4 => ?_)
    refine lv_iload_n hx hb d_Sw_offer_7 rfl (lv_at hl 2 rfl) ?_
    refine hp_calli (hp_runS (As := [.int (nI o)]) (rest := []) hx hb hml hown (cn_Sw_isPort l D B M (nI o)) (hp_cwS 1 hts kw_1 kw_4 kw_2 kw_3 rfl rfl (by decide +kernel) ⟨(Nat.le_of_ble_eq_true rfl), (Nat.le_of_ble_eq_true rfl)⟩) hK hH rfl hl.1 rfl (Nat.le_of_ble_eq_true rfl) d_Sw_offer_8 ⟨(Nat.le_of_ble_eq_true rfl), (Nat.le_of_ble_eq_true rfl)⟩) hS (fun r_5 M_6 H locs w_7 hH hS => ?_)
    obtain ⟨eM, eR⟩ := w_7
    rw [eM] at hH
    rw [eR]
    refine lv_if_eq (tgt := 21) hx hb d_Sw_offer_11 (by decide) (fun c_8 => absurd c_8 (by rw [sg_port_some hiy]; decide)) (fun c_8 => ?_)
    refine lv_iload_n hx hb d_Sw_offer_14 rfl (lv_at hl 3 rfl) ?_
    refine hp_calli (hp_runS (As := [.int z]) (rest := []) hx hb hml hown (cn_Sw_isClass l D B M z) (hp_cwS 1 hts kw_86 kw_88 kw_2 kw_87 rfl rfl (by decide +kernel) ⟨(Nat.le_of_ble_eq_true rfl), (Nat.le_of_ble_eq_true rfl)⟩) hK hH rfl hl.1 rfl (Nat.le_of_ble_eq_true rfl) d_Sw_offer_15 ⟨(Nat.le_of_ble_eq_true rfl), (Nat.le_of_ble_eq_true rfl)⟩) hS (fun r_9 M_10 H locs w_11 hH hS => ?_)
    obtain ⟨eM, eR⟩ := w_11
    rw [eM] at hH
    rw [eR]
    refine lv_if_ne (tgt := 23) hx hb d_Sw_offer_18 (by decide) (fun c_12 => absurd (sg_port_none hiz) c_12) (fun c_12 => ?_)
    refine lv_iconst (v := 0) hx hb d_Sw_offer_21 (by decide) ?_
    exact hp_zret hx hb hr hlocks hQ hK hH hS (Nat.le_of_ble_eq_true rfl) (Nat.le_of_ble_eq_true rfl) rfl d_Sw_offer_22 ⟨σ, Or.inr ⟨(Or.inr (Or.inr (Or.inl hiz))), rfl, rfl⟩, hsw, sw_fr_rf⟩
  · refine hp_met (by decide) (Nat.le_of_ble_eq_true rfl) ?_
    intro p e s m args below meth cd ls Q hQ hx hb hr hts hown hlocks hnm hml hK hH hS hB hl
    replace hl : lv_has ls 6 [(0, .ref a), (1, .int (nI i)), (2, .int (nI o)), (3, .int (nI k)), (4, .int t)] := hl
    have hsw0 := hsw
    obtain ⟨aI, aO, fI, fO, oa, la, ip, op, sp, lp, LQ, ow, hP⟩ := hsw0
    have hP0 := hP
    obtain ⟨⟨h1, h2, h3⟩, ⟨w1, w2, w3⟩, hi, ho, hf⟩ := hP0
    obtain ⟨i1, i2, i3, i4⟩ := hi i hi8
    refine lv_iload_n hx hb d_Sw_offer_0 rfl (lv_at hl 1 rfl) ?_
    refine hp_calli (hp_runS (As := [.int (nI i)]) (rest := []) hx hb hml hown (cn_Sw_isPort l D B M (nI i)) (hp_cwS 1 hts kw_1 kw_4 kw_2 kw_3 rfl rfl (by decide +kernel) ⟨(Nat.le_of_ble_eq_true rfl), (Nat.le_of_ble_eq_true rfl)⟩) hK hH rfl hl.1 rfl (Nat.le_of_ble_eq_true rfl) d_Sw_offer_1 ⟨(Nat.le_of_ble_eq_true rfl), (Nat.le_of_ble_eq_true rfl)⟩) hS (fun r_1 M_2 H locs w_3 hH hS => ?_)
    obtain ⟨eM, eR⟩ := w_3
    rw [eM] at hH
    rw [eR]
    refine lv_if_eq (tgt := 21) hx hb d_Sw_offer_4 (by decide) (fun c_4 => absurd c_4 (by rw [sg_port_some hix]; decide)) (fun c_4 => ?_)
    refine lv_iload_n hx hb d_Sw_offer_7 rfl (lv_at hl 2 rfl) ?_
    refine hp_calli (hp_runS (As := [.int (nI o)]) (rest := []) hx hb hml hown (cn_Sw_isPort l D B M (nI o)) (hp_cwS 1 hts kw_1 kw_4 kw_2 kw_3 rfl rfl (by decide +kernel) ⟨(Nat.le_of_ble_eq_true rfl), (Nat.le_of_ble_eq_true rfl)⟩) hK hH rfl hl.1 rfl (Nat.le_of_ble_eq_true rfl) d_Sw_offer_8 ⟨(Nat.le_of_ble_eq_true rfl), (Nat.le_of_ble_eq_true rfl)⟩) hS (fun r_5 M_6 H locs w_7 hH hS => ?_)
    obtain ⟨eM, eR⟩ := w_7
    rw [eM] at hH
    rw [eR]
    refine lv_if_eq (tgt := 21) hx hb d_Sw_offer_11 (by decide) (fun c_8 => absurd c_8 (by rw [sg_port_some hiy]; decide)) (fun c_8 => ?_)
    refine lv_iload_n hx hb d_Sw_offer_14 rfl (lv_at hl 3 rfl) ?_
    refine hp_calli (hp_runS (As := [.int (nI k)]) (rest := []) hx hb hml hown (cn_Sw_isClass l D B M (nI k)) (hp_cwS 1 hts kw_86 kw_88 kw_2 kw_87 rfl rfl (by decide +kernel) ⟨(Nat.le_of_ble_eq_true rfl), (Nat.le_of_ble_eq_true rfl)⟩) hK hH rfl hl.1 rfl (Nat.le_of_ble_eq_true rfl) d_Sw_offer_15 ⟨(Nat.le_of_ble_eq_true rfl), (Nat.le_of_ble_eq_true rfl)⟩) hS (fun r_9 M_10 H locs w_11 hH hS => ?_)
    obtain ⟨eM, eR⟩ := w_11
    rw [eM] at hH
    rw [eR]
    refine lv_if_ne (tgt := 23) hx hb d_Sw_offer_18 (by decide) (fun c_12 => ?_) (fun c_12 => absurd c_12 (by rw [sg_port_some hiz]; decide))
    refine lv_aload_n hx hb d_Sw_offer_23 rfl (lv_at hl 0 rfl) ?_
    refine hp_get hx hb hts iw_Sw hown hK hH h1 rfl 0 (by decide) (hts _ kw_14) (v := .ref aI) rfl d_Sw_offer_24 ?_
    refine lv_iload_n hx hb d_Sw_offer_27 rfl (lv_at hl 1 rfl) ?_
    refine hp_aald hx hb hK hH h2 2 rfl i rfl hi8 (by decide) i1 d_Sw_offer_28 ?_
    refine lv_astore (lv' := [(5, .ref (ip i)), (0, .ref a), (1, .int (nI i)), (2, .int (nI o)), (3, .int (nI k)), (4, .int t)]) hx hb d_Sw_offer_29 hl (by decide) rfl (fun ls hl => ?_)
    refine lv_aload hx hb d_Sw_offer_31 (lv_at hl 0 rfl) ?_
    refine hp_get hx hb hts iw_In hown hK hH i2 rfl 0 (by decide) (hts _ kw_79) (v := va_rf (oa i)) rfl d_Sw_offer_33 ?_
    refine hp_ifnonnull (tgt := 49) hx hb d_Sw_offer_36 (by decide) (fun q_14 c_13 => ?_) (fun c_13 => ?_)
    · rw [c_13] at i4
      obtain ⟨d, e1, -, -⟩ := sw_one_yes i4
      refine lv_iconst (v := 0) hx hb d_Sw_offer_49 (by decide) ?_
      exact hp_zret hx hb hr hlocks hQ hK hH hS (Nat.le_of_ble_eq_true rfl) (Nat.le_of_ble_eq_true rfl) rfl d_Sw_offer_50 ⟨σ, Or.inr ⟨(Or.inr (Or.inr (Or.inr ⟨i, hix, Or.inl (by rw [e1]; intro q; cases q)⟩))), rfl, rfl⟩, hsw, sw_fr_rf⟩
    · rw [c_13] at i4
      have hof := sw_one_no i4
      have f_15 : M (ip i) = some (sw_i none (nI (sg_held σ i))) := by rw [← c_13]; exact i2
      refine lv_aload hx hb d_Sw_offer_39 (lv_at hl 0 rfl) ?_
      refine hp_get hx hb hts iw_In hown hK hH f_15 rfl 1 (by decide) (hts _ kw_15) (v := .int (nI (sg_held σ i))) rfl d_Sw_offer_41 ?_
      refine lv_bipush (v := 64) hx hb d_Sw_offer_44 (by decide) ?_
      refine lv_icmp_lt (tgt := 51) hx hb d_Sw_offer_46 (by decide) (fun c_16 => ?_) (fun c_16 => ?_)
      · have hlt : sg_held σ i < 64 := (nI_ltI (b := 64) (by have := (hinv.2.1 i hi8).1; omega) (by decide)).mp c_16
        refine lv_aload hx hb d_Sw_offer_51 (lv_at hl 0 rfl) ?_
        refine hp_new hx hb hts iw_Ce t_Ce t_Ce_ok hown (hts _ kw_91) (hts _ kw_92) (hts _ kw_93) hK hH hS hB (ci := ix_ce) rfl (fs := [.int 0, .int 0, .int 0, .int 0, .long 0, .int 0, .long 0, .null]) (fun j hj => by rcases (show j = 0 ∨ j = 1 ∨ j = 2 ∨ j = 3 ∨ j = 4 ∨ j = 5 ∨ j = 6 ∨ j = 7 by omega) with rfl | rfl | rfl | rfl | rfl | rfl | rfl | rfl <;> rfl) (Nat.le_of_ble_eq_true rfl) (Nat.le_of_ble_eq_true rfl) d_Sw_offer_53 (fun q_17 M_18 H zq_17 eM_18 hH hS => ?_)
        have f_19 : M_18 q_17 = some (.inr (ix_ce, [.int 0, .int 0, .int 0, .int 0, .long 0, .int 0, .long 0, .null])) := by rw [eM_18]; exact va_up_self _ _ _
        have f_20 : M_18 a = some (.inr (ix_sw, [.ref aI, .ref aO, .int (sg_sl σ), .long (lN (sg_ac σ))])) := by rw [eM_18, va_up_ne _ _ (hp_fr zq_17 h1)]; exact h1
        have f_21 : M_18 aI = some (hp_aq D 12 8 fI) := by rw [eM_18, va_up_ne _ _ (hp_fr zq_17 h2)]; exact h2
        have f_22 : M_18 aO = some (hp_aq D 13 8 fO) := by rw [eM_18, va_up_ne _ _ (hp_fr zq_17 h3)]; exact h3
        have f_23 : M_18 (ip i) = some (.inr (ix_in, [.null, .int (nI (sg_held σ i))])) := by rw [eM_18, va_up_ne _ _ (hp_fr zq_17 f_15)]; exact f_15
        refine lv_dup hx hb d_Sw_offer_56 rfl ?_
        refine lv_iload_n hx hb d_Sw_offer_57 rfl (lv_at hl 2 rfl) ?_
        refine lv_iload_n hx hb d_Sw_offer_58 rfl (lv_at hl 3 rfl) ?_
        refine lv_iload_n hx hb d_Sw_offer_59 rfl (lv_at hl 4 rfl) ?_
        refine lv_iload hx hb d_Sw_offer_60 (lv_at hl 5 rfl) ?_
        refine lv_aload_n hx hb d_Sw_offer_62 rfl (lv_at hl 1 rfl) ?_
        refine hp_get hx hb hts iw_Sw hown hK hH f_20 rfl 3 (by decide) (hts _ kw_94) (v := .long (lN (sg_ac σ))) rfl d_Sw_offer_63 ?_
        refine hp_callv (hp_runI (b := q_17) (As := [.int (nI i), .int (nI o), .int (nI k), .int t, .long (lN (sg_ac σ))]) (rest := [.ref q_17, .ref (ip i)]) hx hb hml hown (cn_Ce_init l D B M_18 q_17 i o k t (sg_ac σ) f_19) (hp_cwI 5 hts kw_95 kw_97 kw_93 kw_96 rfl rfl rfl (by decide +kernel) ⟨(Nat.le_of_ble_eq_true rfl), (Nat.le_of_ble_eq_true rfl)⟩) hK hH rfl hl.1 rfl (Nat.le_of_ble_eq_true rfl) d_Sw_offer_66 ⟨(Nat.le_of_ble_eq_true rfl), (Nat.le_of_ble_eq_true rfl)⟩) hS (fun M_25 H locs w_26 hH hS => ?_)
        have f_27 : M_25 q_17 = some (.inr (ix_ce, [.int (nI i), .int (nI o), .int (nI k), .int t, .long (lN (sg_ac σ)), .int 0, .long 0, .null])) := by rw [w_26]; exact va_up_self _ _ _
        have f_28 : M_25 a = some (.inr (ix_sw, [.ref aI, .ref aO, .int (sg_sl σ), .long (lN (sg_ac σ))])) := by rw [w_26, va_up_ne _ _ (hp_ne ix_sw ix_ce f_20 f_19 rfl rfl (by decide))]; exact f_20
        have f_29 : M_25 aI = some (hp_aq D 12 8 fI) := by rw [w_26, va_up_ne _ _ (hp_ne 102 ix_ce f_21 f_19 rfl rfl (by decide))]; exact f_21
        have f_30 : M_25 aO = some (hp_aq D 13 8 fO) := by rw [w_26, va_up_ne _ _ (hp_ne 102 ix_ce f_22 f_19 rfl rfl (by decide))]; exact f_22
        have f_31 : M_25 (ip i) = some (.inr (ix_in, [.null, .int (nI (sg_held σ i))])) := by rw [w_26, va_up_ne _ _ (hp_ne ix_in ix_ce f_23 f_19 rfl rfl (by decide))]; exact f_23
        refine hp_put hx hb hts iw_In t_In t_In_ok n_In hown hK hH hS hB f_31 rfl 0 (by decide) (hts _ kw_79) rfl  (v := .ref q_17) rfl rfl (Nat.le_of_ble_eq_true rfl) (fs' := [.ref q_17, .int (nI (sg_held σ i))]) rfl d_Sw_offer_69 (fun M_32 H locs eM_32 hH hS => ?_)
        have f_33 : M_32 (ip i) = some (.inr (ix_in, [.ref q_17, .int (nI (sg_held σ i))])) := by rw [eM_32]; exact va_up_self _ _ _
        have f_34 : M_32 a = some (.inr (ix_sw, [.ref aI, .ref aO, .int (sg_sl σ), .long (lN (sg_ac σ))])) := by rw [eM_32, va_up_ne _ _ (hp_ne ix_sw ix_in f_28 f_31 rfl rfl (by decide))]; exact f_28
        have f_35 : M_32 aI = some (hp_aq D 12 8 fI) := by rw [eM_32, va_up_ne _ _ (hp_ne 102 ix_in f_29 f_31 rfl rfl (by decide))]; exact f_29
        have f_36 : M_32 aO = some (hp_aq D 13 8 fO) := by rw [eM_32, va_up_ne _ _ (hp_ne 102 ix_in f_30 f_31 rfl rfl (by decide))]; exact f_30
        have f_37 : M_32 q_17 = some (.inr (ix_ce, [.int (nI i), .int (nI o), .int (nI k), .int t, .long (lN (sg_ac σ)), .int 0, .long 0, .null])) := by rw [eM_32, va_up_ne _ _ (hp_ne ix_ce ix_in f_27 f_31 rfl rfl (by decide))]; exact f_27
        refine lv_aload hx hb d_Sw_offer_72 (lv_at hl 0 rfl) ?_
        refine lv_dup hx hb d_Sw_offer_74 rfl ?_
        refine hp_get hx hb hts iw_In hown hK hH f_33 rfl 1 (by decide) (hts _ kw_15) (v := .int (nI (sg_held σ i))) rfl d_Sw_offer_75 ?_
        refine lv_iconst (v := 1) hx hb d_Sw_offer_78 (by decide) ?_
        refine lv_iadd hx hb d_Sw_offer_79 ?_
        refine hp_ioi (nI_1 _) ?_
        refine hp_put hx hb hts iw_In t_In t_In_ok n_In hown hK hH hS hB f_33 rfl 1 (by decide) (hts _ kw_15) rfl  (v := .int (nI (sg_held σ i + 1))) rfl rfl (Nat.le_of_ble_eq_true rfl) (fs' := [.ref q_17, .int (nI (sg_held σ i + 1))]) rfl d_Sw_offer_80 (fun M_38 H locs eM_38 hH hS => ?_)
        have f_39 : M_38 (ip i) = some (.inr (ix_in, [.ref q_17, .int (nI (sg_held σ i + 1))])) := by rw [eM_38]; exact va_up_self _ _ _
        have f_40 : M_38 a = some (.inr (ix_sw, [.ref aI, .ref aO, .int (sg_sl σ), .long (lN (sg_ac σ))])) := by rw [eM_38, va_up_ne _ _ (hp_ne ix_sw ix_in f_34 f_33 rfl rfl (by decide))]; exact f_34
        have f_41 : M_38 aI = some (hp_aq D 12 8 fI) := by rw [eM_38, va_up_ne _ _ (hp_ne 102 ix_in f_35 f_33 rfl rfl (by decide))]; exact f_35
        have f_42 : M_38 aO = some (hp_aq D 13 8 fO) := by rw [eM_38, va_up_ne _ _ (hp_ne 102 ix_in f_36 f_33 rfl rfl (by decide))]; exact f_36
        have f_43 : M_38 q_17 = some (.inr (ix_ce, [.int (nI i), .int (nI o), .int (nI k), .int t, .long (lN (sg_ac σ)), .int 0, .long 0, .null])) := by rw [eM_38, va_up_ne _ _ (hp_ne ix_ce ix_in f_37 f_33 rfl rfl (by decide))]; exact f_37
        refine lv_aload_n hx hb d_Sw_offer_83 rfl (lv_at hl 1 rfl) ?_
        refine lv_dup hx hb d_Sw_offer_84 rfl ?_
        refine hp_get hx hb hts iw_Sw hown hK hH f_40 rfl 3 (by decide) (hts _ kw_94) (v := .long (lN (sg_ac σ))) rfl d_Sw_offer_85 ?_
        refine lv_lconst (v := 1) hx hb d_Sw_offer_88 (by decide) ?_
        refine lv_ladd hx hb d_Sw_offer_89 ?_
        refine hp_lol (lN_1 _) ?_
        refine hp_put hx hb hts iw_Sw t_Sw t_Sw_ok n_Sw hown hK hH hS hB f_40 rfl 3 (by decide) (hts _ kw_94) rfl  (v := .long (lN (sg_ac σ + 1))) rfl rfl (Nat.le_of_ble_eq_true rfl) (fs' := [.ref aI, .ref aO, .int (sg_sl σ), .long (lN (sg_ac σ + 1))]) rfl d_Sw_offer_90 (fun M_44 H locs eM_44 hH hS => ?_)
        have f_45 : M_44 a = some (.inr (ix_sw, [.ref aI, .ref aO, .int (sg_sl σ), .long (lN (sg_ac σ + 1))])) := by rw [eM_44]; exact va_up_self _ _ _
        have f_46 : M_44 aI = some (hp_aq D 12 8 fI) := by rw [eM_44, va_up_ne _ _ (hp_ne 102 ix_sw f_41 f_40 rfl rfl (by decide))]; exact f_41
        have f_47 : M_44 aO = some (hp_aq D 13 8 fO) := by rw [eM_44, va_up_ne _ _ (hp_ne 102 ix_sw f_42 f_40 rfl rfl (by decide))]; exact f_42
        have f_48 : M_44 q_17 = some (.inr (ix_ce, [.int (nI i), .int (nI o), .int (nI k), .int t, .long (lN (sg_ac σ)), .int 0, .long 0, .null])) := by rw [eM_44, va_up_ne _ _ (hp_ne ix_ce ix_sw f_43 f_40 rfl rfl (by decide))]; exact f_43
        have f_49 : M_44 (ip i) = some (.inr (ix_in, [.ref q_17, .int (nI (sg_held σ i + 1))])) := by rw [eM_44, va_up_ne _ _ (hp_ne ix_in ix_sw f_39 f_40 rfl rfl (by decide))]; exact f_39
        refine lv_iconst (v := 1) hx hb d_Sw_offer_93 (by decide) ?_
        exact hp_zret hx hb hr hlocks hQ hK hH hS (Nat.le_of_ble_eq_true rfl) (Nat.le_of_ble_eq_true rfl) rfl d_Sw_offer_94 (by obtain ⟨p1, p2⟩ := sw_H_offer (M1 := M_44) hP hi8 hof (o := o) (g := k) (t := t) zq_17 (by rw [eM_44, eM_38, eM_32, w_26, eM_18, hp_uu, hp_uu]; first | done | rfl); exact ⟨_, Or.inl ⟨i, o, k, hix, hiy, hiz, hof, hlt, rfl, rfl⟩, p1, p2⟩)
      · refine lv_iconst (v := 0) hx hb d_Sw_offer_49 (by decide) ?_
        exact hp_zret hx hb hr hlocks hQ hK hH hS (Nat.le_of_ble_eq_true rfl) (Nat.le_of_ble_eq_true rfl) rfl d_Sw_offer_50 ⟨σ, Or.inr ⟨(Or.inr (Or.inr (Or.inr ⟨i, hix, Or.inr (fun q => c_16 (nI_lt (b := 64) q (by decide)))⟩))), rfl, rfl⟩, hsw, sw_fr_rf⟩
