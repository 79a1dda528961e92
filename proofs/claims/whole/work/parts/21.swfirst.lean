theorem kw_17 : Cond.fieldLink R_Sw 93 "EvenSwitch$Output" "head" "LEvenSwitch$Cell;" ∈ wd_T := wd_in (List.mem_of_getElem? (i := 68) (by decide +kernel)) rfl
theorem kw_18 : Cond.fieldLink R_Sw 99 "EvenSwitch$Cell" "next" "LEvenSwitch$Cell;" ∈ wd_T := wd_in (List.mem_of_getElem? (i := 145) (by decide +kernel)) rfl
theorem kw_19 : Cond.methodLink R_Sw 84 y_Sw_cellInOrder ∈ wd_T := wd_in (List.mem_of_getElem? (i := 242) (by decide +kernel)) rfl
theorem kw_20 : Cond.code y_Sw_cellInOrder b_Sw_cellInOrder 5 (some (.object "EvenSwitch$Cell")) ∈ wd_T := wd_in (List.mem_of_getElem? (i := 245) (by decide +kernel)) rfl
theorem kw_21 : Cond.instanceMethod y_Sw_cellInOrder ∈ wd_T := wd_in (List.mem_of_getElem? (i := 244) (by decide +kernel)) rfl
theorem kw_22 : Cond.selects R_Sw y_Sw_cellInOrder y_Sw_cellInOrder ∈ wd_T := wd_in (List.mem_of_getElem? (i := 8) (by decide +kernel)) rfl
theorem kw_23 : Cond.constantLong R_Sw 88 (-1) ∈ wd_T := wd_in (List.mem_of_getElem? (i := 250) (by decide +kernel)) rfl
theorem kw_24 : Cond.fieldLink R_Sw 90 "EvenSwitch$Cell" "time" "J" ∈ wd_T := wd_in (List.mem_of_getElem? (i := 143) (by decide +kernel)) rfl
theorem d_Sw_cellInOrder_0 : decode b_Sw_cellInOrder 0 = .ok (.iload_n 1, 1) := by decide +kernel
theorem d_Sw_cellInOrder_1 : decode b_Sw_cellInOrder 1 = .ok (.invokestatic 23, 3) := by decide +kernel
theorem d_Sw_cellInOrder_4 : decode b_Sw_cellInOrder 4 = .ok (.ifCond .eq 20, 3) := by decide +kernel
theorem d_Sw_cellInOrder_7 : decode b_Sw_cellInOrder 7 = .ok (.iload_n 2, 1) := by decide +kernel
theorem d_Sw_cellInOrder_8 : decode b_Sw_cellInOrder 8 = .ok (.ifCond .lt 16, 3) := by decide +kernel
theorem d_Sw_cellInOrder_11 : decode b_Sw_cellInOrder 11 = .ok (.iload_n 2, 1) := by decide +kernel
theorem d_Sw_cellInOrder_12 : decode b_Sw_cellInOrder 12 = .ok (.aload_n 0, 1) := by decide +kernel
theorem d_Sw_cellInOrder_13 : decode b_Sw_cellInOrder 13 = .ok (.getfield 17, 3) := by decide +kernel
theorem d_Sw_cellInOrder_16 : decode b_Sw_cellInOrder 16 = .ok (.iload_n 1, 1) := by decide +kernel
theorem d_Sw_cellInOrder_17 : decode b_Sw_cellInOrder 17 = .ok (.aaload, 1) := by decide +kernel
theorem d_Sw_cellInOrder_18 : decode b_Sw_cellInOrder 18 = .ok (.getfield 27, 3) := by decide +kernel
theorem d_Sw_cellInOrder_21 : decode b_Sw_cellInOrder 21 = .ok (.if_icmp .lt 5, 3) := by decide +kernel
theorem d_Sw_cellInOrder_24 : decode b_Sw_cellInOrder 24 = .ok (.aconst_null, 1) := by decide +kernel
theorem d_Sw_cellInOrder_25 : decode b_Sw_cellInOrder 25 = .ok (.areturn, 1) := by decide +kernel
theorem d_Sw_cellInOrder_26 : decode b_Sw_cellInOrder 26 = .ok (.aload_n 0, 1) := by decide +kernel
theorem d_Sw_cellInOrder_27 : decode b_Sw_cellInOrder 27 = .ok (.getfield 17, 3) := by decide +kernel
theorem d_Sw_cellInOrder_30 : decode b_Sw_cellInOrder 30 = .ok (.iload_n 1, 1) := by decide +kernel
theorem d_Sw_cellInOrder_31 : decode b_Sw_cellInOrder 31 = .ok (.aaload, 1) := by decide +kernel
theorem d_Sw_cellInOrder_32 : decode b_Sw_cellInOrder 32 = .ok (.getfield 93, 3) := by decide +kernel
theorem d_Sw_cellInOrder_35 : decode b_Sw_cellInOrder 35 = .ok (.astore_n 3, 1) := by decide +kernel
theorem d_Sw_cellInOrder_36 : decode b_Sw_cellInOrder 36 = .ok (.iconst 0, 1) := by decide +kernel
theorem d_Sw_cellInOrder_37 : decode b_Sw_cellInOrder 37 = .ok (.istore 4, 2) := by decide +kernel
theorem d_Sw_cellInOrder_39 : decode b_Sw_cellInOrder 39 = .ok (.iload 4, 2) := by decide +kernel
theorem d_Sw_cellInOrder_41 : decode b_Sw_cellInOrder 41 = .ok (.iload_n 2, 1) := by decide +kernel
theorem d_Sw_cellInOrder_42 : decode b_Sw_cellInOrder 42 = .ok (.if_icmp .ge 18, 3) := by decide +kernel
theorem d_Sw_cellInOrder_45 : decode b_Sw_cellInOrder 45 = .ok (.aload_n 3, 1) := by decide +kernel
theorem d_Sw_cellInOrder_46 : decode b_Sw_cellInOrder 46 = .ok (.ifnull 14, 3) := by decide +kernel
theorem d_Sw_cellInOrder_49 : decode b_Sw_cellInOrder 49 = .ok (.aload_n 3, 1) := by decide +kernel
theorem d_Sw_cellInOrder_50 : decode b_Sw_cellInOrder 50 = .ok (.getfield 99, 3) := by decide +kernel
theorem d_Sw_cellInOrder_53 : decode b_Sw_cellInOrder 53 = .ok (.astore_n 3, 1) := by decide +kernel
theorem d_Sw_cellInOrder_54 : decode b_Sw_cellInOrder 54 = .ok (.iinc 4 1, 3) := by decide +kernel
theorem d_Sw_cellInOrder_57 : decode b_Sw_cellInOrder 57 = .ok (.goto (-18), 3) := by decide +kernel
theorem d_Sw_cellInOrder_60 : decode b_Sw_cellInOrder 60 = .ok (.aload_n 3, 1) := by decide +kernel
theorem d_Sw_cellInOrder_61 : decode b_Sw_cellInOrder 61 = .ok (.areturn, 1) := by decide +kernel
theorem d_Sw_first_0 : decode b_Sw_first 0 = .ok (.aload_n 0, 1) := by decide +kernel
theorem d_Sw_first_1 : decode b_Sw_first 1 = .ok (.iload_n 1, 1) := by decide +kernel
theorem d_Sw_first_2 : decode b_Sw_first 2 = .ok (.iload_n 2, 1) := by decide +kernel
theorem d_Sw_first_3 : decode b_Sw_first 3 = .ok (.invokevirtual 84, 3) := by decide +kernel
theorem d_Sw_first_6 : decode b_Sw_first 6 = .ok (.astore_n 3, 1) := by decide +kernel
theorem d_Sw_first_7 : decode b_Sw_first 7 = .ok (.aload_n 3, 1) := by decide +kernel
theorem d_Sw_first_8 : decode b_Sw_first 8 = .ok (.ifnonnull 7, 3) := by decide +kernel
theorem d_Sw_first_11 : decode b_Sw_first 11 = .ok (.iconst (-1), 1) := by decide +kernel
theorem d_Sw_first_12 : decode b_Sw_first 12 = .ok (.goto 7, 3) := by decide +kernel
theorem d_Sw_first_15 : decode b_Sw_first 15 = .ok (.aload_n 3, 1) := by decide +kernel
theorem d_Sw_first_16 : decode b_Sw_first 16 = .ok (.getfield 78, 3) := by decide +kernel
theorem d_Sw_first_19 : decode b_Sw_first 19 = .ok (.ireturn, 1) := by decide +kernel
theorem d_Sw_time_0 : decode b_Sw_time 0 = .ok (.aload_n 0, 1) := by decide +kernel
theorem d_Sw_time_1 : decode b_Sw_time 1 = .ok (.iload_n 1, 1) := by decide +kernel
theorem d_Sw_time_2 : decode b_Sw_time 2 = .ok (.iload_n 2, 1) := by decide +kernel
theorem d_Sw_time_3 : decode b_Sw_time 3 = .ok (.invokevirtual 84, 3) := by decide +kernel
theorem d_Sw_time_6 : decode b_Sw_time 6 = .ok (.astore_n 3, 1) := by decide +kernel
theorem d_Sw_time_7 : decode b_Sw_time 7 = .ok (.aload_n 3, 1) := by decide +kernel
theorem d_Sw_time_8 : decode b_Sw_time 8 = .ok (.ifnonnull 9, 3) := by decide +kernel
theorem d_Sw_time_11 : decode b_Sw_time 11 = .ok (.ldc2_w 88, 3) := by decide +kernel
theorem d_Sw_time_14 : decode b_Sw_time 14 = .ok (.goto 7, 3) := by decide +kernel
theorem d_Sw_time_17 : decode b_Sw_time 17 = .ok (.aload_n 3, 1) := by decide +kernel
theorem d_Sw_time_18 : decode b_Sw_time 18 = .ok (.getfield 90, 3) := by decide +kernel
theorem d_Sw_time_21 : decode b_Sw_time 21 = .ok (.lreturn, 1) := by decide +kernel
abbrev rm_Sw_cellInOrder : Room := { frames := 1, cells := 0, slots := 0, locals := 20 }
set_option maxHeartbeats 4000000 in
set_option maxRecDepth 100000 in
theorem cn_Sw_cellInOrder (l : Launch) (D : va_G) (B : Nat) (M : hp_M) (a : Nat) (σ : sg_S) (F : Nat → Prop) (x k : Int32) (hsw : sw_H D M a σ F) (hinv : sg_inv σ) (hac : sg_ac σ ≤ 512) : Met l y_Sw_cellInOrder (wd_c y_Sw_cellInOrder b_Sw_cellInOrder 5 (some (.object "EvenSwitch$Cell"))) rm_Sw_cellInOrder (va_Pc [.ref a, .int x, .int k] (hp_C D B M)) (va_Qq (fun (r : Option Nat) (M1 : hp_M) => M1 = M ∧ ((r = none ∧ sg_kth σ x k = none) ∨ ∃ (q : Nat) (d : sg_Ce) (nx : Option Nat), r = some q ∧ sg_kth σ x k = some d ∧ M q = some (sw_c d nx))) (hp_C D B) (hp_ub B)) 0 0 (hp_ub B) := by
  rcases sg_kth_or σ x k with hix | ⟨o, hk, rfl, hix, hneg⟩ | ⟨o, j, hk, rfl, hix, hj, rfl, hle⟩ | ⟨o, j, hk, rfl, hix, hj, rfl, hlt⟩
  · refine hp_met (by decide) (Nat.le_of_ble_eq_true rfl) ?_
    intro p e s m args below meth cd ls Q hQ hx hb hr hts hown hlocks hnm hml hK hH hS hB hl
    replace hl : lv_has ls 5 [(0, .ref a), (1, .int x), (2, .int k)] := hl
    refine lv_iload_n hx hb d_Sw_cellInOrder_0 rfl (lv_at hl 1 rfl) ?_
    refine hp_calli (hp_runS (As := [.int x]) (rest := []) hx hb hml hown (cn_Sw_isPort l D B M x) (hp_cwS 1 hts kw_1 kw_4 kw_2 kw_3 rfl rfl (by decide +kernel) ⟨(Nat.le_of_ble_eq_true rfl), (Nat.le_of_ble_eq_true rfl)⟩) hK hH rfl hl.1 rfl (Nat.le_of_ble_eq_true rfl) d_Sw_cellInOrder_1 ⟨(Nat.le_of_ble_eq_true rfl), (Nat.le_of_ble_eq_true rfl)⟩) hS (fun r_1 M_2 H locs w_3 hH hS => ?_)
    obtain ⟨eM, eR⟩ := w_3
    rw [eM] at hH
    rw [eR]
    refine lv_if_eq (tgt := 24) hx hb d_Sw_cellInOrder_4 (by decide) (fun c_4 => ?_) (fun c_4 => absurd (sg_port_none hix) c_4)
    refine lv_null hx hb d_Sw_cellInOrder_24 ?_
    exact hp_qret (v := none) hx hb hr hlocks hQ hK hH hS (Nat.le_of_ble_eq_true rfl) (Nat.le_of_ble_eq_true rfl) d_Sw_cellInOrder_25 ⟨rfl, Or.inl ⟨rfl, sg_kth_n hix⟩⟩
  · refine hp_met (by decide) (Nat.le_of_ble_eq_true rfl) ?_
    intro p e s m args below meth cd ls Q hQ hx hb hr hts hown hlocks hnm hml hK hH hS hB hl
    replace hl : lv_has ls 5 [(0, .ref a), (1, .int (nI o)), (2, .int k)] := hl
    refine lv_iload_n hx hb d_Sw_cellInOrder_0 rfl (lv_at hl 1 rfl) ?_
    refine hp_calli (hp_runS (As := [.int (nI o)]) (rest := []) hx hb hml hown (cn_Sw_isPort l D B M (nI o)) (hp_cwS 1 hts kw_1 kw_4 kw_2 kw_3 rfl rfl (by decide +kernel) ⟨(Nat.le_of_ble_eq_true rfl), (Nat.le_of_ble_eq_true rfl)⟩) hK hH rfl hl.1 rfl (Nat.le_of_ble_eq_true rfl) d_Sw_cellInOrder_1 ⟨(Nat.le_of_ble_eq_true rfl), (Nat.le_of_ble_eq_true rfl)⟩) hS (fun r_1 M_2 H locs w_3 hH hS => ?_)
    obtain ⟨eM, eR⟩ := w_3
    rw [eM] at hH
    rw [eR]
    refine lv_if_eq (tgt := 24) hx hb d_Sw_cellInOrder_4 (by decide) (fun c_4 => absurd c_4 (by rw [sg_port_some hix]; decide)) (fun c_4 => ?_)
    refine lv_iload_n hx hb d_Sw_cellInOrder_7 rfl (lv_at hl 2 rfl) ?_
    refine lv_if_lt (tgt := 24) hx hb d_Sw_cellInOrder_8 (by decide) (fun c_5 => ?_) (fun c_5 => absurd hneg c_5)
    refine lv_null hx hb d_Sw_cellInOrder_24 ?_
    exact hp_qret (v := none) hx hb hr hlocks hQ hK hH hS (Nat.le_of_ble_eq_true rfl) (Nat.le_of_ble_eq_true rfl) d_Sw_cellInOrder_25 ⟨rfl, Or.inl ⟨rfl, sg_kth_neg hneg⟩⟩
  · refine hp_met (by decide) (Nat.le_of_ble_eq_true rfl) ?_
    intro p e s m args below meth cd ls Q hQ hx hb hr hts hown hlocks hnm hml hK hH hS hB hl
    replace hl : lv_has ls 5 [(0, .ref a), (1, .int (nI o)), (2, .int (nI j))] := hl
    have hsw0 := hsw
    obtain ⟨aI, aO, fI, fO, oa, la, ip, op, sp, lp, LQ, ow, ⟨h1, h2, h3⟩, ⟨w1, w2, w3⟩, hi, ho, hf⟩ := hsw0
    obtain ⟨o1, o2, o3, ⟨ofs, o4, o4'⟩, o5, ⟨ofl, o6, o6'⟩, o7, ⟨o8, o9, o10⟩, o11⟩ := ho o hk
    refine lv_iload_n hx hb d_Sw_cellInOrder_0 rfl (lv_at hl 1 rfl) ?_
    refine hp_calli (hp_runS (As := [.int (nI o)]) (rest := []) hx hb hml hown (cn_Sw_isPort l D B M (nI o)) (hp_cwS 1 hts kw_1 kw_4 kw_2 kw_3 rfl rfl (by decide +kernel) ⟨(Nat.le_of_ble_eq_true rfl), (Nat.le_of_ble_eq_true rfl)⟩) hK hH rfl hl.1 rfl (Nat.le_of_ble_eq_true rfl) d_Sw_cellInOrder_1 ⟨(Nat.le_of_ble_eq_true rfl), (Nat.le_of_ble_eq_true rfl)⟩) hS (fun r_1 M_2 H locs w_3 hH hS => ?_)
    obtain ⟨eM, eR⟩ := w_3
    rw [eM] at hH
    rw [eR]
    refine lv_if_eq (tgt := 24) hx hb d_Sw_cellInOrder_4 (by decide) (fun c_4 => absurd c_4 (by rw [sg_port_some hix]; decide)) (fun c_4 => ?_)
    refine lv_iload_n hx hb d_Sw_cellInOrder_7 rfl (lv_at hl 2 rfl) ?_
    refine lv_if_lt (tgt := 24) hx hb d_Sw_cellInOrder_8 (by decide) (fun c_5 => absurd c_5 (nI_pos hj)) (fun c_5 => ?_)
    refine lv_iload_n hx hb d_Sw_cellInOrder_11 rfl (lv_at hl 2 rfl) ?_
    refine lv_aload_n hx hb d_Sw_cellInOrder_12 rfl (lv_at hl 0 rfl) ?_
    refine hp_get hx hb hts iw_Sw hown hK hH h1 rfl 1 (by decide) (hts _ kw_5) (v := .ref aO) rfl d_Sw_cellInOrder_13 ?_
    refine lv_iload_n hx hb d_Sw_cellInOrder_16 rfl (lv_at hl 1 rfl) ?_
    refine hp_aald hx hb hK hH h3 3 rfl o rfl hk (by decide) (ho o hk).1 d_Sw_cellInOrder_17 ?_
    refine hp_get hx hb hts iw_Ou hown hK hH o2 rfl 4 (by decide) (hts _ kw_16) (v := .int (nI (sg_qu σ o).length)) rfl d_Sw_cellInOrder_18 ?_
    refine lv_icmp_lt (tgt := 26) hx hb d_Sw_cellInOrder_21 (by decide) (fun c_6 => absurd c_6 (nI_nlt hle hj)) (fun c_6 => ?_)
    refine lv_null hx hb d_Sw_cellInOrder_24 ?_
    exact hp_qret (v := none) hx hb hr hlocks hQ hK hH hS (Nat.le_of_ble_eq_true rfl) (Nat.le_of_ble_eq_true rfl) d_Sw_cellInOrder_25 ⟨rfl, Or.inl ⟨rfl, (sg_kth_s hix hj).trans (List.getElem?_eq_none hle)⟩⟩
  · refine hp_met (by decide) (Nat.le_of_ble_eq_true rfl) ?_
    intro p e s m args below meth cd ls Q hQ hx hb hr hts hown hlocks hnm hml hK hH hS hB hl
    replace hl : lv_has ls 5 [(0, .ref a), (1, .int (nI o)), (2, .int (nI j))] := hl
    have hsw0 := hsw
    obtain ⟨aI, aO, fI, fO, oa, la, ip, op, sp, lp, LQ, ow, ⟨h1, h2, h3⟩, ⟨w1, w2, w3⟩, hi, ho, hf⟩ := hsw0
    obtain ⟨o1, o2, o3, ⟨ofs, o4, o4'⟩, o5, ⟨ofl, o6, o6'⟩, o7, ⟨o8, o9, o10⟩, o11⟩ := ho o hk
    have hlen := sg_len_le hinv hk
    refine lv_iload_n hx hb d_Sw_cellInOrder_0 rfl (lv_at hl 1 rfl) ?_
    refine hp_calli (hp_runS (As := [.int (nI o)]) (rest := []) hx hb hml hown (cn_Sw_isPort l D B M (nI o)) (hp_cwS 1 hts kw_1 kw_4 kw_2 kw_3 rfl rfl (by decide +kernel) ⟨(Nat.le_of_ble_eq_true rfl), (Nat.le_of_ble_eq_true rfl)⟩) hK hH rfl hl.1 rfl (Nat.le_of_ble_eq_true rfl) d_Sw_cellInOrder_1 ⟨(Nat.le_of_ble_eq_true rfl), (Nat.le_of_ble_eq_true rfl)⟩) hS (fun r_1 M_2 H locs w_3 hH hS => ?_)
    obtain ⟨eM, eR⟩ := w_3
    rw [eM] at hH
    rw [eR]
    refine lv_if_eq (tgt := 24) hx hb d_Sw_cellInOrder_4 (by decide) (fun c_4 => absurd c_4 (by rw [sg_port_some hix]; decide)) (fun c_4 => ?_)
    refine lv_iload_n hx hb d_Sw_cellInOrder_7 rfl (lv_at hl 2 rfl) ?_
    refine lv_if_lt (tgt := 24) hx hb d_Sw_cellInOrder_8 (by decide) (fun c_5 => absurd c_5 (nI_pos hj)) (fun c_5 => ?_)
    refine lv_iload_n hx hb d_Sw_cellInOrder_11 rfl (lv_at hl 2 rfl) ?_
    refine lv_aload_n hx hb d_Sw_cellInOrder_12 rfl (lv_at hl 0 rfl) ?_
    refine hp_get hx hb hts iw_Sw hown hK hH h1 rfl 1 (by decide) (hts _ kw_5) (v := .ref aO) rfl d_Sw_cellInOrder_13 ?_
    refine lv_iload_n hx hb d_Sw_cellInOrder_16 rfl (lv_at hl 1 rfl) ?_
    refine hp_aald hx hb hK hH h3 3 rfl o rfl hk (by decide) (ho o hk).1 d_Sw_cellInOrder_17 ?_
    refine hp_get hx hb hts iw_Ou hown hK hH o2 rfl 4 (by decide) (hts _ kw_16) (v := .int (nI (sg_qu σ o).length)) rfl d_Sw_cellInOrder_18 ?_
    refine lv_icmp_lt (tgt := 26) hx hb d_Sw_cellInOrder_21 (by decide) (fun c_6 => ?_) (fun c_6 => absurd (nI_lt hlt (by omega)) c_6)
    refine lv_aload_n hx hb d_Sw_cellInOrder_26 rfl (lv_at hl 0 rfl) ?_
    refine hp_get hx hb hts iw_Sw hown hK hH h1 rfl 1 (by decide) (hts _ kw_5) (v := .ref aO) rfl d_Sw_cellInOrder_27 ?_
    refine lv_iload_n hx hb d_Sw_cellInOrder_30 rfl (lv_at hl 1 rfl) ?_
    refine hp_aald hx hb hK hH h3 3 rfl o rfl hk (by decide) (ho o hk).1 d_Sw_cellInOrder_31 ?_
    refine hp_get hx hb hts iw_Ou hown hK hH o2 rfl 3 (by decide) (hts _ kw_17) (v := va_rf (sw_hd (LQ o) none)) rfl d_Sw_cellInOrder_32 ?_
    refine hp_astore_n (lv' := [(3, va_rf (sw_hd (LQ o) none)), (0, .ref a), (1, .int (nI o)), (2, .int (nI j))]) hx hb d_Sw_cellInOrder_35 rfl hl (by decide) rfl (fun ls hl => ?_)
    refine lv_iconst (v := 0) hx hb d_Sw_cellInOrder_36 (by decide) ?_
    refine lv_istore (lv' := [(4, .int 0), (3, va_rf (sw_hd (LQ o) none)), (0, .ref a), (1, .int (nI o)), (2, .int (nI j))]) hx hb d_Sw_cellInOrder_37 hl (by decide) (by cases (sw_hd (LQ o) none) <;> rfl) (fun ls hl => ?_)
    have Lp : ∀ (n pp : Nat) (ls : Array Slot), pp + n = j → lv_has ls 5 [(4, .int (nI pp)), (3, va_rf (sw_hd ((LQ o).drop pp) none)), (0, .ref a), (1, .int (nI o)), (2, .int (nI j))] → W p l e rm_Sw_cellInOrder s m args below meth cd H locs 0 0 Q (F0 m 39 ls []) := by
      intro n
      induction n with
      | zero =>
        intro pp ls hn hl
        obtain ⟨q, d, e1, e2, e3, hq⟩ := sw_sg_at o8 (p := pp) (by omega)
        rw [e1] at hl
        replace hl : lv_has ls 5 [(4, .int (nI pp)), (3, .ref q), (0, .ref a), (1, .int (nI o)), (2, .int (nI j))] := hl
        refine lv_iload hx hb d_Sw_cellInOrder_39 (lv_at hl 0 rfl) ?_
        refine lv_iload_n hx hb d_Sw_cellInOrder_41 rfl (lv_at hl 4 rfl) ?_
        refine lv_icmp_ge (tgt := 60) hx hb d_Sw_cellInOrder_42 (by decide) (fun c_7 => ?_) (fun c_7 => absurd (nI_le (by omega) (by omega)) c_7)
        refine lv_aload_n hx hb d_Sw_cellInOrder_60 rfl (lv_at hl 1 rfl) ?_
        exact hp_qret (v := some q) hx hb hr hlocks hQ hK hH hS (Nat.le_of_ble_eq_true rfl) (Nat.le_of_ble_eq_true rfl) d_Sw_cellInOrder_61 ⟨rfl, Or.inr ⟨q, d, _, rfl, (sg_kth_s hix hj).trans (by rw [← e3]; congr 1; omega), hq⟩⟩
      | succ n ih =>
        intro pp ls hn hl
        obtain ⟨q, d, e1, e2, e3, hq⟩ := sw_sg_at o8 (p := pp) (by omega)
        rw [e1] at hl
        replace hl : lv_has ls 5 [(4, .int (nI pp)), (3, .ref q), (0, .ref a), (1, .int (nI o)), (2, .int (nI j))] := hl
        refine lv_iload hx hb d_Sw_cellInOrder_39 (lv_at hl 0 rfl) ?_
        refine lv_iload_n hx hb d_Sw_cellInOrder_41 rfl (lv_at hl 4 rfl) ?_
        refine lv_icmp_ge (tgt := 60) hx hb d_Sw_cellInOrder_42 (by decide) (fun c_8 => absurd c_8 (nI_ge (by omega) (by omega))) (fun c_8 => ?_)
        refine lv_aload_n hx hb d_Sw_cellInOrder_45 rfl (lv_at hl 1 rfl) ?_
        refine lv_ifnull hx hb d_Sw_cellInOrder_46 ?_
        refine lv_aload_n hx hb d_Sw_cellInOrder_49 rfl (lv_at hl 1 rfl) ?_
        refine hp_get hx hb hts iw_Ce hown hK hH hq rfl 7 (by decide) (hts _ kw_18) (v := va_rf (sw_hd ((LQ o).drop (pp + 1)) none)) rfl d_Sw_cellInOrder_50 ?_
        refine hp_astore_n (lv' := [(3, va_rf (sw_hd ((LQ o).drop (pp + 1)) none)), (4, .int (nI pp)), (0, .ref a), (1, .int (nI o)), (2, .int (nI j))]) hx hb d_Sw_cellInOrder_53 rfl hl (by decide) rfl (fun ls hl => ?_)
        refine lv_iinc (v := nI (pp + 1)) (lv' := [(4, .int (nI (pp + 1))), (3, va_rf (sw_hd ((LQ o).drop (pp + 1)) none)), (0, .ref a), (1, .int (nI o)), (2, .int (nI j))]) hx hb d_Sw_cellInOrder_54 hl (k := 1) rfl (nI_1 pp) (by decide) (by cases (sw_hd ((LQ o).drop (pp + 1)) none) <;> rfl) (fun ls hl => ?_)
        refine lv_goto (tgt := 39) hx hb d_Sw_cellInOrder_57 (by decide) ?_
        exact ih (pp + 1) ls (by omega) (lv_sub hl [0, 1, 2, 3, 4] rfl)
    exact Lp j 0 ls (by omega) (lv_sub hl [0, 1, 2, 3, 4] rfl)
abbrev rm_Sw_first : Room := { frames := 2, cells := 0, slots := 0, locals := 44 }
set_option maxHeartbeats 4000000 in
set_option maxRecDepth 100000 in
theorem cn_Sw_first (l : Launch) (D : va_G) (B : Nat) (M : hp_M) (a : Nat) (σ : sg_S) (F : Nat → Prop) (x k : Int32) (hsw : sw_H D M a σ F) (hinv : sg_inv σ) (hac : sg_ac σ ≤ 512) : Met l y_Sw_first (wd_c y_Sw_first b_Sw_first 4 (some .int)) rm_Sw_first (va_Pc [.ref a, .int x, .int k] (hp_C D B M)) (va_Qi (fun (r : Int32) (M1 : hp_M) => M1 = M ∧ r = an_first σ x k) (hp_C D B) (hp_ub B)) 0 0 (hp_ub B) := by
  refine hp_met (by decide) (Nat.le_of_ble_eq_true rfl) ?_
  intro p e s m args below meth cd ls Q hQ hx hb hr hts hown hlocks hnm hml hK hH hS hB hl
  replace hl : lv_has ls 4 [(0, .ref a), (1, .int x), (2, .int k)] := hl
  have hsw0 := hsw
  obtain ⟨aI, aO, fI, fO, oa, la, ip, op, sp, lp, LQ, ow, ⟨h1, h2, h3⟩, ⟨w1, w2, w3⟩, hi, ho, hf⟩ := hsw0
  refine lv_aload_n hx hb d_Sw_first_0 rfl (lv_at hl 0 rfl) ?_
  refine lv_iload_n hx hb d_Sw_first_1 rfl (lv_at hl 1 rfl) ?_
  refine lv_iload_n hx hb d_Sw_first_2 rfl (lv_at hl 2 rfl) ?_
  refine hp_callq (hp_runV (b := a) (As := [.int x, .int k]) (rest := []) hx hb hml hown (cn_Sw_cellInOrder l D B M a σ F x k hsw hinv hac) (hp_cwV 2 hts kw_19 kw_21 kw_22 kw_2 kw_20 rfl rfl (by decide +kernel) ⟨(Nat.le_of_ble_eq_true rfl), (Nat.le_of_ble_eq_true rfl)⟩) hK hH h1 rfl rfl hl.1 rfl (Nat.le_of_ble_eq_true rfl) d_Sw_first_3 ⟨(Nat.le_of_ble_eq_true rfl), (Nat.le_of_ble_eq_true rfl)⟩) hS (fun r_1 M_2 H locs w_3 hH hS => ?_)
  rcases w_3 with ⟨eM, ⟨eR, hl2⟩ | ⟨q, d, nx, eR, hl2, hq⟩⟩
  · rw [eM] at hH
    rw [eR]
    refine lv_astore_nN (lv' := [(3, .null), (0, .ref a), (1, .int x), (2, .int k)]) hx hb d_Sw_first_6 rfl hl (by decide) rfl (fun ls hl => ?_)
    refine lv_aload_nN hx hb d_Sw_first_7 rfl (lv_at hl 0 rfl) ?_
    refine lv_ifnonnullN hx hb d_Sw_first_8 ?_
    refine lv_iconst (v := (-1)) hx hb d_Sw_first_11 (by decide) ?_
    refine lv_goto (tgt := 19) hx hb d_Sw_first_12 (by decide) ?_
    exact hp_iret hx hb hr hlocks hQ hK hH hS (Nat.le_of_ble_eq_true rfl) (Nat.le_of_ble_eq_true rfl) d_Sw_first_19 ⟨rfl, an_first_n hl2⟩
  · rw [eM] at hH
    rw [eR]
    refine lv_astore_n (lv' := [(3, .ref q), (0, .ref a), (1, .int x), (2, .int k)]) hx hb d_Sw_first_6 rfl hl (by decide) rfl (fun ls hl => ?_)
    refine lv_aload_n hx hb d_Sw_first_7 rfl (lv_at hl 0 rfl) ?_
    refine lv_ifnonnull (tgt := 15) hx hb d_Sw_first_8 (by decide) ?_
    refine lv_aload_n hx hb d_Sw_first_15 rfl (lv_at hl 0 rfl) ?_
    refine hp_get hx hb hts iw_Ce hown hK hH hq rfl 0 (by decide) (hts _ kw_12) (v := .int (nI (sg_ci d))) rfl d_Sw_first_16 ?_
    exact hp_iret hx hb hr hlocks hQ hK hH hS (Nat.le_of_ble_eq_true rfl) (Nat.le_of_ble_eq_true rfl) d_Sw_first_19 ⟨rfl, an_first_s hl2⟩
abbrev rm_Sw_time : Room := { frames := 2, cells := 0, slots := 0, locals := 44 }
set_option maxHeartbeats 4000000 in
set_option maxRecDepth 100000 in
theorem cn_Sw_time (l : Launch) (D : va_G) (B : Nat) (M : hp_M) (a : Nat) (σ : sg_S) (F : Nat → Prop) (x k : Int32) (hsw : sw_H D M a σ F) (hinv : sg_inv σ) (hac : sg_ac σ ≤ 512) : Met l y_Sw_time (wd_c y_Sw_time b_Sw_time 4 (some .long)) rm_Sw_time (va_Pc [.ref a, .int x, .int k] (hp_C D B M)) (va_Ql (fun (r : Int64) (M1 : hp_M) => M1 = M ∧ r = an_time σ x k) (hp_C D B) (hp_ub B)) 0 0 (hp_ub B) := by
  refine hp_met (by decide) (Nat.le_of_ble_eq_true rfl) ?_
  intro p e s m args below meth cd ls Q hQ hx hb hr hts hown hlocks hnm hml hK hH hS hB hl
  replace hl : lv_has ls 4 [(0, .ref a), (1, .int x), (2, .int k)] := hl
  have hsw0 := hsw
  obtain ⟨aI, aO, fI, fO, oa, la, ip, op, sp, lp, LQ, ow, ⟨h1, h2, h3⟩, ⟨w1, w2, w3⟩, hi, ho, hf⟩ := hsw0
  refine lv_aload_n hx hb d_Sw_time_0 rfl (lv_at hl 0 rfl) ?_
  refine lv_iload_n hx hb d_Sw_time_1 rfl (lv_at hl 1 rfl) ?_
  refine lv_iload_n hx hb d_Sw_time_2 rfl (lv_at hl 2 rfl) ?_
  refine hp_callq (hp_runV (b := a) (As := [.int x, .int k]) (rest := []) hx hb hml hown (cn_Sw_cellInOrder l D B M a σ F x k hsw hinv hac) (hp_cwV 2 hts kw_19 kw_21 kw_22 kw_2 kw_20 rfl rfl (by decide +kernel) ⟨(Nat.le_of_ble_eq_true rfl), (Nat.le_of_ble_eq_true rfl)⟩) hK hH h1 rfl rfl hl.1 rfl (Nat.le_of_ble_eq_true rfl) d_Sw_time_3 ⟨(Nat.le_of_ble_eq_true rfl), (Nat.le_of_ble_eq_true rfl)⟩) hS (fun r_1 M_2 H locs w_3 hH hS => ?_)
  rcases w_3 with ⟨eM, ⟨eR, hl2⟩ | ⟨q, d, nx, eR, hl2, hq⟩⟩
  · rw [eM] at hH
    rw [eR]
    refine lv_astore_nN (lv' := [(3, .null), (0, .ref a), (1, .int x), (2, .int k)]) hx hb d_Sw_time_6 rfl hl (by decide) rfl (fun ls hl => ?_)
    refine lv_aload_nN hx hb d_Sw_time_7 rfl (lv_at hl 0 rfl) ?_
    refine lv_ifnonnullN hx hb d_Sw_time_8 ?_
    refine lv_ldc2 (v := (-1)) hx hb hown (hts _ kw_23) d_Sw_time_11 ?_
    refine lv_goto (tgt := 21) hx hb d_Sw_time_14 (by decide) ?_
    exact hp_lret hx hb hr hlocks hQ hK hH hS (Nat.le_of_ble_eq_true rfl) (Nat.le_of_ble_eq_true rfl) d_Sw_time_21 ⟨rfl, an_time_n hl2⟩
  · rw [eM] at hH
    rw [eR]
    refine lv_astore_n (lv' := [(3, .ref q), (0, .ref a), (1, .int x), (2, .int k)]) hx hb d_Sw_time_6 rfl hl (by decide) rfl (fun ls hl => ?_)
    refine lv_aload_n hx hb d_Sw_time_7 rfl (lv_at hl 0 rfl) ?_
    refine lv_ifnonnull (tgt := 17) hx hb d_Sw_time_8 (by decide) ?_
    refine lv_aload_n hx hb d_Sw_time_17 rfl (lv_at hl 0 rfl) ?_
    refine hp_get hx hb hts iw_Ce hown hK hH hq rfl 6 (by decide) (hts _ kw_24) (v := .long (sg_cm d)) rfl d_Sw_time_18 ?_
    exact hp_lret hx hb hr hlocks hQ hK hH hS (Nat.le_of_ble_eq_true rfl) (Nat.le_of_ble_eq_true rfl) d_Sw_time_21 ⟨rfl, an_time_s hl2⟩
