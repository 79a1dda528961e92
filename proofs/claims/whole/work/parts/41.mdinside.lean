theorem kw_155 : Cond.fieldLink R_Md 41 "EvenSwitchModel" "offeredTo" "[I" ∈ wd_T := wd_in (List.mem_of_getElem? (i := 288) (by decide +kernel)) rfl
theorem kw_156 : Cond.methodLink R_Md 76 y_Md_insideOf ∈ wd_T := wd_in (List.mem_of_getElem? (i := 357) (by decide +kernel)) rfl
theorem kw_157 : Cond.code y_Md_insideOf b_Md_insideOf 5 (some .int) ∈ wd_T := wd_in (List.mem_of_getElem? (i := 360) (by decide +kernel)) rfl
theorem kw_158 : Cond.instanceMethod y_Md_insideOf ∈ wd_T := wd_in (List.mem_of_getElem? (i := 359) (by decide +kernel)) rfl
theorem kw_159 : Cond.selects R_Md y_Md_insideOf y_Md_insideOf ∈ wd_T := wd_in (List.mem_of_getElem? (i := 11) (by decide +kernel)) rfl
theorem d_Md_insideOf_0 : decode b_Md_insideOf 0 = .ok (.aload_n 0, 1) := by decide +kernel
theorem d_Md_insideOf_1 : decode b_Md_insideOf 1 = .ok (.getfield 41, 3) := by decide +kernel
theorem d_Md_insideOf_4 : decode b_Md_insideOf 4 = .ok (.iload_n 1, 1) := by decide +kernel
theorem d_Md_insideOf_5 : decode b_Md_insideOf 5 = .ok (.iaload, 1) := by decide +kernel
theorem d_Md_insideOf_6 : decode b_Md_insideOf 6 = .ok (.iconst (-1), 1) := by decide +kernel
theorem d_Md_insideOf_7 : decode b_Md_insideOf 7 = .ok (.if_icmp .ne 7, 3) := by decide +kernel
theorem d_Md_insideOf_10 : decode b_Md_insideOf 10 = .ok (.iconst 0, 1) := by decide +kernel
theorem d_Md_insideOf_11 : decode b_Md_insideOf 11 = .ok (.goto 4, 3) := by decide +kernel
theorem d_Md_insideOf_14 : decode b_Md_insideOf 14 = .ok (.iconst 1, 1) := by decide +kernel
theorem d_Md_insideOf_15 : decode b_Md_insideOf 15 = .ok (.istore_n 2, 1) := by decide +kernel
theorem d_Md_insideOf_16 : decode b_Md_insideOf 16 = .ok (.iconst 0, 1) := by decide +kernel
theorem d_Md_insideOf_17 : decode b_Md_insideOf 17 = .ok (.istore_n 3, 1) := by decide +kernel
theorem d_Md_insideOf_18 : decode b_Md_insideOf 18 = .ok (.iload_n 3, 1) := by decide +kernel
theorem d_Md_insideOf_19 : decode b_Md_insideOf 19 = .ok (.bipush 8, 2) := by decide +kernel
theorem d_Md_insideOf_21 : decode b_Md_insideOf 21 = .ok (.if_icmp .ge 54, 3) := by decide +kernel
theorem d_Md_insideOf_24 : decode b_Md_insideOf 24 = .ok (.iconst 0, 1) := by decide +kernel
theorem d_Md_insideOf_25 : decode b_Md_insideOf 25 = .ok (.istore 4, 2) := by decide +kernel
theorem d_Md_insideOf_27 : decode b_Md_insideOf 27 = .ok (.iload 4, 2) := by decide +kernel
theorem d_Md_insideOf_29 : decode b_Md_insideOf 29 = .ok (.aload_n 0, 1) := by decide +kernel
theorem d_Md_insideOf_30 : decode b_Md_insideOf 30 = .ok (.getfield 7, 3) := by decide +kernel
theorem d_Md_insideOf_33 : decode b_Md_insideOf 33 = .ok (.iload_n 3, 1) := by decide +kernel
theorem d_Md_insideOf_34 : decode b_Md_insideOf 34 = .ok (.iaload, 1) := by decide +kernel
theorem d_Md_insideOf_35 : decode b_Md_insideOf 35 = .ok (.if_icmp .ge 34, 3) := by decide +kernel
theorem d_Md_insideOf_38 : decode b_Md_insideOf 38 = .ok (.iload_n 2, 1) := by decide +kernel
theorem d_Md_insideOf_39 : decode b_Md_insideOf 39 = .ok (.aload_n 0, 1) := by decide +kernel
theorem d_Md_insideOf_40 : decode b_Md_insideOf 40 = .ok (.getfield 13, 3) := by decide +kernel
theorem d_Md_insideOf_43 : decode b_Md_insideOf 43 = .ok (.sipush 512, 3) := by decide +kernel
theorem d_Md_insideOf_46 : decode b_Md_insideOf 46 = .ok (.iload_n 3, 1) := by decide +kernel
theorem d_Md_insideOf_47 : decode b_Md_insideOf 47 = .ok (.imul, 1) := by decide +kernel
theorem d_Md_insideOf_48 : decode b_Md_insideOf 48 = .ok (.iload 4, 2) := by decide +kernel
theorem d_Md_insideOf_50 : decode b_Md_insideOf 50 = .ok (.iadd, 1) := by decide +kernel
theorem d_Md_insideOf_51 : decode b_Md_insideOf 51 = .ok (.iaload, 1) := by decide +kernel
theorem d_Md_insideOf_52 : decode b_Md_insideOf 52 = .ok (.iload_n 1, 1) := by decide +kernel
theorem d_Md_insideOf_53 : decode b_Md_insideOf 53 = .ok (.if_icmp .ne 7, 3) := by decide +kernel
theorem d_Md_insideOf_56 : decode b_Md_insideOf 56 = .ok (.iconst 1, 1) := by decide +kernel
theorem d_Md_insideOf_57 : decode b_Md_insideOf 57 = .ok (.goto 4, 3) := by decide +kernel
theorem d_Md_insideOf_60 : decode b_Md_insideOf 60 = .ok (.iconst 0, 1) := by decide +kernel
theorem d_Md_insideOf_61 : decode b_Md_insideOf 61 = .ok (.iadd, 1) := by decide +kernel
theorem d_Md_insideOf_62 : decode b_Md_insideOf 62 = .ok (.istore_n 2, 1) := by decide +kernel
theorem d_Md_insideOf_63 : decode b_Md_insideOf 63 = .ok (.iinc 4 1, 3) := by decide +kernel
theorem d_Md_insideOf_66 : decode b_Md_insideOf 66 = .ok (.goto (-39), 3) := by decide +kernel
theorem d_Md_insideOf_69 : decode b_Md_insideOf 69 = .ok (.iinc 3 1, 3) := by decide +kernel
theorem d_Md_insideOf_72 : decode b_Md_insideOf 72 = .ok (.goto (-54), 3) := by decide +kernel
theorem d_Md_insideOf_75 : decode b_Md_insideOf 75 = .ok (.iload_n 2, 1) := by decide +kernel
theorem d_Md_insideOf_76 : decode b_Md_insideOf 76 = .ok (.ireturn, 1) := by decide +kernel
theorem d_Md_inside_0 : decode b_Md_inside 0 = .ok (.aload_n 0, 1) := by decide +kernel
theorem d_Md_inside_1 : decode b_Md_inside 1 = .ok (.iconst 0, 1) := by decide +kernel
theorem d_Md_inside_2 : decode b_Md_inside 2 = .ok (.putfield 65, 3) := by decide +kernel
theorem d_Md_inside_5 : decode b_Md_inside 5 = .ok (.iload_n 1, 1) := by decide +kernel
theorem d_Md_inside_6 : decode b_Md_inside 6 = .ok (.invokestatic 69, 3) := by decide +kernel
theorem d_Md_inside_9 : decode b_Md_inside 9 = .ok (.ifCond .eq 11, 3) := by decide +kernel
theorem d_Md_inside_12 : decode b_Md_inside 12 = .ok (.aload_n 0, 1) := by decide +kernel
theorem d_Md_inside_13 : decode b_Md_inside 13 = .ok (.iload_n 1, 1) := by decide +kernel
theorem d_Md_inside_14 : decode b_Md_inside 14 = .ok (.invokevirtual 76, 3) := by decide +kernel
theorem d_Md_inside_17 : decode b_Md_inside 17 = .ok (.goto 4, 3) := by decide +kernel
theorem d_Md_inside_20 : decode b_Md_inside 20 = .ok (.iconst (-1), 1) := by decide +kernel
theorem d_Md_inside_21 : decode b_Md_inside 21 = .ok (.ireturn, 1) := by decide +kernel
theorem d_Md_isWanted_0 : decode b_Md_isWanted 0 = .ok (.aload_n 0, 1) := by decide +kernel
theorem d_Md_isWanted_1 : decode b_Md_isWanted 1 = .ok (.getfield 7, 3) := by decide +kernel
theorem d_Md_isWanted_4 : decode b_Md_isWanted 4 = .ok (.iload_n 1, 1) := by decide +kernel
theorem d_Md_isWanted_5 : decode b_Md_isWanted 5 = .ok (.iaload, 1) := by decide +kernel
theorem d_Md_isWanted_6 : decode b_Md_isWanted 6 = .ok (.ifCond .le 7, 3) := by decide +kernel
theorem d_Md_isWanted_9 : decode b_Md_isWanted 9 = .ok (.iconst 1, 1) := by decide +kernel
theorem d_Md_isWanted_10 : decode b_Md_isWanted 10 = .ok (.goto 4, 3) := by decide +kernel
theorem d_Md_isWanted_13 : decode b_Md_isWanted 13 = .ok (.iconst 0, 1) := by decide +kernel
theorem d_Md_isWanted_14 : decode b_Md_isWanted 14 = .ok (.istore_n 2, 1) := by decide +kernel
theorem d_Md_isWanted_15 : decode b_Md_isWanted 15 = .ok (.iconst 0, 1) := by decide +kernel
theorem d_Md_isWanted_16 : decode b_Md_isWanted 16 = .ok (.istore_n 3, 1) := by decide +kernel
theorem d_Md_isWanted_17 : decode b_Md_isWanted 17 = .ok (.iload_n 3, 1) := by decide +kernel
theorem d_Md_isWanted_18 : decode b_Md_isWanted 18 = .ok (.bipush 8, 2) := by decide +kernel
theorem d_Md_isWanted_20 : decode b_Md_isWanted 20 = .ok (.if_icmp .ge 29, 3) := by decide +kernel
theorem d_Md_isWanted_23 : decode b_Md_isWanted 23 = .ok (.iload_n 2, 1) := by decide +kernel
theorem d_Md_isWanted_24 : decode b_Md_isWanted 24 = .ok (.ifCond .ne 13, 3) := by decide +kernel
theorem d_Md_isWanted_27 : decode b_Md_isWanted 27 = .ok (.aload_n 0, 1) := by decide +kernel
theorem d_Md_isWanted_28 : decode b_Md_isWanted 28 = .ok (.getfield 41, 3) := by decide +kernel
theorem d_Md_isWanted_31 : decode b_Md_isWanted 31 = .ok (.iload_n 3, 1) := by decide +kernel
theorem d_Md_isWanted_32 : decode b_Md_isWanted 32 = .ok (.iaload, 1) := by decide +kernel
theorem d_Md_isWanted_33 : decode b_Md_isWanted 33 = .ok (.iload_n 1, 1) := by decide +kernel
theorem d_Md_isWanted_34 : decode b_Md_isWanted 34 = .ok (.if_icmp .ne 7, 3) := by decide +kernel
theorem d_Md_isWanted_37 : decode b_Md_isWanted 37 = .ok (.iconst 1, 1) := by decide +kernel
theorem d_Md_isWanted_38 : decode b_Md_isWanted 38 = .ok (.goto 4, 3) := by decide +kernel
theorem d_Md_isWanted_41 : decode b_Md_isWanted 41 = .ok (.iconst 0, 1) := by decide +kernel
theorem d_Md_isWanted_42 : decode b_Md_isWanted 42 = .ok (.istore_n 2, 1) := by decide +kernel
theorem d_Md_isWanted_43 : decode b_Md_isWanted 43 = .ok (.iinc 3 1, 3) := by decide +kernel
theorem d_Md_isWanted_46 : decode b_Md_isWanted 46 = .ok (.goto (-29), 3) := by decide +kernel
theorem d_Md_isWanted_49 : decode b_Md_isWanted 49 = .ok (.iload_n 2, 1) := by decide +kernel
theorem d_Md_isWanted_50 : decode b_Md_isWanted 50 = .ok (.ireturn, 1) := by decide +kernel
abbrev rm_Md_insideOf : Room := { frames := 0, cells := 0, slots := 0, locals := 0 }
set_option maxHeartbeats 4000000 in
set_option maxRecDepth 100000 in
theorem cn_Md_insideOf (l : Launch) (D : va_G) (B : Nat) (M : hp_M) (b : Nat) (ad : Nat → Nat) (th of sl : Int32) (ct : Nat → Nat → Int32) (cl : Nat → Nat → Int64) (σ : sg_S) (i : Nat) (hm : md_H D M b ad th of sl ct cl) (hR : mo_R σ (fun _ => sg_sl σ - 1) of sl ct cl) (hinv : sg_inv σ) (hac : sg_ac σ ≤ 512) (hsei : sg_sei σ) (hi8 : i < 8) : Met l y_Md_insideOf (wd_c y_Md_insideOf b_Md_insideOf 5 (some .int)) rm_Md_insideOf (va_Pc [.ref b, .int (nI i)] (hp_C D B M)) (va_Qi (fun (r : Int32) (M1 : hp_M) => M1 = M ∧ r = nI (sg_held σ i)) (hp_C D B) (hp_ub B)) 0 0 (hp_ub B) := by
  rcases hof : sg_of σ i with _ | d0
  · refine hp_met (by decide) (Nat.le_of_ble_eq_true rfl) ?_
    intro p e s m args below meth cd ls Q hQ hx hb hr hts hown hlocks hnm hml hK hH hS hB hl
    replace hl : lv_has ls 5 [(0, .ref b), (1, .int (nI i))] := hl
    refine lv_aload_n hx hb d_Md_insideOf_0 rfl (lv_at hl 0 rfl) ?_
    refine hp_get hx hb hts iw_Md hown hK hH hm.1 rfl 11 (by decide) (hts _ kw_155) (v := .ref (ad 10)) rfl d_Md_insideOf_1 ?_
    refine lv_iload_n hx hb d_Md_insideOf_4 rfl (lv_at hl 1 rfl) ?_
    refine hp_iald hx hb hK hH (show M (ad 10) = some (hp_ai D 8 (ct 10)) from hm.2.1 10 (by decide) (by decide) (by decide)) i rfl hi8 (by decide) (v := (ct 10 i)) rfl d_Md_insideOf_5 ?_
    refine lv_iconst (v := (-1)) hx hb d_Md_insideOf_6 (by decide) ?_
    refine lv_icmp_ne (tgt := 14) hx hb d_Md_insideOf_7 (by decide) (fun c_1 => absurd (show ct 10 i = -1 from by have := hR.2.2.2 i hi8; rw [hof] at this; exact this) c_1) (fun c_1 => ?_)
    refine lv_iconst (v := 0) hx hb d_Md_insideOf_10 (by decide) ?_
    refine lv_goto (tgt := 15) hx hb d_Md_insideOf_11 (by decide) ?_
    refine lv_istore_n (lv' := [(2, .int 0), (0, .ref b), (1, .int (nI i))]) hx hb d_Md_insideOf_15 rfl hl (by decide) rfl (fun ls hl => ?_)
    refine lv_iconst (v := 0) hx hb d_Md_insideOf_16 (by decide) ?_
    refine lv_istore_n (lv' := [(3, .int 0), (2, .int 0), (0, .ref b), (1, .int (nI i))]) hx hb d_Md_insideOf_17 rfl hl (by decide) rfl (fun ls hl => ?_)
    have In : ∀ (n k N o : Nat) (ls : Array Slot), o < 8 → k + n = (sg_qu σ o).length → (∀ ls : Array Slot, lv_has ls 5 [(3, .int (nI o)), (2, .int (nI (N + sg_cnt i ((sg_qu σ o).drop k)))), (0, .ref b), (1, .int (nI i))] → W p l e rm_Md_insideOf s m args below meth cd s.heap [] 0 0 Q (F0 m 69 ls [])) → lv_has ls 5 [(4, .int (nI k)), (2, .int (nI N)), (3, .int (nI o)), (0, .ref b), (1, .int (nI i))] → W p l e rm_Md_insideOf s m args below meth cd s.heap [] 0 0 Q (F0 m 27 ls []) := by
      intro n
      induction n with
      | zero =>
        intro k N o ls ho8 hn K hl
        have hm0 := (hR.2.2.1 o ho8).1
        have hlen := sg_len_le hinv ho8
        refine lv_iload hx hb d_Md_insideOf_27 (lv_at hl 0 rfl) ?_
        refine lv_aload_n hx hb d_Md_insideOf_29 rfl (lv_at hl 3 rfl) ?_
        refine hp_get hx hb hts iw_Md hown hK hH hm.1 rfl 1 (by decide) (hts _ kw_147) (v := .ref (ad 0)) rfl d_Md_insideOf_30 ?_
        refine lv_iload_n hx hb d_Md_insideOf_33 rfl (lv_at hl 2 rfl) ?_
        refine hp_iald hx hb hK hH (show M (ad 0) = some (hp_ai D 8 (ct 0)) from hm.2.1 0 (by decide) (by decide) (by decide)) o rfl ho8 (by decide) (v := (ct 0 o)) rfl d_Md_insideOf_34 ?_
        refine lv_icmp_ge (tgt := 69) hx hb d_Md_insideOf_35 (by decide) (fun c_2 => ?_) (fun c_2 => absurd (by rw [hm0]; exact nI_le (by omega) (by omega)) c_2)
        exact K ls (by rw [List.drop_eq_nil_of_le (by omega)]; exact lv_sub hl [2, 1, 3, 4] rfl)
      | succ n ih =>
        intro k N o ls ho8 hn K hl
        have hm0 := (hR.2.2.1 o ho8).1
        have hlen := sg_len_le hinv ho8
        obtain ⟨c, hc, hd, hcm⟩ := sg_drop (l := sg_qu σ o) (k := k) (by omega)
        have hc8 := ((hinv.1 o ho8).2.2.2 c hcm).1
        have hrow := (mo_rw ((hR.2.2.1 o ho8).2.2.2.1 k c hc)).1
        refine lv_iload hx hb d_Md_insideOf_27 (lv_at hl 0 rfl) ?_
        refine lv_aload_n hx hb d_Md_insideOf_29 rfl (lv_at hl 3 rfl) ?_
        refine hp_get hx hb hts iw_Md hown hK hH hm.1 rfl 1 (by decide) (hts _ kw_147) (v := .ref (ad 0)) rfl d_Md_insideOf_30 ?_
        refine lv_iload_n hx hb d_Md_insideOf_33 rfl (lv_at hl 2 rfl) ?_
        refine hp_iald hx hb hK hH (show M (ad 0) = some (hp_ai D 8 (ct 0)) from hm.2.1 0 (by decide) (by decide) (by decide)) o rfl ho8 (by decide) (v := (ct 0 o)) rfl d_Md_insideOf_34 ?_
        refine lv_icmp_ge (tgt := 69) hx hb d_Md_insideOf_35 (by decide) (fun c_3 => absurd c_3 (by rw [hm0]; exact nI_ge (by omega) (by omega))) (fun c_3 => ?_)
        refine lv_iload_n hx hb d_Md_insideOf_38 rfl (lv_at hl 1 rfl) ?_
        refine lv_aload_n hx hb d_Md_insideOf_39 rfl (lv_at hl 3 rfl) ?_
        refine hp_get hx hb hts iw_Md hown hK hH hm.1 rfl 2 (by decide) (hts _ kw_152) (v := .ref (ad 1)) rfl d_Md_insideOf_40 ?_
        refine lv_sipush (v := 512) hx hb d_Md_insideOf_43 (by decide) ?_
        refine lv_iload_n hx hb d_Md_insideOf_46 rfl (lv_at hl 2 rfl) ?_
        refine lv_imul hx hb d_Md_insideOf_47 ?_
        refine lv_iload hx hb d_Md_insideOf_48 (lv_at hl 0 rfl) ?_
        refine lv_iadd hx hb d_Md_insideOf_50 ?_
        refine hp_iald hx hb hK hH (show M (ad 1) = some (hp_ai D 4096 (ct 1)) from hm.2.1 1 (by decide) (by decide) (by decide)) (512 * o + k) (md_ix512 o k) (by omega) (by decide) (v := (ct 1 (512 * o + k))) rfl d_Md_insideOf_51 ?_
        refine lv_iload_n hx hb d_Md_insideOf_52 rfl (lv_at hl 4 rfl) ?_
        refine lv_icmp_ne (tgt := 60) hx hb d_Md_insideOf_53 (by decide) (fun c_4 => ?_) (fun c_4 => ?_)
        · refine lv_iconst (v := 0) hx hb d_Md_insideOf_60 (by decide) ?_
          refine lv_iadd hx hb d_Md_insideOf_61 ?_
          refine hp_ioi (Int32.add_zero _) ?_
          refine lv_istore_n (lv' := [(2, .int (nI N)), (4, .int (nI k)), (3, .int (nI o)), (0, .ref b), (1, .int (nI i))]) hx hb d_Md_insideOf_62 rfl hl (by decide) rfl (fun ls hl => ?_)
          refine lv_iinc (v := nI (k + 1)) (lv' := [(4, .int (nI (k + 1))), (2, .int (nI N)), (3, .int (nI o)), (0, .ref b), (1, .int (nI i))]) hx hb d_Md_insideOf_63 hl (k := 1) rfl (nI_1 k) (by decide) rfl (fun ls hl => ?_)
          refine lv_goto (tgt := 27) hx hb d_Md_insideOf_66 (by decide) ?_
          exact ih (k + 1) N o ls ho8 (by omega) (fun ls h => K ls (by rw [sg_cnt_drop i hd, if_neg (fun q => c_4 (by rw [hrow, q]))]; rw [Nat.zero_add]; exact h)) (lv_sub hl [0, 1, 2, 3, 4] rfl)
        · refine lv_iconst (v := 1) hx hb d_Md_insideOf_56 (by decide) ?_
          refine lv_goto (tgt := 61) hx hb d_Md_insideOf_57 (by decide) ?_
          refine lv_iadd hx hb d_Md_insideOf_61 ?_
          refine hp_ioi (nI_1 _) ?_
          refine lv_istore_n (lv' := [(2, .int (nI (N + 1))), (4, .int (nI k)), (3, .int (nI o)), (0, .ref b), (1, .int (nI i))]) hx hb d_Md_insideOf_62 rfl hl (by decide) rfl (fun ls hl => ?_)
          refine lv_iinc (v := nI (k + 1)) (lv' := [(4, .int (nI (k + 1))), (2, .int (nI (N + 1))), (3, .int (nI o)), (0, .ref b), (1, .int (nI i))]) hx hb d_Md_insideOf_63 hl (k := 1) rfl (nI_1 k) (by decide) rfl (fun ls hl => ?_)
          refine lv_goto (tgt := 27) hx hb d_Md_insideOf_66 (by decide) ?_
          exact ih (k + 1) (N + 1) o ls ho8 (by omega) (fun ls h => K ls (by rw [sg_cnt_drop i hd, if_pos ((nI_eq (by omega) (by omega)).mp (hrow.symm.trans c_4))]; rw [← Nat.add_assoc]; exact h)) (lv_sub hl [0, 1, 2, 3, 4] rfl)
    have Lp : ∀ (n o : Nat) (ls : Array Slot), o + n = 8 → lv_has ls 5 [(3, .int (nI o)), (2, .int (nI (sg_o1 (sg_of σ i) + sg_sum (fun x => sg_cnt i (sg_qu σ x)) o))), (0, .ref b), (1, .int (nI i))] → W p l e rm_Md_insideOf s m args below meth cd s.heap [] 0 0 Q (F0 m 18 ls []) := by
      intro n
      induction n with
      | zero =>
        intro o ls hn hl
        have e8 : o = 8 := by omega
        subst e8
        refine lv_iload_n hx hb d_Md_insideOf_18 rfl (lv_at hl 0 rfl) ?_
        refine lv_bipush (v := 8) hx hb d_Md_insideOf_19 (by decide) ?_
        refine lv_icmp_ge (tgt := 75) hx hb d_Md_insideOf_21 (by decide) (fun c_5 => ?_) (fun c_5 => absurd (nI_le (a := 8) (by omega) (by omega)) c_5)
        refine lv_iload_n hx hb d_Md_insideOf_75 rfl (lv_at hl 1 rfl) ?_
        exact hp_iret hx hb hr hlocks hQ hK hH hS (Nat.le_of_ble_eq_true rfl) (Nat.le_of_ble_eq_true rfl) d_Md_insideOf_76 ⟨rfl, rfl⟩
      | succ n ih =>
        intro o ls hn hl
        have ho8 : o < 8 := by omega
        refine lv_iload_n hx hb d_Md_insideOf_18 rfl (lv_at hl 0 rfl) ?_
        refine lv_bipush (v := 8) hx hb d_Md_insideOf_19 (by decide) ?_
        refine lv_icmp_ge (tgt := 75) hx hb d_Md_insideOf_21 (by decide) (fun c_6 => absurd c_6 (nI_ge (b := 8) (by omega) (by omega))) (fun c_6 => ?_)
        refine lv_iconst (v := 0) hx hb d_Md_insideOf_24 (by decide) ?_
        refine lv_istore (lv' := [(4, .int 0), (3, .int (nI o)), (2, .int (nI (sg_o1 (sg_of σ i) + sg_sum (fun x => sg_cnt i (sg_qu σ x)) o))), (0, .ref b), (1, .int (nI i))]) hx hb d_Md_insideOf_25 hl (by decide) rfl (fun ls hl => ?_)
        refine In (sg_qu σ o).length 0 _ o ls ho8 (by omega) (fun ls hl => ?_) (lv_sub hl [0, 2, 1, 3, 4] rfl)
        rw [Nat.add_assoc] at hl
        replace hl : lv_has ls 5 [(3, .int (nI o)), (2, .int (nI (sg_o1 (sg_of σ i) + sg_sum (fun x => sg_cnt i (sg_qu σ x)) (o + 1)))), (0, .ref b), (1, .int (nI i))] := hl
        refine lv_iinc (v := nI (o + 1)) (lv' := [(3, .int (nI (o + 1))), (2, .int (nI (sg_o1 (sg_of σ i) + sg_sum (fun x => sg_cnt i (sg_qu σ x)) (o + 1)))), (0, .ref b), (1, .int (nI i))]) hx hb d_Md_insideOf_69 hl (k := 0) rfl (nI_1 o) (by decide) rfl (fun ls hl => ?_)
        refine lv_goto (tgt := 18) hx hb d_Md_insideOf_72 (by decide) ?_
        exact ih (o + 1) ls (by omega) (lv_sub hl [0, 1, 2, 3] rfl)
    exact Lp 8 0 ls (by omega) (by rw [hof]; exact lv_sub hl [0, 1, 2, 3] rfl)
  · refine hp_met (by decide) (Nat.le_of_ble_eq_true rfl) ?_
    intro p e s m args below meth cd ls Q hQ hx hb hr hts hown hlocks hnm hml hK hH hS hB hl
    replace hl : lv_has ls 5 [(0, .ref b), (1, .int (nI i))] := hl
    refine lv_aload_n hx hb d_Md_insideOf_0 rfl (lv_at hl 0 rfl) ?_
    refine hp_get hx hb hts iw_Md hown hK hH hm.1 rfl 11 (by decide) (hts _ kw_155) (v := .ref (ad 10)) rfl d_Md_insideOf_1 ?_
    refine lv_iload_n hx hb d_Md_insideOf_4 rfl (lv_at hl 1 rfl) ?_
    refine hp_iald hx hb hK hH (show M (ad 10) = some (hp_ai D 8 (ct 10)) from hm.2.1 10 (by decide) (by decide) (by decide)) i rfl hi8 (by decide) (v := (ct 10 i)) rfl d_Md_insideOf_5 ?_
    refine lv_iconst (v := (-1)) hx hb d_Md_insideOf_6 (by decide) ?_
    refine lv_icmp_ne (tgt := 14) hx hb d_Md_insideOf_7 (by decide) (fun c_1 => ?_) (fun c_1 => absurd c_1 (by have := hR.2.2.2 i hi8; rw [hof] at this; rw [this.1]; exact md_m1 (by have := ((hinv.2.1 i hi8).2 _ hof).2.1; omega)))
    refine lv_iconst (v := 1) hx hb d_Md_insideOf_14 (by decide) ?_
    refine lv_istore_n (lv' := [(2, .int 1), (0, .ref b), (1, .int (nI i))]) hx hb d_Md_insideOf_15 rfl hl (by decide) rfl (fun ls hl => ?_)
    refine lv_iconst (v := 0) hx hb d_Md_insideOf_16 (by decide) ?_
    refine lv_istore_n (lv' := [(3, .int 0), (2, .int 1), (0, .ref b), (1, .int (nI i))]) hx hb d_Md_insideOf_17 rfl hl (by decide) rfl (fun ls hl => ?_)
    have In : ∀ (n k N o : Nat) (ls : Array Slot), o < 8 → k + n = (sg_qu σ o).length → (∀ ls : Array Slot, lv_has ls 5 [(3, .int (nI o)), (2, .int (nI (N + sg_cnt i ((sg_qu σ o).drop k)))), (0, .ref b), (1, .int (nI i))] → W p l e rm_Md_insideOf s m args below meth cd s.heap [] 0 0 Q (F0 m 69 ls [])) → lv_has ls 5 [(4, .int (nI k)), (2, .int (nI N)), (3, .int (nI o)), (0, .ref b), (1, .int (nI i))] → W p l e rm_Md_insideOf s m args below meth cd s.heap [] 0 0 Q (F0 m 27 ls []) := by
      intro n
      induction n with
      | zero =>
        intro k N o ls ho8 hn K hl
        have hm0 := (hR.2.2.1 o ho8).1
        have hlen := sg_len_le hinv ho8
        refine lv_iload hx hb d_Md_insideOf_27 (lv_at hl 0 rfl) ?_
        refine lv_aload_n hx hb d_Md_insideOf_29 rfl (lv_at hl 3 rfl) ?_
        refine hp_get hx hb hts iw_Md hown hK hH hm.1 rfl 1 (by decide) (hts _ kw_147) (v := .ref (ad 0)) rfl d_Md_insideOf_30 ?_
        refine lv_iload_n hx hb d_Md_insideOf_33 rfl (lv_at hl 2 rfl) ?_
        refine hp_iald hx hb hK hH (show M (ad 0) = some (hp_ai D 8 (ct 0)) from hm.2.1 0 (by decide) (by decide) (by decide)) o rfl ho8 (by decide) (v := (ct 0 o)) rfl d_Md_insideOf_34 ?_
        refine lv_icmp_ge (tgt := 69) hx hb d_Md_insideOf_35 (by decide) (fun c_2 => ?_) (fun c_2 => absurd (by rw [hm0]; exact nI_le (by omega) (by omega)) c_2)
        exact K ls (by rw [List.drop_eq_nil_of_le (by omega)]; exact lv_sub hl [2, 1, 3, 4] rfl)
      | succ n ih =>
        intro k N o ls ho8 hn K hl
        have hm0 := (hR.2.2.1 o ho8).1
        have hlen := sg_len_le hinv ho8
        obtain ⟨c, hc, hd, hcm⟩ := sg_drop (l := sg_qu σ o) (k := k) (by omega)
        have hc8 := ((hinv.1 o ho8).2.2.2 c hcm).1
        have hrow := (mo_rw ((hR.2.2.1 o ho8).2.2.2.1 k c hc)).1
        refine lv_iload hx hb d_Md_insideOf_27 (lv_at hl 0 rfl) ?_
        refine lv_aload_n hx hb d_Md_insideOf_29 rfl (lv_at hl 3 rfl) ?_
        refine hp_get hx hb hts iw_Md hown hK hH hm.1 rfl 1 (by decide) (hts _ kw_147) (v := .ref (ad 0)) rfl d_Md_insideOf_30 ?_
        refine lv_iload_n hx hb d_Md_insideOf_33 rfl (lv_at hl 2 rfl) ?_
        refine hp_iald hx hb hK hH (show M (ad 0) = some (hp_ai D 8 (ct 0)) from hm.2.1 0 (by decide) (by decide) (by decide)) o rfl ho8 (by decide) (v := (ct 0 o)) rfl d_Md_insideOf_34 ?_
        refine lv_icmp_ge (tgt := 69) hx hb d_Md_insideOf_35 (by decide) (fun c_3 => absurd c_3 (by rw [hm0]; exact nI_ge (by omega) (by omega))) (fun c_3 => ?_)
        refine lv_iload_n hx hb d_Md_insideOf_38 rfl (lv_at hl 1 rfl) ?_
        refine lv_aload_n hx hb d_Md_insideOf_39 rfl (lv_at hl 3 rfl) ?_
        refine hp_get hx hb hts iw_Md hown hK hH hm.1 rfl 2 (by decide) (hts _ kw_152) (v := .ref (ad 1)) rfl d_Md_insideOf_40 ?_
        refine lv_sipush (v := 512) hx hb d_Md_insideOf_43 (by decide) ?_
        refine lv_iload_n hx hb d_Md_insideOf_46 rfl (lv_at hl 2 rfl) ?_
        refine lv_imul hx hb d_Md_insideOf_47 ?_
        refine lv_iload hx hb d_Md_insideOf_48 (lv_at hl 0 rfl) ?_
        refine lv_iadd hx hb d_Md_insideOf_50 ?_
        refine hp_iald hx hb hK hH (show M (ad 1) = some (hp_ai D 4096 (ct 1)) from hm.2.1 1 (by decide) (by decide) (by decide)) (512 * o + k) (md_ix512 o k) (by omega) (by decide) (v := (ct 1 (512 * o + k))) rfl d_Md_insideOf_51 ?_
        refine lv_iload_n hx hb d_Md_insideOf_52 rfl (lv_at hl 4 rfl) ?_
        refine lv_icmp_ne (tgt := 60) hx hb d_Md_insideOf_53 (by decide) (fun c_4 => ?_) (fun c_4 => ?_)
        · refine lv_iconst (v := 0) hx hb d_Md_insideOf_60 (by decide) ?_
          refine lv_iadd hx hb d_Md_insideOf_61 ?_
          refine hp_ioi (Int32.add_zero _) ?_
          refine lv_istore_n (lv' := [(2, .int (nI N)), (4, .int (nI k)), (3, .int (nI o)), (0, .ref b), (1, .int (nI i))]) hx hb d_Md_insideOf_62 rfl hl (by decide) rfl (fun ls hl => ?_)
          refine lv_iinc (v := nI (k + 1)) (lv' := [(4, .int (nI (k + 1))), (2, .int (nI N)), (3, .int (nI o)), (0, .ref b), (1, .int (nI i))]) hx hb d_Md_insideOf_63 hl (k := 1) rfl (nI_1 k) (by decide) rfl (fun ls hl => ?_)
          refine lv_goto (tgt := 27) hx hb d_Md_insideOf_66 (by decide) ?_
          exact ih (k + 1) N o ls ho8 (by omega) (fun ls h => K ls (by rw [sg_cnt_drop i hd, if_neg (fun q => c_4 (by rw [hrow, q]))]; rw [Nat.zero_add]; exact h)) (lv_sub hl [0, 1, 2, 3, 4] rfl)
        · refine lv_iconst (v := 1) hx hb d_Md_insideOf_56 (by decide) ?_
          refine lv_goto (tgt := 61) hx hb d_Md_insideOf_57 (by decide) ?_
          refine lv_iadd hx hb d_Md_insideOf_61 ?_
          refine hp_ioi (nI_1 _) ?_
          refine lv_istore_n (lv' := [(2, .int (nI (N + 1))), (4, .int (nI k)), (3, .int (nI o)), (0, .ref b), (1, .int (nI i))]) hx hb d_Md_insideOf_62 rfl hl (by decide) rfl (fun ls hl => ?_)
          refine lv_iinc (v := nI (k + 1)) (lv' := [(4, .int (nI (k + 1))), (2, .int (nI (N + 1))), (3, .int (nI o)), (0, .ref b), (1, .int (nI i))]) hx hb d_Md_insideOf_63 hl (k := 1) rfl (nI_1 k) (by decide) rfl (fun ls hl => ?_)
          refine lv_goto (tgt := 27) hx hb d_Md_insideOf_66 (by decide) ?_
          exact ih (k + 1) (N + 1) o ls ho8 (by omega) (fun ls h => K ls (by rw [sg_cnt_drop i hd, if_pos ((nI_eq (by omega) (by omega)).mp (hrow.symm.trans c_4))]; rw [← Nat.add_assoc]; exact h)) (lv_sub hl [0, 1, 2, 3, 4] rfl)
    have Lp : ∀ (n o : Nat) (ls : Array Slot), o + n = 8 → lv_has ls 5 [(3, .int (nI o)), (2, .int (nI (sg_o1 (sg_of σ i) + sg_sum (fun x => sg_cnt i (sg_qu σ x)) o))), (0, .ref b), (1, .int (nI i))] → W p l e rm_Md_insideOf s m args below meth cd s.heap [] 0 0 Q (F0 m 18 ls []) := by
      intro n
      induction n with
      | zero =>
        intro o ls hn hl
        have e8 : o = 8 := by omega
        subst e8
        refine lv_iload_n hx hb d_Md_insideOf_18 rfl (lv_at hl 0 rfl) ?_
        refine lv_bipush (v := 8) hx hb d_Md_insideOf_19 (by decide) ?_
        refine lv_icmp_ge (tgt := 75) hx hb d_Md_insideOf_21 (by decide) (fun c_5 => ?_) (fun c_5 => absurd (nI_le (a := 8) (by omega) (by omega)) c_5)
        refine lv_iload_n hx hb d_Md_insideOf_75 rfl (lv_at hl 1 rfl) ?_
        exact hp_iret hx hb hr hlocks hQ hK hH hS (Nat.le_of_ble_eq_true rfl) (Nat.le_of_ble_eq_true rfl) d_Md_insideOf_76 ⟨rfl, rfl⟩
      | succ n ih =>
        intro o ls hn hl
        have ho8 : o < 8 := by omega
        refine lv_iload_n hx hb d_Md_insideOf_18 rfl (lv_at hl 0 rfl) ?_
        refine lv_bipush (v := 8) hx hb d_Md_insideOf_19 (by decide) ?_
        refine lv_icmp_ge (tgt := 75) hx hb d_Md_insideOf_21 (by decide) (fun c_6 => absurd c_6 (nI_ge (b := 8) (by omega) (by omega))) (fun c_6 => ?_)
        refine lv_iconst (v := 0) hx hb d_Md_insideOf_24 (by decide) ?_
        refine lv_istore (lv' := [(4, .int 0), (3, .int (nI o)), (2, .int (nI (sg_o1 (sg_of σ i) + sg_sum (fun x => sg_cnt i (sg_qu σ x)) o))), (0, .ref b), (1, .int (nI i))]) hx hb d_Md_insideOf_25 hl (by decide) rfl (fun ls hl => ?_)
        refine In (sg_qu σ o).length 0 _ o ls ho8 (by omega) (fun ls hl => ?_) (lv_sub hl [0, 2, 1, 3, 4] rfl)
        rw [Nat.add_assoc] at hl
        replace hl : lv_has ls 5 [(3, .int (nI o)), (2, .int (nI (sg_o1 (sg_of σ i) + sg_sum (fun x => sg_cnt i (sg_qu σ x)) (o + 1)))), (0, .ref b), (1, .int (nI i))] := hl
        refine lv_iinc (v := nI (o + 1)) (lv' := [(3, .int (nI (o + 1))), (2, .int (nI (sg_o1 (sg_of σ i) + sg_sum (fun x => sg_cnt i (sg_qu σ x)) (o + 1)))), (0, .ref b), (1, .int (nI i))]) hx hb d_Md_insideOf_69 hl (k := 0) rfl (nI_1 o) (by decide) rfl (fun ls hl => ?_)
        refine lv_goto (tgt := 18) hx hb d_Md_insideOf_72 (by decide) ?_
        exact ih (o + 1) ls (by omega) (lv_sub hl [0, 1, 2, 3] rfl)
    exact Lp 8 0 ls (by omega) (by rw [hof]; exact lv_sub hl [0, 1, 2, 3] rfl)
abbrev rm_Md_inside : Room := { frames := 1, cells := 0, slots := 0, locals := 24 }
set_option maxHeartbeats 4000000 in
set_option maxRecDepth 100000 in
theorem cn_Md_inside (l : Launch) (D : va_G) (B : Nat) (M : hp_M) (b : Nat) (ad : Nat → Nat) (th of sl : Int32) (ct : Nat → Nat → Int32) (cl : Nat → Nat → Int64) (σ : sg_S) (x : Int32) (hm : md_H D M b ad th of sl ct cl) (hR : mo_R σ (fun _ => sg_sl σ - 1) of sl ct cl) (hinv : sg_inv σ) (hac : sg_ac σ ≤ 512) (hsei : sg_sei σ) : Met l y_Md_inside (wd_c y_Md_inside b_Md_inside 2 (some .int)) rm_Md_inside (va_Pc [.ref b, .int x] (hp_C D B M)) (va_Qi (fun (r : Int32) (M1 : hp_M) => md_H D M1 b ad 0 of sl ct cl ∧ md_fr b ad M M1 ∧ r = an_inside σ x) (hp_C D B) (hp_ub B)) 0 0 (hp_ub B) := by
  rcases sg_ix_or x with ⟨hix, _⟩ | ⟨k, hk, rfl, hix⟩
  · refine hp_met (by decide) (Nat.le_of_ble_eq_true rfl) ?_
    intro p e s m args below meth cd ls Q hQ hx hb hr hts hown hlocks hnm hml hK hH hS hB hl
    replace hl : lv_has ls 2 [(0, .ref b), (1, .int x)] := hl
    have hf : md_fr b ad M M := md_fr_rf
    refine lv_aload_n hx hb d_Md_inside_0 rfl (lv_at hl 0 rfl) ?_
    refine lv_iconst (v := 0) hx hb d_Md_inside_1 (by decide) ?_
    refine hp_put hx hb hts iw_Md t_Md t_Md_ok n_Md hown hK hH hS hB hm.1 rfl 0 (by decide) (hts _ kw_134) rfl  (v := .int 0) rfl rfl (Nat.le_of_ble_eq_true rfl) (fs' := [.int 0, .ref (ad 0), .ref (ad 1), .ref (ad 2), .ref (ad 3), .ref (ad 4), .ref (ad 5), .ref (ad 6), .ref (ad 7), .ref (ad 8), .ref (ad 9), .ref (ad 10), .ref (ad 11), .ref (ad 12), .ref (ad 13), .int of, .int sl, .ref (ad 14), .ref (ad 15), .ref (ad 16)]) rfl d_Md_inside_2 (fun M_1 H locs eM_1 hH hS => ?_)
    have hm := md_pb hm (th' := 0) (of' := of) (sl' := sl) eM_1
    have hf := md_fr_b hf eM_1
    refine lv_iload_n hx hb d_Md_inside_5 rfl (lv_at hl 1 rfl) ?_
    refine hp_calli (hp_runS (As := [.int x]) (rest := []) hx hb hml hown (cn_Md_isOne l D B M_1 x) (hp_cwS 1 hts kw_136 kw_139 kw_137 kw_138 rfl rfl (by decide +kernel) ⟨(Nat.le_of_ble_eq_true rfl), (Nat.le_of_ble_eq_true rfl)⟩) hK hH rfl hl.1 rfl (Nat.le_of_ble_eq_true rfl) d_Md_inside_6 ⟨(Nat.le_of_ble_eq_true rfl), (Nat.le_of_ble_eq_true rfl)⟩) hS (fun r_2 M_3 H locs w_4 hH hS => ?_)
    obtain ⟨eM, eR⟩ := w_4
    rw [eM] at hH
    rw [eR]
    refine lv_if_eq (tgt := 20) hx hb d_Md_inside_9 (by decide) (fun c_5 => ?_) (fun c_5 => absurd (sg_port_none hix) c_5)
    refine lv_iconst (v := (-1)) hx hb d_Md_inside_20 (by decide) ?_
    exact hp_iret hx hb hr hlocks hQ hK hH hS (Nat.le_of_ble_eq_true rfl) (Nat.le_of_ble_eq_true rfl) d_Md_inside_21 ⟨hm, hf, (an_inside_n hix)⟩
  · refine hp_met (by decide) (Nat.le_of_ble_eq_true rfl) ?_
    intro p e s m args below meth cd ls Q hQ hx hb hr hts hown hlocks hnm hml hK hH hS hB hl
    replace hl : lv_has ls 2 [(0, .ref b), (1, .int (nI k))] := hl
    have hf : md_fr b ad M M := md_fr_rf
    refine lv_aload_n hx hb d_Md_inside_0 rfl (lv_at hl 0 rfl) ?_
    refine lv_iconst (v := 0) hx hb d_Md_inside_1 (by decide) ?_
    refine hp_put hx hb hts iw_Md t_Md t_Md_ok n_Md hown hK hH hS hB hm.1 rfl 0 (by decide) (hts _ kw_134) rfl  (v := .int 0) rfl rfl (Nat.le_of_ble_eq_true rfl) (fs' := [.int 0, .ref (ad 0), .ref (ad 1), .ref (ad 2), .ref (ad 3), .ref (ad 4), .ref (ad 5), .ref (ad 6), .ref (ad 7), .ref (ad 8), .ref (ad 9), .ref (ad 10), .ref (ad 11), .ref (ad 12), .ref (ad 13), .int of, .int sl, .ref (ad 14), .ref (ad 15), .ref (ad 16)]) rfl d_Md_inside_2 (fun M_1 H locs eM_1 hH hS => ?_)
    have hm := md_pb hm (th' := 0) (of' := of) (sl' := sl) eM_1
    have hf := md_fr_b hf eM_1
    refine lv_iload_n hx hb d_Md_inside_5 rfl (lv_at hl 1 rfl) ?_
    refine hp_calli (hp_runS (As := [.int (nI k)]) (rest := []) hx hb hml hown (cn_Md_isOne l D B M_1 (nI k)) (hp_cwS 1 hts kw_136 kw_139 kw_137 kw_138 rfl rfl (by decide +kernel) ⟨(Nat.le_of_ble_eq_true rfl), (Nat.le_of_ble_eq_true rfl)⟩) hK hH rfl hl.1 rfl (Nat.le_of_ble_eq_true rfl) d_Md_inside_6 ⟨(Nat.le_of_ble_eq_true rfl), (Nat.le_of_ble_eq_true rfl)⟩) hS (fun r_2 M_3 H locs w_4 hH hS => ?_)
    obtain ⟨eM, eR⟩ := w_4
    rw [eM] at hH
    rw [eR]
    refine lv_if_eq (tgt := 20) hx hb d_Md_inside_9 (by decide) (fun c_5 => absurd c_5 (by rw [sg_port_some hix]; decide)) (fun c_5 => ?_)
    refine lv_aload_n hx hb d_Md_inside_12 rfl (lv_at hl 0 rfl) ?_
    refine lv_iload_n hx hb d_Md_inside_13 rfl (lv_at hl 1 rfl) ?_
    refine hp_calli (hp_runV (b := b) (As := [.int (nI k)]) (rest := []) hx hb hml hown (cn_Md_insideOf l D B M_1 b ad 0 of sl ct cl σ k hm hR hinv hac hsei hk) (hp_cwV 1 hts kw_156 kw_158 kw_159 kw_137 kw_157 rfl rfl (by decide +kernel) ⟨(Nat.le_of_ble_eq_true rfl), (Nat.le_of_ble_eq_true rfl)⟩) hK hH hm.1 rfl rfl hl.1 rfl (Nat.le_of_ble_eq_true rfl) d_Md_inside_14 ⟨(Nat.le_of_ble_eq_true rfl), (Nat.le_of_ble_eq_true rfl)⟩) hS (fun r_6 M_7 H locs w_8 hH hS => ?_)
    obtain ⟨eM, eR⟩ := w_8
    rw [eM] at hH
    rw [eR]
    refine lv_goto (tgt := 21) hx hb d_Md_inside_17 (by decide) ?_
    exact hp_iret hx hb hr hlocks hQ hK hH hS (Nat.le_of_ble_eq_true rfl) (Nat.le_of_ble_eq_true rfl) d_Md_inside_21 ⟨hm, hf, (an_inside_s hix)⟩
abbrev rm_Md_isWanted : Room := { frames := 0, cells := 0, slots := 0, locals := 0 }
set_option maxHeartbeats 4000000 in
set_option maxRecDepth 100000 in
theorem cn_Md_isWanted (l : Launch) (D : va_G) (B : Nat) (M : hp_M) (b : Nat) (ad : Nat → Nat) (th of sl : Int32) (ct : Nat → Nat → Int32) (cl : Nat → Nat → Int64) (σ : sg_S) (o : Nat) (hm : md_H D M b ad th of sl ct cl) (hR : mo_R σ (fun _ => sg_sl σ - 1) of sl ct cl) (hinv : sg_inv σ) (hac : sg_ac σ ≤ 512) (hsei : sg_sei σ) (ho8 : o < 8) : Met l y_Md_isWanted (wd_c y_Md_isWanted b_Md_isWanted 4 (some .boolean)) rm_Md_isWanted (va_Pc [.ref b, .int (nI o)] (hp_C D B M)) (va_Qi (fun (r : Int32) (M1 : hp_M) => M1 = M ∧ ((r = 1 ∧ (sg_qu σ o ≠ [] ∨ sg_offTo σ o)) ∨ (r = 0 ∧ sg_qu σ o = [] ∧ ¬ sg_offTo σ o))) (hp_C D B) (hp_ub B)) 0 0 (hp_ub B) := by
  refine hp_met (by decide) (Nat.le_of_ble_eq_true rfl) ?_
  intro p e s m args below meth cd ls Q hQ hx hb hr hts hown hlocks hnm hml hK hH hS hB hl
  replace hl : lv_has ls 4 [(0, .ref b), (1, .int (nI o))] := hl
  have hm0 := (hR.2.2.1 o ho8).1
  have hlen := Nat.le_trans (sg_len_le hinv ho8) hac
  refine lv_aload_n hx hb d_Md_isWanted_0 rfl (lv_at hl 0 rfl) ?_
  refine hp_get hx hb hts iw_Md hown hK hH hm.1 rfl 1 (by decide) (hts _ kw_147) (v := .ref (ad 0)) rfl d_Md_isWanted_1 ?_
  refine lv_iload_n hx hb d_Md_isWanted_4 rfl (lv_at hl 1 rfl) ?_
  refine hp_iald hx hb hK hH (show M (ad 0) = some (hp_ai D 8 (ct 0)) from hm.2.1 0 (by decide) (by decide) (by decide)) o rfl ho8 (by decide) (v := (ct 0 o)) rfl d_Md_isWanted_5 ?_
  refine lv_if_le (tgt := 13) hx hb d_Md_isWanted_6 (by decide) (fun c_1 => ?_) (fun c_1 => ?_)
  · refine lv_iconst (v := 0) hx hb d_Md_isWanted_13 (by decide) ?_
    refine lv_istore_n (lv' := [(2, .int 0), (0, .ref b), (1, .int (nI o))]) hx hb d_Md_isWanted_14 rfl hl (by decide) rfl (fun ls hl => ?_)
    refine lv_iconst (v := 0) hx hb d_Md_isWanted_15 (by decide) ?_
    refine lv_istore_n (lv' := [(3, .int 0), (2, .int 0), (0, .ref b), (1, .int (nI o))]) hx hb d_Md_isWanted_16 rfl hl (by decide) rfl (fun ls hl => ?_)
    have Lp : ∀ (n i : Nat) (v : Int32) (ls : Array Slot), i + n = 8 → ((v = 1 ∧ (sg_qu σ o ≠ [] ∨ sg_offTo σ o)) ∨ (v = 0 ∧ sg_qu σ o = [] ∧ ∀ j, j < i → ∀ c, sg_of σ j = some c → sg_co c ≠ o)) → lv_has ls 4 [(3, .int (nI i)), (2, .int v), (0, .ref b), (1, .int (nI o))] → W p l e rm_Md_isWanted s m args below meth cd s.heap [] 0 0 Q (F0 m 17 ls []) := by
      intro n
      induction n with
      | zero =>
        intro i v ls hn hv hl
        have e8 : i = 8 := by omega
        subst e8
        refine lv_iload_n hx hb d_Md_isWanted_17 rfl (lv_at hl 0 rfl) ?_
        refine lv_bipush (v := 8) hx hb d_Md_isWanted_18 (by decide) ?_
        refine lv_icmp_ge (tgt := 49) hx hb d_Md_isWanted_20 (by decide) (fun c_2 => ?_) (fun c_2 => absurd (nI_le (a := 8) (by omega) (by omega)) c_2)
        refine lv_iload_n hx hb d_Md_isWanted_49 rfl (lv_at hl 1 rfl) ?_
        exact hp_zret hx hb hr hlocks hQ hK hH hS (Nat.le_of_ble_eq_true rfl) (Nat.le_of_ble_eq_true rfl) (by rcases hv with h | h <;> rw [h.1] <;> rfl) d_Md_isWanted_50 ⟨rfl, by rcases hv with ⟨h1, h2⟩ | ⟨h1, h2, h3⟩; exact Or.inl ⟨h1, h2⟩; exact Or.inr ⟨h1, h2, fun ⟨j, hj, c, hc, e⟩ => h3 j hj c hc e⟩⟩
      | succ n ih =>
        intro i v ls hn hv hl
        have hi8 : i < 8 := by omega
        rcases hv with ⟨h1, h2⟩ | ⟨h1, h2, h3⟩
        · rw [h1] at hl
          refine lv_iload_n hx hb d_Md_isWanted_17 rfl (lv_at hl 0 rfl) ?_
          refine lv_bipush (v := 8) hx hb d_Md_isWanted_18 (by decide) ?_
          refine lv_icmp_ge (tgt := 49) hx hb d_Md_isWanted_20 (by decide) (fun c_3 => absurd c_3 (nI_ge (b := 8) (by omega) (by omega))) (fun c_3 => ?_)
          refine lv_iload_n hx hb d_Md_isWanted_23 rfl (lv_at hl 1 rfl) ?_
          refine lv_if_ne (tgt := 37) hx hb d_Md_isWanted_24 (by decide) (fun c_4 => ?_) (fun c_4 => absurd c_4 (by decide))
          refine lv_iconst (v := 1) hx hb d_Md_isWanted_37 (by decide) ?_
          refine lv_goto (tgt := 42) hx hb d_Md_isWanted_38 (by decide) ?_
          refine lv_istore_n (lv' := [(2, .int 1), (3, .int (nI i)), (0, .ref b), (1, .int (nI o))]) hx hb d_Md_isWanted_42 rfl hl (by decide) rfl (fun ls hl => ?_)
          refine lv_iinc (v := nI (i + 1)) (lv' := [(3, .int (nI (i + 1))), (2, .int 1), (0, .ref b), (1, .int (nI o))]) hx hb d_Md_isWanted_43 hl (k := 1) rfl (nI_1 i) (by decide) rfl (fun ls hl => ?_)
          refine lv_goto (tgt := 17) hx hb d_Md_isWanted_46 (by decide) ?_
          exact ih (i + 1) 1 ls (by omega) (Or.inl ⟨rfl, h2⟩) (lv_sub hl [0, 1, 2, 3] rfl)
        · rw [h1] at hl
          refine lv_iload_n hx hb d_Md_isWanted_17 rfl (lv_at hl 0 rfl) ?_
          refine lv_bipush (v := 8) hx hb d_Md_isWanted_18 (by decide) ?_
          refine lv_icmp_ge (tgt := 49) hx hb d_Md_isWanted_20 (by decide) (fun c_5 => absurd c_5 (nI_ge (b := 8) (by omega) (by omega))) (fun c_5 => ?_)
          refine lv_iload_n hx hb d_Md_isWanted_23 rfl (lv_at hl 1 rfl) ?_
          refine lv_if_ne (tgt := 37) hx hb d_Md_isWanted_24 (by decide) (fun c_6 => absurd rfl c_6) (fun c_6 => ?_)
          refine lv_aload_n hx hb d_Md_isWanted_27 rfl (lv_at hl 2 rfl) ?_
          refine hp_get hx hb hts iw_Md hown hK hH hm.1 rfl 11 (by decide) (hts _ kw_155) (v := .ref (ad 10)) rfl d_Md_isWanted_28 ?_
          refine lv_iload_n hx hb d_Md_isWanted_31 rfl (lv_at hl 0 rfl) ?_
          refine hp_iald hx hb hK hH (show M (ad 10) = some (hp_ai D 8 (ct 10)) from hm.2.1 10 (by decide) (by decide) (by decide)) i rfl hi8 (by decide) (v := (ct 10 i)) rfl d_Md_isWanted_32 ?_
          refine lv_iload_n hx hb d_Md_isWanted_33 rfl (lv_at hl 3 rfl) ?_
          refine lv_icmp_ne (tgt := 41) hx hb d_Md_isWanted_34 (by decide) (fun c_7 => ?_) (fun c_7 => ?_)
          · refine lv_iconst (v := 0) hx hb d_Md_isWanted_41 (by decide) ?_
            refine lv_istore_n (lv' := [(2, .int 0), (3, .int (nI i)), (0, .ref b), (1, .int (nI o))]) hx hb d_Md_isWanted_42 rfl hl (by decide) rfl (fun ls hl => ?_)
            refine lv_iinc (v := nI (i + 1)) (lv' := [(3, .int (nI (i + 1))), (2, .int 0), (0, .ref b), (1, .int (nI o))]) hx hb d_Md_isWanted_43 hl (k := 1) rfl (nI_1 i) (by decide) rfl (fun ls hl => ?_)
            refine lv_goto (tgt := 17) hx hb d_Md_isWanted_46 (by decide) ?_
            exact ih (i + 1) 0 ls (by omega) (Or.inr ⟨rfl, h2, fun j hj c hc => by rcases Nat.lt_succ_iff_lt_or_eq.mp hj with w | w; exact h3 j w c hc; subst w; intro q; have := hR.2.2.2 j hi8; rw [hc] at this; exact c_7 (by rw [← q]; exact this.1)⟩) (lv_sub hl [0, 1, 2, 3] rfl)
          · refine lv_iconst (v := 1) hx hb d_Md_isWanted_37 (by decide) ?_
            refine lv_goto (tgt := 42) hx hb d_Md_isWanted_38 (by decide) ?_
            refine lv_istore_n (lv' := [(2, .int 1), (3, .int (nI i)), (0, .ref b), (1, .int (nI o))]) hx hb d_Md_isWanted_42 rfl hl (by decide) rfl (fun ls hl => ?_)
            refine lv_iinc (v := nI (i + 1)) (lv' := [(3, .int (nI (i + 1))), (2, .int 1), (0, .ref b), (1, .int (nI o))]) hx hb d_Md_isWanted_43 hl (k := 1) rfl (nI_1 i) (by decide) rfl (fun ls hl => ?_)
            refine lv_goto (tgt := 17) hx hb d_Md_isWanted_46 (by decide) ?_
            exact ih (i + 1) 1 ls (by omega) (Or.inl ⟨rfl, Or.inr (by obtain ⟨d, e1, e2, -⟩ := mo_nm1 (hR.2.2.2 i hi8) (by rw [c_7]; exact md_m1 (by omega)); exact ⟨i, hi8, d, e1, (nI_eq (by have := ((hinv.2.1 i hi8).2 d e1).2.1; omega) (by omega)).mp (e2.symm.trans c_7)⟩)⟩) (lv_sub hl [0, 1, 2, 3] rfl)
    exact Lp 8 0 _ ls (by omega) (Or.inr ⟨rfl, sw_len0 hlen (fun q => absurd (by rw [← hm0] at q; exact q) (Int32.not_lt.mpr c_1)), fun j hj => absurd hj (Nat.not_lt_zero j)⟩) (lv_sub hl [0, 1, 2, 3] rfl)
  · refine lv_iconst (v := 1) hx hb d_Md_isWanted_9 (by decide) ?_
    refine lv_goto (tgt := 14) hx hb d_Md_isWanted_10 (by decide) ?_
    refine lv_istore_n (lv' := [(2, .int 1), (0, .ref b), (1, .int (nI o))]) hx hb d_Md_isWanted_14 rfl hl (by decide) rfl (fun ls hl => ?_)
    refine lv_iconst (v := 0) hx hb d_Md_isWanted_15 (by decide) ?_
    refine lv_istore_n (lv' := [(3, .int 0), (2, .int 1), (0, .ref b), (1, .int (nI o))]) hx hb d_Md_isWanted_16 rfl hl (by decide) rfl (fun ls hl => ?_)
    have Lp : ∀ (n i : Nat) (v : Int32) (ls : Array Slot), i + n = 8 → ((v = 1 ∧ (sg_qu σ o ≠ [] ∨ sg_offTo σ o)) ∨ (v = 0 ∧ sg_qu σ o = [] ∧ ∀ j, j < i → ∀ c, sg_of σ j = some c → sg_co c ≠ o)) → lv_has ls 4 [(3, .int (nI i)), (2, .int v), (0, .ref b), (1, .int (nI o))] → W p l e rm_Md_isWanted s m args below meth cd s.heap [] 0 0 Q (F0 m 17 ls []) := by
      intro n
      induction n with
      | zero =>
        intro i v ls hn hv hl
        have e8 : i = 8 := by omega
        subst e8
        refine lv_iload_n hx hb d_Md_isWanted_17 rfl (lv_at hl 0 rfl) ?_
        refine lv_bipush (v := 8) hx hb d_Md_isWanted_18 (by decide) ?_
        refine lv_icmp_ge (tgt := 49) hx hb d_Md_isWanted_20 (by decide) (fun c_8 => ?_) (fun c_8 => absurd (nI_le (a := 8) (by omega) (by omega)) c_8)
        refine lv_iload_n hx hb d_Md_isWanted_49 rfl (lv_at hl 1 rfl) ?_
        exact hp_zret hx hb hr hlocks hQ hK hH hS (Nat.le_of_ble_eq_true rfl) (Nat.le_of_ble_eq_true rfl) (by rcases hv with h | h <;> rw [h.1] <;> rfl) d_Md_isWanted_50 ⟨rfl, by rcases hv with ⟨h1, h2⟩ | ⟨h1, h2, h3⟩; exact Or.inl ⟨h1, h2⟩; exact Or.inr ⟨h1, h2, fun ⟨j, hj, c, hc, e⟩ => h3 j hj c hc e⟩⟩
      | succ n ih =>
        intro i v ls hn hv hl
        have hi8 : i < 8 := by omega
        rcases hv with ⟨h1, h2⟩ | ⟨h1, h2, h3⟩
        · rw [h1] at hl
          refine lv_iload_n hx hb d_Md_isWanted_17 rfl (lv_at hl 0 rfl) ?_
          refine lv_bipush (v := 8) hx hb d_Md_isWanted_18 (by decide) ?_
          refine lv_icmp_ge (tgt := 49) hx hb d_Md_isWanted_20 (by decide) (fun c_9 => absurd c_9 (nI_ge (b := 8) (by omega) (by omega))) (fun c_9 => ?_)
          refine lv_iload_n hx hb d_Md_isWanted_23 rfl (lv_at hl 1 rfl) ?_
          refine lv_if_ne (tgt := 37) hx hb d_Md_isWanted_24 (by decide) (fun c_10 => ?_) (fun c_10 => absurd c_10 (by decide))
          refine lv_iconst (v := 1) hx hb d_Md_isWanted_37 (by decide) ?_
          refine lv_goto (tgt := 42) hx hb d_Md_isWanted_38 (by decide) ?_
          refine lv_istore_n (lv' := [(2, .int 1), (3, .int (nI i)), (0, .ref b), (1, .int (nI o))]) hx hb d_Md_isWanted_42 rfl hl (by decide) rfl (fun ls hl => ?_)
          refine lv_iinc (v := nI (i + 1)) (lv' := [(3, .int (nI (i + 1))), (2, .int 1), (0, .ref b), (1, .int (nI o))]) hx hb d_Md_isWanted_43 hl (k := 1) rfl (nI_1 i) (by decide) rfl (fun ls hl => ?_)
          refine lv_goto (tgt := 17) hx hb d_Md_isWanted_46 (by decide) ?_
          exact ih (i + 1) 1 ls (by omega) (Or.inl ⟨rfl, h2⟩) (lv_sub hl [0, 1, 2, 3] rfl)
        · rw [h1] at hl
          refine lv_iload_n hx hb d_Md_isWanted_17 rfl (lv_at hl 0 rfl) ?_
          refine lv_bipush (v := 8) hx hb d_Md_isWanted_18 (by decide) ?_
          refine lv_icmp_ge (tgt := 49) hx hb d_Md_isWanted_20 (by decide) (fun c_11 => absurd c_11 (nI_ge (b := 8) (by omega) (by omega))) (fun c_11 => ?_)
          refine lv_iload_n hx hb d_Md_isWanted_23 rfl (lv_at hl 1 rfl) ?_
          refine lv_if_ne (tgt := 37) hx hb d_Md_isWanted_24 (by decide) (fun c_12 => absurd rfl c_12) (fun c_12 => ?_)
          refine lv_aload_n hx hb d_Md_isWanted_27 rfl (lv_at hl 2 rfl) ?_
          refine hp_get hx hb hts iw_Md hown hK hH hm.1 rfl 11 (by decide) (hts _ kw_155) (v := .ref (ad 10)) rfl d_Md_isWanted_28 ?_
          refine lv_iload_n hx hb d_Md_isWanted_31 rfl (lv_at hl 0 rfl) ?_
          refine hp_iald hx hb hK hH (show M (ad 10) = some (hp_ai D 8 (ct 10)) from hm.2.1 10 (by decide) (by decide) (by decide)) i rfl hi8 (by decide) (v := (ct 10 i)) rfl d_Md_isWanted_32 ?_
          refine lv_iload_n hx hb d_Md_isWanted_33 rfl (lv_at hl 3 rfl) ?_
          refine lv_icmp_ne (tgt := 41) hx hb d_Md_isWanted_34 (by decide) (fun c_13 => ?_) (fun c_13 => ?_)
          · refine lv_iconst (v := 0) hx hb d_Md_isWanted_41 (by decide) ?_
            refine lv_istore_n (lv' := [(2, .int 0), (3, .int (nI i)), (0, .ref b), (1, .int (nI o))]) hx hb d_Md_isWanted_42 rfl hl (by decide) rfl (fun ls hl => ?_)
            refine lv_iinc (v := nI (i + 1)) (lv' := [(3, .int (nI (i + 1))), (2, .int 0), (0, .ref b), (1, .int (nI o))]) hx hb d_Md_isWanted_43 hl (k := 1) rfl (nI_1 i) (by decide) rfl (fun ls hl => ?_)
            refine lv_goto (tgt := 17) hx hb d_Md_isWanted_46 (by decide) ?_
            exact ih (i + 1) 0 ls (by omega) (Or.inr ⟨rfl, h2, fun j hj c hc => by rcases Nat.lt_succ_iff_lt_or_eq.mp hj with w | w; exact h3 j w c hc; subst w; intro q; have := hR.2.2.2 j hi8; rw [hc] at this; exact c_13 (by rw [← q]; exact this.1)⟩) (lv_sub hl [0, 1, 2, 3] rfl)
          · refine lv_iconst (v := 1) hx hb d_Md_isWanted_37 (by decide) ?_
            refine lv_goto (tgt := 42) hx hb d_Md_isWanted_38 (by decide) ?_
            refine lv_istore_n (lv' := [(2, .int 1), (3, .int (nI i)), (0, .ref b), (1, .int (nI o))]) hx hb d_Md_isWanted_42 rfl hl (by decide) rfl (fun ls hl => ?_)
            refine lv_iinc (v := nI (i + 1)) (lv' := [(3, .int (nI (i + 1))), (2, .int 1), (0, .ref b), (1, .int (nI o))]) hx hb d_Md_isWanted_43 hl (k := 1) rfl (nI_1 i) (by decide) rfl (fun ls hl => ?_)
            refine lv_goto (tgt := 17) hx hb d_Md_isWanted_46 (by decide) ?_
            exact ih (i + 1) 1 ls (by omega) (Or.inl ⟨rfl, Or.inr (by obtain ⟨d, e1, e2, -⟩ := mo_nm1 (hR.2.2.2 i hi8) (by rw [c_13]; exact md_m1 (by omega)); exact ⟨i, hi8, d, e1, (nI_eq (by have := ((hinv.2.1 i hi8).2 d e1).2.1; omega) (by omega)).mp (e2.symm.trans c_13)⟩)⟩) (lv_sub hl [0, 1, 2, 3] rfl)
    exact Lp 8 0 _ ls (by omega) (Or.inl ⟨rfl, Or.inl (fun q => c_1 (by rw [hm0, q]; decide))⟩) (lv_sub hl [0, 1, 2, 3] rfl)
