theorem kw_180 : Cond.constantLong R_Md 83 256 ∈ wd_T := wd_in (List.mem_of_getElem? (i := 373) (by decide +kernel)) rfl
theorem kw_181 : Cond.constant R_Md 88 65535 ∈ wd_T := wd_in (List.mem_of_getElem? (i := 374) (by decide +kernel)) rfl
theorem d_Md_copy_0 : decode b_Md_copy 0 = .ok (.aload_n 0, 1) := by decide +kernel
theorem d_Md_copy_1 : decode b_Md_copy 1 = .ok (.getfield 13, 3) := by decide +kernel
theorem d_Md_copy_4 : decode b_Md_copy 4 = .ok (.iload_n 2, 1) := by decide +kernel
theorem d_Md_copy_5 : decode b_Md_copy 5 = .ok (.aload_n 0, 1) := by decide +kernel
theorem d_Md_copy_6 : decode b_Md_copy 6 = .ok (.getfield 13, 3) := by decide +kernel
theorem d_Md_copy_9 : decode b_Md_copy 9 = .ok (.iload_n 1, 1) := by decide +kernel
theorem d_Md_copy_10 : decode b_Md_copy 10 = .ok (.iaload, 1) := by decide +kernel
theorem d_Md_copy_11 : decode b_Md_copy 11 = .ok (.iastore, 1) := by decide +kernel
theorem d_Md_copy_12 : decode b_Md_copy 12 = .ok (.aload_n 0, 1) := by decide +kernel
theorem d_Md_copy_13 : decode b_Md_copy 13 = .ok (.getfield 16, 3) := by decide +kernel
theorem d_Md_copy_16 : decode b_Md_copy 16 = .ok (.iload_n 2, 1) := by decide +kernel
theorem d_Md_copy_17 : decode b_Md_copy 17 = .ok (.aload_n 0, 1) := by decide +kernel
theorem d_Md_copy_18 : decode b_Md_copy 18 = .ok (.getfield 16, 3) := by decide +kernel
theorem d_Md_copy_21 : decode b_Md_copy 21 = .ok (.iload_n 1, 1) := by decide +kernel
theorem d_Md_copy_22 : decode b_Md_copy 22 = .ok (.iaload, 1) := by decide +kernel
theorem d_Md_copy_23 : decode b_Md_copy 23 = .ok (.iastore, 1) := by decide +kernel
theorem d_Md_copy_24 : decode b_Md_copy 24 = .ok (.aload_n 0, 1) := by decide +kernel
theorem d_Md_copy_25 : decode b_Md_copy 25 = .ok (.getfield 19, 3) := by decide +kernel
theorem d_Md_copy_28 : decode b_Md_copy 28 = .ok (.iload_n 2, 1) := by decide +kernel
theorem d_Md_copy_29 : decode b_Md_copy 29 = .ok (.aload_n 0, 1) := by decide +kernel
theorem d_Md_copy_30 : decode b_Md_copy 30 = .ok (.getfield 19, 3) := by decide +kernel
theorem d_Md_copy_33 : decode b_Md_copy 33 = .ok (.iload_n 1, 1) := by decide +kernel
theorem d_Md_copy_34 : decode b_Md_copy 34 = .ok (.iaload, 1) := by decide +kernel
theorem d_Md_copy_35 : decode b_Md_copy 35 = .ok (.iastore, 1) := by decide +kernel
theorem d_Md_copy_36 : decode b_Md_copy 36 = .ok (.aload_n 0, 1) := by decide +kernel
theorem d_Md_copy_37 : decode b_Md_copy 37 = .ok (.getfield 22, 3) := by decide +kernel
theorem d_Md_copy_40 : decode b_Md_copy 40 = .ok (.iload_n 2, 1) := by decide +kernel
theorem d_Md_copy_41 : decode b_Md_copy 41 = .ok (.aload_n 0, 1) := by decide +kernel
theorem d_Md_copy_42 : decode b_Md_copy 42 = .ok (.getfield 22, 3) := by decide +kernel
theorem d_Md_copy_45 : decode b_Md_copy 45 = .ok (.iload_n 1, 1) := by decide +kernel
theorem d_Md_copy_46 : decode b_Md_copy 46 = .ok (.laload, 1) := by decide +kernel
theorem d_Md_copy_47 : decode b_Md_copy 47 = .ok (.lastore, 1) := by decide +kernel
theorem d_Md_copy_48 : decode b_Md_copy 48 = .ok (.aload_n 0, 1) := by decide +kernel
theorem d_Md_copy_49 : decode b_Md_copy 49 = .ok (.getfield 26, 3) := by decide +kernel
theorem d_Md_copy_52 : decode b_Md_copy 52 = .ok (.iload_n 2, 1) := by decide +kernel
theorem d_Md_copy_53 : decode b_Md_copy 53 = .ok (.aload_n 0, 1) := by decide +kernel
theorem d_Md_copy_54 : decode b_Md_copy 54 = .ok (.getfield 26, 3) := by decide +kernel
theorem d_Md_copy_57 : decode b_Md_copy 57 = .ok (.iload_n 1, 1) := by decide +kernel
theorem d_Md_copy_58 : decode b_Md_copy 58 = .ok (.iaload, 1) := by decide +kernel
theorem d_Md_copy_59 : decode b_Md_copy 59 = .ok (.iastore, 1) := by decide +kernel
theorem d_Md_copy_60 : decode b_Md_copy 60 = .ok (.aload_n 0, 1) := by decide +kernel
theorem d_Md_copy_61 : decode b_Md_copy 61 = .ok (.getfield 29, 3) := by decide +kernel
theorem d_Md_copy_64 : decode b_Md_copy 64 = .ok (.iload_n 2, 1) := by decide +kernel
theorem d_Md_copy_65 : decode b_Md_copy 65 = .ok (.aload_n 0, 1) := by decide +kernel
theorem d_Md_copy_66 : decode b_Md_copy 66 = .ok (.getfield 29, 3) := by decide +kernel
theorem d_Md_copy_69 : decode b_Md_copy 69 = .ok (.iload_n 1, 1) := by decide +kernel
theorem d_Md_copy_70 : decode b_Md_copy 70 = .ok (.iaload, 1) := by decide +kernel
theorem d_Md_copy_71 : decode b_Md_copy 71 = .ok (.iastore, 1) := by decide +kernel
theorem d_Md_copy_72 : decode b_Md_copy 72 = .ok (.return_, 1) := by decide +kernel
theorem d_Md_timeOf_0 : decode b_Md_timeOf 0 = .ok (.bipush 8, 2) := by decide +kernel
theorem d_Md_timeOf_2 : decode b_Md_timeOf 2 = .ok (.iload_n 1, 1) := by decide +kernel
theorem d_Md_timeOf_3 : decode b_Md_timeOf 3 = .ok (.imul, 1) := by decide +kernel
theorem d_Md_timeOf_4 : decode b_Md_timeOf 4 = .ok (.iload_n 2, 1) := by decide +kernel
theorem d_Md_timeOf_5 : decode b_Md_timeOf 5 = .ok (.iadd, 1) := by decide +kernel
theorem d_Md_timeOf_6 : decode b_Md_timeOf 6 = .ok (.istore_n 3, 1) := by decide +kernel
theorem d_Md_timeOf_7 : decode b_Md_timeOf 7 = .ok (.ldc2_w 83, 3) := by decide +kernel
theorem d_Md_timeOf_10 : decode b_Md_timeOf 10 = .ok (.aload_n 0, 1) := by decide +kernel
theorem d_Md_timeOf_11 : decode b_Md_timeOf 11 = .ok (.getfield 85, 3) := by decide +kernel
theorem d_Md_timeOf_14 : decode b_Md_timeOf 14 = .ok (.i2l, 1) := by decide +kernel
theorem d_Md_timeOf_15 : decode b_Md_timeOf 15 = .ok (.lmul, 1) := by decide +kernel
theorem d_Md_timeOf_16 : decode b_Md_timeOf 16 = .ok (.lstore 4, 2) := by decide +kernel
theorem d_Md_timeOf_18 : decode b_Md_timeOf 18 = .ok (.aload_n 0, 1) := by decide +kernel
theorem d_Md_timeOf_19 : decode b_Md_timeOf 19 = .ok (.getfield 38, 3) := by decide +kernel
theorem d_Md_timeOf_22 : decode b_Md_timeOf 22 = .ok (.iload_n 3, 1) := by decide +kernel
theorem d_Md_timeOf_23 : decode b_Md_timeOf 23 = .ok (.laload, 1) := by decide +kernel
theorem d_Md_timeOf_24 : decode b_Md_timeOf 24 = .ok (.lload 4, 2) := by decide +kernel
theorem d_Md_timeOf_26 : decode b_Md_timeOf 26 = .ok (.lcmp, 1) := by decide +kernel
theorem d_Md_timeOf_27 : decode b_Md_timeOf 27 = .ok (.ifCond .le 11, 3) := by decide +kernel
theorem d_Md_timeOf_30 : decode b_Md_timeOf 30 = .ok (.aload_n 0, 1) := by decide +kernel
theorem d_Md_timeOf_31 : decode b_Md_timeOf 31 = .ok (.getfield 38, 3) := by decide +kernel
theorem d_Md_timeOf_34 : decode b_Md_timeOf 34 = .ok (.iload_n 3, 1) := by decide +kernel
theorem d_Md_timeOf_35 : decode b_Md_timeOf 35 = .ok (.laload, 1) := by decide +kernel
theorem d_Md_timeOf_36 : decode b_Md_timeOf 36 = .ok (.lstore 4, 2) := by decide +kernel
theorem d_Md_timeOf_38 : decode b_Md_timeOf 38 = .ok (.lload 4, 2) := by decide +kernel
theorem d_Md_timeOf_40 : decode b_Md_timeOf 40 = .ok (.ldc 88, 2) := by decide +kernel
theorem d_Md_timeOf_42 : decode b_Md_timeOf 42 = .ok (.aload_n 0, 1) := by decide +kernel
theorem d_Md_timeOf_43 : decode b_Md_timeOf 43 = .ok (.getfield 35, 3) := by decide +kernel
theorem d_Md_timeOf_46 : decode b_Md_timeOf 46 = .ok (.iload_n 3, 1) := by decide +kernel
theorem d_Md_timeOf_47 : decode b_Md_timeOf 47 = .ok (.iaload, 1) := by decide +kernel
theorem d_Md_timeOf_48 : decode b_Md_timeOf 48 = .ok (.iadd, 1) := by decide +kernel
theorem d_Md_timeOf_49 : decode b_Md_timeOf 49 = .ok (.aload_n 0, 1) := by decide +kernel
theorem d_Md_timeOf_50 : decode b_Md_timeOf 50 = .ok (.getfield 35, 3) := by decide +kernel
theorem d_Md_timeOf_53 : decode b_Md_timeOf 53 = .ok (.iload_n 3, 1) := by decide +kernel
theorem d_Md_timeOf_54 : decode b_Md_timeOf 54 = .ok (.iaload, 1) := by decide +kernel
theorem d_Md_timeOf_55 : decode b_Md_timeOf 55 = .ok (.idiv, 1) := by decide +kernel
theorem d_Md_timeOf_56 : decode b_Md_timeOf 56 = .ok (.i2l, 1) := by decide +kernel
theorem d_Md_timeOf_57 : decode b_Md_timeOf 57 = .ok (.ladd, 1) := by decide +kernel
theorem d_Md_timeOf_58 : decode b_Md_timeOf 58 = .ok (.lreturn, 1) := by decide +kernel
theorem d_Md_isBehind_0 : decode b_Md_isBehind 0 = .ok (.aload_n 0, 1) := by decide +kernel
theorem d_Md_isBehind_1 : decode b_Md_isBehind 1 = .ok (.getfield 32, 3) := by decide +kernel
theorem d_Md_isBehind_4 : decode b_Md_isBehind 4 = .ok (.iload_n 1, 1) := by decide +kernel
theorem d_Md_isBehind_5 : decode b_Md_isBehind 5 = .ok (.iaload, 1) := by decide +kernel
theorem d_Md_isBehind_6 : decode b_Md_isBehind 6 = .ok (.ifCond .ne 5, 3) := by decide +kernel
theorem d_Md_isBehind_9 : decode b_Md_isBehind 9 = .ok (.iconst 1, 1) := by decide +kernel
theorem d_Md_isBehind_10 : decode b_Md_isBehind 10 = .ok (.ireturn, 1) := by decide +kernel
theorem d_Md_isBehind_11 : decode b_Md_isBehind 11 = .ok (.aload_n 0, 1) := by decide +kernel
theorem d_Md_isBehind_12 : decode b_Md_isBehind 12 = .ok (.getfield 32, 3) := by decide +kernel
theorem d_Md_isBehind_15 : decode b_Md_isBehind 15 = .ok (.iload_n 1, 1) := by decide +kernel
theorem d_Md_isBehind_16 : decode b_Md_isBehind 16 = .ok (.iaload, 1) := by decide +kernel
theorem d_Md_isBehind_17 : decode b_Md_isBehind 17 = .ok (.iconst 1, 1) := by decide +kernel
theorem d_Md_isBehind_18 : decode b_Md_isBehind 18 = .ok (.if_icmp .ne 21, 3) := by decide +kernel
theorem d_Md_isBehind_21 : decode b_Md_isBehind 21 = .ok (.aload_n 0, 1) := by decide +kernel
theorem d_Md_isBehind_22 : decode b_Md_isBehind 22 = .ok (.getfield 16, 3) := by decide +kernel
theorem d_Md_isBehind_25 : decode b_Md_isBehind 25 = .ok (.iload_n 2, 1) := by decide +kernel
theorem d_Md_isBehind_26 : decode b_Md_isBehind 26 = .ok (.iaload, 1) := by decide +kernel
theorem d_Md_isBehind_27 : decode b_Md_isBehind 27 = .ok (.iload_n 3, 1) := by decide +kernel
theorem d_Md_isBehind_28 : decode b_Md_isBehind 28 = .ok (.if_icmp .gt 7, 3) := by decide +kernel
theorem d_Md_isBehind_31 : decode b_Md_isBehind 31 = .ok (.iconst 1, 1) := by decide +kernel
theorem d_Md_isBehind_32 : decode b_Md_isBehind 32 = .ok (.goto 24, 3) := by decide +kernel
theorem d_Md_isBehind_35 : decode b_Md_isBehind 35 = .ok (.iconst 0, 1) := by decide +kernel
theorem d_Md_isBehind_36 : decode b_Md_isBehind 36 = .ok (.goto 20, 3) := by decide +kernel
theorem d_Md_isBehind_39 : decode b_Md_isBehind 39 = .ok (.aload_n 0, 1) := by decide +kernel
theorem d_Md_isBehind_40 : decode b_Md_isBehind 40 = .ok (.getfield 22, 3) := by decide +kernel
theorem d_Md_isBehind_43 : decode b_Md_isBehind 43 = .ok (.iload_n 2, 1) := by decide +kernel
theorem d_Md_isBehind_44 : decode b_Md_isBehind 44 = .ok (.laload, 1) := by decide +kernel
theorem d_Md_isBehind_45 : decode b_Md_isBehind 45 = .ok (.lload 4, 2) := by decide +kernel
theorem d_Md_isBehind_47 : decode b_Md_isBehind 47 = .ok (.lcmp, 1) := by decide +kernel
theorem d_Md_isBehind_48 : decode b_Md_isBehind 48 = .ok (.ifCond .gt 7, 3) := by decide +kernel
theorem d_Md_isBehind_51 : decode b_Md_isBehind 51 = .ok (.iconst 1, 1) := by decide +kernel
theorem d_Md_isBehind_52 : decode b_Md_isBehind 52 = .ok (.goto 4, 3) := by decide +kernel
theorem d_Md_isBehind_55 : decode b_Md_isBehind 55 = .ok (.iconst 0, 1) := by decide +kernel
theorem d_Md_isBehind_56 : decode b_Md_isBehind 56 = .ok (.ireturn, 1) := by decide +kernel
abbrev rm_Md_copy : Room := { frames := 0, cells := 0, slots := 0, locals := 0 }
set_option maxHeartbeats 4000000 in
set_option maxRecDepth 100000 in
theorem cn_Md_copy (l : Launch) (D : va_G) (B : Nat) (M : hp_M) (b : Nat) (ad : Nat → Nat) (th of sl : Int32) (ct : Nat → Nat → Int32) (cl : Nat → Nat → Int64) (f t : Nat) (hm : md_H D M b ad th of sl ct cl) (hf4 : f < 4096) (ht4 : t < 4096) : Met l y_Md_copy (wd_c y_Md_copy b_Md_copy 3 (none)) rm_Md_copy (va_Pc [.ref b, .int (nI f), .int (nI t)] (hp_C D B M)) (va_Qv (fun  (M1 : hp_M) => ∃ (ct' : Nat → Nat → Int32) (cl' : Nat → Nat → Int64), md_H D M1 b ad th of sl ct' cl' ∧ md_fr b ad M M1 ∧ (∀ p, mo_row ct' cl' p = if p = t then mo_row ct cl f else mo_row ct cl p) ∧ (∀ j, j = 0 ∨ 7 ≤ j → ct' j = ct j) ∧ cl' 9 = cl 9) (hp_C D B) (hp_ub B)) 0 0 (hp_ub B) := by
  refine hp_met (by decide) (Nat.le_of_ble_eq_true rfl) ?_
  intro p e s m args below meth cd ls Q hQ hx hb hr hts hown hlocks hnm hml hK hH hS hB hl
  replace hl : lv_has ls 3 [(0, .ref b), (1, .int (nI f)), (2, .int (nI t))] := hl
  have hf : md_fr b ad M M := md_fr_rf
  refine lv_aload_n hx hb d_Md_copy_0 rfl (lv_at hl 0 rfl) ?_
  refine hp_get hx hb hts iw_Md hown hK hH hm.1 rfl 2 (by decide) (hts _ kw_152) (v := .ref (ad 1)) rfl d_Md_copy_1 ?_
  refine lv_iload_n hx hb d_Md_copy_4 rfl (lv_at hl 2 rfl) ?_
  refine lv_aload_n hx hb d_Md_copy_5 rfl (lv_at hl 0 rfl) ?_
  refine hp_get hx hb hts iw_Md hown hK hH hm.1 rfl 2 (by decide) (hts _ kw_152) (v := .ref (ad 1)) rfl d_Md_copy_6 ?_
  refine lv_iload_n hx hb d_Md_copy_9 rfl (lv_at hl 1 rfl) ?_
  refine hp_iald hx hb hK hH (show M (ad 1) = some (hp_ai D 4096 (ct 1)) from hm.2.1 1 (by decide) (by decide) (by decide)) f rfl hf4 (by decide) (v := (ct 1 f)) rfl d_Md_copy_10 ?_
  refine hp_iast hx hb hK hH hS hB (show M (ad 1) = some (hp_ai D 4096 (ct 1)) from hm.2.1 1 (by decide) (by decide) (by decide)) t rfl ht4 (by decide) d_Md_copy_11 (fun M_1 H locs eM_1 hH hS => ?_)
  have hm := md_pi hm (j := 1) (by decide) (by decide) (by decide) eM_1
  have hf := md_fr_a (j := 1) (by decide) hf eM_1
  refine lv_aload_n hx hb d_Md_copy_12 rfl (lv_at hl 0 rfl) ?_
  refine hp_get hx hb hts iw_Md hown hK hH hm.1 rfl 3 (by decide) (hts _ kw_176) (v := .ref (ad 2)) rfl d_Md_copy_13 ?_
  refine lv_iload_n hx hb d_Md_copy_16 rfl (lv_at hl 2 rfl) ?_
  refine lv_aload_n hx hb d_Md_copy_17 rfl (lv_at hl 0 rfl) ?_
  refine hp_get hx hb hts iw_Md hown hK hH hm.1 rfl 3 (by decide) (hts _ kw_176) (v := .ref (ad 2)) rfl d_Md_copy_18 ?_
  refine lv_iload_n hx hb d_Md_copy_21 rfl (lv_at hl 1 rfl) ?_
  refine hp_iald hx hb hK hH (show M_1 (ad 2) = some (hp_ai D 4096 (ct 2)) from hm.2.1 2 (by decide) (by decide) (by decide)) f rfl hf4 (by decide) (v := (ct 2 f)) rfl d_Md_copy_22 ?_
  refine hp_iast hx hb hK hH hS hB (show M_1 (ad 2) = some (hp_ai D 4096 (ct 2)) from hm.2.1 2 (by decide) (by decide) (by decide)) t rfl ht4 (by decide) d_Md_copy_23 (fun M_2 H locs eM_2 hH hS => ?_)
  have hm := md_pi hm (j := 2) (by decide) (by decide) (by decide) eM_2
  have hf := md_fr_a (j := 2) (by decide) hf eM_2
  refine lv_aload_n hx hb d_Md_copy_24 rfl (lv_at hl 0 rfl) ?_
  refine hp_get hx hb hts iw_Md hown hK hH hm.1 rfl 4 (by decide) (hts _ kw_177) (v := .ref (ad 3)) rfl d_Md_copy_25 ?_
  refine lv_iload_n hx hb d_Md_copy_28 rfl (lv_at hl 2 rfl) ?_
  refine lv_aload_n hx hb d_Md_copy_29 rfl (lv_at hl 0 rfl) ?_
  refine hp_get hx hb hts iw_Md hown hK hH hm.1 rfl 4 (by decide) (hts _ kw_177) (v := .ref (ad 3)) rfl d_Md_copy_30 ?_
  refine lv_iload_n hx hb d_Md_copy_33 rfl (lv_at hl 1 rfl) ?_
  refine hp_iald hx hb hK hH (show M_2 (ad 3) = some (hp_ai D 4096 (ct 3)) from hm.2.1 3 (by decide) (by decide) (by decide)) f rfl hf4 (by decide) (v := (ct 3 f)) rfl d_Md_copy_34 ?_
  refine hp_iast hx hb hK hH hS hB (show M_2 (ad 3) = some (hp_ai D 4096 (ct 3)) from hm.2.1 3 (by decide) (by decide) (by decide)) t rfl ht4 (by decide) d_Md_copy_35 (fun M_3 H locs eM_3 hH hS => ?_)
  have hm := md_pi hm (j := 3) (by decide) (by decide) (by decide) eM_3
  have hf := md_fr_a (j := 3) (by decide) hf eM_3
  refine lv_aload_n hx hb d_Md_copy_36 rfl (lv_at hl 0 rfl) ?_
  refine hp_get hx hb hts iw_Md hown hK hH hm.1 rfl 5 (by decide) (hts _ kw_154) (v := .ref (ad 4)) rfl d_Md_copy_37 ?_
  refine lv_iload_n hx hb d_Md_copy_40 rfl (lv_at hl 2 rfl) ?_
  refine lv_aload_n hx hb d_Md_copy_41 rfl (lv_at hl 0 rfl) ?_
  refine hp_get hx hb hts iw_Md hown hK hH hm.1 rfl 5 (by decide) (hts _ kw_154) (v := .ref (ad 4)) rfl d_Md_copy_42 ?_
  refine lv_iload_n hx hb d_Md_copy_45 rfl (lv_at hl 1 rfl) ?_
  refine hp_lald hx hb hK hH (show M_3 (ad 4) = some (hp_al D 4096 (cl 4)) from hm.2.2.1 4 (by decide)) f rfl hf4 (by decide) (v := (cl 4 f)) rfl d_Md_copy_46 ?_
  refine hp_last hx hb hK hH hS hB (show M_3 (ad 4) = some (hp_al D 4096 (cl 4)) from hm.2.2.1 4 (by decide)) t rfl ht4 (by decide) d_Md_copy_47 (fun M_4 H locs eM_4 hH hS => ?_)
  have hm := md_pl hm (j := 4) (by decide) eM_4
  have hf := md_fr_a (j := 4) (by decide) hf eM_4
  refine lv_aload_n hx hb d_Md_copy_48 rfl (lv_at hl 0 rfl) ?_
  refine hp_get hx hb hts iw_Md hown hK hH hm.1 rfl 6 (by decide) (hts _ kw_178) (v := .ref (ad 5)) rfl d_Md_copy_49 ?_
  refine lv_iload_n hx hb d_Md_copy_52 rfl (lv_at hl 2 rfl) ?_
  refine lv_aload_n hx hb d_Md_copy_53 rfl (lv_at hl 0 rfl) ?_
  refine hp_get hx hb hts iw_Md hown hK hH hm.1 rfl 6 (by decide) (hts _ kw_178) (v := .ref (ad 5)) rfl d_Md_copy_54 ?_
  refine lv_iload_n hx hb d_Md_copy_57 rfl (lv_at hl 1 rfl) ?_
  refine hp_iald hx hb hK hH (show M_4 (ad 5) = some (hp_ai D 4096 (ct 5)) from hm.2.1 5 (by decide) (by decide) (by decide)) f rfl hf4 (by decide) (v := (ct 5 f)) rfl d_Md_copy_58 ?_
  refine hp_iast hx hb hK hH hS hB (show M_4 (ad 5) = some (hp_ai D 4096 (ct 5)) from hm.2.1 5 (by decide) (by decide) (by decide)) t rfl ht4 (by decide) d_Md_copy_59 (fun M_5 H locs eM_5 hH hS => ?_)
  have hm := md_pi hm (j := 5) (by decide) (by decide) (by decide) eM_5
  have hf := md_fr_a (j := 5) (by decide) hf eM_5
  refine lv_aload_n hx hb d_Md_copy_60 rfl (lv_at hl 0 rfl) ?_
  refine hp_get hx hb hts iw_Md hown hK hH hm.1 rfl 7 (by decide) (hts _ kw_179) (v := .ref (ad 6)) rfl d_Md_copy_61 ?_
  refine lv_iload_n hx hb d_Md_copy_64 rfl (lv_at hl 2 rfl) ?_
  refine lv_aload_n hx hb d_Md_copy_65 rfl (lv_at hl 0 rfl) ?_
  refine hp_get hx hb hts iw_Md hown hK hH hm.1 rfl 7 (by decide) (hts _ kw_179) (v := .ref (ad 6)) rfl d_Md_copy_66 ?_
  refine lv_iload_n hx hb d_Md_copy_69 rfl (lv_at hl 1 rfl) ?_
  refine hp_iald hx hb hK hH (show M_5 (ad 6) = some (hp_ai D 4096 (ct 6)) from hm.2.1 6 (by decide) (by decide) (by decide)) f rfl hf4 (by decide) (v := (ct 6 f)) rfl d_Md_copy_70 ?_
  refine hp_iast hx hb hK hH hS hB (show M_5 (ad 6) = some (hp_ai D 4096 (ct 6)) from hm.2.1 6 (by decide) (by decide) (by decide)) t rfl ht4 (by decide) d_Md_copy_71 (fun M_6 H locs eM_6 hH hS => ?_)
  have hm := md_pi hm (j := 6) (by decide) (by decide) (by decide) eM_6
  have hf := md_fr_a (j := 6) (by decide) hf eM_6
  exact hp_vret hx hb hr hlocks hQ hK hH hS (Nat.le_of_ble_eq_true rfl) (Nat.le_of_ble_eq_true rfl) d_Md_copy_72 ⟨_, _, hm, hf, mo_cp, fun j hj => mo_cp2 hj, rfl⟩
abbrev rm_Md_timeOf : Room := { frames := 0, cells := 0, slots := 0, locals := 0 }
set_option maxHeartbeats 4000000 in
set_option maxRecDepth 100000 in
theorem cn_Md_timeOf (l : Launch) (D : va_G) (B : Nat) (M : hp_M) (b : Nat) (ad : Nat → Nat) (th of sl : Int32) (ct : Nat → Nat → Int32) (cl : Nat → Nat → Int64) (σ : sg_S) (tk : Nat → Int32) (o g : Nat) (hm : md_H D M b ad th of sl ct cl) (hR : mo_R σ tk of sl ct cl) (hinv : sg_inv σ) (hac : sg_ac σ ≤ 512) (ho8 : o < 8) (hg8 : g < 8) : Met l y_Md_timeOf (wd_c y_Md_timeOf b_Md_timeOf 6 (some .long)) rm_Md_timeOf (va_Pc [.ref b, .int (nI o), .int (nI g)] (hp_C D B M)) (va_Ql (fun (r : Int64) (M1 : hp_M) => M1 = M ∧ r = sg_time σ o g) (hp_C D B) (hp_ub B)) 0 0 (hp_ub B) := by
  refine hp_met (by decide) (Nat.le_of_ble_eq_true rfl) ?_
  intro p e s m args below meth cd ls Q hQ hx hb hr hts hown hlocks hnm hml hK hH hS hB hl
  replace hl : lv_has ls 6 [(0, .ref b), (1, .int (nI o)), (2, .int (nI g))] := hl
  refine lv_bipush (v := 8) hx hb d_Md_timeOf_0 (by decide) ?_
  refine lv_iload_n hx hb d_Md_timeOf_2 rfl (lv_at hl 1 rfl) ?_
  refine lv_imul hx hb d_Md_timeOf_3 ?_
  refine lv_iload_n hx hb d_Md_timeOf_4 rfl (lv_at hl 2 rfl) ?_
  refine lv_iadd hx hb d_Md_timeOf_5 ?_
  refine hp_ioi (md_ix8 o g) ?_
  refine lv_istore_n (lv' := [(3, .int (nI (8 * o + g))), (0, .ref b), (1, .int (nI o)), (2, .int (nI g))]) hx hb d_Md_timeOf_6 rfl hl (by decide) rfl (fun ls hl => ?_)
  refine lv_ldc2 (v := 256) hx hb hown (hts _ kw_180) d_Md_timeOf_7 ?_
  refine lv_aload_n hx hb d_Md_timeOf_10 rfl (lv_at hl 1 rfl) ?_
  refine hp_get hx hb hts iw_Md hown hK hH hm.1 rfl 16 (by decide) (hts _ kw_135) (v := .int sl) rfl d_Md_timeOf_11 ?_
  refine lv_i2l hx hb d_Md_timeOf_14 rfl ?_
  refine lv_lmul hx hb d_Md_timeOf_15 ?_
  refine lv_lstore (lv' := [(4, .long (256 * sl.toInt64)), (3, .int (nI (8 * o + g))), (0, .ref b), (1, .int (nI o)), (2, .int (nI g))]) hx hb d_Md_timeOf_16 hl (by decide) rfl (fun ls hl => ?_)
  refine lv_aload_n hx hb d_Md_timeOf_18 rfl (lv_at hl 2 rfl) ?_
  refine hp_get hx hb hts iw_Md hown hK hH hm.1 rfl 10 (by decide) (hts _ kw_170) (v := .ref (ad 9)) rfl d_Md_timeOf_19 ?_
  refine lv_iload_n hx hb d_Md_timeOf_22 rfl (lv_at hl 1 rfl) ?_
  refine hp_lald hx hb hK hH (show M (ad 9) = some (hp_al D 64 (cl 9)) from hm.2.2.1 9 (by decide)) (8 * o + g) rfl (by omega) (by decide) (v := (sg_lt σ o g)) ((hR.2.2.1 o ho8).2.2.1 g hg8).2 d_Md_timeOf_23 ?_
  refine lv_lload hx hb d_Md_timeOf_24 (lv_at hl 0 rfl) ?_
  refine W.lcmp hx hb d_Md_timeOf_26 ?_
  refine lv_if_le (tgt := 38) hx hb d_Md_timeOf_27 (by decide) (fun c_1 => ?_) (fun c_1 => ?_)
  · refine lv_lload hx hb d_Md_timeOf_38 (lv_at hl 0 rfl) ?_
    refine lv_ldc (v := 65535) hx hb hown (hts _ kw_181) d_Md_timeOf_40 ?_
    refine lv_aload_n hx hb d_Md_timeOf_42 rfl (lv_at hl 2 rfl) ?_
    refine hp_get hx hb hts iw_Md hown hK hH hm.1 rfl 9 (by decide) (hts _ kw_165) (v := .ref (ad 8)) rfl d_Md_timeOf_43 ?_
    refine lv_iload_n hx hb d_Md_timeOf_46 rfl (lv_at hl 1 rfl) ?_
    refine hp_iald hx hb hK hH (show M (ad 8) = some (hp_ai D 64 (ct 8)) from hm.2.1 8 (by decide) (by decide) (by decide)) (8 * o + g) rfl (by omega) (by decide) (v := (sg_wt σ o g)) ((hR.2.2.1 o ho8).2.2.1 g hg8).1 d_Md_timeOf_47 ?_
    refine lv_iadd hx hb d_Md_timeOf_48 ?_
    refine lv_aload_n hx hb d_Md_timeOf_49 rfl (lv_at hl 2 rfl) ?_
    refine hp_get hx hb hts iw_Md hown hK hH hm.1 rfl 9 (by decide) (hts _ kw_165) (v := .ref (ad 8)) rfl d_Md_timeOf_50 ?_
    refine lv_iload_n hx hb d_Md_timeOf_53 rfl (lv_at hl 1 rfl) ?_
    refine hp_iald hx hb hK hH (show M (ad 8) = some (hp_ai D 64 (ct 8)) from hm.2.1 8 (by decide) (by decide) (by decide)) (8 * o + g) rfl (by omega) (by decide) (v := (sg_wt σ o g)) ((hR.2.2.1 o ho8).2.2.1 g hg8).1 d_Md_timeOf_54 ?_
    refine lv_idiv hx hb d_Md_timeOf_55 (hinv.2.2.2.1 o g ho8 hg8) ?_
    refine lv_i2l hx hb d_Md_timeOf_56 rfl ?_
    refine lv_ladd hx hb d_Md_timeOf_57 ?_
    exact hp_lret hx hb hr hlocks hQ hK hH hS (Nat.le_of_ble_eq_true rfl) (Nat.le_of_ble_eq_true rfl) d_Md_timeOf_58 ⟨rfl, by rw [hR.2.1] at *; unfold sg_time sg_step; rw [← mo_t0 ((lg_cmp_le _ _).mp c_1)]⟩
  · refine lv_aload_n hx hb d_Md_timeOf_30 rfl (lv_at hl 2 rfl) ?_
    refine hp_get hx hb hts iw_Md hown hK hH hm.1 rfl 10 (by decide) (hts _ kw_170) (v := .ref (ad 9)) rfl d_Md_timeOf_31 ?_
    refine lv_iload_n hx hb d_Md_timeOf_34 rfl (lv_at hl 1 rfl) ?_
    refine hp_lald hx hb hK hH (show M (ad 9) = some (hp_al D 64 (cl 9)) from hm.2.2.1 9 (by decide)) (8 * o + g) rfl (by omega) (by decide) (v := (sg_lt σ o g)) ((hR.2.2.1 o ho8).2.2.1 g hg8).2 d_Md_timeOf_35 ?_
    refine lv_lstore (lv' := [(4, .long (sg_lt σ o g)), (3, .int (nI (8 * o + g))), (0, .ref b), (1, .int (nI o)), (2, .int (nI g))]) hx hb d_Md_timeOf_36 hl (by decide) rfl (fun ls hl => ?_)
    refine lv_lload hx hb d_Md_timeOf_38 (lv_at hl 0 rfl) ?_
    refine lv_ldc (v := 65535) hx hb hown (hts _ kw_181) d_Md_timeOf_40 ?_
    refine lv_aload_n hx hb d_Md_timeOf_42 rfl (lv_at hl 2 rfl) ?_
    refine hp_get hx hb hts iw_Md hown hK hH hm.1 rfl 9 (by decide) (hts _ kw_165) (v := .ref (ad 8)) rfl d_Md_timeOf_43 ?_
    refine lv_iload_n hx hb d_Md_timeOf_46 rfl (lv_at hl 1 rfl) ?_
    refine hp_iald hx hb hK hH (show M (ad 8) = some (hp_ai D 64 (ct 8)) from hm.2.1 8 (by decide) (by decide) (by decide)) (8 * o + g) rfl (by omega) (by decide) (v := (sg_wt σ o g)) ((hR.2.2.1 o ho8).2.2.1 g hg8).1 d_Md_timeOf_47 ?_
    refine lv_iadd hx hb d_Md_timeOf_48 ?_
    refine lv_aload_n hx hb d_Md_timeOf_49 rfl (lv_at hl 2 rfl) ?_
    refine hp_get hx hb hts iw_Md hown hK hH hm.1 rfl 9 (by decide) (hts _ kw_165) (v := .ref (ad 8)) rfl d_Md_timeOf_50 ?_
    refine lv_iload_n hx hb d_Md_timeOf_53 rfl (lv_at hl 1 rfl) ?_
    refine hp_iald hx hb hK hH (show M (ad 8) = some (hp_ai D 64 (ct 8)) from hm.2.1 8 (by decide) (by decide) (by decide)) (8 * o + g) rfl (by omega) (by decide) (v := (sg_wt σ o g)) ((hR.2.2.1 o ho8).2.2.1 g hg8).1 d_Md_timeOf_54 ?_
    refine lv_idiv hx hb d_Md_timeOf_55 (hinv.2.2.2.1 o g ho8 hg8) ?_
    refine lv_i2l hx hb d_Md_timeOf_56 rfl ?_
    refine lv_ladd hx hb d_Md_timeOf_57 ?_
    exact hp_lret hx hb hr hlocks hQ hK hH hS (Nat.le_of_ble_eq_true rfl) (Nat.le_of_ble_eq_true rfl) d_Md_timeOf_58 ⟨rfl, by rw [hR.2.1] at *; unfold sg_time sg_step; rw [← mo_t1 (fun q => c_1 ((lg_cmp_le _ _).mpr q))]⟩
abbrev rm_Md_isBehind : Room := { frames := 0, cells := 0, slots := 0, locals := 0 }
set_option maxHeartbeats 4000000 in
set_option maxRecDepth 100000 in
theorem cn_Md_isBehind (l : Launch) (D : va_G) (B : Nat) (M : hp_M) (b : Nat) (ad : Nat → Nat) (th of sl : Int32) (ct : Nat → Nat → Int32) (cl : Nat → Nat → Int64) (o p0 : Nat) (c d : sg_Ce) (hm : md_H D M b ad th of sl ct cl) (hkd : ct 7 o = 0 ∨ ct 7 o = 1 ∨ ct 7 o = 2) (ho8 : o < 8) (hp4 : p0 < 4096) (hc8 : sg_cg c < 8) (hd8 : sg_cg d < 8) (hd2 : ct 2 p0 = nI (sg_cg d)) (hd4 : cl 4 p0 = sg_cm d) : Met l y_Md_isBehind (wd_c y_Md_isBehind b_Md_isBehind 6 (some .boolean)) rm_Md_isBehind (va_Pc [.ref b, .int (nI o), .int (nI p0), .int (nI (sg_cg c)), .long (sg_cm c)] (hp_C D B M)) (va_Qi (fun (r : Int32) (M1 : hp_M) => M1 = M ∧ r = sw_b (!(sg_bef (ct 7 o) c d))) (hp_C D B) (hp_ub B)) 0 0 (hp_ub B) := by
  rcases hkd with hkd | hkd | hkd
  · refine hp_met (by decide) (Nat.le_of_ble_eq_true rfl) ?_
    intro p e s m args below meth cd ls Q hQ hx hb hr hts hown hlocks hnm hml hK hH hS hB hl
    replace hl : lv_has ls 6 [(0, .ref b), (1, .int (nI o)), (2, .int (nI p0)), (3, .int (nI (sg_cg c))), (4, .long (sg_cm c))] := hl
    refine lv_aload_n hx hb d_Md_isBehind_0 rfl (lv_at hl 0 rfl) ?_
    refine hp_get hx hb hts iw_Md hown hK hH hm.1 rfl 8 (by decide) (hts _ kw_164) (v := .ref (ad 7)) rfl d_Md_isBehind_1 ?_
    refine lv_iload_n hx hb d_Md_isBehind_4 rfl (lv_at hl 1 rfl) ?_
    refine hp_iald hx hb hK hH (show M (ad 7) = some (hp_ai D 8 (ct 7)) from hm.2.1 7 (by decide) (by decide) (by decide)) o rfl ho8 (by decide) (v := 0) hkd d_Md_isBehind_5 ?_
    refine lv_if_ne (tgt := 11) hx hb d_Md_isBehind_6 (by decide) (fun c_1 => absurd rfl c_1) (fun c_1 => ?_)
    refine lv_iconst (v := 1) hx hb d_Md_isBehind_9 (by decide) ?_
    exact hp_zret hx hb hr hlocks hQ hK hH hS (Nat.le_of_ble_eq_true rfl) (Nat.le_of_ble_eq_true rfl) rfl d_Md_isBehind_10 ⟨rfl, by rw [hkd]; exact mb_0⟩
  · refine hp_met (by decide) (Nat.le_of_ble_eq_true rfl) ?_
    intro p e s m args below meth cd ls Q hQ hx hb hr hts hown hlocks hnm hml hK hH hS hB hl
    replace hl : lv_has ls 6 [(0, .ref b), (1, .int (nI o)), (2, .int (nI p0)), (3, .int (nI (sg_cg c))), (4, .long (sg_cm c))] := hl
    refine lv_aload_n hx hb d_Md_isBehind_0 rfl (lv_at hl 0 rfl) ?_
    refine hp_get hx hb hts iw_Md hown hK hH hm.1 rfl 8 (by decide) (hts _ kw_164) (v := .ref (ad 7)) rfl d_Md_isBehind_1 ?_
    refine lv_iload_n hx hb d_Md_isBehind_4 rfl (lv_at hl 1 rfl) ?_
    refine hp_iald hx hb hK hH (show M (ad 7) = some (hp_ai D 8 (ct 7)) from hm.2.1 7 (by decide) (by decide) (by decide)) o rfl ho8 (by decide) (v := 1) hkd d_Md_isBehind_5 ?_
    refine lv_if_ne (tgt := 11) hx hb d_Md_isBehind_6 (by decide) (fun c_1 => ?_) (fun c_1 => absurd c_1 (by decide))
    refine lv_aload_n hx hb d_Md_isBehind_11 rfl (lv_at hl 0 rfl) ?_
    refine hp_get hx hb hts iw_Md hown hK hH hm.1 rfl 8 (by decide) (hts _ kw_164) (v := .ref (ad 7)) rfl d_Md_isBehind_12 ?_
    refine lv_iload_n hx hb d_Md_isBehind_15 rfl (lv_at hl 1 rfl) ?_
    refine hp_iald hx hb hK hH (show M (ad 7) = some (hp_ai D 8 (ct 7)) from hm.2.1 7 (by decide) (by decide) (by decide)) o rfl ho8 (by decide) (v := 1) hkd d_Md_isBehind_16 ?_
    refine lv_iconst (v := 1) hx hb d_Md_isBehind_17 (by decide) ?_
    refine lv_icmp_ne (tgt := 39) hx hb d_Md_isBehind_18 (by decide) (fun c_2 => absurd rfl c_2) (fun c_2 => ?_)
    refine lv_aload_n hx hb d_Md_isBehind_21 rfl (lv_at hl 0 rfl) ?_
    refine hp_get hx hb hts iw_Md hown hK hH hm.1 rfl 3 (by decide) (hts _ kw_176) (v := .ref (ad 2)) rfl d_Md_isBehind_22 ?_
    refine lv_iload_n hx hb d_Md_isBehind_25 rfl (lv_at hl 2 rfl) ?_
    refine hp_iald hx hb hK hH (show M (ad 2) = some (hp_ai D 4096 (ct 2)) from hm.2.1 2 (by decide) (by decide) (by decide)) p0 rfl hp4 (by decide) (v := (nI (sg_cg d))) hd2 d_Md_isBehind_26 ?_
    refine lv_iload_n hx hb d_Md_isBehind_27 rfl (lv_at hl 3 rfl) ?_
    refine lv_icmp_gt (tgt := 35) hx hb d_Md_isBehind_28 (by decide) (fun c_3 => ?_) (fun c_3 => ?_)
    · refine lv_iconst (v := 0) hx hb d_Md_isBehind_35 (by decide) ?_
      refine lv_goto (tgt := 56) hx hb d_Md_isBehind_36 (by decide) ?_
      exact hp_zret hx hb hr hlocks hQ hK hH hS (Nat.le_of_ble_eq_true rfl) (Nat.le_of_ble_eq_true rfl) rfl d_Md_isBehind_56 ⟨rfl, by rw [hkd]; exact mb_1t hc8 hd8 c_3⟩
    · refine lv_iconst (v := 1) hx hb d_Md_isBehind_31 (by decide) ?_
      refine lv_goto (tgt := 56) hx hb d_Md_isBehind_32 (by decide) ?_
      exact hp_zret hx hb hr hlocks hQ hK hH hS (Nat.le_of_ble_eq_true rfl) (Nat.le_of_ble_eq_true rfl) rfl d_Md_isBehind_56 ⟨rfl, by rw [hkd]; exact mb_1f hc8 hd8 c_3⟩
  · refine hp_met (by decide) (Nat.le_of_ble_eq_true rfl) ?_
    intro p e s m args below meth cd ls Q hQ hx hb hr hts hown hlocks hnm hml hK hH hS hB hl
    replace hl : lv_has ls 6 [(0, .ref b), (1, .int (nI o)), (2, .int (nI p0)), (3, .int (nI (sg_cg c))), (4, .long (sg_cm c))] := hl
    refine lv_aload_n hx hb d_Md_isBehind_0 rfl (lv_at hl 0 rfl) ?_
    refine hp_get hx hb hts iw_Md hown hK hH hm.1 rfl 8 (by decide) (hts _ kw_164) (v := .ref (ad 7)) rfl d_Md_isBehind_1 ?_
    refine lv_iload_n hx hb d_Md_isBehind_4 rfl (lv_at hl 1 rfl) ?_
    refine hp_iald hx hb hK hH (show M (ad 7) = some (hp_ai D 8 (ct 7)) from hm.2.1 7 (by decide) (by decide) (by decide)) o rfl ho8 (by decide) (v := 2) hkd d_Md_isBehind_5 ?_
    refine lv_if_ne (tgt := 11) hx hb d_Md_isBehind_6 (by decide) (fun c_1 => ?_) (fun c_1 => absurd c_1 (by decide))
    refine lv_aload_n hx hb d_Md_isBehind_11 rfl (lv_at hl 0 rfl) ?_
    refine hp_get hx hb hts iw_Md hown hK hH hm.1 rfl 8 (by decide) (hts _ kw_164) (v := .ref (ad 7)) rfl d_Md_isBehind_12 ?_
    refine lv_iload_n hx hb d_Md_isBehind_15 rfl (lv_at hl 1 rfl) ?_
    refine hp_iald hx hb hK hH (show M (ad 7) = some (hp_ai D 8 (ct 7)) from hm.2.1 7 (by decide) (by decide) (by decide)) o rfl ho8 (by decide) (v := 2) hkd d_Md_isBehind_16 ?_
    refine lv_iconst (v := 1) hx hb d_Md_isBehind_17 (by decide) ?_
    refine lv_icmp_ne (tgt := 39) hx hb d_Md_isBehind_18 (by decide) (fun c_2 => ?_) (fun c_2 => absurd c_2 (by decide))
    refine lv_aload_n hx hb d_Md_isBehind_39 rfl (lv_at hl 0 rfl) ?_
    refine hp_get hx hb hts iw_Md hown hK hH hm.1 rfl 5 (by decide) (hts _ kw_154) (v := .ref (ad 4)) rfl d_Md_isBehind_40 ?_
    refine lv_iload_n hx hb d_Md_isBehind_43 rfl (lv_at hl 2 rfl) ?_
    refine hp_lald hx hb hK hH (show M (ad 4) = some (hp_al D 4096 (cl 4)) from hm.2.2.1 4 (by decide)) p0 rfl hp4 (by decide) (v := (sg_cm d)) hd4 d_Md_isBehind_44 ?_
    refine lv_lload hx hb d_Md_isBehind_45 (lv_at hl 4 rfl) ?_
    refine W.lcmp hx hb d_Md_isBehind_47 ?_
    refine lv_if_gt (tgt := 55) hx hb d_Md_isBehind_48 (by decide) (fun c_3 => ?_) (fun c_3 => ?_)
    · refine lv_iconst (v := 0) hx hb d_Md_isBehind_55 (by decide) ?_
      exact hp_zret hx hb hr hlocks hQ hK hH hS (Nat.le_of_ble_eq_true rfl) (Nat.le_of_ble_eq_true rfl) rfl d_Md_isBehind_56 ⟨rfl, by rw [hkd]; exact mb_2t c_3⟩
    · refine lv_iconst (v := 1) hx hb d_Md_isBehind_51 (by decide) ?_
      refine lv_goto (tgt := 56) hx hb d_Md_isBehind_52 (by decide) ?_
      exact hp_zret hx hb hr hlocks hQ hK hH hS (Nat.le_of_ble_eq_true rfl) (Nat.le_of_ble_eq_true rfl) rfl d_Md_isBehind_56 ⟨rfl, by rw [hkd]; exact mb_2f c_3⟩
