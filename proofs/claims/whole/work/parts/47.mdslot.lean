theorem kw_194 : Cond.methodLink R_Md 105 y_Md_send ∈ wd_T := wd_in (List.mem_of_getElem? (i := 383) (by decide +kernel)) rfl
theorem kw_195 : Cond.code y_Md_send b_Md_send 4 (some .int) ∈ wd_T := wd_in (List.mem_of_getElem? (i := 386) (by decide +kernel)) rfl
theorem kw_196 : Cond.instanceMethod y_Md_send ∈ wd_T := wd_in (List.mem_of_getElem? (i := 385) (by decide +kernel)) rfl
theorem kw_197 : Cond.selects R_Md y_Md_send y_Md_send ∈ wd_T := wd_in (List.mem_of_getElem? (i := 16) (by decide +kernel)) rfl
theorem kw_198 : Cond.methodLink R_Md 101 y_Md_come ∈ wd_T := wd_in (List.mem_of_getElem? (i := 365) (by decide +kernel)) rfl
theorem kw_199 : Cond.code y_Md_come b_Md_come 7 none ∈ wd_T := wd_in (List.mem_of_getElem? (i := 368) (by decide +kernel)) rfl
theorem kw_200 : Cond.instanceMethod y_Md_come ∈ wd_T := wd_in (List.mem_of_getElem? (i := 367) (by decide +kernel)) rfl
theorem kw_201 : Cond.selects R_Md y_Md_come y_Md_come ∈ wd_T := wd_in (List.mem_of_getElem? (i := 12) (by decide +kernel)) rfl
theorem d_Md_slot_0 : decode b_Md_slot 0 = .ok (.aload_n 0, 1) := by decide +kernel
theorem d_Md_slot_1 : decode b_Md_slot 1 = .ok (.iconst 0, 1) := by decide +kernel
theorem d_Md_slot_2 : decode b_Md_slot 2 = .ok (.putfield 65, 3) := by decide +kernel
theorem d_Md_slot_5 : decode b_Md_slot 5 = .ok (.iconst 0, 1) := by decide +kernel
theorem d_Md_slot_6 : decode b_Md_slot 6 = .ok (.istore_n 1, 1) := by decide +kernel
theorem d_Md_slot_7 : decode b_Md_slot 7 = .ok (.iload_n 1, 1) := by decide +kernel
theorem d_Md_slot_8 : decode b_Md_slot 8 = .ok (.bipush 8, 2) := by decide +kernel
theorem d_Md_slot_10 : decode b_Md_slot 10 = .ok (.if_icmp .ge 24, 3) := by decide +kernel
theorem d_Md_slot_13 : decode b_Md_slot 13 = .ok (.aload_n 0, 1) := by decide +kernel
theorem d_Md_slot_14 : decode b_Md_slot 14 = .ok (.getfield 41, 3) := by decide +kernel
theorem d_Md_slot_17 : decode b_Md_slot 17 = .ok (.iload_n 1, 1) := by decide +kernel
theorem d_Md_slot_18 : decode b_Md_slot 18 = .ok (.iaload, 1) := by decide +kernel
theorem d_Md_slot_19 : decode b_Md_slot 19 = .ok (.iconst (-1), 1) := by decide +kernel
theorem d_Md_slot_20 : decode b_Md_slot 20 = .ok (.if_icmp .eq 8, 3) := by decide +kernel
theorem d_Md_slot_23 : decode b_Md_slot 23 = .ok (.aload_n 0, 1) := by decide +kernel
theorem d_Md_slot_24 : decode b_Md_slot 24 = .ok (.iload_n 1, 1) := by decide +kernel
theorem d_Md_slot_25 : decode b_Md_slot 25 = .ok (.invokevirtual 101, 3) := by decide +kernel
theorem d_Md_slot_28 : decode b_Md_slot 28 = .ok (.iinc 1 1, 3) := by decide +kernel
theorem d_Md_slot_31 : decode b_Md_slot 31 = .ok (.goto (-24), 3) := by decide +kernel
theorem d_Md_slot_34 : decode b_Md_slot 34 = .ok (.iconst 0, 1) := by decide +kernel
theorem d_Md_slot_35 : decode b_Md_slot 35 = .ok (.istore_n 1, 1) := by decide +kernel
theorem d_Md_slot_36 : decode b_Md_slot 36 = .ok (.iconst 0, 1) := by decide +kernel
theorem d_Md_slot_37 : decode b_Md_slot 37 = .ok (.istore_n 2, 1) := by decide +kernel
theorem d_Md_slot_38 : decode b_Md_slot 38 = .ok (.iload_n 2, 1) := by decide +kernel
theorem d_Md_slot_39 : decode b_Md_slot 39 = .ok (.bipush 8, 2) := by decide +kernel
theorem d_Md_slot_41 : decode b_Md_slot 41 = .ok (.if_icmp .ge 17, 3) := by decide +kernel
theorem d_Md_slot_44 : decode b_Md_slot 44 = .ok (.iload_n 1, 1) := by decide +kernel
theorem d_Md_slot_45 : decode b_Md_slot 45 = .ok (.aload_n 0, 1) := by decide +kernel
theorem d_Md_slot_46 : decode b_Md_slot 46 = .ok (.iload_n 2, 1) := by decide +kernel
theorem d_Md_slot_47 : decode b_Md_slot 47 = .ok (.invokevirtual 105, 3) := by decide +kernel
theorem d_Md_slot_50 : decode b_Md_slot 50 = .ok (.iadd, 1) := by decide +kernel
theorem d_Md_slot_51 : decode b_Md_slot 51 = .ok (.istore_n 1, 1) := by decide +kernel
theorem d_Md_slot_52 : decode b_Md_slot 52 = .ok (.iinc 2 1, 3) := by decide +kernel
theorem d_Md_slot_55 : decode b_Md_slot 55 = .ok (.goto (-17), 3) := by decide +kernel
theorem d_Md_slot_58 : decode b_Md_slot 58 = .ok (.aload_n 0, 1) := by decide +kernel
theorem d_Md_slot_59 : decode b_Md_slot 59 = .ok (.dup, 1) := by decide +kernel
theorem d_Md_slot_60 : decode b_Md_slot 60 = .ok (.getfield 85, 3) := by decide +kernel
theorem d_Md_slot_63 : decode b_Md_slot 63 = .ok (.iconst 1, 1) := by decide +kernel
theorem d_Md_slot_64 : decode b_Md_slot 64 = .ok (.iadd, 1) := by decide +kernel
theorem d_Md_slot_65 : decode b_Md_slot 65 = .ok (.putfield 85, 3) := by decide +kernel
theorem d_Md_slot_68 : decode b_Md_slot 68 = .ok (.iload_n 1, 1) := by decide +kernel
theorem d_Md_slot_69 : decode b_Md_slot 69 = .ok (.ireturn, 1) := by decide +kernel
theorem d_Md_leaves_0 : decode b_Md_leaves 0 = .ok (.aload_n 0, 1) := by decide +kernel
theorem d_Md_leaves_1 : decode b_Md_leaves 1 = .ok (.iconst 0, 1) := by decide +kernel
theorem d_Md_leaves_2 : decode b_Md_leaves 2 = .ok (.putfield 65, 3) := by decide +kernel
theorem d_Md_leaves_5 : decode b_Md_leaves 5 = .ok (.iconst (-1), 1) := by decide +kernel
theorem d_Md_leaves_6 : decode b_Md_leaves 6 = .ok (.istore_n 2, 1) := by decide +kernel
theorem d_Md_leaves_7 : decode b_Md_leaves 7 = .ok (.iconst 0, 1) := by decide +kernel
theorem d_Md_leaves_8 : decode b_Md_leaves 8 = .ok (.istore_n 3, 1) := by decide +kernel
theorem d_Md_leaves_9 : decode b_Md_leaves 9 = .ok (.iconst 0, 1) := by decide +kernel
theorem d_Md_leaves_10 : decode b_Md_leaves 10 = .ok (.istore 4, 2) := by decide +kernel
theorem d_Md_leaves_12 : decode b_Md_leaves 12 = .ok (.iload 4, 2) := by decide +kernel
theorem d_Md_leaves_14 : decode b_Md_leaves 14 = .ok (.bipush 8, 2) := by decide +kernel
theorem d_Md_leaves_16 : decode b_Md_leaves 16 = .ok (.if_icmp .ge 82, 3) := by decide +kernel
theorem d_Md_leaves_19 : decode b_Md_leaves 19 = .ok (.iconst 0, 1) := by decide +kernel
theorem d_Md_leaves_20 : decode b_Md_leaves 20 = .ok (.istore 5, 2) := by decide +kernel
theorem d_Md_leaves_22 : decode b_Md_leaves 22 = .ok (.iload 5, 2) := by decide +kernel
theorem d_Md_leaves_24 : decode b_Md_leaves 24 = .ok (.aload_n 0, 1) := by decide +kernel
theorem d_Md_leaves_25 : decode b_Md_leaves 25 = .ok (.getfield 7, 3) := by decide +kernel
theorem d_Md_leaves_28 : decode b_Md_leaves 28 = .ok (.iload 4, 2) := by decide +kernel
theorem d_Md_leaves_30 : decode b_Md_leaves 30 = .ok (.iaload, 1) := by decide +kernel
theorem d_Md_leaves_31 : decode b_Md_leaves 31 = .ok (.if_icmp .ge 61, 3) := by decide +kernel
theorem d_Md_leaves_34 : decode b_Md_leaves 34 = .ok (.sipush 512, 3) := by decide +kernel
theorem d_Md_leaves_37 : decode b_Md_leaves 37 = .ok (.iload 4, 2) := by decide +kernel
theorem d_Md_leaves_39 : decode b_Md_leaves 39 = .ok (.imul, 1) := by decide +kernel
theorem d_Md_leaves_40 : decode b_Md_leaves 40 = .ok (.iload 5, 2) := by decide +kernel
theorem d_Md_leaves_42 : decode b_Md_leaves 42 = .ok (.iadd, 1) := by decide +kernel
theorem d_Md_leaves_43 : decode b_Md_leaves 43 = .ok (.istore 6, 2) := by decide +kernel
theorem d_Md_leaves_45 : decode b_Md_leaves 45 = .ok (.aload_n 0, 1) := by decide +kernel
theorem d_Md_leaves_46 : decode b_Md_leaves 46 = .ok (.getfield 19, 3) := by decide +kernel
theorem d_Md_leaves_49 : decode b_Md_leaves 49 = .ok (.iload 6, 2) := by decide +kernel
theorem d_Md_leaves_51 : decode b_Md_leaves 51 = .ok (.iaload, 1) := by decide +kernel
theorem d_Md_leaves_52 : decode b_Md_leaves 52 = .ok (.iload_n 1, 1) := by decide +kernel
theorem d_Md_leaves_53 : decode b_Md_leaves 53 = .ok (.if_icmp .ne 33, 3) := by decide +kernel
theorem d_Md_leaves_56 : decode b_Md_leaves 56 = .ok (.iload_n 2, 1) := by decide +kernel
theorem d_Md_leaves_57 : decode b_Md_leaves 57 = .ok (.iconst (-1), 1) := by decide +kernel
theorem d_Md_leaves_58 : decode b_Md_leaves 58 = .ok (.if_icmp .eq 17, 3) := by decide +kernel
theorem d_Md_leaves_61 : decode b_Md_leaves 61 = .ok (.aload_n 0, 1) := by decide +kernel
theorem d_Md_leaves_62 : decode b_Md_leaves 62 = .ok (.getfield 29, 3) := by decide +kernel
theorem d_Md_leaves_65 : decode b_Md_leaves 65 = .ok (.iload 6, 2) := by decide +kernel
theorem d_Md_leaves_67 : decode b_Md_leaves 67 = .ok (.iaload, 1) := by decide +kernel
theorem d_Md_leaves_68 : decode b_Md_leaves 68 = .ok (.iload_n 3, 1) := by decide +kernel
theorem d_Md_leaves_69 : decode b_Md_leaves 69 = .ok (.if_icmp .le 6, 3) := by decide +kernel
theorem d_Md_leaves_72 : decode b_Md_leaves 72 = .ok (.goto 14, 3) := by decide +kernel
theorem d_Md_leaves_75 : decode b_Md_leaves 75 = .ok (.iload 5, 2) := by decide +kernel
theorem d_Md_leaves_77 : decode b_Md_leaves 77 = .ok (.istore_n 2, 1) := by decide +kernel
theorem d_Md_leaves_78 : decode b_Md_leaves 78 = .ok (.aload_n 0, 1) := by decide +kernel
theorem d_Md_leaves_79 : decode b_Md_leaves 79 = .ok (.getfield 29, 3) := by decide +kernel
theorem d_Md_leaves_82 : decode b_Md_leaves 82 = .ok (.iload 6, 2) := by decide +kernel
theorem d_Md_leaves_84 : decode b_Md_leaves 84 = .ok (.iaload, 1) := by decide +kernel
theorem d_Md_leaves_85 : decode b_Md_leaves 85 = .ok (.istore_n 3, 1) := by decide +kernel
theorem d_Md_leaves_86 : decode b_Md_leaves 86 = .ok (.iinc 5 1, 3) := by decide +kernel
theorem d_Md_leaves_89 : decode b_Md_leaves 89 = .ok (.goto (-67), 3) := by decide +kernel
theorem d_Md_leaves_92 : decode b_Md_leaves 92 = .ok (.iinc 4 1, 3) := by decide +kernel
theorem d_Md_leaves_95 : decode b_Md_leaves 95 = .ok (.goto (-83), 3) := by decide +kernel
theorem d_Md_leaves_98 : decode b_Md_leaves 98 = .ok (.iload_n 2, 1) := by decide +kernel
theorem d_Md_leaves_99 : decode b_Md_leaves 99 = .ok (.ireturn, 1) := by decide +kernel
abbrev rm_Md_slot : Room := { frames := 2, cells := 0, slots := 0, locals := 51 }
set_option maxHeartbeats 4000000 in
set_option maxRecDepth 100000 in
theorem cn_Md_slot (l : Launch) (D : va_G) (B : Nat) (M : hp_M) (b : Nat) (ad : Nat → Nat) (th of sl : Int32) (ct : Nat → Nat → Int32) (cl : Nat → Nat → Int64) (σ : sg_S) (hm : md_H D M b ad th of sl ct cl) (hR : mo_R σ (fun _ => sg_sl σ - 1) of sl ct cl) (hinv : sg_inv σ) (hac : sg_ac σ ≤ 512) (hsei : sg_sei σ) : Met l y_Md_slot (wd_c y_Md_slot b_Md_slot 3 (some .int)) rm_Md_slot (va_Pc [.ref b] (hp_C D B M)) (va_Qi (fun (r : Int32) (M1 : hp_M) => ∃ (ct' : Nat → Nat → Int32) (cl' : Nat → Nat → Int64), md_H D M1 b ad 0 of (sl + 1) ct' cl' ∧ md_fr b ad M M1 ∧ r = nI (sg_count (sg_comes σ 8) 8) ∧ mo_R (sg_slot σ) (fun _ => sg_sl (sg_slot σ) - 1) of (sl + 1) ct' cl') (hp_C D B) (hp_ub B)) 0 0 (hp_ub B) := by
  refine hp_met (by decide) (Nat.le_of_ble_eq_true rfl) ?_
  intro p e s m args below meth cd ls Q hQ hx hb hr hts hown hlocks hnm hml hK hH hS hB hl
  replace hl : lv_has ls 3 [(0, .ref b)] := hl
  have hf : md_fr b ad M M := md_fr_rf
  have hv8 := sg_inv_comes hinv (Nat.le_refl 8)
  have ha8 : sg_ac (sg_comes σ 8) ≤ 512 := by rw [sg_ac_comes]; exact hac
  have L2 : ∀ (n o : Nat) (M3 : hp_M) (H : Heap) (locs : List Loc) (ls : Array Slot) (ct1 : Nat → Nat → Int32) (cl1 : Nat → Nat → Int64), o + n = 8 → md_H D M3 b ad 0 of sl ct1 cl1 → md_fr b ad M M3 → mo_R (sg_sends (sg_comes σ 8) o) (md_tk sl o) of sl ct1 cl1 → hp_H D B M3 H → va_S (hp_ub B) s.heap H locs → lv_has ls 3 [(2, .int (nI o)), (1, .int (nI (sg_count (sg_comes σ 8) o))), (0, .ref b)] → W p l e rm_Md_slot s m args below meth cd H locs 0 0 Q (F0 m 38 ls []) := by
    intro n
    induction n with
    | zero =>
      intro o M3 H locs ls ct1 cl1 hn hm hf hR2 hH hS hl
      have e8 : o = 8 := by omega
      subst e8
      refine lv_iload_n hx hb d_Md_slot_38 rfl (lv_at hl 0 rfl) ?_
      refine lv_bipush (v := 8) hx hb d_Md_slot_39 (by decide) ?_
      refine lv_icmp_ge (tgt := 58) hx hb d_Md_slot_41 (by decide) (fun c_1 => ?_) (fun c_1 => absurd (nI_le (a := 8) (by omega) (by omega)) c_1)
      refine lv_aload_n hx hb d_Md_slot_58 rfl (lv_at hl 2 rfl) ?_
      refine lv_dup hx hb d_Md_slot_59 rfl ?_
      refine hp_get hx hb hts iw_Md hown hK hH hm.1 rfl 16 (by decide) (hts _ kw_135) (v := .int sl) rfl d_Md_slot_60 ?_
      refine lv_iconst (v := 1) hx hb d_Md_slot_63 (by decide) ?_
      refine lv_iadd hx hb d_Md_slot_64 ?_
      refine hp_put hx hb hts iw_Md t_Md t_Md_ok n_Md hown hK hH hS hB hm.1 rfl 16 (by decide) (hts _ kw_135) rfl  (v := .int (sl + 1)) rfl rfl (Nat.le_of_ble_eq_true rfl) (fs' := [.int 0, .ref (ad 0), .ref (ad 1), .ref (ad 2), .ref (ad 3), .ref (ad 4), .ref (ad 5), .ref (ad 6), .ref (ad 7), .ref (ad 8), .ref (ad 9), .ref (ad 10), .ref (ad 11), .ref (ad 12), .ref (ad 13), .int of, .int (sl + 1), .ref (ad 14), .ref (ad 15), .ref (ad 16)]) rfl d_Md_slot_65 (fun M_2 H locs eM_2 hH hS => ?_)
      have hm := md_pb hm (th' := 0) (of' := of) (sl' := sl + 1) eM_2
      have hf := md_fr_b hf eM_2
      refine lv_iload_n hx hb d_Md_slot_68 rfl (lv_at hl 1 rfl) ?_
      exact hp_iret hx hb hr hlocks hQ hK hH hS (Nat.le_of_ble_eq_true rfl) (Nat.le_of_ble_eq_true rfl) d_Md_slot_69 ⟨_, _, hm, hf, rfl, mo_R_tick hR2 (fun x hx => md_tk_eq sl hx)⟩
    | succ n ih =>
      intro o M3 H locs ls ct1 cl1 hn hm hf hR2 hH hS hl
      have ho8 : o < 8 := by omega
      have hv := sg_inv_sends hv8 (n := o) (by omega)
      have ha : sg_ac (sg_sends (sg_comes σ 8) o) ≤ 512 := by rw [sg_ac_sends]; exact ha8
      refine lv_iload_n hx hb d_Md_slot_38 rfl (lv_at hl 0 rfl) ?_
      refine lv_bipush (v := 8) hx hb d_Md_slot_39 (by decide) ?_
      refine lv_icmp_ge (tgt := 58) hx hb d_Md_slot_41 (by decide) (fun c_3 => absurd c_3 (nI_ge (b := 8) (by omega) (by omega))) (fun c_3 => ?_)
      refine lv_iload_n hx hb d_Md_slot_44 rfl (lv_at hl 1 rfl) ?_
      refine lv_aload_n hx hb d_Md_slot_45 rfl (lv_at hl 2 rfl) ?_
      refine lv_iload_n hx hb d_Md_slot_46 rfl (lv_at hl 0 rfl) ?_
      refine hp_calli (hp_runV (b := b) (As := [.int (nI o)]) (rest := [.int (nI (sg_count (sg_comes σ 8) o))]) hx hb hml hown (cn_Md_send l D B M3 b ad 0 of sl ct1 cl1 (sg_sends (sg_comes σ 8) o) (md_tk sl o) o hm hR2 hv ha ho8) (hp_cwV 1 hts kw_194 kw_196 kw_197 kw_137 kw_195 rfl rfl (by decide +kernel) ⟨(Nat.le_of_ble_eq_true rfl), (Nat.le_of_ble_eq_true rfl)⟩) hK hH hm.1 rfl rfl hl.1 rfl (Nat.le_of_ble_eq_true rfl) d_Md_slot_47 ⟨(Nat.le_of_ble_eq_true rfl), (Nat.le_of_ble_eq_true rfl)⟩) hS (fun r_4 M_5 H locs w_6 hH hS => ?_)
      obtain ⟨ct2, cl2, hm', hf', eR, hR'⟩ := w_6
      rw [eR]
      refine lv_iadd hx hb d_Md_slot_50 ?_
      refine hp_ioi (sg_count_add (sg_qu_sends (sg_comes σ 8) (Nat.le_refl o))) ?_
      refine lv_istore_n (lv' := [(1, .int (nI (sg_count (sg_comes σ 8) (o + 1)))), (2, .int (nI o)), (0, .ref b)]) hx hb d_Md_slot_51 rfl hl (by decide) rfl (fun ls hl => ?_)
      refine lv_iinc (v := nI (o + 1)) (lv' := [(2, .int (nI (o + 1))), (1, .int (nI (sg_count (sg_comes σ 8) (o + 1)))), (0, .ref b)]) hx hb d_Md_slot_52 hl (k := 1) rfl (nI_1 o) (by decide) rfl (fun ls hl => ?_)
      refine lv_goto (tgt := 38) hx hb d_Md_slot_55 (by decide) ?_
      exact ih (o + 1) M_5 _ _ ls _ _ (by omega) hm' (md_fr_tr hf hf') hR' hH hS (lv_sub hl [0, 1, 2] rfl)
  have L1 : ∀ (n i : Nat) (M3 : hp_M) (H : Heap) (locs : List Loc) (ls : Array Slot) (ct1 : Nat → Nat → Int32) (cl1 : Nat → Nat → Int64), i + n = 8 → md_H D M3 b ad 0 of sl ct1 cl1 → md_fr b ad M M3 → mo_R (sg_comes σ i) (fun _ => sl - 1) of sl ct1 cl1 → hp_H D B M3 H → va_S (hp_ub B) s.heap H locs → lv_has ls 3 [(1, .int (nI i)), (0, .ref b)] → W p l e rm_Md_slot s m args below meth cd H locs 0 0 Q (F0 m 7 ls []) := by
    intro n
    induction n with
    | zero =>
      intro i M3 H locs ls ct1 cl1 hn hm hf hR1 hH hS hl
      have e8 : i = 8 := by omega
      subst e8
      refine lv_iload_n hx hb d_Md_slot_7 rfl (lv_at hl 0 rfl) ?_
      refine lv_bipush (v := 8) hx hb d_Md_slot_8 (by decide) ?_
      refine lv_icmp_ge (tgt := 34) hx hb d_Md_slot_10 (by decide) (fun c_7 => ?_) (fun c_7 => absurd (nI_le (a := 8) (by omega) (by omega)) c_7)
      refine lv_iconst (v := 0) hx hb d_Md_slot_34 (by decide) ?_
      refine lv_istore_n (lv' := [(1, .int 0), (0, .ref b)]) hx hb d_Md_slot_35 rfl hl (by decide) rfl (fun ls hl => ?_)
      refine lv_iconst (v := 0) hx hb d_Md_slot_36 (by decide) ?_
      refine lv_istore_n (lv' := [(2, .int 0), (1, .int 0), (0, .ref b)]) hx hb d_Md_slot_37 rfl hl (by decide) rfl (fun ls hl => ?_)
      exact L2 8 0 M3 _ _ ls ct1 cl1 (by omega) hm hf hR1 hH hS (lv_sub hl [0, 1, 2] rfl)
    | succ n ih =>
      intro i M3 H locs ls ct1 cl1 hn hm hf hR1 hH hS hl
      have hi8 : i < 8 := by omega
      have hv := sg_inv_comes hinv (n := i) (by omega)
      have ha : sg_ac (sg_comes σ i) ≤ 512 := by rw [sg_ac_comes]; exact hac
      refine lv_iload_n hx hb d_Md_slot_7 rfl (lv_at hl 0 rfl) ?_
      refine lv_bipush (v := 8) hx hb d_Md_slot_8 (by decide) ?_
      refine lv_icmp_ge (tgt := 34) hx hb d_Md_slot_10 (by decide) (fun c_8 => absurd c_8 (nI_ge (b := 8) (by omega) (by omega))) (fun c_8 => ?_)
      refine lv_aload_n hx hb d_Md_slot_13 rfl (lv_at hl 1 rfl) ?_
      refine hp_get hx hb hts iw_Md hown hK hH hm.1 rfl 11 (by decide) (hts _ kw_155) (v := .ref (ad 10)) rfl d_Md_slot_14 ?_
      refine lv_iload_n hx hb d_Md_slot_17 rfl (lv_at hl 0 rfl) ?_
      refine hp_iald hx hb hK hH (show M3 (ad 10) = some (hp_ai D 8 (ct1 10)) from hm.2.1 10 (by decide) (by decide) (by decide)) i rfl hi8 (by decide) (v := (ct1 10 i)) rfl d_Md_slot_18 ?_
      refine lv_iconst (v := (-1)) hx hb d_Md_slot_19 (by decide) ?_
      refine lv_icmp_eq (tgt := 28) hx hb d_Md_slot_20 (by decide) (fun c_9 => ?_) (fun c_9 => ?_)
      · have hof := mo_m1 (tk := 0) (hR1.2.2.2 i hi8) (fun d hd => ((hv.2.1 i hi8).2 d hd).2.1) c_9
        refine lv_iinc (v := nI (i + 1)) (lv' := [(1, .int (nI (i + 1))), (0, .ref b)]) hx hb d_Md_slot_28 hl (k := 0) rfl (nI_1 i) (by decide) rfl (fun ls hl => ?_)
        refine lv_goto (tgt := 7) hx hb d_Md_slot_31 (by decide) ?_
        exact ih (i + 1) M3 _ _ ls _ _ (by omega) hm hf (by show mo_R (sg_come (sg_comes σ i) i) _ _ _ _ _; unfold sg_come; rw [hof]; exact hR1) hH hS (lv_sub hl [0, 1] rfl)
      · obtain ⟨c, hc, -⟩ := mo_nm1 (hR1.2.2.2 i hi8) c_9
        refine lv_aload_n hx hb d_Md_slot_23 rfl (lv_at hl 1 rfl) ?_
        refine lv_iload_n hx hb d_Md_slot_24 rfl (lv_at hl 0 rfl) ?_
        refine hp_callv (hp_runV (b := b) (As := [.int (nI i)]) (rest := []) hx hb hml hown (cn_Md_come l D B M3 b ad 0 of sl ct1 cl1 (sg_comes σ i) (fun _ => sl - 1) i c hm hR1 hv ha hi8 hc) (hp_cwV 1 hts kw_198 kw_200 kw_201 kw_137 kw_199 rfl rfl (by decide +kernel) ⟨(Nat.le_of_ble_eq_true rfl), (Nat.le_of_ble_eq_true rfl)⟩) hK hH hm.1 rfl rfl hl.1 rfl (Nat.le_of_ble_eq_true rfl) d_Md_slot_25 ⟨(Nat.le_of_ble_eq_true rfl), (Nat.le_of_ble_eq_true rfl)⟩) hS (fun M_11 H locs w_12 hH hS => ?_)
        obtain ⟨ct2, cl2, hm', hf', hR'⟩ := w_12
        refine lv_iinc (v := nI (i + 1)) (lv' := [(1, .int (nI (i + 1))), (0, .ref b)]) hx hb d_Md_slot_28 hl (k := 0) rfl (nI_1 i) (by decide) rfl (fun ls hl => ?_)
        refine lv_goto (tgt := 7) hx hb d_Md_slot_31 (by decide) ?_
        exact ih (i + 1) M_11 _ _ ls _ _ (by omega) hm' (md_fr_tr hf hf') (by show mo_R (sg_come (sg_comes σ i) i) _ _ _ _ _; unfold sg_come; rw [hc]; exact hR') hH hS (lv_sub hl [0, 1] rfl)
  refine lv_aload_n hx hb d_Md_slot_0 rfl (lv_at hl 0 rfl) ?_
  refine lv_iconst (v := 0) hx hb d_Md_slot_1 (by decide) ?_
  refine hp_put hx hb hts iw_Md t_Md t_Md_ok n_Md hown hK hH hS hB hm.1 rfl 0 (by decide) (hts _ kw_134) rfl  (v := .int 0) rfl rfl (Nat.le_of_ble_eq_true rfl) (fs' := [.int 0, .ref (ad 0), .ref (ad 1), .ref (ad 2), .ref (ad 3), .ref (ad 4), .ref (ad 5), .ref (ad 6), .ref (ad 7), .ref (ad 8), .ref (ad 9), .ref (ad 10), .ref (ad 11), .ref (ad 12), .ref (ad 13), .int of, .int sl, .ref (ad 14), .ref (ad 15), .ref (ad 16)]) rfl d_Md_slot_2 (fun M_13 H locs eM_13 hH hS => ?_)
  have hm := md_pb hm (th' := 0) (of' := of) (sl' := sl) eM_13
  have hf := md_fr_b hf eM_13
  refine lv_iconst (v := 0) hx hb d_Md_slot_5 (by decide) ?_
  refine lv_istore_n (lv' := [(1, .int 0), (0, .ref b)]) hx hb d_Md_slot_6 rfl hl (by decide) rfl (fun ls hl => ?_)
  exact L1 8 0 M_13 _ _ ls ct cl (by omega) hm hf (by rw [← hR.2.1] at hR; exact hR) hH hS (lv_sub hl [0, 1] rfl)
abbrev rm_Md_leaves : Room := { frames := 0, cells := 0, slots := 0, locals := 0 }
set_option maxHeartbeats 4000000 in
set_option maxRecDepth 100000 in
theorem cn_Md_leaves (l : Launch) (D : va_G) (B : Nat) (M : hp_M) (b : Nat) (ad : Nat → Nat) (th of sl : Int32) (ct : Nat → Nat → Int32) (cl : Nat → Nat → Int64) (σ : sg_S) (t : Int32) (hm : md_H D M b ad th of sl ct cl) (hR : mo_R σ (fun _ => sg_sl σ - 1) of sl ct cl) (hinv : sg_inv σ) (hac : sg_ac σ ≤ 512) (hsei : sg_sei σ) : Met l y_Md_leaves (wd_c y_Md_leaves b_Md_leaves 7 (some .int)) rm_Md_leaves (va_Pc [.ref b, .int t] (hp_C D B M)) (va_Qi (fun (r : Int32) (M1 : hp_M) => md_H D M1 b ad 0 of sl ct cl ∧ md_fr b ad M M1 ∧ r = an_leaves σ t) (hp_C D B) (hp_ub B)) 0 0 (hp_ub B) := by
  refine hp_met (by decide) (Nat.le_of_ble_eq_true rfl) ?_
  intro p e s m args below meth cd ls Q hQ hx hb hr hts hown hlocks hnm hml hK hH hS hB hl
  replace hl : lv_has ls 7 [(0, .ref b), (1, .int t)] := hl
  have hf : md_fr b ad M M := md_fr_rf
  refine lv_aload_n hx hb d_Md_leaves_0 rfl (lv_at hl 0 rfl) ?_
  refine lv_iconst (v := 0) hx hb d_Md_leaves_1 (by decide) ?_
  refine hp_put hx hb hts iw_Md t_Md t_Md_ok n_Md hown hK hH hS hB hm.1 rfl 0 (by decide) (hts _ kw_134) rfl  (v := .int 0) rfl rfl (Nat.le_of_ble_eq_true rfl) (fs' := [.int 0, .ref (ad 0), .ref (ad 1), .ref (ad 2), .ref (ad 3), .ref (ad 4), .ref (ad 5), .ref (ad 6), .ref (ad 7), .ref (ad 8), .ref (ad 9), .ref (ad 10), .ref (ad 11), .ref (ad 12), .ref (ad 13), .int of, .int sl, .ref (ad 14), .ref (ad 15), .ref (ad 16)]) rfl d_Md_leaves_2 (fun M_1 H locs eM_1 hH hS => ?_)
  have hm := md_pb hm (th' := 0) (of' := of) (sl' := sl) eM_1
  have hf := md_fr_b hf eM_1
  refine lv_iconst (v := (-1)) hx hb d_Md_leaves_5 (by decide) ?_
  refine lv_istore_n (lv' := [(2, .int (-1)), (0, .ref b), (1, .int t)]) hx hb d_Md_leaves_6 rfl hl (by decide) rfl (fun ls hl => ?_)
  refine lv_iconst (v := 0) hx hb d_Md_leaves_7 (by decide) ?_
  refine lv_istore_n (lv' := [(3, .int 0), (2, .int (-1)), (0, .ref b), (1, .int t)]) hx hb d_Md_leaves_8 rfl hl (by decide) rfl (fun ls hl => ?_)
  refine lv_iconst (v := 0) hx hb d_Md_leaves_9 (by decide) ?_
  refine lv_istore (lv' := [(4, .int 0), (3, .int 0), (2, .int (-1)), (0, .ref b), (1, .int t)]) hx hb d_Md_leaves_10 hl (by decide) rfl (fun ls hl => ?_)
  have In : ∀ (o : Nat), o < 8 → ∀ (n k : Nat) (be : Option sg_Ce × Int32) (best least : Int32) (ls : Array Slot), k + n = (sg_qu σ o).length → ls_R be best least → lv_D σ o k be.1 → (∀ (best least : Int32) (ls : Array Slot), ls_R (lv_in t be k ((sg_qu σ o).drop k)) best least → lv_D σ (o + 1) 0 (lv_in t be k ((sg_qu σ o).drop k)).1 → lv_has ls 7 [(4, .int (nI o)), (2, .int best), (3, .int least), (0, .ref b), (1, .int t)] → W p l e rm_Md_leaves s m args below meth cd H locs 0 0 Q (F0 m 92 ls [])) → lv_has ls 7 [(5, .int (nI k)), (4, .int (nI o)), (2, .int best), (3, .int least), (0, .ref b), (1, .int t)] → W p l e rm_Md_leaves s m args below meth cd H locs 0 0 Q (F0 m 22 ls []) := by
    intro o ho8 n
    have hm0 := (hR.2.2.1 o ho8).1
    have hlen := sg_len_le hinv ho8
    induction n with
    | zero =>
      intro k be best least ls hn hls hD K hl
      refine lv_iload hx hb d_Md_leaves_22 (lv_at hl 0 rfl) ?_
      refine lv_aload_n hx hb d_Md_leaves_24 rfl (lv_at hl 4 rfl) ?_
      refine hp_get hx hb hts iw_Md hown hK hH hm.1 rfl 1 (by decide) (hts _ kw_147) (v := .ref (ad 0)) rfl d_Md_leaves_25 ?_
      refine lv_iload hx hb d_Md_leaves_28 (lv_at hl 1 rfl) ?_
      refine hp_iald hx hb hK hH (show M_1 (ad 0) = some (hp_ai D 8 (ct 0)) from hm.2.1 0 (by decide) (by decide) (by decide)) o rfl ho8 (by decide) (v := (ct 0 o)) rfl d_Md_leaves_30 ?_
      refine lv_icmp_ge (tgt := 92) hx hb d_Md_leaves_31 (by decide) (fun c_2 => ?_) (fun c_2 => absurd (by rw [hm0]; exact nI_le (by omega) (by omega)) c_2)
      exact K best least ls (by rw [List.drop_eq_nil_of_le (by omega)]; exact hls) (by rw [List.drop_eq_nil_of_le (by omega)]; exact lv_D_next hD) (lv_sub hl [1, 2, 3, 4, 5] rfl)
    | succ n ih =>
      intro k be best least ls hn hls hD K hl
      obtain ⟨c, hc, hd, hcm⟩ := sg_drop (l := sg_qu σ o) (k := k) (by omega)
      have hc5 := Nat.lt_of_lt_of_le ((hinv.1 o ho8).2.2.2 c hcm).2.2.2 hac
      obtain ⟨hr1, hr2, hr3, hr4, hr5, hr6⟩ := mo_rw ((hR.2.2.1 o ho8).2.2.2.1 k c hc)
      refine lv_iload hx hb d_Md_leaves_22 (lv_at hl 0 rfl) ?_
      refine lv_aload_n hx hb d_Md_leaves_24 rfl (lv_at hl 4 rfl) ?_
      refine hp_get hx hb hts iw_Md hown hK hH hm.1 rfl 1 (by decide) (hts _ kw_147) (v := .ref (ad 0)) rfl d_Md_leaves_25 ?_
      refine lv_iload hx hb d_Md_leaves_28 (lv_at hl 1 rfl) ?_
      refine hp_iald hx hb hK hH (show M_1 (ad 0) = some (hp_ai D 8 (ct 0)) from hm.2.1 0 (by decide) (by decide) (by decide)) o rfl ho8 (by decide) (v := (ct 0 o)) rfl d_Md_leaves_30 ?_
      refine lv_icmp_ge (tgt := 92) hx hb d_Md_leaves_31 (by decide) (fun c_3 => absurd c_3 (by rw [hm0]; exact nI_ge (by omega) (by omega))) (fun c_3 => ?_)
      refine lv_sipush (v := 512) hx hb d_Md_leaves_34 (by decide) ?_
      refine lv_iload hx hb d_Md_leaves_37 (lv_at hl 1 rfl) ?_
      refine lv_imul hx hb d_Md_leaves_39 ?_
      refine lv_iload hx hb d_Md_leaves_40 (lv_at hl 0 rfl) ?_
      refine lv_iadd hx hb d_Md_leaves_42 ?_
      refine hp_ioi (md_ix512 o k) ?_
      refine lv_istore (lv' := [(6, .int (nI (512 * o + k))), (5, .int (nI k)), (4, .int (nI o)), (2, .int best), (3, .int least), (0, .ref b), (1, .int t)]) hx hb d_Md_leaves_43 hl (by decide) rfl (fun ls hl => ?_)
      refine lv_aload_n hx hb d_Md_leaves_45 rfl (lv_at hl 5 rfl) ?_
      refine hp_get hx hb hts iw_Md hown hK hH hm.1 rfl 4 (by decide) (hts _ kw_177) (v := .ref (ad 3)) rfl d_Md_leaves_46 ?_
      refine lv_iload hx hb d_Md_leaves_49 (lv_at hl 0 rfl) ?_
      refine hp_iald hx hb hK hH (show M_1 (ad 3) = some (hp_ai D 4096 (ct 3)) from hm.2.1 3 (by decide) (by decide) (by decide)) (512 * o + k) rfl (by omega) (by decide) (v := sg_ct c) hr3 d_Md_leaves_51 ?_
      refine lv_iload_n hx hb d_Md_leaves_52 rfl (lv_at hl 6 rfl) ?_
      refine lv_icmp_ne (tgt := 86) hx hb d_Md_leaves_53 (by decide) (fun c_4 => ?_) (fun c_4 => ?_)
      · refine lv_iinc (v := nI (k + 1)) (lv' := [(5, .int (nI (k + 1))), (6, .int (nI (512 * o + k))), (4, .int (nI o)), (2, .int best), (3, .int least), (0, .ref b), (1, .int t)]) hx hb d_Md_leaves_86 hl (k := 1) rfl (nI_1 k) (by decide) rfl (fun ls hl => ?_)
        refine lv_goto (tgt := 22) hx hb d_Md_leaves_89 (by decide) ?_
        exact ih (k + 1) be best least ls (by omega) hls (lv_D_skip hD) (fun best least ls h1 h2 h3 => K best least ls (by rw [hd, lv_skip (fun q => c_4 q.1)]; exact h1) (by rw [hd, lv_skip (fun q => c_4 q.1)]; exact h2) h3) (lv_sub hl [0, 2, 3, 4, 5, 6] rfl)
      · refine lv_iload_n hx hb d_Md_leaves_56 rfl (lv_at hl 3 rfl) ?_
        refine lv_iconst (v := (-1)) hx hb d_Md_leaves_57 (by decide) ?_
        refine lv_icmp_eq (tgt := 75) hx hb d_Md_leaves_58 (by decide) (fun c_5 => ?_) (fun c_5 => ?_)
        · refine lv_iload hx hb d_Md_leaves_75 (lv_at hl 1 rfl) ?_
          refine lv_istore_n (lv' := [(2, .int (nI k)), (6, .int (nI (512 * o + k))), (5, .int (nI k)), (4, .int (nI o)), (3, .int least), (0, .ref b), (1, .int t)]) hx hb d_Md_leaves_77 rfl hl (by decide) rfl (fun ls hl => ?_)
          refine lv_aload_n hx hb d_Md_leaves_78 rfl (lv_at hl 5 rfl) ?_
          refine hp_get hx hb hts iw_Md hown hK hH hm.1 rfl 7 (by decide) (hts _ kw_179) (v := .ref (ad 6)) rfl d_Md_leaves_79 ?_
          refine lv_iload hx hb d_Md_leaves_82 (lv_at hl 1 rfl) ?_
          refine hp_iald hx hb hK hH (show M_1 (ad 6) = some (hp_ai D 4096 (ct 6)) from hm.2.1 6 (by decide) (by decide) (by decide)) (512 * o + k) rfl (by omega) (by decide) (v := nI (sg_cs c)) hr6 d_Md_leaves_84 ?_
          refine lv_istore_n (lv' := [(3, .int (nI (sg_cs c))), (2, .int (nI k)), (6, .int (nI (512 * o + k))), (5, .int (nI k)), (4, .int (nI o)), (0, .ref b), (1, .int t)]) hx hb d_Md_leaves_85 rfl hl (by decide) rfl (fun ls hl => ?_)
          refine lv_iinc (v := nI (k + 1)) (lv' := [(5, .int (nI (k + 1))), (3, .int (nI (sg_cs c))), (2, .int (nI k)), (6, .int (nI (512 * o + k))), (4, .int (nI o)), (0, .ref b), (1, .int t)]) hx hb d_Md_leaves_86 hl (k := 3) rfl (nI_1 k) (by decide) rfl (fun ls hl => ?_)
          refine lv_goto (tgt := 22) hx hb d_Md_leaves_89 (by decide) ?_
          exact ih (k + 1) (some c, nI k) (nI k) (nI (sg_cs c)) ls (by omega) ⟨rfl, ⟨k, by omega, rfl⟩, rfl, hc5⟩ (lv_D_take hc) (fun best least ls h1 h2 h3 => K best least ls (by rw [hd, lv_take c_4 (by rw [ls_none hls c_5]; rfl)]; exact h1) (by rw [hd, lv_take c_4 (by rw [ls_none hls c_5]; rfl)]; exact h2) h3) (lv_sub hl [0, 4, 2, 1, 5, 6] rfl)
        · obtain ⟨d, hb1, hb2, hb3⟩ := ls_some hls c_5
          refine lv_aload_n hx hb d_Md_leaves_61 rfl (lv_at hl 5 rfl) ?_
          refine hp_get hx hb hts iw_Md hown hK hH hm.1 rfl 7 (by decide) (hts _ kw_179) (v := .ref (ad 6)) rfl d_Md_leaves_62 ?_
          refine lv_iload hx hb d_Md_leaves_65 (lv_at hl 0 rfl) ?_
          refine hp_iald hx hb hK hH (show M_1 (ad 6) = some (hp_ai D 4096 (ct 6)) from hm.2.1 6 (by decide) (by decide) (by decide)) (512 * o + k) rfl (by omega) (by decide) (v := nI (sg_cs c)) hr6 d_Md_leaves_67 ?_
          refine lv_iload_n hx hb d_Md_leaves_68 rfl (lv_at hl 4 rfl) ?_
          refine lv_icmp_le (tgt := 75) hx hb d_Md_leaves_69 (by decide) (fun c_6 => ?_) (fun c_6 => ?_)
          · refine lv_iload hx hb d_Md_leaves_75 (lv_at hl 1 rfl) ?_
            refine lv_istore_n (lv' := [(2, .int (nI k)), (6, .int (nI (512 * o + k))), (5, .int (nI k)), (4, .int (nI o)), (3, .int least), (0, .ref b), (1, .int t)]) hx hb d_Md_leaves_77 rfl hl (by decide) rfl (fun ls hl => ?_)
            refine lv_aload_n hx hb d_Md_leaves_78 rfl (lv_at hl 5 rfl) ?_
            refine hp_get hx hb hts iw_Md hown hK hH hm.1 rfl 7 (by decide) (hts _ kw_179) (v := .ref (ad 6)) rfl d_Md_leaves_79 ?_
            refine lv_iload hx hb d_Md_leaves_82 (lv_at hl 1 rfl) ?_
            refine hp_iald hx hb hK hH (show M_1 (ad 6) = some (hp_ai D 4096 (ct 6)) from hm.2.1 6 (by decide) (by decide) (by decide)) (512 * o + k) rfl (by omega) (by decide) (v := nI (sg_cs c)) hr6 d_Md_leaves_84 ?_
            refine lv_istore_n (lv' := [(3, .int (nI (sg_cs c))), (2, .int (nI k)), (6, .int (nI (512 * o + k))), (5, .int (nI k)), (4, .int (nI o)), (0, .ref b), (1, .int t)]) hx hb d_Md_leaves_85 rfl hl (by decide) rfl (fun ls hl => ?_)
            refine lv_iinc (v := nI (k + 1)) (lv' := [(5, .int (nI (k + 1))), (3, .int (nI (sg_cs c))), (2, .int (nI k)), (6, .int (nI (512 * o + k))), (4, .int (nI o)), (0, .ref b), (1, .int t)]) hx hb d_Md_leaves_86 hl (k := 3) rfl (nI_1 k) (by decide) rfl (fun ls hl => ?_)
            refine lv_goto (tgt := 22) hx hb d_Md_leaves_89 (by decide) ?_
            exact ih (k + 1) (some c, nI k) (nI k) (nI (sg_cs c)) ls (by omega) ⟨rfl, ⟨k, by omega, rfl⟩, rfl, hc5⟩ (lv_D_take hc) (fun best least ls h1 h2 h3 => K best least ls (by rw [hd, lv_take c_4 (by rw [hb1]; have q1 := lv_ne hinv ho8 hc hD hb1; have q2 := (nI_leI (by omega) (by omega)).mp (hb2 ▸ c_6); exact decide_eq_true (by omega))]; exact h1) (by rw [hd, lv_take c_4 (by rw [hb1]; have q1 := lv_ne hinv ho8 hc hD hb1; have q2 := (nI_leI (by omega) (by omega)).mp (hb2 ▸ c_6); exact decide_eq_true (by omega))]; exact h2) h3) (lv_sub hl [0, 4, 2, 1, 5, 6] rfl)
          · refine lv_goto (tgt := 86) hx hb d_Md_leaves_72 (by decide) ?_
            refine lv_iinc (v := nI (k + 1)) (lv' := [(5, .int (nI (k + 1))), (6, .int (nI (512 * o + k))), (4, .int (nI o)), (2, .int best), (3, .int least), (0, .ref b), (1, .int t)]) hx hb d_Md_leaves_86 hl (k := 1) rfl (nI_1 k) (by decide) rfl (fun ls hl => ?_)
            refine lv_goto (tgt := 22) hx hb d_Md_leaves_89 (by decide) ?_
            exact ih (k + 1) be best least ls (by omega) hls (lv_D_skip hD) (fun best least ls h1 h2 h3 => K best least ls (by rw [hd, lv_skip (fun q => by rw [hb1] at q; have q3 := of_decide_eq_true q.2; exact c_6 (by rw [hb2]; exact nI_le (by omega) (by omega)))]; exact h1) (by rw [hd, lv_skip (fun q => by rw [hb1] at q; have q3 := of_decide_eq_true q.2; exact c_6 (by rw [hb2]; exact nI_le (by omega) (by omega)))]; exact h2) h3) (lv_sub hl [0, 2, 3, 4, 5, 6] rfl)
  have Lp : ∀ (n o : Nat) (best least : Int32) (ls : Array Slot), o + n = 8 → ls_R (lv_out σ t o) best least → lv_D σ o 0 (lv_out σ t o).1 → lv_has ls 7 [(4, .int (nI o)), (2, .int best), (3, .int least), (0, .ref b), (1, .int t)] → W p l e rm_Md_leaves s m args below meth cd H locs 0 0 Q (F0 m 12 ls []) := by
    intro n
    induction n with
    | zero =>
      intro o best least ls hn hls hD hl
      have e8 : o = 8 := by omega
      subst e8
      refine lv_iload hx hb d_Md_leaves_12 (lv_at hl 0 rfl) ?_
      refine lv_bipush (v := 8) hx hb d_Md_leaves_14 (by decide) ?_
      refine lv_icmp_ge (tgt := 98) hx hb d_Md_leaves_16 (by decide) (fun c_7 => ?_) (fun c_7 => absurd (nI_le (a := 8) (by omega) (by omega)) c_7)
      refine lv_iload_n hx hb d_Md_leaves_98 rfl (lv_at hl 1 rfl) ?_
      exact hp_iret hx hb hr hlocks hQ hK hH hS (Nat.le_of_ble_eq_true rfl) (Nat.le_of_ble_eq_true rfl) d_Md_leaves_99 ⟨hm, hf, hls.1.symm⟩
    | succ n ih =>
      intro o best least ls hn hls hD hl
      have ho8 : o < 8 := by omega
      refine lv_iload hx hb d_Md_leaves_12 (lv_at hl 0 rfl) ?_
      refine lv_bipush (v := 8) hx hb d_Md_leaves_14 (by decide) ?_
      refine lv_icmp_ge (tgt := 98) hx hb d_Md_leaves_16 (by decide) (fun c_8 => absurd c_8 (nI_ge (b := 8) (by omega) (by omega))) (fun c_8 => ?_)
      refine lv_iconst (v := 0) hx hb d_Md_leaves_19 (by decide) ?_
      refine lv_istore (lv' := [(5, .int 0), (4, .int (nI o)), (2, .int best), (3, .int least), (0, .ref b), (1, .int t)]) hx hb d_Md_leaves_20 hl (by decide) rfl (fun ls hl => ?_)
      refine In o ho8 (sg_qu σ o).length 0 (lv_out σ t o) best least ls (by omega) hls hD (fun best least ls hls hD hl => ?_) (lv_sub hl [0, 1, 2, 3, 4, 5] rfl)
      refine lv_iinc (v := nI (o + 1)) (lv' := [(4, .int (nI (o + 1))), (2, .int best), (3, .int least), (0, .ref b), (1, .int t)]) hx hb d_Md_leaves_92 hl (k := 0) rfl (nI_1 o) (by decide) rfl (fun ls hl => ?_)
      refine lv_goto (tgt := 12) hx hb d_Md_leaves_95 (by decide) ?_
      exact ih (o + 1) best least ls (by omega) hls hD (lv_sub hl [0, 1, 2, 3, 4] rfl)
  exact Lp 8 0 (-1) 0 ls (by omega) ⟨rfl, rfl⟩ (fun d hd => by cases hd) (lv_sub hl [0, 2, 1, 3, 4] rfl)
