theorem kw_170 : Cond.fieldLink R_Md 38 "EvenSwitchModel" "lastTimes" "[J" ∈ wd_T := wd_in (List.mem_of_getElem? (i := 287) (by decide +kernel)) rfl
theorem kw_171 : Cond.methodLink R_Md 62 y_Md_empty ∈ wd_T := wd_in (List.mem_of_getElem? (i := 273) (by decide +kernel)) rfl
theorem kw_172 : Cond.code y_Md_empty b_Md_empty 2 none ∈ wd_T := wd_in (List.mem_of_getElem? (i := 276) (by decide +kernel)) rfl
theorem kw_173 : Cond.instanceMethod y_Md_empty ∈ wd_T := wd_in (List.mem_of_getElem? (i := 275) (by decide +kernel)) rfl
theorem kw_174 : Cond.selects R_Md y_Md_empty y_Md_empty ∈ wd_T := wd_in (List.mem_of_getElem? (i := 9) (by decide +kernel)) rfl
theorem kw_175 : Cond.methodLink R_Md 1 objectInit ∈ wd_T := wd_in (List.mem_of_getElem? (i := 272) (by decide +kernel)) rfl
theorem kw_176 : Cond.fieldLink R_Md 16 "EvenSwitchModel" "classes" "[I" ∈ wd_T := wd_in (List.mem_of_getElem? (i := 280) (by decide +kernel)) rfl
theorem kw_177 : Cond.fieldLink R_Md 19 "EvenSwitchModel" "tags" "[I" ∈ wd_T := wd_in (List.mem_of_getElem? (i := 281) (by decide +kernel)) rfl
theorem kw_178 : Cond.fieldLink R_Md 26 "EvenSwitchModel" "came" "[I" ∈ wd_T := wd_in (List.mem_of_getElem? (i := 283) (by decide +kernel)) rfl
theorem kw_179 : Cond.fieldLink R_Md 29 "EvenSwitchModel" "accepted" "[I" ∈ wd_T := wd_in (List.mem_of_getElem? (i := 284) (by decide +kernel)) rfl
theorem d_Md_empty_0 : decode b_Md_empty 0 = .ok (.iconst 0, 1) := by decide +kernel
theorem d_Md_empty_1 : decode b_Md_empty 1 = .ok (.istore_n 1, 1) := by decide +kernel
theorem d_Md_empty_2 : decode b_Md_empty 2 = .ok (.iload_n 1, 1) := by decide +kernel
theorem d_Md_empty_3 : decode b_Md_empty 3 = .ok (.bipush 8, 2) := by decide +kernel
theorem d_Md_empty_5 : decode b_Md_empty 5 = .ok (.if_icmp .ge 30, 3) := by decide +kernel
theorem d_Md_empty_8 : decode b_Md_empty 8 = .ok (.aload_n 0, 1) := by decide +kernel
theorem d_Md_empty_9 : decode b_Md_empty 9 = .ok (.getfield 7, 3) := by decide +kernel
theorem d_Md_empty_12 : decode b_Md_empty 12 = .ok (.iload_n 1, 1) := by decide +kernel
theorem d_Md_empty_13 : decode b_Md_empty 13 = .ok (.iconst 0, 1) := by decide +kernel
theorem d_Md_empty_14 : decode b_Md_empty 14 = .ok (.iastore, 1) := by decide +kernel
theorem d_Md_empty_15 : decode b_Md_empty 15 = .ok (.aload_n 0, 1) := by decide +kernel
theorem d_Md_empty_16 : decode b_Md_empty 16 = .ok (.getfield 41, 3) := by decide +kernel
theorem d_Md_empty_19 : decode b_Md_empty 19 = .ok (.iload_n 1, 1) := by decide +kernel
theorem d_Md_empty_20 : decode b_Md_empty 20 = .ok (.iconst (-1), 1) := by decide +kernel
theorem d_Md_empty_21 : decode b_Md_empty 21 = .ok (.iastore, 1) := by decide +kernel
theorem d_Md_empty_22 : decode b_Md_empty 22 = .ok (.aload_n 0, 1) := by decide +kernel
theorem d_Md_empty_23 : decode b_Md_empty 23 = .ok (.getfield 53, 3) := by decide +kernel
theorem d_Md_empty_26 : decode b_Md_empty 26 = .ok (.iload_n 1, 1) := by decide +kernel
theorem d_Md_empty_27 : decode b_Md_empty 27 = .ok (.iconst (-1), 1) := by decide +kernel
theorem d_Md_empty_28 : decode b_Md_empty 28 = .ok (.iastore, 1) := by decide +kernel
theorem d_Md_empty_29 : decode b_Md_empty 29 = .ok (.iinc 1 1, 3) := by decide +kernel
theorem d_Md_empty_32 : decode b_Md_empty 32 = .ok (.goto (-30), 3) := by decide +kernel
theorem d_Md_empty_35 : decode b_Md_empty 35 = .ok (.iconst 0, 1) := by decide +kernel
theorem d_Md_empty_36 : decode b_Md_empty 36 = .ok (.istore_n 1, 1) := by decide +kernel
theorem d_Md_empty_37 : decode b_Md_empty 37 = .ok (.iload_n 1, 1) := by decide +kernel
theorem d_Md_empty_38 : decode b_Md_empty 38 = .ok (.bipush 64, 2) := by decide +kernel
theorem d_Md_empty_40 : decode b_Md_empty 40 = .ok (.if_icmp .ge 16, 3) := by decide +kernel
theorem d_Md_empty_43 : decode b_Md_empty 43 = .ok (.aload_n 0, 1) := by decide +kernel
theorem d_Md_empty_44 : decode b_Md_empty 44 = .ok (.getfield 38, 3) := by decide +kernel
theorem d_Md_empty_47 : decode b_Md_empty 47 = .ok (.iload_n 1, 1) := by decide +kernel
theorem d_Md_empty_48 : decode b_Md_empty 48 = .ok (.lconst 0, 1) := by decide +kernel
theorem d_Md_empty_49 : decode b_Md_empty 49 = .ok (.lastore, 1) := by decide +kernel
theorem d_Md_empty_50 : decode b_Md_empty 50 = .ok (.iinc 1 1, 3) := by decide +kernel
theorem d_Md_empty_53 : decode b_Md_empty 53 = .ok (.goto (-16), 3) := by decide +kernel
theorem d_Md_empty_56 : decode b_Md_empty 56 = .ok (.return_, 1) := by decide +kernel
theorem d_Md_reset_0 : decode b_Md_reset 0 = .ok (.aload_n 0, 1) := by decide +kernel
theorem d_Md_reset_1 : decode b_Md_reset 1 = .ok (.iconst 0, 1) := by decide +kernel
theorem d_Md_reset_2 : decode b_Md_reset 2 = .ok (.putfield 65, 3) := by decide +kernel
theorem d_Md_reset_5 : decode b_Md_reset 5 = .ok (.aload_n 0, 1) := by decide +kernel
theorem d_Md_reset_6 : decode b_Md_reset 6 = .ok (.invokevirtual 62, 3) := by decide +kernel
theorem d_Md_reset_9 : decode b_Md_reset 9 = .ok (.return_, 1) := by decide +kernel
theorem d_Md_init_0 : decode b_Md_init 0 = .ok (.aload_n 0, 1) := by decide +kernel
theorem d_Md_init_1 : decode b_Md_init 1 = .ok (.invokespecial 1, 3) := by decide +kernel
theorem d_Md_init_4 : decode b_Md_init 4 = .ok (.aload_n 0, 1) := by decide +kernel
theorem d_Md_init_5 : decode b_Md_init 5 = .ok (.bipush 8, 2) := by decide +kernel
theorem d_Md_init_7 : decode b_Md_init 7 = .ok (.newarray .int, 2) := by decide +kernel
theorem d_Md_init_9 : decode b_Md_init 9 = .ok (.putfield 7, 3) := by decide +kernel
theorem d_Md_init_12 : decode b_Md_init 12 = .ok (.aload_n 0, 1) := by decide +kernel
theorem d_Md_init_13 : decode b_Md_init 13 = .ok (.sipush 4096, 3) := by decide +kernel
theorem d_Md_init_16 : decode b_Md_init 16 = .ok (.newarray .int, 2) := by decide +kernel
theorem d_Md_init_18 : decode b_Md_init 18 = .ok (.putfield 13, 3) := by decide +kernel
theorem d_Md_init_21 : decode b_Md_init 21 = .ok (.aload_n 0, 1) := by decide +kernel
theorem d_Md_init_22 : decode b_Md_init 22 = .ok (.sipush 4096, 3) := by decide +kernel
theorem d_Md_init_25 : decode b_Md_init 25 = .ok (.newarray .int, 2) := by decide +kernel
theorem d_Md_init_27 : decode b_Md_init 27 = .ok (.putfield 16, 3) := by decide +kernel
theorem d_Md_init_30 : decode b_Md_init 30 = .ok (.aload_n 0, 1) := by decide +kernel
theorem d_Md_init_31 : decode b_Md_init 31 = .ok (.sipush 4096, 3) := by decide +kernel
theorem d_Md_init_34 : decode b_Md_init 34 = .ok (.newarray .int, 2) := by decide +kernel
theorem d_Md_init_36 : decode b_Md_init 36 = .ok (.putfield 19, 3) := by decide +kernel
theorem d_Md_init_39 : decode b_Md_init 39 = .ok (.aload_n 0, 1) := by decide +kernel
theorem d_Md_init_40 : decode b_Md_init 40 = .ok (.sipush 4096, 3) := by decide +kernel
theorem d_Md_init_43 : decode b_Md_init 43 = .ok (.newarray .long, 2) := by decide +kernel
theorem d_Md_init_45 : decode b_Md_init 45 = .ok (.putfield 22, 3) := by decide +kernel
theorem d_Md_init_48 : decode b_Md_init 48 = .ok (.aload_n 0, 1) := by decide +kernel
theorem d_Md_init_49 : decode b_Md_init 49 = .ok (.sipush 4096, 3) := by decide +kernel
theorem d_Md_init_52 : decode b_Md_init 52 = .ok (.newarray .int, 2) := by decide +kernel
theorem d_Md_init_54 : decode b_Md_init 54 = .ok (.putfield 26, 3) := by decide +kernel
theorem d_Md_init_57 : decode b_Md_init 57 = .ok (.aload_n 0, 1) := by decide +kernel
theorem d_Md_init_58 : decode b_Md_init 58 = .ok (.sipush 4096, 3) := by decide +kernel
theorem d_Md_init_61 : decode b_Md_init 61 = .ok (.newarray .int, 2) := by decide +kernel
theorem d_Md_init_63 : decode b_Md_init 63 = .ok (.putfield 29, 3) := by decide +kernel
theorem d_Md_init_66 : decode b_Md_init 66 = .ok (.aload_n 0, 1) := by decide +kernel
theorem d_Md_init_67 : decode b_Md_init 67 = .ok (.bipush 8, 2) := by decide +kernel
theorem d_Md_init_69 : decode b_Md_init 69 = .ok (.newarray .int, 2) := by decide +kernel
theorem d_Md_init_71 : decode b_Md_init 71 = .ok (.putfield 32, 3) := by decide +kernel
theorem d_Md_init_74 : decode b_Md_init 74 = .ok (.aload_n 0, 1) := by decide +kernel
theorem d_Md_init_75 : decode b_Md_init 75 = .ok (.bipush 64, 2) := by decide +kernel
theorem d_Md_init_77 : decode b_Md_init 77 = .ok (.newarray .int, 2) := by decide +kernel
theorem d_Md_init_79 : decode b_Md_init 79 = .ok (.putfield 35, 3) := by decide +kernel
theorem d_Md_init_82 : decode b_Md_init 82 = .ok (.aload_n 0, 1) := by decide +kernel
theorem d_Md_init_83 : decode b_Md_init 83 = .ok (.bipush 64, 2) := by decide +kernel
theorem d_Md_init_85 : decode b_Md_init 85 = .ok (.newarray .long, 2) := by decide +kernel
theorem d_Md_init_87 : decode b_Md_init 87 = .ok (.putfield 38, 3) := by decide +kernel
theorem d_Md_init_90 : decode b_Md_init 90 = .ok (.aload_n 0, 1) := by decide +kernel
theorem d_Md_init_91 : decode b_Md_init 91 = .ok (.bipush 8, 2) := by decide +kernel
theorem d_Md_init_93 : decode b_Md_init 93 = .ok (.newarray .int, 2) := by decide +kernel
theorem d_Md_init_95 : decode b_Md_init 95 = .ok (.putfield 41, 3) := by decide +kernel
theorem d_Md_init_98 : decode b_Md_init 98 = .ok (.aload_n 0, 1) := by decide +kernel
theorem d_Md_init_99 : decode b_Md_init 99 = .ok (.bipush 8, 2) := by decide +kernel
theorem d_Md_init_101 : decode b_Md_init 101 = .ok (.newarray .int, 2) := by decide +kernel
theorem d_Md_init_103 : decode b_Md_init 103 = .ok (.putfield 44, 3) := by decide +kernel
theorem d_Md_init_106 : decode b_Md_init 106 = .ok (.aload_n 0, 1) := by decide +kernel
theorem d_Md_init_107 : decode b_Md_init 107 = .ok (.bipush 8, 2) := by decide +kernel
theorem d_Md_init_109 : decode b_Md_init 109 = .ok (.newarray .int, 2) := by decide +kernel
theorem d_Md_init_111 : decode b_Md_init 111 = .ok (.putfield 47, 3) := by decide +kernel
theorem d_Md_init_114 : decode b_Md_init 114 = .ok (.aload_n 0, 1) := by decide +kernel
theorem d_Md_init_115 : decode b_Md_init 115 = .ok (.bipush 8, 2) := by decide +kernel
theorem d_Md_init_117 : decode b_Md_init 117 = .ok (.newarray .int, 2) := by decide +kernel
theorem d_Md_init_119 : decode b_Md_init 119 = .ok (.putfield 50, 3) := by decide +kernel
theorem d_Md_init_122 : decode b_Md_init 122 = .ok (.aload_n 0, 1) := by decide +kernel
theorem d_Md_init_123 : decode b_Md_init 123 = .ok (.bipush 8, 2) := by decide +kernel
theorem d_Md_init_125 : decode b_Md_init 125 = .ok (.newarray .int, 2) := by decide +kernel
theorem d_Md_init_127 : decode b_Md_init 127 = .ok (.putfield 53, 3) := by decide +kernel
theorem d_Md_init_130 : decode b_Md_init 130 = .ok (.aload_n 0, 1) := by decide +kernel
theorem d_Md_init_131 : decode b_Md_init 131 = .ok (.bipush 8, 2) := by decide +kernel
theorem d_Md_init_133 : decode b_Md_init 133 = .ok (.newarray .int, 2) := by decide +kernel
theorem d_Md_init_135 : decode b_Md_init 135 = .ok (.putfield 56, 3) := by decide +kernel
theorem d_Md_init_138 : decode b_Md_init 138 = .ok (.aload_n 0, 1) := by decide +kernel
theorem d_Md_init_139 : decode b_Md_init 139 = .ok (.bipush 8, 2) := by decide +kernel
theorem d_Md_init_141 : decode b_Md_init 141 = .ok (.newarray .int, 2) := by decide +kernel
theorem d_Md_init_143 : decode b_Md_init 143 = .ok (.putfield 59, 3) := by decide +kernel
theorem d_Md_init_146 : decode b_Md_init 146 = .ok (.iconst 0, 1) := by decide +kernel
theorem d_Md_init_147 : decode b_Md_init 147 = .ok (.istore_n 1, 1) := by decide +kernel
theorem d_Md_init_148 : decode b_Md_init 148 = .ok (.iload_n 1, 1) := by decide +kernel
theorem d_Md_init_149 : decode b_Md_init 149 = .ok (.bipush 64, 2) := by decide +kernel
theorem d_Md_init_151 : decode b_Md_init 151 = .ok (.if_icmp .ge 16, 3) := by decide +kernel
theorem d_Md_init_154 : decode b_Md_init 154 = .ok (.aload_n 0, 1) := by decide +kernel
theorem d_Md_init_155 : decode b_Md_init 155 = .ok (.getfield 35, 3) := by decide +kernel
theorem d_Md_init_158 : decode b_Md_init 158 = .ok (.iload_n 1, 1) := by decide +kernel
theorem d_Md_init_159 : decode b_Md_init 159 = .ok (.iconst 1, 1) := by decide +kernel
theorem d_Md_init_160 : decode b_Md_init 160 = .ok (.iastore, 1) := by decide +kernel
theorem d_Md_init_161 : decode b_Md_init 161 = .ok (.iinc 1 1, 3) := by decide +kernel
theorem d_Md_init_164 : decode b_Md_init 164 = .ok (.goto (-16), 3) := by decide +kernel
theorem d_Md_init_167 : decode b_Md_init 167 = .ok (.aload_n 0, 1) := by decide +kernel
theorem d_Md_init_168 : decode b_Md_init 168 = .ok (.invokevirtual 62, 3) := by decide +kernel
theorem d_Md_init_171 : decode b_Md_init 171 = .ok (.return_, 1) := by decide +kernel
abbrev rm_Md_empty : Room := { frames := 0, cells := 0, slots := 0, locals := 0 }
set_option maxHeartbeats 4000000 in
set_option maxRecDepth 100000 in
theorem cn_Md_empty (l : Launch) (D : va_G) (B : Nat) (M : hp_M) (b : Nat) (ad : Nat → Nat) (th of sl : Int32) (ct : Nat → Nat → Int32) (cl : Nat → Nat → Int64) (hm : md_H D M b ad th of sl ct cl) : Met l y_Md_empty (wd_c y_Md_empty b_Md_empty 2 (none)) rm_Md_empty (va_Pc [.ref b] (hp_C D B M)) (va_Qv (fun  (M1 : hp_M) => ∃ (ct' : Nat → Nat → Int32) (cl' : Nat → Nat → Int64), md_H D M1 b ad th of sl ct' cl' ∧ md_fr b ad M M1 ∧ (∀ j, j < 8 → ct' 0 j = 0 ∧ ct' 10 j = -1 ∧ ct' 14 j = -1) ∧ (∀ j, j < 64 → cl' 9 j = 0) ∧ (∀ j, j ≠ 0 → j ≠ 10 → j ≠ 14 → ct' j = ct j)) (hp_C D B) (hp_ub B)) 0 0 (hp_ub B) := by
  refine hp_met (by decide) (Nat.le_of_ble_eq_true rfl) ?_
  intro p e s m args below meth cd ls Q hQ hx hb hr hts hown hlocks hnm hml hK hH hS hB hl
  replace hl : lv_has ls 2 [(0, .ref b)] := hl
  refine lv_iconst (v := 0) hx hb d_Md_empty_0 (by decide) ?_
  refine lv_istore_n (lv' := [(1, .int 0), (0, .ref b)]) hx hb d_Md_empty_1 rfl hl (by decide) rfl (fun ls hl => ?_)
  have L2 : ∀ (n k : Nat) (M2 : hp_M) (H : Heap) (locs : List Loc) (ls : Array Slot) (ct1 : Nat → Nat → Int32) (cl1 : Nat → Nat → Int64), k + n = 64 → md_H D M2 b ad th of sl ct1 cl1 → md_fr b ad M M2 → (∀ j, j < 8 → ct1 0 j = 0 ∧ ct1 10 j = -1 ∧ ct1 14 j = -1) → (∀ j, j ≠ 0 → j ≠ 10 → j ≠ 14 → ct1 j = ct j) → (∀ j, j < k → cl1 9 j = 0) → hp_H D B M2 H → va_S (hp_ub B) s.heap H locs → lv_has ls 2 [(1, .int (nI k)), (0, .ref b)] → W p l e rm_Md_empty s m args below meth cd H locs 0 0 Q (F0 m 37 ls []) := by
    intro n
    induction n with
    | zero =>
      intro k M2 H locs ls ct1 cl1 hn hm hf q1 q2 q3 hH hS hl
      refine lv_iload_n hx hb d_Md_empty_37 rfl (lv_at hl 0 rfl) ?_
      refine lv_bipush (v := 64) hx hb d_Md_empty_38 (by decide) ?_
      refine lv_icmp_ge (tgt := 56) hx hb d_Md_empty_40 (by decide) (fun c_1 => ?_) (fun c_1 => absurd (nI_le (a := 64) (by omega) (by omega)) c_1)
      exact hp_vret hx hb hr hlocks hQ hK hH hS (Nat.le_of_ble_eq_true rfl) (Nat.le_of_ble_eq_true rfl) d_Md_empty_56 ⟨ct1, cl1, hm, hf, q1, fun j hj => q3 j (by omega), q2⟩
    | succ n ih =>
      intro k M2 H locs ls ct1 cl1 hn hm hf q1 q2 q3 hH hS hl
      refine lv_iload_n hx hb d_Md_empty_37 rfl (lv_at hl 0 rfl) ?_
      refine lv_bipush (v := 64) hx hb d_Md_empty_38 (by decide) ?_
      refine lv_icmp_ge (tgt := 56) hx hb d_Md_empty_40 (by decide) (fun c_2 => absurd c_2 (nI_ge (b := 64) (by omega) (by omega))) (fun c_2 => ?_)
      refine lv_aload_n hx hb d_Md_empty_43 rfl (lv_at hl 1 rfl) ?_
      refine hp_get hx hb hts iw_Md hown hK hH hm.1 rfl 10 (by decide) (hts _ kw_170) (v := .ref (ad 9)) rfl d_Md_empty_44 ?_
      refine lv_iload_n hx hb d_Md_empty_47 rfl (lv_at hl 0 rfl) ?_
      refine lv_lconst (v := 0) hx hb d_Md_empty_48 (by decide) ?_
      refine hp_last hx hb hK hH hS hB (show M2 (ad 9) = some (hp_al D 64 (cl1 9)) from hm.2.2.1 9 (by decide)) k rfl (by omega) (by decide) d_Md_empty_49 (fun M_3 H locs eM_3 hH hS => ?_)
      have hm := md_pl hm (j := 9) (by decide) eM_3
      have hf := md_fr_a (j := 9) (by decide) hf eM_3
      refine lv_iinc (v := nI (k + 1)) (lv' := [(1, .int (nI (k + 1))), (0, .ref b)]) hx hb d_Md_empty_50 hl (k := 0) rfl (nI_1 k) (by decide) rfl (fun ls hl => ?_)
      refine lv_goto (tgt := 37) hx hb d_Md_empty_53 (by decide) ?_
      exact ih (k + 1) M_3 _ _ ls _ _ (by omega) hm hf q1 q2 (hp_fl q3) hH hS (lv_sub hl [0, 1] rfl)
  have L1 : ∀ (n k : Nat) (M2 : hp_M) (H : Heap) (locs : List Loc) (ls : Array Slot) (ct1 : Nat → Nat → Int32), k + n = 8 → md_H D M2 b ad th of sl ct1 cl → md_fr b ad M M2 → (∀ j, j < k → ct1 0 j = 0 ∧ ct1 10 j = -1 ∧ ct1 14 j = -1) → (∀ j, j ≠ 0 → j ≠ 10 → j ≠ 14 → ct1 j = ct j) → hp_H D B M2 H → va_S (hp_ub B) s.heap H locs → lv_has ls 2 [(1, .int (nI k)), (0, .ref b)] → W p l e rm_Md_empty s m args below meth cd H locs 0 0 Q (F0 m 2 ls []) := by
    intro n
    induction n with
    | zero =>
      intro k M2 H locs ls ct1 hn hm hf q1 q2 hH hS hl
      refine lv_iload_n hx hb d_Md_empty_2 rfl (lv_at hl 0 rfl) ?_
      refine lv_bipush (v := 8) hx hb d_Md_empty_3 (by decide) ?_
      refine lv_icmp_ge (tgt := 35) hx hb d_Md_empty_5 (by decide) (fun c_4 => ?_) (fun c_4 => absurd (nI_le (a := 8) (by omega) (by omega)) c_4)
      refine lv_iconst (v := 0) hx hb d_Md_empty_35 (by decide) ?_
      refine lv_istore_n (lv' := [(1, .int 0), (0, .ref b)]) hx hb d_Md_empty_36 rfl hl (by decide) rfl (fun ls hl => ?_)
      exact L2 64 0 M2 _ _ ls _ _ (by omega) hm hf (fun j hj => q1 j (by omega)) q2 (fun j hj => absurd hj (Nat.not_lt_zero j)) hH hS (lv_sub hl [0, 1] rfl)
    | succ n ih =>
      intro k M2 H locs ls ct1 hn hm hf q1 q2 hH hS hl
      refine lv_iload_n hx hb d_Md_empty_2 rfl (lv_at hl 0 rfl) ?_
      refine lv_bipush (v := 8) hx hb d_Md_empty_3 (by decide) ?_
      refine lv_icmp_ge (tgt := 35) hx hb d_Md_empty_5 (by decide) (fun c_5 => absurd c_5 (nI_ge (b := 8) (by omega) (by omega))) (fun c_5 => ?_)
      refine lv_aload_n hx hb d_Md_empty_8 rfl (lv_at hl 1 rfl) ?_
      refine hp_get hx hb hts iw_Md hown hK hH hm.1 rfl 1 (by decide) (hts _ kw_147) (v := .ref (ad 0)) rfl d_Md_empty_9 ?_
      refine lv_iload_n hx hb d_Md_empty_12 rfl (lv_at hl 0 rfl) ?_
      refine lv_iconst (v := 0) hx hb d_Md_empty_13 (by decide) ?_
      refine hp_iast hx hb hK hH hS hB (show M2 (ad 0) = some (hp_ai D 8 (ct1 0)) from hm.2.1 0 (by decide) (by decide) (by decide)) k rfl (by omega) (by decide) d_Md_empty_14 (fun M_6 H locs eM_6 hH hS => ?_)
      have hm := md_pi hm (j := 0) (by decide) (by decide) (by decide) eM_6
      have hf := md_fr_a (j := 0) (by decide) hf eM_6
      refine lv_aload_n hx hb d_Md_empty_15 rfl (lv_at hl 1 rfl) ?_
      refine hp_get hx hb hts iw_Md hown hK hH hm.1 rfl 11 (by decide) (hts _ kw_155) (v := .ref (ad 10)) rfl d_Md_empty_16 ?_
      refine lv_iload_n hx hb d_Md_empty_19 rfl (lv_at hl 0 rfl) ?_
      refine lv_iconst (v := (-1)) hx hb d_Md_empty_20 (by decide) ?_
      refine hp_iast hx hb hK hH hS hB (show M_6 (ad 10) = some (hp_ai D 8 (ct1 10)) from hm.2.1 10 (by decide) (by decide) (by decide)) k rfl (by omega) (by decide) d_Md_empty_21 (fun M_7 H locs eM_7 hH hS => ?_)
      have hm := md_pi hm (j := 10) (by decide) (by decide) (by decide) eM_7
      have hf := md_fr_a (j := 10) (by decide) hf eM_7
      refine lv_aload_n hx hb d_Md_empty_22 rfl (lv_at hl 1 rfl) ?_
      refine hp_get hx hb hts iw_Md hown hK hH hm.1 rfl 17 (by decide) (hts _ kw_140) (v := .ref (ad 14)) rfl d_Md_empty_23 ?_
      refine lv_iload_n hx hb d_Md_empty_26 rfl (lv_at hl 0 rfl) ?_
      refine lv_iconst (v := (-1)) hx hb d_Md_empty_27 (by decide) ?_
      refine hp_iast hx hb hK hH hS hB (show M_7 (ad 14) = some (hp_ai D 8 (ct1 14)) from hm.2.1 14 (by decide) (by decide) (by decide)) k rfl (by omega) (by decide) d_Md_empty_28 (fun M_8 H locs eM_8 hH hS => ?_)
      have hm := md_pi hm (j := 14) (by decide) (by decide) (by decide) eM_8
      have hf := md_fr_a (j := 14) (by decide) hf eM_8
      refine lv_iinc (v := nI (k + 1)) (lv' := [(1, .int (nI (k + 1))), (0, .ref b)]) hx hb d_Md_empty_29 hl (k := 0) rfl (nI_1 k) (by decide) rfl (fun ls hl => ?_)
      refine lv_goto (tgt := 2) hx hb d_Md_empty_32 (by decide) ?_
      exact ih (k + 1) M_8 _ _ ls _ (by omega) hm hf (mo_em q1) (mo_em2 q2) hH hS (lv_sub hl [0, 1] rfl)
  exact L1 8 0 M _ _ ls _ (by omega) hm md_fr_rf (fun j hj => absurd hj (Nat.not_lt_zero j)) (fun j _ _ _ => rfl) hH hS (lv_sub hl [0, 1] rfl)
abbrev rm_Md_reset : Room := { frames := 1, cells := 0, slots := 0, locals := 21 }
set_option maxHeartbeats 4000000 in
set_option maxRecDepth 100000 in
theorem cn_Md_reset (l : Launch) (D : va_G) (B : Nat) (M : hp_M) (b : Nat) (ad : Nat → Nat) (th of sl : Int32) (ct : Nat → Nat → Int32) (cl : Nat → Nat → Int64) (σ : sg_S) (hm : md_H D M b ad th of sl ct cl) (hR : mo_R σ (fun _ => sg_sl σ - 1) of sl ct cl) (hinv : sg_inv σ) (hac : sg_ac σ ≤ 512) (hsei : sg_sei σ) : Met l y_Md_reset (wd_c y_Md_reset b_Md_reset 1 (none)) rm_Md_reset (va_Pc [.ref b] (hp_C D B M)) (va_Qv (fun  (M1 : hp_M) => ∃ (ct' : Nat → Nat → Int32) (cl' : Nat → Nat → Int64), md_H D M1 b ad 0 of sl ct' cl' ∧ md_fr b ad M M1 ∧ mo_R (sg_reset σ) (fun _ => sg_sl (sg_reset σ) - 1) of sl ct' cl') (hp_C D B) (hp_ub B)) 0 0 (hp_ub B) := by
  refine hp_met (by decide) (Nat.le_of_ble_eq_true rfl) ?_
  intro p e s m args below meth cd ls Q hQ hx hb hr hts hown hlocks hnm hml hK hH hS hB hl
  replace hl : lv_has ls 1 [(0, .ref b)] := hl
  have hf : md_fr b ad M M := md_fr_rf
  refine lv_aload_n hx hb d_Md_reset_0 rfl (lv_at hl 0 rfl) ?_
  refine lv_iconst (v := 0) hx hb d_Md_reset_1 (by decide) ?_
  refine hp_put hx hb hts iw_Md t_Md t_Md_ok n_Md hown hK hH hS hB hm.1 rfl 0 (by decide) (hts _ kw_134) rfl  (v := .int 0) rfl rfl (Nat.le_of_ble_eq_true rfl) (fs' := [.int 0, .ref (ad 0), .ref (ad 1), .ref (ad 2), .ref (ad 3), .ref (ad 4), .ref (ad 5), .ref (ad 6), .ref (ad 7), .ref (ad 8), .ref (ad 9), .ref (ad 10), .ref (ad 11), .ref (ad 12), .ref (ad 13), .int of, .int sl, .ref (ad 14), .ref (ad 15), .ref (ad 16)]) rfl d_Md_reset_2 (fun M_1 H locs eM_1 hH hS => ?_)
  have hm := md_pb hm (th' := 0) (of' := of) (sl' := sl) eM_1
  have hf := md_fr_b hf eM_1
  refine lv_aload_n hx hb d_Md_reset_5 rfl (lv_at hl 0 rfl) ?_
  refine hp_callv (hp_runV (b := b) (As := []) (rest := []) hx hb hml hown (cn_Md_empty l D B M_1 b ad 0 of sl ct cl hm) (hp_cwV 0 hts kw_171 kw_173 kw_174 kw_137 kw_172 rfl rfl (by decide +kernel) ⟨(Nat.le_of_ble_eq_true rfl), (Nat.le_of_ble_eq_true rfl)⟩) hK hH hm.1 rfl rfl hl.1 rfl (Nat.le_of_ble_eq_true rfl) d_Md_reset_6 ⟨(Nat.le_of_ble_eq_true rfl), (Nat.le_of_ble_eq_true rfl)⟩) hS (fun M_3 H locs w_4 hH hS => ?_)
  obtain ⟨ct', cl', hm', hf', q1, q2, q3⟩ := w_4
  exact hp_vret hx hb hr hlocks hQ hK hH hS (Nat.le_of_ble_eq_true rfl) (Nat.le_of_ble_eq_true rfl) d_Md_reset_9 ⟨ct', cl', hm', md_fr_tr hf hf', mo_reset hR q1 q2 q3⟩
abbrev rm_Md_init : Room := { frames := 1, cells := 17, slots := 24776, locals := 21 }
set_option maxHeartbeats 4000000 in
set_option maxRecDepth 100000 in
theorem cn_Md_init (l : Launch) (D : va_G) (B : Nat) (M : hp_M) (b : Nat) (h1 : M b = some (.inr (ix_md, [.int 0, .null, .null, .null, .null, .null, .null, .null, .null, .null, .null, .null, .null, .null, .null, .int 0, .int 0, .null, .null, .null]))) : Met l y_Md_init (wd_c y_Md_init b_Md_init 2 (none)) rm_Md_init (va_Pc [.ref b] (hp_C D B M)) (va_Qv (fun  (M1 : hp_M) => ∃ (ad : Nat → Nat) (ct' : Nat → Nat → Int32) (cl' : Nat → Nat → Int64), md_H D M1 b ad 0 0 0 ct' cl' ∧ mo_R sg_0 (fun _ => 0 - 1) 0 0 ct' cl' ∧ (∀ x, M x ≠ none → x ≠ b → M1 x = M x) ∧ ∀ j, j < 17 → M (ad j) = none) (hp_C D B) (hp_ub B)) 17 24776 (hp_ub B) := by
  refine hp_met (by decide) (Nat.le_of_ble_eq_true rfl) ?_
  intro p e s m args below meth cd ls Q hQ hx hb hr hts hown hlocks hnm hml hK hH hS hB hl
  replace hl : lv_has ls 2 [(0, .ref b)] := hl
  have hk : md_K M M b [] := md_k0 (by rw [h1]; intro w; cases w)
  refine lv_aload_n hx hb d_Md_init_0 rfl (lv_at hl 0 rfl) ?_
  refine W.objInit hx hb hown (hts _ kw_175) (hts _ kw_64) (hts _ kw_65) rfl (by rw [hml]; exact hl.1) rfl d_Md_init_1 (Nat.le_of_ble_eq_true rfl) (Nat.le_of_ble_eq_true rfl) ?_
  refine W.eq (g2 := F0 m 4 ls []) rfl ?_
  refine lv_aload_n hx hb d_Md_init_4 rfl (lv_at hl 0 rfl) ?_
  refine lv_bipush (v := 8) hx hb d_Md_init_5 (by decide) ?_
  refine hp_newi hx hb (hts _ kw_73) hK hH hS hB 8 (by decide) (by decide) (Nat.le_of_ble_eq_true rfl) (Nat.le_of_ble_eq_true rfl) d_Md_init_7 (fun q_1 M_2 H zq_1 eM_2 hH hS => ?_)
  have f_3 : M_2 q_1 = some (hp_ai D 8 (fun _ => 0)) := by rw [eM_2]; exact va_up_self _ _ _
  have f_4 : M_2 b = some (.inr (ix_md, [.int 0, .null, .null, .null, .null, .null, .null, .null, .null, .null, .null, .null, .null, .null, .null, .int 0, .int 0, .null, .null, .null])) := by rw [eM_2, va_up_ne _ _ (hp_fr zq_1 h1)]; exact h1
  have hk := md_kn hk zq_1 eM_2
  refine hp_putF hx hb hts iw_Md t_Md t_Md_ok n_Md hown hK hH hS hB f_4 rfl 1 (by decide) (hts _ kw_147) rfl hnm rfl (v := .ref q_1) rfl rfl (Nat.le_of_ble_eq_true rfl) (fs' := [.int 0, .ref q_1, .null, .null, .null, .null, .null, .null, .null, .null, .null, .null, .null, .null, .null, .int 0, .int 0, .null, .null, .null]) rfl d_Md_init_9 (fun M_5 H locs eM_5 hH hS => ?_)
  have f_6 : M_5 b = some (.inr (ix_md, [.int 0, .ref q_1, .null, .null, .null, .null, .null, .null, .null, .null, .null, .null, .null, .null, .null, .int 0, .int 0, .null, .null, .null])) := by rw [eM_5]; exact va_up_self _ _ _
  have hk := md_kp hk eM_5
  refine lv_aload_n hx hb d_Md_init_12 rfl (lv_at hl 0 rfl) ?_
  refine lv_sipush (v := 4096) hx hb d_Md_init_13 (by decide) ?_
  refine hp_newi hx hb (hts _ kw_73) hK hH hS hB 4096 (by decide) (by decide) (Nat.le_of_ble_eq_true rfl) (Nat.le_of_ble_eq_true rfl) d_Md_init_16 (fun q_7 M_8 H zq_7 eM_8 hH hS => ?_)
  have f_9 : M_8 q_7 = some (hp_ai D 4096 (fun _ => 0)) := by rw [eM_8]; exact va_up_self _ _ _
  have f_10 : M_8 b = some (.inr (ix_md, [.int 0, .ref q_1, .null, .null, .null, .null, .null, .null, .null, .null, .null, .null, .null, .null, .null, .int 0, .int 0, .null, .null, .null])) := by rw [eM_8, va_up_ne _ _ (hp_fr zq_7 f_6)]; exact f_6
  have hk := md_kn hk zq_7 eM_8
  refine hp_putF hx hb hts iw_Md t_Md t_Md_ok n_Md hown hK hH hS hB f_10 rfl 2 (by decide) (hts _ kw_152) rfl hnm rfl (v := .ref q_7) rfl rfl (Nat.le_of_ble_eq_true rfl) (fs' := [.int 0, .ref q_1, .ref q_7, .null, .null, .null, .null, .null, .null, .null, .null, .null, .null, .null, .null, .int 0, .int 0, .null, .null, .null]) rfl d_Md_init_18 (fun M_11 H locs eM_11 hH hS => ?_)
  have f_12 : M_11 b = some (.inr (ix_md, [.int 0, .ref q_1, .ref q_7, .null, .null, .null, .null, .null, .null, .null, .null, .null, .null, .null, .null, .int 0, .int 0, .null, .null, .null])) := by rw [eM_11]; exact va_up_self _ _ _
  have hk := md_kp hk eM_11
  refine lv_aload_n hx hb d_Md_init_21 rfl (lv_at hl 0 rfl) ?_
  refine lv_sipush (v := 4096) hx hb d_Md_init_22 (by decide) ?_
  refine hp_newi hx hb (hts _ kw_73) hK hH hS hB 4096 (by decide) (by decide) (Nat.le_of_ble_eq_true rfl) (Nat.le_of_ble_eq_true rfl) d_Md_init_25 (fun q_13 M_14 H zq_13 eM_14 hH hS => ?_)
  have f_15 : M_14 q_13 = some (hp_ai D 4096 (fun _ => 0)) := by rw [eM_14]; exact va_up_self _ _ _
  have f_16 : M_14 b = some (.inr (ix_md, [.int 0, .ref q_1, .ref q_7, .null, .null, .null, .null, .null, .null, .null, .null, .null, .null, .null, .null, .int 0, .int 0, .null, .null, .null])) := by rw [eM_14, va_up_ne _ _ (hp_fr zq_13 f_12)]; exact f_12
  have hk := md_kn hk zq_13 eM_14
  refine hp_putF hx hb hts iw_Md t_Md t_Md_ok n_Md hown hK hH hS hB f_16 rfl 3 (by decide) (hts _ kw_176) rfl hnm rfl (v := .ref q_13) rfl rfl (Nat.le_of_ble_eq_true rfl) (fs' := [.int 0, .ref q_1, .ref q_7, .ref q_13, .null, .null, .null, .null, .null, .null, .null, .null, .null, .null, .null, .int 0, .int 0, .null, .null, .null]) rfl d_Md_init_27 (fun M_17 H locs eM_17 hH hS => ?_)
  have f_18 : M_17 b = some (.inr (ix_md, [.int 0, .ref q_1, .ref q_7, .ref q_13, .null, .null, .null, .null, .null, .null, .null, .null, .null, .null, .null, .int 0, .int 0, .null, .null, .null])) := by rw [eM_17]; exact va_up_self _ _ _
  have hk := md_kp hk eM_17
  refine lv_aload_n hx hb d_Md_init_30 rfl (lv_at hl 0 rfl) ?_
  refine lv_sipush (v := 4096) hx hb d_Md_init_31 (by decide) ?_
  refine hp_newi hx hb (hts _ kw_73) hK hH hS hB 4096 (by decide) (by decide) (Nat.le_of_ble_eq_true rfl) (Nat.le_of_ble_eq_true rfl) d_Md_init_34 (fun q_19 M_20 H zq_19 eM_20 hH hS => ?_)
  have f_21 : M_20 q_19 = some (hp_ai D 4096 (fun _ => 0)) := by rw [eM_20]; exact va_up_self _ _ _
  have f_22 : M_20 b = some (.inr (ix_md, [.int 0, .ref q_1, .ref q_7, .ref q_13, .null, .null, .null, .null, .null, .null, .null, .null, .null, .null, .null, .int 0, .int 0, .null, .null, .null])) := by rw [eM_20, va_up_ne _ _ (hp_fr zq_19 f_18)]; exact f_18
  have hk := md_kn hk zq_19 eM_20
  refine hp_putF hx hb hts iw_Md t_Md t_Md_ok n_Md hown hK hH hS hB f_22 rfl 4 (by decide) (hts _ kw_177) rfl hnm rfl (v := .ref q_19) rfl rfl (Nat.le_of_ble_eq_true rfl) (fs' := [.int 0, .ref q_1, .ref q_7, .ref q_13, .ref q_19, .null, .null, .null, .null, .null, .null, .null, .null, .null, .null, .int 0, .int 0, .null, .null, .null]) rfl d_Md_init_36 (fun M_23 H locs eM_23 hH hS => ?_)
  have f_24 : M_23 b = some (.inr (ix_md, [.int 0, .ref q_1, .ref q_7, .ref q_13, .ref q_19, .null, .null, .null, .null, .null, .null, .null, .null, .null, .null, .int 0, .int 0, .null, .null, .null])) := by rw [eM_23]; exact va_up_self _ _ _
  have hk := md_kp hk eM_23
  refine lv_aload_n hx hb d_Md_init_39 rfl (lv_at hl 0 rfl) ?_
  refine lv_sipush (v := 4096) hx hb d_Md_init_40 (by decide) ?_
  refine hp_newl hx hb (hts _ kw_74) hK hH hS hB 4096 (by decide) (by decide) (Nat.le_of_ble_eq_true rfl) (Nat.le_of_ble_eq_true rfl) d_Md_init_43 (fun q_25 M_26 H zq_25 eM_26 hH hS => ?_)
  have f_27 : M_26 q_25 = some (hp_al D 4096 (fun _ => 0)) := by rw [eM_26]; exact va_up_self _ _ _
  have f_28 : M_26 b = some (.inr (ix_md, [.int 0, .ref q_1, .ref q_7, .ref q_13, .ref q_19, .null, .null, .null, .null, .null, .null, .null, .null, .null, .null, .int 0, .int 0, .null, .null, .null])) := by rw [eM_26, va_up_ne _ _ (hp_fr zq_25 f_24)]; exact f_24
  have hk := md_kn hk zq_25 eM_26
  refine hp_putF hx hb hts iw_Md t_Md t_Md_ok n_Md hown hK hH hS hB f_28 rfl 5 (by decide) (hts _ kw_154) rfl hnm rfl (v := .ref q_25) rfl rfl (Nat.le_of_ble_eq_true rfl) (fs' := [.int 0, .ref q_1, .ref q_7, .ref q_13, .ref q_19, .ref q_25, .null, .null, .null, .null, .null, .null, .null, .null, .null, .int 0, .int 0, .null, .null, .null]) rfl d_Md_init_45 (fun M_29 H locs eM_29 hH hS => ?_)
  have f_30 : M_29 b = some (.inr (ix_md, [.int 0, .ref q_1, .ref q_7, .ref q_13, .ref q_19, .ref q_25, .null, .null, .null, .null, .null, .null, .null, .null, .null, .int 0, .int 0, .null, .null, .null])) := by rw [eM_29]; exact va_up_self _ _ _
  have hk := md_kp hk eM_29
  refine lv_aload_n hx hb d_Md_init_48 rfl (lv_at hl 0 rfl) ?_
  refine lv_sipush (v := 4096) hx hb d_Md_init_49 (by decide) ?_
  refine hp_newi hx hb (hts _ kw_73) hK hH hS hB 4096 (by decide) (by decide) (Nat.le_of_ble_eq_true rfl) (Nat.le_of_ble_eq_true rfl) d_Md_init_52 (fun q_31 M_32 H zq_31 eM_32 hH hS => ?_)
  have f_33 : M_32 q_31 = some (hp_ai D 4096 (fun _ => 0)) := by rw [eM_32]; exact va_up_self _ _ _
  have f_34 : M_32 b = some (.inr (ix_md, [.int 0, .ref q_1, .ref q_7, .ref q_13, .ref q_19, .ref q_25, .null, .null, .null, .null, .null, .null, .null, .null, .null, .int 0, .int 0, .null, .null, .null])) := by rw [eM_32, va_up_ne _ _ (hp_fr zq_31 f_30)]; exact f_30
  have hk := md_kn hk zq_31 eM_32
  refine hp_putF hx hb hts iw_Md t_Md t_Md_ok n_Md hown hK hH hS hB f_34 rfl 6 (by decide) (hts _ kw_178) rfl hnm rfl (v := .ref q_31) rfl rfl (Nat.le_of_ble_eq_true rfl) (fs' := [.int 0, .ref q_1, .ref q_7, .ref q_13, .ref q_19, .ref q_25, .ref q_31, .null, .null, .null, .null, .null, .null, .null, .null, .int 0, .int 0, .null, .null, .null]) rfl d_Md_init_54 (fun M_35 H locs eM_35 hH hS => ?_)
  have f_36 : M_35 b = some (.inr (ix_md, [.int 0, .ref q_1, .ref q_7, .ref q_13, .ref q_19, .ref q_25, .ref q_31, .null, .null, .null, .null, .null, .null, .null, .null, .int 0, .int 0, .null, .null, .null])) := by rw [eM_35]; exact va_up_self _ _ _
  have hk := md_kp hk eM_35
  refine lv_aload_n hx hb d_Md_init_57 rfl (lv_at hl 0 rfl) ?_
  refine lv_sipush (v := 4096) hx hb d_Md_init_58 (by decide) ?_
  refine hp_newi hx hb (hts _ kw_73) hK hH hS hB 4096 (by decide) (by decide) (Nat.le_of_ble_eq_true rfl) (Nat.le_of_ble_eq_true rfl) d_Md_init_61 (fun q_37 M_38 H zq_37 eM_38 hH hS => ?_)
  have f_39 : M_38 q_37 = some (hp_ai D 4096 (fun _ => 0)) := by rw [eM_38]; exact va_up_self _ _ _
  have f_40 : M_38 b = some (.inr (ix_md, [.int 0, .ref q_1, .ref q_7, .ref q_13, .ref q_19, .ref q_25, .ref q_31, .null, .null, .null, .null, .null, .null, .null, .null, .int 0, .int 0, .null, .null, .null])) := by rw [eM_38, va_up_ne _ _ (hp_fr zq_37 f_36)]; exact f_36
  have hk := md_kn hk zq_37 eM_38
  refine hp_putF hx hb hts iw_Md t_Md t_Md_ok n_Md hown hK hH hS hB f_40 rfl 7 (by decide) (hts _ kw_179) rfl hnm rfl (v := .ref q_37) rfl rfl (Nat.le_of_ble_eq_true rfl) (fs' := [.int 0, .ref q_1, .ref q_7, .ref q_13, .ref q_19, .ref q_25, .ref q_31, .ref q_37, .null, .null, .null, .null, .null, .null, .null, .int 0, .int 0, .null, .null, .null]) rfl d_Md_init_63 (fun M_41 H locs eM_41 hH hS => ?_)
  have f_42 : M_41 b = some (.inr (ix_md, [.int 0, .ref q_1, .ref q_7, .ref q_13, .ref q_19, .ref q_25, .ref q_31, .ref q_37, .null, .null, .null, .null, .null, .null, .null, .int 0, .int 0, .null, .null, .null])) := by rw [eM_41]; exact va_up_self _ _ _
  have hk := md_kp hk eM_41
  refine lv_aload_n hx hb d_Md_init_66 rfl (lv_at hl 0 rfl) ?_
  refine lv_bipush (v := 8) hx hb d_Md_init_67 (by decide) ?_
  refine hp_newi hx hb (hts _ kw_73) hK hH hS hB 8 (by decide) (by decide) (Nat.le_of_ble_eq_true rfl) (Nat.le_of_ble_eq_true rfl) d_Md_init_69 (fun q_43 M_44 H zq_43 eM_44 hH hS => ?_)
  have f_45 : M_44 q_43 = some (hp_ai D 8 (fun _ => 0)) := by rw [eM_44]; exact va_up_self _ _ _
  have f_46 : M_44 b = some (.inr (ix_md, [.int 0, .ref q_1, .ref q_7, .ref q_13, .ref q_19, .ref q_25, .ref q_31, .ref q_37, .null, .null, .null, .null, .null, .null, .null, .int 0, .int 0, .null, .null, .null])) := by rw [eM_44, va_up_ne _ _ (hp_fr zq_43 f_42)]; exact f_42
  have hk := md_kn hk zq_43 eM_44
  refine hp_putF hx hb hts iw_Md t_Md t_Md_ok n_Md hown hK hH hS hB f_46 rfl 8 (by decide) (hts _ kw_164) rfl hnm rfl (v := .ref q_43) rfl rfl (Nat.le_of_ble_eq_true rfl) (fs' := [.int 0, .ref q_1, .ref q_7, .ref q_13, .ref q_19, .ref q_25, .ref q_31, .ref q_37, .ref q_43, .null, .null, .null, .null, .null, .null, .int 0, .int 0, .null, .null, .null]) rfl d_Md_init_71 (fun M_47 H locs eM_47 hH hS => ?_)
  have f_48 : M_47 b = some (.inr (ix_md, [.int 0, .ref q_1, .ref q_7, .ref q_13, .ref q_19, .ref q_25, .ref q_31, .ref q_37, .ref q_43, .null, .null, .null, .null, .null, .null, .int 0, .int 0, .null, .null, .null])) := by rw [eM_47]; exact va_up_self _ _ _
  have hk := md_kp hk eM_47
  refine lv_aload_n hx hb d_Md_init_74 rfl (lv_at hl 0 rfl) ?_
  refine lv_bipush (v := 64) hx hb d_Md_init_75 (by decide) ?_
  refine hp_newi hx hb (hts _ kw_73) hK hH hS hB 64 (by decide) (by decide) (Nat.le_of_ble_eq_true rfl) (Nat.le_of_ble_eq_true rfl) d_Md_init_77 (fun q_49 M_50 H zq_49 eM_50 hH hS => ?_)
  have f_51 : M_50 q_49 = some (hp_ai D 64 (fun _ => 0)) := by rw [eM_50]; exact va_up_self _ _ _
  have f_52 : M_50 b = some (.inr (ix_md, [.int 0, .ref q_1, .ref q_7, .ref q_13, .ref q_19, .ref q_25, .ref q_31, .ref q_37, .ref q_43, .null, .null, .null, .null, .null, .null, .int 0, .int 0, .null, .null, .null])) := by rw [eM_50, va_up_ne _ _ (hp_fr zq_49 f_48)]; exact f_48
  have hk := md_kn hk zq_49 eM_50
  refine hp_putF hx hb hts iw_Md t_Md t_Md_ok n_Md hown hK hH hS hB f_52 rfl 9 (by decide) (hts _ kw_165) rfl hnm rfl (v := .ref q_49) rfl rfl (Nat.le_of_ble_eq_true rfl) (fs' := [.int 0, .ref q_1, .ref q_7, .ref q_13, .ref q_19, .ref q_25, .ref q_31, .ref q_37, .ref q_43, .ref q_49, .null, .null, .null, .null, .null, .int 0, .int 0, .null, .null, .null]) rfl d_Md_init_79 (fun M_53 H locs eM_53 hH hS => ?_)
  have f_54 : M_53 b = some (.inr (ix_md, [.int 0, .ref q_1, .ref q_7, .ref q_13, .ref q_19, .ref q_25, .ref q_31, .ref q_37, .ref q_43, .ref q_49, .null, .null, .null, .null, .null, .int 0, .int 0, .null, .null, .null])) := by rw [eM_53]; exact va_up_self _ _ _
  have hk := md_kp hk eM_53
  refine lv_aload_n hx hb d_Md_init_82 rfl (lv_at hl 0 rfl) ?_
  refine lv_bipush (v := 64) hx hb d_Md_init_83 (by decide) ?_
  refine hp_newl hx hb (hts _ kw_74) hK hH hS hB 64 (by decide) (by decide) (Nat.le_of_ble_eq_true rfl) (Nat.le_of_ble_eq_true rfl) d_Md_init_85 (fun q_55 M_56 H zq_55 eM_56 hH hS => ?_)
  have f_57 : M_56 q_55 = some (hp_al D 64 (fun _ => 0)) := by rw [eM_56]; exact va_up_self _ _ _
  have f_58 : M_56 b = some (.inr (ix_md, [.int 0, .ref q_1, .ref q_7, .ref q_13, .ref q_19, .ref q_25, .ref q_31, .ref q_37, .ref q_43, .ref q_49, .null, .null, .null, .null, .null, .int 0, .int 0, .null, .null, .null])) := by rw [eM_56, va_up_ne _ _ (hp_fr zq_55 f_54)]; exact f_54
  have hk := md_kn hk zq_55 eM_56
  refine hp_putF hx hb hts iw_Md t_Md t_Md_ok n_Md hown hK hH hS hB f_58 rfl 10 (by decide) (hts _ kw_170) rfl hnm rfl (v := .ref q_55) rfl rfl (Nat.le_of_ble_eq_true rfl) (fs' := [.int 0, .ref q_1, .ref q_7, .ref q_13, .ref q_19, .ref q_25, .ref q_31, .ref q_37, .ref q_43, .ref q_49, .ref q_55, .null, .null, .null, .null, .int 0, .int 0, .null, .null, .null]) rfl d_Md_init_87 (fun M_59 H locs eM_59 hH hS => ?_)
  have f_60 : M_59 b = some (.inr (ix_md, [.int 0, .ref q_1, .ref q_7, .ref q_13, .ref q_19, .ref q_25, .ref q_31, .ref q_37, .ref q_43, .ref q_49, .ref q_55, .null, .null, .null, .null, .int 0, .int 0, .null, .null, .null])) := by rw [eM_59]; exact va_up_self _ _ _
  have hk := md_kp hk eM_59
  refine lv_aload_n hx hb d_Md_init_90 rfl (lv_at hl 0 rfl) ?_
  refine lv_bipush (v := 8) hx hb d_Md_init_91 (by decide) ?_
  refine hp_newi hx hb (hts _ kw_73) hK hH hS hB 8 (by decide) (by decide) (Nat.le_of_ble_eq_true rfl) (Nat.le_of_ble_eq_true rfl) d_Md_init_93 (fun q_61 M_62 H zq_61 eM_62 hH hS => ?_)
  have f_63 : M_62 q_61 = some (hp_ai D 8 (fun _ => 0)) := by rw [eM_62]; exact va_up_self _ _ _
  have f_64 : M_62 b = some (.inr (ix_md, [.int 0, .ref q_1, .ref q_7, .ref q_13, .ref q_19, .ref q_25, .ref q_31, .ref q_37, .ref q_43, .ref q_49, .ref q_55, .null, .null, .null, .null, .int 0, .int 0, .null, .null, .null])) := by rw [eM_62, va_up_ne _ _ (hp_fr zq_61 f_60)]; exact f_60
  have hk := md_kn hk zq_61 eM_62
  refine hp_putF hx hb hts iw_Md t_Md t_Md_ok n_Md hown hK hH hS hB f_64 rfl 11 (by decide) (hts _ kw_155) rfl hnm rfl (v := .ref q_61) rfl rfl (Nat.le_of_ble_eq_true rfl) (fs' := [.int 0, .ref q_1, .ref q_7, .ref q_13, .ref q_19, .ref q_25, .ref q_31, .ref q_37, .ref q_43, .ref q_49, .ref q_55, .ref q_61, .null, .null, .null, .int 0, .int 0, .null, .null, .null]) rfl d_Md_init_95 (fun M_65 H locs eM_65 hH hS => ?_)
  have f_66 : M_65 b = some (.inr (ix_md, [.int 0, .ref q_1, .ref q_7, .ref q_13, .ref q_19, .ref q_25, .ref q_31, .ref q_37, .ref q_43, .ref q_49, .ref q_55, .ref q_61, .null, .null, .null, .int 0, .int 0, .null, .null, .null])) := by rw [eM_65]; exact va_up_self _ _ _
  have hk := md_kp hk eM_65
  refine lv_aload_n hx hb d_Md_init_98 rfl (lv_at hl 0 rfl) ?_
  refine lv_bipush (v := 8) hx hb d_Md_init_99 (by decide) ?_
  refine hp_newi hx hb (hts _ kw_73) hK hH hS hB 8 (by decide) (by decide) (Nat.le_of_ble_eq_true rfl) (Nat.le_of_ble_eq_true rfl) d_Md_init_101 (fun q_67 M_68 H zq_67 eM_68 hH hS => ?_)
  have f_69 : M_68 q_67 = some (hp_ai D 8 (fun _ => 0)) := by rw [eM_68]; exact va_up_self _ _ _
  have f_70 : M_68 b = some (.inr (ix_md, [.int 0, .ref q_1, .ref q_7, .ref q_13, .ref q_19, .ref q_25, .ref q_31, .ref q_37, .ref q_43, .ref q_49, .ref q_55, .ref q_61, .null, .null, .null, .int 0, .int 0, .null, .null, .null])) := by rw [eM_68, va_up_ne _ _ (hp_fr zq_67 f_66)]; exact f_66
  have hk := md_kn hk zq_67 eM_68
  refine hp_putF hx hb hts iw_Md t_Md t_Md_ok n_Md hown hK hH hS hB f_70 rfl 12 (by decide) (hts _ kw_166) rfl hnm rfl (v := .ref q_67) rfl rfl (Nat.le_of_ble_eq_true rfl) (fs' := [.int 0, .ref q_1, .ref q_7, .ref q_13, .ref q_19, .ref q_25, .ref q_31, .ref q_37, .ref q_43, .ref q_49, .ref q_55, .ref q_61, .ref q_67, .null, .null, .int 0, .int 0, .null, .null, .null]) rfl d_Md_init_103 (fun M_71 H locs eM_71 hH hS => ?_)
  have f_72 : M_71 b = some (.inr (ix_md, [.int 0, .ref q_1, .ref q_7, .ref q_13, .ref q_19, .ref q_25, .ref q_31, .ref q_37, .ref q_43, .ref q_49, .ref q_55, .ref q_61, .ref q_67, .null, .null, .int 0, .int 0, .null, .null, .null])) := by rw [eM_71]; exact va_up_self _ _ _
  have hk := md_kp hk eM_71
  refine lv_aload_n hx hb d_Md_init_106 rfl (lv_at hl 0 rfl) ?_
  refine lv_bipush (v := 8) hx hb d_Md_init_107 (by decide) ?_
  refine hp_newi hx hb (hts _ kw_73) hK hH hS hB 8 (by decide) (by decide) (Nat.le_of_ble_eq_true rfl) (Nat.le_of_ble_eq_true rfl) d_Md_init_109 (fun q_73 M_74 H zq_73 eM_74 hH hS => ?_)
  have f_75 : M_74 q_73 = some (hp_ai D 8 (fun _ => 0)) := by rw [eM_74]; exact va_up_self _ _ _
  have f_76 : M_74 b = some (.inr (ix_md, [.int 0, .ref q_1, .ref q_7, .ref q_13, .ref q_19, .ref q_25, .ref q_31, .ref q_37, .ref q_43, .ref q_49, .ref q_55, .ref q_61, .ref q_67, .null, .null, .int 0, .int 0, .null, .null, .null])) := by rw [eM_74, va_up_ne _ _ (hp_fr zq_73 f_72)]; exact f_72
  have hk := md_kn hk zq_73 eM_74
  refine hp_putF hx hb hts iw_Md t_Md t_Md_ok n_Md hown hK hH hS hB f_76 rfl 13 (by decide) (hts _ kw_167) rfl hnm rfl (v := .ref q_73) rfl rfl (Nat.le_of_ble_eq_true rfl) (fs' := [.int 0, .ref q_1, .ref q_7, .ref q_13, .ref q_19, .ref q_25, .ref q_31, .ref q_37, .ref q_43, .ref q_49, .ref q_55, .ref q_61, .ref q_67, .ref q_73, .null, .int 0, .int 0, .null, .null, .null]) rfl d_Md_init_111 (fun M_77 H locs eM_77 hH hS => ?_)
  have f_78 : M_77 b = some (.inr (ix_md, [.int 0, .ref q_1, .ref q_7, .ref q_13, .ref q_19, .ref q_25, .ref q_31, .ref q_37, .ref q_43, .ref q_49, .ref q_55, .ref q_61, .ref q_67, .ref q_73, .null, .int 0, .int 0, .null, .null, .null])) := by rw [eM_77]; exact va_up_self _ _ _
  have hk := md_kp hk eM_77
  refine lv_aload_n hx hb d_Md_init_114 rfl (lv_at hl 0 rfl) ?_
  refine lv_bipush (v := 8) hx hb d_Md_init_115 (by decide) ?_
  refine hp_newi hx hb (hts _ kw_73) hK hH hS hB 8 (by decide) (by decide) (Nat.le_of_ble_eq_true rfl) (Nat.le_of_ble_eq_true rfl) d_Md_init_117 (fun q_79 M_80 H zq_79 eM_80 hH hS => ?_)
  have f_81 : M_80 q_79 = some (hp_ai D 8 (fun _ => 0)) := by rw [eM_80]; exact va_up_self _ _ _
  have f_82 : M_80 b = some (.inr (ix_md, [.int 0, .ref q_1, .ref q_7, .ref q_13, .ref q_19, .ref q_25, .ref q_31, .ref q_37, .ref q_43, .ref q_49, .ref q_55, .ref q_61, .ref q_67, .ref q_73, .null, .int 0, .int 0, .null, .null, .null])) := by rw [eM_80, va_up_ne _ _ (hp_fr zq_79 f_78)]; exact f_78
  have hk := md_kn hk zq_79 eM_80
  refine hp_putF hx hb hts iw_Md t_Md t_Md_ok n_Md hown hK hH hS hB f_82 rfl 14 (by decide) (hts _ kw_168) rfl hnm rfl (v := .ref q_79) rfl rfl (Nat.le_of_ble_eq_true rfl) (fs' := [.int 0, .ref q_1, .ref q_7, .ref q_13, .ref q_19, .ref q_25, .ref q_31, .ref q_37, .ref q_43, .ref q_49, .ref q_55, .ref q_61, .ref q_67, .ref q_73, .ref q_79, .int 0, .int 0, .null, .null, .null]) rfl d_Md_init_119 (fun M_83 H locs eM_83 hH hS => ?_)
  have f_84 : M_83 b = some (.inr (ix_md, [.int 0, .ref q_1, .ref q_7, .ref q_13, .ref q_19, .ref q_25, .ref q_31, .ref q_37, .ref q_43, .ref q_49, .ref q_55, .ref q_61, .ref q_67, .ref q_73, .ref q_79, .int 0, .int 0, .null, .null, .null])) := by rw [eM_83]; exact va_up_self _ _ _
  have hk := md_kp hk eM_83
  refine lv_aload_n hx hb d_Md_init_122 rfl (lv_at hl 0 rfl) ?_
  refine lv_bipush (v := 8) hx hb d_Md_init_123 (by decide) ?_
  refine hp_newi hx hb (hts _ kw_73) hK hH hS hB 8 (by decide) (by decide) (Nat.le_of_ble_eq_true rfl) (Nat.le_of_ble_eq_true rfl) d_Md_init_125 (fun q_85 M_86 H zq_85 eM_86 hH hS => ?_)
  have f_87 : M_86 q_85 = some (hp_ai D 8 (fun _ => 0)) := by rw [eM_86]; exact va_up_self _ _ _
  have f_88 : M_86 b = some (.inr (ix_md, [.int 0, .ref q_1, .ref q_7, .ref q_13, .ref q_19, .ref q_25, .ref q_31, .ref q_37, .ref q_43, .ref q_49, .ref q_55, .ref q_61, .ref q_67, .ref q_73, .ref q_79, .int 0, .int 0, .null, .null, .null])) := by rw [eM_86, va_up_ne _ _ (hp_fr zq_85 f_84)]; exact f_84
  have hk := md_kn hk zq_85 eM_86
  refine hp_putF hx hb hts iw_Md t_Md t_Md_ok n_Md hown hK hH hS hB f_88 rfl 17 (by decide) (hts _ kw_140) rfl hnm rfl (v := .ref q_85) rfl rfl (Nat.le_of_ble_eq_true rfl) (fs' := [.int 0, .ref q_1, .ref q_7, .ref q_13, .ref q_19, .ref q_25, .ref q_31, .ref q_37, .ref q_43, .ref q_49, .ref q_55, .ref q_61, .ref q_67, .ref q_73, .ref q_79, .int 0, .int 0, .ref q_85, .null, .null]) rfl d_Md_init_127 (fun M_89 H locs eM_89 hH hS => ?_)
  have f_90 : M_89 b = some (.inr (ix_md, [.int 0, .ref q_1, .ref q_7, .ref q_13, .ref q_19, .ref q_25, .ref q_31, .ref q_37, .ref q_43, .ref q_49, .ref q_55, .ref q_61, .ref q_67, .ref q_73, .ref q_79, .int 0, .int 0, .ref q_85, .null, .null])) := by rw [eM_89]; exact va_up_self _ _ _
  have hk := md_kp hk eM_89
  refine lv_aload_n hx hb d_Md_init_130 rfl (lv_at hl 0 rfl) ?_
  refine lv_bipush (v := 8) hx hb d_Md_init_131 (by decide) ?_
  refine hp_newi hx hb (hts _ kw_73) hK hH hS hB 8 (by decide) (by decide) (Nat.le_of_ble_eq_true rfl) (Nat.le_of_ble_eq_true rfl) d_Md_init_133 (fun q_91 M_92 H zq_91 eM_92 hH hS => ?_)
  have f_93 : M_92 q_91 = some (hp_ai D 8 (fun _ => 0)) := by rw [eM_92]; exact va_up_self _ _ _
  have f_94 : M_92 b = some (.inr (ix_md, [.int 0, .ref q_1, .ref q_7, .ref q_13, .ref q_19, .ref q_25, .ref q_31, .ref q_37, .ref q_43, .ref q_49, .ref q_55, .ref q_61, .ref q_67, .ref q_73, .ref q_79, .int 0, .int 0, .ref q_85, .null, .null])) := by rw [eM_92, va_up_ne _ _ (hp_fr zq_91 f_90)]; exact f_90
  have hk := md_kn hk zq_91 eM_92
  refine hp_putF hx hb hts iw_Md t_Md t_Md_ok n_Md hown hK hH hS hB f_94 rfl 18 (by decide) (hts _ kw_145) rfl hnm rfl (v := .ref q_91) rfl rfl (Nat.le_of_ble_eq_true rfl) (fs' := [.int 0, .ref q_1, .ref q_7, .ref q_13, .ref q_19, .ref q_25, .ref q_31, .ref q_37, .ref q_43, .ref q_49, .ref q_55, .ref q_61, .ref q_67, .ref q_73, .ref q_79, .int 0, .int 0, .ref q_85, .ref q_91, .null]) rfl d_Md_init_135 (fun M_95 H locs eM_95 hH hS => ?_)
  have f_96 : M_95 b = some (.inr (ix_md, [.int 0, .ref q_1, .ref q_7, .ref q_13, .ref q_19, .ref q_25, .ref q_31, .ref q_37, .ref q_43, .ref q_49, .ref q_55, .ref q_61, .ref q_67, .ref q_73, .ref q_79, .int 0, .int 0, .ref q_85, .ref q_91, .null])) := by rw [eM_95]; exact va_up_self _ _ _
  have hk := md_kp hk eM_95
  refine lv_aload_n hx hb d_Md_init_138 rfl (lv_at hl 0 rfl) ?_
  refine lv_bipush (v := 8) hx hb d_Md_init_139 (by decide) ?_
  refine hp_newi hx hb (hts _ kw_73) hK hH hS hB 8 (by decide) (by decide) (Nat.le_of_ble_eq_true rfl) (Nat.le_of_ble_eq_true rfl) d_Md_init_141 (fun q_97 M_98 H zq_97 eM_98 hH hS => ?_)
  have f_99 : M_98 q_97 = some (hp_ai D 8 (fun _ => 0)) := by rw [eM_98]; exact va_up_self _ _ _
  have f_100 : M_98 b = some (.inr (ix_md, [.int 0, .ref q_1, .ref q_7, .ref q_13, .ref q_19, .ref q_25, .ref q_31, .ref q_37, .ref q_43, .ref q_49, .ref q_55, .ref q_61, .ref q_67, .ref q_73, .ref q_79, .int 0, .int 0, .ref q_85, .ref q_91, .null])) := by rw [eM_98, va_up_ne _ _ (hp_fr zq_97 f_96)]; exact f_96
  have hk := md_kn hk zq_97 eM_98
  refine hp_putF hx hb hts iw_Md t_Md t_Md_ok n_Md hown hK hH hS hB f_100 rfl 19 (by decide) (hts _ kw_146) rfl hnm rfl (v := .ref q_97) rfl rfl (Nat.le_of_ble_eq_true rfl) (fs' := [.int 0, .ref q_1, .ref q_7, .ref q_13, .ref q_19, .ref q_25, .ref q_31, .ref q_37, .ref q_43, .ref q_49, .ref q_55, .ref q_61, .ref q_67, .ref q_73, .ref q_79, .int 0, .int 0, .ref q_85, .ref q_91, .ref q_97]) rfl d_Md_init_143 (fun M_101 H locs eM_101 hH hS => ?_)
  have f_102 : M_101 b = some (.inr (ix_md, [.int 0, .ref q_1, .ref q_7, .ref q_13, .ref q_19, .ref q_25, .ref q_31, .ref q_37, .ref q_43, .ref q_49, .ref q_55, .ref q_61, .ref q_67, .ref q_73, .ref q_79, .int 0, .int 0, .ref q_85, .ref q_91, .ref q_97])) := by rw [eM_101]; exact va_up_self _ _ _
  have hk := md_kp hk eM_101
  refine lv_iconst (v := 0) hx hb d_Md_init_146 (by decide) ?_
  refine lv_istore_n (lv' := [(1, .int 0), (0, .ref b)]) hx hb d_Md_init_147 rfl hl (by decide) rfl (fun ls hl => ?_)
  obtain ⟨hk1, hk2, hk3, hk4⟩ := hk
  have hnd : [q_97, q_91, q_85, q_79, q_73, q_67, q_61, q_55, q_49, q_43, q_37, q_31, q_25, q_19, q_13, q_7, q_1].Nodup := hk1
  obtain ⟨ad, ead⟩ : ∃ ad : Nat → Nat, ad = fun j => [q_97, q_91, q_85, q_79, q_73, q_67, q_61, q_55, q_49, q_43, q_37, q_31, q_25, q_19, q_13, q_7, q_1].getD (16 - j) 0 := ⟨_, rfl⟩
  have v0 : M_101 (ad 0) = some (hp_ai D 8 (fun _ => 0)) := by rw [ead]; exact (hk2 _ (List.mem_of_getElem? (i := 16) rfl)).1
  have v1 : M_101 (ad 1) = some (hp_ai D 4096 (fun _ => 0)) := by rw [ead]; exact (hk2 _ (List.mem_of_getElem? (i := 15) rfl)).1
  have v2 : M_101 (ad 2) = some (hp_ai D 4096 (fun _ => 0)) := by rw [ead]; exact (hk2 _ (List.mem_of_getElem? (i := 14) rfl)).1
  have v3 : M_101 (ad 3) = some (hp_ai D 4096 (fun _ => 0)) := by rw [ead]; exact (hk2 _ (List.mem_of_getElem? (i := 13) rfl)).1
  have v4 : M_101 (ad 4) = some (hp_al D 4096 (fun _ => 0)) := by rw [ead]; exact (hk2 _ (List.mem_of_getElem? (i := 12) rfl)).1
  have v5 : M_101 (ad 5) = some (hp_ai D 4096 (fun _ => 0)) := by rw [ead]; exact (hk2 _ (List.mem_of_getElem? (i := 11) rfl)).1
  have v6 : M_101 (ad 6) = some (hp_ai D 4096 (fun _ => 0)) := by rw [ead]; exact (hk2 _ (List.mem_of_getElem? (i := 10) rfl)).1
  have v7 : M_101 (ad 7) = some (hp_ai D 8 (fun _ => 0)) := by rw [ead]; exact (hk2 _ (List.mem_of_getElem? (i := 9) rfl)).1
  have v8 : M_101 (ad 8) = some (hp_ai D 64 (fun _ => 0)) := by rw [ead]; exact (hk2 _ (List.mem_of_getElem? (i := 8) rfl)).1
  have v9 : M_101 (ad 9) = some (hp_al D 64 (fun _ => 0)) := by rw [ead]; exact (hk2 _ (List.mem_of_getElem? (i := 7) rfl)).1
  have v10 : M_101 (ad 10) = some (hp_ai D 8 (fun _ => 0)) := by rw [ead]; exact (hk2 _ (List.mem_of_getElem? (i := 6) rfl)).1
  have v11 : M_101 (ad 11) = some (hp_ai D 8 (fun _ => 0)) := by rw [ead]; exact (hk2 _ (List.mem_of_getElem? (i := 5) rfl)).1
  have v12 : M_101 (ad 12) = some (hp_ai D 8 (fun _ => 0)) := by rw [ead]; exact (hk2 _ (List.mem_of_getElem? (i := 4) rfl)).1
  have v13 : M_101 (ad 13) = some (hp_ai D 8 (fun _ => 0)) := by rw [ead]; exact (hk2 _ (List.mem_of_getElem? (i := 3) rfl)).1
  have v14 : M_101 (ad 14) = some (hp_ai D 8 (fun _ => 0)) := by rw [ead]; exact (hk2 _ (List.mem_of_getElem? (i := 2) rfl)).1
  have v15 : M_101 (ad 15) = some (hp_ai D 8 (fun _ => 0)) := by rw [ead]; exact (hk2 _ (List.mem_of_getElem? (i := 1) rfl)).1
  have v16 : M_101 (ad 16) = some (hp_ai D 8 (fun _ => 0)) := by rw [ead]; exact (hk2 _ (List.mem_of_getElem? (i := 0) rfl)).1
  have hm : md_H D M_101 b ad 0 0 0 (fun _ _ => 0) (fun _ _ => 0) := by
    refine ⟨by rw [ead]; exact f_102, fun j a1 a2 a3 => ?_, fun j a1 => ?_, fun i j a1 a2 a3 => ?_⟩
    · rcases (show j = 0 ∨ j = 1 ∨ j = 2 ∨ j = 3 ∨ j = 5 ∨ j = 6 ∨ j = 7 ∨ j = 8 ∨ j = 10 ∨ j = 11 ∨ j = 12 ∨ j = 13 ∨ j = 14 ∨ j = 15 ∨ j = 16 by omega) with rfl | rfl | rfl | rfl | rfl | rfl | rfl | rfl | rfl | rfl | rfl | rfl | rfl | rfl | rfl
      · exact v0
      · exact v1
      · exact v2
      · exact v3
      · exact v5
      · exact v6
      · exact v7
      · exact v8
      · exact v10
      · exact v11
      · exact v12
      · exact v13
      · exact v14
      · exact v15
      · exact v16
    · rcases a1 with rfl | rfl
      · exact v4
      · exact v9
    · rw [ead] at a3; have a4 := md_inj hnd (16 - i) (16 - j) (show 16 - i < 17 by omega) (show 16 - j < 17 by omega) a3; omega
  have hz : ∀ j, j < 17 → M (ad j) = none := fun j a1 => by
    rcases (show j = 0 ∨ j = 1 ∨ j = 2 ∨ j = 3 ∨ j = 4 ∨ j = 5 ∨ j = 6 ∨ j = 7 ∨ j = 8 ∨ j = 9 ∨ j = 10 ∨ j = 11 ∨ j = 12 ∨ j = 13 ∨ j = 14 ∨ j = 15 ∨ j = 16 by omega) with rfl | rfl | rfl | rfl | rfl | rfl | rfl | rfl | rfl | rfl | rfl | rfl | rfl | rfl | rfl | rfl | rfl
    · rw [ead]; exact (hk2 _ (List.mem_of_getElem? (i := 16) rfl)).2.2
    · rw [ead]; exact (hk2 _ (List.mem_of_getElem? (i := 15) rfl)).2.2
    · rw [ead]; exact (hk2 _ (List.mem_of_getElem? (i := 14) rfl)).2.2
    · rw [ead]; exact (hk2 _ (List.mem_of_getElem? (i := 13) rfl)).2.2
    · rw [ead]; exact (hk2 _ (List.mem_of_getElem? (i := 12) rfl)).2.2
    · rw [ead]; exact (hk2 _ (List.mem_of_getElem? (i := 11) rfl)).2.2
    · rw [ead]; exact (hk2 _ (List.mem_of_getElem? (i := 10) rfl)).2.2
    · rw [ead]; exact (hk2 _ (List.mem_of_getElem? (i := 9) rfl)).2.2
    · rw [ead]; exact (hk2 _ (List.mem_of_getElem? (i := 8) rfl)).2.2
    · rw [ead]; exact (hk2 _ (List.mem_of_getElem? (i := 7) rfl)).2.2
    · rw [ead]; exact (hk2 _ (List.mem_of_getElem? (i := 6) rfl)).2.2
    · rw [ead]; exact (hk2 _ (List.mem_of_getElem? (i := 5) rfl)).2.2
    · rw [ead]; exact (hk2 _ (List.mem_of_getElem? (i := 4) rfl)).2.2
    · rw [ead]; exact (hk2 _ (List.mem_of_getElem? (i := 3) rfl)).2.2
    · rw [ead]; exact (hk2 _ (List.mem_of_getElem? (i := 2) rfl)).2.2
    · rw [ead]; exact (hk2 _ (List.mem_of_getElem? (i := 1) rfl)).2.2
    · rw [ead]; exact (hk2 _ (List.mem_of_getElem? (i := 0) rfl)).2.2
  have Lp : ∀ (n k : Nat) (M2 : hp_M) (H : Heap) (locs : List Loc) (ls : Array Slot) (ct1 : Nat → Nat → Int32), k + n = 64 → md_H D M2 b ad 0 0 0 ct1 (fun _ _ => 0) → md_fr b ad M_101 M2 → (∀ j, j < k → ct1 8 j = 1) → (∀ j, j ≠ 8 → ct1 j = fun _ => 0) → hp_H D B M2 H → va_S (hp_ub B) s.heap H locs → lv_has ls 2 [(1, .int (nI k)), (0, .ref b)] → W p l e rm_Md_init s m args below meth cd H locs 17 24776 Q (F0 m 148 ls []) := by
    intro n
    induction n with
    | zero =>
      intro k M2 H locs ls ct1 hn hm hf q1 q2 hH hS hl
      refine lv_iload_n hx hb d_Md_init_148 rfl (lv_at hl 0 rfl) ?_
      refine lv_bipush (v := 64) hx hb d_Md_init_149 (by decide) ?_
      refine lv_icmp_ge (tgt := 167) hx hb d_Md_init_151 (by decide) (fun c_103 => ?_) (fun c_103 => absurd (nI_le (a := 64) (by omega) (by omega)) c_103)
      refine lv_aload_n hx hb d_Md_init_167 rfl (lv_at hl 1 rfl) ?_
      refine hp_callv (hp_runV (b := b) (As := []) (rest := []) hx hb hml hown (cn_Md_empty l D B M2 b ad 0 0 0 ct1 (fun _ _ => 0) hm) (hp_cwV 0 hts kw_171 kw_173 kw_174 kw_137 kw_172 rfl rfl (by decide +kernel) ⟨(Nat.le_of_ble_eq_true rfl), (Nat.le_of_ble_eq_true rfl)⟩) hK hH hm.1 rfl rfl hl.1 rfl (Nat.le_of_ble_eq_true rfl) d_Md_init_168 ⟨(Nat.le_of_ble_eq_true rfl), (Nat.le_of_ble_eq_true rfl)⟩) hS (fun M_105 H locs w_106 hH hS => ?_)
      obtain ⟨ct', cl', hm', hf', p1, p2, p3⟩ := w_106
      exact hp_vret hx hb hr hlocks hQ hK hH hS (Nat.le_of_ble_eq_true rfl) (Nat.le_of_ble_eq_true rfl) d_Md_init_171 ⟨ad, ct', cl', hm', mo_start p1 p2 (fun k hk => by rw [p3 7 (by decide) (by decide) (by decide), q2 7 (by decide)]) (fun k hk => by rw [p3 8 (by decide) (by decide) (by decide)]; exact q1 k (by omega)), fun x a1 a2 => (md_fr_tr hf hf' x a2 (fun j hj w => a1 (by rw [w]; exact hz j hj))).trans (hk4 x a1 a2), hz⟩
    | succ n ih =>
      intro k M2 H locs ls ct1 hn hm hf q1 q2 hH hS hl
      refine lv_iload_n hx hb d_Md_init_148 rfl (lv_at hl 0 rfl) ?_
      refine lv_bipush (v := 64) hx hb d_Md_init_149 (by decide) ?_
      refine lv_icmp_ge (tgt := 167) hx hb d_Md_init_151 (by decide) (fun c_107 => absurd c_107 (nI_ge (b := 64) (by omega) (by omega))) (fun c_107 => ?_)
      refine lv_aload_n hx hb d_Md_init_154 rfl (lv_at hl 1 rfl) ?_
      refine hp_get hx hb hts iw_Md hown hK hH hm.1 rfl 9 (by decide) (hts _ kw_165) (v := .ref (ad 8)) rfl d_Md_init_155 ?_
      refine lv_iload_n hx hb d_Md_init_158 rfl (lv_at hl 0 rfl) ?_
      refine lv_iconst (v := 1) hx hb d_Md_init_159 (by decide) ?_
      refine hp_iast hx hb hK hH hS hB (show M2 (ad 8) = some (hp_ai D 64 (ct1 8)) from hm.2.1 8 (by decide) (by decide) (by decide)) k rfl (by omega) (by decide) d_Md_init_160 (fun M_108 H locs eM_108 hH hS => ?_)
      have hm := md_pi hm (j := 8) (by decide) (by decide) (by decide) eM_108
      have hf := md_fr_a (j := 8) (by decide) hf eM_108
      refine lv_iinc (v := nI (k + 1)) (lv' := [(1, .int (nI (k + 1))), (0, .ref b)]) hx hb d_Md_init_161 hl (k := 0) rfl (nI_1 k) (by decide) rfl (fun ls hl => ?_)
      refine lv_goto (tgt := 148) hx hb d_Md_init_164 (by decide) ?_
      exact ih (k + 1) M_108 _ _ ls _ (by omega) hm hf (hp_fi q1) (fun j hj => by rw [va_up_ne _ _ hj]; exact q2 j hj) hH hS (lv_sub hl [0, 1] rfl)
  exact Lp 64 0 M_101 _ _ ls _ (by omega) hm md_fr_rf (fun j hj => absurd hj (Nat.not_lt_zero j)) (fun j _ => rfl) hH hS (lv_sub hl [0, 1] rfl)
