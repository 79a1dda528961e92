theorem kw_182 : Cond.methodLink R_Md 93 y_Md_isBehind ∈ wd_T := wd_in (List.mem_of_getElem? (i := 375) (by decide +kernel)) rfl
theorem kw_183 : Cond.code y_Md_isBehind b_Md_isBehind 6 (some .boolean) ∈ wd_T := wd_in (List.mem_of_getElem? (i := 378) (by decide +kernel)) rfl
theorem kw_184 : Cond.instanceMethod y_Md_isBehind ∈ wd_T := wd_in (List.mem_of_getElem? (i := 377) (by decide +kernel)) rfl
theorem kw_185 : Cond.selects R_Md y_Md_isBehind y_Md_isBehind ∈ wd_T := wd_in (List.mem_of_getElem? (i := 14) (by decide +kernel)) rfl
theorem kw_186 : Cond.methodLink R_Md 97 y_Md_copy ∈ wd_T := wd_in (List.mem_of_getElem? (i := 379) (by decide +kernel)) rfl
theorem kw_187 : Cond.code y_Md_copy b_Md_copy 3 none ∈ wd_T := wd_in (List.mem_of_getElem? (i := 382) (by decide +kernel)) rfl
theorem kw_188 : Cond.instanceMethod y_Md_copy ∈ wd_T := wd_in (List.mem_of_getElem? (i := 381) (by decide +kernel)) rfl
theorem kw_189 : Cond.selects R_Md y_Md_copy y_Md_copy ∈ wd_T := wd_in (List.mem_of_getElem? (i := 15) (by decide +kernel)) rfl
theorem kw_190 : Cond.methodLink R_Md 89 y_Md_timeOf ∈ wd_T := wd_in (List.mem_of_getElem? (i := 369) (by decide +kernel)) rfl
theorem kw_191 : Cond.code y_Md_timeOf b_Md_timeOf 6 (some .long) ∈ wd_T := wd_in (List.mem_of_getElem? (i := 372) (by decide +kernel)) rfl
theorem kw_192 : Cond.instanceMethod y_Md_timeOf ∈ wd_T := wd_in (List.mem_of_getElem? (i := 371) (by decide +kernel)) rfl
theorem kw_193 : Cond.selects R_Md y_Md_timeOf y_Md_timeOf ∈ wd_T := wd_in (List.mem_of_getElem? (i := 13) (by decide +kernel)) rfl
theorem d_Md_come_0 : decode b_Md_come 0 = .ok (.aload_n 0, 1) := by decide +kernel
theorem d_Md_come_1 : decode b_Md_come 1 = .ok (.getfield 41, 3) := by decide +kernel
theorem d_Md_come_4 : decode b_Md_come 4 = .ok (.iload_n 1, 1) := by decide +kernel
theorem d_Md_come_5 : decode b_Md_come 5 = .ok (.iaload, 1) := by decide +kernel
theorem d_Md_come_6 : decode b_Md_come 6 = .ok (.istore_n 2, 1) := by decide +kernel
theorem d_Md_come_7 : decode b_Md_come 7 = .ok (.aload_n 0, 1) := by decide +kernel
theorem d_Md_come_8 : decode b_Md_come 8 = .ok (.getfield 44, 3) := by decide +kernel
theorem d_Md_come_11 : decode b_Md_come 11 = .ok (.iload_n 1, 1) := by decide +kernel
theorem d_Md_come_12 : decode b_Md_come 12 = .ok (.iaload, 1) := by decide +kernel
theorem d_Md_come_13 : decode b_Md_come 13 = .ok (.istore_n 3, 1) := by decide +kernel
theorem d_Md_come_14 : decode b_Md_come 14 = .ok (.lconst 0, 1) := by decide +kernel
theorem d_Md_come_15 : decode b_Md_come 15 = .ok (.lstore 4, 2) := by decide +kernel
theorem d_Md_come_17 : decode b_Md_come 17 = .ok (.aload_n 0, 1) := by decide +kernel
theorem d_Md_come_18 : decode b_Md_come 18 = .ok (.getfield 32, 3) := by decide +kernel
theorem d_Md_come_21 : decode b_Md_come 21 = .ok (.iload_n 2, 1) := by decide +kernel
theorem d_Md_come_22 : decode b_Md_come 22 = .ok (.iaload, 1) := by decide +kernel
theorem d_Md_come_23 : decode b_Md_come 23 = .ok (.iconst 2, 1) := by decide +kernel
theorem d_Md_come_24 : decode b_Md_come 24 = .ok (.if_icmp .ne 24, 3) := by decide +kernel
theorem d_Md_come_27 : decode b_Md_come 27 = .ok (.aload_n 0, 1) := by decide +kernel
theorem d_Md_come_28 : decode b_Md_come 28 = .ok (.iload_n 2, 1) := by decide +kernel
theorem d_Md_come_29 : decode b_Md_come 29 = .ok (.iload_n 3, 1) := by decide +kernel
theorem d_Md_come_30 : decode b_Md_come 30 = .ok (.invokevirtual 89, 3) := by decide +kernel
theorem d_Md_come_33 : decode b_Md_come 33 = .ok (.lstore 4, 2) := by decide +kernel
theorem d_Md_come_35 : decode b_Md_come 35 = .ok (.aload_n 0, 1) := by decide +kernel
theorem d_Md_come_36 : decode b_Md_come 36 = .ok (.getfield 38, 3) := by decide +kernel
theorem d_Md_come_39 : decode b_Md_come 39 = .ok (.bipush 8, 2) := by decide +kernel
theorem d_Md_come_41 : decode b_Md_come 41 = .ok (.iload_n 2, 1) := by decide +kernel
theorem d_Md_come_42 : decode b_Md_come 42 = .ok (.imul, 1) := by decide +kernel
theorem d_Md_come_43 : decode b_Md_come 43 = .ok (.iload_n 3, 1) := by decide +kernel
theorem d_Md_come_44 : decode b_Md_come 44 = .ok (.iadd, 1) := by decide +kernel
theorem d_Md_come_45 : decode b_Md_come 45 = .ok (.lload 4, 2) := by decide +kernel
theorem d_Md_come_47 : decode b_Md_come 47 = .ok (.lastore, 1) := by decide +kernel
theorem d_Md_come_48 : decode b_Md_come 48 = .ok (.sipush 512, 3) := by decide +kernel
theorem d_Md_come_51 : decode b_Md_come 51 = .ok (.iload_n 2, 1) := by decide +kernel
theorem d_Md_come_52 : decode b_Md_come 52 = .ok (.imul, 1) := by decide +kernel
theorem d_Md_come_53 : decode b_Md_come 53 = .ok (.aload_n 0, 1) := by decide +kernel
theorem d_Md_come_54 : decode b_Md_come 54 = .ok (.getfield 7, 3) := by decide +kernel
theorem d_Md_come_57 : decode b_Md_come 57 = .ok (.iload_n 2, 1) := by decide +kernel
theorem d_Md_come_58 : decode b_Md_come 58 = .ok (.iaload, 1) := by decide +kernel
theorem d_Md_come_59 : decode b_Md_come 59 = .ok (.iadd, 1) := by decide +kernel
theorem d_Md_come_60 : decode b_Md_come 60 = .ok (.istore 6, 2) := by decide +kernel
theorem d_Md_come_62 : decode b_Md_come 62 = .ok (.iload 6, 2) := by decide +kernel
theorem d_Md_come_64 : decode b_Md_come 64 = .ok (.sipush 512, 3) := by decide +kernel
theorem d_Md_come_67 : decode b_Md_come 67 = .ok (.iload_n 2, 1) := by decide +kernel
theorem d_Md_come_68 : decode b_Md_come 68 = .ok (.imul, 1) := by decide +kernel
theorem d_Md_come_69 : decode b_Md_come 69 = .ok (.if_icmp .le 34, 3) := by decide +kernel
theorem d_Md_come_72 : decode b_Md_come 72 = .ok (.aload_n 0, 1) := by decide +kernel
theorem d_Md_come_73 : decode b_Md_come 73 = .ok (.iload_n 2, 1) := by decide +kernel
theorem d_Md_come_74 : decode b_Md_come 74 = .ok (.iload 6, 2) := by decide +kernel
theorem d_Md_come_76 : decode b_Md_come 76 = .ok (.iconst 1, 1) := by decide +kernel
theorem d_Md_come_77 : decode b_Md_come 77 = .ok (.isub, 1) := by decide +kernel
theorem d_Md_come_78 : decode b_Md_come 78 = .ok (.iload_n 3, 1) := by decide +kernel
theorem d_Md_come_79 : decode b_Md_come 79 = .ok (.lload 4, 2) := by decide +kernel
theorem d_Md_come_81 : decode b_Md_come 81 = .ok (.invokevirtual 93, 3) := by decide +kernel
theorem d_Md_come_84 : decode b_Md_come 84 = .ok (.ifCond .ne 19, 3) := by decide +kernel
theorem d_Md_come_87 : decode b_Md_come 87 = .ok (.aload_n 0, 1) := by decide +kernel
theorem d_Md_come_88 : decode b_Md_come 88 = .ok (.iload 6, 2) := by decide +kernel
theorem d_Md_come_90 : decode b_Md_come 90 = .ok (.iconst 1, 1) := by decide +kernel
theorem d_Md_come_91 : decode b_Md_come 91 = .ok (.isub, 1) := by decide +kernel
theorem d_Md_come_92 : decode b_Md_come 92 = .ok (.iload 6, 2) := by decide +kernel
theorem d_Md_come_94 : decode b_Md_come 94 = .ok (.invokevirtual 97, 3) := by decide +kernel
theorem d_Md_come_97 : decode b_Md_come 97 = .ok (.iinc 6 (-1), 3) := by decide +kernel
theorem d_Md_come_100 : decode b_Md_come 100 = .ok (.goto (-38), 3) := by decide +kernel
theorem d_Md_come_103 : decode b_Md_come 103 = .ok (.aload_n 0, 1) := by decide +kernel
theorem d_Md_come_104 : decode b_Md_come 104 = .ok (.getfield 13, 3) := by decide +kernel
theorem d_Md_come_107 : decode b_Md_come 107 = .ok (.iload 6, 2) := by decide +kernel
theorem d_Md_come_109 : decode b_Md_come 109 = .ok (.iload_n 1, 1) := by decide +kernel
theorem d_Md_come_110 : decode b_Md_come 110 = .ok (.iastore, 1) := by decide +kernel
theorem d_Md_come_111 : decode b_Md_come 111 = .ok (.aload_n 0, 1) := by decide +kernel
theorem d_Md_come_112 : decode b_Md_come 112 = .ok (.getfield 16, 3) := by decide +kernel
theorem d_Md_come_115 : decode b_Md_come 115 = .ok (.iload 6, 2) := by decide +kernel
theorem d_Md_come_117 : decode b_Md_come 117 = .ok (.iload_n 3, 1) := by decide +kernel
theorem d_Md_come_118 : decode b_Md_come 118 = .ok (.iastore, 1) := by decide +kernel
theorem d_Md_come_119 : decode b_Md_come 119 = .ok (.aload_n 0, 1) := by decide +kernel
theorem d_Md_come_120 : decode b_Md_come 120 = .ok (.getfield 19, 3) := by decide +kernel
theorem d_Md_come_123 : decode b_Md_come 123 = .ok (.iload 6, 2) := by decide +kernel
theorem d_Md_come_125 : decode b_Md_come 125 = .ok (.aload_n 0, 1) := by decide +kernel
theorem d_Md_come_126 : decode b_Md_come 126 = .ok (.getfield 47, 3) := by decide +kernel
theorem d_Md_come_129 : decode b_Md_come 129 = .ok (.iload_n 1, 1) := by decide +kernel
theorem d_Md_come_130 : decode b_Md_come 130 = .ok (.iaload, 1) := by decide +kernel
theorem d_Md_come_131 : decode b_Md_come 131 = .ok (.iastore, 1) := by decide +kernel
theorem d_Md_come_132 : decode b_Md_come 132 = .ok (.aload_n 0, 1) := by decide +kernel
theorem d_Md_come_133 : decode b_Md_come 133 = .ok (.getfield 22, 3) := by decide +kernel
theorem d_Md_come_136 : decode b_Md_come 136 = .ok (.iload 6, 2) := by decide +kernel
theorem d_Md_come_138 : decode b_Md_come 138 = .ok (.lload 4, 2) := by decide +kernel
theorem d_Md_come_140 : decode b_Md_come 140 = .ok (.lastore, 1) := by decide +kernel
theorem d_Md_come_141 : decode b_Md_come 141 = .ok (.aload_n 0, 1) := by decide +kernel
theorem d_Md_come_142 : decode b_Md_come 142 = .ok (.getfield 26, 3) := by decide +kernel
theorem d_Md_come_145 : decode b_Md_come 145 = .ok (.iload 6, 2) := by decide +kernel
theorem d_Md_come_147 : decode b_Md_come 147 = .ok (.aload_n 0, 1) := by decide +kernel
theorem d_Md_come_148 : decode b_Md_come 148 = .ok (.getfield 85, 3) := by decide +kernel
theorem d_Md_come_151 : decode b_Md_come 151 = .ok (.iastore, 1) := by decide +kernel
theorem d_Md_come_152 : decode b_Md_come 152 = .ok (.aload_n 0, 1) := by decide +kernel
theorem d_Md_come_153 : decode b_Md_come 153 = .ok (.getfield 29, 3) := by decide +kernel
theorem d_Md_come_156 : decode b_Md_come 156 = .ok (.iload 6, 2) := by decide +kernel
theorem d_Md_come_158 : decode b_Md_come 158 = .ok (.aload_n 0, 1) := by decide +kernel
theorem d_Md_come_159 : decode b_Md_come 159 = .ok (.getfield 50, 3) := by decide +kernel
theorem d_Md_come_162 : decode b_Md_come 162 = .ok (.iload_n 1, 1) := by decide +kernel
theorem d_Md_come_163 : decode b_Md_come 163 = .ok (.iaload, 1) := by decide +kernel
theorem d_Md_come_164 : decode b_Md_come 164 = .ok (.iastore, 1) := by decide +kernel
theorem d_Md_come_165 : decode b_Md_come 165 = .ok (.aload_n 0, 1) := by decide +kernel
theorem d_Md_come_166 : decode b_Md_come 166 = .ok (.getfield 7, 3) := by decide +kernel
theorem d_Md_come_169 : decode b_Md_come 169 = .ok (.iload_n 2, 1) := by decide +kernel
theorem d_Md_come_170 : decode b_Md_come 170 = .ok (.dup2, 1) := by decide +kernel
theorem d_Md_come_171 : decode b_Md_come 171 = .ok (.iaload, 1) := by decide +kernel
theorem d_Md_come_172 : decode b_Md_come 172 = .ok (.iconst 1, 1) := by decide +kernel
theorem d_Md_come_173 : decode b_Md_come 173 = .ok (.iadd, 1) := by decide +kernel
theorem d_Md_come_174 : decode b_Md_come 174 = .ok (.iastore, 1) := by decide +kernel
theorem d_Md_come_175 : decode b_Md_come 175 = .ok (.aload_n 0, 1) := by decide +kernel
theorem d_Md_come_176 : decode b_Md_come 176 = .ok (.getfield 41, 3) := by decide +kernel
theorem d_Md_come_179 : decode b_Md_come 179 = .ok (.iload_n 1, 1) := by decide +kernel
theorem d_Md_come_180 : decode b_Md_come 180 = .ok (.iconst (-1), 1) := by decide +kernel
theorem d_Md_come_181 : decode b_Md_come 181 = .ok (.iastore, 1) := by decide +kernel
theorem d_Md_come_182 : decode b_Md_come 182 = .ok (.return_, 1) := by decide +kernel
abbrev rm_Md_come : Room := { frames := 1, cells := 0, slots := 0, locals := 25 }
set_option maxHeartbeats 4000000 in
set_option maxRecDepth 100000 in
theorem cn_Md_come (l : Launch) (D : va_G) (B : Nat) (M : hp_M) (b : Nat) (ad : Nat → Nat) (th of sl : Int32) (ct : Nat → Nat → Int32) (cl : Nat → Nat → Int64) (σ : sg_S) (tk : Nat → Int32) (i : Nat) (c : sg_Ce) (hm : md_H D M b ad th of sl ct cl) (hR : mo_R σ tk of sl ct cl) (hinv : sg_inv σ) (hac : sg_ac σ ≤ 512) (hi8 : i < 8) (hc : sg_of σ i = some c) : Met l y_Md_come (wd_c y_Md_come b_Md_come 7 (none)) rm_Md_come (va_Pc [.ref b, .int (nI i)] (hp_C D B M)) (va_Qv (fun  (M1 : hp_M) => ∃ (ct' : Nat → Nat → Int32) (cl' : Nat → Nat → Int64), md_H D M1 b ad th of sl ct' cl' ∧ md_fr b ad M M1 ∧ mo_R (sg_come1 σ i c) tk of sl ct' cl') (hp_C D B) (hp_ub B)) 0 0 (hp_ub B) := by
  refine hp_met (by decide) (Nat.le_of_ble_eq_true rfl) ?_
  intro p e s m args below meth cd ls Q hQ hx hb hr hts hown hlocks hnm hml hK hH hS hB hl
  replace hl : lv_has ls 7 [(0, .ref b), (1, .int (nI i))] := hl
  have hf : md_fr b ad M M := md_fr_rf
  obtain ⟨c1, c2, c3, c4, c5, c6⟩ := (hinv.2.1 i hi8).2 c hc
  have ho := hR.2.2.2 i hi8
  rw [hc] at ho
  obtain ⟨ho10, ho11, ho12, ho13⟩ := ho
  obtain ⟨hm0, hk7, hw8, hrow, -⟩ := hR.2.2.1 (sg_co c) c2
  have hlen := sg_len_lt hinv hi8 c2 hc
  have hkk := (hinv.1 (sg_co c) c2).1
  have hord := (hinv.1 (sg_co c) c2).2.1
  have Ex : ∀ (T : Int64) (cl1 : Nat → Nat → Int64) (k : Nat) (M3 : hp_M) (H : Heap) (locs : List Loc) (ls : Array Slot) (ct1 : Nat → Nat → Int32) (cl2 : Nat → Nat → Int64), T = sg_cm (sg_cell σ c) → (∀ x g, x < 8 → g < 8 → cl1 9 (8 * x + g) = sg_lt (sg_come1 σ i c) x g) → k ≤ (sg_qu σ (sg_co c)).length → md_H D M3 b ad th of sl ct1 cl2 → md_fr b ad M M3 → mo_up ct ct1 cl cl2 (sg_co c) k (sg_qu σ (sg_co c)).length → cl2 9 = cl1 9 → sg_ins (sg_kd σ (sg_co c)) (sg_cell σ c) (sg_qu σ (sg_co c)) = (sg_qu σ (sg_co c)).take k ++ (sg_cell σ c) :: (sg_qu σ (sg_co c)).drop k → hp_H D B M3 H → va_S (hp_ub B) s.heap H locs → lv_has ls 7 [(6, .int (nI (512 * (sg_co c) + k))), (4, .long T), (3, .int (nI (sg_cg c))), (2, .int (nI (sg_co c))), (0, .ref b), (1, .int (nI i))] → W p l e rm_Md_come s m args below meth cd H locs 0 0 Q (F0 m 103 ls []) := by
    intro T cl1 k M3 H locs ls ct1 cl2 hT h9 hkl hm hf hu hc9 hins hH hS hl
    have u3 := hu.2.2
    refine lv_aload_n hx hb d_Md_come_103 rfl (lv_at hl 4 rfl) ?_
    refine hp_get hx hb hts iw_Md hown hK hH hm.1 rfl 2 (by decide) (hts _ kw_152) (v := .ref (ad 1)) rfl d_Md_come_104 ?_
    refine lv_iload hx hb d_Md_come_107 (lv_at hl 0 rfl) ?_
    refine lv_iload_n hx hb d_Md_come_109 rfl (lv_at hl 5 rfl) ?_
    refine hp_iast hx hb hK hH hS hB (show M3 (ad 1) = some (hp_ai D 4096 (ct1 1)) from hm.2.1 1 (by decide) (by decide) (by decide)) (512 * (sg_co c) + k) rfl (by omega) (by decide) d_Md_come_110 (fun M_1 H locs eM_1 hH hS => ?_)
    have hm := md_pi hm (j := 1) (by decide) (by decide) (by decide) eM_1
    have hf := md_fr_a (j := 1) (by decide) hf eM_1
    refine lv_aload_n hx hb d_Md_come_111 rfl (lv_at hl 4 rfl) ?_
    refine hp_get hx hb hts iw_Md hown hK hH hm.1 rfl 3 (by decide) (hts _ kw_176) (v := .ref (ad 2)) rfl d_Md_come_112 ?_
    refine lv_iload hx hb d_Md_come_115 (lv_at hl 0 rfl) ?_
    refine lv_iload_n hx hb d_Md_come_117 rfl (lv_at hl 2 rfl) ?_
    refine hp_iast hx hb hK hH hS hB (show M_1 (ad 2) = some (hp_ai D 4096 (ct1 2)) from hm.2.1 2 (by decide) (by decide) (by decide)) (512 * (sg_co c) + k) rfl (by omega) (by decide) d_Md_come_118 (fun M_2 H locs eM_2 hH hS => ?_)
    have hm := md_pi hm (j := 2) (by decide) (by decide) (by decide) eM_2
    have hf := md_fr_a (j := 2) (by decide) hf eM_2
    refine lv_aload_n hx hb d_Md_come_119 rfl (lv_at hl 4 rfl) ?_
    refine hp_get hx hb hts iw_Md hown hK hH hm.1 rfl 4 (by decide) (hts _ kw_177) (v := .ref (ad 3)) rfl d_Md_come_120 ?_
    refine lv_iload hx hb d_Md_come_123 (lv_at hl 0 rfl) ?_
    refine lv_aload_n hx hb d_Md_come_125 rfl (lv_at hl 4 rfl) ?_
    refine hp_get hx hb hts iw_Md hown hK hH hm.1 rfl 13 (by decide) (hts _ kw_167) (v := .ref (ad 12)) rfl d_Md_come_126 ?_
    refine lv_iload_n hx hb d_Md_come_129 rfl (lv_at hl 5 rfl) ?_
    refine hp_iald hx hb hK hH (show M_2 (ad 12) = some (hp_ai D 8 (ct1 12)) from hm.2.1 12 (by decide) (by decide) (by decide)) i rfl hi8 (by decide) (v := (sg_ct c)) (by rw [u3 12 (by decide)]; exact ho12) d_Md_come_130 ?_
    refine hp_iast hx hb hK hH hS hB (show M_2 (ad 3) = some (hp_ai D 4096 (ct1 3)) from hm.2.1 3 (by decide) (by decide) (by decide)) (512 * (sg_co c) + k) rfl (by omega) (by decide) d_Md_come_131 (fun M_3 H locs eM_3 hH hS => ?_)
    have hm := md_pi hm (j := 3) (by decide) (by decide) (by decide) eM_3
    have hf := md_fr_a (j := 3) (by decide) hf eM_3
    refine lv_aload_n hx hb d_Md_come_132 rfl (lv_at hl 4 rfl) ?_
    refine hp_get hx hb hts iw_Md hown hK hH hm.1 rfl 5 (by decide) (hts _ kw_154) (v := .ref (ad 4)) rfl d_Md_come_133 ?_
    refine lv_iload hx hb d_Md_come_136 (lv_at hl 0 rfl) ?_
    refine lv_lload hx hb d_Md_come_138 (lv_at hl 1 rfl) ?_
    refine hp_last hx hb hK hH hS hB (show M_3 (ad 4) = some (hp_al D 4096 (cl2 4)) from hm.2.2.1 4 (by decide)) (512 * (sg_co c) + k) rfl (by omega) (by decide) d_Md_come_140 (fun M_4 H locs eM_4 hH hS => ?_)
    have hm := md_pl hm (j := 4) (by decide) eM_4
    have hf := md_fr_a (j := 4) (by decide) hf eM_4
    refine lv_aload_n hx hb d_Md_come_141 rfl (lv_at hl 4 rfl) ?_
    refine hp_get hx hb hts iw_Md hown hK hH hm.1 rfl 6 (by decide) (hts _ kw_178) (v := .ref (ad 5)) rfl d_Md_come_142 ?_
    refine lv_iload hx hb d_Md_come_145 (lv_at hl 0 rfl) ?_
    refine lv_aload_n hx hb d_Md_come_147 rfl (lv_at hl 4 rfl) ?_
    refine hp_get hx hb hts iw_Md hown hK hH hm.1 rfl 16 (by decide) (hts _ kw_135) (v := .int sl) rfl d_Md_come_148 ?_
    refine hp_iast hx hb hK hH hS hB (show M_4 (ad 5) = some (hp_ai D 4096 (ct1 5)) from hm.2.1 5 (by decide) (by decide) (by decide)) (512 * (sg_co c) + k) rfl (by omega) (by decide) d_Md_come_151 (fun M_5 H locs eM_5 hH hS => ?_)
    have hm := md_pi hm (j := 5) (by decide) (by decide) (by decide) eM_5
    have hf := md_fr_a (j := 5) (by decide) hf eM_5
    refine lv_aload_n hx hb d_Md_come_152 rfl (lv_at hl 4 rfl) ?_
    refine hp_get hx hb hts iw_Md hown hK hH hm.1 rfl 7 (by decide) (hts _ kw_179) (v := .ref (ad 6)) rfl d_Md_come_153 ?_
    refine lv_iload hx hb d_Md_come_156 (lv_at hl 0 rfl) ?_
    refine lv_aload_n hx hb d_Md_come_158 rfl (lv_at hl 4 rfl) ?_
    refine hp_get hx hb hts iw_Md hown hK hH hm.1 rfl 14 (by decide) (hts _ kw_168) (v := .ref (ad 13)) rfl d_Md_come_159 ?_
    refine lv_iload_n hx hb d_Md_come_162 rfl (lv_at hl 5 rfl) ?_
    refine hp_iald hx hb hK hH (show M_5 (ad 13) = some (hp_ai D 8 (ct1 13)) from hm.2.1 13 (by decide) (by decide) (by decide)) i rfl hi8 (by decide) (v := nI (sg_cs c)) (by rw [u3 13 (by decide)]; exact ho13) d_Md_come_163 ?_
    refine hp_iast hx hb hK hH hS hB (show M_5 (ad 6) = some (hp_ai D 4096 (ct1 6)) from hm.2.1 6 (by decide) (by decide) (by decide)) (512 * (sg_co c) + k) rfl (by omega) (by decide) d_Md_come_164 (fun M_6 H locs eM_6 hH hS => ?_)
    have hm := md_pi hm (j := 6) (by decide) (by decide) (by decide) eM_6
    have hf := md_fr_a (j := 6) (by decide) hf eM_6
    refine lv_aload_n hx hb d_Md_come_165 rfl (lv_at hl 4 rfl) ?_
    refine hp_get hx hb hts iw_Md hown hK hH hm.1 rfl 1 (by decide) (hts _ kw_147) (v := .ref (ad 0)) rfl d_Md_come_166 ?_
    refine lv_iload_n hx hb d_Md_come_169 rfl (lv_at hl 3 rfl) ?_
    refine lv_dup2_11 hx hb d_Md_come_170 rfl rfl ?_
    refine hp_iald hx hb hK hH (show M_6 (ad 0) = some (hp_ai D 8 (ct1 0)) from hm.2.1 0 (by decide) (by decide) (by decide)) (sg_co c) rfl c2 (by decide) (v := nI (sg_qu σ (sg_co c)).length) (by rw [u3 0 (by decide)]; exact hm0) d_Md_come_171 ?_
    refine lv_iconst (v := 1) hx hb d_Md_come_172 (by decide) ?_
    refine lv_iadd hx hb d_Md_come_173 ?_
    refine hp_iast hx hb hK hH hS hB (show M_6 (ad 0) = some (hp_ai D 8 (ct1 0)) from hm.2.1 0 (by decide) (by decide) (by decide)) (sg_co c) rfl c2 (by decide) d_Md_come_174 (fun M_7 H locs eM_7 hH hS => ?_)
    have hm := md_pi hm (j := 0) (by decide) (by decide) (by decide) eM_7
    have hf := md_fr_a (j := 0) (by decide) hf eM_7
    refine lv_aload_n hx hb d_Md_come_175 rfl (lv_at hl 4 rfl) ?_
    refine hp_get hx hb hts iw_Md hown hK hH hm.1 rfl 11 (by decide) (hts _ kw_155) (v := .ref (ad 10)) rfl d_Md_come_176 ?_
    refine lv_iload_n hx hb d_Md_come_179 rfl (lv_at hl 5 rfl) ?_
    refine lv_iconst (v := (-1)) hx hb d_Md_come_180 (by decide) ?_
    refine hp_iast hx hb hK hH hS hB (show M_7 (ad 10) = some (hp_ai D 8 (ct1 10)) from hm.2.1 10 (by decide) (by decide) (by decide)) i rfl hi8 (by decide) d_Md_come_181 (fun M_8 H locs eM_8 hH hS => ?_)
    have hm := md_pi hm (j := 10) (by decide) (by decide) (by decide) eM_8
    have hf := md_fr_a (j := 10) (by decide) hf eM_8
    exact hp_vret hx hb hr hlocks hQ hK hH hS (Nat.le_of_ble_eq_true rfl) (Nat.le_of_ble_eq_true rfl) d_Md_come_182 ⟨_, _, hm, hf, mo_R_come hR hinv hac hi8 hc hT h9 hc9 hkl hu hins⟩
  have Lp : ∀ (T : Int64) (cl1 : Nat → Nat → Int64), T = sg_cm (sg_cell σ c) → (∀ x g, x < 8 → g < 8 → cl1 9 (8 * x + g) = sg_lt (sg_come1 σ i c) x g) → ∀ (k : Nat) (M3 : hp_M) (H : Heap) (locs : List Loc) (ls : Array Slot) (ct1 : Nat → Nat → Int32) (cl2 : Nat → Nat → Int64), k ≤ (sg_qu σ (sg_co c)).length → md_H D M3 b ad th of sl ct1 cl2 → md_fr b ad M M3 → mo_up ct ct1 cl cl2 (sg_co c) k (sg_qu σ (sg_co c)).length → cl2 9 = cl1 9 → (∀ j d, k ≤ j → (sg_qu σ (sg_co c))[j]? = some d → sg_bef (sg_kd σ (sg_co c)) (sg_cell σ c) d = true) → hp_H D B M3 H → va_S (hp_ub B) s.heap H locs → lv_has ls 7 [(6, .int (nI (512 * (sg_co c) + k))), (4, .long T), (3, .int (nI (sg_cg c))), (2, .int (nI (sg_co c))), (0, .ref b), (1, .int (nI i))] → W p l e rm_Md_come s m args below meth cd H locs 0 0 Q (F0 m 62 ls []) := by
    intro T cl1 hT h9 k
    subst hT
    induction k with
    | zero =>
      intro M3 H locs ls ct1 cl2 hkl hm hf hu hc9 hbe hH hS hl
      have u3 := hu.2.2
      refine lv_iload hx hb d_Md_come_62 (lv_at hl 0 rfl) ?_
      refine lv_sipush (v := 512) hx hb d_Md_come_64 (by decide) ?_
      refine lv_iload_n hx hb d_Md_come_67 rfl (lv_at hl 3 rfl) ?_
      refine lv_imul hx hb d_Md_come_68 ?_
      refine lv_icmp_le (tgt := 103) hx hb d_Md_come_69 (by decide) (fun c_9 => ?_) (fun c_9 => absurd (by rw [md_s512]; exact nI_le (by omega) (by omega)) c_9)
      exact Ex _ cl1 0 M3 _ _ ls ct1 cl2 rfl h9 hkl hm hf hu hc9 (sg_ins_k hord hkk hkl hbe (Or.inl rfl)) hH hS (lv_sub hl [0, 1, 2, 3, 4, 5] rfl)
    | succ k ih =>
      intro M3 H locs ls ct1 cl2 hkl hm hf hu hc9 hbe hH hS hl
      have u3 := hu.2.2
      obtain ⟨d, hd⟩ : ∃ d, (sg_qu σ (sg_co c))[k]? = some d := ⟨_, List.getElem?_eq_getElem (by omega)⟩
      have hdm : d ∈ sg_qu σ (sg_co c) := List.mem_of_getElem? hd
      have hd8 := ((hinv.1 (sg_co c) c2).2.2.2 d hdm).2.2.1
      obtain ⟨hr1, hr2, hr3, hr4, hr5, hr6⟩ := mo_rw ((hu.1 (512 * (sg_co c) + k) (by omega)).trans (hrow k d hd))
      refine lv_iload hx hb d_Md_come_62 (lv_at hl 0 rfl) ?_
      refine lv_sipush (v := 512) hx hb d_Md_come_64 (by decide) ?_
      refine lv_iload_n hx hb d_Md_come_67 rfl (lv_at hl 3 rfl) ?_
      refine lv_imul hx hb d_Md_come_68 ?_
      refine lv_icmp_le (tgt := 103) hx hb d_Md_come_69 (by decide) (fun c_10 => absurd c_10 (by rw [md_s512]; exact nI_ge (by omega) (by omega))) (fun c_10 => ?_)
      refine lv_aload_n hx hb d_Md_come_72 rfl (lv_at hl 4 rfl) ?_
      refine lv_iload_n hx hb d_Md_come_73 rfl (lv_at hl 3 rfl) ?_
      refine lv_iload hx hb d_Md_come_74 (lv_at hl 0 rfl) ?_
      refine lv_iconst (v := 1) hx hb d_Md_come_76 (by decide) ?_
      refine lv_isub hx hb d_Md_come_77 ?_
      refine hp_ioi (nI_pred _) ?_
      refine lv_iload_n hx hb d_Md_come_78 rfl (lv_at hl 2 rfl) ?_
      refine lv_lload hx hb d_Md_come_79 (lv_at hl 1 rfl) ?_
      refine hp_calli (hp_runV (b := b) (As := [.int (nI (sg_co c)), .int (nI (512 * (sg_co c) + k)), .int (nI (sg_cg c)), .long (sg_cm (sg_cell σ c))]) (rest := []) hx hb hml hown (cn_Md_isBehind l D B M3 b ad th of sl ct1 cl2 (sg_co c) (512 * (sg_co c) + k) (sg_cell σ c) d hm (by rw [u3 7 (by decide), hk7]; exact hkk) c2 (by omega) c3 hd8 hr2 hr4) (hp_cwV 4 hts kw_182 kw_184 kw_185 kw_137 kw_183 rfl rfl (by decide +kernel) ⟨(Nat.le_of_ble_eq_true rfl), (Nat.le_of_ble_eq_true rfl)⟩) hK hH hm.1 rfl rfl hl.1 rfl (Nat.le_of_ble_eq_true rfl) d_Md_come_81 ⟨(Nat.le_of_ble_eq_true rfl), (Nat.le_of_ble_eq_true rfl)⟩) hS (fun r_11 M_12 H locs w_13 hH hS => ?_)
      obtain ⟨eM, eR⟩ := w_13
      rw [u3 7 (by decide), hk7] at eR
      rw [eM] at hH
      rw [eR]
      refine lv_if_ne (tgt := 103) hx hb d_Md_come_84 (by decide) (fun c_14 => ?_) (fun c_14 => ?_)
      · exact Ex _ cl1 (k + 1) M3 _ _ ls ct1 cl2 rfl h9 hkl hm hf hu hc9 (sg_ins_k hord hkk hkl hbe (Or.inr ⟨k, d, rfl, hd, mb_t c_14⟩)) hH hS (lv_sub hl [0, 1, 2, 3, 4, 5] rfl)
      · have hbf := mb_f c_14
        refine lv_aload_n hx hb d_Md_come_87 rfl (lv_at hl 4 rfl) ?_
        refine lv_iload hx hb d_Md_come_88 (lv_at hl 0 rfl) ?_
        refine lv_iconst (v := 1) hx hb d_Md_come_90 (by decide) ?_
        refine lv_isub hx hb d_Md_come_91 ?_
        refine hp_ioi (nI_pred _) ?_
        refine lv_iload hx hb d_Md_come_92 (lv_at hl 0 rfl) ?_
        refine hp_callv (hp_runV (b := b) (As := [.int (nI (512 * (sg_co c) + k)), .int (nI (512 * (sg_co c) + (k + 1)))]) (rest := []) hx hb hml hown (cn_Md_copy l D B M3 b ad th of sl ct1 cl2 (512 * (sg_co c) + k) (512 * (sg_co c) + (k + 1)) hm (by omega) (by omega)) (hp_cwV 2 hts kw_186 kw_188 kw_189 kw_137 kw_187 rfl rfl (by decide +kernel) ⟨(Nat.le_of_ble_eq_true rfl), (Nat.le_of_ble_eq_true rfl)⟩) hK hH hm.1 rfl rfl hl.1 rfl (Nat.le_of_ble_eq_true rfl) d_Md_come_94 ⟨(Nat.le_of_ble_eq_true rfl), (Nat.le_of_ble_eq_true rfl)⟩) hS (fun M_16 H locs w_17 hH hS => ?_)
        obtain ⟨ct2, cl3, hm', hf', cp1, cp2, cp3⟩ := w_17
        refine lv_iinc (v := nI (512 * (sg_co c) + k)) (lv' := [(6, .int (nI (512 * (sg_co c) + k))), (4, .long (sg_cm (sg_cell σ c))), (3, .int (nI (sg_cg c))), (2, .int (nI (sg_co c))), (0, .ref b), (1, .int (nI i))]) hx hb d_Md_come_97 hl (k := 0) rfl (pk_m1 _) (by decide) rfl (fun ls hl => ?_)
        refine lv_goto (tgt := 62) hx hb d_Md_come_100 (by decide) ?_
        exact ih M_16 _ _ ls _ _ (by omega) hm' (md_fr_tr hf hf') (mo_up_s hkl hu (by rw [← Nat.add_assoc] at cp1; exact cp1) cp2) (cp3.trans hc9) (fun j e hj he => by rcases Nat.lt_or_eq_of_le hj with w | w; exact hbe j e w he; subst w; rw [hd] at he; cases he; exact hbf) hH hS (lv_sub hl [0, 1, 2, 3, 4, 5] rfl)
  refine lv_aload_n hx hb d_Md_come_0 rfl (lv_at hl 0 rfl) ?_
  refine hp_get hx hb hts iw_Md hown hK hH hm.1 rfl 11 (by decide) (hts _ kw_155) (v := .ref (ad 10)) rfl d_Md_come_1 ?_
  refine lv_iload_n hx hb d_Md_come_4 rfl (lv_at hl 1 rfl) ?_
  refine hp_iald hx hb hK hH (show M (ad 10) = some (hp_ai D 8 (ct 10)) from hm.2.1 10 (by decide) (by decide) (by decide)) i rfl hi8 (by decide) (v := nI (sg_co c)) ho10 d_Md_come_5 ?_
  refine lv_istore_n (lv' := [(2, .int (nI (sg_co c))), (0, .ref b), (1, .int (nI i))]) hx hb d_Md_come_6 rfl hl (by decide) rfl (fun ls hl => ?_)
  refine lv_aload_n hx hb d_Md_come_7 rfl (lv_at hl 1 rfl) ?_
  refine hp_get hx hb hts iw_Md hown hK hH hm.1 rfl 12 (by decide) (hts _ kw_166) (v := .ref (ad 11)) rfl d_Md_come_8 ?_
  refine lv_iload_n hx hb d_Md_come_11 rfl (lv_at hl 2 rfl) ?_
  refine hp_iald hx hb hK hH (show M (ad 11) = some (hp_ai D 8 (ct 11)) from hm.2.1 11 (by decide) (by decide) (by decide)) i rfl hi8 (by decide) (v := nI (sg_cg c)) ho11 d_Md_come_12 ?_
  refine lv_istore_n (lv' := [(3, .int (nI (sg_cg c))), (2, .int (nI (sg_co c))), (0, .ref b), (1, .int (nI i))]) hx hb d_Md_come_13 rfl hl (by decide) rfl (fun ls hl => ?_)
  refine lv_lconst (v := 0) hx hb d_Md_come_14 (by decide) ?_
  refine lv_lstore (lv' := [(4, .long 0), (3, .int (nI (sg_cg c))), (2, .int (nI (sg_co c))), (0, .ref b), (1, .int (nI i))]) hx hb d_Md_come_15 hl (by decide) rfl (fun ls hl => ?_)
  refine lv_aload_n hx hb d_Md_come_17 rfl (lv_at hl 3 rfl) ?_
  refine hp_get hx hb hts iw_Md hown hK hH hm.1 rfl 8 (by decide) (hts _ kw_164) (v := .ref (ad 7)) rfl d_Md_come_18 ?_
  refine lv_iload_n hx hb d_Md_come_21 rfl (lv_at hl 2 rfl) ?_
  refine hp_iald hx hb hK hH (show M (ad 7) = some (hp_ai D 8 (ct 7)) from hm.2.1 7 (by decide) (by decide) (by decide)) (sg_co c) rfl c2 (by decide) (v := (sg_kd σ (sg_co c))) hk7 d_Md_come_22 ?_
  refine lv_iconst (v := 2) hx hb d_Md_come_23 (by decide) ?_
  refine lv_icmp_ne (tgt := 48) hx hb d_Md_come_24 (by decide) (fun c_18 => ?_) (fun c_18 => ?_)
  · refine lv_sipush (v := 512) hx hb d_Md_come_48 (by decide) ?_
    refine lv_iload_n hx hb d_Md_come_51 rfl (lv_at hl 2 rfl) ?_
    refine lv_imul hx hb d_Md_come_52 ?_
    refine lv_aload_n hx hb d_Md_come_53 rfl (lv_at hl 3 rfl) ?_
    refine hp_get hx hb hts iw_Md hown hK hH hm.1 rfl 1 (by decide) (hts _ kw_147) (v := .ref (ad 0)) rfl d_Md_come_54 ?_
    refine lv_iload_n hx hb d_Md_come_57 rfl (lv_at hl 2 rfl) ?_
    refine hp_iald hx hb hK hH (show M (ad 0) = some (hp_ai D 8 (ct 0)) from hm.2.1 0 (by decide) (by decide) (by decide)) (sg_co c) rfl c2 (by decide) (v := nI (sg_qu σ (sg_co c)).length) hm0 d_Md_come_58 ?_
    refine lv_iadd hx hb d_Md_come_59 ?_
    refine hp_ioi (md_ix512 (sg_co c) (sg_qu σ (sg_co c)).length) ?_
    refine lv_istore (lv' := [(6, .int (nI (512 * (sg_co c) + (sg_qu σ (sg_co c)).length))), (4, .long 0), (3, .int (nI (sg_cg c))), (2, .int (nI (sg_co c))), (0, .ref b), (1, .int (nI i))]) hx hb d_Md_come_60 hl (by decide) rfl (fun ls hl => ?_)
    exact Lp 0 cl (by show (0 : Int64) = if (sg_kd σ (sg_co c)) = 2 then _ else _; rw [if_neg c_18]) (mo_h9n hR c_18) _ M _ _ ls ct cl (Nat.le_refl _) hm hf (mo_up_0 rfl) rfl (fun j e hj he => absurd (List.getElem?_eq_some_iff.mp he).1 (by omega)) hH hS (lv_sub hl [0, 1, 2, 3, 4, 5] rfl)
  · refine lv_aload_n hx hb d_Md_come_27 rfl (lv_at hl 3 rfl) ?_
    refine lv_iload_n hx hb d_Md_come_28 rfl (lv_at hl 2 rfl) ?_
    refine lv_iload_n hx hb d_Md_come_29 rfl (lv_at hl 1 rfl) ?_
    refine hp_calll (hp_runV (b := b) (As := [.int (nI (sg_co c)), .int (nI (sg_cg c))]) (rest := []) hx hb hml hown (cn_Md_timeOf l D B M b ad th of sl ct cl σ tk (sg_co c) (sg_cg c) hm hR hinv hac c2 c3) (hp_cwV 2 hts kw_190 kw_192 kw_193 kw_137 kw_191 rfl rfl (by decide +kernel) ⟨(Nat.le_of_ble_eq_true rfl), (Nat.le_of_ble_eq_true rfl)⟩) hK hH hm.1 rfl rfl hl.1 rfl (Nat.le_of_ble_eq_true rfl) d_Md_come_30 ⟨(Nat.le_of_ble_eq_true rfl), (Nat.le_of_ble_eq_true rfl)⟩) hS (fun r_19 M_20 H locs w_21 hH hS => ?_)
    obtain ⟨eM, eR⟩ := w_21
    rw [eM] at hH
    rw [eR]
    refine lv_lstore (lv' := [(4, .long (sg_time σ (sg_co c) (sg_cg c))), (3, .int (nI (sg_cg c))), (2, .int (nI (sg_co c))), (0, .ref b), (1, .int (nI i))]) hx hb d_Md_come_33 hl (by decide) rfl (fun ls hl => ?_)
    refine lv_aload_n hx hb d_Md_come_35 rfl (lv_at hl 3 rfl) ?_
    refine hp_get hx hb hts iw_Md hown hK hH hm.1 rfl 10 (by decide) (hts _ kw_170) (v := .ref (ad 9)) rfl d_Md_come_36 ?_
    refine lv_bipush (v := 8) hx hb d_Md_come_39 (by decide) ?_
    refine lv_iload_n hx hb d_Md_come_41 rfl (lv_at hl 2 rfl) ?_
    refine lv_imul hx hb d_Md_come_42 ?_
    refine lv_iload_n hx hb d_Md_come_43 rfl (lv_at hl 1 rfl) ?_
    refine lv_iadd hx hb d_Md_come_44 ?_
    refine lv_lload hx hb d_Md_come_45 (lv_at hl 0 rfl) ?_
    refine hp_last hx hb hK hH hS hB (show M (ad 9) = some (hp_al D 64 (cl 9)) from hm.2.2.1 9 (by decide)) (8 * (sg_co c) + sg_cg c) (md_ix8 (sg_co c) (sg_cg c)) (by omega) (by decide) d_Md_come_47 (fun M_22 H locs eM_22 hH hS => ?_)
    have hm := md_pl hm (j := 9) (by decide) eM_22
    have hf := md_fr_a (j := 9) (by decide) hf eM_22
    refine lv_sipush (v := 512) hx hb d_Md_come_48 (by decide) ?_
    refine lv_iload_n hx hb d_Md_come_51 rfl (lv_at hl 2 rfl) ?_
    refine lv_imul hx hb d_Md_come_52 ?_
    refine lv_aload_n hx hb d_Md_come_53 rfl (lv_at hl 3 rfl) ?_
    refine hp_get hx hb hts iw_Md hown hK hH hm.1 rfl 1 (by decide) (hts _ kw_147) (v := .ref (ad 0)) rfl d_Md_come_54 ?_
    refine lv_iload_n hx hb d_Md_come_57 rfl (lv_at hl 2 rfl) ?_
    refine hp_iald hx hb hK hH (show M_22 (ad 0) = some (hp_ai D 8 (ct 0)) from hm.2.1 0 (by decide) (by decide) (by decide)) (sg_co c) rfl c2 (by decide) (v := nI (sg_qu σ (sg_co c)).length) hm0 d_Md_come_58 ?_
    refine lv_iadd hx hb d_Md_come_59 ?_
    refine hp_ioi (md_ix512 (sg_co c) (sg_qu σ (sg_co c)).length) ?_
    refine lv_istore (lv' := [(6, .int (nI (512 * (sg_co c) + (sg_qu σ (sg_co c)).length))), (4, .long (sg_time σ (sg_co c) (sg_cg c))), (3, .int (nI (sg_cg c))), (2, .int (nI (sg_co c))), (0, .ref b), (1, .int (nI i))]) hx hb d_Md_come_60 hl (by decide) rfl (fun ls hl => ?_)
    exact Lp _ _ (by show sg_time σ (sg_co c) (sg_cg c) = if (sg_kd σ (sg_co c)) = 2 then _ else _; rw [if_pos c_18]) (mo_h9 hR c3 c_18) _ M_22 _ _ ls ct _ (Nat.le_refl _) hm hf (mo_up_0 rfl) rfl (fun j e hj he => absurd (List.getElem?_eq_some_iff.mp he).1 (by omega)) hH hS (lv_sub hl [0, 1, 2, 3, 4, 5] rfl)
