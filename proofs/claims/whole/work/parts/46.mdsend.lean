
theorem d_Md_send_0 : decode b_Md_send 0 = .ok (.aload_n 0, 1) := by decide +kernel
theorem d_Md_send_1 : decode b_Md_send 1 = .ok (.getfield 53, 3) := by decide +kernel
theorem d_Md_send_4 : decode b_Md_send 4 = .ok (.iload_n 1, 1) := by decide +kernel
theorem d_Md_send_5 : decode b_Md_send 5 = .ok (.iconst (-1), 1) := by decide +kernel
theorem d_Md_send_6 : decode b_Md_send 6 = .ok (.iastore, 1) := by decide +kernel
theorem d_Md_send_7 : decode b_Md_send 7 = .ok (.aload_n 0, 1) := by decide +kernel
theorem d_Md_send_8 : decode b_Md_send 8 = .ok (.getfield 7, 3) := by decide +kernel
theorem d_Md_send_11 : decode b_Md_send 11 = .ok (.iload_n 1, 1) := by decide +kernel
theorem d_Md_send_12 : decode b_Md_send 12 = .ok (.iaload, 1) := by decide +kernel
theorem d_Md_send_13 : decode b_Md_send 13 = .ok (.ifCond .ne 5, 3) := by decide +kernel
theorem d_Md_send_16 : decode b_Md_send 16 = .ok (.iconst 0, 1) := by decide +kernel
theorem d_Md_send_17 : decode b_Md_send 17 = .ok (.ireturn, 1) := by decide +kernel
theorem d_Md_send_18 : decode b_Md_send 18 = .ok (.sipush 512, 3) := by decide +kernel
theorem d_Md_send_21 : decode b_Md_send 21 = .ok (.iload_n 1, 1) := by decide +kernel
theorem d_Md_send_22 : decode b_Md_send 22 = .ok (.imul, 1) := by decide +kernel
theorem d_Md_send_23 : decode b_Md_send 23 = .ok (.istore_n 2, 1) := by decide +kernel
theorem d_Md_send_24 : decode b_Md_send 24 = .ok (.aload_n 0, 1) := by decide +kernel
theorem d_Md_send_25 : decode b_Md_send 25 = .ok (.getfield 53, 3) := by decide +kernel
theorem d_Md_send_28 : decode b_Md_send 28 = .ok (.iload_n 1, 1) := by decide +kernel
theorem d_Md_send_29 : decode b_Md_send 29 = .ok (.aload_n 0, 1) := by decide +kernel
theorem d_Md_send_30 : decode b_Md_send 30 = .ok (.getfield 13, 3) := by decide +kernel
theorem d_Md_send_33 : decode b_Md_send 33 = .ok (.iload_n 2, 1) := by decide +kernel
theorem d_Md_send_34 : decode b_Md_send 34 = .ok (.iaload, 1) := by decide +kernel
theorem d_Md_send_35 : decode b_Md_send 35 = .ok (.iastore, 1) := by decide +kernel
theorem d_Md_send_36 : decode b_Md_send 36 = .ok (.aload_n 0, 1) := by decide +kernel
theorem d_Md_send_37 : decode b_Md_send 37 = .ok (.getfield 56, 3) := by decide +kernel
theorem d_Md_send_40 : decode b_Md_send 40 = .ok (.iload_n 1, 1) := by decide +kernel
theorem d_Md_send_41 : decode b_Md_send 41 = .ok (.aload_n 0, 1) := by decide +kernel
theorem d_Md_send_42 : decode b_Md_send 42 = .ok (.getfield 19, 3) := by decide +kernel
theorem d_Md_send_45 : decode b_Md_send 45 = .ok (.iload_n 2, 1) := by decide +kernel
theorem d_Md_send_46 : decode b_Md_send 46 = .ok (.iaload, 1) := by decide +kernel
theorem d_Md_send_47 : decode b_Md_send 47 = .ok (.iastore, 1) := by decide +kernel
theorem d_Md_send_48 : decode b_Md_send 48 = .ok (.aload_n 0, 1) := by decide +kernel
theorem d_Md_send_49 : decode b_Md_send 49 = .ok (.getfield 59, 3) := by decide +kernel
theorem d_Md_send_52 : decode b_Md_send 52 = .ok (.iload_n 1, 1) := by decide +kernel
theorem d_Md_send_53 : decode b_Md_send 53 = .ok (.aload_n 0, 1) := by decide +kernel
theorem d_Md_send_54 : decode b_Md_send 54 = .ok (.getfield 85, 3) := by decide +kernel
theorem d_Md_send_57 : decode b_Md_send 57 = .ok (.aload_n 0, 1) := by decide +kernel
theorem d_Md_send_58 : decode b_Md_send 58 = .ok (.getfield 26, 3) := by decide +kernel
theorem d_Md_send_61 : decode b_Md_send 61 = .ok (.iload_n 2, 1) := by decide +kernel
theorem d_Md_send_62 : decode b_Md_send 62 = .ok (.iaload, 1) := by decide +kernel
theorem d_Md_send_63 : decode b_Md_send 63 = .ok (.isub, 1) := by decide +kernel
theorem d_Md_send_64 : decode b_Md_send 64 = .ok (.iastore, 1) := by decide +kernel
theorem d_Md_send_65 : decode b_Md_send 65 = .ok (.aload_n 0, 1) := by decide +kernel
theorem d_Md_send_66 : decode b_Md_send 66 = .ok (.getfield 7, 3) := by decide +kernel
theorem d_Md_send_69 : decode b_Md_send 69 = .ok (.iload_n 1, 1) := by decide +kernel
theorem d_Md_send_70 : decode b_Md_send 70 = .ok (.dup2, 1) := by decide +kernel
theorem d_Md_send_71 : decode b_Md_send 71 = .ok (.iaload, 1) := by decide +kernel
theorem d_Md_send_72 : decode b_Md_send 72 = .ok (.iconst 1, 1) := by decide +kernel
theorem d_Md_send_73 : decode b_Md_send 73 = .ok (.isub, 1) := by decide +kernel
theorem d_Md_send_74 : decode b_Md_send 74 = .ok (.iastore, 1) := by decide +kernel
theorem d_Md_send_75 : decode b_Md_send 75 = .ok (.iload_n 2, 1) := by decide +kernel
theorem d_Md_send_76 : decode b_Md_send 76 = .ok (.istore_n 3, 1) := by decide +kernel
theorem d_Md_send_77 : decode b_Md_send 77 = .ok (.iload_n 3, 1) := by decide +kernel
theorem d_Md_send_78 : decode b_Md_send 78 = .ok (.iload_n 2, 1) := by decide +kernel
theorem d_Md_send_79 : decode b_Md_send 79 = .ok (.aload_n 0, 1) := by decide +kernel
theorem d_Md_send_80 : decode b_Md_send 80 = .ok (.getfield 7, 3) := by decide +kernel
theorem d_Md_send_83 : decode b_Md_send 83 = .ok (.iload_n 1, 1) := by decide +kernel
theorem d_Md_send_84 : decode b_Md_send 84 = .ok (.iaload, 1) := by decide +kernel
theorem d_Md_send_85 : decode b_Md_send 85 = .ok (.iadd, 1) := by decide +kernel
theorem d_Md_send_86 : decode b_Md_send 86 = .ok (.if_icmp .ge 17, 3) := by decide +kernel
theorem d_Md_send_89 : decode b_Md_send 89 = .ok (.aload_n 0, 1) := by decide +kernel
theorem d_Md_send_90 : decode b_Md_send 90 = .ok (.iload_n 3, 1) := by decide +kernel
theorem d_Md_send_91 : decode b_Md_send 91 = .ok (.iconst 1, 1) := by decide +kernel
theorem d_Md_send_92 : decode b_Md_send 92 = .ok (.iadd, 1) := by decide +kernel
theorem d_Md_send_93 : decode b_Md_send 93 = .ok (.iload_n 3, 1) := by decide +kernel
theorem d_Md_send_94 : decode b_Md_send 94 = .ok (.invokevirtual 97, 3) := by decide +kernel
theorem d_Md_send_97 : decode b_Md_send 97 = .ok (.iinc 3 1, 3) := by decide +kernel
theorem d_Md_send_100 : decode b_Md_send 100 = .ok (.goto (-23), 3) := by decide +kernel
theorem d_Md_send_103 : decode b_Md_send 103 = .ok (.iconst 0, 1) := by decide +kernel
theorem d_Md_send_104 : decode b_Md_send 104 = .ok (.istore_n 3, 1) := by decide +kernel
theorem d_Md_send_105 : decode b_Md_send 105 = .ok (.iload_n 3, 1) := by decide +kernel
theorem d_Md_send_106 : decode b_Md_send 106 = .ok (.bipush 8, 2) := by decide +kernel
theorem d_Md_send_108 : decode b_Md_send 108 = .ok (.if_icmp .ge 30, 3) := by decide +kernel
theorem d_Md_send_111 : decode b_Md_send 111 = .ok (.aload_n 0, 1) := by decide +kernel
theorem d_Md_send_112 : decode b_Md_send 112 = .ok (.getfield 7, 3) := by decide +kernel
theorem d_Md_send_115 : decode b_Md_send 115 = .ok (.iload_n 1, 1) := by decide +kernel
theorem d_Md_send_116 : decode b_Md_send 116 = .ok (.iaload, 1) := by decide +kernel
theorem d_Md_send_117 : decode b_Md_send 117 = .ok (.ifCond .ne 21, 3) := by decide +kernel
theorem d_Md_send_120 : decode b_Md_send 120 = .ok (.aload_n 0, 1) := by decide +kernel
theorem d_Md_send_121 : decode b_Md_send 121 = .ok (.getfield 38, 3) := by decide +kernel
theorem d_Md_send_124 : decode b_Md_send 124 = .ok (.bipush 8, 2) := by decide +kernel
theorem d_Md_send_126 : decode b_Md_send 126 = .ok (.iload_n 1, 1) := by decide +kernel
theorem d_Md_send_127 : decode b_Md_send 127 = .ok (.imul, 1) := by decide +kernel
theorem d_Md_send_128 : decode b_Md_send 128 = .ok (.iload_n 3, 1) := by decide +kernel
theorem d_Md_send_129 : decode b_Md_send 129 = .ok (.iadd, 1) := by decide +kernel
theorem d_Md_send_130 : decode b_Md_send 130 = .ok (.lconst 0, 1) := by decide +kernel
theorem d_Md_send_131 : decode b_Md_send 131 = .ok (.lastore, 1) := by decide +kernel
theorem d_Md_send_132 : decode b_Md_send 132 = .ok (.iinc 3 1, 3) := by decide +kernel
theorem d_Md_send_135 : decode b_Md_send 135 = .ok (.goto (-30), 3) := by decide +kernel
theorem d_Md_send_138 : decode b_Md_send 138 = .ok (.iconst 1, 1) := by decide +kernel
theorem d_Md_send_139 : decode b_Md_send 139 = .ok (.ireturn, 1) := by decide +kernel
abbrev rm_Md_send : Room := { frames := 1, cells := 0, slots := 0, locals := 22 }
set_option maxHeartbeats 4000000 in
set_option maxRecDepth 100000 in
theorem cn_Md_send (l : Launch) (D : va_G) (B : Nat) (M : hp_M) (b : Nat) (ad : Nat → Nat) (th of sl : Int32) (ct : Nat → Nat → Int32) (cl : Nat → Nat → Int64) (σ : sg_S) (tk : Nat → Int32) (o : Nat) (hm : md_H D M b ad th of sl ct cl) (hR : mo_R σ tk of sl ct cl) (hinv : sg_inv σ) (hac : sg_ac σ ≤ 512) (ho8 : o < 8) : Met l y_Md_send (wd_c y_Md_send b_Md_send 4 (some .int)) rm_Md_send (va_Pc [.ref b, .int (nI o)] (hp_C D B M)) (va_Qi (fun (r : Int32) (M1 : hp_M) => ∃ (ct' : Nat → Nat → Int32) (cl' : Nat → Nat → Int64), md_H D M1 b ad th of sl ct' cl' ∧ md_fr b ad M M1 ∧ r = (if sg_qu σ o = [] then 0 else 1) ∧ mo_R (sg_send σ o) (va_up tk o sl) of sl ct' cl') (hp_C D B) (hp_ub B)) 0 0 (hp_ub B) := by
  rcases hq : sg_qu σ o with _ | ⟨c, cs⟩
  · refine hp_met (by decide) (Nat.le_of_ble_eq_true rfl) ?_
    intro p e s m args below meth cd ls Q hQ hx hb hr hts hown hlocks hnm hml hK hH hS hB hl
    replace hl : lv_has ls 4 [(0, .ref b), (1, .int (nI o))] := hl
    have hf : md_fr b ad M M := md_fr_rf
    have hm0 := (hR.2.2.1 o ho8).1
    refine lv_aload_n hx hb d_Md_send_0 rfl (lv_at hl 0 rfl) ?_
    refine hp_get hx hb hts iw_Md hown hK hH hm.1 rfl 17 (by decide) (hts _ kw_140) (v := .ref (ad 14)) rfl d_Md_send_1 ?_
    refine lv_iload_n hx hb d_Md_send_4 rfl (lv_at hl 1 rfl) ?_
    refine lv_iconst (v := (-1)) hx hb d_Md_send_5 (by decide) ?_
    refine hp_iast hx hb hK hH hS hB (show M (ad 14) = some (hp_ai D 8 (ct 14)) from hm.2.1 14 (by decide) (by decide) (by decide)) o rfl ho8 (by decide) d_Md_send_6 (fun M_1 H locs eM_1 hH hS => ?_)
    have hm := md_pi hm (j := 14) (by decide) (by decide) (by decide) eM_1
    have hf := md_fr_a (j := 14) (by decide) hf eM_1
    refine lv_aload_n hx hb d_Md_send_7 rfl (lv_at hl 0 rfl) ?_
    refine hp_get hx hb hts iw_Md hown hK hH hm.1 rfl 1 (by decide) (hts _ kw_147) (v := .ref (ad 0)) rfl d_Md_send_8 ?_
    refine lv_iload_n hx hb d_Md_send_11 rfl (lv_at hl 1 rfl) ?_
    refine hp_iald hx hb hK hH (show M_1 (ad 0) = some (hp_ai D 8 (ct 0)) from hm.2.1 0 (by decide) (by decide) (by decide)) o rfl ho8 (by decide) (v := 0) (by rw [hm0, hq]; rfl) d_Md_send_12 ?_
    refine lv_if_ne (tgt := 18) hx hb d_Md_send_13 (by decide) (fun c_2 => absurd rfl c_2) (fun c_2 => ?_)
    refine lv_iconst (v := 0) hx hb d_Md_send_16 (by decide) ?_
    exact hp_iret hx hb hr hlocks hQ hK hH hS (Nat.le_of_ble_eq_true rfl) (Nat.le_of_ble_eq_true rfl) d_Md_send_17 ⟨_, _, hm, hf, by rw [if_pos rfl], by rw [sg_send_nil hq]; exact mo_R_send0 hR⟩
  · refine hp_met (by decide) (Nat.le_of_ble_eq_true rfl) ?_
    intro p e s m args below meth cd ls Q hQ hx hb hr hts hown hlocks hnm hml hK hH hS hB hl
    replace hl : lv_has ls 4 [(0, .ref b), (1, .int (nI o))] := hl
    have hf : md_fr b ad M M := md_fr_rf
    obtain ⟨hm0, hk7, hw8, hrow, -⟩ := hR.2.2.1 o ho8
    have hlen := sg_len_le hinv ho8
    rw [hq] at hm0 hlen hrow
    replace hm0 : ct 0 o = nI (cs.length + 1) := hm0
    replace hlen : cs.length + 1 ≤ sg_ac σ := hlen
    obtain ⟨hr1, hr2, hr3, hr4, hr5, hr6⟩ := mo_rw (hrow 0 c rfl)
    have L2 : cs = [] → ∀ (n g : Nat) (M3 : hp_M) (H : Heap) (locs : List Loc) (ls : Array Slot) (ct1 : Nat → Nat → Int32) (cl2 : Nat → Nat → Int64), g + n = 8 → md_H D M3 b ad th of sl ct1 cl2 → md_fr b ad M M3 → mo_dn ct ct1 cl cl2 o cs.length → (∀ x, x = 0 ∨ 7 ≤ x → ct1 x = (va_up (va_up (va_up (va_up (va_up ct 14 (upd (ct 14) o (-1))) 14 (upd (upd (ct 14) o (-1)) o (nI (sg_ci c)))) 15 (upd (ct 15) o (sg_ct c))) 16 (upd (ct 16) o (sl - (sg_cc c)))) 0 (upd (ct 0) o (nI cs.length))) x) → (∀ x, x < 8 * o + g → 8 * o ≤ x → cl2 9 x = 0) → (∀ x, x < 8 * o ∨ 8 * o + g ≤ x → cl2 9 x = cl 9 x) → hp_H D B M3 H → va_S (hp_ub B) s.heap H locs → lv_has ls 4 [(3, .int (nI g)), (2, .int (nI (512 * o))), (0, .ref b), (1, .int (nI o))] → W p l e rm_Md_send s m args below meth cd H locs 0 0 Q (F0 m 105 ls []) := by
      intro hnil n
      induction n with
      | zero =>
        intro g M3 H locs ls ct1 cl2 hn hm hf hdn hct q1 q2 hH hS hl
        have hz0 : ct1 0 o = 0 := by rw [hct 0 (by decide)]; show upd (ct 0) o (nI cs.length) o = 0; rw [pk_us, hnil]; rfl
        refine lv_iload_n hx hb d_Md_send_105 rfl (lv_at hl 0 rfl) ?_
        refine lv_bipush (v := 8) hx hb d_Md_send_106 (by decide) ?_
        refine lv_icmp_ge (tgt := 138) hx hb d_Md_send_108 (by decide) (fun c_1 => ?_) (fun c_1 => absurd (nI_le (a := 8) (by omega) (by omega)) c_1)
        refine lv_iconst (v := 1) hx hb d_Md_send_138 (by decide) ?_
        exact hp_iret hx hb hr hlocks hQ hK hH hS (Nat.le_of_ble_eq_true rfl) (Nat.le_of_ble_eq_true rfl) d_Md_send_139 ⟨_, _, hm, hf, by rw [if_neg (by intro w; cases w)], by rw [sg_send_cons hq]; exact mo_R_send1 hR hinv hac ho8 hq hdn (hct 0 (by decide)) (fun j hj => by rcases hj with rfl | rfl | rfl | rfl | rfl | rfl <;> exact hct _ (by decide)) (hct 14 (by decide)) (hct 15 (by decide)) (hct 16 (by decide)) (fun x g' hx hg => by by_cases w : x = o; rw [if_pos ⟨hnil, w⟩, w]; exact q1 _ (by omega) (by omega); rw [if_neg (fun z => w z.2)]; exact q2 _ (by omega))⟩
      | succ n ih =>
        intro g M3 H locs ls ct1 cl2 hn hm hf hdn hct q1 q2 hH hS hl
        have hz0 : ct1 0 o = 0 := by rw [hct 0 (by decide)]; show upd (ct 0) o (nI cs.length) o = 0; rw [pk_us, hnil]; rfl
        refine lv_iload_n hx hb d_Md_send_105 rfl (lv_at hl 0 rfl) ?_
        refine lv_bipush (v := 8) hx hb d_Md_send_106 (by decide) ?_
        refine lv_icmp_ge (tgt := 138) hx hb d_Md_send_108 (by decide) (fun c_2 => absurd c_2 (nI_ge (b := 8) (by omega) (by omega))) (fun c_2 => ?_)
        refine lv_aload_n hx hb d_Md_send_111 rfl (lv_at hl 2 rfl) ?_
        refine hp_get hx hb hts iw_Md hown hK hH hm.1 rfl 1 (by decide) (hts _ kw_147) (v := .ref (ad 0)) rfl d_Md_send_112 ?_
        refine lv_iload_n hx hb d_Md_send_115 rfl (lv_at hl 3 rfl) ?_
        refine hp_iald hx hb hK hH (show M3 (ad 0) = some (hp_ai D 8 (ct1 0)) from hm.2.1 0 (by decide) (by decide) (by decide)) o rfl ho8 (by decide) (v := 0) hz0 d_Md_send_116 ?_
        refine lv_if_ne (tgt := 138) hx hb d_Md_send_117 (by decide) (fun c_3 => absurd rfl c_3) (fun c_3 => ?_)
        refine lv_aload_n hx hb d_Md_send_120 rfl (lv_at hl 2 rfl) ?_
        refine hp_get hx hb hts iw_Md hown hK hH hm.1 rfl 10 (by decide) (hts _ kw_170) (v := .ref (ad 9)) rfl d_Md_send_121 ?_
        refine lv_bipush (v := 8) hx hb d_Md_send_124 (by decide) ?_
        refine lv_iload_n hx hb d_Md_send_126 rfl (lv_at hl 3 rfl) ?_
        refine lv_imul hx hb d_Md_send_127 ?_
        refine lv_iload_n hx hb d_Md_send_128 rfl (lv_at hl 0 rfl) ?_
        refine lv_iadd hx hb d_Md_send_129 ?_
        refine lv_lconst (v := 0) hx hb d_Md_send_130 (by decide) ?_
        refine hp_last hx hb hK hH hS hB (show M3 (ad 9) = some (hp_al D 64 (cl2 9)) from hm.2.2.1 9 (by decide)) (8 * o + g) (md_ix8 o g) (by omega) (by decide) d_Md_send_131 (fun M_4 H locs eM_4 hH hS => ?_)
        have hm := md_pl hm (j := 9) (by decide) eM_4
        have hf := md_fr_a (j := 9) (by decide) hf eM_4
        refine lv_iinc (v := nI (g + 1)) (lv' := [(3, .int (nI (g + 1))), (2, .int (nI (512 * o))), (0, .ref b), (1, .int (nI o))]) hx hb d_Md_send_132 hl (k := 0) rfl (nI_1 g) (by decide) rfl (fun ls hl => ?_)
        refine lv_goto (tgt := 105) hx hb d_Md_send_135 (by decide) ?_
        exact ih (g + 1) M_4 _ _ ls ct1 _ (by omega) hm hf hdn hct (fun x a1 a2 => by by_cases w : x = 8 * o + g; rw [w]; exact pk_uLs; exact (pk_uLn w).trans (q1 x (by omega) a2)) (fun x a1 => (pk_uLn (by omega)).trans (q2 x (by omega))) hH hS (lv_sub hl [0, 1, 2, 3] rfl)
    have Ex : ∀ (M3 : hp_M) (H : Heap) (locs : List Loc) (ls : Array Slot) (ct1 : Nat → Nat → Int32) (cl2 : Nat → Nat → Int64), md_H D M3 b ad th of sl ct1 cl2 → md_fr b ad M M3 → mo_dn ct ct1 cl cl2 o cs.length → (∀ x, x = 0 ∨ 7 ≤ x → ct1 x = (va_up (va_up (va_up (va_up (va_up ct 14 (upd (ct 14) o (-1))) 14 (upd (upd (ct 14) o (-1)) o (nI (sg_ci c)))) 15 (upd (ct 15) o (sg_ct c))) 16 (upd (ct 16) o (sl - (sg_cc c)))) 0 (upd (ct 0) o (nI cs.length))) x) → cl2 9 = cl 9 → hp_H D B M3 H → va_S (hp_ub B) s.heap H locs → lv_has ls 4 [(3, .int (nI (512 * o + cs.length))), (2, .int (nI (512 * o))), (0, .ref b), (1, .int (nI o))] → W p l e rm_Md_send s m args below meth cd H locs 0 0 Q (F0 m 103 ls []) := by
      intro M3 H locs ls ct1 cl2 hm hf hdn hct h9 hH hS hl
      by_cases hnn : cs = []
      · refine lv_iconst (v := 0) hx hb d_Md_send_103 (by decide) ?_
        refine lv_istore_n (lv' := [(3, .int 0), (2, .int (nI (512 * o))), (0, .ref b), (1, .int (nI o))]) hx hb d_Md_send_104 rfl hl (by decide) rfl (fun ls hl => ?_)
        exact L2 hnn 8 0 M3 _ _ ls ct1 cl2 (by omega) hm hf hdn hct (fun x a1 a2 => by omega) (fun x _ => by rw [h9]) hH hS (lv_sub hl [0, 1, 2, 3] rfl)
      · have hz0 : ct1 0 o = nI cs.length := by rw [hct 0 (by decide)]; exact pk_us
        have hcl : cs.length ≠ 0 := fun w => hnn (List.eq_nil_of_length_eq_zero w)
        refine lv_iconst (v := 0) hx hb d_Md_send_103 (by decide) ?_
        refine lv_istore_n (lv' := [(3, .int 0), (2, .int (nI (512 * o))), (0, .ref b), (1, .int (nI o))]) hx hb d_Md_send_104 rfl hl (by decide) rfl (fun ls hl => ?_)
        refine lv_iload_n hx hb d_Md_send_105 rfl (lv_at hl 0 rfl) ?_
        refine lv_bipush (v := 8) hx hb d_Md_send_106 (by decide) ?_
        refine lv_icmp_ge (tgt := 138) hx hb d_Md_send_108 (by decide) (fun c_5 => absurd c_5 (by decide)) (fun c_5 => ?_)
        refine lv_aload_n hx hb d_Md_send_111 rfl (lv_at hl 2 rfl) ?_
        refine hp_get hx hb hts iw_Md hown hK hH hm.1 rfl 1 (by decide) (hts _ kw_147) (v := .ref (ad 0)) rfl d_Md_send_112 ?_
        refine lv_iload_n hx hb d_Md_send_115 rfl (lv_at hl 3 rfl) ?_
        refine hp_iald hx hb hK hH (show M3 (ad 0) = some (hp_ai D 8 (ct1 0)) from hm.2.1 0 (by decide) (by decide) (by decide)) o rfl ho8 (by decide) (v := nI cs.length) hz0 d_Md_send_116 ?_
        refine lv_if_ne (tgt := 138) hx hb d_Md_send_117 (by decide) (fun c_6 => ?_) (fun c_6 => absurd c_6 (nI_ne0 (by omega) (by omega)))
        refine lv_iconst (v := 1) hx hb d_Md_send_138 (by decide) ?_
        exact hp_iret hx hb hr hlocks hQ hK hH hS (Nat.le_of_ble_eq_true rfl) (Nat.le_of_ble_eq_true rfl) d_Md_send_139 ⟨_, _, hm, hf, by rw [if_neg (by intro w; cases w)], by rw [sg_send_cons hq]; exact mo_R_send1 hR hinv hac ho8 hq hdn (hct 0 (by decide)) (fun j hj => by rcases hj with rfl | rfl | rfl | rfl | rfl | rfl <;> exact hct _ (by decide)) (hct 14 (by decide)) (hct 15 (by decide)) (hct 16 (by decide)) (fun x g' hx hg => by rw [if_neg (fun z => hnn z.1), h9])⟩
    have Lp : ∀ (n j : Nat) (M3 : hp_M) (H : Heap) (locs : List Loc) (ls : Array Slot) (ct1 : Nat → Nat → Int32) (cl2 : Nat → Nat → Int64), j + n = cs.length → md_H D M3 b ad th of sl ct1 cl2 → md_fr b ad M M3 → mo_dn ct ct1 cl cl2 o j → (∀ x, x = 0 ∨ 7 ≤ x → ct1 x = (va_up (va_up (va_up (va_up (va_up ct 14 (upd (ct 14) o (-1))) 14 (upd (upd (ct 14) o (-1)) o (nI (sg_ci c)))) 15 (upd (ct 15) o (sg_ct c))) 16 (upd (ct 16) o (sl - (sg_cc c)))) 0 (upd (ct 0) o (nI cs.length))) x) → cl2 9 = cl 9 → hp_H D B M3 H → va_S (hp_ub B) s.heap H locs → lv_has ls 4 [(3, .int (nI (512 * o + j))), (2, .int (nI (512 * o))), (0, .ref b), (1, .int (nI o))] → W p l e rm_Md_send s m args below meth cd H locs 0 0 Q (F0 m 77 ls []) := by
      intro n
      induction n with
      | zero =>
        intro j M3 H locs ls ct1 cl2 hn hm hf hdn hct h9 hH hS hl
        have hz0 : ct1 0 o = nI cs.length := by rw [hct 0 (by decide)]; exact pk_us
        refine lv_iload_n hx hb d_Md_send_77 rfl (lv_at hl 0 rfl) ?_
        refine lv_iload_n hx hb d_Md_send_78 rfl (lv_at hl 1 rfl) ?_
        refine lv_aload_n hx hb d_Md_send_79 rfl (lv_at hl 2 rfl) ?_
        refine hp_get hx hb hts iw_Md hown hK hH hm.1 rfl 1 (by decide) (hts _ kw_147) (v := .ref (ad 0)) rfl d_Md_send_80 ?_
        refine lv_iload_n hx hb d_Md_send_83 rfl (lv_at hl 3 rfl) ?_
        refine hp_iald hx hb hK hH (show M3 (ad 0) = some (hp_ai D 8 (ct1 0)) from hm.2.1 0 (by decide) (by decide) (by decide)) o rfl ho8 (by decide) (v := nI cs.length) hz0 d_Md_send_84 ?_
        refine lv_iadd hx hb d_Md_send_85 ?_
        refine hp_ioi (nI_add _ _) ?_
        refine lv_icmp_ge (tgt := 103) hx hb d_Md_send_86 (by decide) (fun c_7 => ?_) (fun c_7 => absurd (nI_le (by omega) (by omega)) c_7)
        have ej : j = cs.length := by omega
        subst ej
        exact Ex M3 _ _ ls ct1 cl2 hm hf hdn hct h9 hH hS (lv_sub hl [0, 1, 2, 3] rfl)
      | succ n ih =>
        intro j M3 H locs ls ct1 cl2 hn hm hf hdn hct h9 hH hS hl
        have hz0 : ct1 0 o = nI cs.length := by rw [hct 0 (by decide)]; exact pk_us
        refine lv_iload_n hx hb d_Md_send_77 rfl (lv_at hl 0 rfl) ?_
        refine lv_iload_n hx hb d_Md_send_78 rfl (lv_at hl 1 rfl) ?_
        refine lv_aload_n hx hb d_Md_send_79 rfl (lv_at hl 2 rfl) ?_
        refine hp_get hx hb hts iw_Md hown hK hH hm.1 rfl 1 (by decide) (hts _ kw_147) (v := .ref (ad 0)) rfl d_Md_send_80 ?_
        refine lv_iload_n hx hb d_Md_send_83 rfl (lv_at hl 3 rfl) ?_
        refine hp_iald hx hb hK hH (show M3 (ad 0) = some (hp_ai D 8 (ct1 0)) from hm.2.1 0 (by decide) (by decide) (by decide)) o rfl ho8 (by decide) (v := nI cs.length) hz0 d_Md_send_84 ?_
        refine lv_iadd hx hb d_Md_send_85 ?_
        refine hp_ioi (nI_add _ _) ?_
        refine lv_icmp_ge (tgt := 103) hx hb d_Md_send_86 (by decide) (fun c_8 => absurd c_8 (nI_ge (by omega) (by omega))) (fun c_8 => ?_)
        refine lv_aload_n hx hb d_Md_send_89 rfl (lv_at hl 2 rfl) ?_
        refine lv_iload_n hx hb d_Md_send_90 rfl (lv_at hl 0 rfl) ?_
        refine lv_iconst (v := 1) hx hb d_Md_send_91 (by decide) ?_
        refine lv_iadd hx hb d_Md_send_92 ?_
        refine hp_ioi (nI_1 _) ?_
        refine lv_iload_n hx hb d_Md_send_93 rfl (lv_at hl 0 rfl) ?_
        refine hp_callv (hp_runV (b := b) (As := [.int (nI (512 * o + j + 1)), .int (nI (512 * o + j))]) (rest := []) hx hb hml hown (cn_Md_copy l D B M3 b ad th of sl ct1 cl2 (512 * o + j + 1) (512 * o + j) hm (by omega) (by omega)) (hp_cwV 2 hts kw_186 kw_188 kw_189 kw_137 kw_187 rfl rfl (by decide +kernel) ⟨(Nat.le_of_ble_eq_true rfl), (Nat.le_of_ble_eq_true rfl)⟩) hK hH hm.1 rfl rfl hl.1 rfl (Nat.le_of_ble_eq_true rfl) d_Md_send_94 ⟨(Nat.le_of_ble_eq_true rfl), (Nat.le_of_ble_eq_true rfl)⟩) hS (fun M_10 H locs w_11 hH hS => ?_)
        obtain ⟨ct2, cl3, hm', hf', cp1, cp2, cp3⟩ := w_11
        refine lv_iinc (v := nI ((512 * o + j) + 1)) (lv' := [(3, .int (nI ((512 * o + j) + 1))), (2, .int (nI (512 * o))), (0, .ref b), (1, .int (nI o))]) hx hb d_Md_send_97 hl (k := 0) rfl (nI_1 (512 * o + j)) (by decide) rfl (fun ls hl => ?_)
        refine lv_goto (tgt := 77) hx hb d_Md_send_100 (by decide) ?_
        exact ih (j + 1) M_10 _ _ ls _ _ (by omega) hm' (md_fr_tr hf hf') (mo_dn_s hdn cp1) (fun x hx => (cp2 x hx).trans (hct x hx)) (cp3.trans h9) hH hS (lv_sub hl [0, 1, 2, 3] rfl)
    refine lv_aload_n hx hb d_Md_send_0 rfl (lv_at hl 0 rfl) ?_
    refine hp_get hx hb hts iw_Md hown hK hH hm.1 rfl 17 (by decide) (hts _ kw_140) (v := .ref (ad 14)) rfl d_Md_send_1 ?_
    refine lv_iload_n hx hb d_Md_send_4 rfl (lv_at hl 1 rfl) ?_
    refine lv_iconst (v := (-1)) hx hb d_Md_send_5 (by decide) ?_
    refine hp_iast hx hb hK hH hS hB (show M (ad 14) = some (hp_ai D 8 (ct 14)) from hm.2.1 14 (by decide) (by decide) (by decide)) o rfl ho8 (by decide) d_Md_send_6 (fun M_12 H locs eM_12 hH hS => ?_)
    have hm := md_pi hm (j := 14) (by decide) (by decide) (by decide) eM_12
    have hf := md_fr_a (j := 14) (by decide) hf eM_12
    refine lv_aload_n hx hb d_Md_send_7 rfl (lv_at hl 0 rfl) ?_
    refine hp_get hx hb hts iw_Md hown hK hH hm.1 rfl 1 (by decide) (hts _ kw_147) (v := .ref (ad 0)) rfl d_Md_send_8 ?_
    refine lv_iload_n hx hb d_Md_send_11 rfl (lv_at hl 1 rfl) ?_
    refine hp_iald hx hb hK hH (show M_12 (ad 0) = some (hp_ai D 8 (ct 0)) from hm.2.1 0 (by decide) (by decide) (by decide)) o rfl ho8 (by decide) (v := nI (cs.length + 1)) hm0 d_Md_send_12 ?_
    refine lv_if_ne (tgt := 18) hx hb d_Md_send_13 (by decide) (fun c_13 => ?_) (fun c_13 => absurd c_13 (nI_ne0 (Nat.succ_pos _) (by omega)))
    refine lv_sipush (v := 512) hx hb d_Md_send_18 (by decide) ?_
    refine lv_iload_n hx hb d_Md_send_21 rfl (lv_at hl 1 rfl) ?_
    refine lv_imul hx hb d_Md_send_22 ?_
    refine hp_ioi (md_s512 o) ?_
    refine lv_istore_n (lv' := [(2, .int (nI (512 * o))), (0, .ref b), (1, .int (nI o))]) hx hb d_Md_send_23 rfl hl (by decide) rfl (fun ls hl => ?_)
    refine lv_aload_n hx hb d_Md_send_24 rfl (lv_at hl 1 rfl) ?_
    refine hp_get hx hb hts iw_Md hown hK hH hm.1 rfl 17 (by decide) (hts _ kw_140) (v := .ref (ad 14)) rfl d_Md_send_25 ?_
    refine lv_iload_n hx hb d_Md_send_28 rfl (lv_at hl 2 rfl) ?_
    refine lv_aload_n hx hb d_Md_send_29 rfl (lv_at hl 1 rfl) ?_
    refine hp_get hx hb hts iw_Md hown hK hH hm.1 rfl 2 (by decide) (hts _ kw_152) (v := .ref (ad 1)) rfl d_Md_send_30 ?_
    refine lv_iload_n hx hb d_Md_send_33 rfl (lv_at hl 0 rfl) ?_
    refine hp_iald hx hb hK hH (show M_12 (ad 1) = some (hp_ai D 4096 (ct 1)) from hm.2.1 1 (by decide) (by decide) (by decide)) (512 * o) rfl (by omega) (by decide) (v := nI (sg_ci c)) hr1 d_Md_send_34 ?_
    refine hp_iast hx hb hK hH hS hB (show M_12 (ad 14) = some (hp_ai D 8 (upd (ct 14) o (-1))) from hm.2.1 14 (by decide) (by decide) (by decide)) o rfl ho8 (by decide) d_Md_send_35 (fun M_14 H locs eM_14 hH hS => ?_)
    have hm := md_pi hm (j := 14) (by decide) (by decide) (by decide) eM_14
    have hf := md_fr_a (j := 14) (by decide) hf eM_14
    refine lv_aload_n hx hb d_Md_send_36 rfl (lv_at hl 1 rfl) ?_
    refine hp_get hx hb hts iw_Md hown hK hH hm.1 rfl 18 (by decide) (hts _ kw_145) (v := .ref (ad 15)) rfl d_Md_send_37 ?_
    refine lv_iload_n hx hb d_Md_send_40 rfl (lv_at hl 2 rfl) ?_
    refine lv_aload_n hx hb d_Md_send_41 rfl (lv_at hl 1 rfl) ?_
    refine hp_get hx hb hts iw_Md hown hK hH hm.1 rfl 4 (by decide) (hts _ kw_177) (v := .ref (ad 3)) rfl d_Md_send_42 ?_
    refine lv_iload_n hx hb d_Md_send_45 rfl (lv_at hl 0 rfl) ?_
    refine hp_iald hx hb hK hH (show M_14 (ad 3) = some (hp_ai D 4096 (ct 3)) from hm.2.1 3 (by decide) (by decide) (by decide)) (512 * o) rfl (by omega) (by decide) (v := sg_ct c) hr3 d_Md_send_46 ?_
    refine hp_iast hx hb hK hH hS hB (show M_14 (ad 15) = some (hp_ai D 8 (ct 15)) from hm.2.1 15 (by decide) (by decide) (by decide)) o rfl ho8 (by decide) d_Md_send_47 (fun M_15 H locs eM_15 hH hS => ?_)
    have hm := md_pi hm (j := 15) (by decide) (by decide) (by decide) eM_15
    have hf := md_fr_a (j := 15) (by decide) hf eM_15
    refine lv_aload_n hx hb d_Md_send_48 rfl (lv_at hl 1 rfl) ?_
    refine hp_get hx hb hts iw_Md hown hK hH hm.1 rfl 19 (by decide) (hts _ kw_146) (v := .ref (ad 16)) rfl d_Md_send_49 ?_
    refine lv_iload_n hx hb d_Md_send_52 rfl (lv_at hl 2 rfl) ?_
    refine lv_aload_n hx hb d_Md_send_53 rfl (lv_at hl 1 rfl) ?_
    refine hp_get hx hb hts iw_Md hown hK hH hm.1 rfl 16 (by decide) (hts _ kw_135) (v := .int sl) rfl d_Md_send_54 ?_
    refine lv_aload_n hx hb d_Md_send_57 rfl (lv_at hl 1 rfl) ?_
    refine hp_get hx hb hts iw_Md hown hK hH hm.1 rfl 6 (by decide) (hts _ kw_178) (v := .ref (ad 5)) rfl d_Md_send_58 ?_
    refine lv_iload_n hx hb d_Md_send_61 rfl (lv_at hl 0 rfl) ?_
    refine hp_iald hx hb hK hH (show M_15 (ad 5) = some (hp_ai D 4096 (ct 5)) from hm.2.1 5 (by decide) (by decide) (by decide)) (512 * o) rfl (by omega) (by decide) (v := (sg_cc c)) hr5 d_Md_send_62 ?_
    refine lv_isub hx hb d_Md_send_63 ?_
    refine hp_iast hx hb hK hH hS hB (show M_15 (ad 16) = some (hp_ai D 8 (ct 16)) from hm.2.1 16 (by decide) (by decide) (by decide)) o rfl ho8 (by decide) d_Md_send_64 (fun M_16 H locs eM_16 hH hS => ?_)
    have hm := md_pi hm (j := 16) (by decide) (by decide) (by decide) eM_16
    have hf := md_fr_a (j := 16) (by decide) hf eM_16
    refine lv_aload_n hx hb d_Md_send_65 rfl (lv_at hl 1 rfl) ?_
    refine hp_get hx hb hts iw_Md hown hK hH hm.1 rfl 1 (by decide) (hts _ kw_147) (v := .ref (ad 0)) rfl d_Md_send_66 ?_
    refine lv_iload_n hx hb d_Md_send_69 rfl (lv_at hl 2 rfl) ?_
    refine lv_dup2_11 hx hb d_Md_send_70 rfl rfl ?_
    refine hp_iald hx hb hK hH (show M_16 (ad 0) = some (hp_ai D 8 (ct 0)) from hm.2.1 0 (by decide) (by decide) (by decide)) o rfl ho8 (by decide) (v := nI (cs.length + 1)) hm0 d_Md_send_71 ?_
    refine lv_iconst (v := 1) hx hb d_Md_send_72 (by decide) ?_
    refine lv_isub hx hb d_Md_send_73 ?_
    refine hp_ioi (nI_pred _) ?_
    refine hp_iast hx hb hK hH hS hB (show M_16 (ad 0) = some (hp_ai D 8 (ct 0)) from hm.2.1 0 (by decide) (by decide) (by decide)) o rfl ho8 (by decide) d_Md_send_74 (fun M_17 H locs eM_17 hH hS => ?_)
    have hm := md_pi hm (j := 0) (by decide) (by decide) (by decide) eM_17
    have hf := md_fr_a (j := 0) (by decide) hf eM_17
    refine lv_iload_n hx hb d_Md_send_75 rfl (lv_at hl 0 rfl) ?_
    refine lv_istore_n (lv' := [(3, .int (nI (512 * o))), (2, .int (nI (512 * o))), (0, .ref b), (1, .int (nI o))]) hx hb d_Md_send_76 rfl hl (by decide) rfl (fun ls hl => ?_)
    exact Lp cs.length 0 M_17 _ _ ls _ cl (by omega) hm hf ⟨fun p a1 a2 => by omega, fun p _ => rfl⟩ (fun x _ => rfl) rfl hH hS (lv_sub hl [0, 1, 2, 3] rfl)
