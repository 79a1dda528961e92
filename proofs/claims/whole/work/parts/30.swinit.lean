theorem kw_124 : Cond.methodLink R_Sw 1 objectInit ∈ wd_T := wd_in (List.mem_of_getElem? (i := 32) (by decide +kernel)) rfl
theorem kw_125 : Cond.classLink R_Sw 9 R_In ∈ wd_T := wd_in (List.mem_of_getElem? (i := 35) (by decide +kernel)) rfl
theorem kw_126 : Cond.classLink R_Sw 15 R_Ou ∈ wd_T := wd_in (List.mem_of_getElem? (i := 37) (by decide +kernel)) rfl
theorem kw_127 : Cond.instantiable R_In 2 ∈ wd_T := wd_in (List.mem_of_getElem? (i := 39) (by decide +kernel)) rfl
theorem kw_128 : Cond.instanceMethod y_In_init ∈ wd_T := wd_in (List.mem_of_getElem? (i := 41) (by decide +kernel)) rfl
theorem kw_129 : Cond.code y_In_init b_In_init 1 none ∈ wd_T := wd_in (List.mem_of_getElem? (i := 42) (by decide +kernel)) rfl
theorem kw_130 : Cond.instantiable R_Ou 6 ∈ wd_T := wd_in (List.mem_of_getElem? (i := 53) (by decide +kernel)) rfl
theorem kw_131 : Cond.methodLink R_Sw 22 y_Ou_init ∈ wd_T := wd_in (List.mem_of_getElem? (i := 54) (by decide +kernel)) rfl
theorem kw_132 : Cond.code y_Ou_init b_Ou_init 1 none ∈ wd_T := wd_in (List.mem_of_getElem? (i := 56) (by decide +kernel)) rfl
theorem kw_133 : Cond.instanceMethod y_Ou_init ∈ wd_T := wd_in (List.mem_of_getElem? (i := 55) (by decide +kernel)) rfl
theorem d_Sw_init_0 : decode b_Sw_init 0 = .ok (.aload_n 0, 1) := by decide +kernel
theorem d_Sw_init_1 : decode b_Sw_init 1 = .ok (.invokespecial 1, 3) := by decide +kernel
theorem d_Sw_init_4 : decode b_Sw_init 4 = .ok (.aload_n 0, 1) := by decide +kernel
theorem d_Sw_init_5 : decode b_Sw_init 5 = .ok (.bipush 8, 2) := by decide +kernel
theorem d_Sw_init_7 : decode b_Sw_init 7 = .ok (.anewarray 9, 3) := by decide +kernel
theorem d_Sw_init_10 : decode b_Sw_init 10 = .ok (.putfield 11, 3) := by decide +kernel
theorem d_Sw_init_13 : decode b_Sw_init 13 = .ok (.aload_n 0, 1) := by decide +kernel
theorem d_Sw_init_14 : decode b_Sw_init 14 = .ok (.bipush 8, 2) := by decide +kernel
theorem d_Sw_init_16 : decode b_Sw_init 16 = .ok (.anewarray 15, 3) := by decide +kernel
theorem d_Sw_init_19 : decode b_Sw_init 19 = .ok (.putfield 17, 3) := by decide +kernel
theorem d_Sw_init_22 : decode b_Sw_init 22 = .ok (.iconst 0, 1) := by decide +kernel
theorem d_Sw_init_23 : decode b_Sw_init 23 = .ok (.istore_n 1, 1) := by decide +kernel
theorem d_Sw_init_24 : decode b_Sw_init 24 = .ok (.iload_n 1, 1) := by decide +kernel
theorem d_Sw_init_25 : decode b_Sw_init 25 = .ok (.bipush 8, 2) := by decide +kernel
theorem d_Sw_init_27 : decode b_Sw_init 27 = .ok (.if_icmp .ge 35, 3) := by decide +kernel
theorem d_Sw_init_30 : decode b_Sw_init 30 = .ok (.aload_n 0, 1) := by decide +kernel
theorem d_Sw_init_31 : decode b_Sw_init 31 = .ok (.getfield 11, 3) := by decide +kernel
theorem d_Sw_init_34 : decode b_Sw_init 34 = .ok (.iload_n 1, 1) := by decide +kernel
theorem d_Sw_init_35 : decode b_Sw_init 35 = .ok (.new 9, 3) := by decide +kernel
theorem d_Sw_init_38 : decode b_Sw_init 38 = .ok (.dup, 1) := by decide +kernel
theorem d_Sw_init_39 : decode b_Sw_init 39 = .ok (.invokespecial 21, 3) := by decide +kernel
theorem d_Sw_init_42 : decode b_Sw_init 42 = .ok (.aastore, 1) := by decide +kernel
theorem d_Sw_init_43 : decode b_Sw_init 43 = .ok (.aload_n 0, 1) := by decide +kernel
theorem d_Sw_init_44 : decode b_Sw_init 44 = .ok (.getfield 17, 3) := by decide +kernel
theorem d_Sw_init_47 : decode b_Sw_init 47 = .ok (.iload_n 1, 1) := by decide +kernel
theorem d_Sw_init_48 : decode b_Sw_init 48 = .ok (.new 15, 3) := by decide +kernel
theorem d_Sw_init_51 : decode b_Sw_init 51 = .ok (.dup, 1) := by decide +kernel
theorem d_Sw_init_52 : decode b_Sw_init 52 = .ok (.invokespecial 22, 3) := by decide +kernel
theorem d_Sw_init_55 : decode b_Sw_init 55 = .ok (.aastore, 1) := by decide +kernel
theorem d_Sw_init_56 : decode b_Sw_init 56 = .ok (.iinc 1 1, 3) := by decide +kernel
theorem d_Sw_init_59 : decode b_Sw_init 59 = .ok (.goto (-35), 3) := by decide +kernel
theorem d_Sw_init_62 : decode b_Sw_init 62 = .ok (.return_, 1) := by decide +kernel
abbrev rm_Sw_init : Room := { frames := 2, cells := 34, slots := 208, locals := 43 }
set_option maxHeartbeats 4000000 in
set_option maxRecDepth 100000 in
theorem cn_Sw_init (l : Launch) (D : va_G) (B : Nat) (M : hp_M) (a : Nat) (F : Nat → Prop) (h1 : M a = some (.inr (ix_sw, [.null, .null, .int 0, .long 0]))) (hF : ∀ x, F x → x ≠ a ∧ M x ≠ none) : Met l y_Sw_init (wd_c y_Sw_init b_Sw_init 2 (none)) rm_Sw_init (va_Pc [.ref a] (fun U => hp_C D B M U ∧ sw_E U)) (va_Qv (fun  (M1 : hp_M) => sw_H D M1 a sg_0 F ∧ sw_fr F M M1) (hp_C D B) (hp_ub B)) 34 208 (hp_ub B) := by
  refine hp_met2 (E := sw_E) (by decide) (Nat.le_of_ble_eq_true rfl) ?_
  intro p e s m args below meth cd ls Q hQ hx hb hr hts hown hlocks hnm hml hK hH hS hB hl hE
  replace hl : lv_has ls 2 [(0, .ref a)] := hl
  refine lv_aload_n hx hb d_Sw_init_0 rfl (lv_at hl 0 rfl) ?_
  refine W.objInit hx hb hown (hts _ kw_124) (hts _ kw_64) (hts _ kw_65) rfl (by rw [hml]; exact hl.1) rfl d_Sw_init_1 (Nat.le_of_ble_eq_true rfl) (Nat.le_of_ble_eq_true rfl) ?_
  refine W.eq (g2 := F0 m 4 ls []) rfl ?_
  refine lv_aload_n hx hb d_Sw_init_4 rfl (lv_at hl 0 rfl) ?_
  refine lv_bipush (v := 8) hx hb d_Sw_init_5 (by decide) ?_
  refine hp_newq hx hb hown (hts _ kw_125) hE.2.1 hK hH hS hB 12 2 rfl 8 (by decide) (by decide) (Nat.le_of_ble_eq_true rfl) (Nat.le_of_ble_eq_true rfl) d_Sw_init_7 (fun q_1 M_2 H zq_1 eM_2 hH hS => ?_)
  have f_3 : M_2 q_1 = some (hp_aq D 12 8 (fun _ => none)) := by rw [eM_2]; exact va_up_self _ _ _
  have f_4 : M_2 a = some (.inr (ix_sw, [.null, .null, .int 0, .long 0])) := by rw [eM_2, va_up_ne _ _ (hp_fr zq_1 h1)]; exact h1
  refine hp_putF hx hb hts iw_Sw t_Sw t_Sw_ok n_Sw hown hK hH hS hB f_4 rfl 0 (by decide) (hts _ kw_14) rfl hnm rfl (v := .ref q_1) rfl rfl (Nat.le_of_ble_eq_true rfl) (fs' := [.ref q_1, .null, .int 0, .long 0]) rfl d_Sw_init_10 (fun M_5 H locs eM_5 hH hS => ?_)
  have f_6 : M_5 a = some (.inr (ix_sw, [.ref q_1, .null, .int 0, .long 0])) := by rw [eM_5]; exact va_up_self _ _ _
  have f_7 : M_5 q_1 = some (hp_aq D 12 8 (fun _ => none)) := by rw [eM_5, va_up_ne _ _ (hp_ne 102 ix_sw f_3 f_4 rfl rfl (by decide))]; exact f_3
  refine lv_aload_n hx hb d_Sw_init_13 rfl (lv_at hl 0 rfl) ?_
  refine lv_bipush (v := 8) hx hb d_Sw_init_14 (by decide) ?_
  refine hp_newq hx hb hown (hts _ kw_126) hE.2.2 hK hH hS hB 13 3 rfl 8 (by decide) (by decide) (Nat.le_of_ble_eq_true rfl) (Nat.le_of_ble_eq_true rfl) d_Sw_init_16 (fun q_8 M_9 H zq_8 eM_9 hH hS => ?_)
  have f_10 : M_9 q_8 = some (hp_aq D 13 8 (fun _ => none)) := by rw [eM_9]; exact va_up_self _ _ _
  have f_11 : M_9 q_1 = some (hp_aq D 12 8 (fun _ => none)) := by rw [eM_9, va_up_ne _ _ (hp_fr zq_8 f_7)]; exact f_7
  have f_12 : M_9 a = some (.inr (ix_sw, [.ref q_1, .null, .int 0, .long 0])) := by rw [eM_9, va_up_ne _ _ (hp_fr zq_8 f_6)]; exact f_6
  refine hp_putF hx hb hts iw_Sw t_Sw t_Sw_ok n_Sw hown hK hH hS hB f_12 rfl 1 (by decide) (hts _ kw_5) rfl hnm rfl (v := .ref q_8) rfl rfl (Nat.le_of_ble_eq_true rfl) (fs' := [.ref q_1, .ref q_8, .int 0, .long 0]) rfl d_Sw_init_19 (fun M_13 H locs eM_13 hH hS => ?_)
  have f_14 : M_13 a = some (.inr (ix_sw, [.ref q_1, .ref q_8, .int 0, .long 0])) := by rw [eM_13]; exact va_up_self _ _ _
  have f_15 : M_13 q_1 = some (hp_aq D 12 8 (fun _ => none)) := by rw [eM_13, va_up_ne _ _ (hp_ne 102 ix_sw f_11 f_12 rfl rfl (by decide))]; exact f_11
  have f_16 : M_13 q_8 = some (hp_aq D 13 8 (fun _ => none)) := by rw [eM_13, va_up_ne _ _ (hp_ne 102 ix_sw f_10 f_12 rfl rfl (by decide))]; exact f_10
  refine lv_iconst (v := 0) hx hb d_Sw_init_22 (by decide) ?_
  refine lv_istore_n (lv' := [(1, .int 0), (0, .ref a)]) hx hb d_Sw_init_23 rfl hl (by decide) rfl (fun ls hl => ?_)
  have m1 : q_1 ≠ a := hp_ne 102 ix_sw f_15 f_14 rfl rfl (by decide)
  have m2 : q_8 ≠ a := hp_ne 102 ix_sw f_16 f_14 rfl rfl (by decide)
  have m3 : q_8 ≠ q_1 := fun z => by have h := zq_8; rw [z] at h; rw [f_7] at h; cases h
  have mF : ∀ x, F x → x ≠ a ∧ x ≠ q_1 ∧ x ≠ q_8 ∧ M x ≠ none := fun x hx => by
    obtain ⟨b1, b2⟩ := hF x hx
    have c1 : x ≠ q_1 := fun z => b2 (by rw [z]; exact zq_1)
    have c2 : x ≠ q_8 := fun z => by have h := zq_8; rw [← z, eM_5, va_up_ne _ _ b1, eM_2, va_up_ne _ _ c1] at h; exact b2 h
    exact ⟨b1, c1, c2, b2⟩
  have mf : ∀ x, F x → M_13 x = M x := fun x hx => by obtain ⟨b1, b2, b3, -⟩ := mF x hx; rw [eM_13, eM_9, eM_5, eM_2]; simp only [va_up_ne _ _ b1, va_up_ne _ _ b2, va_up_ne _ _ b3]
  have h0 : sw_I0 D M_13 a F q_1 q_8 (fun _ => none) (fun _ => none) 0 := sw_I0_0 f_14 f_15 f_16 m1 m2 m3 (fun x hx => ⟨(mF x hx).1, (mF x hx).2.1, (mF x hx).2.2.1, by rw [mf x hx]; exact (mF x hx).2.2.2⟩)
  have Lp : ∀ (n i : Nat) (M2 : hp_M) (H : Heap) (locs : List Loc) (ls : Array Slot) (fI fO : Nat → Option Nat), i + n = 8 → sw_I0 D M2 a F q_1 q_8 fI fO i → sw_fr F M M2 → hp_H D B M2 H → va_S (hp_ub B) s.heap H locs → lv_has ls 2 [(1, .int (nI i)), (0, .ref a)] → W p l e rm_Sw_init s m args below meth cd H locs (2 + 4 * i) (16 + 24 * i) Q (F0 m 24 ls []) := by
    intro n
    induction n with
    | zero =>
      intro i M2 H locs ls fI fO hn hs hfr hH hS hl
      have e8 : i = 8 := by omega
      subst e8
      refine lv_iload_n hx hb d_Sw_init_24 rfl (lv_at hl 0 rfl) ?_
      refine lv_bipush (v := 8) hx hb d_Sw_init_25 (by decide) ?_
      refine lv_icmp_ge (tgt := 62) hx hb d_Sw_init_27 (by decide) (fun c_17 => ?_) (fun c_17 => absurd (nI_le (a := 8) (by omega) (by omega)) c_17)
      exact hp_vret hx hb hr hlocks hQ hK hH hS (Nat.le_of_ble_eq_true rfl) (Nat.le_of_ble_eq_true rfl) d_Sw_init_62 ⟨sw_I0_8 hs, hfr⟩
    | succ n ih =>
      intro i M2 H locs ls fI fO hn hs hfr hH hS hl
      have hi8 : i < 8 := by omega
      have hs0 := hs
      obtain ⟨ip, op, sp, lp, ow, ⟨g1, g2, g3⟩, ⟨w1, w2, w3⟩, -, -, -⟩ := hs0
      have mIO : q_1 ≠ q_8 := fun z => by rw [z, w3] at w2; cases w2
      refine lv_iload_n hx hb d_Sw_init_24 rfl (lv_at hl 0 rfl) ?_
      refine lv_bipush (v := 8) hx hb d_Sw_init_25 (by decide) ?_
      refine lv_icmp_ge (tgt := 62) hx hb d_Sw_init_27 (by decide) (fun c_18 => absurd c_18 (nI_ge (b := 8) (by omega) (by omega))) (fun c_18 => ?_)
      refine lv_aload_n hx hb d_Sw_init_30 rfl (lv_at hl 1 rfl) ?_
      refine hp_get hx hb hts iw_Sw hown hK hH g1 rfl 0 (by decide) (hts _ kw_14) (v := .ref q_1) rfl d_Sw_init_31 ?_
      refine lv_iload_n hx hb d_Sw_init_34 rfl (lv_at hl 0 rfl) ?_
      refine hp_new hx hb hts iw_In t_In t_In_ok hown (hts _ kw_125) (hts _ kw_127) (hts _ kw_115) hK hH hS hB (ci := ix_in) rfl (fs := [.null, .int 0]) (fun j hj => by rcases (show j = 0 ∨ j = 1 by omega) with rfl | rfl <;> rfl) (by show _ ≤ 34; omega) (by show _ ≤ 208; omega) d_Sw_init_35 (fun q_19 M_20 H zq_19 eM_20 hH hS => ?_)
      have f_21 : M_20 q_19 = some (.inr (ix_in, [.null, .int 0])) := by rw [eM_20]; exact va_up_self _ _ _
      have f_22 : M_20 a = some (.inr (ix_sw, [.ref q_1, .ref q_8, .int 0, .long 0])) := by rw [eM_20, va_up_ne _ _ (hp_fr zq_19 g1)]; exact g1
      have f_23 : M_20 q_1 = some (hp_aq D 12 8 fI) := by rw [eM_20, va_up_ne _ _ (hp_fr zq_19 g2)]; exact g2
      have f_24 : M_20 q_8 = some (hp_aq D 13 8 fO) := by rw [eM_20, va_up_ne _ _ (hp_fr zq_19 g3)]; exact g3
      refine lv_dup hx hb d_Sw_init_38 rfl ?_
      refine hp_callv (hp_runIN (b := q_19) (As := []) (rest := [.ref q_19, .int (nI i), .ref q_1]) hx hb hml hown (cn_In_init l D B M_20 q_19 f_21) (hp_cwN 0 hts hE.1 kw_128 kw_115 kw_129 rfl rfl rfl (by decide +kernel) ⟨(Nat.le_of_ble_eq_true rfl), (Nat.le_of_ble_eq_true rfl)⟩) hK hH rfl hl.1 rfl (Nat.le_of_ble_eq_true rfl) d_Sw_init_39 ⟨(by show _ ≤ 34; omega), (by show _ ≤ 208; omega)⟩) hS (fun M_25 H locs w_26 hH hS => ?_)
      rw [w_26] at hH
      refine hp_aast hx hb hK hH hS hB f_23 2 rfl f_21 rfl i rfl hi8 (by decide) d_Sw_init_42 (fun M_27 H locs eM_27 hH hS => ?_)
      have f_28 : M_27 q_1 = some (hp_aq D 12 8 (va_up fI i (some q_19))) := by rw [eM_27]; exact va_up_self _ _ _
      have f_29 : M_27 a = some (.inr (ix_sw, [.ref q_1, .ref q_8, .int 0, .long 0])) := by rw [eM_27, va_up_ne _ _ (hp_ne ix_sw 102 f_22 f_23 rfl rfl (by decide))]; exact f_22
      have f_30 : M_27 q_8 = some (hp_aq D 13 8 fO) := by rw [eM_27, va_up_ne _ _ (Ne.symm mIO)]; exact f_24
      have f_31 : M_27 q_19 = some (.inr (ix_in, [.null, .int 0])) := by rw [eM_27, va_up_ne _ _ (hp_ne ix_in 102 f_21 f_23 rfl rfl (by decide))]; exact f_21
      refine lv_aload_n hx hb d_Sw_init_43 rfl (lv_at hl 1 rfl) ?_
      refine hp_get hx hb hts iw_Sw hown hK hH f_29 rfl 1 (by decide) (hts _ kw_5) (v := .ref q_8) rfl d_Sw_init_44 ?_
      refine lv_iload_n hx hb d_Sw_init_47 rfl (lv_at hl 0 rfl) ?_
      refine hp_new hx hb hts iw_Ou t_Ou t_Ou_ok hown (hts _ kw_126) (hts _ kw_130) (hts _ kw_34) hK hH hS hB (ci := ix_ou) rfl (fs := [.int 0, .null, .null, .null, .int 0, .null]) (fun j hj => by rcases (show j = 0 ∨ j = 1 ∨ j = 2 ∨ j = 3 ∨ j = 4 ∨ j = 5 by omega) with rfl | rfl | rfl | rfl | rfl | rfl <;> rfl) (by show _ ≤ 34; omega) (by show _ ≤ 208; omega) d_Sw_init_48 (fun q_32 M_33 H zq_32 eM_33 hH hS => ?_)
      have f_34 : M_33 q_32 = some (.inr (ix_ou, [.int 0, .null, .null, .null, .int 0, .null])) := by rw [eM_33]; exact va_up_self _ _ _
      have f_35 : M_33 a = some (.inr (ix_sw, [.ref q_1, .ref q_8, .int 0, .long 0])) := by rw [eM_33, va_up_ne _ _ (hp_fr zq_32 f_29)]; exact f_29
      have f_36 : M_33 q_8 = some (hp_aq D 13 8 fO) := by rw [eM_33, va_up_ne _ _ (hp_fr zq_32 f_30)]; exact f_30
      have f_37 : M_33 q_19 = some (.inr (ix_in, [.null, .int 0])) := by rw [eM_33, va_up_ne _ _ (hp_fr zq_32 f_31)]; exact f_31
      have f_38 : M_33 q_1 = some (hp_aq D 12 8 (va_up fI i (some q_19))) := by rw [eM_33, va_up_ne _ _ (hp_fr zq_32 f_28)]; exact f_28
      refine lv_dup hx hb d_Sw_init_51 rfl ?_
      refine hp_callv (hp_runI (b := q_32) (As := []) (rest := [.ref q_32, .int (nI i), .ref q_8]) hx hb hml hown (cn_Ou_init l D B M_33 q_32 f_34) (hp_cwI 0 hts kw_131 kw_133 kw_34 kw_132 rfl rfl rfl (by decide +kernel) ⟨(Nat.le_of_ble_eq_true rfl), (Nat.le_of_ble_eq_true rfl)⟩) hK hH rfl hl.1 rfl (Nat.le_of_ble_eq_true rfl) d_Sw_init_52 ⟨(by show _ ≤ 34; omega), (by show _ ≤ 208; omega)⟩) hS (fun M_40 H locs w_41 hH hS => ?_)
      obtain ⟨qs, ql, f, u1, u2, u3, u4, u5, u6, u7, u8⟩ := w_41
      have f_42 : M_40 a = some (.inr (ix_sw, [.ref q_1, .ref q_8, .int 0, .long 0])) := by rw [u8 _ (hp_ne ix_sw ix_ou f_35 f_34 rfl rfl (by decide)) (hp_fr u1 f_35) (hp_fr u2 f_35)]; exact f_35
      have f_43 : M_40 q_8 = some (hp_aq D 13 8 fO) := by rw [u8 _ (hp_ne 102 ix_ou f_36 f_34 rfl rfl (by decide)) (hp_fr u1 f_36) (hp_fr u2 f_36)]; exact f_36
      have f_44 : M_40 q_19 = some (.inr (ix_in, [.null, .int 0])) := by rw [u8 _ (hp_ne ix_in ix_ou f_37 f_34 rfl rfl (by decide)) (hp_fr u1 f_37) (hp_fr u2 f_37)]; exact f_37
      have f_45 : M_40 q_1 = some (hp_aq D 12 8 (va_up fI i (some q_19))) := by rw [u8 _ (hp_ne 102 ix_ou f_38 f_34 rfl rfl (by decide)) (hp_fr u1 f_38) (hp_fr u2 f_38)]; exact f_38
      refine hp_aast hx hb hK hH hS hB f_43 3 rfl u5 rfl i rfl hi8 (by decide) d_Sw_init_55 (fun M_46 H locs eM_46 hH hS => ?_)
      have f_47 : M_46 q_8 = some (hp_aq D 13 8 (va_up fO i (some q_32))) := by rw [eM_46]; exact va_up_self _ _ _
      have f_48 : M_46 a = some (.inr (ix_sw, [.ref q_1, .ref q_8, .int 0, .long 0])) := by rw [eM_46, va_up_ne _ _ (hp_ne ix_sw 102 f_42 f_43 rfl rfl (by decide))]; exact f_42
      have f_49 : M_46 q_19 = some (.inr (ix_in, [.null, .int 0])) := by rw [eM_46, va_up_ne _ _ (hp_ne ix_in 102 f_44 f_43 rfl rfl (by decide))]; exact f_44
      have f_50 : M_46 q_1 = some (hp_aq D 12 8 (va_up fI i (some q_19))) := by rw [eM_46, va_up_ne _ _ mIO]; exact f_45
      have f_51 : M_46 q_32 = some (.inr (ix_ou, [.int 0, .ref qs, .ref ql, .null, .int 0, .null])) := by rw [eM_46, va_up_ne _ _ (hp_ne ix_ou 102 u5 f_43 rfl rfl (by decide))]; exact u5
      have f_52 : M_46 qs = some (hp_ai D 8 f) := by rw [eM_46, va_up_ne _ _ (hp_ne 100 102 u6 f_43 rfl rfl (by decide))]; exact u6
      have f_53 : M_46 ql = some (hp_al D 8 (fun _ => 0)) := by rw [eM_46, va_up_ne _ _ (hp_ne 101 102 u7 f_43 rfl rfl (by decide))]; exact u7
      have y2 : M2 q_32 = none := by have h := zq_32; rw [eM_27, va_up_ne _ _ (Ne.symm (hp_fr zq_32 f_28)), eM_20, va_up_ne _ _ (Ne.symm (hp_fr zq_32 f_31))] at h; exact h
      have y3 : M2 qs = none := by have h := u1; rw [eM_33, va_up_ne _ _ (Ne.symm (hp_fr u1 f_34)), eM_27, va_up_ne _ _ (Ne.symm (hp_fr u1 f_38)), eM_20, va_up_ne _ _ (Ne.symm (hp_fr u1 f_37))] at h; exact h
      have y4 : M2 ql = none := by have h := u2; rw [eM_33, va_up_ne _ _ (Ne.symm (hp_fr u2 f_34)), eM_27, va_up_ne _ _ (Ne.symm (hp_fr u2 f_38)), eM_20, va_up_ne _ _ (Ne.symm (hp_fr u2 f_37))] at h; exact h
      have yf : ∀ x, M2 x ≠ none → x ≠ q_1 → x ≠ q_8 → M_46 x = M2 x := fun x b1 b2 b3 => by
        have c1 : x ≠ q_19 := fun z => b1 (by rw [z]; exact zq_19)
        have c2 : x ≠ q_32 := fun z => b1 (by rw [z]; exact y2)
        have c3 : x ≠ qs := fun z => b1 (by rw [z]; exact y3)
        have c4 : x ≠ ql := fun z => b1 (by rw [z]; exact y4)
        rw [eM_46, va_up_ne _ _ b3, u8 x c2 c3 c4, eM_33, va_up_ne _ _ c2, eM_27, va_up_ne _ _ b2, eM_20, va_up_ne _ _ c1]
      obtain ⟨r1, r2⟩ := sw_I0_step (M1 := M_46) hi8 hs u4 zq_19 y2 y3 y4 f_49 f_51 f_52 f_53 f_48 f_50 f_47 yf
      refine lv_iinc (v := nI (i + 1)) (lv' := [(1, .int (nI (i + 1))), (0, .ref a)]) hx hb d_Sw_init_56 hl (k := 0) rfl (nI_1 i) (by decide) rfl (fun ls hl => ?_)
      refine lv_goto (tgt := 24) hx hb d_Sw_init_59 (by decide) ?_
      refine W.widen (k := 2 + 4 * (i + 1)) (n := 16 + 24 * (i + 1)) (by omega) (by omega) ?_
      exact ih (i + 1) M_46 _ _ ls _ _ (by omega) r1 (sw_fr_tr hfr r2) hH hS (lv_sub hl [0, 1] rfl)
  exact Lp 8 0 M_13 _ _ ls _ _ (by omega) h0 mf hH hS (lv_sub hl [0, 1] rfl)
