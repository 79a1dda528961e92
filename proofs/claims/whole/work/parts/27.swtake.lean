theorem kw_98 : Cond.methodLink R_Sw 109 y_Ou_takeIn ∈ wd_T := wd_in (List.mem_of_getElem? (i := 171) (by decide +kernel)) rfl
theorem kw_99 : Cond.code y_Ou_takeIn b_Ou_takeIn 3 none ∈ wd_T := wd_in (List.mem_of_getElem? (i := 174) (by decide +kernel)) rfl
theorem kw_100 : Cond.instanceMethod y_Ou_takeIn ∈ wd_T := wd_in (List.mem_of_getElem? (i := 172) (by decide +kernel)) rfl
theorem kw_101 : Cond.selects R_Ou y_Ou_takeIn y_Ou_takeIn ∈ wd_T := wd_in (List.mem_of_getElem? (i := 173) (by decide +kernel)) rfl
theorem d_Sw_takeOfferedCells_0 : decode b_Sw_takeOfferedCells 0 = .ok (.iconst 0, 1) := by decide +kernel
theorem d_Sw_takeOfferedCells_1 : decode b_Sw_takeOfferedCells 1 = .ok (.istore_n 1, 1) := by decide +kernel
theorem d_Sw_takeOfferedCells_2 : decode b_Sw_takeOfferedCells 2 = .ok (.iload_n 1, 1) := by decide +kernel
theorem d_Sw_takeOfferedCells_3 : decode b_Sw_takeOfferedCells 3 = .ok (.bipush 8, 2) := by decide +kernel
theorem d_Sw_takeOfferedCells_5 : decode b_Sw_takeOfferedCells 5 = .ok (.if_icmp .ge 50, 3) := by decide +kernel
theorem d_Sw_takeOfferedCells_8 : decode b_Sw_takeOfferedCells 8 = .ok (.aload_n 0, 1) := by decide +kernel
theorem d_Sw_takeOfferedCells_9 : decode b_Sw_takeOfferedCells 9 = .ok (.getfield 11, 3) := by decide +kernel
theorem d_Sw_takeOfferedCells_12 : decode b_Sw_takeOfferedCells 12 = .ok (.iload_n 1, 1) := by decide +kernel
theorem d_Sw_takeOfferedCells_13 : decode b_Sw_takeOfferedCells 13 = .ok (.aaload, 1) := by decide +kernel
theorem d_Sw_takeOfferedCells_14 : decode b_Sw_takeOfferedCells 14 = .ok (.getfield 45, 3) := by decide +kernel
theorem d_Sw_takeOfferedCells_17 : decode b_Sw_takeOfferedCells 17 = .ok (.astore_n 2, 1) := by decide +kernel
theorem d_Sw_takeOfferedCells_18 : decode b_Sw_takeOfferedCells 18 = .ok (.aload_n 2, 1) := by decide +kernel
theorem d_Sw_takeOfferedCells_19 : decode b_Sw_takeOfferedCells 19 = .ok (.ifnull 30, 3) := by decide +kernel
theorem d_Sw_takeOfferedCells_22 : decode b_Sw_takeOfferedCells 22 = .ok (.aload_n 0, 1) := by decide +kernel
theorem d_Sw_takeOfferedCells_23 : decode b_Sw_takeOfferedCells 23 = .ok (.getfield 11, 3) := by decide +kernel
theorem d_Sw_takeOfferedCells_26 : decode b_Sw_takeOfferedCells 26 = .ok (.iload_n 1, 1) := by decide +kernel
theorem d_Sw_takeOfferedCells_27 : decode b_Sw_takeOfferedCells 27 = .ok (.aaload, 1) := by decide +kernel
theorem d_Sw_takeOfferedCells_28 : decode b_Sw_takeOfferedCells 28 = .ok (.aconst_null, 1) := by decide +kernel
theorem d_Sw_takeOfferedCells_29 : decode b_Sw_takeOfferedCells 29 = .ok (.putfield 45, 3) := by decide +kernel
theorem d_Sw_takeOfferedCells_32 : decode b_Sw_takeOfferedCells 32 = .ok (.aload_n 0, 1) := by decide +kernel
theorem d_Sw_takeOfferedCells_33 : decode b_Sw_takeOfferedCells 33 = .ok (.getfield 17, 3) := by decide +kernel
theorem d_Sw_takeOfferedCells_36 : decode b_Sw_takeOfferedCells 36 = .ok (.aload_n 2, 1) := by decide +kernel
theorem d_Sw_takeOfferedCells_37 : decode b_Sw_takeOfferedCells 37 = .ok (.getfield 106, 3) := by decide +kernel
theorem d_Sw_takeOfferedCells_40 : decode b_Sw_takeOfferedCells 40 = .ok (.aaload, 1) := by decide +kernel
theorem d_Sw_takeOfferedCells_41 : decode b_Sw_takeOfferedCells 41 = .ok (.aload_n 2, 1) := by decide +kernel
theorem d_Sw_takeOfferedCells_42 : decode b_Sw_takeOfferedCells 42 = .ok (.aload_n 0, 1) := by decide +kernel
theorem d_Sw_takeOfferedCells_43 : decode b_Sw_takeOfferedCells 43 = .ok (.getfield 68, 3) := by decide +kernel
theorem d_Sw_takeOfferedCells_46 : decode b_Sw_takeOfferedCells 46 = .ok (.invokevirtual 109, 3) := by decide +kernel
theorem d_Sw_takeOfferedCells_49 : decode b_Sw_takeOfferedCells 49 = .ok (.iinc 1 1, 3) := by decide +kernel
theorem d_Sw_takeOfferedCells_52 : decode b_Sw_takeOfferedCells 52 = .ok (.goto (-50), 3) := by decide +kernel
theorem d_Sw_takeOfferedCells_55 : decode b_Sw_takeOfferedCells 55 = .ok (.return_, 1) := by decide +kernel
abbrev rm_Sw_takeOfferedCells : Room := { frames := 3, cells := 0, slots := 0, locals := 69 }
set_option maxHeartbeats 4000000 in
set_option maxRecDepth 100000 in
theorem cn_Sw_takeOfferedCells (l : Launch) (D : va_G) (B : Nat) (M : hp_M) (a : Nat) (σ : sg_S) (F : Nat → Prop) (hsw : sw_H D M a σ F) (hinv : sg_inv σ) : Met l y_Sw_takeOfferedCells (wd_c y_Sw_takeOfferedCells b_Sw_takeOfferedCells 3 (none)) rm_Sw_takeOfferedCells (va_Pc [.ref a] (hp_C D B M)) (va_Qv (fun  (M1 : hp_M) => sw_H D M1 a (sg_comes σ 8) F ∧ sw_fr F M M1) (hp_C D B) (hp_ub B)) 0 0 (hp_ub B) := by
  refine hp_met (by decide) (Nat.le_of_ble_eq_true rfl) ?_
  intro p e s m args below meth cd ls Q hQ hx hb hr hts hown hlocks hnm hml hK hH hS hB hl
  replace hl : lv_has ls 3 [(0, .ref a)] := hl
  refine lv_iconst (v := 0) hx hb d_Sw_takeOfferedCells_0 (by decide) ?_
  refine lv_istore_n (lv' := [(1, .int 0), (0, .ref a)]) hx hb d_Sw_takeOfferedCells_1 rfl hl (by decide) rfl (fun ls hl => ?_)
  have Lp : ∀ (n i : Nat) (M2 : hp_M) (H : Heap) (locs : List Loc) (ls : Array Slot), i + n = 8 → sw_H D M2 a (sg_comes σ i) F → sw_fr F M M2 → hp_H D B M2 H → va_S (hp_ub B) s.heap H locs → lv_has ls 3 [(1, .int (nI i)), (0, .ref a)] → W p l e rm_Sw_takeOfferedCells s m args below meth cd H locs 0 0 Q (F0 m 2 ls []) := by
    intro n
    induction n with
    | zero =>
      intro i M2 H locs ls hn hs hfr hH hS hl
      have e8 : i = 8 := by omega
      rw [e8] at hs
      refine lv_iload_n hx hb d_Sw_takeOfferedCells_2 rfl (lv_at hl 0 rfl) ?_
      refine lv_bipush (v := 8) hx hb d_Sw_takeOfferedCells_3 (by decide) ?_
      refine lv_icmp_ge (tgt := 55) hx hb d_Sw_takeOfferedCells_5 (by decide) (fun c_1 => ?_) (fun c_1 => absurd (nI_le (a := 8) (by omega) (by omega)) c_1)
      exact hp_vret hx hb hr hlocks hQ hK hH hS (Nat.le_of_ble_eq_true rfl) (Nat.le_of_ble_eq_true rfl) d_Sw_takeOfferedCells_55 ⟨hs, hfr⟩
    | succ n ih =>
      intro i M2 H locs ls hn hs hfr hH hS hl
      have hi8 : i < 8 := by omega
      have hv := sg_inv_comes hinv (n := i) (by omega)
      have hstep : sg_comes σ (i + 1) = sg_come (sg_comes σ i) i := rfl
      obtain ⟨τ, eτ⟩ : ∃ z, z = sg_comes σ i := ⟨_, rfl⟩
      rw [← eτ] at hs hv hstep
      have hs0 := hs
      obtain ⟨aI, aO, fI, fO, oa, la, ip, op, sp, lp, LQ, ow, hP⟩ := hs
      have hP0 := hP
      obtain ⟨⟨h1, h2, h3⟩, ⟨w1, w2, w3⟩, hi, ho, hf⟩ := hP0
      obtain ⟨i1, i2, i3, i4⟩ := hi i hi8
      refine lv_iload_n hx hb d_Sw_takeOfferedCells_2 rfl (lv_at hl 0 rfl) ?_
      refine lv_bipush (v := 8) hx hb d_Sw_takeOfferedCells_3 (by decide) ?_
      refine lv_icmp_ge (tgt := 55) hx hb d_Sw_takeOfferedCells_5 (by decide) (fun c_2 => absurd c_2 (nI_ge (b := 8) (by omega) (by omega))) (fun c_2 => ?_)
      refine lv_aload_n hx hb d_Sw_takeOfferedCells_8 rfl (lv_at hl 1 rfl) ?_
      refine hp_get hx hb hts iw_Sw hown hK hH h1 rfl 0 (by decide) (hts _ kw_14) (v := .ref aI) rfl d_Sw_takeOfferedCells_9 ?_
      refine lv_iload_n hx hb d_Sw_takeOfferedCells_12 rfl (lv_at hl 0 rfl) ?_
      refine hp_aald hx hb hK hH h2 2 rfl i rfl hi8 (by decide) i1 d_Sw_takeOfferedCells_13 ?_
      refine hp_get hx hb hts iw_In hown hK hH i2 rfl 0 (by decide) (hts _ kw_79) (v := va_rf (oa i)) rfl d_Sw_takeOfferedCells_14 ?_
      refine hp_astore_n (lv' := [(2, va_rf (oa i)), (1, .int (nI i)), (0, .ref a)]) hx hb d_Sw_takeOfferedCells_17 rfl hl (by decide) rfl (fun ls hl => ?_)
      refine hp_aload_n hx hb d_Sw_takeOfferedCells_18 rfl (lv_at hl 0 rfl) ?_
      refine hp_ifnull (tgt := 49) hx hb d_Sw_takeOfferedCells_19 (by decide) (fun c_3 => ?_) (fun q_4 c_3 => ?_)
      · rw [c_3] at i4
        have hof := sw_one_no i4
        refine lv_iinc (v := nI (i + 1)) (lv' := [(1, .int (nI (i + 1))), (2, va_rf (oa i)), (0, .ref a)]) hx hb d_Sw_takeOfferedCells_49 hl (k := 1) rfl (nI_1 i) (by decide) rfl (fun ls hl => ?_)
        refine lv_goto (tgt := 2) hx hb d_Sw_takeOfferedCells_52 (by decide) ?_
        exact ih (i + 1) M2 _ _ ls (by omega) (by rw [hstep]; unfold sg_come; rw [hof]; exact hs0) hfr hH hS (lv_sub hl [0, 2] rfl)
      · rw [c_3] at i4 hl
        obtain ⟨d, e1, e2, e3⟩ := sw_one_yes i4
        replace hl : lv_has ls 3 [(2, .ref q_4), (1, .int (nI i)), (0, .ref a)] := hl
        have f_5 : M2 (ip i) = some (sw_i (some q_4) (nI (sg_held τ i))) := by rw [← c_3]; exact i2
        obtain ⟨d1, d2, d3, d4, d5, d6⟩ := (hv.2.1 i hi8).2 d e1
        obtain ⟨o1, o2, o3, ⟨ofs, o4, o4'⟩, o5, ⟨ofl, o6, o6'⟩, o7, ⟨o8, o9, o10⟩, o11⟩ := ho (sg_co d) d2
        refine lv_aload_n hx hb d_Sw_takeOfferedCells_22 rfl (lv_at hl 2 rfl) ?_
        refine hp_get hx hb hts iw_Sw hown hK hH h1 rfl 0 (by decide) (hts _ kw_14) (v := .ref aI) rfl d_Sw_takeOfferedCells_23 ?_
        refine lv_iload_n hx hb d_Sw_takeOfferedCells_26 rfl (lv_at hl 1 rfl) ?_
        refine hp_aald hx hb hK hH h2 2 rfl i rfl hi8 (by decide) i1 d_Sw_takeOfferedCells_27 ?_
        refine lv_null hx hb d_Sw_takeOfferedCells_28 ?_
        refine hp_put hx hb hts iw_In t_In t_In_ok n_In hown hK hH hS hB f_5 rfl 0 (by decide) (hts _ kw_79) rfl  (v := .null) rfl rfl (Nat.le_of_ble_eq_true rfl) (fs' := [.null, .int (nI (sg_held τ i))]) rfl d_Sw_takeOfferedCells_29 (fun M_6 H locs eM_6 hH hS => ?_)
        have f_7 : M_6 (ip i) = some (.inr (ix_in, [.null, .int (nI (sg_held τ i))])) := by rw [eM_6]; exact va_up_self _ _ _
        have f_8 : M_6 a = some (.inr (ix_sw, [.ref aI, .ref aO, .int (sg_sl τ), .long (lN (sg_ac τ))])) := by rw [eM_6, va_up_ne _ _ (hp_ne ix_sw ix_in h1 f_5 rfl rfl (by decide))]; exact h1
        have f_9 : M_6 aI = some (hp_aq D 12 8 fI) := by rw [eM_6, va_up_ne _ _ (hp_ne 102 ix_in h2 f_5 rfl rfl (by decide))]; exact h2
        have f_10 : M_6 aO = some (hp_aq D 13 8 fO) := by rw [eM_6, va_up_ne _ _ (hp_ne 102 ix_in h3 f_5 rfl rfl (by decide))]; exact h3
        have f_11 : M_6 q_4 = some (.inr (ix_ce, [.int (nI (sg_ci d)), .int (nI (sg_co d)), .int (nI (sg_cg d)), .int (sg_ct d), .long (lN (sg_cs d)), .int (sg_cc d), .long (sg_cm d), .null])) := by rw [eM_6, va_up_ne _ _ (hp_ne ix_ce ix_in e2 f_5 rfl rfl (by decide))]; exact e2
        have f_12 : M_6 (op (sg_co d)) = some (.inr (ix_ou, [.int (sg_kd τ (sg_co d)), .ref (sp (sg_co d)), .ref (lp (sg_co d)), va_rf (sw_hd (LQ (sg_co d)) none), .int (nI (sg_qu τ (sg_co d)).length), va_rf (la (sg_co d))])) := by rw [eM_6, va_up_ne _ _ (hp_ne ix_ou ix_in o2 f_5 rfl rfl (by decide))]; exact o2
        have f_13 : M_6 (sp (sg_co d)) = some (hp_ai D 8 ofs) := by rw [eM_6, va_up_ne _ _ (hp_ne 100 ix_in o4 f_5 rfl rfl (by decide))]; exact o4
        have f_14 : M_6 (lp (sg_co d)) = some (hp_al D 8 ofl) := by rw [eM_6, va_up_ne _ _ (hp_ne 101 ix_in o6 f_5 rfl rfl (by decide))]; exact o6
        refine lv_aload_n hx hb d_Sw_takeOfferedCells_32 rfl (lv_at hl 2 rfl) ?_
        refine hp_get hx hb hts iw_Sw hown hK hH f_8 rfl 1 (by decide) (hts _ kw_5) (v := .ref aO) rfl d_Sw_takeOfferedCells_33 ?_
        refine lv_aload_n hx hb d_Sw_takeOfferedCells_36 rfl (lv_at hl 0 rfl) ?_
        refine hp_get hx hb hts iw_Ce hown hK hH f_11 rfl 1 (by decide) (hts _ kw_80) (v := .int (nI (sg_co d))) rfl d_Sw_takeOfferedCells_37 ?_
        refine hp_aald hx hb hK hH f_10 3 rfl (sg_co d) rfl d2 (by decide) o1 d_Sw_takeOfferedCells_40 ?_
        refine lv_aload_n hx hb d_Sw_takeOfferedCells_41 rfl (lv_at hl 0 rfl) ?_
        refine lv_aload_n hx hb d_Sw_takeOfferedCells_42 rfl (lv_at hl 2 rfl) ?_
        refine hp_get hx hb hts iw_Sw hown hK hH f_8 rfl 2 (by decide) (hts _ kw_0) (v := .int (sg_sl τ)) rfl d_Sw_takeOfferedCells_43 ?_
        have hxo : ∀ y ∈ LQ (sg_co d), y ≠ q_4 := fun y hy z => by have := o10 y hy; rw [z, e3] at this; omega
        have hch : sw_sg M_6 (LQ (sg_co d)) (sg_qu τ (sg_co d)) none := sw_sg_kept o8 (fun y hy => by rw [eM_6, va_up_ne _ _ (fun z => by have := o10 y hy; rw [z, i3] at this; omega)])
        refine hp_callv (hp_runV (b := op (sg_co d)) (As := [.ref q_4, .int (sg_sl τ)]) (rest := []) hx hb hml hown (cn_Ou_takeIn l D B M_6 (op (sg_co d)) (sg_kd τ (sg_co d)) (sp (sg_co d)) (lp (sg_co d)) (nI (sg_qu τ (sg_co d)).length) (la (sg_co d)) (LQ (sg_co d)) (sg_qu τ (sg_co d)) q_4 d none (sg_sl τ) ofl ofs f_12 hch f_11 (fun hm => hxo _ hm rfl) o9 ((hv.1 (sg_co d) d2).1) d3 (fun c hc => ((hv.1 (sg_co d) d2).2.2.2 c hc).2.2.1) f_14 f_13) (hp_cwV 2 hts kw_98 kw_100 kw_101 kw_34 kw_99 rfl rfl (by decide +kernel) ⟨(Nat.le_of_ble_eq_true rfl), (Nat.le_of_ble_eq_true rfl)⟩) hK hH f_12 rfl rfl hl.1 rfl (Nat.le_of_ble_eq_true rfl) d_Sw_takeOfferedCells_46 ⟨(Nat.le_of_ble_eq_true rfl), (Nat.le_of_ble_eq_true rfl)⟩) hS (fun M_16 H locs w_17 hH hS => ?_)
        obtain ⟨L', g, g1, p1, p2, p3, p4, p5, p6⟩ := w_17
        obtain ⟨r1, r2⟩ := sw_H_come hP hv hi8 e1 c_3 o6' o4' rfl g1 p1 p2 p3 p4 p5 (fun y b1 b2 b3 b4 => (p6 y b1 b2 b3 b4).trans (by rw [eM_6]; first | done | rfl))
        rw [← hstep] at r1
        refine lv_iinc (v := nI (i + 1)) (lv' := [(1, .int (nI (i + 1))), (2, .ref q_4), (0, .ref a)]) hx hb d_Sw_takeOfferedCells_49 hl (k := 1) rfl (nI_1 i) (by decide) rfl (fun ls hl => ?_)
        refine lv_goto (tgt := 2) hx hb d_Sw_takeOfferedCells_52 (by decide) ?_
        exact ih (i + 1) M_16 _ _ ls (by omega) r1 (sw_fr_tr hfr r2) hH hS (lv_sub hl [0, 2] rfl)
  exact Lp 8 0 M _ _ ls (by omega) hsw sw_fr_rf hH hS (lv_sub hl [0, 1] rfl)
