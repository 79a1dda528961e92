theorem kw_102 : Cond.methodLink R_Sw 113 y_Ou_sendHead ∈ wd_T := wd_in (List.mem_of_getElem? (i := 195) (by decide +kernel)) rfl
theorem kw_103 : Cond.code y_Ou_sendHead b_Ou_sendHead 1 (some (.object "EvenSwitch$Cell")) ∈ wd_T := wd_in (List.mem_of_getElem? (i := 198) (by decide +kernel)) rfl
theorem kw_104 : Cond.instanceMethod y_Ou_sendHead ∈ wd_T := wd_in (List.mem_of_getElem? (i := 196) (by decide +kernel)) rfl
theorem kw_105 : Cond.selects R_Ou y_Ou_sendHead y_Ou_sendHead ∈ wd_T := wd_in (List.mem_of_getElem? (i := 197) (by decide +kernel)) rfl
theorem kw_106 : Cond.methodLink R_Sw 61 y_Sw_takeOfferedCells ∈ wd_T := wd_in (List.mem_of_getElem? (i := 167) (by decide +kernel)) rfl
theorem kw_107 : Cond.code y_Sw_takeOfferedCells b_Sw_takeOfferedCells 3 none ∈ wd_T := wd_in (List.mem_of_getElem? (i := 170) (by decide +kernel)) rfl
theorem kw_108 : Cond.instanceMethod y_Sw_takeOfferedCells ∈ wd_T := wd_in (List.mem_of_getElem? (i := 169) (by decide +kernel)) rfl
theorem kw_109 : Cond.selects R_Sw y_Sw_takeOfferedCells y_Sw_takeOfferedCells ∈ wd_T := wd_in (List.mem_of_getElem? (i := 1) (by decide +kernel)) rfl
theorem kw_110 : Cond.methodLink R_Sw 64 y_Sw_sendFirstCells ∈ wd_T := wd_in (List.mem_of_getElem? (i := 191) (by decide +kernel)) rfl
theorem kw_111 : Cond.code y_Sw_sendFirstCells b_Sw_sendFirstCells 4 (some .int) ∈ wd_T := wd_in (List.mem_of_getElem? (i := 194) (by decide +kernel)) rfl
theorem kw_112 : Cond.instanceMethod y_Sw_sendFirstCells ∈ wd_T := wd_in (List.mem_of_getElem? (i := 193) (by decide +kernel)) rfl
theorem kw_113 : Cond.selects R_Sw y_Sw_sendFirstCells y_Sw_sendFirstCells ∈ wd_T := wd_in (List.mem_of_getElem? (i := 5) (by decide +kernel)) rfl
theorem d_Sw_sendFirstCells_0 : decode b_Sw_sendFirstCells 0 = .ok (.iconst 0, 1) := by decide +kernel
theorem d_Sw_sendFirstCells_1 : decode b_Sw_sendFirstCells 1 = .ok (.istore_n 1, 1) := by decide +kernel
theorem d_Sw_sendFirstCells_2 : decode b_Sw_sendFirstCells 2 = .ok (.iconst 0, 1) := by decide +kernel
theorem d_Sw_sendFirstCells_3 : decode b_Sw_sendFirstCells 3 = .ok (.istore_n 2, 1) := by decide +kernel
theorem d_Sw_sendFirstCells_4 : decode b_Sw_sendFirstCells 4 = .ok (.iload_n 2, 1) := by decide +kernel
theorem d_Sw_sendFirstCells_5 : decode b_Sw_sendFirstCells 5 = .ok (.bipush 8, 2) := by decide +kernel
theorem d_Sw_sendFirstCells_7 : decode b_Sw_sendFirstCells 7 = .ok (.if_icmp .ge 44, 3) := by decide +kernel
theorem d_Sw_sendFirstCells_10 : decode b_Sw_sendFirstCells 10 = .ok (.aload_n 0, 1) := by decide +kernel
theorem d_Sw_sendFirstCells_11 : decode b_Sw_sendFirstCells 11 = .ok (.getfield 17, 3) := by decide +kernel
theorem d_Sw_sendFirstCells_14 : decode b_Sw_sendFirstCells 14 = .ok (.iload_n 2, 1) := by decide +kernel
theorem d_Sw_sendFirstCells_15 : decode b_Sw_sendFirstCells 15 = .ok (.aaload, 1) := by decide +kernel
theorem d_Sw_sendFirstCells_16 : decode b_Sw_sendFirstCells 16 = .ok (.invokevirtual 113, 3) := by decide +kernel
theorem d_Sw_sendFirstCells_19 : decode b_Sw_sendFirstCells 19 = .ok (.astore_n 3, 1) := by decide +kernel
theorem d_Sw_sendFirstCells_20 : decode b_Sw_sendFirstCells 20 = .ok (.aload_n 3, 1) := by decide +kernel
theorem d_Sw_sendFirstCells_21 : decode b_Sw_sendFirstCells 21 = .ok (.ifnull 24, 3) := by decide +kernel
theorem d_Sw_sendFirstCells_24 : decode b_Sw_sendFirstCells 24 = .ok (.aload_n 0, 1) := by decide +kernel
theorem d_Sw_sendFirstCells_25 : decode b_Sw_sendFirstCells 25 = .ok (.getfield 11, 3) := by decide +kernel
theorem d_Sw_sendFirstCells_28 : decode b_Sw_sendFirstCells 28 = .ok (.aload_n 3, 1) := by decide +kernel
theorem d_Sw_sendFirstCells_29 : decode b_Sw_sendFirstCells 29 = .ok (.getfield 78, 3) := by decide +kernel
theorem d_Sw_sendFirstCells_32 : decode b_Sw_sendFirstCells 32 = .ok (.aaload, 1) := by decide +kernel
theorem d_Sw_sendFirstCells_33 : decode b_Sw_sendFirstCells 33 = .ok (.dup, 1) := by decide +kernel
theorem d_Sw_sendFirstCells_34 : decode b_Sw_sendFirstCells 34 = .ok (.getfield 49, 3) := by decide +kernel
theorem d_Sw_sendFirstCells_37 : decode b_Sw_sendFirstCells 37 = .ok (.iconst 1, 1) := by decide +kernel
theorem d_Sw_sendFirstCells_38 : decode b_Sw_sendFirstCells 38 = .ok (.isub, 1) := by decide +kernel
theorem d_Sw_sendFirstCells_39 : decode b_Sw_sendFirstCells 39 = .ok (.putfield 49, 3) := by decide +kernel
theorem d_Sw_sendFirstCells_42 : decode b_Sw_sendFirstCells 42 = .ok (.iinc 1 1, 3) := by decide +kernel
theorem d_Sw_sendFirstCells_45 : decode b_Sw_sendFirstCells 45 = .ok (.iinc 2 1, 3) := by decide +kernel
theorem d_Sw_sendFirstCells_48 : decode b_Sw_sendFirstCells 48 = .ok (.goto (-44), 3) := by decide +kernel
theorem d_Sw_sendFirstCells_51 : decode b_Sw_sendFirstCells 51 = .ok (.iload_n 1, 1) := by decide +kernel
theorem d_Sw_sendFirstCells_52 : decode b_Sw_sendFirstCells 52 = .ok (.ireturn, 1) := by decide +kernel
theorem d_Sw_slot_0 : decode b_Sw_slot 0 = .ok (.aload_n 0, 1) := by decide +kernel
theorem d_Sw_slot_1 : decode b_Sw_slot 1 = .ok (.invokevirtual 61, 3) := by decide +kernel
theorem d_Sw_slot_4 : decode b_Sw_slot 4 = .ok (.aload_n 0, 1) := by decide +kernel
theorem d_Sw_slot_5 : decode b_Sw_slot 5 = .ok (.invokevirtual 64, 3) := by decide +kernel
theorem d_Sw_slot_8 : decode b_Sw_slot 8 = .ok (.istore_n 1, 1) := by decide +kernel
theorem d_Sw_slot_9 : decode b_Sw_slot 9 = .ok (.aload_n 0, 1) := by decide +kernel
theorem d_Sw_slot_10 : decode b_Sw_slot 10 = .ok (.dup, 1) := by decide +kernel
theorem d_Sw_slot_11 : decode b_Sw_slot 11 = .ok (.getfield 68, 3) := by decide +kernel
theorem d_Sw_slot_14 : decode b_Sw_slot 14 = .ok (.iconst 1, 1) := by decide +kernel
theorem d_Sw_slot_15 : decode b_Sw_slot 15 = .ok (.iadd, 1) := by decide +kernel
theorem d_Sw_slot_16 : decode b_Sw_slot 16 = .ok (.putfield 68, 3) := by decide +kernel
theorem d_Sw_slot_19 : decode b_Sw_slot 19 = .ok (.iload_n 1, 1) := by decide +kernel
theorem d_Sw_slot_20 : decode b_Sw_slot 20 = .ok (.ireturn, 1) := by decide +kernel
abbrev rm_Sw_sendFirstCells : Room := { frames := 3, cells := 0, slots := 0, locals := 64 }
set_option maxHeartbeats 4000000 in
set_option maxRecDepth 100000 in
theorem cn_Sw_sendFirstCells (l : Launch) (D : va_G) (B : Nat) (M : hp_M) (a : Nat) (σ : sg_S) (F : Nat → Prop) (hsw : sw_H D M a σ F) (hinv : sg_inv σ) : Met l y_Sw_sendFirstCells (wd_c y_Sw_sendFirstCells b_Sw_sendFirstCells 4 (some .int)) rm_Sw_sendFirstCells (va_Pc [.ref a] (hp_C D B M)) (va_Qi (fun (r : Int32) (M1 : hp_M) => r = nI (sg_count σ 8) ∧ sw_H D M1 a (sg_sends σ 8) F ∧ sw_fr F M M1) (hp_C D B) (hp_ub B)) 0 0 (hp_ub B) := by
  refine hp_met (by decide) (Nat.le_of_ble_eq_true rfl) ?_
  intro p e s m args below meth cd ls Q hQ hx hb hr hts hown hlocks hnm hml hK hH hS hB hl
  replace hl : lv_has ls 4 [(0, .ref a)] := hl
  refine lv_iconst (v := 0) hx hb d_Sw_sendFirstCells_0 (by decide) ?_
  refine lv_istore_n (lv' := [(1, .int 0), (0, .ref a)]) hx hb d_Sw_sendFirstCells_1 rfl hl (by decide) rfl (fun ls hl => ?_)
  refine lv_iconst (v := 0) hx hb d_Sw_sendFirstCells_2 (by decide) ?_
  refine lv_istore_n (lv' := [(2, .int 0), (1, .int 0), (0, .ref a)]) hx hb d_Sw_sendFirstCells_3 rfl hl (by decide) rfl (fun ls hl => ?_)
  have Lp : ∀ (n i : Nat) (M2 : hp_M) (H : Heap) (locs : List Loc) (ls : Array Slot), i + n = 8 → sw_H D M2 a (sg_sends σ i) F → sw_fr F M M2 → hp_H D B M2 H → va_S (hp_ub B) s.heap H locs → lv_has ls 4 [(2, .int (nI i)), (1, .int (nI (sg_count σ i))), (0, .ref a)] → W p l e rm_Sw_sendFirstCells s m args below meth cd H locs 0 0 Q (F0 m 4 ls []) := by
    intro n
    induction n with
    | zero =>
      intro i M2 H locs ls hn hs hfr hH hS hl
      have e8 : i = 8 := by omega
      subst e8
      refine lv_iload_n hx hb d_Sw_sendFirstCells_4 rfl (lv_at hl 0 rfl) ?_
      refine lv_bipush (v := 8) hx hb d_Sw_sendFirstCells_5 (by decide) ?_
      refine lv_icmp_ge (tgt := 51) hx hb d_Sw_sendFirstCells_7 (by decide) (fun c_1 => ?_) (fun c_1 => absurd (nI_le (a := 8) (by omega) (by omega)) c_1)
      refine lv_iload_n hx hb d_Sw_sendFirstCells_51 rfl (lv_at hl 1 rfl) ?_
      exact hp_iret hx hb hr hlocks hQ hK hH hS (Nat.le_of_ble_eq_true rfl) (Nat.le_of_ble_eq_true rfl) d_Sw_sendFirstCells_52 ⟨rfl, hs, hfr⟩
    | succ n ih =>
      intro i M2 H locs ls hn hs hfr hH hS hl
      have hi8 : i < 8 := by omega
      have hv := sg_inv_sends hinv (n := i) (by omega)
      have hstep : sg_sends σ (i + 1) = sg_send (sg_sends σ i) i := rfl
      have hqi := sg_qu_sends σ (Nat.le_refl i)
      obtain ⟨τ, eτ⟩ : ∃ z, z = sg_sends σ i := ⟨_, rfl⟩
      rw [← eτ] at hs hv hstep hqi
      obtain ⟨aI, aO, fI, fO, oa, la, ip, op, sp, lp, LQ, ow, hP⟩ := hs
      have hP0 := hP
      obtain ⟨⟨h1, h2, h3⟩, ⟨w1, w2, w3⟩, hi, ho, hf⟩ := hP0
      obtain ⟨o1, o2, o3, ⟨ofs, o4, o4'⟩, o5, ⟨ofl, o6, o6'⟩, o7, ⟨o8, o9, o10⟩, o11⟩ := ho i hi8
      rcases sw_q3 o8 with ⟨hq, eL⟩ | ⟨c, x, hq, eL, hxx⟩ | ⟨c, d, cs, x, y, ys, hq, eL, hxx⟩
      · rw [eL] at o2
        refine lv_iload_n hx hb d_Sw_sendFirstCells_4 rfl (lv_at hl 0 rfl) ?_
        refine lv_bipush (v := 8) hx hb d_Sw_sendFirstCells_5 (by decide) ?_
        refine lv_icmp_ge (tgt := 51) hx hb d_Sw_sendFirstCells_7 (by decide) (fun c_2 => absurd c_2 (nI_ge (b := 8) (by omega) (by omega))) (fun c_2 => ?_)
        refine lv_aload_n hx hb d_Sw_sendFirstCells_10 rfl (lv_at hl 2 rfl) ?_
        refine hp_get hx hb hts iw_Sw hown hK hH h1 rfl 1 (by decide) (hts _ kw_5) (v := .ref aO) rfl d_Sw_sendFirstCells_11 ?_
        refine lv_iload_n hx hb d_Sw_sendFirstCells_14 rfl (lv_at hl 0 rfl) ?_
        refine hp_aald hx hb hK hH h3 3 rfl i rfl hi8 (by decide) o1 d_Sw_sendFirstCells_15 ?_
        refine hp_callq (hp_runV (b := op i) (As := []) (rest := []) hx hb hml hown (cn_Ou_sendHead_0 l D B M2 (op i) (sg_kd τ i) (sp i) (lp i) (nI (sg_qu τ i).length) (la i) o2) (hp_cwV 0 hts kw_102 kw_104 kw_105 kw_34 kw_103 rfl rfl (by decide +kernel) ⟨(Nat.le_of_ble_eq_true rfl), (Nat.le_of_ble_eq_true rfl)⟩) hK hH o2 rfl rfl hl.1 rfl (Nat.le_of_ble_eq_true rfl) d_Sw_sendFirstCells_16 ⟨(Nat.le_of_ble_eq_true rfl), (Nat.le_of_ble_eq_true rfl)⟩) hS (fun r_3 M_4 H locs w_5 hH hS => ?_)
        obtain ⟨eR, eM⟩ := w_5
        rw [eR]
        obtain ⟨r1, r2⟩ := sw_H_send0 (M1 := M_4) hP hi8 hq eM
        rw [← hstep] at r1
        refine lv_astore_nN (lv' := [(3, .null), (2, .int (nI i)), (1, .int (nI (sg_count σ i))), (0, .ref a)]) hx hb d_Sw_sendFirstCells_19 rfl hl (by decide) rfl (fun ls hl => ?_)
        refine lv_aload_nN hx hb d_Sw_sendFirstCells_20 rfl (lv_at hl 0 rfl) ?_
        refine lv_ifnullN (tgt := 45) hx hb d_Sw_sendFirstCells_21 (by decide) ?_
        refine lv_iinc (v := nI (i + 1)) (lv' := [(2, .int (nI (i + 1))), (3, .null), (1, .int (nI (sg_count σ i))), (0, .ref a)]) hx hb d_Sw_sendFirstCells_45 hl (k := 1) rfl (nI_1 i) (by decide) rfl (fun ls hl => ?_)
        refine lv_goto (tgt := 4) hx hb d_Sw_sendFirstCells_48 (by decide) ?_
        exact ih (i + 1) M_4 _ _ ls (by omega) r1 (sw_fr_tr hfr r2) hH hS (by rw [sg_count_0 (hqi.symm.trans hq)]; exact lv_sub hl [0, 2, 3] rfl)
      · rw [eL] at o2
        have hcm : c ∈ sg_qu τ i := by rw [hq]; exact List.mem_cons_self
        have hc8 := ((hv.1 i hi8).2.2.2 c hcm).1
        obtain ⟨i1, i2, i3, i4⟩ := hi (sg_ci c) hc8
        refine lv_iload_n hx hb d_Sw_sendFirstCells_4 rfl (lv_at hl 0 rfl) ?_
        refine lv_bipush (v := 8) hx hb d_Sw_sendFirstCells_5 (by decide) ?_
        refine lv_icmp_ge (tgt := 51) hx hb d_Sw_sendFirstCells_7 (by decide) (fun c_6 => absurd c_6 (nI_ge (b := 8) (by omega) (by omega))) (fun c_6 => ?_)
        refine lv_aload_n hx hb d_Sw_sendFirstCells_10 rfl (lv_at hl 2 rfl) ?_
        refine hp_get hx hb hts iw_Sw hown hK hH h1 rfl 1 (by decide) (hts _ kw_5) (v := .ref aO) rfl d_Sw_sendFirstCells_11 ?_
        refine lv_iload_n hx hb d_Sw_sendFirstCells_14 rfl (lv_at hl 0 rfl) ?_
        refine hp_aald hx hb hK hH h3 3 rfl i rfl hi8 (by decide) o1 d_Sw_sendFirstCells_15 ?_
        refine hp_callq (hp_runV (b := op i) (As := []) (rest := []) hx hb hml hown (cn_Ou_sendHead_1 l D B M2 (op i) (sg_kd τ i) (sp i) (lp i) (nI (sg_qu τ i).length) (la i) x c ofl o2 hxx o6) (hp_cwV 0 hts kw_102 kw_104 kw_105 kw_34 kw_103 rfl rfl (by decide +kernel) ⟨(Nat.le_of_ble_eq_true rfl), (Nat.le_of_ble_eq_true rfl)⟩) hK hH o2 rfl rfl hl.1 rfl (Nat.le_of_ble_eq_true rfl) d_Sw_sendFirstCells_16 ⟨(Nat.le_of_ble_eq_true rfl), (Nat.le_of_ble_eq_true rfl)⟩) hS (fun r_7 M_8 H locs w_9 hH hS => ?_)
        obtain ⟨eR, g, hg, eM⟩ := w_9
        rw [eR]
        have f_10 : M_8 a = some (.inr (ix_sw, [.ref aI, .ref aO, .int (sg_sl τ), .long (lN (sg_ac τ))])) := by rw [eM, va_up_ne _ _ (hp_ne ix_sw 101 h1 o6 rfl rfl (by decide)), va_up_ne _ _ (hp_ne ix_sw ix_ce h1 hxx rfl rfl (by decide)), va_up_ne _ _ (hp_ne ix_sw ix_ou h1 o2 rfl rfl (by decide))]; exact h1
        have f_11 : M_8 aI = some (hp_aq D 12 8 fI) := by rw [eM, va_up_ne _ _ (hp_ne 102 101 h2 o6 rfl rfl (by decide)), va_up_ne _ _ (hp_ne 102 ix_ce h2 hxx rfl rfl (by decide)), va_up_ne _ _ (hp_ne 102 ix_ou h2 o2 rfl rfl (by decide))]; exact h2
        have f_12 : M_8 aO = some (hp_aq D 13 8 fO) := by rw [eM, va_up_ne _ _ (hp_ne 102 101 h3 o6 rfl rfl (by decide)), va_up_ne _ _ (hp_ne 102 ix_ce h3 hxx rfl rfl (by decide)), va_up_ne _ _ (hp_ne 102 ix_ou h3 o2 rfl rfl (by decide))]; exact h3
        have f_13 : M_8 (ip (sg_ci c)) = some (.inr (ix_in, [va_rf (oa (sg_ci c)), .int (nI (sg_held τ (sg_ci c)))])) := by rw [eM, va_up_ne _ _ (hp_ne ix_in 101 i2 o6 rfl rfl (by decide)), va_up_ne _ _ (hp_ne ix_in ix_ce i2 hxx rfl rfl (by decide)), va_up_ne _ _ (hp_ne ix_in ix_ou i2 o2 rfl rfl (by decide))]; exact i2
        have kx : M_8 x = some (sw_c c none) := by rw [eM, va_up_ne _ _ (hp_ne ix_ce 101 hxx o6 rfl rfl (by decide))]; exact va_up_self _ _ _
        have ko : M_8 (op i) = some (sw_o (sg_kd τ i) (sp i) (lp i) none (nI (sg_qu τ i).length - 1) (some x)) := by rw [eM, va_up_ne _ _ (hp_ne ix_ou 101 o2 o6 rfl rfl (by decide)), va_up_ne _ _ (hp_ne ix_ou ix_ce o2 hxx rfl rfl (by decide))]; exact va_up_self _ _ _
        have kl : M_8 (lp i) = some (hp_al D 8 g) := by rw [eM]; exact va_up_self _ _ _
        have hKe := (sg_held_send1 hq hi8 (sg_ci c)).symm
        rw [if_pos rfl] at hKe
        obtain ⟨K, eK⟩ : ∃ z, z = sg_held (sg_send1 τ i c []) (sg_ci c) := ⟨_, rfl⟩
        rw [← eK] at hKe
        refine lv_astore_n (lv' := [(3, .ref x), (2, .int (nI i)), (1, .int (nI (sg_count σ i))), (0, .ref a)]) hx hb d_Sw_sendFirstCells_19 rfl hl (by decide) rfl (fun ls hl => ?_)
        refine lv_aload_n hx hb d_Sw_sendFirstCells_20 rfl (lv_at hl 0 rfl) ?_
        refine lv_ifnull hx hb d_Sw_sendFirstCells_21 ?_
        refine lv_aload_n hx hb d_Sw_sendFirstCells_24 rfl (lv_at hl 3 rfl) ?_
        refine hp_get hx hb hts iw_Sw hown hK hH f_10 rfl 0 (by decide) (hts _ kw_14) (v := .ref aI) rfl d_Sw_sendFirstCells_25 ?_
        refine lv_aload_n hx hb d_Sw_sendFirstCells_28 rfl (lv_at hl 0 rfl) ?_
        refine hp_get hx hb hts iw_Ce hown hK hH kx rfl 0 (by decide) (hts _ kw_12) (v := .int (nI (sg_ci c))) rfl d_Sw_sendFirstCells_29 ?_
        refine hp_aald hx hb hK hH f_11 2 rfl (sg_ci c) rfl hc8 (by decide) i1 d_Sw_sendFirstCells_32 ?_
        refine lv_dup hx hb d_Sw_sendFirstCells_33 rfl ?_
        refine hp_get hx hb hts iw_In hown hK hH f_13 rfl 1 (by decide) (hts _ kw_15) (v := .int (nI (sg_held τ (sg_ci c)))) rfl d_Sw_sendFirstCells_34 ?_
        refine lv_iconst (v := 1) hx hb d_Sw_sendFirstCells_37 (by decide) ?_
        refine lv_isub hx hb d_Sw_sendFirstCells_38 ?_
        refine hp_ioi (v := nI K) (by rw [hKe]; exact nI_pred K) ?_
        refine hp_put hx hb hts iw_In t_In t_In_ok n_In hown hK hH hS hB f_13 rfl 1 (by decide) (hts _ kw_15) rfl  (v := .int (nI K)) rfl rfl (Nat.le_of_ble_eq_true rfl) (fs' := [va_rf (oa (sg_ci c)), .int (nI K)]) rfl d_Sw_sendFirstCells_39 (fun M_14 H locs eM_14 hH hS => ?_)
        have f_15 : M_14 (ip (sg_ci c)) = some (.inr (ix_in, [va_rf (oa (sg_ci c)), .int (nI K)])) := by rw [eM_14]; exact va_up_self _ _ _
        have f_16 : M_14 a = some (.inr (ix_sw, [.ref aI, .ref aO, .int (sg_sl τ), .long (lN (sg_ac τ))])) := by rw [eM_14, va_up_ne _ _ (hp_ne ix_sw ix_in f_10 f_13 rfl rfl (by decide))]; exact f_10
        have f_17 : M_14 aI = some (hp_aq D 12 8 fI) := by rw [eM_14, va_up_ne _ _ (hp_ne 102 ix_in f_11 f_13 rfl rfl (by decide))]; exact f_11
        have f_18 : M_14 aO = some (hp_aq D 13 8 fO) := by rw [eM_14, va_up_ne _ _ (hp_ne 102 ix_in f_12 f_13 rfl rfl (by decide))]; exact f_12
        have f_19 : M_14 x = some (.inr (ix_ce, [.int (nI (sg_ci c)), .int (nI (sg_co c)), .int (nI (sg_cg c)), .int (sg_ct c), .long (lN (sg_cs c)), .int (sg_cc c), .long (sg_cm c), .null])) := by rw [eM_14, va_up_ne _ _ (hp_ne ix_ce ix_in kx f_13 rfl rfl (by decide))]; exact kx
        have f_20 : M_14 (op i) = some (.inr (ix_ou, [.int (sg_kd τ i), .ref (sp i), .ref (lp i), .null, .int (nI (sg_qu τ i).length - 1), .ref x])) := by rw [eM_14, va_up_ne _ _ (hp_ne ix_ou ix_in ko f_13 rfl rfl (by decide))]; exact ko
        have f_21 : M_14 (lp i) = some (hp_al D 8 g) := by rw [eM_14, va_up_ne _ _ (hp_ne 101 ix_in kl f_13 rfl rfl (by decide))]; exact kl
        obtain ⟨r1, r2⟩ := sw_H_send1 (M1 := M_14) (xs := []) (cs := []) hP hi8 hq hc8 eL (fun j hj => by rw [if_pos rfl]; exact hg j hj) (N := nI (sg_qu τ i).length - 1) (by rw [hq]; exact nI_pred _) hKe f_20 f_21 f_19 f_15 (fun w b1 b2 b3 b4 => by rw [eM_14, va_up_ne _ _ b4, eM, va_up_ne _ _ b2, va_up_ne _ _ b3, va_up_ne _ _ b1])
        rw [← hstep] at r1
        refine lv_iinc (v := nI ((sg_count σ i) + 1)) (lv' := [(1, .int (nI ((sg_count σ i) + 1))), (3, .ref x), (2, .int (nI i)), (0, .ref a)]) hx hb d_Sw_sendFirstCells_42 hl (k := 2) rfl (nI_1 (sg_count σ i)) (by decide) rfl (fun ls hl => ?_)
        refine lv_iinc (v := nI (i + 1)) (lv' := [(2, .int (nI (i + 1))), (1, .int (nI ((sg_count σ i) + 1))), (3, .ref x), (0, .ref a)]) hx hb d_Sw_sendFirstCells_45 hl (k := 2) rfl (nI_1 i) (by decide) rfl (fun ls hl => ?_)
        refine lv_goto (tgt := 4) hx hb d_Sw_sendFirstCells_48 (by decide) ?_
        exact ih (i + 1) M_14 _ _ ls (by omega) r1 (sw_fr_tr hfr r2) hH hS (by rw [sg_count_1 (hqi.symm.trans hq)]; exact lv_sub hl [0, 1, 3] rfl)
      · rw [eL] at o2
        have hcm : c ∈ sg_qu τ i := by rw [hq]; exact List.mem_cons_self
        have hc8 := ((hv.1 i hi8).2.2.2 c hcm).1
        obtain ⟨i1, i2, i3, i4⟩ := hi (sg_ci c) hc8
        refine lv_iload_n hx hb d_Sw_sendFirstCells_4 rfl (lv_at hl 0 rfl) ?_
        refine lv_bipush (v := 8) hx hb d_Sw_sendFirstCells_5 (by decide) ?_
        refine lv_icmp_ge (tgt := 51) hx hb d_Sw_sendFirstCells_7 (by decide) (fun c_22 => absurd c_22 (nI_ge (b := 8) (by omega) (by omega))) (fun c_22 => ?_)
        refine lv_aload_n hx hb d_Sw_sendFirstCells_10 rfl (lv_at hl 2 rfl) ?_
        refine hp_get hx hb hts iw_Sw hown hK hH h1 rfl 1 (by decide) (hts _ kw_5) (v := .ref aO) rfl d_Sw_sendFirstCells_11 ?_
        refine lv_iload_n hx hb d_Sw_sendFirstCells_14 rfl (lv_at hl 0 rfl) ?_
        refine hp_aald hx hb hK hH h3 3 rfl i rfl hi8 (by decide) o1 d_Sw_sendFirstCells_15 ?_
        refine hp_callq (hp_runV (b := op i) (As := []) (rest := []) hx hb hml hown (cn_Ou_sendHead_2 l D B M2 (op i) (sg_kd τ i) (sp i) (lp i) (nI (sg_qu τ i).length) (la i) x c ofl y o2 hxx o6) (hp_cwV 0 hts kw_102 kw_104 kw_105 kw_34 kw_103 rfl rfl (by decide +kernel) ⟨(Nat.le_of_ble_eq_true rfl), (Nat.le_of_ble_eq_true rfl)⟩) hK hH o2 rfl rfl hl.1 rfl (Nat.le_of_ble_eq_true rfl) d_Sw_sendFirstCells_16 ⟨(Nat.le_of_ble_eq_true rfl), (Nat.le_of_ble_eq_true rfl)⟩) hS (fun r_23 M_24 H locs w_25 hH hS => ?_)
        obtain ⟨eR, eM⟩ := w_25
        rw [eR]
        have f_26 : M_24 a = some (.inr (ix_sw, [.ref aI, .ref aO, .int (sg_sl τ), .long (lN (sg_ac τ))])) := by rw [eM, va_up_ne _ _ (hp_ne ix_sw ix_ce h1 hxx rfl rfl (by decide)), va_up_ne _ _ (hp_ne ix_sw ix_ou h1 o2 rfl rfl (by decide))]; exact h1
        have f_27 : M_24 aI = some (hp_aq D 12 8 fI) := by rw [eM, va_up_ne _ _ (hp_ne 102 ix_ce h2 hxx rfl rfl (by decide)), va_up_ne _ _ (hp_ne 102 ix_ou h2 o2 rfl rfl (by decide))]; exact h2
        have f_28 : M_24 aO = some (hp_aq D 13 8 fO) := by rw [eM, va_up_ne _ _ (hp_ne 102 ix_ce h3 hxx rfl rfl (by decide)), va_up_ne _ _ (hp_ne 102 ix_ou h3 o2 rfl rfl (by decide))]; exact h3
        have f_29 : M_24 (ip (sg_ci c)) = some (.inr (ix_in, [va_rf (oa (sg_ci c)), .int (nI (sg_held τ (sg_ci c)))])) := by rw [eM, va_up_ne _ _ (hp_ne ix_in ix_ce i2 hxx rfl rfl (by decide)), va_up_ne _ _ (hp_ne ix_in ix_ou i2 o2 rfl rfl (by decide))]; exact i2
        have kx : M_24 x = some (sw_c c none) := by rw [eM]; exact va_up_self _ _ _
        have ko : M_24 (op i) = some (sw_o (sg_kd τ i) (sp i) (lp i) (some y) (nI (sg_qu τ i).length - 1) (some x)) := by rw [eM, va_up_ne _ _ (hp_ne ix_ou ix_ce o2 hxx rfl rfl (by decide))]; exact va_up_self _ _ _
        have kl : M_24 (lp i) = some (hp_al D 8 ofl) := by rw [eM, va_up_ne _ _ (hp_ne 101 ix_ce o6 hxx rfl rfl (by decide)), va_up_ne _ _ (hp_ne 101 ix_ou o6 o2 rfl rfl (by decide))]; exact o6
        have hKe := (sg_held_send1 hq hi8 (sg_ci c)).symm
        rw [if_pos rfl] at hKe
        obtain ⟨K, eK⟩ : ∃ z, z = sg_held (sg_send1 τ i c (d :: cs)) (sg_ci c) := ⟨_, rfl⟩
        rw [← eK] at hKe
        refine lv_astore_n (lv' := [(3, .ref x), (2, .int (nI i)), (1, .int (nI (sg_count σ i))), (0, .ref a)]) hx hb d_Sw_sendFirstCells_19 rfl hl (by decide) rfl (fun ls hl => ?_)
        refine lv_aload_n hx hb d_Sw_sendFirstCells_20 rfl (lv_at hl 0 rfl) ?_
        refine lv_ifnull hx hb d_Sw_sendFirstCells_21 ?_
        refine lv_aload_n hx hb d_Sw_sendFirstCells_24 rfl (lv_at hl 3 rfl) ?_
        refine hp_get hx hb hts iw_Sw hown hK hH f_26 rfl 0 (by decide) (hts _ kw_14) (v := .ref aI) rfl d_Sw_sendFirstCells_25 ?_
        refine lv_aload_n hx hb d_Sw_sendFirstCells_28 rfl (lv_at hl 0 rfl) ?_
        refine hp_get hx hb hts iw_Ce hown hK hH kx rfl 0 (by decide) (hts _ kw_12) (v := .int (nI (sg_ci c))) rfl d_Sw_sendFirstCells_29 ?_
        refine hp_aald hx hb hK hH f_27 2 rfl (sg_ci c) rfl hc8 (by decide) i1 d_Sw_sendFirstCells_32 ?_
        refine lv_dup hx hb d_Sw_sendFirstCells_33 rfl ?_
        refine hp_get hx hb hts iw_In hown hK hH f_29 rfl 1 (by decide) (hts _ kw_15) (v := .int (nI (sg_held τ (sg_ci c)))) rfl d_Sw_sendFirstCells_34 ?_
        refine lv_iconst (v := 1) hx hb d_Sw_sendFirstCells_37 (by decide) ?_
        refine lv_isub hx hb d_Sw_sendFirstCells_38 ?_
        refine hp_ioi (v := nI K) (by rw [hKe]; exact nI_pred K) ?_
        refine hp_put hx hb hts iw_In t_In t_In_ok n_In hown hK hH hS hB f_29 rfl 1 (by decide) (hts _ kw_15) rfl  (v := .int (nI K)) rfl rfl (Nat.le_of_ble_eq_true rfl) (fs' := [va_rf (oa (sg_ci c)), .int (nI K)]) rfl d_Sw_sendFirstCells_39 (fun M_30 H locs eM_30 hH hS => ?_)
        have f_31 : M_30 (ip (sg_ci c)) = some (.inr (ix_in, [va_rf (oa (sg_ci c)), .int (nI K)])) := by rw [eM_30]; exact va_up_self _ _ _
        have f_32 : M_30 a = some (.inr (ix_sw, [.ref aI, .ref aO, .int (sg_sl τ), .long (lN (sg_ac τ))])) := by rw [eM_30, va_up_ne _ _ (hp_ne ix_sw ix_in f_26 f_29 rfl rfl (by decide))]; exact f_26
        have f_33 : M_30 aI = some (hp_aq D 12 8 fI) := by rw [eM_30, va_up_ne _ _ (hp_ne 102 ix_in f_27 f_29 rfl rfl (by decide))]; exact f_27
        have f_34 : M_30 aO = some (hp_aq D 13 8 fO) := by rw [eM_30, va_up_ne _ _ (hp_ne 102 ix_in f_28 f_29 rfl rfl (by decide))]; exact f_28
        have f_35 : M_30 x = some (.inr (ix_ce, [.int (nI (sg_ci c)), .int (nI (sg_co c)), .int (nI (sg_cg c)), .int (sg_ct c), .long (lN (sg_cs c)), .int (sg_cc c), .long (sg_cm c), .null])) := by rw [eM_30, va_up_ne _ _ (hp_ne ix_ce ix_in kx f_29 rfl rfl (by decide))]; exact kx
        have f_36 : M_30 (op i) = some (.inr (ix_ou, [.int (sg_kd τ i), .ref (sp i), .ref (lp i), .ref y, .int (nI (sg_qu τ i).length - 1), .ref x])) := by rw [eM_30, va_up_ne _ _ (hp_ne ix_ou ix_in ko f_29 rfl rfl (by decide))]; exact ko
        have f_37 : M_30 (lp i) = some (hp_al D 8 ofl) := by rw [eM_30, va_up_ne _ _ (hp_ne 101 ix_in kl f_29 rfl rfl (by decide))]; exact kl
        obtain ⟨r1, r2⟩ := sw_H_send1 (M1 := M_30) (xs := (y :: ys)) (cs := (d :: cs)) hP hi8 hq hc8 eL (fun j hj => by rw [if_neg (by intro z; cases z)]; exact o6' j hj) (N := nI (sg_qu τ i).length - 1) (by rw [hq]; exact nI_pred _) hKe f_36 f_37 f_35 f_31 (fun w b1 b2 b3 b4 => by rw [eM_30, va_up_ne _ _ b4, eM, va_up_ne _ _ b3, va_up_ne _ _ b1])
        rw [← hstep] at r1
        refine lv_iinc (v := nI ((sg_count σ i) + 1)) (lv' := [(1, .int (nI ((sg_count σ i) + 1))), (3, .ref x), (2, .int (nI i)), (0, .ref a)]) hx hb d_Sw_sendFirstCells_42 hl (k := 2) rfl (nI_1 (sg_count σ i)) (by decide) rfl (fun ls hl => ?_)
        refine lv_iinc (v := nI (i + 1)) (lv' := [(2, .int (nI (i + 1))), (1, .int (nI ((sg_count σ i) + 1))), (3, .ref x), (0, .ref a)]) hx hb d_Sw_sendFirstCells_45 hl (k := 2) rfl (nI_1 i) (by decide) rfl (fun ls hl => ?_)
        refine lv_goto (tgt := 4) hx hb d_Sw_sendFirstCells_48 (by decide) ?_
        exact ih (i + 1) M_30 _ _ ls (by omega) r1 (sw_fr_tr hfr r2) hH hS (by rw [sg_count_1 (hqi.symm.trans hq)]; exact lv_sub hl [0, 1, 3] rfl)
  exact Lp 8 0 M _ _ ls (by omega) hsw sw_fr_rf hH hS (lv_sub hl [0, 1, 2] rfl)
abbrev rm_Sw_slot : Room := { frames := 4, cells := 0, slots := 0, locals := 91 }
set_option maxHeartbeats 4000000 in
set_option maxRecDepth 100000 in
theorem cn_Sw_slot (l : Launch) (D : va_G) (B : Nat) (M : hp_M) (a : Nat) (σ : sg_S) (F : Nat → Prop) (hsw : sw_H D M a σ F) (hinv : sg_inv σ) : Met l y_Sw_slot (wd_c y_Sw_slot b_Sw_slot 2 (some .int)) rm_Sw_slot (va_Pc [.ref a] (hp_C D B M)) (va_Qi (fun (r : Int32) (M1 : hp_M) => r = nI (sg_count (sg_comes σ 8) 8) ∧ sw_H D M1 a (sg_slot σ) F ∧ sw_fr F M M1) (hp_C D B) (hp_ub B)) 0 0 (hp_ub B) := by
  refine hp_met (by decide) (Nat.le_of_ble_eq_true rfl) ?_
  intro p e s m args below meth cd ls Q hQ hx hb hr hts hown hlocks hnm hml hK hH hS hB hl
  replace hl : lv_has ls 2 [(0, .ref a)] := hl
  have hsw0 := hsw
  obtain ⟨aI, aO, fI, fO, oa, la, ip, op, sp, lp, LQ, ow, hP⟩ := hsw0
  have hP0 := hP
  obtain ⟨⟨h1, h2, h3⟩, ⟨w1, w2, w3⟩, hi, ho, hf⟩ := hP0
  refine lv_aload_n hx hb d_Sw_slot_0 rfl (lv_at hl 0 rfl) ?_
  refine hp_callv (hp_runV (b := a) (As := []) (rest := []) hx hb hml hown (cn_Sw_takeOfferedCells l D B M a σ F hsw hinv) (hp_cwV 0 hts kw_106 kw_108 kw_109 kw_2 kw_107 rfl rfl (by decide +kernel) ⟨(Nat.le_of_ble_eq_true rfl), (Nat.le_of_ble_eq_true rfl)⟩) hK hH h1 rfl rfl hl.1 rfl (Nat.le_of_ble_eq_true rfl) d_Sw_slot_1 ⟨(Nat.le_of_ble_eq_true rfl), (Nat.le_of_ble_eq_true rfl)⟩) hS (fun M_2 H locs w_3 hH hS => ?_)
  obtain ⟨ht, hf1⟩ := w_3
  have hv := sg_inv_comes hinv (Nat.le_refl 8)
  have ht0 := ht
  obtain ⟨aI, aO, fI, fO, oa, la, ip, op, sp, lp, LQ, ow, hP⟩ := ht0
  have hP0 := hP
  obtain ⟨⟨h1, h2, h3⟩, ⟨w1, w2, w3⟩, hi, ho, hf⟩ := hP0
  refine lv_aload_n hx hb d_Sw_slot_4 rfl (lv_at hl 0 rfl) ?_
  refine hp_calli (hp_runV (b := a) (As := []) (rest := []) hx hb hml hown (cn_Sw_sendFirstCells l D B M_2 a (sg_comes σ 8) F ht hv) (hp_cwV 0 hts kw_110 kw_112 kw_113 kw_2 kw_111 rfl rfl (by decide +kernel) ⟨(Nat.le_of_ble_eq_true rfl), (Nat.le_of_ble_eq_true rfl)⟩) hK hH h1 rfl rfl hl.1 rfl (Nat.le_of_ble_eq_true rfl) d_Sw_slot_5 ⟨(Nat.le_of_ble_eq_true rfl), (Nat.le_of_ble_eq_true rfl)⟩) hS (fun r_4 M_5 H locs w_6 hH hS => ?_)
  obtain ⟨eR, hs, hf2⟩ := w_6
  rw [eR]
  clear h1 h2 h3 w1 w2 w3 hi ho hf hP
  obtain ⟨aI, aO, fI, fO, oa, la, ip, op, sp, lp, LQ, ow, hP⟩ := hs
  have hP0 := hP
  obtain ⟨⟨h1, h2, h3⟩, ⟨w1, w2, w3⟩, hi, ho, hf⟩ := hP0
  refine lv_istore_n (lv' := [(1, .int (nI (sg_count (sg_comes σ 8) 8))), (0, .ref a)]) hx hb d_Sw_slot_8 rfl hl (by decide) rfl (fun ls hl => ?_)
  refine lv_aload_n hx hb d_Sw_slot_9 rfl (lv_at hl 1 rfl) ?_
  refine lv_dup hx hb d_Sw_slot_10 rfl ?_
  refine hp_get hx hb hts iw_Sw hown hK hH h1 rfl 2 (by decide) (hts _ kw_0) (v := .int (sg_sl (sg_sends (sg_comes σ 8) 8))) rfl d_Sw_slot_11 ?_
  refine lv_iconst (v := 1) hx hb d_Sw_slot_14 (by decide) ?_
  refine lv_iadd hx hb d_Sw_slot_15 ?_
  refine hp_put hx hb hts iw_Sw t_Sw t_Sw_ok n_Sw hown hK hH hS hB h1 rfl 2 (by decide) (hts _ kw_0) rfl  (v := .int ((sg_sl (sg_sends (sg_comes σ 8) 8)) + 1)) rfl rfl (Nat.le_of_ble_eq_true rfl) (fs' := [.ref aI, .ref aO, .int ((sg_sl (sg_sends (sg_comes σ 8) 8)) + 1), .long (lN (sg_ac (sg_sends (sg_comes σ 8) 8)))]) rfl d_Sw_slot_16 (fun M_7 H locs eM_7 hH hS => ?_)
  have f_8 : M_7 a = some (.inr (ix_sw, [.ref aI, .ref aO, .int ((sg_sl (sg_sends (sg_comes σ 8) 8)) + 1), .long (lN (sg_ac (sg_sends (sg_comes σ 8) 8)))])) := by rw [eM_7]; exact va_up_self _ _ _
  have f_9 : M_7 aI = some (hp_aq D 12 8 fI) := by rw [eM_7, va_up_ne _ _ (hp_ne 102 ix_sw h2 h1 rfl rfl (by decide))]; exact h2
  have f_10 : M_7 aO = some (hp_aq D 13 8 fO) := by rw [eM_7, va_up_ne _ _ (hp_ne 102 ix_sw h3 h1 rfl rfl (by decide))]; exact h3
  refine lv_iload_n hx hb d_Sw_slot_19 rfl (lv_at hl 0 rfl) ?_
  exact hp_iret hx hb hr hlocks hQ hK hH hS (Nat.le_of_ble_eq_true rfl) (Nat.le_of_ble_eq_true rfl) d_Sw_slot_20 (by obtain ⟨r1, r2⟩ := sw_H_tick hP eM_7; exact ⟨rfl, r1, sw_fr_tr hf1 (sw_fr_tr hf2 r2)⟩)
