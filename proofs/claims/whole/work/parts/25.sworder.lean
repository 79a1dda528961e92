theorem kw_79 : Cond.fieldLink R_Sw 45 "EvenSwitch$Input" "offered" "LEvenSwitch$Cell;" ∈ wd_T := wd_in (List.mem_of_getElem? (i := 45) (by decide +kernel)) rfl
theorem kw_80 : Cond.fieldLink R_Sw 106 "EvenSwitch$Cell" "output" "I" ∈ wd_T := wd_in (List.mem_of_getElem? (i := 133) (by decide +kernel)) rfl
theorem kw_81 : Cond.methodLink R_Sw 31 y_Sw_isOfferedFor ∈ wd_T := wd_in (List.mem_of_getElem? (i := 108) (by decide +kernel)) rfl
theorem kw_82 : Cond.code y_Sw_isOfferedFor b_Sw_isOfferedFor 4 (some .boolean) ∈ wd_T := wd_in (List.mem_of_getElem? (i := 111) (by decide +kernel)) rfl
theorem kw_83 : Cond.instanceMethod y_Sw_isOfferedFor ∈ wd_T := wd_in (List.mem_of_getElem? (i := 110) (by decide +kernel)) rfl
theorem kw_84 : Cond.selects R_Sw y_Sw_isOfferedFor y_Sw_isOfferedFor ∈ wd_T := wd_in (List.mem_of_getElem? (i := 0) (by decide +kernel)) rfl
theorem kw_85 : Cond.fieldLink R_Sw 34 "EvenSwitch$Output" "kind" "I" ∈ wd_T := wd_in (List.mem_of_getElem? (i := 63) (by decide +kernel)) rfl
theorem d_Sw_isOfferedFor_0 : decode b_Sw_isOfferedFor 0 = .ok (.iconst 0, 1) := by decide +kernel
theorem d_Sw_isOfferedFor_1 : decode b_Sw_isOfferedFor 1 = .ok (.istore_n 2, 1) := by decide +kernel
theorem d_Sw_isOfferedFor_2 : decode b_Sw_isOfferedFor 2 = .ok (.iload_n 2, 1) := by decide +kernel
theorem d_Sw_isOfferedFor_3 : decode b_Sw_isOfferedFor 3 = .ok (.bipush 8, 2) := by decide +kernel
theorem d_Sw_isOfferedFor_5 : decode b_Sw_isOfferedFor 5 = .ok (.if_icmp .ge 33, 3) := by decide +kernel
theorem d_Sw_isOfferedFor_8 : decode b_Sw_isOfferedFor 8 = .ok (.aload_n 0, 1) := by decide +kernel
theorem d_Sw_isOfferedFor_9 : decode b_Sw_isOfferedFor 9 = .ok (.getfield 11, 3) := by decide +kernel
theorem d_Sw_isOfferedFor_12 : decode b_Sw_isOfferedFor 12 = .ok (.iload_n 2, 1) := by decide +kernel
theorem d_Sw_isOfferedFor_13 : decode b_Sw_isOfferedFor 13 = .ok (.aaload, 1) := by decide +kernel
theorem d_Sw_isOfferedFor_14 : decode b_Sw_isOfferedFor 14 = .ok (.getfield 45, 3) := by decide +kernel
theorem d_Sw_isOfferedFor_17 : decode b_Sw_isOfferedFor 17 = .ok (.astore_n 3, 1) := by decide +kernel
theorem d_Sw_isOfferedFor_18 : decode b_Sw_isOfferedFor 18 = .ok (.aload_n 3, 1) := by decide +kernel
theorem d_Sw_isOfferedFor_19 : decode b_Sw_isOfferedFor 19 = .ok (.ifnull 13, 3) := by decide +kernel
theorem d_Sw_isOfferedFor_22 : decode b_Sw_isOfferedFor 22 = .ok (.aload_n 3, 1) := by decide +kernel
theorem d_Sw_isOfferedFor_23 : decode b_Sw_isOfferedFor 23 = .ok (.getfield 106, 3) := by decide +kernel
theorem d_Sw_isOfferedFor_26 : decode b_Sw_isOfferedFor 26 = .ok (.iload_n 1, 1) := by decide +kernel
theorem d_Sw_isOfferedFor_27 : decode b_Sw_isOfferedFor 27 = .ok (.if_icmp .ne 5, 3) := by decide +kernel
theorem d_Sw_isOfferedFor_30 : decode b_Sw_isOfferedFor 30 = .ok (.iconst 1, 1) := by decide +kernel
theorem d_Sw_isOfferedFor_31 : decode b_Sw_isOfferedFor 31 = .ok (.ireturn, 1) := by decide +kernel
theorem d_Sw_isOfferedFor_32 : decode b_Sw_isOfferedFor 32 = .ok (.iinc 2 1, 3) := by decide +kernel
theorem d_Sw_isOfferedFor_35 : decode b_Sw_isOfferedFor 35 = .ok (.goto (-33), 3) := by decide +kernel
theorem d_Sw_isOfferedFor_38 : decode b_Sw_isOfferedFor 38 = .ok (.iconst 0, 1) := by decide +kernel
theorem d_Sw_isOfferedFor_39 : decode b_Sw_isOfferedFor 39 = .ok (.ireturn, 1) := by decide +kernel
theorem d_Sw_setOrder_0 : decode b_Sw_setOrder 0 = .ok (.iload_n 1, 1) := by decide +kernel
theorem d_Sw_setOrder_1 : decode b_Sw_setOrder 1 = .ok (.invokestatic 23, 3) := by decide +kernel
theorem d_Sw_setOrder_4 : decode b_Sw_setOrder 4 = .ok (.ifCond .eq 12, 3) := by decide +kernel
theorem d_Sw_setOrder_7 : decode b_Sw_setOrder 7 = .ok (.iload_n 2, 1) := by decide +kernel
theorem d_Sw_setOrder_8 : decode b_Sw_setOrder 8 = .ok (.ifCond .lt 8, 3) := by decide +kernel
theorem d_Sw_setOrder_11 : decode b_Sw_setOrder 11 = .ok (.iload_n 2, 1) := by decide +kernel
theorem d_Sw_setOrder_12 : decode b_Sw_setOrder 12 = .ok (.iconst 2, 1) := by decide +kernel
theorem d_Sw_setOrder_13 : decode b_Sw_setOrder 13 = .ok (.if_icmp .le 5, 3) := by decide +kernel
theorem d_Sw_setOrder_16 : decode b_Sw_setOrder 16 = .ok (.iconst 0, 1) := by decide +kernel
theorem d_Sw_setOrder_17 : decode b_Sw_setOrder 17 = .ok (.ireturn, 1) := by decide +kernel
theorem d_Sw_setOrder_18 : decode b_Sw_setOrder 18 = .ok (.aload_n 0, 1) := by decide +kernel
theorem d_Sw_setOrder_19 : decode b_Sw_setOrder 19 = .ok (.getfield 17, 3) := by decide +kernel
theorem d_Sw_setOrder_22 : decode b_Sw_setOrder 22 = .ok (.iload_n 1, 1) := by decide +kernel
theorem d_Sw_setOrder_23 : decode b_Sw_setOrder 23 = .ok (.aaload, 1) := by decide +kernel
theorem d_Sw_setOrder_24 : decode b_Sw_setOrder 24 = .ok (.getfield 27, 3) := by decide +kernel
theorem d_Sw_setOrder_27 : decode b_Sw_setOrder 27 = .ok (.ifCond .gt 11, 3) := by decide +kernel
theorem d_Sw_setOrder_30 : decode b_Sw_setOrder 30 = .ok (.aload_n 0, 1) := by decide +kernel
theorem d_Sw_setOrder_31 : decode b_Sw_setOrder 31 = .ok (.iload_n 1, 1) := by decide +kernel
theorem d_Sw_setOrder_32 : decode b_Sw_setOrder 32 = .ok (.invokevirtual 31, 3) := by decide +kernel
theorem d_Sw_setOrder_35 : decode b_Sw_setOrder 35 = .ok (.ifCond .eq 5, 3) := by decide +kernel
theorem d_Sw_setOrder_38 : decode b_Sw_setOrder 38 = .ok (.iconst 0, 1) := by decide +kernel
theorem d_Sw_setOrder_39 : decode b_Sw_setOrder 39 = .ok (.ireturn, 1) := by decide +kernel
theorem d_Sw_setOrder_40 : decode b_Sw_setOrder 40 = .ok (.aload_n 0, 1) := by decide +kernel
theorem d_Sw_setOrder_41 : decode b_Sw_setOrder 41 = .ok (.getfield 17, 3) := by decide +kernel
theorem d_Sw_setOrder_44 : decode b_Sw_setOrder 44 = .ok (.iload_n 1, 1) := by decide +kernel
theorem d_Sw_setOrder_45 : decode b_Sw_setOrder 45 = .ok (.aaload, 1) := by decide +kernel
theorem d_Sw_setOrder_46 : decode b_Sw_setOrder 46 = .ok (.iload_n 2, 1) := by decide +kernel
theorem d_Sw_setOrder_47 : decode b_Sw_setOrder 47 = .ok (.putfield 34, 3) := by decide +kernel
theorem d_Sw_setOrder_50 : decode b_Sw_setOrder 50 = .ok (.iconst 1, 1) := by decide +kernel
theorem d_Sw_setOrder_51 : decode b_Sw_setOrder 51 = .ok (.ireturn, 1) := by decide +kernel
abbrev rm_Sw_isOfferedFor : Room := { frames := 0, cells := 0, slots := 0, locals := 0 }
set_option maxHeartbeats 4000000 in
set_option maxRecDepth 100000 in
theorem cn_Sw_isOfferedFor (l : Launch) (D : va_G) (B : Nat) (M : hp_M) (a : Nat) (σ : sg_S) (F : Nat → Prop) (o : Nat) (hsw : sw_H D M a σ F) (hinv : sg_inv σ) (ho8 : o < 8) : Met l y_Sw_isOfferedFor (wd_c y_Sw_isOfferedFor b_Sw_isOfferedFor 4 (some .boolean)) rm_Sw_isOfferedFor (va_Pc [.ref a, .int (nI o)] (hp_C D B M)) (va_Qi (fun (r : Int32) (M1 : hp_M) => M1 = M ∧ ((r = 1 ∧ sg_offTo σ o) ∨ (r = 0 ∧ ¬ sg_offTo σ o))) (hp_C D B) (hp_ub B)) 0 0 (hp_ub B) := by
  refine hp_met (by decide) (Nat.le_of_ble_eq_true rfl) ?_
  intro p e s m args below meth cd ls Q hQ hx hb hr hts hown hlocks hnm hml hK hH hS hB hl
  replace hl : lv_has ls 4 [(0, .ref a), (1, .int (nI o))] := hl
  have hsw0 := hsw
  obtain ⟨aI, aO, fI, fO, oa, la, ip, op, sp, lp, LQ, ow, ⟨h1, h2, h3⟩, ⟨w1, w2, w3⟩, hi, ho, hf⟩ := hsw0
  refine lv_iconst (v := 0) hx hb d_Sw_isOfferedFor_0 (by decide) ?_
  refine lv_istore_n (lv' := [(2, .int 0), (0, .ref a), (1, .int (nI o))]) hx hb d_Sw_isOfferedFor_1 rfl hl (by decide) rfl (fun ls hl => ?_)
  have Lp : ∀ (n i : Nat) (ls : Array Slot), i + n = 8 → (∀ j, j < i → ∀ c, sg_of σ j = some c → sg_co c ≠ o) → lv_has ls 4 [(2, .int (nI i)), (0, .ref a), (1, .int (nI o))] → W p l e rm_Sw_isOfferedFor s m args below meth cd s.heap [] 0 0 Q (F0 m 2 ls []) := by
    intro n
    induction n with
    | zero =>
      intro i ls hn hno hl
      refine lv_iload_n hx hb d_Sw_isOfferedFor_2 rfl (lv_at hl 0 rfl) ?_
      refine lv_bipush (v := 8) hx hb d_Sw_isOfferedFor_3 (by decide) ?_
      refine lv_icmp_ge (tgt := 38) hx hb d_Sw_isOfferedFor_5 (by decide) (fun c_1 => ?_) (fun c_1 => absurd (nI_le (a := 8) (by omega) (by omega)) c_1)
      refine lv_iconst (v := 0) hx hb d_Sw_isOfferedFor_38 (by decide) ?_
      exact hp_zret hx hb hr hlocks hQ hK hH hS (Nat.le_of_ble_eq_true rfl) (Nat.le_of_ble_eq_true rfl) rfl d_Sw_isOfferedFor_39 ⟨rfl, Or.inr ⟨rfl, fun ⟨j, hj, c, hc, e⟩ => hno j (by omega) c hc e⟩⟩
    | succ n ih =>
      intro i ls hn hno hl
      have hi8 : i < 8 := by omega
      obtain ⟨i1, i2, i3, i4⟩ := hi i hi8
      refine lv_iload_n hx hb d_Sw_isOfferedFor_2 rfl (lv_at hl 0 rfl) ?_
      refine lv_bipush (v := 8) hx hb d_Sw_isOfferedFor_3 (by decide) ?_
      refine lv_icmp_ge (tgt := 38) hx hb d_Sw_isOfferedFor_5 (by decide) (fun c_2 => absurd c_2 (nI_ge (b := 8) (by omega) (by omega))) (fun c_2 => ?_)
      refine lv_aload_n hx hb d_Sw_isOfferedFor_8 rfl (lv_at hl 1 rfl) ?_
      refine hp_get hx hb hts iw_Sw hown hK hH h1 rfl 0 (by decide) (hts _ kw_14) (v := .ref aI) rfl d_Sw_isOfferedFor_9 ?_
      refine lv_iload_n hx hb d_Sw_isOfferedFor_12 rfl (lv_at hl 0 rfl) ?_
      refine hp_aald hx hb hK hH h2 2 rfl i rfl hi8 (by decide) (hi i hi8).1 d_Sw_isOfferedFor_13 ?_
      refine hp_get hx hb hts iw_In hown hK hH i2 rfl 0 (by decide) (hts _ kw_79) (v := va_rf (oa i)) rfl d_Sw_isOfferedFor_14 ?_
      refine hp_astore_n (lv' := [(3, va_rf (oa i)), (2, .int (nI i)), (0, .ref a), (1, .int (nI o))]) hx hb d_Sw_isOfferedFor_17 rfl hl (by decide) rfl (fun ls hl => ?_)
      refine hp_aload_n hx hb d_Sw_isOfferedFor_18 rfl (lv_at hl 0 rfl) ?_
      refine hp_ifnull (tgt := 32) hx hb d_Sw_isOfferedFor_19 (by decide) (fun c_3 => ?_) (fun q_4 c_3 => ?_)
      · refine lv_iinc (v := nI (i + 1)) (lv' := [(2, .int (nI (i + 1))), (3, va_rf (oa i)), (0, .ref a), (1, .int (nI o))]) hx hb d_Sw_isOfferedFor_32 hl (k := 1) rfl (nI_1 i) (by decide) rfl (fun ls hl => ?_)
        refine lv_goto (tgt := 2) hx hb d_Sw_isOfferedFor_35 (by decide) ?_
        exact ih (i + 1) ls (by omega) (fun j hj c hc => by rcases Nat.lt_succ_iff_lt_or_eq.mp hj with w | w; exact hno j w c hc; subst w; rw [c_3] at i4; rw [sw_one_no i4] at hc; cases hc) (lv_sub hl [0, 2, 3] rfl)
      · rw [c_3] at i4 hl
        obtain ⟨d, e1, e2, e3⟩ := sw_one_yes i4
        replace hl : lv_has ls 4 [(3, .ref q_4), (2, .int (nI i)), (0, .ref a), (1, .int (nI o))] := hl
        refine lv_aload_n hx hb d_Sw_isOfferedFor_22 rfl (lv_at hl 0 rfl) ?_
        refine hp_get hx hb hts iw_Ce hown hK hH e2 rfl 1 (by decide) (hts _ kw_80) (v := .int (nI (sg_co d))) rfl d_Sw_isOfferedFor_23 ?_
        refine lv_iload_n hx hb d_Sw_isOfferedFor_26 rfl (lv_at hl 3 rfl) ?_
        refine lv_icmp_ne (tgt := 32) hx hb d_Sw_isOfferedFor_27 (by decide) (fun c_5 => ?_) (fun c_5 => ?_)
        · refine lv_iinc (v := nI (i + 1)) (lv' := [(2, .int (nI (i + 1))), (3, .ref q_4), (0, .ref a), (1, .int (nI o))]) hx hb d_Sw_isOfferedFor_32 hl (k := 1) rfl (nI_1 i) (by decide) rfl (fun ls hl => ?_)
          refine lv_goto (tgt := 2) hx hb d_Sw_isOfferedFor_35 (by decide) ?_
          exact ih (i + 1) ls (by omega) (fun j hj c hc => by rcases Nat.lt_succ_iff_lt_or_eq.mp hj with w | w; exact hno j w c hc; subst w; rw [e1] at hc; cases hc; exact fun q => c_5 (by rw [q])) (lv_sub hl [0, 2, 3] rfl)
        · refine lv_iconst (v := 1) hx hb d_Sw_isOfferedFor_30 (by decide) ?_
          exact hp_zret hx hb hr hlocks hQ hK hH hS (Nat.le_of_ble_eq_true rfl) (Nat.le_of_ble_eq_true rfl) rfl d_Sw_isOfferedFor_31 ⟨rfl, Or.inl ⟨rfl, i, hi8, d, e1, (nI_eq (by have := (hinv.2.1 i hi8).2 d e1; omega) (by omega)).mp c_5⟩⟩
  exact Lp 8 0 ls (by omega) (fun j hj => absurd hj (Nat.not_lt_zero j)) (lv_sub hl [0, 1, 2] rfl)
abbrev rm_Sw_setOrder : Room := { frames := 1, cells := 0, slots := 0, locals := 23 }
set_option maxHeartbeats 4000000 in
set_option maxRecDepth 100000 in
theorem cn_Sw_setOrder (l : Launch) (D : va_G) (B : Nat) (M : hp_M) (a : Nat) (σ : sg_S) (F : Nat → Prop) (x k : Int32) (hsw : sw_H D M a σ F) (hinv : sg_inv σ) (hac : sg_ac σ ≤ 512) : Met l y_Sw_setOrder (wd_c y_Sw_setOrder b_Sw_setOrder 3 (some .boolean)) rm_Sw_setOrder (va_Pc [.ref a, .int x, .int k] (hp_C D B M)) (va_Qi (fun (r : Int32) (M1 : hp_M) => ∃ τ, tr_setOrder σ x k r τ ∧ sw_H D M1 a τ F ∧ sw_fr F M M1) (hp_C D B) (hp_ub B)) 0 0 (hp_ub B) := by
  rcases sg_ok_or x k with hix | ⟨o, hk, rfl, hix, hbad⟩ | ⟨o, hk, rfl, hix, hgood⟩
  · refine hp_met (by decide) (Nat.le_of_ble_eq_true rfl) ?_
    intro p e s m args below meth cd ls Q hQ hx hb hr hts hown hlocks hnm hml hK hH hS hB hl
    replace hl : lv_has ls 3 [(0, .ref a), (1, .int x), (2, .int k)] := hl
    refine lv_iload_n hx hb d_Sw_setOrder_0 rfl (lv_at hl 1 rfl) ?_
    refine hp_calli (hp_runS (As := [.int x]) (rest := []) hx hb hml hown (cn_Sw_isPort l D B M x) (hp_cwS 1 hts kw_1 kw_4 kw_2 kw_3 rfl rfl (by decide +kernel) ⟨(Nat.le_of_ble_eq_true rfl), (Nat.le_of_ble_eq_true rfl)⟩) hK hH rfl hl.1 rfl (Nat.le_of_ble_eq_true rfl) d_Sw_setOrder_1 ⟨(Nat.le_of_ble_eq_true rfl), (Nat.le_of_ble_eq_true rfl)⟩) hS (fun r_1 M_2 H locs w_3 hH hS => ?_)
    obtain ⟨eM, eR⟩ := w_3
    rw [eM] at hH
    rw [eR]
    refine lv_if_eq (tgt := 16) hx hb d_Sw_setOrder_4 (by decide) (fun c_4 => ?_) (fun c_4 => absurd (sg_port_none hix) c_4)
    refine lv_iconst (v := 0) hx hb d_Sw_setOrder_16 (by decide) ?_
    exact hp_zret hx hb hr hlocks hQ hK hH hS (Nat.le_of_ble_eq_true rfl) (Nat.le_of_ble_eq_true rfl) rfl d_Sw_setOrder_17 ⟨σ, Or.inr ⟨(fun o h => by rw [hix] at h; cases h), rfl, rfl⟩, hsw, sw_fr_rf⟩
  · refine hp_met (by decide) (Nat.le_of_ble_eq_true rfl) ?_
    intro p e s m args below meth cd ls Q hQ hx hb hr hts hown hlocks hnm hml hK hH hS hB hl
    replace hl : lv_has ls 3 [(0, .ref a), (1, .int (nI o)), (2, .int k)] := hl
    refine lv_iload_n hx hb d_Sw_setOrder_0 rfl (lv_at hl 1 rfl) ?_
    refine hp_calli (hp_runS (As := [.int (nI o)]) (rest := []) hx hb hml hown (cn_Sw_isPort l D B M (nI o)) (hp_cwS 1 hts kw_1 kw_4 kw_2 kw_3 rfl rfl (by decide +kernel) ⟨(Nat.le_of_ble_eq_true rfl), (Nat.le_of_ble_eq_true rfl)⟩) hK hH rfl hl.1 rfl (Nat.le_of_ble_eq_true rfl) d_Sw_setOrder_1 ⟨(Nat.le_of_ble_eq_true rfl), (Nat.le_of_ble_eq_true rfl)⟩) hS (fun r_1 M_2 H locs w_3 hH hS => ?_)
    obtain ⟨eM, eR⟩ := w_3
    rw [eM] at hH
    rw [eR]
    refine lv_if_eq (tgt := 16) hx hb d_Sw_setOrder_4 (by decide) (fun c_4 => absurd c_4 (by rw [sg_port_some hix]; decide)) (fun c_4 => ?_)
    refine lv_iload_n hx hb d_Sw_setOrder_7 rfl (lv_at hl 2 rfl) ?_
    refine lv_if_lt (tgt := 16) hx hb d_Sw_setOrder_8 (by decide) (fun c_5 => ?_) (fun c_5 => ?_)
    · refine lv_iconst (v := 0) hx hb d_Sw_setOrder_16 (by decide) ?_
      exact hp_zret hx hb hr hlocks hQ hK hH hS (Nat.le_of_ble_eq_true rfl) (Nat.le_of_ble_eq_true rfl) rfl d_Sw_setOrder_17 ⟨σ, Or.inr ⟨(fun o h t => hbad ⟨t.1, t.2.1⟩), rfl, rfl⟩, hsw, sw_fr_rf⟩
    · refine lv_iload_n hx hb d_Sw_setOrder_11 rfl (lv_at hl 2 rfl) ?_
      refine lv_iconst (v := 2) hx hb d_Sw_setOrder_12 (by decide) ?_
      refine lv_icmp_le (tgt := 18) hx hb d_Sw_setOrder_13 (by decide) (fun c_6 => ?_) (fun c_6 => ?_)
      · exact absurd ⟨Int32.not_lt.mp c_5, c_6⟩ hbad
      · refine lv_iconst (v := 0) hx hb d_Sw_setOrder_16 (by decide) ?_
        exact hp_zret hx hb hr hlocks hQ hK hH hS (Nat.le_of_ble_eq_true rfl) (Nat.le_of_ble_eq_true rfl) rfl d_Sw_setOrder_17 ⟨σ, Or.inr ⟨(fun o h t => hbad ⟨t.1, t.2.1⟩), rfl, rfl⟩, hsw, sw_fr_rf⟩
  · refine hp_met (by decide) (Nat.le_of_ble_eq_true rfl) ?_
    intro p e s m args below meth cd ls Q hQ hx hb hr hts hown hlocks hnm hml hK hH hS hB hl
    replace hl : lv_has ls 3 [(0, .ref a), (1, .int (nI o)), (2, .int k)] := hl
    have hsw0 := hsw
    obtain ⟨aI, aO, fI, fO, oa, la, ip, op, sp, lp, LQ, ow, hP⟩ := hsw0
    have hP0 := hP
    obtain ⟨⟨h1, h2, h3⟩, ⟨w1, w2, w3⟩, hi, ho, hf⟩ := hP0
    obtain ⟨o1, o2, o3, ⟨ofs, o4, o4'⟩, o5, ⟨ofl, o6, o6'⟩, o7, ⟨o8, o9, o10⟩, o11⟩ := ho o hk
    have hlen512 := Nat.le_trans (sg_len_le hinv hk) hac
    refine lv_iload_n hx hb d_Sw_setOrder_0 rfl (lv_at hl 1 rfl) ?_
    refine hp_calli (hp_runS (As := [.int (nI o)]) (rest := []) hx hb hml hown (cn_Sw_isPort l D B M (nI o)) (hp_cwS 1 hts kw_1 kw_4 kw_2 kw_3 rfl rfl (by decide +kernel) ⟨(Nat.le_of_ble_eq_true rfl), (Nat.le_of_ble_eq_true rfl)⟩) hK hH rfl hl.1 rfl (Nat.le_of_ble_eq_true rfl) d_Sw_setOrder_1 ⟨(Nat.le_of_ble_eq_true rfl), (Nat.le_of_ble_eq_true rfl)⟩) hS (fun r_1 M_2 H locs w_3 hH hS => ?_)
    obtain ⟨eM, eR⟩ := w_3
    rw [eM] at hH
    rw [eR]
    refine lv_if_eq (tgt := 16) hx hb d_Sw_setOrder_4 (by decide) (fun c_4 => absurd c_4 (by rw [sg_port_some hix]; decide)) (fun c_4 => ?_)
    refine lv_iload_n hx hb d_Sw_setOrder_7 rfl (lv_at hl 2 rfl) ?_
    refine lv_if_lt (tgt := 16) hx hb d_Sw_setOrder_8 (by decide) (fun c_5 => absurd c_5 (Int32.not_lt.mpr hgood.1)) (fun c_5 => ?_)
    refine lv_iload_n hx hb d_Sw_setOrder_11 rfl (lv_at hl 2 rfl) ?_
    refine lv_iconst (v := 2) hx hb d_Sw_setOrder_12 (by decide) ?_
    refine lv_icmp_le (tgt := 18) hx hb d_Sw_setOrder_13 (by decide) (fun c_6 => ?_) (fun c_6 => absurd hgood.2 c_6)
    refine lv_aload_n hx hb d_Sw_setOrder_18 rfl (lv_at hl 0 rfl) ?_
    refine hp_get hx hb hts iw_Sw hown hK hH h1 rfl 1 (by decide) (hts _ kw_5) (v := .ref aO) rfl d_Sw_setOrder_19 ?_
    refine lv_iload_n hx hb d_Sw_setOrder_22 rfl (lv_at hl 1 rfl) ?_
    refine hp_aald hx hb hK hH h3 3 rfl o rfl hk (by decide) (ho o hk).1 d_Sw_setOrder_23 ?_
    refine hp_get hx hb hts iw_Ou hown hK hH o2 rfl 4 (by decide) (hts _ kw_16) (v := .int (nI (sg_qu σ o).length)) rfl d_Sw_setOrder_24 ?_
    refine lv_if_gt (tgt := 38) hx hb d_Sw_setOrder_27 (by decide) (fun c_7 => ?_) (fun c_7 => ?_)
    · refine lv_iconst (v := 0) hx hb d_Sw_setOrder_38 (by decide) ?_
      exact hp_zret hx hb hr hlocks hQ hK hH hS (Nat.le_of_ble_eq_true rfl) (Nat.le_of_ble_eq_true rfl) rfl d_Sw_setOrder_39 ⟨σ, Or.inr ⟨(fun o' h t => by rw [hix] at h; cases h; rw [t.2.2.1] at c_7; exact absurd c_7 (by decide)), rfl, rfl⟩, hsw, sw_fr_rf⟩
    · have hq0 : sg_qu σ o = [] := sw_len0 hlen512 c_7
      refine lv_aload_n hx hb d_Sw_setOrder_30 rfl (lv_at hl 0 rfl) ?_
      refine lv_iload_n hx hb d_Sw_setOrder_31 rfl (lv_at hl 1 rfl) ?_
      refine hp_calli (hp_runV (b := a) (As := [.int (nI o)]) (rest := []) hx hb hml hown (cn_Sw_isOfferedFor l D B M a σ F o hsw hinv hk) (hp_cwV 1 hts kw_81 kw_83 kw_84 kw_2 kw_82 rfl rfl (by decide +kernel) ⟨(Nat.le_of_ble_eq_true rfl), (Nat.le_of_ble_eq_true rfl)⟩) hK hH h1 rfl rfl hl.1 rfl (Nat.le_of_ble_eq_true rfl) d_Sw_setOrder_32 ⟨(Nat.le_of_ble_eq_true rfl), (Nat.le_of_ble_eq_true rfl)⟩) hS (fun r_8 M_9 H locs w_10 hH hS => ?_)
      rcases w_10 with ⟨eM, ⟨eR, hof⟩ | ⟨eR, hof⟩⟩
      · rw [eM] at hH
        rw [eR]
        refine lv_if_eq (tgt := 40) hx hb d_Sw_setOrder_35 (by decide) (fun c_11 => absurd c_11 (by decide)) (fun c_11 => ?_)
        refine lv_iconst (v := 0) hx hb d_Sw_setOrder_38 (by decide) ?_
        exact hp_zret hx hb hr hlocks hQ hK hH hS (Nat.le_of_ble_eq_true rfl) (Nat.le_of_ble_eq_true rfl) rfl d_Sw_setOrder_39 ⟨σ, Or.inr ⟨(fun o' h t => by rw [hix] at h; cases h; exact t.2.2.2 hof), rfl, rfl⟩, hsw, sw_fr_rf⟩
      · rw [eM] at hH
        rw [eR]
        refine lv_if_eq (tgt := 40) hx hb d_Sw_setOrder_35 (by decide) (fun c_12 => ?_) (fun c_12 => absurd rfl c_12)
        refine lv_aload_n hx hb d_Sw_setOrder_40 rfl (lv_at hl 0 rfl) ?_
        refine hp_get hx hb hts iw_Sw hown hK hH h1 rfl 1 (by decide) (hts _ kw_5) (v := .ref aO) rfl d_Sw_setOrder_41 ?_
        refine lv_iload_n hx hb d_Sw_setOrder_44 rfl (lv_at hl 1 rfl) ?_
        refine hp_aald hx hb hK hH h3 3 rfl o rfl hk (by decide) (ho o hk).1 d_Sw_setOrder_45 ?_
        refine lv_iload_n hx hb d_Sw_setOrder_46 rfl (lv_at hl 2 rfl) ?_
        refine hp_put hx hb hts iw_Ou t_Ou t_Ou_ok n_Ou hown hK hH hS hB o2 rfl 0 (by decide) (hts _ kw_85) rfl  (v := .int k) rfl rfl (Nat.le_of_ble_eq_true rfl) (fs' := [.int k, .ref (sp o), .ref (lp o), va_rf (sw_hd (LQ o) none), .int (nI (sg_qu σ o).length), va_rf (la o)]) rfl d_Sw_setOrder_47 (fun M_13 H locs eM_13 hH hS => ?_)
        have f_14 : M_13 (op o) = some (.inr (ix_ou, [.int k, .ref (sp o), .ref (lp o), va_rf (sw_hd (LQ o) none), .int (nI (sg_qu σ o).length), va_rf (la o)])) := by rw [eM_13]; exact va_up_self _ _ _
        have f_15 : M_13 a = some (.inr (ix_sw, [.ref aI, .ref aO, .int (sg_sl σ), .long (lN (sg_ac σ))])) := by rw [eM_13, va_up_ne _ _ (hp_ne ix_sw ix_ou h1 o2 rfl rfl (by decide))]; exact h1
        have f_16 : M_13 aI = some (hp_aq D 12 8 fI) := by rw [eM_13, va_up_ne _ _ (hp_ne 102 ix_ou h2 o2 rfl rfl (by decide))]; exact h2
        have f_17 : M_13 aO = some (hp_aq D 13 8 fO) := by rw [eM_13, va_up_ne _ _ (hp_ne 102 ix_ou h3 o2 rfl rfl (by decide))]; exact h3
        have f_18 : M_13 (sp o) = some (hp_ai D 8 ofs) := by rw [eM_13, va_up_ne _ _ (hp_ne 100 ix_ou o4 o2 rfl rfl (by decide))]; exact o4
        have f_19 : M_13 (lp o) = some (hp_al D 8 ofl) := by rw [eM_13, va_up_ne _ _ (hp_ne 101 ix_ou o6 o2 rfl rfl (by decide))]; exact o6
        refine lv_iconst (v := 1) hx hb d_Sw_setOrder_50 (by decide) ?_
        exact hp_zret hx hb hr hlocks hQ hK hH hS (Nat.le_of_ble_eq_true rfl) (Nat.le_of_ble_eq_true rfl) rfl d_Sw_setOrder_51 (by obtain ⟨p1, p2⟩ := sw_do_setO hP hk (k := k) eM_13; exact ⟨_, Or.inl ⟨o, hix, ⟨hgood.1, hgood.2, hq0, hof⟩, rfl, rfl⟩, ⟨aI, aO, fI, fO, oa, la, ip, op, sp, lp, LQ, ow, p1⟩, p2⟩)
