theorem kw_114 : Cond.methodLink R_Sw 102 y_In_dropCells ∈ wd_T := wd_in (List.mem_of_getElem? (i := 259) (by decide +kernel)) rfl
theorem kw_115 : Cond.initialized R_In ∈ wd_T := wd_in (List.mem_of_getElem? (i := 21) (by decide +kernel)) rfl
theorem kw_116 : Cond.code y_In_dropCells b_In_dropCells 1 none ∈ wd_T := wd_in (List.mem_of_getElem? (i := 262) (by decide +kernel)) rfl
theorem kw_117 : Cond.instanceMethod y_In_dropCells ∈ wd_T := wd_in (List.mem_of_getElem? (i := 260) (by decide +kernel)) rfl
theorem kw_118 : Cond.selects R_In y_In_dropCells y_In_dropCells ∈ wd_T := wd_in (List.mem_of_getElem? (i := 261) (by decide +kernel)) rfl
theorem kw_119 : Cond.methodLink R_Sw 105 y_Ou_dropCells ∈ wd_T := wd_in (List.mem_of_getElem? (i := 263) (by decide +kernel)) rfl
theorem kw_120 : Cond.code y_Ou_dropCells b_Ou_dropCells 1 none ∈ wd_T := wd_in (List.mem_of_getElem? (i := 266) (by decide +kernel)) rfl
theorem kw_121 : Cond.instanceMethod y_Ou_dropCells ∈ wd_T := wd_in (List.mem_of_getElem? (i := 264) (by decide +kernel)) rfl
theorem kw_122 : Cond.selects R_Ou y_Ou_dropCells y_Ou_dropCells ∈ wd_T := wd_in (List.mem_of_getElem? (i := 265) (by decide +kernel)) rfl
theorem kw_123 : Cond.fieldLink R_Sw 96 "EvenSwitch$Cell" "serial" "J" ∈ wd_T := wd_in (List.mem_of_getElem? (i := 139) (by decide +kernel)) rfl
theorem d_Sw_reset_0 : decode b_Sw_reset 0 = .ok (.iconst 0, 1) := by decide +kernel
theorem d_Sw_reset_1 : decode b_Sw_reset 1 = .ok (.istore_n 1, 1) := by decide +kernel
theorem d_Sw_reset_2 : decode b_Sw_reset 2 = .ok (.iload_n 1, 1) := by decide +kernel
theorem d_Sw_reset_3 : decode b_Sw_reset 3 = .ok (.bipush 8, 2) := by decide +kernel
theorem d_Sw_reset_5 : decode b_Sw_reset 5 = .ok (.if_icmp .ge 27, 3) := by decide +kernel
theorem d_Sw_reset_8 : decode b_Sw_reset 8 = .ok (.aload_n 0, 1) := by decide +kernel
theorem d_Sw_reset_9 : decode b_Sw_reset 9 = .ok (.getfield 11, 3) := by decide +kernel
theorem d_Sw_reset_12 : decode b_Sw_reset 12 = .ok (.iload_n 1, 1) := by decide +kernel
theorem d_Sw_reset_13 : decode b_Sw_reset 13 = .ok (.aaload, 1) := by decide +kernel
theorem d_Sw_reset_14 : decode b_Sw_reset 14 = .ok (.invokevirtual 102, 3) := by decide +kernel
theorem d_Sw_reset_17 : decode b_Sw_reset 17 = .ok (.aload_n 0, 1) := by decide +kernel
theorem d_Sw_reset_18 : decode b_Sw_reset 18 = .ok (.getfield 17, 3) := by decide +kernel
theorem d_Sw_reset_21 : decode b_Sw_reset 21 = .ok (.iload_n 1, 1) := by decide +kernel
theorem d_Sw_reset_22 : decode b_Sw_reset 22 = .ok (.aaload, 1) := by decide +kernel
theorem d_Sw_reset_23 : decode b_Sw_reset 23 = .ok (.invokevirtual 105, 3) := by decide +kernel
theorem d_Sw_reset_26 : decode b_Sw_reset 26 = .ok (.iinc 1 1, 3) := by decide +kernel
theorem d_Sw_reset_29 : decode b_Sw_reset 29 = .ok (.goto (-27), 3) := by decide +kernel
theorem d_Sw_reset_32 : decode b_Sw_reset 32 = .ok (.return_, 1) := by decide +kernel
theorem d_Sw_leaves_0 : decode b_Sw_leaves 0 = .ok (.aconst_null, 1) := by decide +kernel
theorem d_Sw_leaves_1 : decode b_Sw_leaves 1 = .ok (.astore_n 2, 1) := by decide +kernel
theorem d_Sw_leaves_2 : decode b_Sw_leaves 2 = .ok (.iconst (-1), 1) := by decide +kernel
theorem d_Sw_leaves_3 : decode b_Sw_leaves 3 = .ok (.istore_n 3, 1) := by decide +kernel
theorem d_Sw_leaves_4 : decode b_Sw_leaves 4 = .ok (.iconst 0, 1) := by decide +kernel
theorem d_Sw_leaves_5 : decode b_Sw_leaves 5 = .ok (.istore 4, 2) := by decide +kernel
theorem d_Sw_leaves_7 : decode b_Sw_leaves 7 = .ok (.iload 4, 2) := by decide +kernel
theorem d_Sw_leaves_9 : decode b_Sw_leaves 9 = .ok (.bipush 8, 2) := by decide +kernel
theorem d_Sw_leaves_11 : decode b_Sw_leaves 11 = .ok (.if_icmp .ge 74, 3) := by decide +kernel
theorem d_Sw_leaves_14 : decode b_Sw_leaves 14 = .ok (.iconst 0, 1) := by decide +kernel
theorem d_Sw_leaves_15 : decode b_Sw_leaves 15 = .ok (.istore 5, 2) := by decide +kernel
theorem d_Sw_leaves_17 : decode b_Sw_leaves 17 = .ok (.aload_n 0, 1) := by decide +kernel
theorem d_Sw_leaves_18 : decode b_Sw_leaves 18 = .ok (.getfield 17, 3) := by decide +kernel
theorem d_Sw_leaves_21 : decode b_Sw_leaves 21 = .ok (.iload 4, 2) := by decide +kernel
theorem d_Sw_leaves_23 : decode b_Sw_leaves 23 = .ok (.aaload, 1) := by decide +kernel
theorem d_Sw_leaves_24 : decode b_Sw_leaves 24 = .ok (.getfield 93, 3) := by decide +kernel
theorem d_Sw_leaves_27 : decode b_Sw_leaves 27 = .ok (.astore 6, 2) := by decide +kernel
theorem d_Sw_leaves_29 : decode b_Sw_leaves 29 = .ok (.aload 6, 2) := by decide +kernel
theorem d_Sw_leaves_31 : decode b_Sw_leaves 31 = .ok (.ifnull 48, 3) := by decide +kernel
theorem d_Sw_leaves_34 : decode b_Sw_leaves 34 = .ok (.aload 6, 2) := by decide +kernel
theorem d_Sw_leaves_36 : decode b_Sw_leaves 36 = .ok (.getfield 75, 3) := by decide +kernel
theorem d_Sw_leaves_39 : decode b_Sw_leaves 39 = .ok (.iload_n 1, 1) := by decide +kernel
theorem d_Sw_leaves_40 : decode b_Sw_leaves 40 = .ok (.if_icmp .ne 26, 3) := by decide +kernel
theorem d_Sw_leaves_43 : decode b_Sw_leaves 43 = .ok (.aload_n 2, 1) := by decide +kernel
theorem d_Sw_leaves_44 : decode b_Sw_leaves 44 = .ok (.ifnull 16, 3) := by decide +kernel
theorem d_Sw_leaves_47 : decode b_Sw_leaves 47 = .ok (.aload 6, 2) := by decide +kernel
theorem d_Sw_leaves_49 : decode b_Sw_leaves 49 = .ok (.getfield 96, 3) := by decide +kernel
theorem d_Sw_leaves_52 : decode b_Sw_leaves 52 = .ok (.aload_n 2, 1) := by decide +kernel
theorem d_Sw_leaves_53 : decode b_Sw_leaves 53 = .ok (.getfield 96, 3) := by decide +kernel
theorem d_Sw_leaves_56 : decode b_Sw_leaves 56 = .ok (.lcmp, 1) := by decide +kernel
theorem d_Sw_leaves_57 : decode b_Sw_leaves 57 = .ok (.ifCond .ge 9, 3) := by decide +kernel
theorem d_Sw_leaves_60 : decode b_Sw_leaves 60 = .ok (.aload 6, 2) := by decide +kernel
theorem d_Sw_leaves_62 : decode b_Sw_leaves 62 = .ok (.astore_n 2, 1) := by decide +kernel
theorem d_Sw_leaves_63 : decode b_Sw_leaves 63 = .ok (.iload 5, 2) := by decide +kernel
theorem d_Sw_leaves_65 : decode b_Sw_leaves 65 = .ok (.istore_n 3, 1) := by decide +kernel
theorem d_Sw_leaves_66 : decode b_Sw_leaves 66 = .ok (.iinc 5 1, 3) := by decide +kernel
theorem d_Sw_leaves_69 : decode b_Sw_leaves 69 = .ok (.aload 6, 2) := by decide +kernel
theorem d_Sw_leaves_71 : decode b_Sw_leaves 71 = .ok (.getfield 99, 3) := by decide +kernel
theorem d_Sw_leaves_74 : decode b_Sw_leaves 74 = .ok (.astore 6, 2) := by decide +kernel
theorem d_Sw_leaves_76 : decode b_Sw_leaves 76 = .ok (.goto (-47), 3) := by decide +kernel
theorem d_Sw_leaves_79 : decode b_Sw_leaves 79 = .ok (.iinc 4 1, 3) := by decide +kernel
theorem d_Sw_leaves_82 : decode b_Sw_leaves 82 = .ok (.goto (-75), 3) := by decide +kernel
theorem d_Sw_leaves_85 : decode b_Sw_leaves 85 = .ok (.iload_n 3, 1) := by decide +kernel
theorem d_Sw_leaves_86 : decode b_Sw_leaves 86 = .ok (.ireturn, 1) := by decide +kernel
abbrev rm_Sw_reset : Room := { frames := 3, cells := 0, slots := 0, locals := 64 }
set_option maxHeartbeats 4000000 in
set_option maxRecDepth 100000 in
theorem cn_Sw_reset (l : Launch) (D : va_G) (B : Nat) (M : hp_M) (a : Nat) (σ : sg_S) (F : Nat → Prop) (hsw : sw_H D M a σ F) : Met l y_Sw_reset (wd_c y_Sw_reset b_Sw_reset 2 (none)) rm_Sw_reset (va_Pc [.ref a] (hp_C D B M)) (va_Qv (fun  (M1 : hp_M) => sw_H D M1 a (sg_reset σ) F ∧ sw_fr F M M1) (hp_C D B) (hp_ub B)) 0 0 (hp_ub B) := by
  refine hp_met (by decide) (Nat.le_of_ble_eq_true rfl) ?_
  intro p e s m args below meth cd ls Q hQ hx hb hr hts hown hlocks hnm hml hK hH hS hB hl
  replace hl : lv_has ls 2 [(0, .ref a)] := hl
  refine lv_iconst (v := 0) hx hb d_Sw_reset_0 (by decide) ?_
  refine lv_istore_n (lv' := [(1, .int 0), (0, .ref a)]) hx hb d_Sw_reset_1 rfl hl (by decide) rfl (fun ls hl => ?_)
  have Lp : ∀ (n i : Nat) (M2 : hp_M) (H : Heap) (locs : List Loc) (ls : Array Slot), i + n = 8 → sw_X D M2 a (sg_ress σ i) (sg_hhs (sg_held σ) i) F → sw_fr F M M2 → hp_H D B M2 H → va_S (hp_ub B) s.heap H locs → lv_has ls 2 [(1, .int (nI i)), (0, .ref a)] → W p l e rm_Sw_reset s m args below meth cd H locs 0 0 Q (F0 m 2 ls []) := by
    intro n
    induction n with
    | zero =>
      intro i M2 H locs ls hn hs hfr hH hS hl
      have e8 : i = 8 := by omega
      subst e8
      refine lv_iload_n hx hb d_Sw_reset_2 rfl (lv_at hl 0 rfl) ?_
      refine lv_bipush (v := 8) hx hb d_Sw_reset_3 (by decide) ?_
      refine lv_icmp_ge (tgt := 32) hx hb d_Sw_reset_5 (by decide) (fun c_1 => ?_) (fun c_1 => absurd (nI_le (a := 8) (by omega) (by omega)) c_1)
      exact hp_vret hx hb hr hlocks hQ hK hH hS (Nat.le_of_ble_eq_true rfl) (Nat.le_of_ble_eq_true rfl) d_Sw_reset_32 ⟨sw_H_reset hs, hfr⟩
    | succ n ih =>
      intro i M2 H locs ls hn hs hfr hH hS hl
      have hi8 : i < 8 := by omega
      obtain ⟨aI, aO, fI, fO, oa, la, ip, op, sp, lp, LQ, ow, hP⟩ := hs
      have hP0 := hP
      obtain ⟨⟨h1, h2, h3⟩, ⟨w1, w2, w3⟩, hi, ho, hf⟩ := hP0
      obtain ⟨o1, o2, o3, ⟨ofs, o4, o4'⟩, o5, ⟨ofl, o6, o6'⟩, o7, ⟨o8, o9, o10⟩, o11⟩ := ho i hi8
      obtain ⟨i1, i2, i3, i4⟩ := hi i hi8
      refine lv_iload_n hx hb d_Sw_reset_2 rfl (lv_at hl 0 rfl) ?_
      refine lv_bipush (v := 8) hx hb d_Sw_reset_3 (by decide) ?_
      refine lv_icmp_ge (tgt := 32) hx hb d_Sw_reset_5 (by decide) (fun c_2 => absurd c_2 (nI_ge (b := 8) (by omega) (by omega))) (fun c_2 => ?_)
      refine lv_aload_n hx hb d_Sw_reset_8 rfl (lv_at hl 1 rfl) ?_
      refine hp_get hx hb hts iw_Sw hown hK hH h1 rfl 0 (by decide) (hts _ kw_14) (v := .ref aI) rfl d_Sw_reset_9 ?_
      refine lv_iload_n hx hb d_Sw_reset_12 rfl (lv_at hl 0 rfl) ?_
      refine hp_aald hx hb hK hH h2 2 rfl i rfl hi8 (by decide) i1 d_Sw_reset_13 ?_
      refine hp_callv (hp_runV (b := ip i) (As := []) (rest := []) hx hb hml hown (cn_In_dropCells l D B M2 (ip i) (oa i) (nI (sg_hhs (sg_held σ) i i)) i2) (hp_cwV 0 hts kw_114 kw_117 kw_118 kw_115 kw_116 rfl rfl (by decide +kernel) ⟨(Nat.le_of_ble_eq_true rfl), (Nat.le_of_ble_eq_true rfl)⟩) hK hH i2 rfl rfl hl.1 rfl (Nat.le_of_ble_eq_true rfl) d_Sw_reset_14 ⟨(Nat.le_of_ble_eq_true rfl), (Nat.le_of_ble_eq_true rfl)⟩) hS (fun M_4 H locs w_5 hH hS => ?_)
      have f_6 : M_4 (ip i) = some (.inr (ix_in, [.null, .int 0])) := by rw [w_5]; exact va_up_self _ _ _
      have f_7 : M_4 a = some (.inr (ix_sw, [.ref aI, .ref aO, .int (sg_sl (sg_ress σ i)), .long (lN (sg_ac (sg_ress σ i)))])) := by rw [w_5, va_up_ne _ _ (hp_ne ix_sw ix_in h1 i2 rfl rfl (by decide))]; exact h1
      have f_8 : M_4 aI = some (hp_aq D 12 8 fI) := by rw [w_5, va_up_ne _ _ (hp_ne 102 ix_in h2 i2 rfl rfl (by decide))]; exact h2
      have f_9 : M_4 aO = some (hp_aq D 13 8 fO) := by rw [w_5, va_up_ne _ _ (hp_ne 102 ix_in h3 i2 rfl rfl (by decide))]; exact h3
      have f_10 : M_4 (op i) = some (.inr (ix_ou, [.int (sg_kd (sg_ress σ i) i), .ref (sp i), .ref (lp i), va_rf (sw_hd (LQ i) none), .int (nI (sg_qu (sg_ress σ i) i).length), va_rf (la i)])) := by rw [w_5, va_up_ne _ _ (hp_ne ix_ou ix_in o2 i2 rfl rfl (by decide))]; exact o2
      have f_11 : M_4 (sp i) = some (hp_ai D 8 ofs) := by rw [w_5, va_up_ne _ _ (hp_ne 100 ix_in o4 i2 rfl rfl (by decide))]; exact o4
      have f_12 : M_4 (lp i) = some (hp_al D 8 ofl) := by rw [w_5, va_up_ne _ _ (hp_ne 101 ix_in o6 i2 rfl rfl (by decide))]; exact o6
      refine lv_aload_n hx hb d_Sw_reset_17 rfl (lv_at hl 1 rfl) ?_
      refine hp_get hx hb hts iw_Sw hown hK hH f_7 rfl 1 (by decide) (hts _ kw_5) (v := .ref aO) rfl d_Sw_reset_18 ?_
      refine lv_iload_n hx hb d_Sw_reset_21 rfl (lv_at hl 0 rfl) ?_
      refine hp_aald hx hb hK hH f_9 3 rfl i rfl hi8 (by decide) o1 d_Sw_reset_22 ?_
      refine hp_callv (hp_runV (b := op i) (As := []) (rest := []) hx hb hml hown (cn_Ou_dropCells l D B M_4 (op i) (sg_kd (sg_ress σ i) i) (sp i) (lp i) (sw_hd (LQ i) none) (nI (sg_qu (sg_ress σ i) i).length) (la i) ofl f_10 f_12) (hp_cwV 0 hts kw_119 kw_121 kw_122 kw_34 kw_120 rfl rfl (by decide +kernel) ⟨(Nat.le_of_ble_eq_true rfl), (Nat.le_of_ble_eq_true rfl)⟩) hK hH f_10 rfl rfl hl.1 rfl (Nat.le_of_ble_eq_true rfl) d_Sw_reset_23 ⟨(Nat.le_of_ble_eq_true rfl), (Nat.le_of_ble_eq_true rfl)⟩) hS (fun M_14 H locs w_15 hH hS => ?_)
      obtain ⟨g, hg, eM⟩ := w_15
      have n1 : op i ≠ lp i := hp_ne ix_ou 101 f_10 f_12 rfl rfl (by decide)
      have n2 : ip i ≠ lp i := hp_ne ix_in 101 f_6 f_12 rfl rfl (by decide)
      have n3 : ip i ≠ op i := hp_ne ix_in ix_ou f_6 f_10 rfl rfl (by decide)
      obtain ⟨r1, r2⟩ := sw_do_res1 (M1 := M_14) hP hi8 hg (by rw [eM, va_up_ne _ _ n1]; exact va_up_self _ _ _) (by rw [eM]; exact va_up_self _ _ _) (by rw [eM, va_up_ne _ _ n2, va_up_ne _ _ n3]; exact f_6) (fun w b1 b2 b3 => by rw [eM, va_up_ne _ _ b2, va_up_ne _ _ b1, w_5, va_up_ne _ _ b3])
      refine lv_iinc (v := nI (i + 1)) (lv' := [(1, .int (nI (i + 1))), (0, .ref a)]) hx hb d_Sw_reset_26 hl (k := 0) rfl (nI_1 i) (by decide) rfl (fun ls hl => ?_)
      refine lv_goto (tgt := 2) hx hb d_Sw_reset_29 (by decide) ?_
      exact ih (i + 1) M_14 _ _ ls (by omega) ⟨_, _, _, _, _, _, _, _, _, _, _, _, r1⟩ (sw_fr_tr hfr r2) hH hS (lv_sub hl [0, 1] rfl)
  exact Lp 8 0 M _ _ ls (by omega) hsw sw_fr_rf hH hS (lv_sub hl [0, 1] rfl)
abbrev rm_Sw_leaves : Room := { frames := 0, cells := 0, slots := 0, locals := 0 }
set_option maxHeartbeats 4000000 in
set_option maxRecDepth 100000 in
theorem cn_Sw_leaves (l : Launch) (D : va_G) (B : Nat) (M : hp_M) (a : Nat) (σ : sg_S) (F : Nat → Prop) (t : Int32) (hsw : sw_H D M a σ F) (hinv : sg_inv σ) (hac : sg_ac σ ≤ 512) : Met l y_Sw_leaves (wd_c y_Sw_leaves b_Sw_leaves 7 (some .int)) rm_Sw_leaves (va_Pc [.ref a, .int t] (hp_C D B M)) (va_Qi (fun (r : Int32) (M1 : hp_M) => M1 = M ∧ r = an_leaves σ t) (hp_C D B) (hp_ub B)) 0 0 (hp_ub B) := by
  refine hp_met (by decide) (Nat.le_of_ble_eq_true rfl) ?_
  intro p e s m args below meth cd ls Q hQ hx hb hr hts hown hlocks hnm hml hK hH hS hB hl
  replace hl : lv_has ls 7 [(0, .ref a), (1, .int t)] := hl
  have hsw0 := hsw
  obtain ⟨aI, aO, fI, fO, oa, la, ip, op, sp, lp, LQ, ow, ⟨h1, h2, h3⟩, ⟨w1, w2, w3⟩, hi, ho, hf⟩ := hsw0
  refine lv_null hx hb d_Sw_leaves_0 ?_
  refine lv_astore_nN (lv' := [(2, .null), (0, .ref a), (1, .int t)]) hx hb d_Sw_leaves_1 rfl hl (by decide) rfl (fun ls hl => ?_)
  refine lv_iconst (v := (-1)) hx hb d_Sw_leaves_2 (by decide) ?_
  refine lv_istore_n (lv' := [(3, .int (-1)), (2, .null), (0, .ref a), (1, .int t)]) hx hb d_Sw_leaves_3 rfl hl (by decide) rfl (fun ls hl => ?_)
  refine lv_iconst (v := 0) hx hb d_Sw_leaves_4 (by decide) ?_
  refine lv_istore (lv' := [(4, .int 0), (3, .int (-1)), (2, .null), (0, .ref a), (1, .int t)]) hx hb d_Sw_leaves_5 hl (by decide) rfl (fun ls hl => ?_)
  have In : ∀ (cs : List sg_Ce) (L : List Nat) (pl : Nat) (ea : Option Nat) (be : Option sg_Ce × Int32) (o : Nat) (ls : Array Slot), sw_sg M L cs none → (∀ c ∈ cs, sg_cs c < 512) → lv_e M ea be.1 → (∀ (ea' : Option Nat) (ls : Array Slot), lv_e M ea' (lv_in t be pl cs).1 → lv_has ls 7 [(2, va_rf ea'), (3, .int ((lv_in t be pl cs).2)), (4, .int (nI o)), (0, .ref a), (1, .int t)] → W p l e rm_Sw_leaves s m args below meth cd s.heap [] 0 0 Q (F0 m 79 ls [])) → lv_has ls 7 [(6, va_rf (sw_hd L none)), (5, .int (nI pl)), (2, va_rf ea), (3, .int be.2), (4, .int (nI o)), (0, .ref a), (1, .int t)] → W p l e rm_Sw_leaves s m args below meth cd s.heap [] 0 0 Q (F0 m 29 ls []) := by
    intro cs
    induction cs with
    | nil =>
      intro L pl ea be o ls hL hbs he K hl
      have eL := sw_sg_nil hL rfl
      subst eL
      replace hl : lv_has ls 7 [(6, .null), (5, .int (nI pl)), (2, va_rf ea), (3, .int be.2), (4, .int (nI o)), (0, .ref a), (1, .int t)] := hl
      refine lv_aloadN hx hb d_Sw_leaves_29 (lv_at hl 0 rfl) ?_
      refine lv_ifnullN (tgt := 79) hx hb d_Sw_leaves_31 (by decide) ?_
      exact K ea ls he (lv_sub hl [2, 3, 4, 5, 6] rfl)
    | cons c cs ih =>
      intro L pl ea be o ls hL hbs he K hl
      obtain ⟨x, xs, eL, hx1, hx2⟩ := sw_sg_cons hL
      subst eL
      have hcs := hbs c List.mem_cons_self
      have hb' : ∀ d ∈ cs, sg_cs d < 512 := fun d hd => hbs d (List.mem_cons_of_mem _ hd)
      replace hl : lv_has ls 7 [(6, .ref x), (5, .int (nI pl)), (2, va_rf ea), (3, .int be.2), (4, .int (nI o)), (0, .ref a), (1, .int t)] := hl
      refine lv_aload hx hb d_Sw_leaves_29 (lv_at hl 0 rfl) ?_
      refine lv_ifnull hx hb d_Sw_leaves_31 ?_
      refine lv_aload hx hb d_Sw_leaves_34 (lv_at hl 0 rfl) ?_
      refine hp_get hx hb hts iw_Ce hown hK hH hx1 rfl 3 (by decide) (hts _ kw_11) (v := .int (sg_ct c)) rfl d_Sw_leaves_36 ?_
      refine lv_iload_n hx hb d_Sw_leaves_39 rfl (lv_at hl 6 rfl) ?_
      refine lv_icmp_ne (tgt := 66) hx hb d_Sw_leaves_40 (by decide) (fun c_1 => ?_) (fun c_1 => ?_)
      · refine lv_iinc (v := nI (pl + 1)) (lv' := [(5, .int (nI (pl + 1))), (6, .ref x), (2, va_rf ea), (3, .int be.2), (4, .int (nI o)), (0, .ref a), (1, .int t)]) hx hb d_Sw_leaves_66 hl (k := 1) rfl (nI_1 pl) (by decide) rfl (fun ls hl => ?_)
        refine lv_aload hx hb d_Sw_leaves_69 (lv_at hl 1 rfl) ?_
        refine hp_get hx hb hts iw_Ce hown hK hH hx1 rfl 7 (by decide) (hts _ kw_18) (v := va_rf (sw_hd xs none)) rfl d_Sw_leaves_71 ?_
        refine hp_astore (lv' := [(6, va_rf (sw_hd xs none)), (5, .int (nI (pl + 1))), (2, va_rf ea), (3, .int be.2), (4, .int (nI o)), (0, .ref a), (1, .int t)]) hx hb d_Sw_leaves_74 hl (by decide) rfl (fun ls hl => ?_)
        refine lv_goto (tgt := 29) hx hb d_Sw_leaves_76 (by decide) ?_
        exact ih xs (pl + 1) ea be o ls hx2 hb' he (fun ea' ls h1 h2 => K ea' ls (by rw [lv_skip (fun q => c_1 q.1)]; exact h1) (by rw [lv_skip (fun q => c_1 q.1)]; exact h2)) (lv_sub hl [0, 1, 2, 3, 4, 5, 6] rfl)
      · refine hp_aload_n hx hb d_Sw_leaves_43 rfl (lv_at hl 2 rfl) ?_
        refine hp_ifnull (tgt := 60) hx hb d_Sw_leaves_44 (by decide) (fun c_2 => ?_) (fun q_3 c_2 => ?_)
        · rw [c_2] at he
          have hbn := lv_e_no he
          refine lv_aload hx hb d_Sw_leaves_60 (lv_at hl 0 rfl) ?_
          refine lv_astore_n (lv' := [(2, .ref x), (6, .ref x), (5, .int (nI pl)), (3, .int be.2), (4, .int (nI o)), (0, .ref a), (1, .int t)]) hx hb d_Sw_leaves_62 rfl hl (by decide) rfl (fun ls hl => ?_)
          refine lv_iload hx hb d_Sw_leaves_63 (lv_at hl 2 rfl) ?_
          refine lv_istore_n (lv' := [(3, .int (nI pl)), (2, .ref x), (6, .ref x), (5, .int (nI pl)), (4, .int (nI o)), (0, .ref a), (1, .int t)]) hx hb d_Sw_leaves_65 rfl hl (by decide) rfl (fun ls hl => ?_)
          refine lv_iinc (v := nI (pl + 1)) (lv' := [(5, .int (nI (pl + 1))), (3, .int (nI pl)), (2, .ref x), (6, .ref x), (4, .int (nI o)), (0, .ref a), (1, .int t)]) hx hb d_Sw_leaves_66 hl (k := 3) rfl (nI_1 pl) (by decide) rfl (fun ls hl => ?_)
          refine lv_aload hx hb d_Sw_leaves_69 (lv_at hl 3 rfl) ?_
          refine hp_get hx hb hts iw_Ce hown hK hH hx1 rfl 7 (by decide) (hts _ kw_18) (v := va_rf (sw_hd xs none)) rfl d_Sw_leaves_71 ?_
          refine hp_astore (lv' := [(6, va_rf (sw_hd xs none)), (5, .int (nI (pl + 1))), (3, .int (nI pl)), (2, .ref x), (4, .int (nI o)), (0, .ref a), (1, .int t)]) hx hb d_Sw_leaves_74 hl (by decide) rfl (fun ls hl => ?_)
          refine lv_goto (tgt := 29) hx hb d_Sw_leaves_76 (by decide) ?_
          exact ih xs (pl + 1) (some x) (some c, nI pl) o ls hx2 hb' ⟨⟨_, hx1⟩, hcs⟩ (fun ea' ls h1 h2 => K ea' ls (by rw [lv_take c_1 (by rw [hbn]; rfl)]; exact h1) (by rw [lv_take c_1 (by rw [hbn]; rfl)]; exact h2)) (lv_sub hl [0, 1, 3, 2, 4, 5, 6] rfl)
        · rw [c_2] at hl
          replace hl : lv_has ls 7 [(6, .ref x), (5, .int (nI pl)), (2, .ref q_3), (3, .int be.2), (4, .int (nI o)), (0, .ref a), (1, .int t)] := hl
          have he0 := he
          rw [c_2] at he0
          obtain ⟨d, nd, hb1, hd1, hd2⟩ := lv_e_yes he0
          refine lv_aload hx hb d_Sw_leaves_47 (lv_at hl 0 rfl) ?_
          refine hp_get hx hb hts iw_Ce hown hK hH hx1 rfl 4 (by decide) (hts _ kw_123) (v := .long (lN (sg_cs c))) rfl d_Sw_leaves_49 ?_
          refine lv_aload_n hx hb d_Sw_leaves_52 rfl (lv_at hl 2 rfl) ?_
          refine hp_get hx hb hts iw_Ce hown hK hH hd1 rfl 4 (by decide) (hts _ kw_123) (v := .long (lN (sg_cs d))) rfl d_Sw_leaves_53 ?_
          refine W.lcmp hx hb d_Sw_leaves_56 ?_
          refine lv_if_ge (tgt := 66) hx hb d_Sw_leaves_57 (by decide) (fun c_4 => ?_) (fun c_4 => ?_)
          · replace hl : lv_has ls 7 [(6, .ref x), (5, .int (nI pl)), (2, va_rf ea), (3, .int be.2), (4, .int (nI o)), (0, .ref a), (1, .int t)] := by rw [c_2]; exact hl
            refine lv_iinc (v := nI (pl + 1)) (lv' := [(5, .int (nI (pl + 1))), (6, .ref x), (2, va_rf ea), (3, .int be.2), (4, .int (nI o)), (0, .ref a), (1, .int t)]) hx hb d_Sw_leaves_66 hl (k := 1) rfl (nI_1 pl) (by decide) rfl (fun ls hl => ?_)
            refine lv_aload hx hb d_Sw_leaves_69 (lv_at hl 1 rfl) ?_
            refine hp_get hx hb hts iw_Ce hown hK hH hx1 rfl 7 (by decide) (hts _ kw_18) (v := va_rf (sw_hd xs none)) rfl d_Sw_leaves_71 ?_
            refine hp_astore (lv' := [(6, va_rf (sw_hd xs none)), (5, .int (nI (pl + 1))), (2, va_rf ea), (3, .int be.2), (4, .int (nI o)), (0, .ref a), (1, .int t)]) hx hb d_Sw_leaves_74 hl (by decide) rfl (fun ls hl => ?_)
            refine lv_goto (tgt := 29) hx hb d_Sw_leaves_76 (by decide) ?_
            exact ih xs (pl + 1) ea be o ls hx2 hb' he (fun ea' ls h1 h2 => K ea' ls (by rw [lv_skip (fun q => by rw [hb1, lv_ge hcs hd2 c_4] at q; exact absurd q.2 (by decide))]; exact h1) (by rw [lv_skip (fun q => by rw [hb1, lv_ge hcs hd2 c_4] at q; exact absurd q.2 (by decide))]; exact h2)) (lv_sub hl [0, 1, 2, 3, 4, 5, 6] rfl)
          · refine lv_aload hx hb d_Sw_leaves_60 (lv_at hl 0 rfl) ?_
            refine lv_astore_n (lv' := [(2, .ref x), (6, .ref x), (5, .int (nI pl)), (3, .int be.2), (4, .int (nI o)), (0, .ref a), (1, .int t)]) hx hb d_Sw_leaves_62 rfl hl (by decide) rfl (fun ls hl => ?_)
            refine lv_iload hx hb d_Sw_leaves_63 (lv_at hl 2 rfl) ?_
            refine lv_istore_n (lv' := [(3, .int (nI pl)), (2, .ref x), (6, .ref x), (5, .int (nI pl)), (4, .int (nI o)), (0, .ref a), (1, .int t)]) hx hb d_Sw_leaves_65 rfl hl (by decide) rfl (fun ls hl => ?_)
            refine lv_iinc (v := nI (pl + 1)) (lv' := [(5, .int (nI (pl + 1))), (3, .int (nI pl)), (2, .ref x), (6, .ref x), (4, .int (nI o)), (0, .ref a), (1, .int t)]) hx hb d_Sw_leaves_66 hl (k := 3) rfl (nI_1 pl) (by decide) rfl (fun ls hl => ?_)
            refine lv_aload hx hb d_Sw_leaves_69 (lv_at hl 3 rfl) ?_
            refine hp_get hx hb hts iw_Ce hown hK hH hx1 rfl 7 (by decide) (hts _ kw_18) (v := va_rf (sw_hd xs none)) rfl d_Sw_leaves_71 ?_
            refine hp_astore (lv' := [(6, va_rf (sw_hd xs none)), (5, .int (nI (pl + 1))), (3, .int (nI pl)), (2, .ref x), (4, .int (nI o)), (0, .ref a), (1, .int t)]) hx hb d_Sw_leaves_74 hl (by decide) rfl (fun ls hl => ?_)
            refine lv_goto (tgt := 29) hx hb d_Sw_leaves_76 (by decide) ?_
            exact ih xs (pl + 1) (some x) (some c, nI pl) o ls hx2 hb' ⟨⟨_, hx1⟩, hcs⟩ (fun ea' ls h1 h2 => K ea' ls (by rw [lv_take c_1 (by rw [hb1]; exact lv_nge hcs hd2 c_4)]; exact h1) (by rw [lv_take c_1 (by rw [hb1]; exact lv_nge hcs hd2 c_4)]; exact h2)) (lv_sub hl [0, 1, 3, 2, 4, 5, 6] rfl)
  have Lp : ∀ (n i : Nat) (ea : Option Nat) (ls : Array Slot), i + n = 8 → lv_e M ea (lv_out σ t i).1 → lv_has ls 7 [(2, va_rf ea), (3, .int ((lv_out σ t i).2)), (4, .int (nI i)), (0, .ref a), (1, .int t)] → W p l e rm_Sw_leaves s m args below meth cd s.heap [] 0 0 Q (F0 m 7 ls []) := by
    intro n
    induction n with
    | zero =>
      intro i ea ls hn he hl
      have e8 : i = 8 := by omega
      subst e8
      refine lv_iload hx hb d_Sw_leaves_7 (lv_at hl 2 rfl) ?_
      refine lv_bipush (v := 8) hx hb d_Sw_leaves_9 (by decide) ?_
      refine lv_icmp_ge (tgt := 85) hx hb d_Sw_leaves_11 (by decide) (fun c_5 => ?_) (fun c_5 => absurd (nI_le (a := 8) (by omega) (by omega)) c_5)
      refine lv_iload_n hx hb d_Sw_leaves_85 rfl (lv_at hl 1 rfl) ?_
      exact hp_iret hx hb hr hlocks hQ hK hH hS (Nat.le_of_ble_eq_true rfl) (Nat.le_of_ble_eq_true rfl) d_Sw_leaves_86 ⟨rfl, rfl⟩
    | succ n ih =>
      intro i ea ls hn he hl
      have hi8 : i < 8 := by omega
      obtain ⟨o1, o2, o3, ⟨ofs, o4, o4'⟩, o5, ⟨ofl, o6, o6'⟩, o7, ⟨o8, o9, o10⟩, o11⟩ := ho i hi8
      refine lv_iload hx hb d_Sw_leaves_7 (lv_at hl 2 rfl) ?_
      refine lv_bipush (v := 8) hx hb d_Sw_leaves_9 (by decide) ?_
      refine lv_icmp_ge (tgt := 85) hx hb d_Sw_leaves_11 (by decide) (fun c_6 => absurd c_6 (nI_ge (b := 8) (by omega) (by omega))) (fun c_6 => ?_)
      refine lv_iconst (v := 0) hx hb d_Sw_leaves_14 (by decide) ?_
      refine lv_istore (lv' := [(5, .int 0), (2, va_rf ea), (3, .int ((lv_out σ t i).2)), (4, .int (nI i)), (0, .ref a), (1, .int t)]) hx hb d_Sw_leaves_15 hl (by decide) rfl (fun ls hl => ?_)
      refine lv_aload_n hx hb d_Sw_leaves_17 rfl (lv_at hl 4 rfl) ?_
      refine hp_get hx hb hts iw_Sw hown hK hH h1 rfl 1 (by decide) (hts _ kw_5) (v := .ref aO) rfl d_Sw_leaves_18 ?_
      refine lv_iload hx hb d_Sw_leaves_21 (lv_at hl 3 rfl) ?_
      refine hp_aald hx hb hK hH h3 3 rfl i rfl hi8 (by decide) o1 d_Sw_leaves_23 ?_
      refine hp_get hx hb hts iw_Ou hown hK hH o2 rfl 3 (by decide) (hts _ kw_17) (v := va_rf (sw_hd (LQ i) none)) rfl d_Sw_leaves_24 ?_
      refine hp_astore (lv' := [(6, va_rf (sw_hd (LQ i) none)), (5, .int 0), (2, va_rf ea), (3, .int ((lv_out σ t i).2)), (4, .int (nI i)), (0, .ref a), (1, .int t)]) hx hb d_Sw_leaves_27 hl (by decide) rfl (fun ls hl => ?_)
      refine In (sg_qu σ i) (LQ i) 0 ea (lv_out σ t i) i ls o8 (fun c hc => Nat.lt_of_lt_of_le ((hinv.1 i hi8).2.2.2 c hc).2.2.2 hac) he (fun ea' ls he' hl => ?_) (lv_sub hl [0, 1, 2, 3, 4, 5, 6] rfl)
      replace hl : lv_has ls 7 [(2, va_rf ea'), (3, .int ((lv_out σ t (i + 1)).2)), (4, .int (nI i)), (0, .ref a), (1, .int t)] := hl
      refine lv_iinc (v := nI (i + 1)) (lv' := [(4, .int (nI (i + 1))), (2, va_rf ea'), (3, .int ((lv_out σ t (i + 1)).2)), (0, .ref a), (1, .int t)]) hx hb d_Sw_leaves_79 hl (k := 2) rfl (nI_1 i) (by decide) rfl (fun ls hl => ?_)
      refine lv_goto (tgt := 7) hx hb d_Sw_leaves_82 (by decide) ?_
      exact ih (i + 1) ea' ls (by omega) he' (lv_sub hl [1, 2, 0, 3, 4] rfl)
  exact Lp 8 0 none ls (by omega) trivial (lv_sub hl [2, 1, 0, 3, 4] rfl)
