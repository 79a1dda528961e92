theorem kw_49 : Cond.fieldLink R_Ou 66 "EvenSwitch$Cell" "next" "LEvenSwitch$Cell;" ∈ wd_T := wd_in (List.mem_of_getElem? (i := 144) (by decide +kernel)) rfl
theorem kw_50 : Cond.methodLink R_Ou 62 y_Ou_isBefore ∈ wd_T := wd_in (List.mem_of_getElem? (i := 187) (by decide +kernel)) rfl
theorem kw_51 : Cond.code y_Ou_isBefore b_Ou_isBefore 3 (some .boolean) ∈ wd_T := wd_in (List.mem_of_getElem? (i := 190) (by decide +kernel)) rfl
theorem kw_52 : Cond.instanceMethod y_Ou_isBefore ∈ wd_T := wd_in (List.mem_of_getElem? (i := 189) (by decide +kernel)) rfl
theorem kw_53 : Cond.selects R_Ou y_Ou_isBefore y_Ou_isBefore ∈ wd_T := wd_in (List.mem_of_getElem? (i := 4) (by decide +kernel)) rfl
theorem kw_54 : Cond.fieldLink R_Ou 30 "EvenSwitch$Cell" "cameInSlot" "I" ∈ wd_T := wd_in (List.mem_of_getElem? (i := 140) (by decide +kernel)) rfl
theorem kw_55 : Cond.methodLink R_Ou 35 y_Ou_stamp ∈ wd_T := wd_in (List.mem_of_getElem? (i := 175) (by decide +kernel)) rfl
theorem kw_56 : Cond.code y_Ou_stamp b_Ou_stamp 5 none ∈ wd_T := wd_in (List.mem_of_getElem? (i := 178) (by decide +kernel)) rfl
theorem kw_57 : Cond.instanceMethod y_Ou_stamp ∈ wd_T := wd_in (List.mem_of_getElem? (i := 177) (by decide +kernel)) rfl
theorem kw_58 : Cond.selects R_Ou y_Ou_stamp y_Ou_stamp ∈ wd_T := wd_in (List.mem_of_getElem? (i := 2) (by decide +kernel)) rfl
theorem kw_59 : Cond.methodLink R_Ou 39 y_Ou_putInOrder ∈ wd_T := wd_in (List.mem_of_getElem? (i := 183) (by decide +kernel)) rfl
theorem kw_60 : Cond.code y_Ou_putInOrder b_Ou_putInOrder 4 none ∈ wd_T := wd_in (List.mem_of_getElem? (i := 186) (by decide +kernel)) rfl
theorem kw_61 : Cond.instanceMethod y_Ou_putInOrder ∈ wd_T := wd_in (List.mem_of_getElem? (i := 185) (by decide +kernel)) rfl
theorem kw_62 : Cond.selects R_Ou y_Ou_putInOrder y_Ou_putInOrder ∈ wd_T := wd_in (List.mem_of_getElem? (i := 3) (by decide +kernel)) rfl
theorem d_Ou_putInOrder_0 : decode b_Ou_putInOrder 0 = .ok (.aconst_null, 1) := by decide +kernel
theorem d_Ou_putInOrder_1 : decode b_Ou_putInOrder 1 = .ok (.astore_n 2, 1) := by decide +kernel
theorem d_Ou_putInOrder_2 : decode b_Ou_putInOrder 2 = .ok (.aload_n 0, 1) := by decide +kernel
theorem d_Ou_putInOrder_3 : decode b_Ou_putInOrder 3 = .ok (.getfield 58, 3) := by decide +kernel
theorem d_Ou_putInOrder_6 : decode b_Ou_putInOrder 6 = .ok (.astore_n 3, 1) := by decide +kernel
theorem d_Ou_putInOrder_7 : decode b_Ou_putInOrder 7 = .ok (.aload_n 3, 1) := by decide +kernel
theorem d_Ou_putInOrder_8 : decode b_Ou_putInOrder 8 = .ok (.ifnull 22, 3) := by decide +kernel
theorem d_Ou_putInOrder_11 : decode b_Ou_putInOrder 11 = .ok (.aload_n 0, 1) := by decide +kernel
theorem d_Ou_putInOrder_12 : decode b_Ou_putInOrder 12 = .ok (.aload_n 1, 1) := by decide +kernel
theorem d_Ou_putInOrder_13 : decode b_Ou_putInOrder 13 = .ok (.aload_n 3, 1) := by decide +kernel
theorem d_Ou_putInOrder_14 : decode b_Ou_putInOrder 14 = .ok (.invokevirtual 62, 3) := by decide +kernel
theorem d_Ou_putInOrder_17 : decode b_Ou_putInOrder 17 = .ok (.ifCond .ne 13, 3) := by decide +kernel
theorem d_Ou_putInOrder_20 : decode b_Ou_putInOrder 20 = .ok (.aload_n 3, 1) := by decide +kernel
theorem d_Ou_putInOrder_21 : decode b_Ou_putInOrder 21 = .ok (.astore_n 2, 1) := by decide +kernel
theorem d_Ou_putInOrder_22 : decode b_Ou_putInOrder 22 = .ok (.aload_n 3, 1) := by decide +kernel
theorem d_Ou_putInOrder_23 : decode b_Ou_putInOrder 23 = .ok (.getfield 66, 3) := by decide +kernel
theorem d_Ou_putInOrder_26 : decode b_Ou_putInOrder 26 = .ok (.astore_n 3, 1) := by decide +kernel
theorem d_Ou_putInOrder_27 : decode b_Ou_putInOrder 27 = .ok (.goto (-20), 3) := by decide +kernel
theorem d_Ou_putInOrder_30 : decode b_Ou_putInOrder 30 = .ok (.aload_n 1, 1) := by decide +kernel
theorem d_Ou_putInOrder_31 : decode b_Ou_putInOrder 31 = .ok (.aload_n 3, 1) := by decide +kernel
theorem d_Ou_putInOrder_32 : decode b_Ou_putInOrder 32 = .ok (.putfield 66, 3) := by decide +kernel
theorem d_Ou_putInOrder_35 : decode b_Ou_putInOrder 35 = .ok (.aload_n 2, 1) := by decide +kernel
theorem d_Ou_putInOrder_36 : decode b_Ou_putInOrder 36 = .ok (.ifnonnull 11, 3) := by decide +kernel
theorem d_Ou_putInOrder_39 : decode b_Ou_putInOrder 39 = .ok (.aload_n 0, 1) := by decide +kernel
theorem d_Ou_putInOrder_40 : decode b_Ou_putInOrder 40 = .ok (.aload_n 1, 1) := by decide +kernel
theorem d_Ou_putInOrder_41 : decode b_Ou_putInOrder 41 = .ok (.putfield 58, 3) := by decide +kernel
theorem d_Ou_putInOrder_44 : decode b_Ou_putInOrder 44 = .ok (.goto 8, 3) := by decide +kernel
theorem d_Ou_putInOrder_47 : decode b_Ou_putInOrder 47 = .ok (.aload_n 2, 1) := by decide +kernel
theorem d_Ou_putInOrder_48 : decode b_Ou_putInOrder 48 = .ok (.aload_n 1, 1) := by decide +kernel
theorem d_Ou_putInOrder_49 : decode b_Ou_putInOrder 49 = .ok (.putfield 66, 3) := by decide +kernel
theorem d_Ou_putInOrder_52 : decode b_Ou_putInOrder 52 = .ok (.aload_n 0, 1) := by decide +kernel
theorem d_Ou_putInOrder_53 : decode b_Ou_putInOrder 53 = .ok (.dup, 1) := by decide +kernel
theorem d_Ou_putInOrder_54 : decode b_Ou_putInOrder 54 = .ok (.getfield 69, 3) := by decide +kernel
theorem d_Ou_putInOrder_57 : decode b_Ou_putInOrder 57 = .ok (.iconst 1, 1) := by decide +kernel
theorem d_Ou_putInOrder_58 : decode b_Ou_putInOrder 58 = .ok (.iadd, 1) := by decide +kernel
theorem d_Ou_putInOrder_59 : decode b_Ou_putInOrder 59 = .ok (.putfield 69, 3) := by decide +kernel
theorem d_Ou_putInOrder_62 : decode b_Ou_putInOrder 62 = .ok (.return_, 1) := by decide +kernel
theorem d_Ou_takeIn_0 : decode b_Ou_takeIn 0 = .ok (.aload_n 1, 1) := by decide +kernel
theorem d_Ou_takeIn_1 : decode b_Ou_takeIn 1 = .ok (.iload_n 2, 1) := by decide +kernel
theorem d_Ou_takeIn_2 : decode b_Ou_takeIn 2 = .ok (.putfield 30, 3) := by decide +kernel
theorem d_Ou_takeIn_5 : decode b_Ou_takeIn 5 = .ok (.aload_n 0, 1) := by decide +kernel
theorem d_Ou_takeIn_6 : decode b_Ou_takeIn 6 = .ok (.getfield 9, 3) := by decide +kernel
theorem d_Ou_takeIn_9 : decode b_Ou_takeIn 9 = .ok (.iconst 2, 1) := by decide +kernel
theorem d_Ou_takeIn_10 : decode b_Ou_takeIn 10 = .ok (.if_icmp .ne 9, 3) := by decide +kernel
theorem d_Ou_takeIn_13 : decode b_Ou_takeIn 13 = .ok (.aload_n 0, 1) := by decide +kernel
theorem d_Ou_takeIn_14 : decode b_Ou_takeIn 14 = .ok (.aload_n 1, 1) := by decide +kernel
theorem d_Ou_takeIn_15 : decode b_Ou_takeIn 15 = .ok (.iload_n 2, 1) := by decide +kernel
theorem d_Ou_takeIn_16 : decode b_Ou_takeIn 16 = .ok (.invokevirtual 35, 3) := by decide +kernel
theorem d_Ou_takeIn_19 : decode b_Ou_takeIn 19 = .ok (.aload_n 0, 1) := by decide +kernel
theorem d_Ou_takeIn_20 : decode b_Ou_takeIn 20 = .ok (.aload_n 1, 1) := by decide +kernel
theorem d_Ou_takeIn_21 : decode b_Ou_takeIn 21 = .ok (.invokevirtual 39, 3) := by decide +kernel
theorem d_Ou_takeIn_24 : decode b_Ou_takeIn 24 = .ok (.return_, 1) := by decide +kernel
abbrev rm_Ou_putInOrder : Room := { frames := 1, cells := 0, slots := 0, locals := 22 }
set_option maxHeartbeats 4000000 in
set_option maxRecDepth 100000 in
theorem cn_Ou_putInOrder (l : Launch) (D : va_G) (B : Nat) (M : hp_M) (po : Nat) (kd : Int32) (ps pl : Nat) (n : Int32) (la : Option Nat) (L : List Nat) (cs : List sg_Ce) (q : Nat) (c : sg_Ce) (nq : Option Nat) (h1 : M po = some (sw_o kd ps pl (sw_hd L none) n la)) (hch : sw_sg M L cs none) (h2 : M q = some (sw_c c nq)) (hq : q ∉ L) (hnd : L.Nodup) (hkd : kd = 0 ∨ kd = 1 ∨ kd = 2) (hc : sg_cg c < 8) (hcs : ∀ d ∈ cs, sg_cg d < 8) : Met l y_Ou_putInOrder (wd_c y_Ou_putInOrder b_Ou_putInOrder 4 (none)) rm_Ou_putInOrder (va_Pc [.ref po, .ref q] (hp_C D B M)) (va_Qv (fun  (M1 : hp_M) => ∃ L' : List Nat, M1 po = some (sw_o kd ps pl (sw_hd L' none) (n + 1) la) ∧ sw_sg M1 L' (sg_ins kd c cs) none ∧ L'.Nodup ∧ (∀ x, x ∈ L' ↔ x = q ∨ x ∈ L) ∧ ∀ x, x ≠ po → x ≠ q → x ∉ L → M1 x = M x) (hp_C D B) (hp_ub B)) 0 0 (hp_ub B) := by
  refine hp_met (by decide) (Nat.le_of_ble_eq_true rfl) ?_
  intro p e s m args below meth cd ls Q hQ hx hb hr hts hown hlocks hnm hml hK hH hS hB hl
  replace hl : lv_has ls 4 [(0, .ref po), (1, .ref q)] := hl
  refine lv_null hx hb d_Ou_putInOrder_0 ?_
  refine lv_astore_nN (lv' := [(2, .null), (0, .ref po), (1, .ref q)]) hx hb d_Ou_putInOrder_1 rfl hl (by decide) rfl (fun ls hl => ?_)
  refine lv_aload_n hx hb d_Ou_putInOrder_2 rfl (lv_at hl 1 rfl) ?_
  refine hp_get hx hb hts iw_Ou hown hK hH h1 rfl 3 (by decide) (hts _ kw_30) (v := va_rf (sw_hd L none)) rfl d_Ou_putInOrder_3 ?_
  refine hp_astore_n (lv' := [(3, va_rf (sw_hd L none)), (2, .null), (0, .ref po), (1, .ref q)]) hx hb d_Ou_putInOrder_6 rfl hl (by decide) rfl (fun ls hl => ?_)
  have fin : ∀ (K : List Nat) (kc cs2 : List sg_Ce) (L2 : List Nat) (H : Heap) (locs : List Loc) (ls : Array Slot), hp_H D B M H → va_S (hp_ub B) s.heap H locs → L = K ++ L2 → cs = kc ++ cs2 → K.length = kc.length → sg_ins kd c cs = kc ++ c :: cs2 → lv_has ls 4 [(3, va_rf (sw_hd L2 none)), (2, va_rf (K.getLast?)), (0, .ref po), (1, .ref q)] → W p l e rm_Ou_putInOrder s m args below meth cd H locs 0 0 Q (F0 m 30 ls []) := by
    clear hl
    intro K kc cs2 L2 H locs ls hH hS eL ec hlen hins hl
    have hpo := sw_sg_ne ix_ou hch h1 rfl (by decide)
    have hpq : q ≠ po := hp_ne ix_ce ix_ou h2 h1 rfl rfl (by decide)
    rcases List.eq_nil_or_concat K with rfl | ⟨K', x, rfl⟩
    · have ek : kc = [] := List.eq_nil_of_length_eq_zero hlen.symm
      subst ek
      rw [List.nil_append] at eL ec
      subst eL
      subst ec
      replace hl : lv_has ls 4 [(3, va_rf (sw_hd L none)), (2, .null), (0, .ref po), (1, .ref q)] := hl
      refine lv_aload_n hx hb d_Ou_putInOrder_30 rfl (lv_at hl 3 rfl) ?_
      refine hp_aload_n hx hb d_Ou_putInOrder_31 rfl (lv_at hl 0 rfl) ?_
      refine hp_put hx hb hts iw_Ce t_Ce t_Ce_ok n_Ce hown hK hH hS hB h2 rfl 7 (by decide) (hts _ kw_49) rfl  (v := va_rf (sw_hd L none)) (by cases (sw_hd L none) <;> rfl) (by cases (sw_hd L none) <;> rfl) (Nat.le_of_ble_eq_true rfl) (fs' := [.int (nI (sg_ci c)), .int (nI (sg_co c)), .int (nI (sg_cg c)), .int (sg_ct c), .long (lN (sg_cs c)), .int (sg_cc c), .long (sg_cm c), va_rf (sw_hd L none)]) rfl d_Ou_putInOrder_32 (fun M_1 H locs eM_1 hH hS => ?_)
      have f_2 : M_1 q = some (.inr (ix_ce, [.int (nI (sg_ci c)), .int (nI (sg_co c)), .int (nI (sg_cg c)), .int (sg_ct c), .long (lN (sg_cs c)), .int (sg_cc c), .long (sg_cm c), va_rf (sw_hd L none)])) := by rw [eM_1]; exact va_up_self _ _ _
      have f_3 : M_1 po = some (.inr (ix_ou, [.int kd, .ref ps, .ref pl, va_rf (sw_hd L none), .int n, va_rf la])) := by rw [eM_1, va_up_ne _ _ (hp_ne ix_ou ix_ce h1 h2 rfl rfl (by decide))]; exact h1
      refine lv_aload_nN hx hb d_Ou_putInOrder_35 rfl (lv_at hl 1 rfl) ?_
      refine lv_ifnonnullN hx hb d_Ou_putInOrder_36 ?_
      refine lv_aload_n hx hb d_Ou_putInOrder_39 rfl (lv_at hl 2 rfl) ?_
      refine lv_aload_n hx hb d_Ou_putInOrder_40 rfl (lv_at hl 3 rfl) ?_
      refine hp_put hx hb hts iw_Ou t_Ou t_Ou_ok n_Ou hown hK hH hS hB f_3 rfl 3 (by decide) (hts _ kw_30) rfl  (v := .ref q) rfl rfl (Nat.le_of_ble_eq_true rfl) (fs' := [.int kd, .ref ps, .ref pl, .ref q, .int n, va_rf la]) rfl d_Ou_putInOrder_41 (fun M_4 H locs eM_4 hH hS => ?_)
      have f_5 : M_4 po = some (.inr (ix_ou, [.int kd, .ref ps, .ref pl, .ref q, .int n, va_rf la])) := by rw [eM_4]; exact va_up_self _ _ _
      have f_6 : M_4 q = some (.inr (ix_ce, [.int (nI (sg_ci c)), .int (nI (sg_co c)), .int (nI (sg_cg c)), .int (sg_ct c), .long (lN (sg_cs c)), .int (sg_cc c), .long (sg_cm c), va_rf (sw_hd L none)])) := by rw [eM_4, va_up_ne _ _ (hp_ne ix_ce ix_ou f_2 f_3 rfl rfl (by decide))]; exact f_2
      refine lv_goto (tgt := 52) hx hb d_Ou_putInOrder_44 (by decide) ?_
      refine lv_aload_n hx hb d_Ou_putInOrder_52 rfl (lv_at hl 2 rfl) ?_
      refine lv_dup hx hb d_Ou_putInOrder_53 rfl ?_
      refine hp_get hx hb hts iw_Ou hown hK hH f_5 rfl 4 (by decide) (hts _ kw_31) (v := .int n) rfl d_Ou_putInOrder_54 ?_
      refine lv_iconst (v := 1) hx hb d_Ou_putInOrder_57 (by decide) ?_
      refine lv_iadd hx hb d_Ou_putInOrder_58 ?_
      refine hp_put hx hb hts iw_Ou t_Ou t_Ou_ok n_Ou hown hK hH hS hB f_5 rfl 4 (by decide) (hts _ kw_31) rfl  (v := .int (n + 1)) rfl rfl (Nat.le_of_ble_eq_true rfl) (fs' := [.int kd, .ref ps, .ref pl, .ref q, .int (n + 1), va_rf la]) rfl d_Ou_putInOrder_59 (fun M_7 H locs eM_7 hH hS => ?_)
      have f_8 : M_7 po = some (.inr (ix_ou, [.int kd, .ref ps, .ref pl, .ref q, .int (n + 1), va_rf la])) := by rw [eM_7]; exact va_up_self _ _ _
      have f_9 : M_7 q = some (.inr (ix_ce, [.int (nI (sg_ci c)), .int (nI (sg_co c)), .int (nI (sg_cg c)), .int (sg_ct c), .long (lN (sg_cs c)), .int (sg_cc c), .long (sg_cm c), va_rf (sw_hd L none)])) := by rw [eM_7, va_up_ne _ _ (hp_ne ix_ce ix_ou f_6 f_5 rfl rfl (by decide))]; exact f_6
      exact hp_vret hx hb hr hlocks hQ hK hH hS (Nat.le_of_ble_eq_true rfl) (Nat.le_of_ble_eq_true rfl) d_Ou_putInOrder_62 ⟨q :: L, by rw [hins]; exact sw_pi0 hch hq hpo hpq hnd (by rw [eM_7, eM_4, eM_1]; first | done | rfl)⟩
    · obtain ⟨kc', d, rfl⟩ : ∃ kc' d, kc = kc' ++ [d] := by
        rcases List.eq_nil_or_concat kc with e | ⟨k', d, e⟩
        · subst e; simp at hlen
        · exact ⟨k', d, by rw [e, List.concat_eq_append]⟩
      rw [List.concat_eq_append] at eL hlen hl
      rw [List.getLast?_concat] at hl
      rw [List.append_assoc] at eL ec hins
      replace hlen : K'.length = kc'.length := by simpa using hlen
      subst eL
      subst ec
      replace hl : lv_has ls 4 [(3, va_rf (sw_hd L2 none)), (2, .ref x), (0, .ref po), (1, .ref q)] := hl
      obtain ⟨-, hxx, -⟩ := (sw_sg_app hlen).mp hch
      have hxq : x ≠ q := fun z => hq (z ▸ List.mem_append_right _ List.mem_cons_self)
      have hd_pi : sw_hd (K' ++ x :: q :: L2) none = sw_hd (K' ++ x :: L2) none := sw_hd_ins
      refine lv_aload_n hx hb d_Ou_putInOrder_30 rfl (lv_at hl 3 rfl) ?_
      refine hp_aload_n hx hb d_Ou_putInOrder_31 rfl (lv_at hl 0 rfl) ?_
      refine hp_put hx hb hts iw_Ce t_Ce t_Ce_ok n_Ce hown hK hH hS hB h2 rfl 7 (by decide) (hts _ kw_49) rfl  (v := va_rf (sw_hd L2 none)) (by cases (sw_hd L2 none) <;> rfl) (by cases (sw_hd L2 none) <;> rfl) (Nat.le_of_ble_eq_true rfl) (fs' := [.int (nI (sg_ci c)), .int (nI (sg_co c)), .int (nI (sg_cg c)), .int (sg_ct c), .long (lN (sg_cs c)), .int (sg_cc c), .long (sg_cm c), va_rf (sw_hd L2 none)]) rfl d_Ou_putInOrder_32 (fun M_10 H locs eM_10 hH hS => ?_)
      have f_11 : M_10 q = some (.inr (ix_ce, [.int (nI (sg_ci c)), .int (nI (sg_co c)), .int (nI (sg_cg c)), .int (sg_ct c), .long (lN (sg_cs c)), .int (sg_cc c), .long (sg_cm c), va_rf (sw_hd L2 none)])) := by rw [eM_10]; exact va_up_self _ _ _
      have f_12 : M_10 po = some (.inr (ix_ou, [.int kd, .ref ps, .ref pl, va_rf (sw_hd (K' ++ x :: L2) none), .int n, va_rf la])) := by rw [eM_10, va_up_ne _ _ (hp_ne ix_ou ix_ce h1 h2 rfl rfl (by decide))]; exact h1
      have f_13 : M_10 x = some (.inr (ix_ce, [.int (nI (sg_ci d)), .int (nI (sg_co d)), .int (nI (sg_cg d)), .int (sg_ct d), .long (lN (sg_cs d)), .int (sg_cc d), .long (sg_cm d), va_rf (sw_hd L2 none)])) := by rw [eM_10, va_up_ne _ _ hxq]; exact hxx
      refine lv_aload_n hx hb d_Ou_putInOrder_35 rfl (lv_at hl 1 rfl) ?_
      refine lv_ifnonnull (tgt := 47) hx hb d_Ou_putInOrder_36 (by decide) ?_
      refine lv_aload_n hx hb d_Ou_putInOrder_47 rfl (lv_at hl 1 rfl) ?_
      refine lv_aload_n hx hb d_Ou_putInOrder_48 rfl (lv_at hl 3 rfl) ?_
      refine hp_put hx hb hts iw_Ce t_Ce t_Ce_ok n_Ce hown hK hH hS hB f_13 rfl 7 (by decide) (hts _ kw_49) rfl  (v := .ref q) rfl rfl (Nat.le_of_ble_eq_true rfl) (fs' := [.int (nI (sg_ci d)), .int (nI (sg_co d)), .int (nI (sg_cg d)), .int (sg_ct d), .long (lN (sg_cs d)), .int (sg_cc d), .long (sg_cm d), .ref q]) rfl d_Ou_putInOrder_49 (fun M_14 H locs eM_14 hH hS => ?_)
      have f_15 : M_14 x = some (.inr (ix_ce, [.int (nI (sg_ci d)), .int (nI (sg_co d)), .int (nI (sg_cg d)), .int (sg_ct d), .long (lN (sg_cs d)), .int (sg_cc d), .long (sg_cm d), .ref q])) := by rw [eM_14]; exact va_up_self _ _ _
      have f_16 : M_14 po = some (.inr (ix_ou, [.int kd, .ref ps, .ref pl, va_rf (sw_hd (K' ++ x :: L2) none), .int n, va_rf la])) := by rw [eM_14, va_up_ne _ _ (hp_ne ix_ou ix_ce f_12 f_13 rfl rfl (by decide))]; exact f_12
      have f_17 : M_14 q = some (.inr (ix_ce, [.int (nI (sg_ci c)), .int (nI (sg_co c)), .int (nI (sg_cg c)), .int (sg_ct c), .long (lN (sg_cs c)), .int (sg_cc c), .long (sg_cm c), va_rf (sw_hd L2 none)])) := by rw [eM_14, va_up_ne _ _ (Ne.symm hxq)]; exact f_11
      refine lv_aload_n hx hb d_Ou_putInOrder_52 rfl (lv_at hl 2 rfl) ?_
      refine lv_dup hx hb d_Ou_putInOrder_53 rfl ?_
      refine hp_get hx hb hts iw_Ou hown hK hH f_16 rfl 4 (by decide) (hts _ kw_31) (v := .int n) rfl d_Ou_putInOrder_54 ?_
      refine lv_iconst (v := 1) hx hb d_Ou_putInOrder_57 (by decide) ?_
      refine lv_iadd hx hb d_Ou_putInOrder_58 ?_
      refine hp_put hx hb hts iw_Ou t_Ou t_Ou_ok n_Ou hown hK hH hS hB f_16 rfl 4 (by decide) (hts _ kw_31) rfl  (v := .int (n + 1)) rfl rfl (Nat.le_of_ble_eq_true rfl) (fs' := [.int kd, .ref ps, .ref pl, va_rf (sw_hd (K' ++ x :: L2) none), .int (n + 1), va_rf la]) rfl d_Ou_putInOrder_59 (fun M_18 H locs eM_18 hH hS => ?_)
      have f_19 : M_18 po = some (.inr (ix_ou, [.int kd, .ref ps, .ref pl, va_rf (sw_hd (K' ++ x :: L2) none), .int (n + 1), va_rf la])) := by rw [eM_18]; exact va_up_self _ _ _
      have f_20 : M_18 q = some (.inr (ix_ce, [.int (nI (sg_ci c)), .int (nI (sg_co c)), .int (nI (sg_cg c)), .int (sg_ct c), .long (lN (sg_cs c)), .int (sg_cc c), .long (sg_cm c), va_rf (sw_hd L2 none)])) := by rw [eM_18, va_up_ne _ _ (hp_ne ix_ce ix_ou f_17 f_16 rfl rfl (by decide))]; exact f_17
      have f_21 : M_18 x = some (.inr (ix_ce, [.int (nI (sg_ci d)), .int (nI (sg_co d)), .int (nI (sg_cg d)), .int (sg_ct d), .long (lN (sg_cs d)), .int (sg_cc d), .long (sg_cm d), .ref q])) := by rw [eM_18, va_up_ne _ _ (hp_ne ix_ce ix_ou f_15 f_16 rfl rfl (by decide))]; exact f_15
      exact hp_vret hx hb hr hlocks hQ hK hH hS (Nat.le_of_ble_eq_true rfl) (Nat.le_of_ble_eq_true rfl) d_Ou_putInOrder_62 ⟨K' ++ x :: q :: L2, by rw [hd_pi, hins]; exact sw_pi1 hch hlen hq hpo hpq hnd (by rw [eM_18, eM_14, eM_10]; first | done | rfl)⟩
  have Lp : ∀ (cs2 : List sg_Ce) (K : List Nat) (kc : List sg_Ce) (L2 : List Nat) (H : Heap) (locs : List Loc) (ls : Array Slot), hp_H D B M H → va_S (hp_ub B) s.heap H locs → L = K ++ L2 → cs = kc ++ cs2 → K.length = kc.length → (∀ d ∈ kc, sg_bef kd c d = false) → lv_has ls 4 [(3, va_rf (sw_hd L2 none)), (2, va_rf (K.getLast?)), (0, .ref po), (1, .ref q)] → W p l e rm_Ou_putInOrder s m args below meth cd H locs 0 0 Q (F0 m 7 ls []) := by
    intro cs2
    induction cs2 with
    | nil =>
      intro K kc L2 H locs ls hH hS eL ec hlen hkc hl
      have hL2 : L2 = [] := by have := sw_sg_len hch; rw [eL, ec] at this; simp [hlen] at this; exact this
      subst hL2
      replace hl : lv_has ls 4 [(3, .null), (2, va_rf (K.getLast?)), (0, .ref po), (1, .ref q)] := hl
      refine lv_aload_nN hx hb d_Ou_putInOrder_7 rfl (lv_at hl 0 rfl) ?_
      refine lv_ifnullN (tgt := 30) hx hb d_Ou_putInOrder_8 (by decide) ?_
      exact fin K kc [] [] H locs ls hH hS eL ec hlen (by rw [ec]; exact sg_ins_at hkc (fun _ _ h => by cases h)) hl
    | cons d ds ih =>
      intro K kc L2 H locs ls hH hS eL ec hlen hkc hl
      have hc2 := hch
      rw [eL, ec] at hc2
      obtain ⟨x, xs, eL2, hx2, -⟩ := sw_sg_cons ((sw_sg_app hlen).mp hc2).2
      subst eL2
      replace hl : lv_has ls 4 [(3, .ref x), (2, va_rf (K.getLast?)), (0, .ref po), (1, .ref q)] := hl
      have hdm : d ∈ cs := by rw [ec]; exact List.mem_append_right _ List.mem_cons_self
      refine lv_aload_n hx hb d_Ou_putInOrder_7 rfl (lv_at hl 0 rfl) ?_
      refine lv_ifnull hx hb d_Ou_putInOrder_8 ?_
      refine lv_aload_n hx hb d_Ou_putInOrder_11 rfl (lv_at hl 2 rfl) ?_
      refine lv_aload_n hx hb d_Ou_putInOrder_12 rfl (lv_at hl 3 rfl) ?_
      refine lv_aload_n hx hb d_Ou_putInOrder_13 rfl (lv_at hl 0 rfl) ?_
      refine hp_calli (hp_runV (b := po) (As := [.ref q, .ref x]) (rest := []) hx hb hml hown (cn_Ou_isBefore l D B M po kd ps pl (sw_hd L none) n la q x c d nq (sw_hd xs none) h1 h2 hx2 hkd hc (hcs d hdm)) (hp_cwV 2 hts kw_50 kw_52 kw_53 kw_34 kw_51 rfl rfl (by decide +kernel) ⟨(Nat.le_of_ble_eq_true rfl), (Nat.le_of_ble_eq_true rfl)⟩) hK hH h1 rfl rfl hl.1 rfl (Nat.le_of_ble_eq_true rfl) d_Ou_putInOrder_14 ⟨(Nat.le_of_ble_eq_true rfl), (Nat.le_of_ble_eq_true rfl)⟩) hS (fun r_22 M_23 H locs w_24 hH hS => ?_)
      obtain ⟨eM, eR⟩ := w_24
      rw [eM] at hH
      rw [eR]
      refine lv_if_ne (tgt := 30) hx hb d_Ou_putInOrder_17 (by decide) (fun c_25 => ?_) (fun c_25 => ?_)
      · exact fin K kc (d :: ds) (x :: xs) H locs ls hH hS eL ec hlen (by rw [ec]; exact sg_ins_at hkc (fun d' ds' h => by cases h; exact sw_bt c_25)) hl
      · refine lv_aload_n hx hb d_Ou_putInOrder_20 rfl (lv_at hl 0 rfl) ?_
        refine lv_astore_n (lv' := [(2, .ref x), (3, .ref x), (0, .ref po), (1, .ref q)]) hx hb d_Ou_putInOrder_21 rfl hl (by decide) rfl (fun ls hl => ?_)
        refine lv_aload_n hx hb d_Ou_putInOrder_22 rfl (lv_at hl 1 rfl) ?_
        refine hp_get hx hb hts iw_Ce hown hK hH hx2 rfl 7 (by decide) (hts _ kw_49) (v := va_rf (sw_hd xs none)) rfl d_Ou_putInOrder_23 ?_
        refine hp_astore_n (lv' := [(3, va_rf (sw_hd xs none)), (2, .ref x), (0, .ref po), (1, .ref q)]) hx hb d_Ou_putInOrder_26 rfl hl (by decide) rfl (fun ls hl => ?_)
        refine lv_goto (tgt := 7) hx hb d_Ou_putInOrder_27 (by decide) ?_
        exact ih (K ++ [x]) (kc ++ [d]) xs H locs ls hH hS (by rw [eL, List.append_assoc]; rfl) (by rw [ec, List.append_assoc]; rfl) (by simp [hlen]) (fun y hy => by rcases List.mem_append.mp hy with w | w; exact hkc y w; rw [List.mem_singleton.mp w]; exact sw_bf c_25) (by rw [List.getLast?_concat]; exact lv_sub hl [0, 1, 2, 3] rfl)
  exact Lp cs [] [] L _ _ ls hH hS rfl rfl rfl (fun d hd => absurd hd List.not_mem_nil) hl
abbrev rm_Ou_takeIn : Room := { frames := 2, cells := 0, slots := 0, locals := 47 }
set_option maxHeartbeats 4000000 in
set_option maxRecDepth 100000 in
theorem cn_Ou_takeIn (l : Launch) (D : va_G) (B : Nat) (M : hp_M) (po : Nat) (kd : Int32) (ps pl : Nat) (n : Int32) (la : Option Nat) (L : List Nat) (cs : List sg_Ce) (q : Nat) (c : sg_Ce) (nq : Option Nat) (sl : Int32) (fl : Nat → Int64) (fs : Nat → Int32) (h1 : M po = some (sw_o kd ps pl (sw_hd L none) n la)) (hch : sw_sg M L cs none) (h2 : M q = some (sw_c c nq)) (hq : q ∉ L) (hnd : L.Nodup) (hkd : kd = 0 ∨ kd = 1 ∨ kd = 2) (hc : sg_cg c < 8) (hcs : ∀ d ∈ cs, sg_cg d < 8) (h3 : M pl = some (hp_al D 8 fl)) (h4 : M ps = some (hp_ai D 8 fs)) : Met l y_Ou_takeIn (wd_c y_Ou_takeIn b_Ou_takeIn 3 (none)) rm_Ou_takeIn (va_Pc [.ref po, .ref q, .int sl] (hp_C D B M)) (va_Qv (fun  (M1 : hp_M) => ∃ (L' : List Nat) (g : Nat → Int64), (∀ j, j < 8 → g j = (if kd = 2 then va_up fl (sg_cg c) ((if fl (sg_cg c) < 256 * sl.toInt64 then 256 * sl.toInt64 else fl (sg_cg c)) + (fs (sg_cg c)).toInt64) j else fl j)) ∧ M1 po = some (sw_o kd ps pl (sw_hd L' none) (n + 1) la) ∧ M1 pl = some (hp_al D 8 g) ∧ sw_sg M1 L' (sg_ins kd (sg_ci c, sg_co c, sg_cg c, sg_ct c, sg_cs c, sl, (if kd = 2 then ((if fl (sg_cg c) < 256 * sl.toInt64 then 256 * sl.toInt64 else fl (sg_cg c)) + (fs (sg_cg c)).toInt64) else sg_cm c)) cs) none ∧ L'.Nodup ∧ (∀ x, x ∈ L' ↔ x = q ∨ x ∈ L) ∧ ∀ x, x ≠ po → x ≠ pl → x ≠ q → x ∉ L → M1 x = M x) (hp_C D B) (hp_ub B)) 0 0 (hp_ub B) := by
  by_cases hk2 : kd = 2
  · refine hp_met (by decide) (Nat.le_of_ble_eq_true rfl) ?_
    intro p e s m args below meth cd ls Q hQ hx hb hr hts hown hlocks hnm hml hK hH hS hB hl
    replace hl : lv_has ls 3 [(0, .ref po), (1, .ref q), (2, .int sl)] := hl
    subst hk2
    have hpo := sw_sg_ne ix_ou hch h1 rfl (by decide)
    have hpl := sw_sg_ne 101 hch h3 rfl (by decide)
    refine lv_aload_n hx hb d_Ou_takeIn_0 rfl (lv_at hl 1 rfl) ?_
    refine lv_iload_n hx hb d_Ou_takeIn_1 rfl (lv_at hl 2 rfl) ?_
    refine hp_put hx hb hts iw_Ce t_Ce t_Ce_ok n_Ce hown hK hH hS hB h2 rfl 5 (by decide) (hts _ kw_54) rfl  (v := .int sl) rfl rfl (Nat.le_of_ble_eq_true rfl) (fs' := [.int (nI (sg_ci c)), .int (nI (sg_co c)), .int (nI (sg_cg c)), .int (sg_ct c), .long (lN (sg_cs c)), .int sl, .long (sg_cm c), va_rf nq]) rfl d_Ou_takeIn_2 (fun M_1 H locs eM_1 hH hS => ?_)
    have f_2 : M_1 q = some (.inr (ix_ce, [.int (nI (sg_ci c)), .int (nI (sg_co c)), .int (nI (sg_cg c)), .int (sg_ct c), .long (lN (sg_cs c)), .int sl, .long (sg_cm c), va_rf nq])) := by rw [eM_1]; exact va_up_self _ _ _
    have f_3 : M_1 po = some (.inr (ix_ou, [.int 2, .ref ps, .ref pl, va_rf (sw_hd L none), .int n, va_rf la])) := by rw [eM_1, va_up_ne _ _ (hp_ne ix_ou ix_ce h1 h2 rfl rfl (by decide))]; exact h1
    have f_4 : M_1 pl = some (hp_al D 8 fl) := by rw [eM_1, va_up_ne _ _ (hp_ne 101 ix_ce h3 h2 rfl rfl (by decide))]; exact h3
    have f_5 : M_1 ps = some (hp_ai D 8 fs) := by rw [eM_1, va_up_ne _ _ (hp_ne 100 ix_ce h4 h2 rfl rfl (by decide))]; exact h4
    refine lv_aload_n hx hb d_Ou_takeIn_5 rfl (lv_at hl 0 rfl) ?_
    refine hp_get hx hb hts iw_Ou hown hK hH f_3 rfl 0 (by decide) (hts _ kw_48) (v := .int 2) rfl d_Ou_takeIn_6 ?_
    refine lv_iconst (v := 2) hx hb d_Ou_takeIn_9 (by decide) ?_
    refine lv_icmp_ne (tgt := 19) hx hb d_Ou_takeIn_10 (by decide) (fun c_6 => absurd rfl c_6) (fun c_6 => ?_)
    refine lv_aload_n hx hb d_Ou_takeIn_13 rfl (lv_at hl 0 rfl) ?_
    refine lv_aload_n hx hb d_Ou_takeIn_14 rfl (lv_at hl 1 rfl) ?_
    refine lv_iload_n hx hb d_Ou_takeIn_15 rfl (lv_at hl 2 rfl) ?_
    refine hp_callv (hp_runV (b := po) (As := [.ref q, .int sl]) (rest := []) hx hb hml hown (cn_Ou_stamp l D B M_1 po 2 ps pl (sw_hd L none) n la q (sg_ci c, sg_co c, sg_cg c, sg_ct c, sg_cs c, sl, sg_cm c) nq sl fl fs f_3 f_4 f_5 f_2 hc) (hp_cwV 2 hts kw_55 kw_57 kw_58 kw_34 kw_56 rfl rfl (by decide +kernel) ⟨(Nat.le_of_ble_eq_true rfl), (Nat.le_of_ble_eq_true rfl)⟩) hK hH f_3 rfl rfl hl.1 rfl (Nat.le_of_ble_eq_true rfl) d_Ou_takeIn_16 ⟨(Nat.le_of_ble_eq_true rfl), (Nat.le_of_ble_eq_true rfl)⟩) hS (fun M_8 H locs w_9 hH hS => ?_)
    have hn1 : q ≠ pl := hp_ne ix_ce 101 h2 h3 rfl rfl (by decide)
    have hn2 : po ≠ pl := hp_ne ix_ou 101 h1 h3 rfl rfl (by decide)
    have hn3 : po ≠ q := hp_ne ix_ou ix_ce h1 h2 rfl rfl (by decide)
    have eq2 : M_8 = va_up (va_up M q (some (sw_c (sg_ci c, sg_co c, sg_cg c, sg_ct c, sg_cs c, sl, ((if fl (sg_cg c) < 256 * sl.toInt64 then 256 * sl.toInt64 else fl (sg_cg c)) + (fs (sg_cg c)).toInt64)) nq))) pl (some (hp_al D 8 (vp_updL fl (sg_cg c) ((if fl (sg_cg c) < 256 * sl.toInt64 then 256 * sl.toInt64 else fl (sg_cg c)) + (fs (sg_cg c)).toInt64)))) := by rw [w_9, eM_1, hp_uu]
    have k1 : M_8 po = some (sw_o 2 ps pl (sw_hd L none) n la) := by rw [eq2, va_up_ne _ _ hn2, va_up_ne _ _ hn3]; exact h1
    have k2 : M_8 q = some (sw_c (sg_ci c, sg_co c, sg_cg c, sg_ct c, sg_cs c, sl, ((if fl (sg_cg c) < 256 * sl.toInt64 then 256 * sl.toInt64 else fl (sg_cg c)) + (fs (sg_cg c)).toInt64)) nq) := by rw [eq2, va_up_ne _ _ hn1]; exact va_up_self _ _ _
    have k3 : sw_sg M_8 L cs none := sw_sg_kept hch (fun x hx => by rw [eq2, va_up_ne _ _ (hp_nm hx hpl), va_up_ne _ _ (hp_nm hx hq)])
    refine lv_aload_n hx hb d_Ou_takeIn_19 rfl (lv_at hl 0 rfl) ?_
    refine lv_aload_n hx hb d_Ou_takeIn_20 rfl (lv_at hl 1 rfl) ?_
    refine hp_callv (hp_runV (b := po) (As := [.ref q]) (rest := []) hx hb hml hown (cn_Ou_putInOrder l D B M_8 po 2 ps pl n la L cs q (sg_ci c, sg_co c, sg_cg c, sg_ct c, sg_cs c, sl, ((if fl (sg_cg c) < 256 * sl.toInt64 then 256 * sl.toInt64 else fl (sg_cg c)) + (fs (sg_cg c)).toInt64)) nq k1 k3 k2 hq hnd hkd hc hcs) (hp_cwV 1 hts kw_59 kw_61 kw_62 kw_34 kw_60 rfl rfl (by decide +kernel) ⟨(Nat.le_of_ble_eq_true rfl), (Nat.le_of_ble_eq_true rfl)⟩) hK hH k1 rfl rfl hl.1 rfl (Nat.le_of_ble_eq_true rfl) d_Ou_takeIn_21 ⟨(Nat.le_of_ble_eq_true rfl), (Nat.le_of_ble_eq_true rfl)⟩) hS (fun M_11 H locs w_12 hH hS => ?_)
    obtain ⟨L', p1, p2, p3, p4, p5⟩ := w_12
    exact hp_vret hx hb hr hlocks hQ hK hH hS (Nat.le_of_ble_eq_true rfl) (Nat.le_of_ble_eq_true rfl) d_Ou_takeIn_24 ⟨L', vp_updL fl (sg_cg c) ((if fl (sg_cg c) < 256 * sl.toInt64 then 256 * sl.toInt64 else fl (sg_cg c)) + (fs (sg_cg c)).toInt64), fun j _ => rfl, p1, (p5 pl (Ne.symm hn2) (Ne.symm hn1) hpl).trans (by rw [eq2]; exact va_up_self _ _ _), p2, p3, p4, fun x a1 a2 a3 a4 => (p5 x a1 a3 a4).trans (by rw [eq2, va_up_ne _ _ a2, va_up_ne _ _ a3])⟩
  · refine hp_met (by decide) (Nat.le_of_ble_eq_true rfl) ?_
    intro p e s m args below meth cd ls Q hQ hx hb hr hts hown hlocks hnm hml hK hH hS hB hl
    replace hl : lv_has ls 3 [(0, .ref po), (1, .ref q), (2, .int sl)] := hl
    have hpo := sw_sg_ne ix_ou hch h1 rfl (by decide)
    have hpl := sw_sg_ne 101 hch h3 rfl (by decide)
    refine lv_aload_n hx hb d_Ou_takeIn_0 rfl (lv_at hl 1 rfl) ?_
    refine lv_iload_n hx hb d_Ou_takeIn_1 rfl (lv_at hl 2 rfl) ?_
    refine hp_put hx hb hts iw_Ce t_Ce t_Ce_ok n_Ce hown hK hH hS hB h2 rfl 5 (by decide) (hts _ kw_54) rfl  (v := .int sl) rfl rfl (Nat.le_of_ble_eq_true rfl) (fs' := [.int (nI (sg_ci c)), .int (nI (sg_co c)), .int (nI (sg_cg c)), .int (sg_ct c), .long (lN (sg_cs c)), .int sl, .long (sg_cm c), va_rf nq]) rfl d_Ou_takeIn_2 (fun M_1 H locs eM_1 hH hS => ?_)
    have f_2 : M_1 q = some (.inr (ix_ce, [.int (nI (sg_ci c)), .int (nI (sg_co c)), .int (nI (sg_cg c)), .int (sg_ct c), .long (lN (sg_cs c)), .int sl, .long (sg_cm c), va_rf nq])) := by rw [eM_1]; exact va_up_self _ _ _
    have f_3 : M_1 po = some (.inr (ix_ou, [.int kd, .ref ps, .ref pl, va_rf (sw_hd L none), .int n, va_rf la])) := by rw [eM_1, va_up_ne _ _ (hp_ne ix_ou ix_ce h1 h2 rfl rfl (by decide))]; exact h1
    have f_4 : M_1 pl = some (hp_al D 8 fl) := by rw [eM_1, va_up_ne _ _ (hp_ne 101 ix_ce h3 h2 rfl rfl (by decide))]; exact h3
    have f_5 : M_1 ps = some (hp_ai D 8 fs) := by rw [eM_1, va_up_ne _ _ (hp_ne 100 ix_ce h4 h2 rfl rfl (by decide))]; exact h4
    refine lv_aload_n hx hb d_Ou_takeIn_5 rfl (lv_at hl 0 rfl) ?_
    refine hp_get hx hb hts iw_Ou hown hK hH f_3 rfl 0 (by decide) (hts _ kw_48) (v := .int kd) rfl d_Ou_takeIn_6 ?_
    refine lv_iconst (v := 2) hx hb d_Ou_takeIn_9 (by decide) ?_
    refine lv_icmp_ne (tgt := 19) hx hb d_Ou_takeIn_10 (by decide) (fun c_6 => ?_) (fun c_6 => absurd c_6 hk2)
    refine lv_aload_n hx hb d_Ou_takeIn_19 rfl (lv_at hl 0 rfl) ?_
    refine lv_aload_n hx hb d_Ou_takeIn_20 rfl (lv_at hl 1 rfl) ?_
    have k3 : sw_sg M_1 L cs none := sw_sg_kept hch (fun x hx => by rw [eM_1, va_up_ne _ _ (hp_nm hx hq)])
    refine hp_callv (hp_runV (b := po) (As := [.ref q]) (rest := []) hx hb hml hown (cn_Ou_putInOrder l D B M_1 po kd ps pl n la L cs q (sg_ci c, sg_co c, sg_cg c, sg_ct c, sg_cs c, sl, sg_cm c) nq f_3 k3 f_2 hq hnd hkd hc hcs) (hp_cwV 1 hts kw_59 kw_61 kw_62 kw_34 kw_60 rfl rfl (by decide +kernel) ⟨(Nat.le_of_ble_eq_true rfl), (Nat.le_of_ble_eq_true rfl)⟩) hK hH f_3 rfl rfl hl.1 rfl (Nat.le_of_ble_eq_true rfl) d_Ou_takeIn_21 ⟨(Nat.le_of_ble_eq_true rfl), (Nat.le_of_ble_eq_true rfl)⟩) hS (fun M_8 H locs w_9 hH hS => ?_)
    obtain ⟨L', p1, p2, p3, p4, p5⟩ := w_9
    exact hp_vret hx hb hr hlocks hQ hK hH hS (Nat.le_of_ble_eq_true rfl) (Nat.le_of_ble_eq_true rfl) d_Ou_takeIn_24 ⟨L', fl, fun j _ => by rw [if_neg hk2], p1, (p5 pl (hp_ne 101 ix_ou h3 h1 rfl rfl (by decide)) (hp_ne 101 ix_ce h3 h2 rfl rfl (by decide)) hpl).trans (by rw [eM_1, va_up_ne _ _ (hp_ne 101 ix_ce h3 h2 rfl rfl (by decide))]; exact h3), by rw [if_neg hk2]; exact p2, p3, p4, fun x a1 a2 a3 a4 => (p5 x a1 a3 a4).trans (by rw [eM_1, va_up_ne _ _ a3])⟩
