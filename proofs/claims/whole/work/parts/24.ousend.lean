theorem kw_63 : Cond.methodLink R_Ce 1 objectInit ∈ wd_T := wd_in (List.mem_of_getElem? (i := 129) (by decide +kernel)) rfl
theorem kw_64 : Cond.instanceMethod objectInit ∈ wd_T := wd_in (List.mem_of_getElem? (i := 33) (by decide +kernel)) rfl
theorem kw_65 : Cond.code objectInit ⟨#[0xb1]⟩ 1 none ∈ wd_T := wd_in (List.mem_of_getElem? (i := 34) (by decide +kernel)) rfl
theorem kw_66 : Cond.fieldLink R_Ce 7 "EvenSwitch$Cell" "input" "I" ∈ wd_T := wd_in (List.mem_of_getElem? (i := 130) (by decide +kernel)) rfl
theorem kw_67 : Cond.fieldLink R_Ce 13 "EvenSwitch$Cell" "output" "I" ∈ wd_T := wd_in (List.mem_of_getElem? (i := 132) (by decide +kernel)) rfl
theorem kw_68 : Cond.fieldLink R_Ce 16 "EvenSwitch$Cell" "group" "I" ∈ wd_T := wd_in (List.mem_of_getElem? (i := 134) (by decide +kernel)) rfl
theorem kw_69 : Cond.fieldLink R_Ce 19 "EvenSwitch$Cell" "tag" "I" ∈ wd_T := wd_in (List.mem_of_getElem? (i := 136) (by decide +kernel)) rfl
theorem kw_70 : Cond.fieldLink R_Ce 22 "EvenSwitch$Cell" "serial" "J" ∈ wd_T := wd_in (List.mem_of_getElem? (i := 138) (by decide +kernel)) rfl
theorem kw_71 : Cond.methodLink R_In 1 objectInit ∈ wd_T := wd_in (List.mem_of_getElem? (i := 43) (by decide +kernel)) rfl
theorem kw_72 : Cond.methodLink R_Ou 3 objectInit ∈ wd_T := wd_in (List.mem_of_getElem? (i := 57) (by decide +kernel)) rfl
theorem kw_73 : Cond.arrayClass .int ∈ wd_T := wd_in (List.mem_of_getElem? (i := 86) (by decide +kernel)) rfl
theorem kw_74 : Cond.arrayClass .long ∈ wd_T := wd_in (List.mem_of_getElem? (i := 87) (by decide +kernel)) rfl
theorem kw_75 : Cond.constant R_Ou 23 65536 ∈ wd_T := wd_in (List.mem_of_getElem? (i := 58) (by decide +kernel)) rfl
theorem kw_76 : Cond.methodLink R_Ou 24 y_Ar_fill_i ∈ wd_T := wd_in (List.mem_of_getElem? (i := 59) (by decide +kernel)) rfl
theorem kw_77 : Cond.code y_Ar_fill_i b_Ar_fill_i 4 none ∈ wd_T := wd_in (List.mem_of_getElem? (i := 61) (by decide +kernel)) rfl
theorem kw_78 : Cond.static y_Ar_fill_i ∈ wd_T := wd_in (List.mem_of_getElem? (i := 60) (by decide +kernel)) rfl
theorem d_Ou_sendHead_0 : decode b_Ou_sendHead 0 = .ok (.aload_n 0, 1) := by decide +kernel
theorem d_Ou_sendHead_1 : decode b_Ou_sendHead 1 = .ok (.aload_n 0, 1) := by decide +kernel
theorem d_Ou_sendHead_2 : decode b_Ou_sendHead 2 = .ok (.getfield 58, 3) := by decide +kernel
theorem d_Ou_sendHead_5 : decode b_Ou_sendHead 5 = .ok (.putfield 72, 3) := by decide +kernel
theorem d_Ou_sendHead_8 : decode b_Ou_sendHead 8 = .ok (.aload_n 0, 1) := by decide +kernel
theorem d_Ou_sendHead_9 : decode b_Ou_sendHead 9 = .ok (.getfield 72, 3) := by decide +kernel
theorem d_Ou_sendHead_12 : decode b_Ou_sendHead 12 = .ok (.ifnull 43, 3) := by decide +kernel
theorem d_Ou_sendHead_15 : decode b_Ou_sendHead 15 = .ok (.aload_n 0, 1) := by decide +kernel
theorem d_Ou_sendHead_16 : decode b_Ou_sendHead 16 = .ok (.aload_n 0, 1) := by decide +kernel
theorem d_Ou_sendHead_17 : decode b_Ou_sendHead 17 = .ok (.getfield 72, 3) := by decide +kernel
theorem d_Ou_sendHead_20 : decode b_Ou_sendHead 20 = .ok (.getfield 66, 3) := by decide +kernel
theorem d_Ou_sendHead_23 : decode b_Ou_sendHead 23 = .ok (.putfield 58, 3) := by decide +kernel
theorem d_Ou_sendHead_26 : decode b_Ou_sendHead 26 = .ok (.aload_n 0, 1) := by decide +kernel
theorem d_Ou_sendHead_27 : decode b_Ou_sendHead 27 = .ok (.getfield 72, 3) := by decide +kernel
theorem d_Ou_sendHead_30 : decode b_Ou_sendHead 30 = .ok (.aconst_null, 1) := by decide +kernel
theorem d_Ou_sendHead_31 : decode b_Ou_sendHead 31 = .ok (.putfield 66, 3) := by decide +kernel
theorem d_Ou_sendHead_34 : decode b_Ou_sendHead 34 = .ok (.aload_n 0, 1) := by decide +kernel
theorem d_Ou_sendHead_35 : decode b_Ou_sendHead 35 = .ok (.dup, 1) := by decide +kernel
theorem d_Ou_sendHead_36 : decode b_Ou_sendHead 36 = .ok (.getfield 69, 3) := by decide +kernel
theorem d_Ou_sendHead_39 : decode b_Ou_sendHead 39 = .ok (.iconst 1, 1) := by decide +kernel
theorem d_Ou_sendHead_40 : decode b_Ou_sendHead 40 = .ok (.isub, 1) := by decide +kernel
theorem d_Ou_sendHead_41 : decode b_Ou_sendHead 41 = .ok (.putfield 69, 3) := by decide +kernel
theorem d_Ou_sendHead_44 : decode b_Ou_sendHead 44 = .ok (.aload_n 0, 1) := by decide +kernel
theorem d_Ou_sendHead_45 : decode b_Ou_sendHead 45 = .ok (.getfield 58, 3) := by decide +kernel
theorem d_Ou_sendHead_48 : decode b_Ou_sendHead 48 = .ok (.ifnonnull 7, 3) := by decide +kernel
theorem d_Ou_sendHead_51 : decode b_Ou_sendHead 51 = .ok (.aload_n 0, 1) := by decide +kernel
theorem d_Ou_sendHead_52 : decode b_Ou_sendHead 52 = .ok (.invokevirtual 75, 3) := by decide +kernel
theorem d_Ou_sendHead_55 : decode b_Ou_sendHead 55 = .ok (.aload_n 0, 1) := by decide +kernel
theorem d_Ou_sendHead_56 : decode b_Ou_sendHead 56 = .ok (.getfield 72, 3) := by decide +kernel
theorem d_Ou_sendHead_59 : decode b_Ou_sendHead 59 = .ok (.areturn, 1) := by decide +kernel
theorem d_Ce_init_0 : decode b_Ce_init 0 = .ok (.aload_n 0, 1) := by decide +kernel
theorem d_Ce_init_1 : decode b_Ce_init 1 = .ok (.invokespecial 1, 3) := by decide +kernel
theorem d_Ce_init_4 : decode b_Ce_init 4 = .ok (.aload_n 0, 1) := by decide +kernel
theorem d_Ce_init_5 : decode b_Ce_init 5 = .ok (.iload_n 1, 1) := by decide +kernel
theorem d_Ce_init_6 : decode b_Ce_init 6 = .ok (.putfield 7, 3) := by decide +kernel
theorem d_Ce_init_9 : decode b_Ce_init 9 = .ok (.aload_n 0, 1) := by decide +kernel
theorem d_Ce_init_10 : decode b_Ce_init 10 = .ok (.iload_n 2, 1) := by decide +kernel
theorem d_Ce_init_11 : decode b_Ce_init 11 = .ok (.putfield 13, 3) := by decide +kernel
theorem d_Ce_init_14 : decode b_Ce_init 14 = .ok (.aload_n 0, 1) := by decide +kernel
theorem d_Ce_init_15 : decode b_Ce_init 15 = .ok (.iload_n 3, 1) := by decide +kernel
theorem d_Ce_init_16 : decode b_Ce_init 16 = .ok (.putfield 16, 3) := by decide +kernel
theorem d_Ce_init_19 : decode b_Ce_init 19 = .ok (.aload_n 0, 1) := by decide +kernel
theorem d_Ce_init_20 : decode b_Ce_init 20 = .ok (.iload 4, 2) := by decide +kernel
theorem d_Ce_init_22 : decode b_Ce_init 22 = .ok (.putfield 19, 3) := by decide +kernel
theorem d_Ce_init_25 : decode b_Ce_init 25 = .ok (.aload_n 0, 1) := by decide +kernel
theorem d_Ce_init_26 : decode b_Ce_init 26 = .ok (.lload 5, 2) := by decide +kernel
theorem d_Ce_init_28 : decode b_Ce_init 28 = .ok (.putfield 22, 3) := by decide +kernel
theorem d_Ce_init_31 : decode b_Ce_init 31 = .ok (.return_, 1) := by decide +kernel
theorem d_In_init_0 : decode b_In_init 0 = .ok (.aload_n 0, 1) := by decide +kernel
theorem d_In_init_1 : decode b_In_init 1 = .ok (.invokespecial 1, 3) := by decide +kernel
theorem d_In_init_4 : decode b_In_init 4 = .ok (.return_, 1) := by decide +kernel
theorem d_Ou_init_0 : decode b_Ou_init 0 = .ok (.aload_n 0, 1) := by decide +kernel
theorem d_Ou_init_1 : decode b_Ou_init 1 = .ok (.invokespecial 3, 3) := by decide +kernel
theorem d_Ou_init_4 : decode b_Ou_init 4 = .ok (.aload_n 0, 1) := by decide +kernel
theorem d_Ou_init_5 : decode b_Ou_init 5 = .ok (.iconst 0, 1) := by decide +kernel
theorem d_Ou_init_6 : decode b_Ou_init 6 = .ok (.putfield 9, 3) := by decide +kernel
theorem d_Ou_init_9 : decode b_Ou_init 9 = .ok (.aload_n 0, 1) := by decide +kernel
theorem d_Ou_init_10 : decode b_Ou_init 10 = .ok (.bipush 8, 2) := by decide +kernel
theorem d_Ou_init_12 : decode b_Ou_init 12 = .ok (.newarray .int, 2) := by decide +kernel
theorem d_Ou_init_14 : decode b_Ou_init 14 = .ok (.putfield 15, 3) := by decide +kernel
theorem d_Ou_init_17 : decode b_Ou_init 17 = .ok (.aload_n 0, 1) := by decide +kernel
theorem d_Ou_init_18 : decode b_Ou_init 18 = .ok (.bipush 8, 2) := by decide +kernel
theorem d_Ou_init_20 : decode b_Ou_init 20 = .ok (.newarray .long, 2) := by decide +kernel
theorem d_Ou_init_22 : decode b_Ou_init 22 = .ok (.putfield 19, 3) := by decide +kernel
theorem d_Ou_init_25 : decode b_Ou_init 25 = .ok (.aload_n 0, 1) := by decide +kernel
theorem d_Ou_init_26 : decode b_Ou_init 26 = .ok (.getfield 15, 3) := by decide +kernel
theorem d_Ou_init_29 : decode b_Ou_init 29 = .ok (.ldc 23, 2) := by decide +kernel
theorem d_Ou_init_31 : decode b_Ou_init 31 = .ok (.invokestatic 24, 3) := by decide +kernel
theorem d_Ou_init_34 : decode b_Ou_init 34 = .ok (.return_, 1) := by decide +kernel
abbrev rm_Ou_sendHead_0 : Room := { frames := 0, cells := 0, slots := 0, locals := 0 }
set_option maxHeartbeats 4000000 in
set_option maxRecDepth 100000 in
theorem cn_Ou_sendHead_0 (l : Launch) (D : va_G) (B : Nat) (M : hp_M) (po : Nat) (kd : Int32) (ps pl : Nat) (n : Int32) (la : Option Nat) (h1 : M po = some (sw_o kd ps pl none n la)) : Met l y_Ou_sendHead (wd_c y_Ou_sendHead b_Ou_sendHead 1 (some (.object "EvenSwitch$Cell"))) rm_Ou_sendHead_0 (va_Pc [.ref po] (hp_C D B M)) (va_Qq (fun (r : Option Nat) (M1 : hp_M) => r = none ∧ M1 = va_up M po (some (sw_o kd ps pl none n none))) (hp_C D B) (hp_ub B)) 0 0 (hp_ub B) := by
  refine hp_met (by decide) (Nat.le_of_ble_eq_true rfl) ?_
  intro p e s m args below meth cd ls Q hQ hx hb hr hts hown hlocks hnm hml hK hH hS hB hl
  replace hl : lv_has ls 1 [(0, .ref po)] := hl
  refine lv_aload_n hx hb d_Ou_sendHead_0 rfl (lv_at hl 0 rfl) ?_
  refine lv_aload_n hx hb d_Ou_sendHead_1 rfl (lv_at hl 0 rfl) ?_
  refine hp_get hx hb hts iw_Ou hown hK hH h1 rfl 3 (by decide) (hts _ kw_30) (v := .null) rfl d_Ou_sendHead_2 ?_
  refine hp_put hx hb hts iw_Ou t_Ou t_Ou_ok n_Ou hown hK hH hS hB h1 rfl 5 (by decide) (hts _ kw_32) rfl  (v := .null) rfl rfl (Nat.le_of_ble_eq_true rfl) (fs' := [.int kd, .ref ps, .ref pl, .null, .int n, .null]) rfl d_Ou_sendHead_5 (fun M_1 H locs eM_1 hH hS => ?_)
  have f_2 : M_1 po = some (.inr (ix_ou, [.int kd, .ref ps, .ref pl, .null, .int n, .null])) := by rw [eM_1]; exact va_up_self _ _ _
  refine lv_aload_n hx hb d_Ou_sendHead_8 rfl (lv_at hl 0 rfl) ?_
  refine hp_get hx hb hts iw_Ou hown hK hH f_2 rfl 5 (by decide) (hts _ kw_32) (v := .null) rfl d_Ou_sendHead_9 ?_
  refine lv_ifnullN (tgt := 55) hx hb d_Ou_sendHead_12 (by decide) ?_
  refine lv_aload_n hx hb d_Ou_sendHead_55 rfl (lv_at hl 0 rfl) ?_
  refine hp_get hx hb hts iw_Ou hown hK hH f_2 rfl 5 (by decide) (hts _ kw_32) (v := .null) rfl d_Ou_sendHead_56 ?_
  exact hp_qret (v := none) hx hb hr hlocks hQ hK hH hS (Nat.le_of_ble_eq_true rfl) (Nat.le_of_ble_eq_true rfl) d_Ou_sendHead_59 ⟨rfl, (by rw [eM_1]; first | done | rfl)⟩
abbrev rm_Ou_sendHead_1 : Room := { frames := 2, cells := 0, slots := 0, locals := 44 }
set_option maxHeartbeats 4000000 in
set_option maxRecDepth 100000 in
theorem cn_Ou_sendHead_1 (l : Launch) (D : va_G) (B : Nat) (M : hp_M) (po : Nat) (kd : Int32) (ps pl : Nat) (n : Int32) (la : Option Nat) (x : Nat) (c : sg_Ce) (fl : Nat → Int64) (h1 : M po = some (sw_o kd ps pl (some x) n la)) (h2 : M x = some (sw_c c none)) (h3 : M pl = some (hp_al D 8 fl)) : Met l y_Ou_sendHead (wd_c y_Ou_sendHead b_Ou_sendHead 1 (some (.object "EvenSwitch$Cell"))) rm_Ou_sendHead_1 (va_Pc [.ref po] (hp_C D B M)) (va_Qq (fun (r : Option Nat) (M1 : hp_M) => r = some x ∧ ∃ g : Nat → Int64, (∀ j, j < 8 → g j = 0) ∧ M1 = va_up (va_up (va_up M po (some (sw_o kd ps pl none (n - 1) (some x)))) x (some (sw_c c none))) pl (some (hp_al D 8 g))) (hp_C D B) (hp_ub B)) 0 0 (hp_ub B) := by
  refine hp_met (by decide) (Nat.le_of_ble_eq_true rfl) ?_
  intro p e s m args below meth cd ls Q hQ hx hb hr hts hown hlocks hnm hml hK hH hS hB hl
  replace hl : lv_has ls 1 [(0, .ref po)] := hl
  have hxp : x ≠ po := hp_ne ix_ce ix_ou h2 h1 rfl rfl (by decide)
  refine lv_aload_n hx hb d_Ou_sendHead_0 rfl (lv_at hl 0 rfl) ?_
  refine lv_aload_n hx hb d_Ou_sendHead_1 rfl (lv_at hl 0 rfl) ?_
  refine hp_get hx hb hts iw_Ou hown hK hH h1 rfl 3 (by decide) (hts _ kw_30) (v := .ref x) rfl d_Ou_sendHead_2 ?_
  refine hp_put hx hb hts iw_Ou t_Ou t_Ou_ok n_Ou hown hK hH hS hB h1 rfl 5 (by decide) (hts _ kw_32) rfl  (v := .ref x) rfl rfl (Nat.le_of_ble_eq_true rfl) (fs' := [.int kd, .ref ps, .ref pl, .ref x, .int n, .ref x]) rfl d_Ou_sendHead_5 (fun M_1 H locs eM_1 hH hS => ?_)
  have f_2 : M_1 po = some (.inr (ix_ou, [.int kd, .ref ps, .ref pl, .ref x, .int n, .ref x])) := by rw [eM_1]; exact va_up_self _ _ _
  have f_3 : M_1 x = some (.inr (ix_ce, [.int (nI (sg_ci c)), .int (nI (sg_co c)), .int (nI (sg_cg c)), .int (sg_ct c), .long (lN (sg_cs c)), .int (sg_cc c), .long (sg_cm c), .null])) := by rw [eM_1, va_up_ne _ _ (hp_ne ix_ce ix_ou h2 h1 rfl rfl (by decide))]; exact h2
  have f_4 : M_1 pl = some (hp_al D 8 fl) := by rw [eM_1, va_up_ne _ _ (hp_ne 101 ix_ou h3 h1 rfl rfl (by decide))]; exact h3
  refine lv_aload_n hx hb d_Ou_sendHead_8 rfl (lv_at hl 0 rfl) ?_
  refine hp_get hx hb hts iw_Ou hown hK hH f_2 rfl 5 (by decide) (hts _ kw_32) (v := .ref x) rfl d_Ou_sendHead_9 ?_
  refine lv_ifnull hx hb d_Ou_sendHead_12 ?_
  refine lv_aload_n hx hb d_Ou_sendHead_15 rfl (lv_at hl 0 rfl) ?_
  refine lv_aload_n hx hb d_Ou_sendHead_16 rfl (lv_at hl 0 rfl) ?_
  refine hp_get hx hb hts iw_Ou hown hK hH f_2 rfl 5 (by decide) (hts _ kw_32) (v := .ref x) rfl d_Ou_sendHead_17 ?_
  refine hp_get hx hb hts iw_Ce hown hK hH f_3 rfl 7 (by decide) (hts _ kw_49) (v := .null) rfl d_Ou_sendHead_20 ?_
  refine hp_put hx hb hts iw_Ou t_Ou t_Ou_ok n_Ou hown hK hH hS hB f_2 rfl 3 (by decide) (hts _ kw_30) rfl  (v := .null) rfl rfl (Nat.le_of_ble_eq_true rfl) (fs' := [.int kd, .ref ps, .ref pl, .null, .int n, .ref x]) rfl d_Ou_sendHead_23 (fun M_5 H locs eM_5 hH hS => ?_)
  have f_6 : M_5 po = some (.inr (ix_ou, [.int kd, .ref ps, .ref pl, .null, .int n, .ref x])) := by rw [eM_5]; exact va_up_self _ _ _
  have f_7 : M_5 x = some (.inr (ix_ce, [.int (nI (sg_ci c)), .int (nI (sg_co c)), .int (nI (sg_cg c)), .int (sg_ct c), .long (lN (sg_cs c)), .int (sg_cc c), .long (sg_cm c), .null])) := by rw [eM_5, va_up_ne _ _ (hp_ne ix_ce ix_ou f_3 f_2 rfl rfl (by decide))]; exact f_3
  have f_8 : M_5 pl = some (hp_al D 8 fl) := by rw [eM_5, va_up_ne _ _ (hp_ne 101 ix_ou f_4 f_2 rfl rfl (by decide))]; exact f_4
  refine lv_aload_n hx hb d_Ou_sendHead_26 rfl (lv_at hl 0 rfl) ?_
  refine hp_get hx hb hts iw_Ou hown hK hH f_6 rfl 5 (by decide) (hts _ kw_32) (v := .ref x) rfl d_Ou_sendHead_27 ?_
  refine lv_null hx hb d_Ou_sendHead_30 ?_
  refine hp_put hx hb hts iw_Ce t_Ce t_Ce_ok n_Ce hown hK hH hS hB f_7 rfl 7 (by decide) (hts _ kw_49) rfl  (v := .null) rfl rfl (Nat.le_of_ble_eq_true rfl) (fs' := [.int (nI (sg_ci c)), .int (nI (sg_co c)), .int (nI (sg_cg c)), .int (sg_ct c), .long (lN (sg_cs c)), .int (sg_cc c), .long (sg_cm c), .null]) rfl d_Ou_sendHead_31 (fun M_9 H locs eM_9 hH hS => ?_)
  have f_10 : M_9 x = some (.inr (ix_ce, [.int (nI (sg_ci c)), .int (nI (sg_co c)), .int (nI (sg_cg c)), .int (sg_ct c), .long (lN (sg_cs c)), .int (sg_cc c), .long (sg_cm c), .null])) := by rw [eM_9]; exact va_up_self _ _ _
  have f_11 : M_9 pl = some (hp_al D 8 fl) := by rw [eM_9, va_up_ne _ _ (hp_ne 101 ix_ce f_8 f_7 rfl rfl (by decide))]; exact f_8
  have f_12 : M_9 po = some (.inr (ix_ou, [.int kd, .ref ps, .ref pl, .null, .int n, .ref x])) := by rw [eM_9, va_up_ne _ _ (hp_ne ix_ou ix_ce f_6 f_7 rfl rfl (by decide))]; exact f_6
  refine lv_aload_n hx hb d_Ou_sendHead_34 rfl (lv_at hl 0 rfl) ?_
  refine lv_dup hx hb d_Ou_sendHead_35 rfl ?_
  refine hp_get hx hb hts iw_Ou hown hK hH f_12 rfl 4 (by decide) (hts _ kw_31) (v := .int n) rfl d_Ou_sendHead_36 ?_
  refine lv_iconst (v := 1) hx hb d_Ou_sendHead_39 (by decide) ?_
  refine lv_isub hx hb d_Ou_sendHead_40 ?_
  refine hp_put hx hb hts iw_Ou t_Ou t_Ou_ok n_Ou hown hK hH hS hB f_12 rfl 4 (by decide) (hts _ kw_31) rfl  (v := .int (n - 1)) rfl rfl (Nat.le_of_ble_eq_true rfl) (fs' := [.int kd, .ref ps, .ref pl, .null, .int (n - 1), .ref x]) rfl d_Ou_sendHead_41 (fun M_13 H locs eM_13 hH hS => ?_)
  have f_14 : M_13 po = some (.inr (ix_ou, [.int kd, .ref ps, .ref pl, .null, .int (n - 1), .ref x])) := by rw [eM_13]; exact va_up_self _ _ _
  have f_15 : M_13 pl = some (hp_al D 8 fl) := by rw [eM_13, va_up_ne _ _ (hp_ne 101 ix_ou f_11 f_12 rfl rfl (by decide))]; exact f_11
  have f_16 : M_13 x = some (.inr (ix_ce, [.int (nI (sg_ci c)), .int (nI (sg_co c)), .int (nI (sg_cg c)), .int (sg_ct c), .long (lN (sg_cs c)), .int (sg_cc c), .long (sg_cm c), .null])) := by rw [eM_13, va_up_ne _ _ (hp_ne ix_ce ix_ou f_10 f_12 rfl rfl (by decide))]; exact f_10
  refine lv_aload_n hx hb d_Ou_sendHead_44 rfl (lv_at hl 0 rfl) ?_
  refine hp_get hx hb hts iw_Ou hown hK hH f_14 rfl 3 (by decide) (hts _ kw_30) (v := .null) rfl d_Ou_sendHead_45 ?_
  refine lv_ifnonnullN hx hb d_Ou_sendHead_48 ?_
  refine lv_aload_n hx hb d_Ou_sendHead_51 rfl (lv_at hl 0 rfl) ?_
  refine hp_callv (hp_runV (b := po) (As := []) (rest := []) hx hb hml hown (cn_Ou_forgetTimes l D B M_13 po kd ps pl none (n - 1) (some x) fl f_14 f_15) (hp_cwV 0 hts kw_33 kw_36 kw_37 kw_34 kw_35 rfl rfl (by decide +kernel) ⟨(Nat.le_of_ble_eq_true rfl), (Nat.le_of_ble_eq_true rfl)⟩) hK hH f_14 rfl rfl hl.1 rfl (Nat.le_of_ble_eq_true rfl) d_Ou_sendHead_52 ⟨(Nat.le_of_ble_eq_true rfl), (Nat.le_of_ble_eq_true rfl)⟩) hS (fun M_18 H locs w_19 hH hS => ?_)
  obtain ⟨g, hg, eM⟩ := w_19
  have f_20 : M_18 po = some (.inr (ix_ou, [.int kd, .ref ps, .ref pl, .null, .int (n - 1), .ref x])) := by rw [eM, va_up_ne _ _ (hp_ne ix_ou 101 f_14 f_15 rfl rfl (by decide))]; exact f_14
  refine lv_aload_n hx hb d_Ou_sendHead_55 rfl (lv_at hl 0 rfl) ?_
  refine hp_get hx hb hts iw_Ou hown hK hH f_20 rfl 5 (by decide) (hts _ kw_32) (v := .ref x) rfl d_Ou_sendHead_56 ?_
  exact hp_qret (v := some x) hx hb hr hlocks hQ hK hH hS (Nat.le_of_ble_eq_true rfl) (Nat.le_of_ble_eq_true rfl) d_Ou_sendHead_59 ⟨rfl, g, hg, by rw [eM, eM_13, eM_9, eM_5, eM_1]; exact congrArg (fun z => va_up z pl _) (sw_sh hxp)⟩
abbrev rm_Ou_sendHead_2 : Room := { frames := 0, cells := 0, slots := 0, locals := 0 }
set_option maxHeartbeats 4000000 in
set_option maxRecDepth 100000 in
theorem cn_Ou_sendHead_2 (l : Launch) (D : va_G) (B : Nat) (M : hp_M) (po : Nat) (kd : Int32) (ps pl : Nat) (n : Int32) (la : Option Nat) (x : Nat) (c : sg_Ce) (fl : Nat → Int64) (y : Nat) (h1 : M po = some (sw_o kd ps pl (some x) n la)) (h2 : M x = some (sw_c c (some y))) (h3 : M pl = some (hp_al D 8 fl)) : Met l y_Ou_sendHead (wd_c y_Ou_sendHead b_Ou_sendHead 1 (some (.object "EvenSwitch$Cell"))) rm_Ou_sendHead_2 (va_Pc [.ref po] (hp_C D B M)) (va_Qq (fun (r : Option Nat) (M1 : hp_M) => r = some x ∧ M1 = (va_up (va_up M po (some (sw_o kd ps pl (some y) (n - 1) (some x)))) x (some (sw_c c none)))) (hp_C D B) (hp_ub B)) 0 0 (hp_ub B) := by
  refine hp_met (by decide) (Nat.le_of_ble_eq_true rfl) ?_
  intro p e s m args below meth cd ls Q hQ hx hb hr hts hown hlocks hnm hml hK hH hS hB hl
  replace hl : lv_has ls 1 [(0, .ref po)] := hl
  have hxp : x ≠ po := hp_ne ix_ce ix_ou h2 h1 rfl rfl (by decide)
  refine lv_aload_n hx hb d_Ou_sendHead_0 rfl (lv_at hl 0 rfl) ?_
  refine lv_aload_n hx hb d_Ou_sendHead_1 rfl (lv_at hl 0 rfl) ?_
  refine hp_get hx hb hts iw_Ou hown hK hH h1 rfl 3 (by decide) (hts _ kw_30) (v := .ref x) rfl d_Ou_sendHead_2 ?_
  refine hp_put hx hb hts iw_Ou t_Ou t_Ou_ok n_Ou hown hK hH hS hB h1 rfl 5 (by decide) (hts _ kw_32) rfl  (v := .ref x) rfl rfl (Nat.le_of_ble_eq_true rfl) (fs' := [.int kd, .ref ps, .ref pl, .ref x, .int n, .ref x]) rfl d_Ou_sendHead_5 (fun M_1 H locs eM_1 hH hS => ?_)
  have f_2 : M_1 po = some (.inr (ix_ou, [.int kd, .ref ps, .ref pl, .ref x, .int n, .ref x])) := by rw [eM_1]; exact va_up_self _ _ _
  have f_3 : M_1 x = some (.inr (ix_ce, [.int (nI (sg_ci c)), .int (nI (sg_co c)), .int (nI (sg_cg c)), .int (sg_ct c), .long (lN (sg_cs c)), .int (sg_cc c), .long (sg_cm c), .ref y])) := by rw [eM_1, va_up_ne _ _ (hp_ne ix_ce ix_ou h2 h1 rfl rfl (by decide))]; exact h2
  have f_4 : M_1 pl = some (hp_al D 8 fl) := by rw [eM_1, va_up_ne _ _ (hp_ne 101 ix_ou h3 h1 rfl rfl (by decide))]; exact h3
  refine lv_aload_n hx hb d_Ou_sendHead_8 rfl (lv_at hl 0 rfl) ?_
  refine hp_get hx hb hts iw_Ou hown hK hH f_2 rfl 5 (by decide) (hts _ kw_32) (v := .ref x) rfl d_Ou_sendHead_9 ?_
  refine lv_ifnull hx hb d_Ou_sendHead_12 ?_
  refine lv_aload_n hx hb d_Ou_sendHead_15 rfl (lv_at hl 0 rfl) ?_
  refine lv_aload_n hx hb d_Ou_sendHead_16 rfl (lv_at hl 0 rfl) ?_
  refine hp_get hx hb hts iw_Ou hown hK hH f_2 rfl 5 (by decide) (hts _ kw_32) (v := .ref x) rfl d_Ou_sendHead_17 ?_
  refine hp_get hx hb hts iw_Ce hown hK hH f_3 rfl 7 (by decide) (hts _ kw_49) (v := .ref y) rfl d_Ou_sendHead_20 ?_
  refine hp_put hx hb hts iw_Ou t_Ou t_Ou_ok n_Ou hown hK hH hS hB f_2 rfl 3 (by decide) (hts _ kw_30) rfl  (v := .ref y) rfl rfl (Nat.le_of_ble_eq_true rfl) (fs' := [.int kd, .ref ps, .ref pl, .ref y, .int n, .ref x]) rfl d_Ou_sendHead_23 (fun M_5 H locs eM_5 hH hS => ?_)
  have f_6 : M_5 po = some (.inr (ix_ou, [.int kd, .ref ps, .ref pl, .ref y, .int n, .ref x])) := by rw [eM_5]; exact va_up_self _ _ _
  have f_7 : M_5 x = some (.inr (ix_ce, [.int (nI (sg_ci c)), .int (nI (sg_co c)), .int (nI (sg_cg c)), .int (sg_ct c), .long (lN (sg_cs c)), .int (sg_cc c), .long (sg_cm c), .ref y])) := by rw [eM_5, va_up_ne _ _ (hp_ne ix_ce ix_ou f_3 f_2 rfl rfl (by decide))]; exact f_3
  have f_8 : M_5 pl = some (hp_al D 8 fl) := by rw [eM_5, va_up_ne _ _ (hp_ne 101 ix_ou f_4 f_2 rfl rfl (by decide))]; exact f_4
  refine lv_aload_n hx hb d_Ou_sendHead_26 rfl (lv_at hl 0 rfl) ?_
  refine hp_get hx hb hts iw_Ou hown hK hH f_6 rfl 5 (by decide) (hts _ kw_32) (v := .ref x) rfl d_Ou_sendHead_27 ?_
  refine lv_null hx hb d_Ou_sendHead_30 ?_
  refine hp_put hx hb hts iw_Ce t_Ce t_Ce_ok n_Ce hown hK hH hS hB f_7 rfl 7 (by decide) (hts _ kw_49) rfl  (v := .null) rfl rfl (Nat.le_of_ble_eq_true rfl) (fs' := [.int (nI (sg_ci c)), .int (nI (sg_co c)), .int (nI (sg_cg c)), .int (sg_ct c), .long (lN (sg_cs c)), .int (sg_cc c), .long (sg_cm c), .null]) rfl d_Ou_sendHead_31 (fun M_9 H locs eM_9 hH hS => ?_)
  have f_10 : M_9 x = some (.inr (ix_ce, [.int (nI (sg_ci c)), .int (nI (sg_co c)), .int (nI (sg_cg c)), .int (sg_ct c), .long (lN (sg_cs c)), .int (sg_cc c), .long (sg_cm c), .null])) := by rw [eM_9]; exact va_up_self _ _ _
  have f_11 : M_9 pl = some (hp_al D 8 fl) := by rw [eM_9, va_up_ne _ _ (hp_ne 101 ix_ce f_8 f_7 rfl rfl (by decide))]; exact f_8
  have f_12 : M_9 po = some (.inr (ix_ou, [.int kd, .ref ps, .ref pl, .ref y, .int n, .ref x])) := by rw [eM_9, va_up_ne _ _ (hp_ne ix_ou ix_ce f_6 f_7 rfl rfl (by decide))]; exact f_6
  refine lv_aload_n hx hb d_Ou_sendHead_34 rfl (lv_at hl 0 rfl) ?_
  refine lv_dup hx hb d_Ou_sendHead_35 rfl ?_
  refine hp_get hx hb hts iw_Ou hown hK hH f_12 rfl 4 (by decide) (hts _ kw_31) (v := .int n) rfl d_Ou_sendHead_36 ?_
  refine lv_iconst (v := 1) hx hb d_Ou_sendHead_39 (by decide) ?_
  refine lv_isub hx hb d_Ou_sendHead_40 ?_
  refine hp_put hx hb hts iw_Ou t_Ou t_Ou_ok n_Ou hown hK hH hS hB f_12 rfl 4 (by decide) (hts _ kw_31) rfl  (v := .int (n - 1)) rfl rfl (Nat.le_of_ble_eq_true rfl) (fs' := [.int kd, .ref ps, .ref pl, .ref y, .int (n - 1), .ref x]) rfl d_Ou_sendHead_41 (fun M_13 H locs eM_13 hH hS => ?_)
  have f_14 : M_13 po = some (.inr (ix_ou, [.int kd, .ref ps, .ref pl, .ref y, .int (n - 1), .ref x])) := by rw [eM_13]; exact va_up_self _ _ _
  have f_15 : M_13 pl = some (hp_al D 8 fl) := by rw [eM_13, va_up_ne _ _ (hp_ne 101 ix_ou f_11 f_12 rfl rfl (by decide))]; exact f_11
  have f_16 : M_13 x = some (.inr (ix_ce, [.int (nI (sg_ci c)), .int (nI (sg_co c)), .int (nI (sg_cg c)), .int (sg_ct c), .long (lN (sg_cs c)), .int (sg_cc c), .long (sg_cm c), .null])) := by rw [eM_13, va_up_ne _ _ (hp_ne ix_ce ix_ou f_10 f_12 rfl rfl (by decide))]; exact f_10
  refine lv_aload_n hx hb d_Ou_sendHead_44 rfl (lv_at hl 0 rfl) ?_
  refine hp_get hx hb hts iw_Ou hown hK hH f_14 rfl 3 (by decide) (hts _ kw_30) (v := .ref y) rfl d_Ou_sendHead_45 ?_
  refine lv_ifnonnull (tgt := 55) hx hb d_Ou_sendHead_48 (by decide) ?_
  refine lv_aload_n hx hb d_Ou_sendHead_55 rfl (lv_at hl 0 rfl) ?_
  refine hp_get hx hb hts iw_Ou hown hK hH f_14 rfl 5 (by decide) (hts _ kw_32) (v := .ref x) rfl d_Ou_sendHead_56 ?_
  exact hp_qret (v := some x) hx hb hr hlocks hQ hK hH hS (Nat.le_of_ble_eq_true rfl) (Nat.le_of_ble_eq_true rfl) d_Ou_sendHead_59 ⟨rfl, by rw [eM_13, eM_9, eM_5, eM_1]; exact sw_sh hxp⟩
abbrev rm_Ce_init : Room := { frames := 1, cells := 0, slots := 0, locals := 12 }
set_option maxHeartbeats 4000000 in
set_option maxRecDepth 100000 in
theorem cn_Ce_init (l : Launch) (D : va_G) (B : Nat) (M : hp_M) (q i o k : Nat) (t : Int32) (s0 : Nat) (h1 : M q = some (.inr (ix_ce, [.int 0, .int 0, .int 0, .int 0, .long 0, .int 0, .long 0, .null]))) : Met l y_Ce_init (wd_c y_Ce_init b_Ce_init 7 (none)) rm_Ce_init (va_Pc [.ref q, .int (nI i), .int (nI o), .int (nI k), .int t, .long (lN s0)] (hp_C D B M)) (va_Qv (fun  (M1 : hp_M) => M1 = va_up M q (some (sw_c (i, o, k, t, s0, 0, 0) none))) (hp_C D B) (hp_ub B)) 0 0 (hp_ub B) := by
  refine hp_met (by decide) (Nat.le_of_ble_eq_true rfl) ?_
  intro p e s m args below meth cd ls Q hQ hx hb hr hts hown hlocks hnm hml hK hH hS hB hl
  replace hl : lv_has ls 7 [(0, .ref q), (1, .int (nI i)), (2, .int (nI o)), (3, .int (nI k)), (4, .int t), (5, .long (lN s0))] := hl
  refine lv_aload_n hx hb d_Ce_init_0 rfl (lv_at hl 0 rfl) ?_
  refine W.objInit hx hb hown (hts _ kw_63) (hts _ kw_64) (hts _ kw_65) rfl (by rw [hml]; exact hl.1) rfl d_Ce_init_1 (Nat.le_of_ble_eq_true rfl) (Nat.le_of_ble_eq_true rfl) ?_
  refine W.eq (g2 := F0 m 4 ls []) rfl ?_
  refine lv_aload_n hx hb d_Ce_init_4 rfl (lv_at hl 0 rfl) ?_
  refine lv_iload_n hx hb d_Ce_init_5 rfl (lv_at hl 1 rfl) ?_
  refine hp_putF hx hb hts iw_Ce t_Ce t_Ce_ok n_Ce hown hK hH hS hB h1 rfl 0 (by decide) (hts _ kw_66) rfl hnm rfl (v := .int (nI i)) rfl rfl (Nat.le_of_ble_eq_true rfl) (fs' := [.int (nI i), .int 0, .int 0, .int 0, .long 0, .int 0, .long 0, .null]) rfl d_Ce_init_6 (fun M_1 H locs eM_1 hH hS => ?_)
  have f_2 : M_1 q = some (.inr (ix_ce, [.int (nI i), .int 0, .int 0, .int 0, .long 0, .int 0, .long 0, .null])) := by rw [eM_1]; exact va_up_self _ _ _
  refine lv_aload_n hx hb d_Ce_init_9 rfl (lv_at hl 0 rfl) ?_
  refine lv_iload_n hx hb d_Ce_init_10 rfl (lv_at hl 2 rfl) ?_
  refine hp_putF hx hb hts iw_Ce t_Ce t_Ce_ok n_Ce hown hK hH hS hB f_2 rfl 1 (by decide) (hts _ kw_67) rfl hnm rfl (v := .int (nI o)) rfl rfl (Nat.le_of_ble_eq_true rfl) (fs' := [.int (nI i), .int (nI o), .int 0, .int 0, .long 0, .int 0, .long 0, .null]) rfl d_Ce_init_11 (fun M_3 H locs eM_3 hH hS => ?_)
  have f_4 : M_3 q = some (.inr (ix_ce, [.int (nI i), .int (nI o), .int 0, .int 0, .long 0, .int 0, .long 0, .null])) := by rw [eM_3]; exact va_up_self _ _ _
  refine lv_aload_n hx hb d_Ce_init_14 rfl (lv_at hl 0 rfl) ?_
  refine lv_iload_n hx hb d_Ce_init_15 rfl (lv_at hl 3 rfl) ?_
  refine hp_putF hx hb hts iw_Ce t_Ce t_Ce_ok n_Ce hown hK hH hS hB f_4 rfl 2 (by decide) (hts _ kw_68) rfl hnm rfl (v := .int (nI k)) rfl rfl (Nat.le_of_ble_eq_true rfl) (fs' := [.int (nI i), .int (nI o), .int (nI k), .int 0, .long 0, .int 0, .long 0, .null]) rfl d_Ce_init_16 (fun M_5 H locs eM_5 hH hS => ?_)
  have f_6 : M_5 q = some (.inr (ix_ce, [.int (nI i), .int (nI o), .int (nI k), .int 0, .long 0, .int 0, .long 0, .null])) := by rw [eM_5]; exact va_up_self _ _ _
  refine lv_aload_n hx hb d_Ce_init_19 rfl (lv_at hl 0 rfl) ?_
  refine lv_iload hx hb d_Ce_init_20 (lv_at hl 4 rfl) ?_
  refine hp_putF hx hb hts iw_Ce t_Ce t_Ce_ok n_Ce hown hK hH hS hB f_6 rfl 3 (by decide) (hts _ kw_69) rfl hnm rfl (v := .int t) rfl rfl (Nat.le_of_ble_eq_true rfl) (fs' := [.int (nI i), .int (nI o), .int (nI k), .int t, .long 0, .int 0, .long 0, .null]) rfl d_Ce_init_22 (fun M_7 H locs eM_7 hH hS => ?_)
  have f_8 : M_7 q = some (.inr (ix_ce, [.int (nI i), .int (nI o), .int (nI k), .int t, .long 0, .int 0, .long 0, .null])) := by rw [eM_7]; exact va_up_self _ _ _
  refine lv_aload_n hx hb d_Ce_init_25 rfl (lv_at hl 0 rfl) ?_
  refine lv_lload hx hb d_Ce_init_26 (lv_at hl 5 rfl) ?_
  refine hp_putF hx hb hts iw_Ce t_Ce t_Ce_ok n_Ce hown hK hH hS hB f_8 rfl 4 (by decide) (hts _ kw_70) rfl hnm rfl (v := .long (lN s0)) rfl rfl (Nat.le_of_ble_eq_true rfl) (fs' := [.int (nI i), .int (nI o), .int (nI k), .int t, .long (lN s0), .int 0, .long 0, .null]) rfl d_Ce_init_28 (fun M_9 H locs eM_9 hH hS => ?_)
  have f_10 : M_9 q = some (.inr (ix_ce, [.int (nI i), .int (nI o), .int (nI k), .int t, .long (lN s0), .int 0, .long 0, .null])) := by rw [eM_9]; exact va_up_self _ _ _
  exact hp_vret hx hb hr hlocks hQ hK hH hS (Nat.le_of_ble_eq_true rfl) (Nat.le_of_ble_eq_true rfl) d_Ce_init_31 (by rw [eM_9, eM_7, eM_5, eM_3, eM_1, hp_uu, hp_uu, hp_uu, hp_uu]; first | done | rfl)
abbrev rm_In_init : Room := { frames := 1, cells := 0, slots := 0, locals := 12 }
set_option maxHeartbeats 4000000 in
set_option maxRecDepth 100000 in
theorem cn_In_init (l : Launch) (D : va_G) (B : Nat) (M : hp_M) (q : Nat) (h1 : M q = some (sw_i none 0)) : Met l y_In_init (wd_c y_In_init b_In_init 1 (none)) rm_In_init (va_Pc [.ref q] (hp_C D B M)) (va_Qv (fun  (M1 : hp_M) => M1 = M) (hp_C D B) (hp_ub B)) 0 0 (hp_ub B) := by
  refine hp_met (by decide) (Nat.le_of_ble_eq_true rfl) ?_
  intro p e s m args below meth cd ls Q hQ hx hb hr hts hown hlocks hnm hml hK hH hS hB hl
  replace hl : lv_has ls 1 [(0, .ref q)] := hl
  refine lv_aload_n hx hb d_In_init_0 rfl (lv_at hl 0 rfl) ?_
  refine W.objInit hx hb hown (hts _ kw_71) (hts _ kw_64) (hts _ kw_65) rfl (by rw [hml]; exact hl.1) rfl d_In_init_1 (Nat.le_of_ble_eq_true rfl) (Nat.le_of_ble_eq_true rfl) ?_
  refine W.eq (g2 := F0 m 4 ls []) rfl ?_
  exact hp_vret hx hb hr hlocks hQ hK hH hS (Nat.le_of_ble_eq_true rfl) (Nat.le_of_ble_eq_true rfl) d_In_init_4 rfl
abbrev rm_Ou_init : Room := { frames := 1, cells := 2, slots := 16, locals := 23 }
set_option maxHeartbeats 4000000 in
set_option maxRecDepth 100000 in
theorem cn_Ou_init (l : Launch) (D : va_G) (B : Nat) (M : hp_M) (po : Nat) (h1 : M po = some (.inr (ix_ou, [.int 0, .null, .null, .null, .int 0, .null]))) : Met l y_Ou_init (wd_c y_Ou_init b_Ou_init 1 (none)) rm_Ou_init (va_Pc [.ref po] (hp_C D B M)) (va_Qv (fun  (M1 : hp_M) => ∃ (qs ql : Nat) (f : Nat → Int32), M qs = none ∧ M ql = none ∧ qs ≠ ql ∧ (∀ j, j < 8 → f j = 65536) ∧ M1 po = some (sw_o 0 qs ql none 0 none) ∧ M1 qs = some (hp_ai D 8 f) ∧ M1 ql = some (hp_al D 8 (fun _ => 0)) ∧ ∀ x, x ≠ po → x ≠ qs → x ≠ ql → M1 x = M x) (hp_C D B) (hp_ub B)) 2 16 (hp_ub B) := by
  refine hp_met (by decide) (Nat.le_of_ble_eq_true rfl) ?_
  intro p e s m args below meth cd ls Q hQ hx hb hr hts hown hlocks hnm hml hK hH hS hB hl
  replace hl : lv_has ls 1 [(0, .ref po)] := hl
  refine lv_aload_n hx hb d_Ou_init_0 rfl (lv_at hl 0 rfl) ?_
  refine W.objInit hx hb hown (hts _ kw_72) (hts _ kw_64) (hts _ kw_65) rfl (by rw [hml]; exact hl.1) rfl d_Ou_init_1 (Nat.le_of_ble_eq_true rfl) (Nat.le_of_ble_eq_true rfl) ?_
  refine W.eq (g2 := F0 m 4 ls []) rfl ?_
  refine lv_aload_n hx hb d_Ou_init_4 rfl (lv_at hl 0 rfl) ?_
  refine lv_iconst (v := 0) hx hb d_Ou_init_5 (by decide) ?_
  refine hp_put hx hb hts iw_Ou t_Ou t_Ou_ok n_Ou hown hK hH hS hB h1 rfl 0 (by decide) (hts _ kw_48) rfl  (v := .int 0) rfl rfl (Nat.le_of_ble_eq_true rfl) (fs' := [.int 0, .null, .null, .null, .int 0, .null]) rfl d_Ou_init_6 (fun M_1 H locs eM_1 hH hS => ?_)
  have f_2 : M_1 po = some (.inr (ix_ou, [.int 0, .null, .null, .null, .int 0, .null])) := by rw [eM_1]; exact va_up_self _ _ _
  refine lv_aload_n hx hb d_Ou_init_9 rfl (lv_at hl 0 rfl) ?_
  refine lv_bipush (v := 8) hx hb d_Ou_init_10 (by decide) ?_
  refine hp_newi hx hb (hts _ kw_73) hK hH hS hB 8 (by decide) (by decide) (Nat.le_of_ble_eq_true rfl) (Nat.le_of_ble_eq_true rfl) d_Ou_init_12 (fun q_3 M_4 H zq_3 eM_4 hH hS => ?_)
  have f_5 : M_4 q_3 = some (hp_ai D 8 (fun _ => 0)) := by rw [eM_4]; exact va_up_self _ _ _
  have f_6 : M_4 po = some (.inr (ix_ou, [.int 0, .null, .null, .null, .int 0, .null])) := by rw [eM_4, va_up_ne _ _ (hp_fr zq_3 f_2)]; exact f_2
  refine hp_putF hx hb hts iw_Ou t_Ou t_Ou_ok n_Ou hown hK hH hS hB f_6 rfl 1 (by decide) (hts _ kw_46) rfl hnm rfl (v := .ref q_3) rfl rfl (Nat.le_of_ble_eq_true rfl) (fs' := [.int 0, .ref q_3, .null, .null, .int 0, .null]) rfl d_Ou_init_14 (fun M_7 H locs eM_7 hH hS => ?_)
  have f_8 : M_7 po = some (.inr (ix_ou, [.int 0, .ref q_3, .null, .null, .int 0, .null])) := by rw [eM_7]; exact va_up_self _ _ _
  have f_9 : M_7 q_3 = some (hp_ai D 8 (fun _ => 0)) := by rw [eM_7, va_up_ne _ _ (hp_ne 100 ix_ou f_5 f_6 rfl rfl (by decide))]; exact f_5
  refine lv_aload_n hx hb d_Ou_init_17 rfl (lv_at hl 0 rfl) ?_
  refine lv_bipush (v := 8) hx hb d_Ou_init_18 (by decide) ?_
  refine hp_newl hx hb (hts _ kw_74) hK hH hS hB 8 (by decide) (by decide) (Nat.le_of_ble_eq_true rfl) (Nat.le_of_ble_eq_true rfl) d_Ou_init_20 (fun q_10 M_11 H zq_10 eM_11 hH hS => ?_)
  have f_12 : M_11 q_10 = some (hp_al D 8 (fun _ => 0)) := by rw [eM_11]; exact va_up_self _ _ _
  have f_13 : M_11 q_3 = some (hp_ai D 8 (fun _ => 0)) := by rw [eM_11, va_up_ne _ _ (hp_fr zq_10 f_9)]; exact f_9
  have f_14 : M_11 po = some (.inr (ix_ou, [.int 0, .ref q_3, .null, .null, .int 0, .null])) := by rw [eM_11, va_up_ne _ _ (hp_fr zq_10 f_8)]; exact f_8
  refine hp_putF hx hb hts iw_Ou t_Ou t_Ou_ok n_Ou hown hK hH hS hB f_14 rfl 2 (by decide) (hts _ kw_25) rfl hnm rfl (v := .ref q_10) rfl rfl (Nat.le_of_ble_eq_true rfl) (fs' := [.int 0, .ref q_3, .ref q_10, .null, .int 0, .null]) rfl d_Ou_init_22 (fun M_15 H locs eM_15 hH hS => ?_)
  have f_16 : M_15 po = some (.inr (ix_ou, [.int 0, .ref q_3, .ref q_10, .null, .int 0, .null])) := by rw [eM_15]; exact va_up_self _ _ _
  have f_17 : M_15 q_3 = some (hp_ai D 8 (fun _ => 0)) := by rw [eM_15, va_up_ne _ _ (hp_ne 100 ix_ou f_13 f_14 rfl rfl (by decide))]; exact f_13
  have f_18 : M_15 q_10 = some (hp_al D 8 (fun _ => 0)) := by rw [eM_15, va_up_ne _ _ (hp_ne 101 ix_ou f_12 f_14 rfl rfl (by decide))]; exact f_12
  refine lv_aload_n hx hb d_Ou_init_25 rfl (lv_at hl 0 rfl) ?_
  refine hp_get hx hb hts iw_Ou hown hK hH f_16 rfl 1 (by decide) (hts _ kw_46) (v := .ref q_3) rfl d_Ou_init_26 ?_
  refine lv_ldc (v := 65536) hx hb hown (hts _ kw_75) d_Ou_init_29 ?_
  refine hp_callv (hp_runS (As := [.ref q_3, .int 65536]) (rest := []) hx hb hml hown (cn_Ar_fill_i l D B M_15 q_3 8 (fun _ => 0) 65536 f_17 (by decide)) (hp_cwS 2 hts kw_76 kw_78 kw_27 kw_77 rfl rfl (by decide +kernel) ⟨(Nat.le_of_ble_eq_true rfl), (Nat.le_of_ble_eq_true rfl)⟩) hK hH rfl hl.1 rfl (Nat.le_of_ble_eq_true rfl) d_Ou_init_31 ⟨(Nat.le_of_ble_eq_true rfl), (Nat.le_of_ble_eq_true rfl)⟩) hS (fun M_20 H locs w_21 hH hS => ?_)
  obtain ⟨g, hg, eM⟩ := w_21
  have n1 : po ≠ q_3 := hp_ne ix_ou 100 f_16 f_17 rfl rfl (by decide)
  have n2 : q_10 ≠ q_3 := hp_ne 101 100 f_18 f_17 rfl rfl (by decide)
  have n3 : po ≠ q_10 := hp_ne ix_ou 101 f_16 f_18 rfl rfl (by decide)
  have k1 : M_20 po = some (sw_o 0 q_3 q_10 none 0 none) := by rw [eM, va_up_ne _ _ n1]; exact f_16
  have k2 : M_20 q_10 = some (hp_al D 8 (fun _ => 0)) := by rw [eM, va_up_ne _ _ n2]; exact f_18
  have k3 : M_20 q_3 = some (hp_ai D 8 g) := by rw [eM]; exact va_up_self _ _ _
  have kz : M q_10 = none := by have h := zq_10; rw [eM_7, eM_4, eM_1, va_up_ne _ _ (Ne.symm n3), va_up_ne _ _ n2, va_up_ne _ _ (Ne.symm n3)] at h; exact h
  have kq : M q_3 = none := by have h := zq_3; rw [eM_1, va_up_ne _ _ (Ne.symm n1)] at h; exact h
  have kf : ∀ x, x ≠ po → x ≠ q_3 → x ≠ q_10 → M_20 x = M x := fun x a1 a2 a3 => by rw [eM, eM_15, eM_11, eM_7, eM_4, eM_1]; simp only [va_up_ne _ _ a1, va_up_ne _ _ a2, va_up_ne _ _ a3]
  exact hp_vret hx hb hr hlocks hQ hK hH hS (Nat.le_of_ble_eq_true rfl) (Nat.le_of_ble_eq_true rfl) d_Ou_init_34 ⟨q_3, q_10, g, kq, kz, Ne.symm n2, hg, k1, k3, k2, kf⟩
