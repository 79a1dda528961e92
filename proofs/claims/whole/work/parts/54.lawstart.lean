theorem kw_322 : Cond.instantiable R_Sw 4 ∈ wd_T := wd_in (List.mem_of_getElem? (i := 28) (by decide +kernel)) rfl
theorem kw_323 : Cond.instantiable R_Md 20 ∈ wd_T := wd_in (List.mem_of_getElem? (i := 268) (by decide +kernel)) rfl
theorem kw_324 : Cond.classLink R_law 7 R_Sw ∈ wd_T := wd_in (List.mem_of_getElem? (i := 27) (by decide +kernel)) rfl
theorem kw_325 : Cond.methodLink R_law 9 y_Sw_init ∈ wd_T := wd_in (List.mem_of_getElem? (i := 29) (by decide +kernel)) rfl
theorem kw_326 : Cond.instanceMethod y_Sw_init ∈ wd_T := wd_in (List.mem_of_getElem? (i := 30) (by decide +kernel)) rfl
theorem kw_327 : Cond.code y_Sw_init b_Sw_init 2 none ∈ wd_T := wd_in (List.mem_of_getElem? (i := 31) (by decide +kernel)) rfl
theorem kw_328 : Cond.classLink R_law 10 R_Md ∈ wd_T := wd_in (List.mem_of_getElem? (i := 267) (by decide +kernel)) rfl
theorem kw_329 : Cond.methodLink R_law 12 y_Md_init ∈ wd_T := wd_in (List.mem_of_getElem? (i := 269) (by decide +kernel)) rfl
theorem kw_330 : Cond.code y_Md_init b_Md_init 2 none ∈ wd_T := wd_in (List.mem_of_getElem? (i := 271) (by decide +kernel)) rfl
theorem kw_331 : Cond.instanceMethod y_Md_init ∈ wd_T := wd_in (List.mem_of_getElem? (i := 270) (by decide +kernel)) rfl
theorem kx_0 : Cond.methodLinkNest R_Sw 21 y_In_init "EvenSwitch" ∈ lw_tbl := List.mem_of_getElem? (i := 40) (by decide +kernel)
theorem kx_1 : Cond.arrayOver (.object R_In) ∈ lw_tbl := List.mem_of_getElem? (i := 36) (by decide +kernel)
theorem kx_2 : Cond.arrayOver (.object R_Ou) ∈ lw_tbl := List.mem_of_getElem? (i := 38) (by decide +kernel)
set_option maxHeartbeats 4000000 in
set_option maxRecDepth 100000 in
/-- THE LAW, from its entry -/
theorem whole_start {p : Program} {e : Env} {s : State} {m : MethodId} {below : List Frame} {meth : Method} {c : Code} (l : Launch) {b L : Nat} {xs : Nat → Int32} (hL : L ≤ 2560) (C0 : lw_At p s m meth c b L xs) : W p l e room_1 s m #[Value.ref b] below meth c s.heap [] 0 0 (lw_Z below #[Value.ref b] s) (entryFrame m ([Value.ref b] : List Value).toArray 4) := by
  obtain ⟨bs, ebs⟩ : ∃ z, z = b := ⟨_, rfl⟩
  rw [← ebs] at C0 ⊢
  have C1 := C0
  obtain ⟨B, hB0⟩ : ∃ z, z = s.heap.size := ⟨_, rfl⟩
  obtain ⟨hx, hb, hr, hml, hown, hts0, hX, hbl, hlocks, hgv⟩ := C0
  have hts : ∀ w ∈ wd_T, w.before #[Value.ref bs] s = true := fun w h => hts0 w (wd_out h)
  have hB : B ≤ s.heap.size := by omega
  have hbA : ¬ hp_ub B bs := fun w => by have w : B ≤ bs := w; omega
  obtain ⟨c0, iS0, hKn0⟩ := u_known (C := R_Ce) (T := F_Ce) (N := 8) (n := 8) hts iw_Ce (hts _ kw_92)
  obtain ⟨c1, iS1, hKn1⟩ := u_known (C := R_In) (T := F_In) (N := 2) (n := 2) hts iw_In (hts _ kw_127)
  obtain ⟨c2, iS2, hKn2⟩ := u_known (C := R_Ou) (T := F_Ou) (N := 6) (n := 6) hts iw_Ou (hts _ kw_130)
  obtain ⟨c3, iS3, hKn3⟩ := u_known (C := R_Sw) (T := F_Sw) (N := 4) (n := 4) hts iw_Sw (hts _ kw_322)
  obtain ⟨c4, iS4, hKn4⟩ := u_known (C := R_Md) (T := F_Md) (N := 20) (n := 20) hts iw_Md (hts _ kw_323)
  obtain ⟨cI, kI, mI, f1, f2, f3⟩ := Cond.arrayClass_spec (hts _ kw_73)
  obtain ⟨cJ, kJ, mJ, g1, g2, g3⟩ := Cond.arrayClass_spec (hts _ kw_74)
  obtain ⟨mP, cP, kP, p1, -, p3, p4, p5⟩ := Cond.arrayOver_spec (hts0 _ kx_1)
  obtain ⟨mO, cO, kO, o1, -, o3, o4, o5⟩ := Cond.arrayOver_spec (hts0 _ kx_2)
  obtain ⟨D, hK⟩ : ∃ D : va_G, va_K D classes (hp_T D) s := by
    refine ⟨(fun k => if k = 0 then c0 else if k = 1 then c1 else if k = 2 then c2 else if k = 3 then c3 else if k = 4 then c4 else if k = 10 then cI else if k = 11 then cJ else if k = 12 then cP else cO, fun k => if k = 0 then iS0 else if k = 1 then iS1 else if k = 2 then iS2 else if k = 3 then iS3 else iS4), fun k q hq => ?_, fun k q hq => ?_⟩
    · match k, hq with
      | 0, hq => cases hq; exact hKn0
      | 1, hq => cases hq; exact hKn1
      | 2, hq => cases hq; exact hKn2
      | 3, hq => cases hq; exact hKn3
      | 4, hq => cases hq; exact hKn4
      | k + 5, hq => simp [classes] at hq
    · match k, hq with
      | 0, hq => cases hq; exact ⟨fun N z => ⟨(fun k h => by cases h), kI, f2, mI, f3⟩, f1⟩
      | 1, hq => cases hq; exact ⟨fun N z => ⟨(fun k h => by cases h), kJ, g2, mJ, g3⟩, g1⟩
      | 2, hq => cases hq; exact ⟨fun N z => ⟨(fun k h => by cases h), kP, p3, mP, p4⟩, kP, mP, p3, p4, p1, p5⟩
      | 3, hq => cases hq; exact ⟨fun N z => ⟨(fun k h => by cases h), kO, o3, mO, o4⟩, kO, mO, o3, o4, o1, o5⟩
      | k + 4, hq => simp at hq
  have hE : sw_E s := ⟨va_Nw.of rfl (hts0 _ kx_0), va_AO.of (hts0 _ kx_1), va_AO.of (hts0 _ kx_2)⟩
  obtain ⟨M, eM0⟩ : ∃ z : hp_M, z = fun _ => none := ⟨_, rfl⟩
  have hH : hp_H D B M s.heap := hp_0 eM0 hB
  have hS : va_S (hp_ub B) s.heap s.heap [] := va_S.rf
  have hl := lv_entry ([.ref bs]) (n := 4) (Nat.le_of_ble_eq_true rfl)
  rw [lg_entry_eq]
  generalize (lg_sl ([.ref bs]) ++ List.replicate (4 - (lg_sl ([.ref bs])).length) Slot.unset).toArray = ls at hl ⊢
  replace hl : lv_has ls 4 [(0, .ref bs)] := hl
  refine hp_new hx hb hts iw_Sw t_Sw t_Sw_ok hown (hts _ kw_324) (hts _ kw_322) (hts _ kw_2) hK hH hS hB (ci := ix_sw) rfl (fs := [.null, .null, .int 0, .long 0]) (fun j hj => by rcases (show j = 0 ∨ j = 1 ∨ j = 2 ∨ j = 3 by omega) with rfl | rfl | rfl | rfl <;> rfl) (Nat.le_of_ble_eq_true rfl) (Nat.le_of_ble_eq_true rfl) d_law_0 (fun q_1 M_2 H zq_1 eM_2 hH hS => ?_)
  have f_3 : M_2 q_1 = some (.inr (ix_sw, [.null, .null, .int 0, .long 0])) := by rw [eM_2]; exact va_up_self _ _ _
  refine lv_dup hx hb d_law_3 rfl ?_
  refine hp_callv (hp_runI2 (E := sw_E) (b := q_1) (As := []) (rest := [.ref q_1]) sw_E_b (sw_E_w hE) hx hb hml hown (cn_Sw_init l D B M_2 q_1 (fun _ => False) f_3 (fun x h => h.elim)) (hp_cwI 0 hts kw_325 kw_326 kw_2 kw_327 rfl rfl rfl (by decide +kernel) ⟨(Nat.le_of_ble_eq_true rfl), (Nat.le_of_ble_eq_true rfl)⟩) hK hH rfl hl.1 rfl (Nat.le_of_ble_eq_true rfl) d_law_4 ⟨(Nat.le_of_ble_eq_true rfl), (Nat.le_of_ble_eq_true rfl)⟩) hS (fun Ms H locs ws hH hS => ?_)
  obtain ⟨hsw, -⟩ := ws
  refine lv_astore_n (lv' := [(1, .ref q_1), (0, .ref bs)]) hx hb d_law_7 rfl hl (by decide) rfl (fun ls hl => ?_)
  refine hp_new hx hb hts iw_Md t_Md t_Md_ok hown (hts _ kw_328) (hts _ kw_323) (hts _ kw_137) hK hH hS hB (ci := ix_md) rfl (fs := [.int 0, .null, .null, .null, .null, .null, .null, .null, .null, .null, .null, .null, .null, .null, .null, .int 0, .int 0, .null, .null, .null]) (fun j hj => by rcases (show j = 0 ∨ j = 1 ∨ j = 2 ∨ j = 3 ∨ j = 4 ∨ j = 5 ∨ j = 6 ∨ j = 7 ∨ j = 8 ∨ j = 9 ∨ j = 10 ∨ j = 11 ∨ j = 12 ∨ j = 13 ∨ j = 14 ∨ j = 15 ∨ j = 16 ∨ j = 17 ∨ j = 18 ∨ j = 19 by omega) with rfl | rfl | rfl | rfl | rfl | rfl | rfl | rfl | rfl | rfl | rfl | rfl | rfl | rfl | rfl | rfl | rfl | rfl | rfl | rfl <;> rfl) (Nat.le_of_ble_eq_true rfl) (Nat.le_of_ble_eq_true rfl) d_law_8 (fun q_4 M_5 H zq_4 eM_5 hH hS => ?_)
  have f_6 : M_5 q_4 = some (.inr (ix_md, [.int 0, .null, .null, .null, .null, .null, .null, .null, .null, .null, .null, .null, .null, .null, .null, .int 0, .int 0, .null, .null, .null])) := by rw [eM_5]; exact va_up_self _ _ _
  refine lv_dup hx hb d_law_11 rfl ?_
  refine hp_callv (hp_runI (b := q_4) (As := []) (rest := [.ref q_4]) hx hb hml hown (cn_Md_init l D B M_5 q_4 f_6) (hp_cwI 0 hts kw_329 kw_331 kw_137 kw_330 rfl rfl rfl (by decide +kernel) ⟨(Nat.le_of_ble_eq_true rfl), (Nat.le_of_ble_eq_true rfl)⟩) hK hH rfl hl.1 rfl (Nat.le_of_ble_eq_true rfl) d_law_12 ⟨(Nat.le_of_ble_eq_true rfl), (Nat.le_of_ble_eq_true rfl)⟩) hS (fun M_8 H locs w_9 hH hS => ?_)
  obtain ⟨ad, ct', cl', hm, hR, hfr, hz⟩ := w_9
  have hz' : ∀ j, j < 17 → Ms (ad j) = none := fun j hj => by
    have h := hz j hj
    have hn : ad j ≠ q_4 := fun w => by rw [w, eM_5, va_up_self] at h; cases h
    rw [eM_5, va_up_ne _ _ hn] at h; exact h
  have hkeep : ∀ x, Ms x ≠ none → M_8 x = Ms x := fun x hx => by
    have hn : x ≠ q_4 := fun w => hx (by rw [w]; exact zq_4)
    have h2 : M_5 x = Ms x := by rw [eM_5, va_up_ne _ _ hn]
    rw [hfr x (by rw [h2]; exact hx) hn, h2]
  have hsw1 : sw_H D M_8 q_1 sg_0 (lw_F q_4 ad) := lw_new hsw hkeep (fun x hx => ⟨by rcases hx with w | ⟨j, hj, w⟩ <;> rw [w]; exact zq_4; exact hz' j hj, lw_some hm x hx⟩)
  refine lv_astore_n (lv' := [(2, .ref q_4), (1, .ref q_1), (0, .ref bs)]) hx hb d_law_15 rfl hl (by decide) rfl (fun ls hl => ?_)
  refine lv_iconst (v := 0) hx hb d_law_16 (by decide) ?_
  refine lv_istore_n (lv' := [(3, .int 0), (2, .ref q_4), (1, .ref q_1), (0, .ref bs)]) hx hb d_law_17 rfl hl (by decide) rfl (fun ls hl => ?_)
  exact law_loop hL C1 hB0 hK (L + 1) 0 M_8 _ _ ls sg_0 0 0 0 ct' cl' (by omega) (by omega) (Nat.le_refl 0) hsw1 hm hR sg_inv_0 sg_sei_0 hH hS (lv_sub hl [0, 3, 2, 1] rfl)
