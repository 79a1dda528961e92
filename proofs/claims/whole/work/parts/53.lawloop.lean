set_option maxHeartbeats 4000000 in
set_option maxRecDepth 100000 in
/-- THE LAW'S LOOP -/
theorem law_loop {p : Program} {l : Launch} {e : Env} {s : State} {m : MethodId} {below : List Frame} {meth : Method} {c : Code} {D : va_G} {B bs L : Nat} {xs : Nat → Int32} (hL : L ≤ 2560) (C0 : lw_At p s m meth c bs L xs) (hB0 : B = s.heap.size) (hK : va_K D classes (hp_T D) s) {q0 q1 : Nat} {ad : Nat → Nat} : ∀ (n i : Nat) (M : hp_M) (H : Heap) (locs : List Loc) (ls : Array Slot) (σ : sg_S) (th of sl : Int32) (ct : Nat → Nat → Int32) (cl : Nat → Nat → Int64), L < 5 * i + n → 5 * i ≤ L → sg_ac σ ≤ i → sw_H D M q0 σ (lw_F q1 ad) → md_H D M q1 ad th of sl ct cl → mo_R σ (fun _ => sg_sl σ - 1) of sl ct cl → sg_inv σ → sg_sei σ → hp_H D B M H → va_S (hp_ub B) s.heap H locs → lv_has ls 4 [(3, .int (nI (5 * i))), (0, .ref bs), (1, .ref q0), (2, .ref q1)] → W p l e room_1 s m #[Value.ref bs] below meth c H locs (53 + i) (25008 + 8 * i) (lw_Z below #[Value.ref bs] s) (F0 m 18 ls []) := by
  have C1 := C0
  obtain ⟨hx, hb, hr, hml, hown, hts0, hX, hbl, hlocks, hgv⟩ := C0
  have hts : ∀ w ∈ wd_T, w.before #[Value.ref bs] s = true := fun w h => hts0 w (wd_out h)
  have hB : B ≤ s.heap.size := by omega
  have hbA : ¬ hp_ub B bs := fun w => by have w : B ≤ bs := w; omega
  intro n
  induction n with
  | zero =>
    intro i M H locs ls σ th of sl ct cl h1 h2
    exact absurd h1 (by omega)
  | succ n ih =>
    intro i M H locs ls σ th of sl ct cl hn hi5 hac0 hsw hm hR hinv hsei hH hS hl
    refine lv_iload_n hx hb d_law_18 rfl (lv_at hl 0 rfl) ?_
    refine lv_aload_n hx hb d_law_19 rfl (lv_at hl 1 rfl) ?_
    refine va_slen hx hb hX hbl hbA hS d_law_20 ?_
    refine lv_iconst (v := 5) hx hb d_law_21 (by decide) ?_
    refine lv_isub hx hb d_law_22 ?_
    refine lv_icmp_gt (tgt := 508) hx hb d_law_23 (by decide) (fun c_1 => ?_) (fun c_1 => ?_)
    · refine lv_iconst (v := 1) hx hb d_law_508 (by decide) ?_
      refine va_forget (fun q hq => by have w : B ≤ q.base := hS.2.2 q hq; omega) ?_
      refine W.widen (k := 600000) (n := 7302249) (by omega) (by omega) ?_
      exact lw_ret hx hb hr hlocks d_law_509
    · have hi : 5 * i + 5 ≤ L := Nat.le_of_not_lt (fun w => c_1 ((lw_cmp hL (by omega)).mpr w))
      refine lv_aload_n hx hb d_law_26 rfl (lv_at hl 1 rfl) ?_
      refine lv_iload_n hx hb d_law_27 rfl (lv_at hl 0 rfl) ?_
      refine hp_sld hx hb hX hbl hbA hS (5 * i) rfl (by omega) (by omega) d_law_28 ?_
      refine lv_bipush (v := 15) hx hb d_law_29 (by decide) ?_
      refine lv_iand hx hb d_law_31 ?_
      obtain ⟨j, hj, ej⟩ := pk_andE (xs (5 * i)) (m := 15) 4 (by decide)
      rw [ej]
      have K : lw_K p l e s m below meth c D B bs q0 q1 ad i := by
        intro M H locs ls σ th of sl ct cl a1 a2 a3 a4 a5 a6 a7 a8 a9
        refine lv_iinc (v := nI (5 * (i + 1))) (lv' := [(3, .int (nI (5 * (i + 1)))), (0, .ref bs), (1, .ref q0), (2, .ref q1)]) hx hb d_law_502 a9 (k := 0) rfl (by rw [show Int32.ofInt 5 = nI 5 from rfl, nI_add]; rfl) (by decide) rfl (fun ls hl => ?_)
        refine lv_goto (tgt := 18) hx hb d_law_505 (by decide) ?_
        exact ih (i + 1) M H locs ls σ th of sl ct cl (by omega) (by omega) a1 a2 a3 a4 a5 a6 a7 a8 hl
      rcases (show j = 0 ∨ j = 1 ∨ j = 2 ∨ j = 3 ∨ j = 4 ∨ j = 5 ∨ j = 6 ∨ j = 7 ∨ j = 8 ∨ j = 9 ∨ j = 10 ∨ j = 11 ∨ j = 12 ∨ j = 13 ∨ j = 14 ∨ j = 15 by omega) with rfl | rfl | rfl | rfl | rfl | rfl | rfl | rfl | rfl | rfl | rfl | rfl | rfl | rfl | rfl | rfl
      · refine lv_tableIn (tgt := 108) (off := 76) hx hb d_law_32 (by decide) (by decide) (by decide) (by decide) ?_
        exact lw_b0 hL C1 hB0 hK hi hac0 hsw hm hR hinv hsei hH hS hl K
      · refine lv_tableIn (tgt := 141) (off := 109) hx hb d_law_32 (by decide) (by decide) (by decide) (by decide) ?_
        exact lw_b1 hL C1 hB0 hK hi hac0 hsw hm hR hinv hsei hH hS hl K
      · refine lv_tableIn (tgt := 184) (off := 152) hx hb d_law_32 (by decide) (by decide) (by decide) (by decide) ?_
        exact lw_b2 hL C1 hB0 hK hi hac0 hsw hm hR hinv hsei hH hS hl K
      · refine lv_tableIn (tgt := 237) (off := 205) hx hb d_law_32 (by decide) (by decide) (by decide) (by decide) ?_
        exact lw_b3 hL C1 hB0 hK hi hac0 hsw hm hR hinv hsei hH hS hl K
      · refine lv_tableIn (tgt := 250) (off := 218) hx hb d_law_32 (by decide) (by decide) (by decide) (by decide) ?_
        exact lw_b4 hL C1 hB0 hK hi hac0 hsw hm hR hinv hsei hH hS hl K
      · refine lv_tableIn (tgt := 263) (off := 231) hx hb d_law_32 (by decide) (by decide) (by decide) (by decide) ?_
        exact lw_b5 hL C1 hB0 hK hi hac0 hsw hm hR hinv hsei hH hS hl K
      · refine lv_tableIn (tgt := 286) (off := 254) hx hb d_law_32 (by decide) (by decide) (by decide) (by decide) ?_
        exact lw_b6 hL C1 hB0 hK hi hac0 hsw hm hR hinv hsei hH hS hl K
      · refine lv_tableIn (tgt := 309) (off := 277) hx hb d_law_32 (by decide) (by decide) (by decide) (by decide) ?_
        exact lw_b7 hL C1 hB0 hK hi hac0 hsw hm hR hinv hsei hH hS hl K
      · refine lv_tableIn (tgt := 332) (off := 300) hx hb d_law_32 (by decide) (by decide) (by decide) (by decide) ?_
        exact lw_b8 hL C1 hB0 hK hi hac0 hsw hm hR hinv hsei hH hS hl K
      · refine lv_tableIn (tgt := 355) (off := 323) hx hb d_law_32 (by decide) (by decide) (by decide) (by decide) ?_
        exact lw_b9 hL C1 hB0 hK hi hac0 hsw hm hR hinv hsei hH hS hl K
      · refine lv_tableIn (tgt := 378) (off := 346) hx hb d_law_32 (by decide) (by decide) (by decide) (by decide) ?_
        exact lw_b10 hL C1 hB0 hK hi hac0 hsw hm hR hinv hsei hH hS hl K
      · refine lv_tableIn (tgt := 401) (off := 369) hx hb d_law_32 (by decide) (by decide) (by decide) (by decide) ?_
        exact lw_b11 hL C1 hB0 hK hi hac0 hsw hm hR hinv hsei hH hS hl K
      · refine lv_tableIn (tgt := 434) (off := 402) hx hb d_law_32 (by decide) (by decide) (by decide) (by decide) ?_
        exact lw_b12 hL C1 hB0 hK hi hac0 hsw hm hR hinv hsei hH hS hl K
      · refine lv_tableIn (tgt := 468) (off := 436) hx hb d_law_32 (by decide) (by decide) (by decide) (by decide) ?_
        exact lw_b13 hL C1 hB0 hK hi hac0 hsw hm hR hinv hsei hH hS hl K
      · refine lv_tableIn (tgt := 491) (off := 459) hx hb d_law_32 (by decide) (by decide) (by decide) (by decide) ?_
        exact lw_b14 hL C1 hB0 hK hi hac0 hsw hm hR hinv hsei hH hS hl K
      · refine lv_tableOut (tgt := 502) hx hb d_law_32 (by decide) (by decide) ?_
        refine W.widen (k := 53 + (i + 1)) (n := 25008 + 8 * (i + 1)) (by omega) (by omega) ?_
        exact K M H locs ls σ th of sl ct cl (by omega) hsw hm hR hinv hsei hH hS hl
