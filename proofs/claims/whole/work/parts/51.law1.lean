/-! The law: what it needs of both sides. -/
section LW1
variable {p : Program} {l : Launch} {e : Env} {R : Room} {s : State} {m : MethodId} {args : Array Value} {below : List Frame} {meth : Method} {c : Code} {H : Heap} {locs : List Loc} {cells slots : Nat} {Q : State → Prop}
variable {cc : ByteArray} {pc : Nat} {ls : Array Slot} {rest : List Value} {A : Nat → Prop} {H0 : Heap}
theorem hp_sld (hexec : p.tables.exec = Jvm.exec) (hb : c.code = cc) {b L : Nat} {xs : Nat → Int32} (hX : va_X b L xs s H0) (hbl : b < H0.size) (hbA : ¬ A b) (hS : va_S A H0 H locs) {i : Int32} (k : Nat) (hi : i = nI k) (hk : k < L) (hL : L < 2 ^ 31) (hdg : decode cc pc = .ok (.iaload, 1))
    (kk : W p l e R s m args below meth c H locs cells slots Q (F0 m (pc + 1) ls (.int (xs k) :: rest))) : W p l e R s m args below meth c H locs cells slots Q (F0 m pc ls (.int i :: .ref b :: rest)) := by
  subst hi
  refine va_sld hexec hb hX hbl hbA hS (vp_in_nI hk hL) hdg ?_
  rw [nI_clamp (by omega)]
  exact kk
end LW1
/-- the reference's addresses -/
def lw_F (q1 : Nat) (ad : Nat → Nat) : Nat → Prop := fun x => x = q1 ∨ ∃ j, j < 17 ∧ x = ad j
theorem lw_md {D : va_G} {M M1 : hp_M} {q1 : Nat} {ad : Nat → Nat} {th of sl : Int32} {ct : Nat → Nat → Int32} {cl : Nat → Nat → Int64} (h : md_H D M q1 ad th of sl ct cl) (hf : sw_fr (lw_F q1 ad) M M1) : md_H D M1 q1 ad th of sl ct cl :=
  ⟨(hf q1 (Or.inl rfl)).trans h.1, fun j a1 a2 a3 => (hf _ (Or.inr ⟨j, a1, rfl⟩)).trans (h.2.1 j a1 a2 a3), fun j a1 => (hf _ (Or.inr ⟨j, by omega, rfl⟩)).trans (h.2.2.1 j a1), h.2.2.2⟩
theorem lw_some {D : va_G} {M : hp_M} {q1 : Nat} {ad : Nat → Nat} {th of sl : Int32} {ct : Nat → Nat → Int32} {cl : Nat → Nat → Int64} (h : md_H D M q1 ad th of sl ct cl) : ∀ x, lw_F q1 ad x → M x ≠ none := by
  intro x hx
  rcases hx with rfl | ⟨j, hj, rfl⟩
  · rw [h.1]; intro w; cases w
  · by_cases h4 : j = 4 ∨ j = 9
    · rw [h.2.2.1 j h4]; intro w; cases w
    · rw [h.2.1 j hj (fun q => h4 (Or.inl q)) (fun q => h4 (Or.inr q))]; intro w; cases w
theorem lw_sw {D : va_G} {M M1 : hp_M} {q0 q1 : Nat} {ad : Nat → Nat} {th of sl : Int32} {ct : Nat → Nat → Int32} {cl : Nat → Nat → Int64} {σ : sg_S} (h : sw_H D M q0 σ (lw_F q1 ad)) (hf : md_fr q1 ad M M1) (hm : md_H D M1 q1 ad th of sl ct cl) : sw_H D M1 q0 σ (lw_F q1 ad) :=
  sw_H_kept h (fun x hx => hf x (fun w => hx (Or.inl w)) (fun j hj w => hx (Or.inr ⟨j, hj, w⟩))) (lw_some hm)
theorem tr_setOrder_sei {σ τ : sg_S} {x k r : Int32} (h : tr_setOrder σ x k r τ) (hs : sg_sei σ) : sg_sei τ := by
  rcases h with ⟨o, _, _, _, d⟩ | ⟨_, _, d⟩ <;> subst d <;> exact hs
theorem tr_setWeight_sei {σ τ : sg_S} {x y w r : Int32} (h : tr_setWeight σ x y w r τ) (hs : sg_sei σ) : sg_sei τ := by
  rcases h with ⟨o, g, _, _, _, _, d⟩ | ⟨_, _, d⟩ <;> subst d <;> exact hs
theorem tr_offer_sei {σ τ : sg_S} {x y z t r : Int32} (h : tr_offer σ x y z t r τ) (hs : sg_sei σ) : sg_sei τ := by
  rcases h with ⟨i, o, g, _, _, _, _, _, _, d⟩ | ⟨_, _, d⟩ <;> subst d <;> exact hs
theorem sg_ac_slot (σ : sg_S) : sg_ac (sg_slot σ) = sg_ac σ := by
  show sg_ac (sg_sends (sg_comes σ 8) 8) = _
  rw [sg_ac_sends, sg_ac_comes]
theorem lw_cmp {L k : Nat} (hL : L ≤ 2560) (hk : k ≤ 2560) : nI L - 5 < nI k ↔ L < k + 5 := by
  rw [Int32.lt_iff_toInt_lt, show (5 : Int32) = nI 5 from rfl, pk_sub_toInt (by omega) (by omega), nI_toInt (by omega)]
  omega
/-- going on behind a call of the script -/
def lw_K (p : Program) (l : Launch) (e : Env) (s : State) (m : MethodId) (below : List Frame) (meth : Method) (c : Code) (D : va_G) (B bs q0 q1 : Nat) (ad : Nat → Nat) (i : Nat) : Prop :=
  ∀ (M : hp_M) (H : Heap) (locs : List Loc) (ls : Array Slot) (σ : sg_S) (th of sl : Int32) (ct : Nat → Nat → Int32) (cl : Nat → Nat → Int64), sg_ac σ ≤ i + 1 → sw_H D M q0 σ (lw_F q1 ad) → md_H D M q1 ad th of sl ct cl → mo_R σ (fun _ => sg_sl σ - 1) of sl ct cl → sg_inv σ → sg_sei σ → hp_H D B M H → va_S (hp_ub B) s.heap H locs → lv_has ls 4 [(3, .int (nI (5 * i))), (0, .ref bs), (1, .ref q0), (2, .ref q1)] → W p l e room_1 s m #[Value.ref bs] below meth c H locs (53 + (i + 1)) (25008 + 8 * (i + 1)) (lw_Z below #[Value.ref bs] s) (F0 m 502 ls [])
/-- the reference is made beside a switch -/
theorem lw_new {D : va_G} {M M1 : hp_M} {a : Nat} {σ : sg_S} {F : Nat → Prop} (h : sw_H D M a σ (fun _ => False)) (hk : ∀ x, M x ≠ none → M1 x = M x) (hF : ∀ x, F x → M x = none ∧ M1 x ≠ none) : sw_H D M1 a σ F := by
  obtain ⟨aI, aO, fI, fO, oa, la, ip, op, sp, lp, LQ, ow, ⟨g1, g2, g3⟩, ⟨w1, w2, w3⟩, hi, hou, hf⟩ := h
  obtain ⟨ow', eo⟩ : ∃ z : Nat → Nat, z = fun x => if (M x).isNone = true then 99 else ow x := ⟨_, rfl⟩
  have ko : ∀ {x : Nat} {y : va_E}, M x = some y → ow' x = ow x ∧ M1 x = M x := fun {x y} hx => by
    refine ⟨?_, hk x (by rw [hx]; intro w; cases w)⟩
    rw [eo]
    show (if (M x).isNone = true then 99 else ow x) = ow x
    rw [hx]; rfl
  have kone : ∀ (w : Nat) (b : Option Nat) (c : Option sg_Ce), sw_one M ow w b c → sw_one M1 ow' w b c := fun w b c hb => by
    cases b with
    | none => exact (sw_one_no hb) ▸ trivial
    | some x =>
      obtain ⟨d, rfl, b1, b2⟩ := sw_one_yes hb
      obtain ⟨k1, k2⟩ := ko b1
      exact ⟨by rw [k2]; exact b1, by rw [k1]; exact b2⟩
  refine ⟨aI, aO, fI, fO, oa, la, ip, op, sp, lp, LQ, ow', ⟨by rw [(ko g1).2]; exact g1, by rw [(ko g2).2]; exact g2, by rw [(ko g3).2]; exact g3⟩, ⟨by rw [(ko g1).1]; exact w1, by rw [(ko g2).1]; exact w2, by rw [(ko g3).1]; exact w3⟩, fun j hj => ?_, fun x hx => ?_, fun x hx => ⟨?_, (hF x hx).2⟩⟩
  · obtain ⟨j1, j2, j3, j4⟩ := hi j hj
    exact ⟨j1, by rw [(ko j2).2]; exact j2, by rw [(ko j2).1]; exact j3, kone _ _ _ j4⟩
  · obtain ⟨q1, q2, q3, ⟨f, q4, q4'⟩, q5, ⟨f2, q6, q6'⟩, q7, ⟨q8, q9, q10⟩, q11⟩ := hou x hx
    have k8 : ∀ y ∈ LQ x, ow' y = ow y ∧ M1 y = M y := fun y hy => by
      obtain ⟨c, n, _, hc⟩ := sw_sg_mem q8 hy
      exact ko hc
    exact ⟨q1, by rw [(ko q2).2]; exact q2, by rw [(ko q2).1]; exact q3, ⟨f, by rw [(ko q4).2]; exact q4, q4'⟩, by rw [(ko q4).1]; exact q5, ⟨f2, by rw [(ko q6).2]; exact q6, q6'⟩, by rw [(ko q6).1]; exact q7, ⟨sw_sg_kept q8 (fun y hy => (k8 y hy).2), q9, fun y hy => by rw [(k8 y hy).1]; exact q10 y hy⟩, kone _ _ _ q11⟩
  · rw [eo]
    show (if (M x).isNone = true then 99 else ow x) = 99
    rw [(hF x hx).1]; rfl
theorem hp_0 {D : va_G} {B : Nat} {M : hp_M} {H : Heap} (hM : M = fun _ => none) (h : B ≤ H.size) : hp_H D B M H := by
  subst hM
  refine ⟨h, [], fun k q h => by simp at h, ⟨fun i j p q h => by simp at h, fun k q h => by simp at h⟩, fun a e => ⟨fun h => (by cases h), fun h => ?_⟩⟩
  obtain ⟨k, h⟩ := h
  simp at h
