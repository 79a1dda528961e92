/-! What the calls do to the class's picture. -/
section SW3
variable {D : va_G} {M M1 : hp_M} {a : Nat} {σ τ : sg_S} {hh hh' : Nat → Nat} {F : Nat → Prop} {aI aO : Nat} {fI fO oa la : Nat → Option Nat} {ip op sp lp : Nat → Nat} {LQ : Nat → List Nat} {ow : Nat → Nat}
theorem sw_P_eq (h : sw_P D M a σ hh F aI aO fI fO oa la ip op sp lp LQ ow) (h1 : sg_sl σ = sg_sl τ) (h2 : sg_ac σ = sg_ac τ) (h3 : ∀ i, i < 8 → hh i = hh' i ∧ sg_of σ i = sg_of τ i) (h4 : ∀ o, o < 8 → sg_kd σ o = sg_kd τ o ∧ sg_wt σ o = sg_wt τ o ∧ sg_lt σ o = sg_lt τ o ∧ sg_qu σ o = sg_qu τ o ∧ sg_se σ o = sg_se τ o) : sw_P D M a τ hh' F aI aO fI fO oa la ip op sp lp LQ ow := by
  obtain ⟨⟨g1, g2, g3⟩, hw, hi, ho, hf⟩ := h
  refine ⟨⟨by rw [← h1, ← h2]; exact g1, g2, g3⟩, hw, fun i q => ?_, fun o q => ?_, hf⟩
  · rw [← (h3 i q).1, ← (h3 i q).2]; exact hi i q
  · obtain ⟨e1, e2, e3, e4, e5⟩ := h4 o q
    rw [← e1, ← e2, ← e3, ← e4, ← e5]; exact ho o q
/-- a change of cells of colours that one output has, the colours staying -/
theorem sw_P_out (h : sw_P D M a σ hh F aI aO fI fO oa la ip op sp lp LQ ow) {o : Nat} (ho : o < 8) (hk : ∀ x, ow x ≠ o → ow x ≠ 16 + o → ow x ≠ 32 + o → ow x ≠ 40 + o → ow x ≠ 48 + o → M1 x = M x) (h1 : sg_sl σ = sg_sl τ) (h2 : sg_ac σ = sg_ac τ) (h3 : ∀ i, i < 8 → sg_of σ i = sg_of τ i) (h4 : ∀ x, x < 8 → x ≠ o → sg_kd σ x = sg_kd τ x ∧ sg_wt σ x = sg_wt τ x ∧ sg_lt σ x = sg_lt τ x ∧ sg_qu σ x = sg_qu τ x ∧ sg_se σ x = sg_se τ x) {la' : Nat → Option Nat} {LQ' : Nat → List Nat} (hla : ∀ x, x ≠ o → la' x = la x) (hLQ : ∀ x, x ≠ o → LQ' x = LQ x) (hn : sw_Ou D M1 ow fO la' op sp lp LQ' o (sg_kd τ o) (sg_wt τ o) (sg_lt τ o) (sg_qu τ o) (sg_se τ o)) : sw_P D M1 a τ hh F aI aO fI fO oa la' ip op sp lp LQ' ow ∧ sw_fr F M M1 := by
  obtain ⟨⟨g1, g2, g3⟩, ⟨w1, w2, w3⟩, hi, hou, hf⟩ := h
  have kf : ∀ x, F x → M1 x = M x := fun x hx => by
    have := (hf x hx).1
    exact hk x (by omega) (by omega) (by omega) (by omega) (by omega)
  refine ⟨⟨⟨?_, ?_, ?_⟩, ⟨w1, w2, w3⟩, fun i q => ?_, fun x q => ?_, fun x hx => ⟨(hf x hx).1, by rw [kf x hx]; exact (hf x hx).2⟩⟩, kf⟩
  · rw [hk a (by omega) (by omega) (by omega) (by omega) (by omega), ← h1, ← h2]; exact g1
  · rw [hk aI (by omega) (by omega) (by omega) (by omega) (by omega)]; exact g2
  · rw [hk aO (by omega) (by omega) (by omega) (by omega) (by omega)]; exact g3
  · rw [← h3 i q]
    exact sw_In_kept (hi i q) (fun x hx => ⟨rfl, hk x (by omega) (by omega) (by omega) (by omega) (by omega)⟩)
  · by_cases z : x = o
    · subst z; exact hn
    · obtain ⟨e1, e2, e3, e4, e5⟩ := h4 x q z
      rw [← e1, ← e2, ← e3, ← e4, ← e5]
      exact sw_Ou_kept (hou x q) (fun y hy => ⟨rfl, hk y (by omega) (by omega) (by omega) (by omega) (by omega)⟩) (hla x z) (hLQ x z)
theorem sw_do_setO (h : sw_P D M a σ hh F aI aO fI fO oa la ip op sp lp LQ ow) {o : Nat} (ho : o < 8) {k : Int32} (e : M1 = va_up M (op o) (some (sw_o k (sp o) (lp o) (sw_hd (LQ o) none) (nI (sg_qu σ o).length) (la o)))) : sw_P D M1 a (sg_setO σ o k) hh F aI aO fI fO oa la ip op sp lp LQ ow ∧ sw_fr F M M1 := by
  obtain ⟨q1, q2, q3, ⟨f, q4, q4'⟩, q5, ⟨f2, q6, q6'⟩, q7, ⟨q8, q9, q10⟩, q11⟩ := h.2.2.2.1 o ho
  have k0 : ∀ x, ow x ≠ 32 + o → M1 x = M x := fun x hx => by rw [e, va_up_ne _ _ (fun z => hx (by rw [z]; exact q3))]
  refine sw_P_out (τ := sg_setO σ o k) (la' := la) (LQ' := LQ) h ho (fun x _ _ a3 _ _ => k0 x a3) rfl rfl (fun _ _ => rfl) (fun x _ hx => ⟨?_, rfl, rfl, rfl, rfl⟩) (fun _ _ => rfl) (fun _ _ => rfl) ?_
  · show _ = va_up (sg_kd σ) o k x
    rw [va_up_ne _ _ hx]
  · show sw_Ou D M1 ow fO la op sp lp LQ o (va_up (sg_kd σ) o k o) (sg_wt σ o) (sg_lt σ o) (sg_qu σ o) (sg_se σ o)
    rw [va_up_self]
    exact ⟨q1, by rw [e]; exact va_up_self _ _ _, q3, ⟨f, by rw [k0 _ (by omega)]; exact q4, q4'⟩, q5, ⟨f2, by rw [k0 _ (by omega)]; exact q6, q6'⟩, q7, ⟨sw_sg_kept q8 (fun x hx => k0 x (by have := q10 x hx; omega)), q9, q10⟩, sw_one_kept q11 (fun x hx => ⟨rfl, k0 x (by omega)⟩)⟩
theorem sw_do_setW (h : sw_P D M a σ hh F aI aO fI fO oa la ip op sp lp LQ ow) {o g : Nat} (ho : o < 8) (hg : g < 8) {w : Int32} {f : Nat → Int32} (hf : M (sp o) = some (hp_ai D 8 f)) (hf' : ∀ j, j < 8 → f j = sg_step (sg_wt σ o j)) (e : M1 = va_up M (sp o) (some (hp_ai D 8 (upd f g (sg_step w))))) : sw_P D M1 a (sg_setW σ o g w) hh F aI aO fI fO oa la ip op sp lp LQ ow ∧ sw_fr F M M1 := by
  obtain ⟨q1, q2, q3, ⟨f1, q4, q4'⟩, q5, ⟨f2, q6, q6'⟩, q7, ⟨q8, q9, q10⟩, q11⟩ := h.2.2.2.1 o ho
  have k0 : ∀ x, ow x ≠ 40 + o → M1 x = M x := fun x hx => by rw [e, va_up_ne _ _ (fun z => hx (by rw [z]; exact q5))]
  refine sw_P_out (τ := sg_setW σ o g w) (la' := la) (LQ' := LQ) h ho (fun x _ _ _ a4 _ => k0 x a4) rfl rfl (fun _ _ => rfl) (fun x _ hx => ⟨rfl, ?_, rfl, rfl, rfl⟩) (fun _ _ => rfl) (fun _ _ => rfl) ?_
  · show _ = va_up (sg_wt σ) o (va_up (sg_wt σ o) g w) x
    rw [va_up_ne _ _ hx]
  · show sw_Ou D M1 ow fO la op sp lp LQ o (sg_kd σ o) (va_up (sg_wt σ) o (va_up (sg_wt σ o) g w) o) (sg_lt σ o) (sg_qu σ o) (sg_se σ o)
    rw [va_up_self]
    refine ⟨q1, by rw [k0 _ (by omega)]; exact q2, q3, ⟨_, by rw [e]; exact va_up_self _ _ _, fun j hj => ?_⟩, q5, ⟨f2, by rw [k0 _ (by omega)]; exact q6, q6'⟩, q7, ⟨sw_sg_kept q8 (fun x hx => k0 x (by have := q10 x hx; omega)), q9, q10⟩, sw_one_kept q11 (fun x hx => ⟨rfl, k0 x (by omega)⟩)⟩
    by_cases z : j = g
    · subst z; rw [pk_us, va_up_self]
    · rw [pk_un z, va_up_ne _ _ z]; exact hf' j hj
/-- an offer: a fresh cell q -/
theorem sw_do_offer (h : sw_P D M a σ hh F aI aO fI fO oa la ip op sp lp LQ ow) {i o g : Nat} (hi8 : i < 8) {t : Int32} {q : Nat} (hq : M q = none) (e : M1 = va_up (va_up (va_up M q (some (sw_c (i, o, g, t, sg_ac σ, 0, 0) none))) (ip i) (some (sw_i (some q) (nI (hh i + 1))))) a (some (sw_s aI aO (sg_sl σ) (lN (sg_ac σ + 1))))) : sw_P D M1 a (sg_offer σ i o g t) (va_up hh i (hh i + 1)) F aI aO fI fO (va_up oa i (some q)) la ip op sp lp LQ (va_up ow q (8 + i)) ∧ sw_fr F M M1 := by
  obtain ⟨⟨g1, g2, g3⟩, ⟨w1, w2, w3⟩, hi, hou, hf⟩ := h
  obtain ⟨i1, i2, i3, i4⟩ := hi i hi8
  have ne : ∀ x, M x ≠ none → x ≠ q := fun x hx z => hx (by rw [z]; exact hq)
  have na : a ≠ ip i := fun z => by rw [z] at w1; omega
  have nq : ip i ≠ q := ne _ (by rw [i2]; intro z; cases z)
  have nqa : a ≠ q := ne _ (by rw [g1]; intro z; cases z)
  have k0 : ∀ x, M x ≠ none → ow x ≠ 24 + i → ow x ≠ 56 → va_up ow q (8 + i) x = ow x ∧ M1 x = M x := fun x h1 h2 h3 => by
    refine ⟨va_up_ne _ _ (ne x h1), ?_⟩
    rw [e, va_up_ne _ _ (fun z => h3 (by rw [z]; exact w1)), va_up_ne _ _ (fun z => h2 (by rw [z]; exact i3)), va_up_ne _ _ (ne x h1)]
  have hsome : ∀ {x : Nat} {y : va_E}, M x = some y → M x ≠ none := fun hx z => by rw [hx] at z; cases z
  have kf : ∀ x, F x → va_up ow q (8 + i) x = ow x ∧ M1 x = M x := fun x hx => k0 x (hf x hx).2 (by have := (hf x hx).1; omega) (by have := (hf x hx).1; omega)
  have kone : ∀ (w : Nat) (b : Option Nat) (c : Option sg_Ce), w ≠ 24 + i → w ≠ 56 → sw_one M ow w b c → sw_one M1 (va_up ow q (8 + i)) w b c := fun w b c a1 a2 hb => by
    cases b with
    | none => exact (sw_one_no hb) ▸ trivial
    | some x =>
      obtain ⟨d, rfl, b1, b2⟩ := sw_one_yes hb
      obtain ⟨k1, k2⟩ := k0 x (hsome b1) (by omega) (by omega)
      exact ⟨by rw [k2]; exact b1, by rw [k1]; exact b2⟩
  refine ⟨⟨⟨?_, ?_, ?_⟩, ⟨?_, ?_, ?_⟩, fun j hj => ?_, fun x hx => ?_, fun x hx => ?_⟩, fun x hx => (kf x hx).2⟩
  · rw [e]; exact va_up_self _ _ _
  · rw [(k0 aI (hsome g2) (by omega) (by omega)).2]; exact g2
  · rw [(k0 aO (hsome g3) (by omega) (by omega)).2]; exact g3
  · rw [va_up_ne _ _ nqa]; exact w1
  · rw [(k0 aI (hsome g2) (by omega) (by omega)).1]; exact w2
  · rw [(k0 aO (hsome g3) (by omega) (by omega)).1]; exact w3
  · show sw_In M1 (va_up ow q (8 + i)) fI (va_up oa i (some q)) ip j (va_up hh i (hh i + 1) j) (va_up (sg_of σ) i (some (i, o, g, t, sg_ac σ, 0, 0)) j)
    by_cases z : j = i
    · subst z
      unfold sw_In
      rw [va_up_self, va_up_self, va_up_self]
      refine ⟨i1, ?_, by rw [va_up_ne _ _ nq]; exact i3, ?_, va_up_self _ _ _⟩
      · rw [e, va_up_ne _ _ (Ne.symm na)]; exact va_up_self _ _ _
      · rw [e, va_up_ne _ _ (Ne.symm nqa), va_up_ne _ _ (Ne.symm nq)]; exact va_up_self _ _ _
    · obtain ⟨j1, j2, j3, j4⟩ := hi j hj
      unfold sw_In
      rw [va_up_ne _ _ z, va_up_ne _ _ z, va_up_ne _ _ z]
      obtain ⟨k1, k2⟩ := k0 (ip j) (hsome j2) (by omega) (by omega)
      exact ⟨j1, by rw [k2]; exact j2, by rw [k1]; exact j3, kone _ _ _ (by omega) (by omega) j4⟩
  · obtain ⟨q1, q2, q3, ⟨f, q4, q4'⟩, q5, ⟨f2, q6, q6'⟩, q7, ⟨q8, q9, q10⟩, q11⟩ := hou x hx
    have k3 := k0 _ (hsome q2) (by omega) (by omega)
    have k5 := k0 _ (hsome q4) (by omega) (by omega)
    have k7 := k0 _ (hsome q6) (by omega) (by omega)
    have k8 : ∀ y ∈ LQ x, va_up ow q (8 + i) y = ow y ∧ M1 y = M y := fun y hy => by
      obtain ⟨c, n, _, hc⟩ := sw_sg_mem q8 hy
      exact k0 y (hsome hc) (by have := q10 y hy; omega) (by have := q10 y hy; omega)
    refine ⟨q1, by rw [k3.2]; exact q2, by rw [k3.1]; exact q3, ⟨f, by rw [k5.2]; exact q4, q4'⟩, by rw [k5.1]; exact q5, ⟨f2, by rw [k7.2]; exact q6, q6'⟩, by rw [k7.1]; exact q7, ⟨sw_sg_kept q8 (fun y hy => (k8 y hy).2), q9, fun y hy => by rw [(k8 y hy).1]; exact q10 y hy⟩, kone _ _ _ (by omega) (by omega) q11⟩
  · obtain ⟨k1, k2⟩ := kf x hx
    exact ⟨by rw [k1]; exact (hf x hx).1, by rw [k2]; exact (hf x hx).2⟩
end SW3
