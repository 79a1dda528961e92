/-! THE REFERENCE'S PICTURE: the object b, its seventeen arrays ad 0 .. ad 16 (many, inputs, classes, tags, times, came, accepted, kinds, weights, lastTimes, offeredTo, offeredClass, offeredTag, offeredAs, sentInput, sentTag, sentWait), what they hold: ct j, of longs cl j. -/
def md_n (j : Nat) : Nat := if j = 0 then 8 else if j ≤ 6 then 4096 else if j = 7 then 8 else if j ≤ 9 then 64 else 8
abbrev md_F (ad : Nat → Nat) (th of sl : Int32) : List Value := [.int th, .ref (ad 0), .ref (ad 1), .ref (ad 2), .ref (ad 3), .ref (ad 4), .ref (ad 5), .ref (ad 6), .ref (ad 7), .ref (ad 8), .ref (ad 9), .ref (ad 10), .ref (ad 11), .ref (ad 12), .ref (ad 13), .int of, .int sl, .ref (ad 14), .ref (ad 15), .ref (ad 16)]
def md_H (D : va_G) (M : hp_M) (b : Nat) (ad : Nat → Nat) (th of sl : Int32) (ct : Nat → Nat → Int32) (cl : Nat → Nat → Int64) : Prop :=
  M b = some (.inr (ix_md, md_F ad th of sl)) ∧ (∀ j, j < 17 → j ≠ 4 → j ≠ 9 → M (ad j) = some (hp_ai D (md_n j) (ct j))) ∧ (∀ j, j = 4 ∨ j = 9 → M (ad j) = some (hp_al D (md_n j) (cl j))) ∧ ∀ i j, i < 17 → j < 17 → ad i = ad j → i = j
/-- what isn't the reference's has not changed -/
def md_fr (b : Nat) (ad : Nat → Nat) (M M' : hp_M) : Prop := ∀ x, x ≠ b → (∀ j, j < 17 → x ≠ ad j) → M' x = M x
theorem md_fr_rf {b : Nat} {ad : Nat → Nat} {M : hp_M} : md_fr b ad M M := fun _ _ _ => rfl
theorem md_fr_tr {b : Nat} {ad : Nat → Nat} {M M' M'' : hp_M} (h : md_fr b ad M M') (h' : md_fr b ad M' M'') : md_fr b ad M M'' := fun x h1 h2 => (h' x h1 h2).trans (h x h1 h2)
theorem md_fr_b {b : Nat} {ad : Nat → Nat} {M M0 M1 : hp_M} {e : va_E} (h : md_fr b ad M0 M) (e1 : M1 = va_up M b (some e)) : md_fr b ad M0 M1 := fun x h1 h2 => by rw [e1, va_up_ne _ _ h1]; exact h x h1 h2
theorem md_fr_a {b : Nat} {ad : Nat → Nat} {M M0 M1 : hp_M} {e : va_E} {j : Nat} (hj : j < 17) (h : md_fr b ad M0 M) (e1 : M1 = va_up M (ad j) (some e)) : md_fr b ad M0 M1 := fun x h1 h2 => by rw [e1, va_up_ne _ _ (h2 j hj)]; exact h x h1 h2
section MD
variable {D : va_G} {M M1 : hp_M} {b : Nat} {ad : Nat → Nat} {th of sl : Int32} {ct : Nat → Nat → Int32} {cl : Nat → Nat → Int64}
theorem md_ne_b (h : md_H D M b ad th of sl ct cl) {j : Nat} (hj : j < 17) : ad j ≠ b := by
  intro e
  by_cases h4 : j = 4 ∨ j = 9
  · have := h.2.2.1 j h4
    rw [e, h.1] at this
    cases this
  · have := h.2.1 j hj (fun q => h4 (Or.inl q)) (fun q => h4 (Or.inr q))
    rw [e, h.1] at this
    cases this
theorem md_pb (h : md_H D M b ad th of sl ct cl) {th' of' sl' : Int32} (e : M1 = va_up M b (some (.inr (ix_md, md_F ad th' of' sl')))) : md_H D M1 b ad th' of' sl' ct cl := by
  subst e
  refine ⟨va_up_self _ _ _, fun j h1 h2 h3 => ?_, fun j h1 => ?_, h.2.2.2⟩
  · rw [va_up_ne _ _ (md_ne_b h h1)]; exact h.2.1 j h1 h2 h3
  · rw [va_up_ne _ _ (md_ne_b h (by omega))]; exact h.2.2.1 j h1
theorem md_pi (h : md_H D M b ad th of sl ct cl) {j : Nat} (hj : j < 17) (h4 : j ≠ 4) (h9 : j ≠ 9) {f : Nat → Int32} (e : M1 = va_up M (ad j) (some (hp_ai D (md_n j) f))) : md_H D M1 b ad th of sl (va_up ct j f) cl := by
  subst e
  refine ⟨?_, fun k h1 h2 h3 => ?_, fun k h1 => ?_, h.2.2.2⟩
  · rw [va_up_ne _ _ (md_ne_b h hj).symm]; exact h.1
  · by_cases q : k = j
    · subst q; rw [va_up_self, va_up_self]
    · rw [va_up_ne _ _ (fun z => q (h.2.2.2 k j h1 hj z)), va_up_ne _ _ q]; exact h.2.1 k h1 h2 h3
  · rw [va_up_ne _ _ (fun z => by have := h.2.2.2 k j (by omega) hj z; omega)]; exact h.2.2.1 k h1
theorem md_pl (h : md_H D M b ad th of sl ct cl) {j : Nat} (hj : j = 4 ∨ j = 9) {f : Nat → Int64} (e : M1 = va_up M (ad j) (some (hp_al D (md_n j) f))) : md_H D M1 b ad th of sl ct (va_up cl j f) := by
  subst e
  refine ⟨?_, fun k h1 h2 h3 => ?_, fun k h1 => ?_, h.2.2.2⟩
  · rw [va_up_ne _ _ (md_ne_b h (by omega)).symm]; exact h.1
  · rw [va_up_ne _ _ (fun z => by have := h.2.2.2 k j (by omega) (by omega) z; omega)]; exact h.2.1 k h1 h2 h3
  · by_cases q : k = j
    · subst q; rw [va_up_self, va_up_self]
    · rw [va_up_ne _ _ (fun z => q (h.2.2.2 k j (by omega) (by omega) z)), va_up_ne _ _ q]; exact h.2.2.1 k h1
end MD
/-- a row of the six tables of cells -/
abbrev mo_row (ct : Nat → Nat → Int32) (cl : Nat → Nat → Int64) (p : Nat) : Int32 × Int32 × Int32 × Int64 × Int32 × Int32 := (ct 1 p, ct 2 p, ct 3 p, cl 4 p, ct 5 p, ct 6 p)
abbrev mo_enc (c : sg_Ce) : Int32 × Int32 × Int32 × Int64 × Int32 × Int32 := (nI (sg_ci c), nI (sg_cg c), sg_ct c, sg_cm c, sg_cc c, nI (sg_cs c))
def mo_se (tk s0 s1 s2 : Int32) (c : Option sg_Ce) : Prop := match c with
  | none => s0 = -1
  | some c => s0 = nI (sg_ci c) ∧ s1 = sg_ct c ∧ s2 = tk - sg_cc c
def mo_of (a0 a1 a2 a3 : Int32) (c : Option sg_Ce) : Prop := match c with
  | none => a0 = -1
  | some c => a0 = nI (sg_co c) ∧ a1 = nI (sg_cg c) ∧ a2 = sg_ct c ∧ a3 = nI (sg_cs c)
def mo_ou (ct : Nat → Nat → Int32) (cl : Nat → Nat → Int64) (o : Nat) (tk kd : Int32) (wt : Nat → Int32) (lt : Nat → Int64) (qu : List sg_Ce) (se : Option sg_Ce) : Prop :=
  ct 0 o = nI qu.length ∧ ct 7 o = kd ∧ (∀ g, g < 8 → ct 8 (8 * o + g) = wt g ∧ cl 9 (8 * o + g) = lt g) ∧ (∀ k c, qu[k]? = some c → mo_row ct cl (512 * o + k) = mo_enc c) ∧ mo_se tk (ct 14 o) (ct 15 o) (ct 16 o) se
/-- the reference holds σ -/
def mo_R (σ : sg_S) (tk : Nat → Int32) (of sl : Int32) (ct : Nat → Nat → Int32) (cl : Nat → Nat → Int64) : Prop :=
  of = nI (sg_ac σ) ∧ sl = sg_sl σ ∧ (∀ o, o < 8 → mo_ou ct cl o (tk o) (sg_kd σ o) (sg_wt σ o) (sg_lt σ o) (sg_qu σ o) (sg_se σ o)) ∧ ∀ i, i < 8 → mo_of (ct 10 i) (ct 11 i) (ct 12 i) (ct 13 i) (sg_of σ i)
