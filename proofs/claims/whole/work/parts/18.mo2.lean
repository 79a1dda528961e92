/-! The reference's writes, of the relation. -/
section MO2
variable {σ : sg_S} {tk : Nat → Int32} {of sl : Int32} {ct : Nat → Nat → Int32} {cl : Nat → Nat → Int64}
theorem mo_setO (h : mo_R σ tk of sl ct cl) {o : Nat} {k : Int32} : mo_R (sg_setO σ o k) tk of sl (va_up ct 7 (upd (ct 7) o k)) cl := by
  refine ⟨h.1, h.2.1, fun x hx => ?_, h.2.2.2⟩
  obtain ⟨a1, a2, a3, a4, a5⟩ := h.2.2.1 x hx
  refine ⟨a1, ?_, a3, a4, a5⟩
  show upd (ct 7) o k x = va_up (sg_kd σ) o k x
  by_cases z : x = o
  · subst z; rw [pk_us, va_up_self]
  · rw [pk_un z, va_up_ne _ _ z]; exact a2
theorem mo_setW (h : mo_R σ tk of sl ct cl) {o g : Nat} (hg : g < 8) {w : Int32} : mo_R (sg_setW σ o g w) tk of sl (va_up ct 8 (upd (ct 8) (8 * o + g) w)) cl := by
  refine ⟨h.1, h.2.1, fun x hx => ?_, h.2.2.2⟩
  obtain ⟨a1, a2, a3, a4, a5⟩ := h.2.2.1 x hx
  refine ⟨a1, a2, fun y hy => ⟨?_, (a3 y hy).2⟩, a4, a5⟩
  show upd (ct 8) (8 * o + g) w (8 * x + y) = va_up (sg_wt σ) o (va_up (sg_wt σ o) g w) x y
  by_cases z : x = o
  · subst z
    rw [va_up_self]
    by_cases z2 : y = g
    · subst z2; rw [pk_us, va_up_self]
    · rw [pk_un (by omega), va_up_ne _ _ z2]; exact (a3 y hy).1
  · rw [pk_un (by omega), va_up_ne _ _ z]; exact (a3 y hy).1
theorem mo_offer (h : mo_R σ tk of sl ct cl) {i o g : Nat} {t : Int32} : mo_R (sg_offer σ i o g t) tk (nI (sg_ac σ + 1)) sl (va_up (va_up (va_up (va_up ct 10 (upd (ct 10) i (nI o))) 11 (upd (ct 11) i (nI g))) 12 (upd (ct 12) i t)) 13 (upd (ct 13) i of)) cl := by
  refine ⟨rfl, h.2.1, h.2.2.1, fun j hj => ?_⟩
  show mo_of (upd (ct 10) i (nI o) j) (upd (ct 11) i (nI g) j) (upd (ct 12) i t j) (upd (ct 13) i of j) (va_up (sg_of σ) i (some (i, o, g, t, sg_ac σ, 0, 0)) j)
  by_cases z : j = i
  · subst z
    rw [pk_us, pk_us, pk_us, pk_us, va_up_self]
    exact ⟨rfl, rfl, rfl, h.1⟩
  · rw [pk_un z, pk_un z, pk_un z, pk_un z, va_up_ne _ _ z]
    exact h.2.2.2 j hj
theorem sg_cnt_drop {l : List sg_Ce} {k : Nat} {c : sg_Ce} (i : Nat) (h : l.drop k = c :: l.drop (k + 1)) : sg_cnt i (l.drop k) = (if sg_ci c = i then 1 else 0) + sg_cnt i (l.drop (k + 1)) := by
  rw [h]; rfl
theorem sg_drop {l : List sg_Ce} {k : Nat} (h : k < l.length) : ∃ c, l[k]? = some c ∧ l.drop k = c :: l.drop (k + 1) ∧ c ∈ l := ⟨l[k], List.getElem?_eq_getElem h, List.drop_eq_getElem_cons h, List.getElem_mem h⟩
end MO2
