/-! The reference's writes, of the relation. -/
section MO2
variable {σ : sg_S} {tk : Nat → Int32} {of sl : Int32} {ct : Nat → Nat → Int32} {cl : Nat → Nat → Int64}
theorem mo_setO (h : mo_R σ tk of sl ct cl) {o : Nat} {k : Int32} : mo_R (sg_setO σ o k) tk of sl (va_up ct 7 (upd (ct 7) o k)) cl := by
  refine ⟨h.1, h.2.1, fun x hx => ?_, h.2.2.2⟩
  obtain ⟨a1, a2, a3, a4, a5⟩ := h.2.2.1 x hx
  refine ⟨a1, ?_, a3, a4, a5⟩
  show upd (ct 7) o k x = va_up (sg_kd σ) o k x
  by_cases z : x = o
  · subst z; rw [pk_us, va_up_self]
  · rw [pk_un z, va_up_ne _ _ z]; exact a2
theorem mo_setW (h : mo_R σ tk of sl ct cl) {o g : Nat} (hg : g < 8) {w : Int32} : mo_R (sg_setW σ o g w) tk of sl (va_up ct 8 (upd (ct 8) (8 * o + g) w)) cl := by
  refine ⟨h.1, h.2.1, fun x hx => ?_, h.2.2.2⟩
  obtain ⟨a1, a2, a3, a4, a5⟩ := h.2.2.1 x hx
  refine ⟨a1, a2, fun y hy => ⟨?_, (a3 y hy).2⟩, a4, a5⟩
  show upd (ct 8) (8 * o + g) w (8 * x + y) = va_up (sg_wt σ) o (va_up (sg_wt σ o) g w) x y
  by_cases z : x = o
  · subst z
    rw [va_up_self]
    by_cases z2 : y = g
    · subst z2; rw [pk_us, va_up_self]
    · rw [pk_un (by omega), va_up_ne _ _ z2]; exact (a3 y hy).1
  · rw [pk_un (by omega), va_up_ne _ _ z]; exact (a3 y hy).1
theorem mo_offer (h : mo_R σ tk of sl ct cl) {i o g : Nat} {t : Int32} : mo_R (sg_offer σ i o g t) tk (nI (sg_ac σ + 1)) sl (va_up (va_up (va_up (va_up ct 10 (upd (ct 10) i (nI o))) 11 (upd (ct 11) i (nI g))) 12 (upd (ct 12) i t)) 13 (upd (ct 13) i of)) cl := by
  refine ⟨rfl, h.2.1, h.2.2.1, fun j hj => ?_⟩
  show mo_of (upd (ct 10) i (nI o) j) (upd (ct 11) i (nI g) j) (upd (ct 12) i t j) (upd (ct 13) i of j) (va_up (sg_of σ) i (some (i, o, g, t, sg_ac σ, 0, 0)) j)
  by_cases z : j = i
  · subst z
    rw [pk_us, pk_us, pk_us, pk_us, va_up_self]
    exact ⟨rfl, rfl, rfl, h.1⟩
  · rw [pk_un z, pk_un z, pk_un z, pk_un z, va_up_ne _ _ z]
    exact h.2.2.2 j hj
theorem sg_cnt_drop {l : List sg_Ce} {k : Nat} {c : sg_Ce} (i : Nat) (h : l.drop k = c :: l.drop (k + 1)) : sg_cnt i (l.drop k) = (if sg_ci c = i then 1 else 0) + sg_cnt i (l.drop (k + 1)) := by
  rw [h]; rfl
theorem sg_drop {l : List sg_Ce} {k : Nat} (h : k < l.length) : ∃ c, l[k]? = some c ∧ l.drop k = c :: l.drop (k + 1) ∧ c ∈ l := ⟨l[k], List.getElem?_eq_getElem h, List.drop_eq_getElem_cons h, List.getElem_mem h⟩
end MO2
/-- a fresh state's numbers -/
theorem mo_reset {σ : sg_S} {tk : Nat → Int32} {of sl : Int32} {ct ct' : Nat → Nat → Int32} {cl cl' : Nat → Nat → Int64} (h : mo_R σ tk of sl ct cl) (h1 : ∀ k, k < 8 → ct' 0 k = 0 ∧ ct' 10 k = -1 ∧ ct' 14 k = -1) (h2 : ∀ k, k < 64 → cl' 9 k = 0) (h3 : ∀ j, j ≠ 0 → j ≠ 10 → j ≠ 14 → ct' j = ct j) : mo_R (sg_reset σ) tk of sl ct' cl' := by
  refine ⟨h.1, h.2.1, fun o ho => ?_, fun i hi => (h1 i hi).2.1⟩
  obtain ⟨a1, a2, a3, a4, a5⟩ := h.2.2.1 o ho
  refine ⟨(h1 o ho).1, by rw [h3 7 (by decide) (by decide) (by decide)]; exact a2, fun g hg => ⟨by rw [h3 8 (by decide) (by decide) (by decide)]; exact (a3 g hg).1, h2 _ (by omega)⟩, fun k c hc => ?_, (h1 o ho).2.2⟩
  have hc : ([] : List sg_Ce)[k]? = some c := hc
  simp at hc
theorem mo_start {ct' : Nat → Nat → Int32} {cl' : Nat → Nat → Int64} (h1 : ∀ k, k < 8 → ct' 0 k = 0 ∧ ct' 10 k = -1 ∧ ct' 14 k = -1) (h2 : ∀ k, k < 64 → cl' 9 k = 0) (h3 : ∀ k, k < 8 → ct' 7 k = 0) (h4 : ∀ k, k < 64 → ct' 8 k = 1) : mo_R sg_0 (fun _ => 0 - 1) 0 0 ct' cl' := by
  refine ⟨rfl, rfl, fun o ho => ⟨(h1 o ho).1, h3 o ho, fun g hg => ⟨h4 _ (by omega), h2 _ (by omega)⟩, fun k c hc => ?_, (h1 o ho).2.2⟩, fun i hi => (h1 i hi).2.1⟩
  have hc : ([] : List sg_Ce)[k]? = some c := hc
  simp at hc
/-- the arrays of the reference, while it is made -/
def md_K (M0 M : hp_M) (b : Nat) (Fs : List (Nat × va_E)) : Prop := (Fs.map Prod.fst).Nodup ∧ (∀ p ∈ Fs, M p.1 = some p.2 ∧ p.1 ≠ b ∧ M0 p.1 = none) ∧ M b ≠ none ∧ ∀ x, M0 x ≠ none → x ≠ b → M x = M0 x
theorem md_k0 {M : hp_M} {b : Nat} (h : M b ≠ none) : md_K M M b [] := ⟨List.nodup_nil, fun p hp => absurd hp List.not_mem_nil, h, fun _ _ _ => rfl⟩
theorem md_kn {M0 M M1 : hp_M} {b q : Nat} {Fs : List (Nat × va_E)} {e : va_E} (h : md_K M0 M b Fs) (z : M q = none) (eM : M1 = va_up M q (some e)) : md_K M0 M1 b ((q, e) :: Fs) := by
  obtain ⟨h1, h2, h3, h4⟩ := h
  have hqb : b ≠ q := fun w => h3 (by rw [w]; exact z)
  have hq : ∀ p ∈ Fs, p.1 ≠ q := fun p hp w => by have := (h2 p hp).1; rw [w, z] at this; cases this
  have z0 : M0 q = none := by
    cases hz : M0 q with
    | none => rfl
    | some y => have := h4 q (by rw [hz]; intro w; cases w) (Ne.symm hqb); rw [z, hz] at this; cases this
  refine ⟨?_, fun p hp => ?_, by rw [eM, va_up_ne _ _ hqb]; exact h3, fun x a1 a2 => ?_⟩
  · rw [List.map_cons, List.nodup_cons]
    refine ⟨fun hx => ?_, h1⟩
    obtain ⟨p, hp, w⟩ := List.mem_map.mp hx
    exact hq p hp w
  · rcases List.mem_cons.mp hp with w | w
    · rw [w]
      exact ⟨by rw [eM]; exact va_up_self _ _ _, Ne.symm hqb, z0⟩
    · obtain ⟨b1, b2, b3⟩ := h2 p w
      exact ⟨by rw [eM, va_up_ne _ _ (hq p w)]; exact b1, b2, b3⟩
  · rw [eM, va_up_ne _ _ (fun w => a1 (by rw [w]; exact z0))]; exact h4 x a1 a2
theorem md_kp {M0 M M1 : hp_M} {b : Nat} {Fs : List (Nat × va_E)} {e : va_E} (h : md_K M0 M b Fs) (eM : M1 = va_up M b (some e)) : md_K M0 M1 b Fs := by
  obtain ⟨h1, h2, h3, h4⟩ := h
  refine ⟨h1, fun p hp => ?_, (by rw [eM, va_up_self]; intro w; cases w), fun x a1 a2 => by rw [eM, va_up_ne _ _ a2]; exact h4 x a1 a2⟩
  obtain ⟨b1, b2, b3⟩ := h2 p hp
  exact ⟨by rw [eM, va_up_ne _ _ b2]; exact b1, b2, b3⟩
theorem md_inj {L : List Nat} (h : L.Nodup) : ∀ i j, i < L.length → j < L.length → L.getD i 0 = L.getD j 0 → i = j := by
  intro i j hi hj e
  rw [List.getD_eq_getElem?_getD, List.getD_eq_getElem?_getD, List.getElem?_eq_getElem hi, List.getElem?_eq_getElem hj] at e
  have e : L[i] = L[j] := e
  exact (List.getElem?_inj hi h).mp (by rw [List.getElem?_eq_getElem hi, List.getElem?_eq_getElem hj, e])
theorem mo_em {ct1 : Nat → Nat → Int32} {k : Nat} (h : ∀ j, j < k → ct1 0 j = 0 ∧ ct1 10 j = -1 ∧ ct1 14 j = -1) : ∀ j, j < k + 1 → (va_up (va_up (va_up ct1 0 (upd (ct1 0) k 0)) 10 (upd (ct1 10) k (-1))) 14 (upd (ct1 14) k (-1))) 0 j = 0 ∧ (va_up (va_up (va_up ct1 0 (upd (ct1 0) k 0)) 10 (upd (ct1 10) k (-1))) 14 (upd (ct1 14) k (-1))) 10 j = -1 ∧ (va_up (va_up (va_up ct1 0 (upd (ct1 0) k 0)) 10 (upd (ct1 10) k (-1))) 14 (upd (ct1 14) k (-1))) 14 j = -1 := by
  intro j hj
  show upd (ct1 0) k 0 j = 0 ∧ upd (ct1 10) k (-1) j = -1 ∧ upd (ct1 14) k (-1) j = -1
  by_cases z : j = k
  · subst z; exact ⟨pk_us, pk_us, pk_us⟩
  · rw [pk_un z, pk_un z, pk_un z]; exact h j (by omega)
theorem mo_em2 {ct ct1 : Nat → Nat → Int32} {f g h : Nat → Int32} (q : ∀ j, j ≠ 0 → j ≠ 10 → j ≠ 14 → ct1 j = ct j) : ∀ j, j ≠ 0 → j ≠ 10 → j ≠ 14 → (va_up (va_up (va_up ct1 0 f) 10 g) 14 h) j = ct j := by
  intro j a1 a2 a3
  rw [va_up_ne _ _ a3, va_up_ne _ _ a2, va_up_ne _ _ a1]
  exact q j a1 a2 a3
