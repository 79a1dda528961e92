/-! The reference's relation: what its reads give. -/
def sg_sei (σ : sg_S) : Prop := ∀ o, o < 8 → ∀ c, sg_se σ o = some c → sg_ci c < 8
theorem sg_sei_0 : sg_sei sg_0 := fun _ _ c h => by cases h
theorem sg_sei_send {σ : sg_S} (h : sg_sei σ) (hv : sg_inv σ) {n : Nat} (hn : n < 8) : sg_sei (sg_send σ n) := by
  intro o ho c hc
  cases hq : sg_qu σ n with
  | nil =>
    rw [sg_send_nil hq] at hc
    have hc : va_up (sg_se σ) n none o = some c := hc
    by_cases z : o = n
    · subst z; rw [va_up_self] at hc; cases hc
    · rw [va_up_ne _ _ z] at hc; exact h o ho c hc
  | cons d ds =>
    rw [sg_send_cons hq] at hc
    have hc : va_up (sg_se σ) n (some d) o = some c := hc
    by_cases z : o = n
    · subst z
      rw [va_up_self] at hc
      cases hc
      exact ((hv.1 o ho).2.2.2 c (by rw [hq]; exact List.mem_cons_self)).1
    · rw [va_up_ne _ _ z] at hc; exact h o ho c hc
theorem sg_sei_come {σ : sg_S} (h : sg_sei σ) (i : Nat) : sg_sei (sg_come σ i) := by
  unfold sg_come
  cases sg_of σ i with
  | none => exact h
  | some c => exact h
theorem sg_sei_comes {σ : sg_S} (h : sg_sei σ) : ∀ n, sg_sei (sg_comes σ n) := by
  intro n
  induction n with
  | zero => exact h
  | succ n ih => exact sg_sei_come ih n
theorem sg_sei_sends {σ : sg_S} (h : sg_sei σ) (hv : sg_inv σ) : ∀ {n}, n ≤ 8 → sg_sei (sg_sends σ n) := by
  intro n
  induction n with
  | zero => intro _; exact h
  | succ n ih => intro hn; exact sg_sei_send (ih (by omega)) (sg_inv_sends hv (by omega)) (by omega)
theorem sg_sei_slot {σ : sg_S} (h : sg_sei σ) (hv : sg_inv σ) : sg_sei (sg_slot σ) := sg_sei_sends (sg_sei_comes h 8) (sg_inv_comes hv (Nat.le_refl 8)) (Nat.le_refl 8)
theorem md_ix8 (o g : Nat) : (8 : Int32) * nI o + nI g = nI (8 * o + g) := by
  rw [show (8 : Int32) = nI 8 from rfl, pk_mul, nI_add]
theorem md_ix512 (o k : Nat) : (512 : Int32) * nI o + nI k = nI (512 * o + k) := by
  rw [show (512 : Int32) = nI 512 from rfl, pk_mul, nI_add]
theorem md_m1 {k : Nat} (h : k < 2 ^ 31) : ¬ nI k = -1 := by
  intro e
  have h1 := nI_toInt h
  rw [e] at h1
  have h2 : (-1 : Int32).toInt = -1 := rfl
  omega
theorem mo_hs0 {σ : sg_S} {x tk s0 s1 s2 : Int32} {c : Option sg_Ce} (h : mo_se tk s0 s1 s2 c) (hb : ∀ d, c = some d → sg_ci d < 8) (hl : sg_latest σ x = c) (e : s0 = -1) : 0 = an_hasSent σ x := by
  cases c with
  | none => exact an_hasSent_n hl
  | some d =>
    have h1 : s0 = nI (sg_ci d) := h.1
    rw [e] at h1
    exact absurd h1.symm (md_m1 (by have := hb d rfl; omega))
theorem mo_hs1 {σ : sg_S} {x tk s0 s1 s2 : Int32} {c : Option sg_Ce} (h : mo_se tk s0 s1 s2 c) (hl : sg_latest σ x = c) (e : ¬ s0 = -1) : 1 = an_hasSent σ x := by
  cases c with
  | none => exact absurd h e
  | some d => exact an_hasSent_s hl
theorem sg_lat_or (σ : sg_S) (x : Int32) : (sg_latest σ x = none) ∨ ∃ k d, k < 8 ∧ x = nI k ∧ sg_ix x = some k ∧ sg_se σ k = some d ∧ sg_latest σ x = some d := by
  rcases sg_ix_or x with h | ⟨k, h1, h2, h3⟩
  · exact Or.inl (sg_latest_n h.1)
  · cases hs : sg_se σ k with
    | none => exact Or.inl ((sg_latest_s h3).trans hs)
    | some d => exact Or.inr ⟨k, d, h1, h2, h3, hs, (sg_latest_s h3).trans hs⟩
theorem mo_seq {tk s0 s1 s2 : Int32} {c : Option sg_Ce} {d : sg_Ce} (h : mo_se tk s0 s1 s2 c) (e : c = some d) : s0 = nI (sg_ci d) ∧ s1 = sg_ct d ∧ s2 = tk - sg_cc d := by
  subst e; exact h
def an_isCell (σ : sg_S) (x k : Int32) : Int32 := match sg_kth σ x k with
  | none => 0
  | some _ => 1
theorem an_isCell_n {σ : sg_S} {x k : Int32} (h : sg_kth σ x k = none) : 0 = an_isCell σ x k := by simp only [an_isCell, h]
theorem an_isCell_s {σ : sg_S} {x k : Int32} {d : sg_Ce} (h : sg_kth σ x k = some d) : 1 = an_isCell σ x k := by simp only [an_isCell, h]
theorem sg_kth_or2 (σ : sg_S) (x k : Int32) : (sg_kth σ x k = none) ∨ ∃ o j d, o < 8 ∧ x = nI o ∧ k = nI j ∧ j < (sg_qu σ o).length ∧ (sg_qu σ o)[j]? = some d ∧ sg_kth σ x k = some d := by
  rcases sg_kth_or σ x k with h | ⟨o, _, _, h3, h4⟩ | ⟨o, j, _, _, h3, h4, h5, h6⟩ | ⟨o, j, h1, h2, h3, h4, h5, h6⟩
  · exact Or.inl (sg_kth_n h)
  · exact Or.inl (sg_kth_neg h4)
  · subst h5; exact Or.inl ((sg_kth_s h3 h4).trans (List.getElem?_eq_none h6))
  · obtain ⟨d, hd⟩ : ∃ d, (sg_qu σ o)[j]? = some d := ⟨_, List.getElem?_eq_getElem h6⟩
    subst h5
    exact Or.inr ⟨o, j, d, h1, h2, rfl, h6, hd, (sg_kth_s h3 h4).trans hd⟩
theorem mo_rw {ct : Nat → Nat → Int32} {cl : Nat → Nat → Int64} {p : Nat} {d : sg_Ce} (h : mo_row ct cl p = mo_enc d) : ct 1 p = nI (sg_ci d) ∧ ct 2 p = nI (sg_cg d) ∧ ct 3 p = sg_ct d ∧ cl 4 p = sg_cm d ∧ ct 5 p = sg_cc d ∧ ct 6 p = nI (sg_cs d) := by
  simp only [mo_row, mo_enc, Prod.mk.injEq] at h
  exact h
theorem mo_m1 {tk s0 s1 s2 s3 : Int32} {c : Option sg_Ce} (h : mo_of s0 s1 s2 s3 c) (hb : ∀ d, c = some d → sg_co d < 8) (e : s0 = -1) : c = none := by
  cases c with
  | none => rfl
  | some d =>
    have h1 : s0 = nI (sg_co d) := h.1
    rw [e] at h1
    exact absurd h1.symm (md_m1 (by have := hb d rfl; omega))
theorem mo_nm1 {s0 s1 s2 s3 : Int32} {c : Option sg_Ce} (h : mo_of s0 s1 s2 s3 c) (e : ¬ s0 = -1) : ∃ d, c = some d ∧ s0 = nI (sg_co d) ∧ s1 = nI (sg_cg d) ∧ s2 = sg_ct d ∧ s3 = nI (sg_cs d) := by
  cases c with
  | none => exact absurd h e
  | some d => exact ⟨d, rfl, h⟩
theorem mo_R_tk {σ : sg_S} {tk tk' : Nat → Int32} {of sl : Int32} {ct : Nat → Nat → Int32} {cl : Nat → Nat → Int64} (h : mo_R σ tk of sl ct cl) (e : ∀ o, o < 8 → tk o = tk' o) : mo_R σ tk' of sl ct cl := ⟨h.1, h.2.1, fun o ho => by rw [← e o ho]; exact h.2.2.1 o ho, h.2.2.2⟩
theorem an_hasSent_z (σ : sg_S) (x : Int32) : narrow .boolean (.int (an_hasSent σ x)) = .int (an_hasSent σ x) := by
  cases h : sg_latest σ x with
  | none => rw [← an_hasSent_n h]; rfl
  | some d => rw [← an_hasSent_s h]; rfl
