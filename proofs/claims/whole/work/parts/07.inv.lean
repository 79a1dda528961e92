/-! The invariant is kept. -/
theorem sg_inv_0 : sg_inv sg_0 := by
  refine ⟨fun o _ => ⟨Or.inl rfl, sg_ord_nil _, List.nodup_nil, fun c hc => absurd hc List.not_mem_nil⟩, fun i _ => ⟨?_, fun c hc => by cases hc⟩, ⟨fun _ => 0, fun o _ c hc => absurd hc List.not_mem_nil, fun i _ c hc => by cases hc⟩, fun o g _ _ => by show (1 : Int32) ≠ 0; decide, ?_⟩
  · show 0 + sg_sum (fun _ => 0) 8 ≤ 64
    decide
  · show sg_sum (fun _ => 0) 8 + sg_sum (fun _ => 0) 8 ≤ 0
    decide
theorem sg_inv_setO {σ : sg_S} {o : Nat} {k : Int32} (h : sg_inv σ) (hk : k = 0 ∨ k = 1 ∨ k = 2) (hq : sg_qu σ o = []) : sg_inv (sg_setO σ o k) := by
  obtain ⟨h1, h2, h3, h4, h5⟩ := h
  refine ⟨fun x hx => ?_, h2, h3, h4, h5⟩
  obtain ⟨a1, a2, a3, a4⟩ := h1 x hx
  show (va_up (sg_kd σ) o k x = 0 ∨ va_up (sg_kd σ) o k x = 1 ∨ va_up (sg_kd σ) o k x = 2) ∧ sg_ord (va_up (sg_kd σ) o k x) (sg_qu σ x) ∧ _ ∧ _
  by_cases e : x = o
  · subst e
    rw [va_up_self, hq]
    exact ⟨hk, sg_ord_nil _, by show ((sg_qu σ x).map sg_cs).Nodup; rw [hq]; exact List.nodup_nil, fun c hc => by have hc : c ∈ sg_qu σ x := hc; rw [hq] at hc; exact absurd hc List.not_mem_nil⟩
  · rw [va_up_ne _ _ e]
    exact ⟨a1, a2, a3, a4⟩
theorem sg_inv_setW {σ : sg_S} {o g : Nat} {w : Int32} (h : sg_inv σ) (hw : w ≠ 0) : sg_inv (sg_setW σ o g w) := by
  obtain ⟨h1, h2, h3, h4, h5⟩ := h
  refine ⟨h1, h2, h3, fun x y hx hy => ?_, h5⟩
  show va_up (sg_wt σ) o (va_up (sg_wt σ o) g w) x y ≠ 0
  by_cases e : x = o
  · subst e
    rw [va_up_self]
    by_cases e2 : y = g
    · subst e2; rw [va_up_self]; exact hw
    · rw [va_up_ne _ _ e2]; exact h4 x y hx hy
  · rw [va_up_ne _ _ e]; exact h4 x y hx hy
theorem sg_inv_tick {σ : sg_S} (h : sg_inv σ) (t : Int32) : sg_inv (sg_kd σ, sg_wt σ, sg_lt σ, sg_qu σ, sg_of σ, t, sg_ac σ, sg_se σ) := h
theorem sg_held_offer {σ : sg_S} {i o g : Nat} {t : Int32} (hn : sg_of σ i = none) (j : Nat) : sg_held (sg_offer σ i o g t) j = sg_held σ j + (if j = i then 1 else 0) := by
  show sg_o1 (va_up (sg_of σ) i _ j) + sg_sum (fun o => sg_cnt j (sg_qu σ o)) 8 = sg_o1 (sg_of σ j) + sg_sum (fun o => sg_cnt j (sg_qu σ o)) 8 + _
  by_cases e : j = i
  · subst e
    rw [va_up_self, hn, if_pos rfl]
    show 1 + _ = 0 + _ + 1
    omega
  · rw [va_up_ne _ _ e, if_neg e]
    omega
theorem sg_inv_offer {σ : sg_S} {i o g : Nat} {t : Int32} (h : sg_inv σ) (hi : i < 8) (ho : o < 8) (hg : g < 8) (hn : sg_of σ i = none) (hh : sg_held σ i < 64) : sg_inv (sg_offer σ i o g t) := by
  obtain ⟨h1, h2, ⟨w, h3, h3'⟩, h4, h5⟩ := h
  refine ⟨fun x hx => ?_, fun j hj => ⟨?_, fun c hc => ?_⟩, ⟨va_up w (sg_ac σ) (8 + i), fun x hx c hc => ?_, fun j hj c hc => ?_⟩, h4, ?_⟩
  · obtain ⟨a1, a2, a3, a4⟩ := h1 x hx
    exact ⟨a1, a2, a3, fun c hc => ⟨(a4 c hc).1, (a4 c hc).2.1, (a4 c hc).2.2.1, Nat.lt_succ_of_lt (a4 c hc).2.2.2⟩⟩
  · rw [sg_held_offer hn]
    have := (h2 j hj).1
    by_cases e : j = i
    · subst e; rw [if_pos rfl]; omega
    · rw [if_neg e]; omega
  · have hc : va_up (sg_of σ) i (some (i, o, g, t, sg_ac σ, 0, 0)) j = some c := hc
    by_cases e : j = i
    · subst e
      rw [va_up_self] at hc
      cases hc
      exact ⟨rfl, ho, hg, Nat.lt_succ_self _, rfl, rfl⟩
    · rw [va_up_ne _ _ e] at hc
      obtain ⟨b1, b2, b3, b4, b5⟩ := (h2 j hj).2 c hc
      exact ⟨b1, b2, b3, Nat.lt_succ_of_lt b4, b5⟩
  · have := ((h1 x hx).2.2.2 c hc).2.2.2
    rw [va_up_ne _ _ (by omega)]
    exact h3 x hx c hc
  · have hc : va_up (sg_of σ) i (some (i, o, g, t, sg_ac σ, 0, 0)) j = some c := hc
    by_cases e : j = i
    · subst e
      rw [va_up_self] at hc
      cases hc
      exact va_up_self _ _ _
    · rw [va_up_ne _ _ e] at hc
      have := ((h2 j hj).2 c hc).2.2.2.1
      rw [va_up_ne _ _ (by omega)]
      exact h3' j hj c hc
  · show sg_sum (fun j => sg_o1 (va_up (sg_of σ) i (some (i, o, g, t, sg_ac σ, 0, 0)) j)) 8 + sg_sum (fun o => (sg_qu σ o).length) 8 ≤ sg_ac σ + 1
    have e := sg_sum_up (f := fun j => sg_o1 (sg_of σ j)) (g := fun j => sg_o1 (va_up (sg_of σ) i (some (i, o, g, t, sg_ac σ, 0, 0)) j)) (o := i) (fun k hk => by show sg_o1 (va_up _ _ _ k) = _; rw [va_up_ne _ _ hk]) hi
    have e1 : sg_o1 (sg_of σ i) = 0 := by rw [hn]; rfl
    have e2 : sg_o1 (va_up (sg_of σ) i (some (i, o, g, t, sg_ac σ, 0, 0)) i) = 1 := by rw [va_up_self]; rfl
    have h5 : sg_sum (fun i => sg_o1 (sg_of σ i)) 8 + sg_sum (fun o => (sg_qu σ o).length) 8 ≤ sg_ac σ := h5
    try dsimp only at e
    omega
theorem sg_held_come1 {σ : sg_S} {i : Nat} {c : sg_Ce} (hc : sg_of σ i = some c) (hi : sg_ci c = i) (ho : sg_co c < 8) (j : Nat) : sg_held (sg_come1 σ i c) j = sg_held σ j := by
  show sg_o1 (va_up (sg_of σ) i none j) + sg_sum (fun o => sg_cnt j (va_up (sg_qu σ) (sg_co c) (sg_ins (sg_kd σ (sg_co c)) (sg_cell σ c) (sg_qu σ (sg_co c))) o)) 8 = sg_o1 (sg_of σ j) + sg_sum (fun o => sg_cnt j (sg_qu σ o)) 8
  have e := sg_sum_up (f := fun o => sg_cnt j (sg_qu σ o)) (g := fun o => sg_cnt j (va_up (sg_qu σ) (sg_co c) (sg_ins (sg_kd σ (sg_co c)) (sg_cell σ c) (sg_qu σ (sg_co c))) o)) (o := sg_co c) (fun k hk => by show sg_cnt j (va_up _ _ _ k) = _; rw [va_up_ne _ _ hk]) ho
  try dsimp only at e
  rw [va_up_self, sg_cnt_ins] at e
  have e3 : sg_ci (sg_cell σ c) = i := hi
  rw [e3] at e
  by_cases q : j = i
  · subst q
    rw [va_up_self, hc]
    rw [if_pos rfl] at e
    show 0 + _ = 1 + _
    omega
  · rw [va_up_ne _ _ q]
    rw [if_neg (fun z => q z.symm)] at e
    omega
theorem sg_inv_come1 {σ : sg_S} {i : Nat} {c : sg_Ce} (h : sg_inv σ) (hi : i < 8) (hc : sg_of σ i = some c) : sg_inv (sg_come1 σ i c) := by
  obtain ⟨h1, h2, ⟨w, h3, h3'⟩, h4, h5⟩ := h
  obtain ⟨c1, c2, c3, c4, c5, c6⟩ := (h2 i hi).2 c hc
  have hw : w (sg_cs c) = 8 + i := h3' i hi c hc
  have hq : ∀ x, x < 8 → ∀ d ∈ sg_qu σ x, sg_cs d ≠ sg_cs c := fun x hx d hd e => by
    have := h3 x hx d hd
    rw [e, hw] at this
    omega
  refine ⟨fun x hx => ?_, fun j hj => ⟨?_, fun d hd => ?_⟩, ⟨va_up w (sg_cs c) (sg_co c), fun x hx d hd => ?_, fun j hj d hd => ?_⟩, h4, ?_⟩
  · obtain ⟨a1, a2, a3, a4⟩ := h1 x hx
    refine ⟨a1, ?_⟩
    show sg_ord (sg_kd σ x) (va_up (sg_qu σ) (sg_co c) (sg_ins (sg_kd σ (sg_co c)) (sg_cell σ c) (sg_qu σ (sg_co c))) x) ∧ ((va_up (sg_qu σ) (sg_co c) (sg_ins (sg_kd σ (sg_co c)) (sg_cell σ c) (sg_qu σ (sg_co c))) x).map sg_cs).Nodup ∧ ∀ d ∈ va_up (sg_qu σ) (sg_co c) (sg_ins (sg_kd σ (sg_co c)) (sg_cell σ c) (sg_qu σ (sg_co c))) x, sg_ci d < 8 ∧ sg_co d = x ∧ sg_cg d < 8 ∧ sg_cs d < sg_ac σ
    by_cases e : x = sg_co c
    · subst e
      rw [va_up_self]
      refine ⟨sg_ins_ord a2, sg_ins_nodup a3 (hq _ hx), fun d hd => ?_⟩
      rcases sg_ins_mem.mp hd with q | q
      · rw [q]
        exact ⟨by show sg_ci c < 8; rw [c1]; exact hi, rfl, c3, c4⟩
      · exact a4 d q
    · rw [va_up_ne _ _ e]
      exact ⟨a2, a3, a4⟩
  · rw [sg_held_come1 hc c1 c2]
    exact (h2 j hj).1
  · have hd : va_up (sg_of σ) i none j = some d := hd
    by_cases e : j = i
    · subst e; rw [va_up_self] at hd; cases hd
    · rw [va_up_ne _ _ e] at hd
      exact (h2 j hj).2 d hd
  · have hd : d ∈ va_up (sg_qu σ) (sg_co c) (sg_ins (sg_kd σ (sg_co c)) (sg_cell σ c) (sg_qu σ (sg_co c))) x := hd
    by_cases e : x = sg_co c
    · rw [e, va_up_self] at hd
      rcases sg_ins_mem.mp hd with q | q
      · rw [q, e]; exact va_up_self _ _ _
      · rw [va_up_ne _ _ (hq _ c2 d q), e]; exact h3 _ c2 d q
    · rw [va_up_ne _ _ e] at hd
      rw [va_up_ne _ _ (hq x hx d hd)]
      exact h3 x hx d hd
  · have hd : va_up (sg_of σ) i none j = some d := hd
    by_cases e : j = i
    · subst e; rw [va_up_self] at hd; cases hd
    · rw [va_up_ne _ _ e] at hd
      have h6 := h3' j hj d hd
      rw [va_up_ne _ _ (fun q => by rw [q, hw] at h6; omega)]
      exact h6
  · show sg_sum (fun j => sg_o1 (va_up (sg_of σ) i none j)) 8 + sg_sum (fun o => (va_up (sg_qu σ) (sg_co c) (sg_ins (sg_kd σ (sg_co c)) (sg_cell σ c) (sg_qu σ (sg_co c))) o).length) 8 ≤ sg_ac σ
    have e := sg_sum_up (f := fun j => sg_o1 (sg_of σ j)) (g := fun j => sg_o1 (va_up (sg_of σ) i none j)) (o := i) (fun k hk => by show sg_o1 (va_up _ _ _ k) = _; rw [va_up_ne _ _ hk]) hi
    have f := sg_sum_up (f := fun o => (sg_qu σ o).length) (g := fun o => (va_up (sg_qu σ) (sg_co c) (sg_ins (sg_kd σ (sg_co c)) (sg_cell σ c) (sg_qu σ (sg_co c))) o).length) (o := sg_co c) (fun k hk => by show List.length (va_up _ _ _ k) = _; rw [va_up_ne _ _ hk]) c2
    try dsimp only at e f
    rw [va_up_self, hc] at e
    rw [va_up_self, sg_ins_len] at f
    have e1 : sg_o1 (some c) = 1 := rfl
    have e2 : sg_o1 none = 0 := rfl
    rw [e1, e2] at e
    have h5 : sg_sum (fun i => sg_o1 (sg_of σ i)) 8 + sg_sum (fun o => (sg_qu σ o).length) 8 ≤ sg_ac σ := h5
    omega
theorem sg_inv_come {σ : sg_S} {i : Nat} (h : sg_inv σ) (hi : i < 8) : sg_inv (sg_come σ i) := by
  unfold sg_come
  cases hc : sg_of σ i with
  | none => exact h
  | some c => exact sg_inv_come1 h hi hc
theorem sg_inv_comes {σ : sg_S} (h : sg_inv σ) : ∀ {n : Nat}, n ≤ 8 → sg_inv (sg_comes σ n) := by
  intro n
  induction n with
  | zero => intro _; exact h
  | succ n ih => intro hn; exact sg_inv_come (ih (by omega)) (by omega)
/-- the state behind the sending of c from output o -/
def sg_send1 (σ : sg_S) (o : Nat) (c : sg_Ce) (cs : List sg_Ce) : sg_S := (sg_kd σ, sg_wt σ, if cs = [] then va_up (sg_lt σ) o (fun _ => 0) else sg_lt σ, va_up (sg_qu σ) o cs, sg_of σ, sg_sl σ, sg_ac σ, va_up (sg_se σ) o (some c))
def sg_send0 (σ : sg_S) (o : Nat) : sg_S := (sg_kd σ, sg_wt σ, sg_lt σ, sg_qu σ, sg_of σ, sg_sl σ, sg_ac σ, va_up (sg_se σ) o none)
theorem sg_send_nil {σ : sg_S} {o : Nat} (h : sg_qu σ o = []) : sg_send σ o = sg_send0 σ o := by
  unfold sg_send; rw [h]; rfl
theorem sg_send_cons {σ : sg_S} {o : Nat} {c : sg_Ce} {cs : List sg_Ce} (h : sg_qu σ o = c :: cs) : sg_send σ o = sg_send1 σ o c cs := by
  unfold sg_send; rw [h]; rfl
theorem sg_held_send1 {σ : sg_S} {o : Nat} {c : sg_Ce} {cs : List sg_Ce} (h : sg_qu σ o = c :: cs) (ho : o < 8) (j : Nat) : sg_held (sg_send1 σ o c cs) j + (if sg_ci c = j then 1 else 0) = sg_held σ j := by
  show sg_o1 (sg_of σ j) + sg_sum (fun x => sg_cnt j (va_up (sg_qu σ) o cs x)) 8 + _ = sg_o1 (sg_of σ j) + sg_sum (fun o => sg_cnt j (sg_qu σ o)) 8
  have e := sg_sum_up (f := fun o => sg_cnt j (sg_qu σ o)) (g := fun x => sg_cnt j (va_up (sg_qu σ) o cs x)) (o := o) (fun k hk => by show sg_cnt j (va_up _ _ _ k) = _; rw [va_up_ne _ _ hk]) ho
  try dsimp only at e
  rw [va_up_self, h] at e
  have e2 : sg_cnt j (c :: cs) = (if sg_ci c = j then 1 else 0) + sg_cnt j cs := rfl
  rw [e2] at e
  omega
theorem sg_inv_send {σ : sg_S} {o : Nat} (h : sg_inv σ) (ho : o < 8) : sg_inv (sg_send σ o) := by
  cases hq : sg_qu σ o with
  | nil => rw [sg_send_nil hq]; exact h
  | cons c cs =>
    rw [sg_send_cons hq]
    obtain ⟨h1, h2, ⟨w, h3, h3'⟩, h4, h5⟩ := h
    have hsub : ∀ x, ∀ d ∈ va_up (sg_qu σ) o cs x, d ∈ sg_qu σ x := fun x d hd => by
      by_cases e : x = o
      · subst e; rw [va_up_self] at hd; rw [hq]; exact List.mem_cons_of_mem _ hd
      · rw [va_up_ne _ _ e] at hd; exact hd
    refine ⟨fun x hx => ?_, fun j hj => ⟨?_, (h2 j hj).2⟩, ⟨w, fun x hx d hd => h3 x hx d (hsub x d hd), h3'⟩, h4, ?_⟩
    · obtain ⟨a1, a2, a3, a4⟩ := h1 x hx
      refine ⟨a1, ?_, ?_, fun d hd => a4 d (hsub x d hd)⟩
      · show sg_ord (sg_kd σ x) (va_up (sg_qu σ) o cs x)
        by_cases e : x = o
        · subst e; rw [va_up_self]; rw [hq] at a2; exact sg_ord_tail a2
        · rw [va_up_ne _ _ e]; exact a2
      · show ((va_up (sg_qu σ) o cs x).map sg_cs).Nodup
        by_cases e : x = o
        · subst e; rw [va_up_self]; rw [hq, List.map_cons, List.nodup_cons] at a3; exact a3.2
        · rw [va_up_ne _ _ e]; exact a3
    · have := sg_held_send1 hq ho j
      have := (h2 j hj).1
      omega
    · show sg_sum (fun j => sg_o1 (sg_of σ j)) 8 + sg_sum (fun x => (va_up (sg_qu σ) o cs x).length) 8 ≤ sg_ac σ
      have f := sg_sum_up (f := fun o => (sg_qu σ o).length) (g := fun x => (va_up (sg_qu σ) o cs x).length) (o := o) (fun k hk => by show List.length (va_up _ _ _ k) = _; rw [va_up_ne _ _ hk]) ho
      try dsimp only at f
      rw [va_up_self, hq] at f
      have e2 : (c :: cs).length = cs.length + 1 := rfl
      rw [e2] at f
      have h5 : sg_sum (fun i => sg_o1 (sg_of σ i)) 8 + sg_sum (fun o => (sg_qu σ o).length) 8 ≤ sg_ac σ := h5
      omega
theorem sg_inv_sends {σ : sg_S} (h : sg_inv σ) : ∀ {n : Nat}, n ≤ 8 → sg_inv (sg_sends σ n) := by
  intro n
  induction n with
  | zero => intro _; exact h
  | succ n ih => intro hn; exact sg_inv_send (ih (by omega)) (by omega)
theorem sg_inv_slot {σ : sg_S} (h : sg_inv σ) : sg_inv (sg_slot σ) := sg_inv_tick (sg_inv_sends (sg_inv_comes h (Nat.le_refl 8)) (Nat.le_refl 8)) _
theorem sg_inv_reset {σ : sg_S} (h : sg_inv σ) : sg_inv (sg_reset σ) := by
  obtain ⟨h1, h2, h3, h4, h5⟩ := h
  refine ⟨fun o ho => ⟨(h1 o ho).1, sg_ord_nil _, List.nodup_nil, fun c hc => absurd hc List.not_mem_nil⟩, fun i _ => ⟨?_, fun c hc => by cases hc⟩, ⟨fun _ => 0, fun o _ c hc => absurd hc List.not_mem_nil, fun i _ c hc => by cases hc⟩, h4, ?_⟩
  · show 0 + sg_sum (fun _ => 0) 8 ≤ 64
    decide
  · show sg_sum (fun _ => 0) 8 + sg_sum (fun _ => 0) 8 ≤ sg_ac σ
    rw [sg_sum_0]; omega
theorem sg_len_le {σ : sg_S} (h : sg_inv σ) {o : Nat} (ho : o < 8) : (sg_qu σ o).length ≤ sg_ac σ := by
  have h5 : sg_sum (fun i => sg_o1 (sg_of σ i)) 8 + sg_sum (fun o => (sg_qu σ o).length) 8 ≤ sg_ac σ := h.2.2.2.2
  have := sg_sum_le (f := fun o => (sg_qu σ o).length) ho
  try dsimp only at this
  omega
theorem sg_len_lt {σ : sg_S} (h : sg_inv σ) {i o : Nat} (hi : i < 8) (ho : o < 8) {c : sg_Ce} (hc : sg_of σ i = some c) : (sg_qu σ o).length < sg_ac σ := by
  have h5 : sg_sum (fun i => sg_o1 (sg_of σ i)) 8 + sg_sum (fun o => (sg_qu σ o).length) 8 ≤ sg_ac σ := h.2.2.2.2
  have e1 := sg_sum_le (f := fun o => (sg_qu σ o).length) ho
  have e2 := sg_sum_le (f := fun i => sg_o1 (sg_of σ i)) hi
  try dsimp only at e1 e2
  rw [hc] at e2
  have e3 : sg_o1 (some c) = 1 := rfl
  omega
theorem sg_ac_come (σ : sg_S) (i : Nat) : sg_ac (sg_come σ i) = sg_ac σ := by
  unfold sg_come; cases sg_of σ i <;> rfl
theorem sg_ac_comes (σ : sg_S) : ∀ n, sg_ac (sg_comes σ n) = sg_ac σ := by
  intro n
  induction n with
  | zero => rfl
  | succ n ih => show sg_ac (sg_come (sg_comes σ n) n) = _; rw [sg_ac_come, ih]
theorem sg_ac_send (σ : sg_S) (o : Nat) : sg_ac (sg_send σ o) = sg_ac σ := by
  unfold sg_send; cases sg_qu σ o <;> rfl
theorem sg_ac_sends (σ : sg_S) : ∀ n, sg_ac (sg_sends σ n) = sg_ac σ := by
  intro n
  induction n with
  | zero => rfl
  | succ n ih => show sg_ac (sg_send (sg_sends σ n) n) = _; rw [sg_ac_send, ih]
