/-! What the calls answer and do, of the mathematical switch. -/
def sg_ix (x : Int32) : Option Nat := if 0 ≤ x ∧ x < 8 then some x.toNatClampNeg else none
theorem sg_ix_nI {k : Nat} (h : k < 8) : sg_ix (nI k) = some k := by
  have h1 : 0 ≤ nI k := nI_pos' (by omega)
  have h2 : nI k < 8 := nI_lt (b := 8) h (by decide)
  unfold sg_ix
  rw [if_pos ⟨h1, h2⟩, nI_clamp (by omega)]
theorem sg_ix_neg {x : Int32} (h : x < 0) : sg_ix x = none := by
  unfold sg_ix
  rw [if_neg]
  intro q
  exact absurd q.1 (Int32.not_le.mpr h)
theorem sg_ix_big {x : Int32} (h : ¬ x < 8) : sg_ix x = none := by
  unfold sg_ix
  rw [if_neg]
  intro q
  exact h q.2
theorem sg_ix_or (x : Int32) : (sg_ix x = none ∧ ¬ (0 ≤ x ∧ x < 8)) ∨ ∃ k, k < 8 ∧ x = nI k ∧ sg_ix x = some k := by
  by_cases h : 0 ≤ x ∧ x < 8
  · right
    obtain ⟨k, hk, e⟩ := nI_of (x := x) (Int32.not_lt.mpr h.1)
    subst e
    have : k < 8 := (nI_ltI (b := 8) hk (by decide)).mp h.2
    exact ⟨k, this, rfl, sg_ix_nI this⟩
  · left
    exact ⟨by unfold sg_ix; rw [if_neg h], h⟩
def sg_port (x : Int32) : Int32 := match sg_ix x with
  | none => 0
  | some _ => 1
def sg_latest (σ : sg_S) (x : Int32) : Option sg_Ce := match sg_ix x with
  | none => none
  | some o => sg_se σ o
def an_hasSent (σ : sg_S) (x : Int32) : Int32 := match sg_latest σ x with
  | none => 0
  | some _ => 1
def an_sent (σ : sg_S) (x : Int32) : Int32 := match sg_latest σ x with
  | none => 0
  | some c => sg_ct c
def an_sentFrom (σ : sg_S) (x : Int32) : Int32 := match sg_latest σ x with
  | none => -1
  | some c => nI (sg_ci c)
def an_waited (σ : sg_S) (x : Int32) : Int32 := match sg_latest σ x with
  | none => -1
  | some c => sg_sl σ - 1 - sg_cc c
def an_inside (σ : sg_S) (x : Int32) : Int32 := match sg_ix x with
  | none => -1
  | some i => nI (sg_held σ i)
def an_waiting (σ : sg_S) (x : Int32) : Int32 := match sg_ix x with
  | none => -1
  | some o => nI (sg_qu σ o).length
def sg_kth (σ : sg_S) (x k : Int32) : Option sg_Ce := match sg_ix x with
  | none => none
  | some o => if k < 0 then none else (sg_qu σ o)[k.toNatClampNeg]?
def an_first (σ : sg_S) (x k : Int32) : Int32 := match sg_kth σ x k with
  | none => -1
  | some c => nI (sg_ci c)
def an_time (σ : sg_S) (x k : Int32) : Int64 := match sg_kth σ x k with
  | none => -1
  | some c => sg_cm c
/-- some cell is offered for o -/
def sg_offTo (σ : sg_S) (o : Nat) : Prop := ∃ i, i < 8 ∧ ∃ c, sg_of σ i = some c ∧ sg_co c = o
def tr_ok (σ : sg_S) (o : Nat) (k : Int32) : Prop := 0 ≤ k ∧ k ≤ 2 ∧ sg_qu σ o = [] ∧ ¬ sg_offTo σ o
/-- setOrder: answer r and new state τ -/
def tr_setOrder (σ : sg_S) (x k r : Int32) (τ : sg_S) : Prop := (∃ o, sg_ix x = some o ∧ tr_ok σ o k ∧ r = 1 ∧ τ = sg_setO σ o k) ∨ ((∀ o, sg_ix x = some o → ¬ tr_ok σ o k) ∧ r = 0 ∧ τ = σ)
theorem tr_setOrder_1 {σ : sg_S} {x k r r' : Int32} {τ τ' : sg_S} (h : tr_setOrder σ x k r τ) (h' : tr_setOrder σ x k r' τ') : r = r' ∧ τ = τ' := by
  rcases h with ⟨o, a, b, c, d⟩ | ⟨b, c, d⟩ <;> rcases h' with ⟨o', a', b', c', d'⟩ | ⟨b', c', d'⟩
  · rw [a] at a'; cases a'; exact ⟨c.trans c'.symm, d.trans d'.symm⟩
  · exact absurd b (b' o a)
  · exact absurd b' (b o' a')
  · exact ⟨c.trans c'.symm, d.trans d'.symm⟩
def tr_setWeight (σ : sg_S) (x y w r : Int32) (τ : sg_S) : Prop := (∃ o g, sg_ix x = some o ∧ sg_ix y = some g ∧ (1 ≤ w ∧ w ≤ 255) ∧ r = 1 ∧ τ = sg_setW σ o g w) ∨ ((sg_ix x = none ∨ sg_ix y = none ∨ ¬ (1 ≤ w ∧ w ≤ 255)) ∧ r = 0 ∧ τ = σ)
theorem tr_setWeight_1 {σ : sg_S} {x y w r r' : Int32} {τ τ' : sg_S} (h : tr_setWeight σ x y w r τ) (h' : tr_setWeight σ x y w r' τ') : r = r' ∧ τ = τ' := by
  rcases h with ⟨o, g, a, b, e, c, d⟩ | ⟨b, c, d⟩ <;> rcases h' with ⟨o', g', a', b', e', c', d'⟩ | ⟨b', c', d'⟩
  · rw [a] at a'; rw [b] at b'; cases a'; cases b'; exact ⟨c.trans c'.symm, d.trans d'.symm⟩
  · rcases b' with q | q | q
    · rw [a] at q; cases q
    · rw [b] at q; cases q
    · exact absurd e q
  · rcases b with q | q | q
    · rw [a'] at q; cases q
    · rw [b'] at q; cases q
    · exact absurd e' q
  · exact ⟨c.trans c'.symm, d.trans d'.symm⟩
def tr_offer (σ : sg_S) (x y z t r : Int32) (τ : sg_S) : Prop := (∃ i o g, sg_ix x = some i ∧ sg_ix y = some o ∧ sg_ix z = some g ∧ sg_of σ i = none ∧ sg_held σ i < 64 ∧ r = 1 ∧ τ = sg_offer σ i o g t) ∨ ((sg_ix x = none ∨ sg_ix y = none ∨ sg_ix z = none ∨ ∃ i, sg_ix x = some i ∧ (sg_of σ i ≠ none ∨ ¬ sg_held σ i < 64)) ∧ r = 0 ∧ τ = σ)
theorem tr_offer_1 {σ : sg_S} {x y z t r r' : Int32} {τ τ' : sg_S} (h : tr_offer σ x y z t r τ) (h' : tr_offer σ x y z t r' τ') : r = r' ∧ τ = τ' := by
  have key : ∀ {i o g : Nat}, sg_ix x = some i → sg_ix y = some o → sg_ix z = some g → sg_of σ i = none → sg_held σ i < 64 → ¬ (sg_ix x = none ∨ sg_ix y = none ∨ sg_ix z = none ∨ ∃ i, sg_ix x = some i ∧ (sg_of σ i ≠ none ∨ ¬ sg_held σ i < 64)) := by
    intro i o g a b c d e q
    rcases q with q | q | q | ⟨j, q, q2⟩
    · rw [a] at q; cases q
    · rw [b] at q; cases q
    · rw [c] at q; cases q
    · rw [a] at q; cases q
      rcases q2 with q2 | q2
      · exact q2 d
      · exact q2 e
  rcases h with ⟨i, o, g, a, b, c, d, e, f1, f2⟩ | ⟨b, c, d⟩ <;> rcases h' with ⟨i', o', g', a', b', c', d', e', f1', f2'⟩ | ⟨b', c', d'⟩
  · rw [a] at a'; rw [b] at b'; rw [c] at c'; cases a'; cases b'; cases c'; exact ⟨f1.trans f1'.symm, f2.trans f2'.symm⟩
  · exact absurd b' (key a b c d e)
  · exact absurd b (key a' b' c' d' e')
  · exact ⟨c.trans c'.symm, d.trans d'.symm⟩
theorem tr_setOrder_inv {σ : sg_S} {x k r : Int32} {τ : sg_S} (h : tr_setOrder σ x k r τ) (hi : sg_inv σ) : sg_inv τ ∧ sg_ac τ = sg_ac σ := by
  rcases h with ⟨o, a, b, c, d⟩ | ⟨b, c, d⟩
  · subst d
    refine ⟨sg_inv_setO hi ?_ b.2.2.1, rfl⟩
    obtain ⟨j, hj, e⟩ := nI_of2 (M := 2) (n := 2) rfl (Int32.not_lt.mpr b.1) b.2.1
    subst e
    rcases (show j = 0 ∨ j = 1 ∨ j = 2 by omega) with e | e | e <;> subst e
    · exact Or.inl rfl
    · exact Or.inr (Or.inl rfl)
    · exact Or.inr (Or.inr rfl)
  · subst d; exact ⟨hi, rfl⟩
theorem tr_setWeight_inv {σ : sg_S} {x y w r : Int32} {τ : sg_S} (h : tr_setWeight σ x y w r τ) (hi : sg_inv σ) : sg_inv τ ∧ sg_ac τ = sg_ac σ := by
  rcases h with ⟨o, g, a, b, e, c, d⟩ | ⟨b, c, d⟩
  · subst d
    exact ⟨sg_inv_setW hi (fun q => by rw [q] at e; exact absurd e.1 (by decide)), rfl⟩
  · subst d; exact ⟨hi, rfl⟩
theorem sg_ix_lt {x : Int32} {k : Nat} (h : sg_ix x = some k) : k < 8 ∧ x = nI k := by
  rcases sg_ix_or x with q | ⟨j, h1, h2, h3⟩
  · rw [q.1] at h; cases h
  · rw [h3] at h; cases h; exact ⟨h1, h2⟩
theorem tr_offer_inv {σ : sg_S} {x y z t r : Int32} {τ : sg_S} (h : tr_offer σ x y z t r τ) (hi : sg_inv σ) : sg_inv τ ∧ sg_ac τ ≤ sg_ac σ + 1 := by
  rcases h with ⟨i, o, g, a, b, c, d, e, f1, f2⟩ | ⟨b, c, d⟩
  · subst f2
    exact ⟨sg_inv_offer hi (sg_ix_lt a).1 (sg_ix_lt b).1 (sg_ix_lt c).1 d e, Nat.le_refl _⟩
  · subst d; exact ⟨hi, Nat.le_succ _⟩
theorem sg_port_none {x : Int32} (h : sg_ix x = none) : sg_port x = 0 := by unfold sg_port; rw [h]
theorem sg_port_some {x : Int32} {k : Nat} (h : sg_ix x = some k) : sg_port x = 1 := by unfold sg_port; rw [h]
theorem sg_port_neg {x : Int32} (h : x < 0) : 0 = sg_port x := (sg_port_none (sg_ix_neg h)).symm
theorem sg_port_big {x : Int32} (h : 8 ≤ x) : 0 = sg_port x := (sg_port_none (sg_ix_big (Int32.not_lt.mpr h))).symm
theorem sg_port_in {x : Int32} (h : ¬ x < 0) (h' : ¬ 8 ≤ x) : 1 = sg_port x := by
  rcases sg_ix_or x with q | ⟨k, hk, e, q⟩
  · exact absurd ⟨Int32.not_lt.mp h, Int32.not_le.mp h'⟩ q.2
  · exact (sg_port_some q).symm
theorem sg_latest_n {σ : sg_S} {x : Int32} (h : sg_ix x = none) : sg_latest σ x = none := by unfold sg_latest; rw [h]
theorem sg_latest_s {σ : sg_S} {x : Int32} {k : Nat} (h : sg_ix x = some k) : sg_latest σ x = sg_se σ k := by unfold sg_latest; rw [h]
theorem sg_kth_n {σ : sg_S} {x k : Int32} (h : sg_ix x = none) : sg_kth σ x k = none := by unfold sg_kth; rw [h]
theorem sg_kth_neg {σ : sg_S} {x k : Int32} (h : k < 0) : sg_kth σ x k = none := by
  unfold sg_kth
  cases sg_ix x with
  | none => rfl
  | some o => exact if_pos h
theorem sg_kth_s {σ : sg_S} {x : Int32} {o : Nat} (h : sg_ix x = some o) {k : Nat} (hk : k < 2 ^ 31) : sg_kth σ x (nI k) = (sg_qu σ o)[k]? := by
  unfold sg_kth
  rw [h]
  show (if nI k < 0 then none else _) = _
  rw [if_neg (nI_pos hk), nI_clamp hk]
theorem an_hasSent_n {σ : sg_S} {x : Int32} (h : sg_latest σ x = none) : 0 = an_hasSent σ x := by simp only [an_hasSent, h]
theorem an_hasSent_s {σ : sg_S} {x : Int32} {d : sg_Ce} (h : sg_latest σ x = some d) : 1 = an_hasSent σ x := by simp only [an_hasSent, h]
theorem an_sent_n {σ : sg_S} {x : Int32} (h : sg_latest σ x = none) : 0 = an_sent σ x := by simp only [an_sent, h]
theorem an_sent_s {σ : sg_S} {x : Int32} {d : sg_Ce} (h : sg_latest σ x = some d) : sg_ct d = an_sent σ x := by simp only [an_sent, h]
theorem an_sentFrom_n {σ : sg_S} {x : Int32} (h : sg_latest σ x = none) : -1 = an_sentFrom σ x := by simp only [an_sentFrom, h]
theorem an_sentFrom_s {σ : sg_S} {x : Int32} {d : sg_Ce} (h : sg_latest σ x = some d) : nI (sg_ci d) = an_sentFrom σ x := by simp only [an_sentFrom, h]
theorem an_waited_n {σ : sg_S} {x : Int32} (h : sg_latest σ x = none) : -1 = an_waited σ x := by simp only [an_waited, h]
theorem an_waited_s {σ : sg_S} {x : Int32} {d : sg_Ce} (h : sg_latest σ x = some d) : sg_sl σ - 1 - sg_cc d = an_waited σ x := by simp only [an_waited, h]
theorem an_inside_n {σ : sg_S} {x : Int32} (h : sg_ix x = none) : -1 = an_inside σ x := by simp only [an_inside, h]
theorem an_inside_s {σ : sg_S} {x : Int32} {k : Nat} (h : sg_ix x = some k) : nI (sg_held σ k) = an_inside σ x := by simp only [an_inside, h]
theorem an_waiting_n {σ : sg_S} {x : Int32} (h : sg_ix x = none) : -1 = an_waiting σ x := by simp only [an_waiting, h]
theorem an_waiting_s {σ : sg_S} {x : Int32} {k : Nat} (h : sg_ix x = some k) : nI (sg_qu σ k).length = an_waiting σ x := by simp only [an_waiting, h]
theorem an_first_n {σ : sg_S} {x k : Int32} (h : sg_kth σ x k = none) : -1 = an_first σ x k := by simp only [an_first, h]
theorem an_first_s {σ : sg_S} {x k : Int32} {d : sg_Ce} (h : sg_kth σ x k = some d) : nI (sg_ci d) = an_first σ x k := by simp only [an_first, h]
theorem an_time_n {σ : sg_S} {x k : Int32} (h : sg_kth σ x k = none) : -1 = an_time σ x k := by simp only [an_time, h]
theorem an_time_s {σ : sg_S} {x k : Int32} {d : sg_Ce} (h : sg_kth σ x k = some d) : sg_cm d = an_time σ x k := by simp only [an_time, h]
theorem sg_kth_or (σ : sg_S) (x k : Int32) : (sg_ix x = none) ∨ (∃ o, o < 8 ∧ x = nI o ∧ sg_ix x = some o ∧ k < 0) ∨ (∃ o j, o < 8 ∧ x = nI o ∧ sg_ix x = some o ∧ j < 2 ^ 31 ∧ k = nI j ∧ (sg_qu σ o).length ≤ j) ∨ ∃ o j, o < 8 ∧ x = nI o ∧ sg_ix x = some o ∧ j < 2 ^ 31 ∧ k = nI j ∧ j < (sg_qu σ o).length := by
  rcases sg_ix_or x with h | ⟨o, h1, h2, h3⟩
  · exact Or.inl h.1
  · right
    by_cases hk : k < 0
    · exact Or.inl ⟨o, h1, h2, h3, hk⟩
    · right
      obtain ⟨j, hj, e⟩ := nI_of hk
      by_cases hl : j < (sg_qu σ o).length
      · exact Or.inr ⟨o, j, h1, h2, h3, hj, e, hl⟩
      · exact Or.inl ⟨o, j, h1, h2, h3, hj, e, Nat.le_of_not_lt hl⟩
theorem sg_ok_or (x k : Int32) : (sg_ix x = none) ∨ (∃ o, o < 8 ∧ x = nI o ∧ sg_ix x = some o ∧ ¬ (0 ≤ k ∧ k ≤ 2)) ∨ ∃ o, o < 8 ∧ x = nI o ∧ sg_ix x = some o ∧ (0 ≤ k ∧ k ≤ 2) := by
  rcases sg_ix_or x with h | ⟨o, h1, h2, h3⟩
  · exact Or.inl h.1
  · by_cases hk : 0 ≤ k ∧ k ≤ 2
    · exact Or.inr (Or.inr ⟨o, h1, h2, h3, hk⟩)
    · exact Or.inr (Or.inl ⟨o, h1, h2, h3, hk⟩)
theorem sw_len0 {l : List sg_Ce} (hl : l.length ≤ 512) (h : ¬ 0 < nI l.length) : l = [] := by
  cases l with
  | nil => rfl
  | cons c cs =>
    exfalso
    apply h
    have := nI_lt (a := 0) (b := (c :: cs).length) (Nat.succ_pos _) (by omega)
    rw [nI_0] at this
    exact this
