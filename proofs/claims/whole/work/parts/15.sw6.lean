/-! reset, leaves -/
def sg_ress (σ : sg_S) : Nat → sg_S
  | 0 => σ
  | n + 1 => sg_res1 (sg_ress σ n) n
def sg_hhs (h : Nat → Nat) : Nat → Nat → Nat
  | 0 => h
  | n + 1 => va_up (sg_hhs h n) n 0
def sw_X (D : va_G) (M : hp_M) (a : Nat) (σ : sg_S) (hh : Nat → Nat) (F : Nat → Prop) : Prop := ∃ (aI aO : Nat) (fI fO oa la : Nat → Option Nat) (ip op sp lp : Nat → Nat) (LQ : Nat → List Nat) (ow : Nat → Nat), sw_P D M a σ hh F aI aO fI fO oa la ip op sp lp LQ ow
theorem sg_ress_eq (σ : sg_S) : ∀ n : Nat, sg_sl (sg_ress σ n) = sg_sl σ ∧ sg_ac (sg_ress σ n) = sg_ac σ ∧ sg_kd (sg_ress σ n) = sg_kd σ ∧ sg_wt (sg_ress σ n) = sg_wt σ ∧ ∀ j, j < n → sg_lt (sg_ress σ n) j = (fun _ => 0) ∧ sg_qu (sg_ress σ n) j = [] ∧ sg_of (sg_ress σ n) j = none ∧ sg_se (sg_ress σ n) j = none ∧ sg_hhs (sg_held σ) n j = 0 := by
  intro n
  induction n with
  | zero => exact ⟨rfl, rfl, rfl, rfl, fun j hj => absurd hj (Nat.not_lt_zero j)⟩
  | succ n ih =>
    obtain ⟨h1, h2, h3, h4, h5⟩ := ih
    refine ⟨h1, h2, h3, h4, fun j hj => ?_⟩
    show va_up (sg_lt (sg_ress σ n)) n (fun _ => 0) j = _ ∧ va_up (sg_qu (sg_ress σ n)) n [] j = _ ∧ va_up (sg_of (sg_ress σ n)) n none j = _ ∧ va_up (sg_se (sg_ress σ n)) n none j = _ ∧ va_up (sg_hhs (sg_held σ) n) n 0 j = 0
    by_cases z : j = n
    · subst z
      exact ⟨va_up_self _ _ _, va_up_self _ _ _, va_up_self _ _ _, va_up_self _ _ _, va_up_self _ _ _⟩
    · rw [va_up_ne _ _ z, va_up_ne _ _ z, va_up_ne _ _ z, va_up_ne _ _ z, va_up_ne _ _ z]
      exact h5 j (by omega)
theorem sw_H_reset {D : va_G} {M : hp_M} {a : Nat} {σ : sg_S} {F : Nat → Prop} (h : sw_X D M a (sg_ress σ 8) (sg_hhs (sg_held σ) 8) F) : sw_H D M a (sg_reset σ) F := by
  obtain ⟨aI, aO, fI, fO, oa, la, ip, op, sp, lp, LQ, ow, hP⟩ := h
  obtain ⟨h1, h2, h3, h4, h5⟩ := sg_ress_eq σ 8
  refine ⟨aI, aO, fI, fO, oa, la, ip, op, sp, lp, LQ, ow, sw_P_eq hP h1 h2 (fun j hj => ⟨?_, (h5 j hj).2.2.1⟩) (fun o ho => ⟨by rw [h3]; rfl, by rw [h4]; rfl, (h5 o ho).1, (h5 o ho).2.1, (h5 o ho).2.2.2.1⟩)⟩
  rw [(h5 j hj).2.2.2.2]
  show 0 = 0 + sg_sum (fun _ => 0) 8
  rw [sg_sum_0]
/-- is c to be taken, where b was the best? -/
def lv_bet (b : Option sg_Ce) (c : sg_Ce) : Bool := match b with
  | none => true
  | some d => decide (sg_cs c < sg_cs d)
def lv_in (t : Int32) : Option sg_Ce × Int32 → Nat → List sg_Ce → Option sg_Ce × Int32
  | b, _, [] => b
  | b, p, c :: cs => lv_in t (if sg_ct c = t ∧ lv_bet b.1 c = true then (some c, nI p) else b) (p + 1) cs
def lv_out (σ : sg_S) (t : Int32) : Nat → Option sg_Ce × Int32
  | 0 => (none, -1)
  | n + 1 => lv_in t (lv_out σ t n) 0 (sg_qu σ n)
def an_leaves (σ : sg_S) (t : Int32) : Int32 := (lv_out σ t 8).2
def lv_e (M : hp_M) (x : Option Nat) (b : Option sg_Ce) : Prop := match x, b with
  | none, none => True
  | some q, some d => (∃ nx, M q = some (sw_c d nx)) ∧ sg_cs d < 512
  | _, _ => False
theorem lv_e_no {M : hp_M} {b : Option sg_Ce} (h : lv_e M none b) : b = none := by
  cases b with
  | none => rfl
  | some d => exact absurd h (fun q => q)
theorem lv_e_yes {M : hp_M} {x : Nat} {b : Option sg_Ce} (h : lv_e M (some x) b) : ∃ d nx, b = some d ∧ M x = some (sw_c d nx) ∧ sg_cs d < 512 := by
  cases b with
  | none => exact absurd h (fun q => q)
  | some d => obtain ⟨⟨nx, h1⟩, h2⟩ := h; exact ⟨d, nx, rfl, h1, h2⟩
theorem lv_take {t : Int32} {b : Option sg_Ce × Int32} {p : Nat} {c : sg_Ce} {cs : List sg_Ce} (h1 : sg_ct c = t) (h2 : lv_bet b.1 c = true) : lv_in t b p (c :: cs) = lv_in t (some c, nI p) (p + 1) cs := by
  show lv_in t (if sg_ct c = t ∧ lv_bet b.1 c = true then (some c, nI p) else b) (p + 1) cs = _
  rw [if_pos ⟨h1, h2⟩]
theorem lv_skip {t : Int32} {b : Option sg_Ce × Int32} {p : Nat} {c : sg_Ce} {cs : List sg_Ce} (h : ¬ (sg_ct c = t ∧ lv_bet b.1 c = true)) : lv_in t b p (c :: cs) = lv_in t b (p + 1) cs := by
  show lv_in t (if sg_ct c = t ∧ lv_bet b.1 c = true then (some c, nI p) else b) (p + 1) cs = _
  rw [if_neg h]
theorem lv_ge {c d : sg_Ce} (hc : sg_cs c < 512) (hd : sg_cs d < 512) (h : 0 ≤ lg_cmp (lN (sg_cs c)) (lN (sg_cs d))) : lv_bet (some d) c = false := by
  rw [lg_cmp_ge, lN_le (by omega) (by omega)] at h
  exact decide_eq_false (Nat.not_lt_of_le h)
theorem lv_nge {c d : sg_Ce} (hc : sg_cs c < 512) (hd : sg_cs d < 512) (h : ¬ 0 ≤ lg_cmp (lN (sg_cs c)) (lN (sg_cs d))) : lv_bet (some d) c = true := by
  rw [lg_cmp_ge, lN_le (by omega) (by omega)] at h
  exact decide_eq_true (Nat.lt_of_not_le h)
