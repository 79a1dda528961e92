/-! slot and leaves of the reference. -/
def md_tk (sl : Int32) : Nat → Nat → Int32
  | 0 => fun _ => sl - 1
  | n + 1 => va_up (md_tk sl n) n sl
theorem md_tk_eq (sl : Int32) : ∀ {n o : Nat}, o < n → md_tk sl n o = sl := by
  intro n
  induction n with
  | zero => intro o h; omega
  | succ n ih =>
    intro o h
    show va_up (md_tk sl n) n sl o = sl
    by_cases z : o = n
    · subst z; exact va_up_self _ _ _
    · rw [va_up_ne _ _ z]; exact ih (by omega)
theorem mo_R_tick {τ : sg_S} {tk : Nat → Int32} {of sl : Int32} {ct : Nat → Nat → Int32} {cl : Nat → Nat → Int64} (h : mo_R τ tk of sl ct cl) (ht : ∀ o, o < 8 → tk o = sl) : mo_R (sg_kd τ, sg_wt τ, sg_lt τ, sg_qu τ, sg_of τ, sg_sl τ + 1, sg_ac τ, sg_se τ) (fun _ => sg_sl τ + 1 - 1) of (sl + 1) ct cl := by
  have e : sg_sl τ + 1 - 1 = sl := by rw [← h.2.1]; exact Int32.add_sub_cancel _ _
  refine ⟨h.1, by rw [h.2.1], fun o ho => ?_, h.2.2.2⟩
  have := h.2.2.1 o ho
  rw [ht o ho] at this
  show mo_ou ct cl o (sg_sl τ + 1 - 1) (sg_kd τ o) (sg_wt τ o) (sg_lt τ o) (sg_qu τ o) (sg_se τ o)
  rw [e]
  exact this
theorem sg_count_add {σ τ : sg_S} {o : Nat} (h : sg_qu τ o = sg_qu σ o) : nI (sg_count σ o) + (if sg_qu τ o = [] then 0 else 1) = nI (sg_count σ (o + 1)) := by
  show _ = nI (sg_count σ o + (if sg_qu σ o = [] then 0 else 1))
  rw [h]
  by_cases z : sg_qu σ o = []
  · rw [if_pos z, if_pos z]; exact Int32.add_zero _
  · rw [if_neg z, if_neg z]; exact nI_1 _
def ls_R (be : Option sg_Ce × Int32) (best least : Int32) : Prop := be.2 = best ∧ match be.1 with
  | none => best = -1
  | some d => (∃ p, p < 512 ∧ best = nI p) ∧ least = nI (sg_cs d) ∧ sg_cs d < 512
def lv_D (σ : sg_S) (o k : Nat) (b : Option sg_Ce) : Prop := ∀ d, b = some d → (∃ o', o' < o ∧ d ∈ sg_qu σ o') ∨ ∃ p, p < k ∧ (sg_qu σ o)[p]? = some d
theorem ls_none {be : Option sg_Ce × Int32} {best least : Int32} (h : ls_R be best least) (e : best = -1) : be.1 = none := by
  obtain ⟨h1, h2⟩ := h
  cases hb : be.1 with
  | none => rfl
  | some d =>
    rw [hb] at h2
    obtain ⟨⟨p, h3, h4⟩, -⟩ := h2
    rw [h4] at e
    exact absurd e (md_m1 (by omega))
theorem ls_some {be : Option sg_Ce × Int32} {best least : Int32} (h : ls_R be best least) (e : ¬ best = -1) : ∃ d, be.1 = some d ∧ least = nI (sg_cs d) ∧ sg_cs d < 512 := by
  obtain ⟨h1, h2⟩ := h
  cases hb : be.1 with
  | none => rw [hb] at h2; exact absurd h2 e
  | some d => rw [hb] at h2; exact ⟨d, rfl, h2.2⟩
theorem lv_ne {σ : sg_S} (hinv : sg_inv σ) {o k : Nat} (ho : o < 8) {c d : sg_Ce} (hc : (sg_qu σ o)[k]? = some c) {b : Option sg_Ce} (hD : lv_D σ o k b) (hb : b = some d) : sg_cs c ≠ sg_cs d := by
  intro e
  obtain ⟨w, w1, -⟩ := hinv.2.2.1
  have wc := w1 o ho c (List.mem_of_getElem? hc)
  rcases hD d hb with ⟨o', h1, h2⟩ | ⟨p, h1, h2⟩
  · have wd := w1 o' (by omega) d h2
    rw [e, wd] at wc
    omega
  · have hn := (hinv.1 o ho).2.2.1
    have hp : p < (sg_qu σ o).length := (List.getElem?_eq_some_iff.mp h2).1
    have e2 : ((sg_qu σ o).map sg_cs)[p]? = ((sg_qu σ o).map sg_cs)[k]? := by
      rw [List.getElem?_map, List.getElem?_map, h2, hc]
      show some (sg_cs d) = some (sg_cs c)
      rw [e]
    have := (List.getElem?_inj (by rw [List.length_map]; exact hp) hn).mp e2
    omega
theorem lv_D_skip {σ : sg_S} {o k : Nat} {b : Option sg_Ce} (h : lv_D σ o k b) : lv_D σ o (k + 1) b := fun d hd => by
  rcases h d hd with q | ⟨p, h1, h2⟩
  · exact Or.inl q
  · exact Or.inr ⟨p, by omega, h2⟩
theorem lv_D_take {σ : sg_S} {o k : Nat} {c : sg_Ce} (hc : (sg_qu σ o)[k]? = some c) : lv_D σ o (k + 1) (some c) := fun d hd => by
  cases hd
  exact Or.inr ⟨k, by omega, hc⟩
theorem lv_D_next {σ : sg_S} {o k : Nat} {b : Option sg_Ce} (h : lv_D σ o k b) : lv_D σ (o + 1) 0 b := fun d hd => by
  rcases h d hd with ⟨o', h1, h2⟩ | ⟨p, h1, h2⟩
  · exact Or.inl ⟨o', by omega, h2⟩
  · exact Or.inl ⟨o, by omega, List.mem_of_getElem? h2⟩
