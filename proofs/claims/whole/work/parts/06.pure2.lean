/-! Orders: inserting, counting, being sorted. -/
theorem sg_ins_at {k : Int32} {c : sg_Ce} : ∀ {l1 l2 : List sg_Ce}, (∀ d ∈ l1, sg_bef k c d = false) → (∀ d ds, l2 = d :: ds → sg_bef k c d = true) → sg_ins k c (l1 ++ l2) = l1 ++ c :: l2 := by
  intro l1
  induction l1 with
  | nil =>
    intro l2 _ h2
    cases l2 with
    | nil => rfl
    | cons d ds => simp [sg_ins, h2 d ds rfl]
  | cons d ds ih =>
    intro l2 h1 h2
    have e : sg_bef k c d = false := h1 d List.mem_cons_self
    show (if sg_bef k c d = true then c :: d :: (ds ++ l2) else d :: sg_ins k c (ds ++ l2)) = d :: (ds ++ c :: l2)
    rw [e, ih (fun x hx => h1 x (List.mem_cons_of_mem _ hx)) h2]
    rfl
theorem sg_ins_perm (k : Int32) (c : sg_Ce) : ∀ l : List sg_Ce, (sg_ins k c l).Perm (c :: l) := by
  intro l
  induction l with
  | nil => exact List.Perm.refl _
  | cons d ds ih =>
    unfold sg_ins
    split
    · exact List.Perm.refl _
    · exact (List.Perm.cons d ih).trans (List.Perm.swap c d ds)
theorem sg_ins_mem {k : Int32} {c x : sg_Ce} {l : List sg_Ce} : x ∈ sg_ins k c l ↔ x = c ∨ x ∈ l := by
  rw [(sg_ins_perm k c l).mem_iff]
  exact List.mem_cons
theorem sg_ins_len (k : Int32) (c : sg_Ce) (l : List sg_Ce) : (sg_ins k c l).length = l.length + 1 := by
  rw [(sg_ins_perm k c l).length_eq]
  rfl
theorem sg_ins_nodup {k : Int32} {c : sg_Ce} {l : List sg_Ce} (h : (l.map sg_cs).Nodup) (hc : ∀ d ∈ l, sg_cs d ≠ sg_cs c) : ((sg_ins k c l).map sg_cs).Nodup := by
  rw [((sg_ins_perm k c l).map sg_cs).nodup_iff]
  rw [List.map_cons, List.nodup_cons]
  refine ⟨fun hm => ?_, h⟩
  obtain ⟨d, hd, e⟩ := List.mem_map.mp hm
  exact hc d hd e
theorem sg_cnt_ins (k : Int32) (c : sg_Ce) (i : Nat) : ∀ l : List sg_Ce, sg_cnt i (sg_ins k c l) = (if sg_ci c = i then 1 else 0) + sg_cnt i l := by
  intro l
  induction l with
  | nil => rfl
  | cons d ds ih =>
    unfold sg_ins
    split
    · rfl
    · show _ + sg_cnt i (sg_ins k c ds) = _
      rw [ih]
      show _ = _ + (_ + _)
      omega
theorem sg_ord_nil (k : Int32) : sg_ord k [] := ⟨fun _ => List.Pairwise.nil, fun _ => List.Pairwise.nil⟩
theorem sg_ord_tail {k : Int32} {c : sg_Ce} {l : List sg_Ce} (h : sg_ord k (c :: l)) : sg_ord k l := ⟨fun e => (List.pairwise_cons.mp (h.1 e)).2, fun e => (List.pairwise_cons.mp (h.2 e)).2⟩
theorem sg_bef1 {c d : sg_Ce} : sg_bef 1 c d = decide (sg_cg c < sg_cg d) := by
  simp [sg_bef]
theorem sg_bef2 {c d : sg_Ce} : sg_bef 2 c d = decide (sg_cm c < sg_cm d) := by
  simp [sg_bef]
theorem sg_bef0 {c d : sg_Ce} : sg_bef 0 c d = false := by
  simp [sg_bef]
theorem sg_ins_ord {k : Int32} {c : sg_Ce} : ∀ {l : List sg_Ce}, sg_ord k l → sg_ord k (sg_ins k c l) := by
  intro l
  induction l with
  | nil =>
    intro _
    exact ⟨fun _ => List.pairwise_singleton _ _, fun _ => List.pairwise_singleton _ _⟩
  | cons d ds ih =>
    intro h
    refine ⟨fun e => ?_, fun e => ?_⟩
    · subst e
      have h1 := List.pairwise_cons.mp (h.1 rfl)
      unfold sg_ins
      rw [sg_bef1]
      split
      · rename_i hb
        have hb : sg_cg c < sg_cg d := of_decide_eq_true hb
        refine List.pairwise_cons.mpr ⟨fun x hx => ?_, h.1 rfl⟩
        rcases List.mem_cons.mp hx with e | e
        · rw [e]; exact Nat.le_of_lt hb
        · exact Nat.le_trans (Nat.le_of_lt hb) (h1.1 x e)
      · rename_i hb
        have hb : ¬ sg_cg c < sg_cg d := fun q => hb (decide_eq_true q)
        refine List.pairwise_cons.mpr ⟨fun x hx => ?_, (ih (sg_ord_tail h)).1 rfl⟩
        rcases sg_ins_mem.mp hx with e | e
        · rw [e]; exact Nat.le_of_not_lt hb
        · exact h1.1 x e
    · subst e
      have h1 := List.pairwise_cons.mp (h.2 rfl)
      unfold sg_ins
      rw [sg_bef2]
      split
      · rename_i hb
        have hb : sg_cm c < sg_cm d := of_decide_eq_true hb
        refine List.pairwise_cons.mpr ⟨fun x hx => ?_, h.2 rfl⟩
        rcases List.mem_cons.mp hx with e | e
        · rw [e]; exact Int64.le_of_lt hb
        · exact Int64.le_trans (Int64.le_of_lt hb) (h1.1 x e)
      · rename_i hb
        have hb : ¬ sg_cm c < sg_cm d := fun q => hb (decide_eq_true q)
        refine List.pairwise_cons.mpr ⟨fun x hx => ?_, (ih (sg_ord_tail h)).2 rfl⟩
        rcases sg_ins_mem.mp hx with e | e
        · rw [e]; exact Int64.not_lt.mp hb
        · exact h1.1 x e
/-- in a sorted order, what stands ahead of one that c isn't before, c isn't before either -/
theorem sg_bef_ahead {k : Int32} {c d : sg_Ce} {l1 l2 : List sg_Ce} (h : sg_ord k (l1 ++ d :: l2)) (hk : k = 0 ∨ k = 1 ∨ k = 2) (hd : sg_bef k c d = false) : ∀ x ∈ l1, sg_bef k c x = false := by
  intro x hx
  rcases hk with e | e | e
  · subst e; exact sg_bef0
  · subst e
    have h1 : sg_cg x ≤ sg_cg d := (List.pairwise_append.mp (h.1 rfl)).2.2 x hx d List.mem_cons_self
    rw [sg_bef1] at hd ⊢
    have h2 : ¬ sg_cg c < sg_cg d := of_decide_eq_false hd
    exact decide_eq_false (by omega)
  · subst e
    have h1 : sg_cm x ≤ sg_cm d := (List.pairwise_append.mp (h.2 rfl)).2.2 x hx d List.mem_cons_self
    rw [sg_bef2] at hd ⊢
    have h2 : ¬ sg_cm c < sg_cm d := of_decide_eq_false hd
    exact decide_eq_false (Int64.not_lt.mpr (Int64.le_trans h1 (Int64.not_lt.mp h2)))
/-! Sums. -/
theorem sg_sum_congr {f g : Nat → Nat} : ∀ {n : Nat}, (∀ k, k < n → f k = g k) → sg_sum f n = sg_sum g n := by
  intro n
  induction n with
  | zero => intro _; rfl
  | succ n ih =>
    intro h
    show sg_sum f n + f n = sg_sum g n + g n
    rw [ih (fun k hk => h k (by omega)), h n (by omega)]
theorem sg_sum_up {f g : Nat → Nat} {o : Nat} (hg : ∀ k, k ≠ o → g k = f k) : ∀ {n : Nat}, o < n → sg_sum g n + f o = sg_sum f n + g o := by
  intro n
  induction n with
  | zero => intro h; omega
  | succ n ih =>
    intro h
    show sg_sum g n + g n + f o = sg_sum f n + f n + g o
    by_cases e : o = n
    · subst e
      rw [sg_sum_congr (f := g) (g := f) (fun k hk => hg k (by omega))]
      omega
    · have h1 := ih (by omega)
      rw [hg n (fun q => e q.symm)]
      omega
theorem sg_sum_le {f : Nat → Nat} {o : Nat} : ∀ {n : Nat}, o < n → f o ≤ sg_sum f n := by
  intro n
  induction n with
  | zero => intro h; omega
  | succ n ih =>
    intro h
    show f o ≤ sg_sum f n + f n
    by_cases e : o = n
    · subst e; omega
    · have := ih (by omega)
      omega
theorem sg_sum_0 : ∀ n : Nat, sg_sum (fun _ => 0) n = 0 := by
  intro n
  induction n with
  | zero => rfl
  | succ n ih => show sg_sum _ n + 0 = 0; omega
theorem sg_cnt_le (i : Nat) : ∀ l : List sg_Ce, sg_cnt i l ≤ l.length := by
  intro l
  induction l with
  | nil => exact Nat.le_refl 0
  | cons c cs ih =>
    show (if sg_ci c = i then 1 else 0) + sg_cnt i cs ≤ cs.length + 1
    split <;> omega
