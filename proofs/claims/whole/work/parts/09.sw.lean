/-! THE CLASS'S PICTURE: what the cells of an EvenSwitch are in a state σ. ow colours the addresses: o: a cell in output o's order, 8+i: offered to i, 16+o: sent latest by o, 24+i: input, 32+o: output, 40+o: its steps, 48+o: its last times, 56 .. 58: the switch and its two arrays, 99: foreign. -/
abbrev sw_F (c : sg_Ce) (nx : Option Nat) : List Value := [.int (nI (sg_ci c)), .int (nI (sg_co c)), .int (nI (sg_cg c)), .int (sg_ct c), .long (lN (sg_cs c)), .int (sg_cc c), .long (sg_cm c), va_rf nx]
abbrev sw_c (c : sg_Ce) (nx : Option Nat) : va_E := .inr (ix_ce, sw_F c nx)
abbrev sw_o (kd : Int32) (sp lp : Nat) (hd : Option Nat) (n : Int32) (la : Option Nat) : va_E := .inr (ix_ou, [.int kd, .ref sp, .ref lp, va_rf hd, .int n, va_rf la])
abbrev sw_i (oa : Option Nat) (n : Int32) : va_E := .inr (ix_in, [va_rf oa, .int n])
abbrev sw_s (aI aO : Nat) (sl : Int32) (ac : Int64) : va_E := .inr (ix_sw, [.ref aI, .ref aO, .int sl, .long ac])
def sw_hd (L : List Nat) (nx : Option Nat) : Option Nat := match L with
  | [] => nx
  | y :: _ => some y
/-- a chain of cells, whose last one's next is nx -/
def sw_sg (M : hp_M) : List Nat → List sg_Ce → Option Nat → Prop
  | [], [], _ => True
  | x :: xs, c :: cs, nx => M x = some (sw_c c (sw_hd xs nx)) ∧ sw_sg M xs cs nx
  | _, _, _ => False
theorem sw_hd_app (K L : List Nat) (nx : Option Nat) : sw_hd (K ++ L) nx = sw_hd K (sw_hd L nx) := by
  cases K <;> rfl
theorem sw_sg_len {M : hp_M} {nx : Option Nat} : ∀ {L : List Nat} {cs : List sg_Ce}, sw_sg M L cs nx → L.length = cs.length := by
  intro L
  induction L with
  | nil =>
    intro cs h
    cases cs with
    | nil => rfl
    | cons c cs => exact absurd h (fun q => q)
  | cons x xs ih =>
    intro cs h
    cases cs with
    | nil => exact absurd h (fun q => q)
    | cons c cs => exact congrArg (· + 1) (ih h.2)
theorem sw_sg_app {M : hp_M} {L : List Nat} {cs : List sg_Ce} {nx : Option Nat} : ∀ {K : List Nat} {kc : List sg_Ce}, K.length = kc.length → (sw_sg M (K ++ L) (kc ++ cs) nx ↔ sw_sg M K kc (sw_hd L nx) ∧ sw_sg M L cs nx) := by
  intro K
  induction K with
  | nil =>
    intro kc h
    cases kc with
    | nil => exact ⟨fun q => ⟨trivial, q⟩, fun q => q.2⟩
    | cons c kc => simp at h
  | cons x xs ih =>
    intro kc h
    cases kc with
    | nil => simp at h
    | cons c kc =>
      have h1 := ih (kc := kc) (by simpa using h)
      show (M x = some (sw_c c (sw_hd (xs ++ L) nx)) ∧ sw_sg M (xs ++ L) (kc ++ cs) nx) ↔ (M x = some (sw_c c (sw_hd xs (sw_hd L nx))) ∧ sw_sg M xs kc (sw_hd L nx)) ∧ sw_sg M L cs nx
      rw [sw_hd_app, h1]
      exact ⟨fun q => ⟨⟨q.1, q.2.1⟩, q.2.2⟩, fun q => ⟨q.1.1, q.1.2, q.2⟩⟩
theorem sw_sg_kept {M M' : hp_M} {nx : Option Nat} : ∀ {L : List Nat} {cs : List sg_Ce}, sw_sg M L cs nx → (∀ x ∈ L, M' x = M x) → sw_sg M' L cs nx := by
  intro L
  induction L with
  | nil =>
    intro cs h _
    cases cs with
    | nil => trivial
    | cons c cs => exact absurd h (fun q => q)
  | cons x xs ih =>
    intro cs h hk
    cases cs with
    | nil => exact absurd h (fun q => q)
    | cons c cs => exact ⟨by rw [hk x List.mem_cons_self]; exact h.1, ih h.2 (fun y hy => hk y (List.mem_cons_of_mem _ hy))⟩
/-- a place that holds a cell or nothing -/
def sw_one (M : hp_M) (ow : Nat → Nat) (w : Nat) (a : Option Nat) (c : Option sg_Ce) : Prop := match a, c with
  | none, none => True
  | some x, some d => M x = some (sw_c d none) ∧ ow x = w
  | _, _ => False
theorem sw_one_n {M : hp_M} {ow : Nat → Nat} {w : Nat} : sw_one M ow w none none := trivial
theorem sw_one_no {M : hp_M} {ow : Nat → Nat} {w : Nat} {c : Option sg_Ce} (h : sw_one M ow w none c) : c = none := by
  cases c with
  | none => rfl
  | some d => exact absurd h (fun q => q)
theorem sw_one_yes {M : hp_M} {ow : Nat → Nat} {w x : Nat} {c : Option sg_Ce} (h : sw_one M ow w (some x) c) : ∃ d, c = some d ∧ M x = some (sw_c d none) ∧ ow x = w := by
  cases c with
  | none => exact absurd h (fun q => q)
  | some d => exact ⟨d, rfl, h.1, h.2⟩
theorem sw_one_kept {M M' : hp_M} {ow ow' : Nat → Nat} {w : Nat} {a : Option Nat} {c : Option sg_Ce} (h : sw_one M ow w a c) (hk : ∀ x, ow x = w → ow' x = ow x ∧ M' x = M x) : sw_one M' ow' w a c := by
  cases a with
  | none => exact (sw_one_no h) ▸ trivial
  | some x =>
    obtain ⟨d, rfl, h1, h2⟩ := sw_one_yes h
    obtain ⟨k1, k2⟩ := hk x h2
    exact ⟨by rw [k2]; exact h1, by rw [k1]; exact h2⟩
def sw_In (M : hp_M) (ow : Nat → Nat) (fI oa : Nat → Option Nat) (ip : Nat → Nat) (i h : Nat) (c : Option sg_Ce) : Prop := fI i = some (ip i) ∧ M (ip i) = some (sw_i (oa i) (nI h)) ∧ ow (ip i) = 24 + i ∧ sw_one M ow (8 + i) (oa i) c
def sw_Ou (D : va_G) (M : hp_M) (ow : Nat → Nat) (fO la : Nat → Option Nat) (op sp lp : Nat → Nat) (LQ : Nat → List Nat) (o : Nat) (kd : Int32) (wt : Nat → Int32) (lt : Nat → Int64) (qu : List sg_Ce) (se : Option sg_Ce) : Prop :=
  fO o = some (op o) ∧ M (op o) = some (sw_o kd (sp o) (lp o) (sw_hd (LQ o) none) (nI qu.length) (la o)) ∧ ow (op o) = 32 + o ∧
  (∃ f, M (sp o) = some (hp_ai D 8 f) ∧ ∀ g, g < 8 → f g = sg_step (wt g)) ∧ ow (sp o) = 40 + o ∧
  (∃ f, M (lp o) = some (hp_al D 8 f) ∧ ∀ g, g < 8 → f g = lt g) ∧ ow (lp o) = 48 + o ∧
  (sw_sg M (LQ o) qu none ∧ (LQ o).Nodup ∧ ∀ x ∈ LQ o, ow x = o) ∧ sw_one M ow (16 + o) (la o) se
theorem sw_In_kept {M M' : hp_M} {ow ow' : Nat → Nat} {fI oa : Nat → Option Nat} {ip : Nat → Nat} {i h : Nat} {c : Option sg_Ce} (q : sw_In M ow fI oa ip i h c) (hk : ∀ x, ow x = 8 + i ∨ ow x = 24 + i → ow' x = ow x ∧ M' x = M x) : sw_In M' ow' fI oa ip i h c := by
  obtain ⟨q1, q2, q3, q4⟩ := q
  obtain ⟨k1, k2⟩ := hk _ (Or.inr q3)
  exact ⟨q1, by rw [k2]; exact q2, by rw [k1]; exact q3, sw_one_kept q4 (fun x hx => hk x (Or.inl hx))⟩
theorem sw_Ou_kept {D : va_G} {M M' : hp_M} {ow ow' : Nat → Nat} {fO la la' : Nat → Option Nat} {op sp lp : Nat → Nat} {LQ LQ' : Nat → List Nat} {o : Nat} {kd : Int32} {wt : Nat → Int32} {lt : Nat → Int64} {qu : List sg_Ce} {se : Option sg_Ce} (q : sw_Ou D M ow fO la op sp lp LQ o kd wt lt qu se) (hk : ∀ x, ow x = o ∨ ow x = 16 + o ∨ ow x = 32 + o ∨ ow x = 40 + o ∨ ow x = 48 + o → ow' x = ow x ∧ M' x = M x) (hla : la' o = la o) (hLQ : LQ' o = LQ o) : sw_Ou D M' ow' fO la' op sp lp LQ' o kd wt lt qu se := by
  obtain ⟨q1, q2, q3, ⟨f, q4, q4'⟩, q5, ⟨f2, q6, q6'⟩, q7, ⟨q8, q9, q10⟩, q11⟩ := q
  have k3 := hk _ (Or.inr (Or.inr (Or.inl q3)))
  have k5 := hk _ (Or.inr (Or.inr (Or.inr (Or.inl q5))))
  have k7 := hk _ (Or.inr (Or.inr (Or.inr (Or.inr q7))))
  unfold sw_Ou
  rw [hla, hLQ, k3.1, k3.2, k5.1, k5.2, k7.1, k7.2]
  exact ⟨q1, q2, q3, ⟨f, q4, q4'⟩, q5, ⟨f2, q6, q6'⟩, q7, ⟨sw_sg_kept q8 (fun x hx => (hk x (Or.inl (q10 x hx))).2), q9, fun x hx => by rw [(hk x (Or.inl (q10 x hx))).1]; exact q10 x hx⟩, sw_one_kept q11 (fun x hx => hk x (Or.inr (Or.inl hx)))⟩
def sw_P (D : va_G) (M : hp_M) (a : Nat) (σ : sg_S) (hh : Nat → Nat) (F : Nat → Prop) (aI aO : Nat) (fI fO oa la : Nat → Option Nat) (ip op sp lp : Nat → Nat) (LQ : Nat → List Nat) (ow : Nat → Nat) : Prop :=
  (M a = some (sw_s aI aO (sg_sl σ) (lN (sg_ac σ))) ∧ M aI = some (hp_aq D 12 8 fI) ∧ M aO = some (hp_aq D 13 8 fO)) ∧
  (ow a = 56 ∧ ow aI = 57 ∧ ow aO = 58) ∧
  (∀ i, i < 8 → sw_In M ow fI oa ip i (hh i) (sg_of σ i)) ∧
  (∀ o, o < 8 → sw_Ou D M ow fO la op sp lp LQ o (sg_kd σ o) (sg_wt σ o) (sg_lt σ o) (sg_qu σ o) (sg_se σ o)) ∧
  ∀ x, F x → ow x = 99 ∧ M x ≠ none
def sw_H (D : va_G) (M : hp_M) (a : Nat) (σ : sg_S) (F : Nat → Prop) : Prop := ∃ (aI aO : Nat) (fI fO oa la : Nat → Option Nat) (ip op sp lp : Nat → Nat) (LQ : Nat → List Nat) (ow : Nat → Nat), sw_P D M a σ (sg_held σ) F aI aO fI fO oa la ip op sp lp LQ ow
/-- nothing foreign has changed -/
def sw_fr (F : Nat → Prop) (M M' : hp_M) : Prop := ∀ x, F x → M' x = M x
theorem sw_fr_rf {F : Nat → Prop} {M : hp_M} : sw_fr F M M := fun _ _ => rfl
theorem sw_fr_tr {F : Nat → Prop} {M M' M'' : hp_M} (h : sw_fr F M M') (h' : sw_fr F M' M'') : sw_fr F M M'' := fun x hx => (h' x hx).trans (h x hx)
/-- a foreign change leaves the picture -/
theorem sw_H_kept {D : va_G} {M M' : hp_M} {a : Nat} {σ : sg_S} {F : Nat → Prop} (h : sw_H D M a σ F) (hk : ∀ x, ¬ F x → M' x = M x) (hF : ∀ x, F x → M' x ≠ none) : sw_H D M' a σ F := by
  obtain ⟨aI, aO, fI, fO, oa, la, ip, op, sp, lp, LQ, ow, ⟨h1, h2, h3⟩, ⟨w1, w2, w3⟩, hi, ho, hf⟩ := h
  have k : ∀ x, ow x ≠ 99 → ow x = ow x ∧ M' x = M x := fun x hx => ⟨rfl, hk x (fun q => hx (hf x q).1)⟩
  refine ⟨aI, aO, fI, fO, oa, la, ip, op, sp, lp, LQ, ow, ⟨?_, ?_, ?_⟩, ⟨w1, w2, w3⟩, fun i hi' => ?_, fun o ho' => ?_, fun x hx => ⟨(hf x hx).1, hF x hx⟩⟩
  · rw [(k a (by omega)).2]; exact h1
  · rw [(k aI (by omega)).2]; exact h2
  · rw [(k aO (by omega)).2]; exact h3
  · exact sw_In_kept (hi i hi') (fun x hx => k x (by omega))
  · exact sw_Ou_kept (ho o ho') (fun x hx => k x (by omega)) rfl rfl
theorem sw_one_or {M : hp_M} {ow : Nat → Nat} {w : Nat} {a : Option Nat} {c : Option sg_Ce} (h : sw_one M ow w a c) : (a = none ∧ c = none) ∨ ∃ (q : Nat) (d : sg_Ce) (nx : Option Nat), a = some q ∧ c = some d ∧ M q = some (sw_c d nx) := by
  cases a with
  | none => exact Or.inl ⟨rfl, sw_one_no h⟩
  | some q =>
    obtain ⟨d, e, h1, _⟩ := sw_one_yes h
    exact Or.inr ⟨q, d, none, rfl, e, h1⟩
theorem sw_sg_at {M : hp_M} {nx : Option Nat} : ∀ {L : List Nat} {cs : List sg_Ce}, sw_sg M L cs nx → ∀ {p : Nat}, p < cs.length → ∃ (q : Nat) (c : sg_Ce), L.drop p = q :: L.drop (p + 1) ∧ cs.drop p = c :: cs.drop (p + 1) ∧ cs[p]? = some c ∧ M q = some (sw_c c (sw_hd (L.drop (p + 1)) nx)) := by
  intro L
  induction L with
  | nil =>
    intro cs h p hp
    cases cs with
    | nil => exact absurd hp (Nat.not_lt_zero _)
    | cons c cs => exact absurd h (fun q => q)
  | cons x xs ih =>
    intro cs h p hp
    cases cs with
    | nil => exact absurd h (fun q => q)
    | cons c cs =>
      cases p with
      | zero => exact ⟨x, c, rfl, rfl, rfl, h.1⟩
      | succ p =>
        obtain ⟨q, d, h1, h2, h3, h4⟩ := ih h.2 (p := p) (Nat.lt_of_succ_lt_succ hp)
        exact ⟨q, d, h1, h2, h3, h4⟩
theorem sw_sg_nil {M : hp_M} {nx : Option Nat} {L : List Nat} {cs : List sg_Ce} (h : sw_sg M L cs nx) (hc : cs = []) : L = [] := by
  have := sw_sg_len h
  rw [hc] at this
  exact List.eq_nil_of_length_eq_zero this
theorem sw_sg_cons {M : hp_M} {nx : Option Nat} {L : List Nat} {c : sg_Ce} {cs : List sg_Ce} (h : sw_sg M L (c :: cs) nx) : ∃ x xs, L = x :: xs ∧ M x = some (sw_c c (sw_hd xs nx)) ∧ sw_sg M xs cs nx := by
  cases L with
  | nil => exact absurd h (fun q => q)
  | cons x xs => exact ⟨x, xs, rfl, h.1, h.2⟩
