section SW4
variable {D : va_G} {M M1 : hp_M} {a : Nat} {σ τ : sg_S} {hh hh' : Nat → Nat} {F : Nat → Prop} {aI aO : Nat} {fI fO oa la oa' la' : Nat → Option Nat} {ip op sp lp : Nat → Nat} {LQ LQ' : Nat → List Nat} {ow ow' : Nat → Nat}
/-- a change at one output and one input -/
theorem sw_P_gen (h : sw_P D M a σ hh F aI aO fI fO oa la ip op sp lp LQ ow) {o i : Nat} (hk : ∀ x, ow x ≠ o → ow x ≠ 16 + o → ow x ≠ 32 + o → ow x ≠ 40 + o → ow x ≠ 48 + o → ow x ≠ 8 + i → ow x ≠ 24 + i → ow' x = ow x ∧ M1 x = M x) (ho : o < 8) (hi8 : i < 8) (h1 : sg_sl σ = sg_sl τ) (h2 : sg_ac σ = sg_ac τ) (h3 : ∀ j, j < 8 → j ≠ i → sg_of σ j = sg_of τ j ∧ hh j = hh' j ∧ oa' j = oa j) (h4 : ∀ x, x < 8 → x ≠ o → sg_kd σ x = sg_kd τ x ∧ sg_wt σ x = sg_wt τ x ∧ sg_lt σ x = sg_lt τ x ∧ sg_qu σ x = sg_qu τ x ∧ sg_se σ x = sg_se τ x ∧ la' x = la x ∧ LQ' x = LQ x) (hn : sw_In M1 ow' fI oa' ip i (hh' i) (sg_of τ i)) (hm : sw_Ou D M1 ow' fO la' op sp lp LQ' o (sg_kd τ o) (sg_wt τ o) (sg_lt τ o) (sg_qu τ o) (sg_se τ o)) : sw_P D M1 a τ hh' F aI aO fI fO oa' la' ip op sp lp LQ' ow' ∧ sw_fr F M M1 := by
  obtain ⟨⟨g1, g2, g3⟩, ⟨w1, w2, w3⟩, hi, hou, hf⟩ := h
  have kk : ∀ x, 56 ≤ ow x → ow' x = ow x ∧ M1 x = M x := fun x hx => hk x (by omega) (by omega) (by omega) (by omega) (by omega) (by omega) (by omega)
  have kf : ∀ x, F x → ow' x = ow x ∧ M1 x = M x := fun x hx => kk x (by have := (hf x hx).1; omega)
  have ka := kk a (by omega)
  have kI := kk aI (by omega)
  have kO := kk aO (by omega)
  refine ⟨⟨⟨by rw [ka.2, ← h1, ← h2]; exact g1, by rw [kI.2]; exact g2, by rw [kO.2]; exact g3⟩, ⟨by rw [ka.1]; exact w1, by rw [kI.1]; exact w2, by rw [kO.1]; exact w3⟩, fun j q => ?_, fun x q => ?_, fun x hx => ⟨by rw [(kf x hx).1]; exact (hf x hx).1, by rw [(kf x hx).2]; exact (hf x hx).2⟩⟩, fun x hx => (kf x hx).2⟩
  · by_cases z : j = i
    · subst z; exact hn
    · obtain ⟨e1, e2, e3⟩ := h3 j q z
      obtain ⟨q1, q2, q3, q4⟩ := hi j q
      obtain ⟨k1, k2⟩ := hk (ip j) (by omega) (by omega) (by omega) (by omega) (by omega) (by omega) (by omega)
      unfold sw_In
      rw [← e1, ← e2, e3]
      exact ⟨q1, by rw [k2]; exact q2, by rw [k1]; exact q3, sw_one_kept q4 (fun x hx => hk x (by omega) (by omega) (by omega) (by omega) (by omega) (by omega) (by omega))⟩
  · by_cases z : x = o
    · subst z; exact hm
    · obtain ⟨e1, e2, e3, e4, e5, e6, e7⟩ := h4 x q z
      rw [← e1, ← e2, ← e3, ← e4, ← e5]
      exact sw_Ou_kept (hou x q) (fun y hy => hk y (by omega) (by omega) (by omega) (by omega) (by omega) (by omega) (by omega)) e6 e7
/-- the cell offered to i comes -/
theorem sw_do_come (h : sw_P D M a σ hh F aI aO fI fO oa la ip op sp lp LQ ow) {i : Nat} {c : sg_Ce} (hi8 : i < 8) (ho : sg_co c < 8) (hc : sg_of σ i = some c) {q : Nat} (hq : oa i = some q) {L' : List Nat} {g : Nat → Int64}
    (hg : ∀ j, j < 8 → g j = if sg_kd σ (sg_co c) = 2 then va_up (sg_lt σ (sg_co c)) (sg_cg c) (sg_time σ (sg_co c) (sg_cg c)) j else sg_lt σ (sg_co c) j)
    (p1 : M1 (op (sg_co c)) = some (sw_o (sg_kd σ (sg_co c)) (sp (sg_co c)) (lp (sg_co c)) (sw_hd L' none) (nI (sg_qu σ (sg_co c)).length + 1) (la (sg_co c)))) (p2 : M1 (lp (sg_co c)) = some (hp_al D 8 g)) (p3 : sw_sg M1 L' (sg_ins (sg_kd σ (sg_co c)) (sg_cell σ c) (sg_qu σ (sg_co c))) none) (p4 : L'.Nodup) (p5 : ∀ x, x ∈ L' ↔ x = q ∨ x ∈ LQ (sg_co c))
    (p6 : ∀ x, x ≠ op (sg_co c) → x ≠ lp (sg_co c) → x ≠ q → x ∉ LQ (sg_co c) → M1 x = va_up M (ip i) (some (sw_i none (nI (hh i)))) x) : sw_P D M1 a (sg_come1 σ i c) hh F aI aO fI fO (va_up oa i none) la ip op sp lp (va_up LQ (sg_co c) L') (va_up ow q (sg_co c)) ∧ sw_fr F M M1 := by
  obtain ⟨i1, i2, i3, i4⟩ := h.2.2.1 i hi8
  rw [hq] at i4
  obtain ⟨d, -, -, i5⟩ := sw_one_yes i4
  obtain ⟨q1, q2, q3, ⟨f, q4, q4'⟩, q5, ⟨f2, q6, q6'⟩, q7, ⟨q8, q9, q10⟩, q11⟩ := h.2.2.2.1 (sg_co c) ho
  have hne : ∀ x, ow x ≠ 8 + i → x ≠ q := fun x hx z => hx (by rw [z]; exact i5)
  have kM : ∀ x, ow x ≠ sg_co c → ow x ≠ 32 + sg_co c → ow x ≠ 48 + sg_co c → ow x ≠ 8 + i → ow x ≠ 24 + i → M1 x = M x := fun x a1 a2 a3 a4 a5 => by
    rw [p6 x (fun z => a2 (by rw [z]; exact q3)) (fun z => a3 (by rw [z]; exact q7)) (hne x a4) (fun z => a1 (q10 x z)), va_up_ne _ _ (fun z => a5 (by rw [z]; exact i3))]
  refine sw_P_gen (τ := sg_come1 σ i c) h (o := sg_co c) (i := i) (fun x a1 _ a3 _ a5 a6 a7 => ⟨va_up_ne _ _ (hne x a6), kM x a1 a3 a5 a6 a7⟩) ho hi8 rfl rfl (fun j _ hj => ⟨?_, rfl, va_up_ne _ _ hj⟩) (fun x _ hx => ⟨rfl, rfl, ?_, ?_, rfl, rfl, va_up_ne _ _ hx⟩) ?_ ?_
  · show _ = va_up (sg_of σ) i none j
    rw [va_up_ne _ _ hj]
  · show _ = (if sg_kd σ (sg_co c) = 2 then va_up (sg_lt σ) (sg_co c) (va_up (sg_lt σ (sg_co c)) (sg_cg c) (sg_time σ (sg_co c) (sg_cg c))) else sg_lt σ) x
    split
    · rw [va_up_ne _ _ hx]
    · rfl
  · show _ = va_up (sg_qu σ) (sg_co c) _ x
    rw [va_up_ne _ _ hx]
  · show sw_In M1 (va_up ow q (sg_co c)) fI (va_up oa i none) ip i (hh i) (va_up (sg_of σ) i none i)
    unfold sw_In
    rw [va_up_self, va_up_self]
    refine ⟨i1, ?_, by rw [va_up_ne _ _ (hne _ (by omega))]; exact i3, trivial⟩
    rw [p6 (ip i) (fun z => by rw [z] at i3; omega) (fun z => by rw [z] at i3; omega) (hne _ (by omega)) (fun z => by have := q10 _ z; omega)]
    exact va_up_self _ _ _
  · show sw_Ou D M1 (va_up ow q (sg_co c)) fO la op sp lp (va_up LQ (sg_co c) L') (sg_co c) (sg_kd σ (sg_co c)) (sg_wt σ (sg_co c)) ((if sg_kd σ (sg_co c) = 2 then va_up (sg_lt σ) (sg_co c) (va_up (sg_lt σ (sg_co c)) (sg_cg c) (sg_time σ (sg_co c) (sg_cg c))) else sg_lt σ) (sg_co c)) (va_up (sg_qu σ) (sg_co c) (sg_ins (sg_kd σ (sg_co c)) (sg_cell σ c) (sg_qu σ (sg_co c))) (sg_co c)) (sg_se σ (sg_co c))
    unfold sw_Ou
    rw [va_up_self, va_up_self, sg_ins_len]
    refine ⟨q1, ?_, by rw [va_up_ne _ _ (hne _ (by omega))]; exact q3, ⟨f, by rw [kM _ (by omega) (by omega) (by omega) (by omega) (by omega)]; exact q4, q4'⟩, by rw [va_up_ne _ _ (hne _ (by omega))]; exact q5, ⟨g, p2, fun j hj => ?_⟩, by rw [va_up_ne _ _ (hne _ (by omega))]; exact q7, ⟨p3, p4, fun x hx => ?_⟩, sw_one_kept q11 (fun x hx => ⟨va_up_ne _ _ (hne x (by omega)), kM x (by omega) (by omega) (by omega) (by omega) (by omega)⟩)⟩
    · rw [← nI_1]; exact p1
    · rw [hg j hj]
      split
      · rw [va_up_self]
      · rfl
    · rcases (p5 x).mp hx with z | z
      · rw [z]; exact va_up_self _ _ _
      · rw [va_up_ne _ _ (hne x (by have := q10 x z; omega))]; exact q10 x z
/-- output o has nothing to send -/
theorem sw_do_send0 (h : sw_P D M a σ hh F aI aO fI fO oa la ip op sp lp LQ ow) {o : Nat} (ho : o < 8) (hq : sg_qu σ o = []) (e : M1 = va_up M (op o) (some (sw_o (sg_kd σ o) (sp o) (lp o) none (nI (sg_qu σ o).length) none))) : sw_P D M1 a (sg_send0 σ o) hh F aI aO fI fO oa (va_up la o none) ip op sp lp LQ ow ∧ sw_fr F M M1 := by
  obtain ⟨q1, q2, q3, ⟨f, q4, q4'⟩, q5, ⟨f2, q6, q6'⟩, q7, ⟨q8, q9, q10⟩, q11⟩ := h.2.2.2.1 o ho
  have hL : LQ o = [] := sw_sg_nil q8 hq
  have k0 : ∀ x, ow x ≠ 32 + o → M1 x = M x := fun x hx => by rw [e, va_up_ne _ _ (fun z => hx (by rw [z]; exact q3))]
  refine sw_P_gen (τ := sg_send0 σ o) h (o := o) (i := 0) (fun x _ _ a3 _ _ _ _ => ⟨rfl, k0 x a3⟩) ho (by decide) rfl rfl (fun j _ hj => ⟨rfl, rfl, rfl⟩) (fun x _ hx => ⟨rfl, rfl, rfl, rfl, ?_, va_up_ne _ _ hx, rfl⟩) (sw_In_kept (h.2.2.1 0 (by decide)) (fun x hx => ⟨rfl, k0 x (by omega)⟩)) ?_
  · show _ = va_up (sg_se σ) o none x
    rw [va_up_ne _ _ hx]
  · show sw_Ou D M1 ow fO (va_up la o none) op sp lp LQ o (sg_kd σ o) (sg_wt σ o) (sg_lt σ o) (sg_qu σ o) (va_up (sg_se σ) o none o)
    unfold sw_Ou
    rw [va_up_self, va_up_self]
    refine ⟨q1, ?_, q3, ⟨f, by rw [k0 _ (by omega)]; exact q4, q4'⟩, q5, ⟨f2, by rw [k0 _ (by omega)]; exact q6, q6'⟩, q7, ⟨sw_sg_kept q8 (fun x hx => k0 x (by have := q10 x hx; omega)), q9, q10⟩, trivial⟩
    rw [e, hL]; exact va_up_self _ _ _
/-- output o sends its first cell -/
theorem sw_do_send1 (h : sw_P D M a σ hh F aI aO fI fO oa la ip op sp lp LQ ow) {o : Nat} (ho : o < 8) {c : sg_Ce} {cs : List sg_Ce} (hq : sg_qu σ o = c :: cs) (hi8 : sg_ci c < 8) {x : Nat} {xs : List Nat} (hL : LQ o = x :: xs) {g : Nat → Int64} (hg : ∀ j, j < 8 → g j = if cs = [] then 0 else sg_lt σ o j) {N : Int32} (hN : N = nI cs.length) {K : Nat} (hK : hh (sg_ci c) = K + 1)
    (p1 : M1 (op o) = some (sw_o (sg_kd σ o) (sp o) (lp o) (sw_hd xs none) N (some x))) (p2 : M1 (lp o) = some (hp_al D 8 g)) (p3 : M1 x = some (sw_c c none)) (p4 : M1 (ip (sg_ci c)) = some (sw_i (oa (sg_ci c)) (nI K)))
    (p6 : ∀ y, y ≠ op o → y ≠ lp o → y ≠ x → y ≠ ip (sg_ci c) → M1 y = M y) : sw_P D M1 a (sg_send1 σ o c cs) (va_up hh (sg_ci c) K) F aI aO fI fO oa (va_up la o (some x)) ip op sp lp (va_up LQ o xs) (va_up ow x (16 + o)) ∧ sw_fr F M M1 := by
  obtain ⟨i1, i2, i3, i4⟩ := h.2.2.1 (sg_ci c) hi8
  obtain ⟨q1, q2, q3, ⟨f, q4, q4'⟩, q5, ⟨f2, q6, q6'⟩, q7, ⟨q8, q9, q10⟩, q11⟩ := h.2.2.2.1 o ho
  have hxo : ow x = o := q10 x (by rw [hL]; exact List.mem_cons_self)
  have hne : ∀ y, ow y ≠ o → y ≠ x := fun y hy z => hy (by rw [z]; exact hxo)
  rw [hL, hq] at q8
  rw [hL] at q9 q10
  obtain ⟨n1, n2⟩ := List.nodup_cons.mp q9
  have kM : ∀ y, y ≠ x → ow y ≠ 32 + o → ow y ≠ 48 + o → ow y ≠ 24 + sg_ci c → M1 y = M y := fun y a1 a2 a3 a4 => p6 y (fun z => a2 (by rw [z]; exact q3)) (fun z => a3 (by rw [z]; exact q7)) a1 (fun z => a4 (by rw [z]; exact i3))
  refine sw_P_gen (τ := sg_send1 σ o c cs) h (o := o) (i := sg_ci c) (fun y a1 _ a3 _ a5 a6 a7 => ⟨va_up_ne _ _ (hne y a1), kM y (hne y a1) a3 a5 a7⟩) ho hi8 rfl rfl (fun j _ hj => ⟨rfl, (va_up_ne _ _ hj).symm, rfl⟩) (fun y _ hy => ⟨rfl, rfl, ?_, ?_, ?_, va_up_ne _ _ hy, va_up_ne _ _ hy⟩) ?_ ?_
  · show _ = (if cs = [] then va_up (sg_lt σ) o (fun _ => 0) else sg_lt σ) y
    split
    · rw [va_up_ne _ _ hy]
    · rfl
  · show _ = va_up (sg_qu σ) o cs y
    rw [va_up_ne _ _ hy]
  · show _ = va_up (sg_se σ) o (some c) y
    rw [va_up_ne _ _ hy]
  · show sw_In M1 (va_up ow x (16 + o)) fI oa ip (sg_ci c) (va_up hh (sg_ci c) K (sg_ci c)) (sg_of σ (sg_ci c))
    unfold sw_In
    rw [va_up_self]
    exact ⟨i1, p4, by rw [va_up_ne _ _ (hne _ (by omega))]; exact i3, sw_one_kept i4 (fun y hy => ⟨va_up_ne _ _ (hne y (by omega)), kM y (hne y (by omega)) (by omega) (by omega) (by omega)⟩)⟩
  · show sw_Ou D M1 (va_up ow x (16 + o)) fO (va_up la o (some x)) op sp lp (va_up LQ o xs) o (sg_kd σ o) (sg_wt σ o) ((if cs = [] then va_up (sg_lt σ) o (fun _ => 0) else sg_lt σ) o) (va_up (sg_qu σ) o cs o) (va_up (sg_se σ) o (some c) o)
    unfold sw_Ou
    rw [va_up_self, va_up_self, va_up_self, va_up_self]
    refine ⟨q1, by rw [← hN]; exact p1, by rw [va_up_ne _ _ (hne _ (by omega))]; exact q3, ⟨f, by rw [kM _ (hne _ (by omega)) (by omega) (by omega) (by omega)]; exact q4, q4'⟩, by rw [va_up_ne _ _ (hne _ (by omega))]; exact q5, ⟨g, p2, fun j hj => ?_⟩, by rw [va_up_ne _ _ (hne _ (by omega))]; exact q7, ⟨sw_sg_kept q8.2 (fun y hy => ?_), n2, fun y hy => ?_⟩, p3, va_up_self _ _ _⟩
    · rw [hg j hj]
      split
      · rw [va_up_self]
      · rfl
    · have hyo := q10 y (List.mem_cons_of_mem _ hy)
      exact kM y (fun z => n1 (z ▸ hy)) (by omega) (by omega) (by omega)
    · rw [va_up_ne _ _ (hp_nm hy n1)]
      exact q10 y (List.mem_cons_of_mem _ hy)
/-- a port is emptied -/
def sg_res1 (σ : sg_S) (n : Nat) : sg_S := (sg_kd σ, sg_wt σ, va_up (sg_lt σ) n (fun _ => 0), va_up (sg_qu σ) n [], va_up (sg_of σ) n none, sg_sl σ, sg_ac σ, va_up (sg_se σ) n none)
theorem sw_do_res1 (h : sw_P D M a σ hh F aI aO fI fO oa la ip op sp lp LQ ow) {n : Nat} (hn : n < 8) {g : Nat → Int64} (hg : ∀ j, j < 8 → g j = 0) (p1 : M1 (op n) = some (sw_o (sg_kd σ n) (sp n) (lp n) none 0 none)) (p2 : M1 (lp n) = some (hp_al D 8 g)) (p3 : M1 (ip n) = some (sw_i none 0)) (p6 : ∀ y, y ≠ op n → y ≠ lp n → y ≠ ip n → M1 y = M y) : sw_P D M1 a (sg_res1 σ n) (va_up hh n 0) F aI aO fI fO (va_up oa n none) (va_up la n none) ip op sp lp (va_up LQ n []) ow ∧ sw_fr F M M1 := by
  obtain ⟨i1, i2, i3, i4⟩ := h.2.2.1 n hn
  obtain ⟨q1, q2, q3, ⟨f, q4, q4'⟩, q5, ⟨f2, q6, q6'⟩, q7, ⟨q8, q9, q10⟩, q11⟩ := h.2.2.2.1 n hn
  have kM : ∀ y, ow y ≠ 32 + n → ow y ≠ 48 + n → ow y ≠ 24 + n → M1 y = M y := fun y a2 a3 a4 => p6 y (fun z => a2 (by rw [z]; exact q3)) (fun z => a3 (by rw [z]; exact q7)) (fun z => a4 (by rw [z]; exact i3))
  refine sw_P_gen (τ := sg_res1 σ n) h (o := n) (i := n) (fun y _ _ a3 _ a5 _ a7 => ⟨rfl, kM y a3 a5 a7⟩) hn hn rfl rfl (fun j _ hj => ⟨?_, (va_up_ne _ _ hj).symm, va_up_ne _ _ hj⟩) (fun y _ hy => ⟨rfl, rfl, ?_, ?_, ?_, va_up_ne _ _ hy, va_up_ne _ _ hy⟩) ?_ ?_
  · show _ = va_up (sg_of σ) n none j
    rw [va_up_ne _ _ hj]
  · show _ = va_up (sg_lt σ) n (fun _ => 0) y
    rw [va_up_ne _ _ hy]
  · show _ = va_up (sg_qu σ) n [] y
    rw [va_up_ne _ _ hy]
  · show _ = va_up (sg_se σ) n none y
    rw [va_up_ne _ _ hy]
  · show sw_In M1 ow fI (va_up oa n none) ip n (va_up hh n 0 n) (va_up (sg_of σ) n none n)
    unfold sw_In
    rw [va_up_self, va_up_self, va_up_self]
    exact ⟨i1, p3, i3, trivial⟩
  · show sw_Ou D M1 ow fO (va_up la n none) op sp lp (va_up LQ n []) n (sg_kd σ n) (sg_wt σ n) (va_up (sg_lt σ) n (fun _ => 0) n) (va_up (sg_qu σ) n [] n) (va_up (sg_se σ) n none n)
    unfold sw_Ou
    rw [va_up_self, va_up_self, va_up_self, va_up_self, va_up_self]
    exact ⟨q1, p1, q3, ⟨f, by rw [kM _ (by omega) (by omega) (by omega)]; exact q4, q4'⟩, q5, ⟨g, p2, hg⟩, q7, ⟨trivial, List.nodup_nil, fun x hx => absurd hx List.not_mem_nil⟩, trivial⟩
end SW4
