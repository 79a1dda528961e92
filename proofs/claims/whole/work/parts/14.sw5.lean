section SW5
variable {D : va_G} {M M1 : hp_M} {a : Nat} {σ : sg_S} {F : Nat → Prop} {aI aO : Nat} {fI fO oa la : Nat → Option Nat} {ip op sp lp : Nat → Nat} {LQ : Nat → List Nat} {ow : Nat → Nat}
theorem sw_H_offer (h : sw_P D M a σ (sg_held σ) F aI aO fI fO oa la ip op sp lp LQ ow) {i o g : Nat} (hi8 : i < 8) (hn : sg_of σ i = none) {t : Int32} {q : Nat} (hq : M q = none) (e : M1 = va_up (va_up (va_up M q (some (sw_c (i, o, g, t, sg_ac σ, 0, 0) none))) (ip i) (some (sw_i (some q) (nI (sg_held σ i + 1))))) a (some (sw_s aI aO (sg_sl σ) (lN (sg_ac σ + 1))))) : sw_H D M1 a (sg_offer σ i o g t) F ∧ sw_fr F M M1 := by
  obtain ⟨p1, p2⟩ := sw_do_offer h hi8 hq e
  refine ⟨⟨_, _, _, _, _, _, _, _, _, _, _, _, sw_P_eq p1 rfl rfl (fun j _ => ⟨?_, rfl⟩) (fun _ _ => ⟨rfl, rfl, rfl, rfl, rfl⟩)⟩, p2⟩
  rw [sg_held_offer hn]
  by_cases z : j = i
  · subst z; rw [va_up_self, if_pos rfl]
  · rw [va_up_ne _ _ z, if_neg z]; rfl
theorem sw_H_come (h : sw_P D M a σ (sg_held σ) F aI aO fI fO oa la ip op sp lp LQ ow) (hinv : sg_inv σ) {i : Nat} {c : sg_Ce} (hi8 : i < 8) (hc : sg_of σ i = some c) {q : Nat} (hq : oa i = some q) {L' : List Nat} {g fl : Nat → Int64} {fs : Nat → Int32} (hfl : ∀ j, j < 8 → fl j = sg_lt σ (sg_co c) j) (hfs : ∀ j, j < 8 → fs j = sg_step (sg_wt σ (sg_co c) j)) {t : Int64} (ht : t = (if fl (sg_cg c) < 256 * (sg_sl σ).toInt64 then 256 * (sg_sl σ).toInt64 else fl (sg_cg c)) + (fs (sg_cg c)).toInt64)
    (hg : ∀ j, j < 8 → g j = if sg_kd σ (sg_co c) = 2 then va_up fl (sg_cg c) t j else fl j)
    (p1 : M1 (op (sg_co c)) = some (sw_o (sg_kd σ (sg_co c)) (sp (sg_co c)) (lp (sg_co c)) (sw_hd L' none) (nI (sg_qu σ (sg_co c)).length + 1) (la (sg_co c)))) (p2 : M1 (lp (sg_co c)) = some (hp_al D 8 g)) (p3 : sw_sg M1 L' (sg_ins (sg_kd σ (sg_co c)) (sg_ci c, sg_co c, sg_cg c, sg_ct c, sg_cs c, sg_sl σ, if sg_kd σ (sg_co c) = 2 then t else sg_cm c) (sg_qu σ (sg_co c))) none) (p4 : L'.Nodup) (p5 : ∀ x, x ∈ L' ↔ x = q ∨ x ∈ LQ (sg_co c))
    (p6 : ∀ x, x ≠ op (sg_co c) → x ≠ lp (sg_co c) → x ≠ q → x ∉ LQ (sg_co c) → M1 x = va_up M (ip i) (some (sw_i none (nI (sg_held σ i)))) x) : sw_H D M1 a (sg_come σ i) F ∧ sw_fr F M M1 := by
  obtain ⟨c1, c2, c3, c4, c5, c6⟩ := (hinv.2.1 i hi8).2 c hc
  have et : t = sg_time σ (sg_co c) (sg_cg c) := by
    rw [ht, hfl _ c3, hfs _ c3]; rfl
  rw [et] at hg p3
  rw [c6] at p3
  obtain ⟨r1, r2⟩ := sw_do_come h hi8 c2 hc hq (g := g) (fun j hj => by
    rw [hg j hj]
    split
    · by_cases z : j = sg_cg c
      · rw [z, va_up_self, va_up_self]
      · rw [va_up_ne _ _ z, va_up_ne _ _ z]; exact hfl j hj
    · exact hfl j hj) p1 p2 p3 p4 p5 p6
  have e : sg_come σ i = sg_come1 σ i c := by unfold sg_come; rw [hc]
  rw [e]
  exact ⟨⟨_, _, _, _, _, _, _, _, _, _, _, _, sw_P_eq r1 rfl rfl (fun j _ => ⟨(sg_held_come1 hc c1 c2 j).symm, rfl⟩) (fun _ _ => ⟨rfl, rfl, rfl, rfl, rfl⟩)⟩, r2⟩
theorem sw_H_send0 (h : sw_P D M a σ (sg_held σ) F aI aO fI fO oa la ip op sp lp LQ ow) {o : Nat} (ho : o < 8) (hq : sg_qu σ o = []) (e : M1 = va_up M (op o) (some (sw_o (sg_kd σ o) (sp o) (lp o) none (nI (sg_qu σ o).length) none))) : sw_H D M1 a (sg_send σ o) F ∧ sw_fr F M M1 := by
  obtain ⟨r1, r2⟩ := sw_do_send0 h ho hq e
  rw [sg_send_nil hq]
  exact ⟨⟨_, _, _, _, _, _, _, _, _, _, _, _, sw_P_eq r1 rfl rfl (fun j _ => ⟨rfl, rfl⟩) (fun _ _ => ⟨rfl, rfl, rfl, rfl, rfl⟩)⟩, r2⟩
theorem sw_H_send1 (h : sw_P D M a σ (sg_held σ) F aI aO fI fO oa la ip op sp lp LQ ow) {o : Nat} (ho : o < 8) {c : sg_Ce} {cs : List sg_Ce} (hq : sg_qu σ o = c :: cs) (hi8 : sg_ci c < 8) {x : Nat} {xs : List Nat} (hL : LQ o = x :: xs) {g : Nat → Int64} (hg : ∀ j, j < 8 → g j = if cs = [] then 0 else sg_lt σ o j) {N : Int32} (hN : N = nI cs.length) {K : Nat} (hK : sg_held σ (sg_ci c) = K + 1)
    (p1 : M1 (op o) = some (sw_o (sg_kd σ o) (sp o) (lp o) (sw_hd xs none) N (some x))) (p2 : M1 (lp o) = some (hp_al D 8 g)) (p3 : M1 x = some (sw_c c none)) (p4 : M1 (ip (sg_ci c)) = some (sw_i (oa (sg_ci c)) (nI K)))
    (p6 : ∀ y, y ≠ op o → y ≠ lp o → y ≠ x → y ≠ ip (sg_ci c) → M1 y = M y) : sw_H D M1 a (sg_send σ o) F ∧ sw_fr F M M1 := by
  obtain ⟨r1, r2⟩ := sw_do_send1 h ho hq hi8 hL hg hN hK p1 p2 p3 p4 p6
  rw [sg_send_cons hq]
  refine ⟨⟨_, _, _, _, _, _, _, _, _, _, _, _, sw_P_eq r1 rfl rfl (fun j _ => ⟨?_, rfl⟩) (fun _ _ => ⟨rfl, rfl, rfl, rfl, rfl⟩)⟩, r2⟩
  have e := sg_held_send1 hq ho j
  by_cases z : j = sg_ci c
  · subst z
    rw [va_up_self]
    rw [if_pos rfl] at e
    omega
  · rw [va_up_ne _ _ z]
    rw [if_neg (fun q => z q.symm)] at e
    omega
theorem sw_H_tick (h : sw_P D M a σ (sg_held σ) F aI aO fI fO oa la ip op sp lp LQ ow) {t : Int32} (e : M1 = va_up M a (some (sw_s aI aO t (lN (sg_ac σ))))) : sw_H D M1 a (sg_kd σ, sg_wt σ, sg_lt σ, sg_qu σ, sg_of σ, t, sg_ac σ, sg_se σ) F ∧ sw_fr F M M1 := by
  obtain ⟨⟨g1, g2, g3⟩, ⟨w1, w2, w3⟩, hi, hou, hf⟩ := h
  have k0 : ∀ x, ow x ≠ 56 → M1 x = M x := fun x hx => by rw [e, va_up_ne _ _ (fun z => hx (by rw [z]; exact w1))]
  have kf : ∀ x, F x → M1 x = M x := fun x hx => k0 x (by have := (hf x hx).1; omega)
  refine ⟨⟨aI, aO, fI, fO, oa, la, ip, op, sp, lp, LQ, ow, ⟨by rw [e]; exact va_up_self _ _ _, by rw [k0 _ (by omega)]; exact g2, by rw [k0 _ (by omega)]; exact g3⟩, ⟨w1, w2, w3⟩, fun i q => sw_In_kept (hi i q) (fun x hx => ⟨rfl, k0 x (by omega)⟩), fun o q => sw_Ou_kept (hou o q) (fun x hx => ⟨rfl, k0 x (by omega)⟩) rfl rfl, fun x hx => ⟨(hf x hx).1, by rw [kf x hx]; exact (hf x hx).2⟩⟩, kf⟩
end SW5
theorem sg_step_eq (w : Int32) : (65536 + w - 1) / w = sg_step w := by
  have e : (65536 : Int32) + w - 1 = 65535 + w := by
    rw [Int32.add_comm 65536 w, Int32.sub_eq_add_neg, Int32.add_assoc, Int32.add_comm]
    rfl
  rw [e]; rfl
theorem sg_w_or (x y w : Int32) : (sg_ix x = none) ∨ (∃ o, o < 8 ∧ x = nI o ∧ sg_ix x = some o ∧ sg_ix y = none) ∨ (∃ o g, o < 8 ∧ x = nI o ∧ sg_ix x = some o ∧ g < 8 ∧ y = nI g ∧ sg_ix y = some g ∧ ¬ (1 ≤ w ∧ w ≤ 255)) ∨ ∃ o g, o < 8 ∧ x = nI o ∧ sg_ix x = some o ∧ g < 8 ∧ y = nI g ∧ sg_ix y = some g ∧ (1 ≤ w ∧ w ≤ 255) := by
  rcases sg_ix_or x with h | ⟨o, h1, h2, h3⟩
  · exact Or.inl h.1
  · right
    rcases sg_ix_or y with q | ⟨g, q1, q2, q3⟩
    · exact Or.inl ⟨o, h1, h2, h3, q.1⟩
    · right
      by_cases hw : 1 ≤ w ∧ w ≤ 255
      · exact Or.inr ⟨o, g, h1, h2, h3, q1, q2, q3, hw⟩
      · exact Or.inl ⟨o, g, h1, h2, h3, q1, q2, q3, hw⟩
theorem sg_o_or (x y z : Int32) : (sg_ix x = none) ∨ (∃ i, i < 8 ∧ x = nI i ∧ sg_ix x = some i ∧ sg_ix y = none) ∨ (∃ i o, i < 8 ∧ x = nI i ∧ sg_ix x = some i ∧ o < 8 ∧ y = nI o ∧ sg_ix y = some o ∧ sg_ix z = none) ∨ ∃ i o g, i < 8 ∧ x = nI i ∧ sg_ix x = some i ∧ o < 8 ∧ y = nI o ∧ sg_ix y = some o ∧ g < 8 ∧ z = nI g ∧ sg_ix z = some g := by
  rcases sg_ix_or x with h | ⟨i, h1, h2, h3⟩
  · exact Or.inl h.1
  · right
    rcases sg_ix_or y with q | ⟨o, q1, q2, q3⟩
    · exact Or.inl ⟨i, h1, h2, h3, q.1⟩
    · right
      rcases sg_ix_or z with r | ⟨g, r1, r2, r3⟩
      · exact Or.inl ⟨i, o, h1, h2, h3, q1, q2, q3, r.1⟩
      · exact Or.inr ⟨i, o, g, h1, h2, h3, q1, q2, q3, r1, r2, r3⟩
theorem sw_q3 {M : hp_M} {L : List Nat} {cs : List sg_Ce} (h : sw_sg M L cs none) : (cs = [] ∧ L = []) ∨ (∃ c x, cs = [c] ∧ L = [x] ∧ M x = some (sw_c c none)) ∨ ∃ c d cs' x y ys, cs = c :: d :: cs' ∧ L = x :: y :: ys ∧ M x = some (sw_c c (some y)) := by
  cases cs with
  | nil => exact Or.inl ⟨rfl, sw_sg_nil h rfl⟩
  | cons c cs =>
    obtain ⟨x, xs, rfl, h1, h2⟩ := sw_sg_cons h
    cases cs with
    | nil =>
      have := sw_sg_nil h2 rfl
      subst this
      exact Or.inr (Or.inl ⟨c, x, rfl, rfl, h1⟩)
    | cons d ds =>
      obtain ⟨y, ys, rfl, -, -⟩ := sw_sg_cons h2
      exact Or.inr (Or.inr ⟨c, d, ds, x, y, ys, rfl, rfl, h1⟩)
theorem sg_qu_send (σ : sg_S) {o j : Nat} (h : j ≠ o) : sg_qu (sg_send σ o) j = sg_qu σ j := by
  cases hq : sg_qu σ o with
  | nil => rw [sg_send_nil hq]; rfl
  | cons c cs =>
    rw [sg_send_cons hq]
    exact va_up_ne _ _ h
theorem sg_qu_sends (σ : sg_S) : ∀ {n j : Nat}, n ≤ j → sg_qu (sg_sends σ n) j = sg_qu σ j := by
  intro n
  induction n with
  | zero => intro j _; rfl
  | succ n ih =>
    intro j h
    show sg_qu (sg_send (sg_sends σ n) n) j = _
    rw [sg_qu_send _ (by omega), ih (by omega)]
theorem sg_count_0 {σ : sg_S} {n : Nat} (h : sg_qu σ n = []) : sg_count σ (n + 1) = sg_count σ n := by
  show sg_count σ n + (if sg_qu σ n = [] then 0 else 1) = _
  rw [if_pos h]; rfl
theorem sg_count_1 {σ : sg_S} {n : Nat} {c : sg_Ce} {cs : List sg_Ce} (h : sg_qu σ n = c :: cs) : sg_count σ (n + 1) = sg_count σ n + 1 := by
  show sg_count σ n + (if sg_qu σ n = [] then 0 else 1) = _
  rw [if_neg (by rw [h]; intro z; cases z)]
