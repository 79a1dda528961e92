/-! copy, timeOf, isBehind, come, send of the reference: rows. -/
theorem mo_cp {ct : Nat → Nat → Int32} {cl : Nat → Nat → Int64} {f t : Nat} (p : Nat) : mo_row (va_up (va_up (va_up (va_up (va_up ct 1 (upd (ct 1) t (ct 1 f))) 2 (upd (ct 2) t (ct 2 f))) 3 (upd (ct 3) t (ct 3 f))) 5 (upd (ct 5) t (ct 5 f))) 6 (upd (ct 6) t (ct 6 f))) (va_up cl 4 (vp_updL (cl 4) t (cl 4 f))) p = if p = t then mo_row ct cl f else mo_row ct cl p := by
  show (upd (ct 1) t (ct 1 f) p, upd (ct 2) t (ct 2 f) p, upd (ct 3) t (ct 3 f) p, vp_updL (cl 4) t (cl 4 f) p, upd (ct 5) t (ct 5 f) p, upd (ct 6) t (ct 6 f) p) = _
  by_cases z : p = t
  · subst z; rw [if_pos rfl, pk_us, pk_us, pk_us, pk_uLs, pk_us, pk_us]
  · rw [if_neg z, pk_un z, pk_un z, pk_un z, pk_uLn z, pk_un z, pk_un z]
theorem mo_cp2 {ct : Nat → Nat → Int32} {f1 f2 f3 f5 f6 : Nat → Int32} {j : Nat} (h : j = 0 ∨ 7 ≤ j) : (va_up (va_up (va_up (va_up (va_up ct 1 f1) 2 f2) 3 f3) 5 f5) 6 f6) j = ct j := by
  rw [va_up_ne _ _ (by omega), va_up_ne _ _ (by omega), va_up_ne _ _ (by omega), va_up_ne _ _ (by omega), va_up_ne _ _ (by omega)]
theorem mo_t0 {l b : Int64} (h : l ≤ b) : b = if l < b then b else l := by
  by_cases q : l < b
  · rw [if_pos q]
  · rw [if_neg q]; exact Int64.le_antisymm (Int64.not_lt.mp q) h
theorem mo_t1 {l b : Int64} (h : ¬ l ≤ b) : l = if l < b then b else l := by
  rw [if_neg (fun q => h (Int64.le_of_lt q))]
theorem mb_1t {c d : sg_Ce} (hc : sg_cg c < 8) (hd : sg_cg d < 8) (h : nI (sg_cg c) < nI (sg_cg d)) : 0 = sw_b (!(sg_bef 1 c d)) := by
  rw [nI_ltI (by omega) (by omega)] at h
  rw [sg_bef1, decide_eq_true h]; rfl
theorem mb_1f {c d : sg_Ce} (hc : sg_cg c < 8) (hd : sg_cg d < 8) (h : ¬ nI (sg_cg c) < nI (sg_cg d)) : 1 = sw_b (!(sg_bef 1 c d)) := by
  rw [nI_ltI (by omega) (by omega)] at h
  rw [sg_bef1, decide_eq_false h]; rfl
theorem mb_2t {c d : sg_Ce} (h : 0 < lg_cmp (sg_cm d) (sg_cm c)) : 0 = sw_b (!(sg_bef 2 c d)) := by
  rw [lg_cmp_gt] at h
  rw [sg_bef2, decide_eq_true h]; rfl
theorem mb_2f {c d : sg_Ce} (h : ¬ 0 < lg_cmp (sg_cm d) (sg_cm c)) : 1 = sw_b (!(sg_bef 2 c d)) := by
  rw [lg_cmp_gt] at h
  rw [sg_bef2, decide_eq_false h]; rfl
theorem mb_0 {c d : sg_Ce} : 1 = sw_b (!(sg_bef 0 c d)) := by
  rw [sg_bef0]; rfl
theorem mb_t {b : Bool} (h : ¬ sw_b (!b) = 0) : b = false := by
  cases b with
  | false => rfl
  | true => exact absurd rfl h
theorem mb_f {b : Bool} (h : sw_b (!b) = 0) : b = true := by
  cases b with
  | true => rfl
  | false => exact absurd h (by decide)
/-- while a cell comes to output o: the rows from k on have moved up by one -/
def mo_up (ct ct1 : Nat → Nat → Int32) (cl cl2 : Nat → Nat → Int64) (o k n : Nat) : Prop := (∀ p, p < 512 * o + k ∨ 512 * o + n < p → mo_row ct1 cl2 p = mo_row ct cl p) ∧ (∀ j, k ≤ j → j < n → mo_row ct1 cl2 (512 * o + j + 1) = mo_row ct cl (512 * o + j)) ∧ ∀ j, j = 0 ∨ 7 ≤ j → ct1 j = ct j
theorem mo_up_0 {ct : Nat → Nat → Int32} {cl cl1 : Nat → Nat → Int64} {o n : Nat} (h : cl1 4 = cl 4) : mo_up ct ct cl cl1 o n n := ⟨fun p _ => by simp only [mo_row, h], fun j h1 h2 => by omega, fun _ _ => rfl⟩
theorem mo_up_s {ct ct1 ct2 : Nat → Nat → Int32} {cl cl2 cl3 : Nat → Nat → Int64} {o k n : Nat} (hk : k + 1 ≤ n) (h : mo_up ct ct1 cl cl2 o (k + 1) n) (h1 : ∀ p, mo_row ct2 cl3 p = if p = 512 * o + k + 1 then mo_row ct1 cl2 (512 * o + k) else mo_row ct1 cl2 p) (h2 : ∀ j, j = 0 ∨ 7 ≤ j → ct2 j = ct1 j) : mo_up ct ct2 cl cl3 o k n := by
  obtain ⟨a1, a2, a3⟩ := h
  refine ⟨fun p hp => ?_, fun j b1 b2 => ?_, fun j hj => (h2 j hj).trans (a3 j hj)⟩
  · rw [h1 p, if_neg (by omega)]; exact a1 p (by omega)
  · rw [h1]
    by_cases z : j = k
    · subst z; rw [if_pos rfl]; exact a1 _ (by omega)
    · rw [if_neg (by omega)]; exact a2 j (by omega) b2
theorem mo_R_come {σ : sg_S} {tk : Nat → Int32} {of sl : Int32} {ct ct1 : Nat → Nat → Int32} {cl cl1 cl2 : Nat → Nat → Int64} {i k : Nat} {c : sg_Ce} {T : Int64} (h : mo_R σ tk of sl ct cl) (hinv : sg_inv σ) (hac : sg_ac σ ≤ 512) (hi8 : i < 8) (hc : sg_of σ i = some c) (hT : T = sg_cm (sg_cell σ c))
    (h9 : ∀ x g, x < 8 → g < 8 → cl1 9 (8 * x + g) = sg_lt (sg_come1 σ i c) x g) (hc9 : cl2 9 = cl1 9) (hk : k ≤ (sg_qu σ (sg_co c)).length) (hu : mo_up ct ct1 cl cl2 (sg_co c) k (sg_qu σ (sg_co c)).length) (hins : sg_ins (sg_kd σ (sg_co c)) (sg_cell σ c) (sg_qu σ (sg_co c)) = (sg_qu σ (sg_co c)).take k ++ sg_cell σ c :: (sg_qu σ (sg_co c)).drop k) :
    mo_R (sg_come1 σ i c) tk of sl (va_up (va_up (va_up (va_up (va_up (va_up (va_up ct1 1 (upd (ct1 1) (512 * sg_co c + k) (nI i))) 2 (upd (ct1 2) (512 * sg_co c + k) (nI (sg_cg c)))) 3 (upd (ct1 3) (512 * sg_co c + k) (sg_ct c))) 5 (upd (ct1 5) (512 * sg_co c + k) sl)) 6 (upd (ct1 6) (512 * sg_co c + k) (nI (sg_cs c)))) 0 (upd (ct1 0) (sg_co c) (nI (sg_qu σ (sg_co c)).length + 1))) 10 (upd (ct1 10) i (-1))) (va_up cl2 4 (vp_updL (cl2 4) (512 * sg_co c + k) T)) := by
  obtain ⟨c1, c2, c3, c4, c5, c6⟩ := (hinv.2.1 i hi8).2 c hc
  obtain ⟨u1, u2, u3⟩ := hu
  have hlen := sg_len_lt hinv hi8 c2 hc
  refine ⟨h.1, h.2.1, fun x hx => ?_, fun j hj => ?_⟩
  · obtain ⟨a1, a2, a3, a4, a5⟩ := h.2.2.1 x hx
    have hlx := sg_len_le hinv hx
    refine ⟨?_, ?_, fun g hg => ⟨?_, ?_⟩, fun j d hd => ?_, ?_⟩
    · show upd (ct1 0) (sg_co c) (nI (sg_qu σ (sg_co c)).length + 1) x = nI (va_up (sg_qu σ) (sg_co c) _ x).length
      by_cases z : x = sg_co c
      · rw [z, pk_us, va_up_self, sg_ins_len, nI_1]
      · rw [pk_un z, va_up_ne _ _ z, u3 0 (Or.inl rfl)]; exact a1
    · show ct1 7 x = _
      rw [u3 7 (by decide)]; exact a2
    · show ct1 8 _ = _
      rw [u3 8 (by decide)]; exact (a3 g hg).1
    · show cl2 9 _ = _
      rw [hc9]; exact h9 x g hx hg
    · show (upd (ct1 1) (512 * sg_co c + k) (nI i) (512 * x + j), upd (ct1 2) (512 * sg_co c + k) (nI (sg_cg c)) (512 * x + j), upd (ct1 3) (512 * sg_co c + k) (sg_ct c) (512 * x + j), vp_updL (cl2 4) (512 * sg_co c + k) T (512 * x + j), upd (ct1 5) (512 * sg_co c + k) sl (512 * x + j), upd (ct1 6) (512 * sg_co c + k) (nI (sg_cs c)) (512 * x + j)) = mo_enc d
      have hd : (va_up (sg_qu σ) (sg_co c) (sg_ins (sg_kd σ (sg_co c)) (sg_cell σ c) (sg_qu σ (sg_co c))) x)[j]? = some d := hd
      have hrow : 512 * x + j ≠ 512 * sg_co c + k → (upd (ct1 1) (512 * sg_co c + k) (nI i) (512 * x + j), upd (ct1 2) (512 * sg_co c + k) (nI (sg_cg c)) (512 * x + j), upd (ct1 3) (512 * sg_co c + k) (sg_ct c) (512 * x + j), vp_updL (cl2 4) (512 * sg_co c + k) T (512 * x + j), upd (ct1 5) (512 * sg_co c + k) sl (512 * x + j), upd (ct1 6) (512 * sg_co c + k) (nI (sg_cs c)) (512 * x + j)) = mo_row ct1 cl2 (512 * x + j) := fun z => by rw [pk_un z, pk_un z, pk_un z, pk_uLn z, pk_un z, pk_un z]
      by_cases z : x = sg_co c
      · rw [z, va_up_self, hins] at hd
        rw [z] at hrow a4 ⊢
        rcases Nat.lt_trichotomy j k with w | w | w
        · rw [hrow (by omega), u1 _ (by omega)]
          rw [List.getElem?_append_left (by rw [List.length_take]; omega), List.getElem?_take_of_lt w] at hd
          exact a4 j d hd
        · subst w
          rw [List.getElem?_append_right (by rw [List.length_take]; omega), List.length_take, Nat.min_eq_left hk, Nat.sub_self] at hd
          have hd : sg_cell σ c = d := Option.some.inj hd
          rw [pk_us, pk_us, pk_us, pk_uLs, pk_us, pk_us, ← hd, hT, h.2.1, ← c1]
          rfl
        · rw [hrow (by omega)]
          rw [List.getElem?_append_right (by rw [List.length_take]; omega), List.length_take, Nat.min_eq_left hk] at hd
          obtain ⟨j', rfl⟩ : ∃ j', j = j' + 1 := ⟨j - 1, by omega⟩
          rw [show j' + 1 - k = (j' - k) + 1 by omega, List.getElem?_cons_succ, List.getElem?_drop, show k + (j' - k) = j' by omega] at hd
          have hj' : j' < (sg_qu σ (sg_co c)).length := (List.getElem?_eq_some_iff.mp hd).1
          rw [← Nat.add_assoc, u2 j' (by omega) hj']
          exact a4 j' d hd
      · rw [va_up_ne _ _ z] at hd
        have hj : j < (sg_qu σ x).length := (List.getElem?_eq_some_iff.mp hd).1
        rw [hrow (by omega), u1 _ (by omega)]
        exact a4 j d hd
    · show mo_se (tk x) (ct1 14 x) (ct1 15 x) (ct1 16 x) (sg_se σ x)
      rw [u3 14 (by decide), u3 15 (by decide), u3 16 (by decide)]; exact a5
  · show mo_of (upd (ct1 10) i (-1) j) (ct1 11 j) (ct1 12 j) (ct1 13 j) (va_up (sg_of σ) i none j)
    by_cases z : j = i
    · subst z; rw [pk_us, va_up_self]; rfl
    · rw [pk_un z, va_up_ne _ _ z, u3 10 (by decide), u3 11 (by decide), u3 12 (by decide), u3 13 (by decide)]
      exact h.2.2.2 j hj
theorem sg_ins_k {k : Int32} {c : sg_Ce} {l : List sg_Ce} {n : Nat} (ho : sg_ord k l) (hk : k = 0 ∨ k = 1 ∨ k = 2) (hn : n ≤ l.length) (h1 : ∀ j d, n ≤ j → l[j]? = some d → sg_bef k c d = true) (h2 : n = 0 ∨ ∃ m d, n = m + 1 ∧ l[m]? = some d ∧ sg_bef k c d = false) : sg_ins k c l = l.take n ++ c :: l.drop n := by
  have e := List.take_append_drop n l
  have key : ∀ d ∈ l.take n, sg_bef k c d = false := by
    rcases h2 with h2 | ⟨m, d, h2, h3, h4⟩
    · intro d hd; rw [h2, List.take_zero] at hd; exact absurd hd List.not_mem_nil
    · have hm : m < l.length := by omega
      have e2 : l = l.take m ++ d :: l.drop (m + 1) := by
        have q := List.take_append_drop m l
        rw [List.drop_eq_getElem_cons hm] at q
        have q2 : l[m] = d := Option.some.inj ((List.getElem?_eq_getElem hm).symm.trans h3)
        rw [q2] at q
        exact q.symm
      have e3 : l.take n = l.take m ++ [d] := by
        rw [h2, List.take_add_one, h3]; rfl
      intro x hx
      rw [e3] at hx
      rcases List.mem_append.mp hx with w | w
      · rw [e2] at ho
        exact sg_bef_ahead ho hk h4 x w
      · rw [List.mem_singleton.mp w]; exact h4
  have e4 := sg_ins_at (k := k) (c := c) (l1 := l.take n) (l2 := l.drop n) key (fun d ds hd => by
    have : (l.drop n)[0]? = some d := by rw [hd]; rfl
    rw [List.getElem?_drop] at this
    exact h1 _ d (by omega) this)
  rw [e] at e4
  exact e4
theorem md_s512 (o : Nat) : (512 : Int32) * nI o = nI (512 * o) := by
  rw [show (512 : Int32) = nI 512 from rfl, pk_mul]
theorem mo_h9 {σ : sg_S} {tk : Nat → Int32} {of sl : Int32} {ct : Nat → Nat → Int32} {cl : Nat → Nat → Int64} {i : Nat} {c : sg_Ce} (h : mo_R σ tk of sl ct cl) (hg : sg_cg c < 8) (hk : sg_kd σ (sg_co c) = 2) : ∀ x g, x < 8 → g < 8 → (va_up cl 9 (vp_updL (cl 9) (8 * sg_co c + sg_cg c) (sg_time σ (sg_co c) (sg_cg c)))) 9 (8 * x + g) = sg_lt (sg_come1 σ i c) x g := by
  intro x g hx hg'
  show vp_updL (cl 9) (8 * sg_co c + sg_cg c) (sg_time σ (sg_co c) (sg_cg c)) (8 * x + g) = (if sg_kd σ (sg_co c) = 2 then va_up (sg_lt σ) (sg_co c) (va_up (sg_lt σ (sg_co c)) (sg_cg c) (sg_time σ (sg_co c) (sg_cg c))) else sg_lt σ) x g
  rw [if_pos hk]
  have a := ((h.2.2.1 x hx).2.2.1 g hg').2
  by_cases z : x = sg_co c
  · rw [z] at a ⊢
    rw [va_up_self]
    by_cases z2 : g = sg_cg c
    · rw [z2, pk_uLs, va_up_self]
    · rw [pk_uLn (by omega), va_up_ne _ _ z2]; exact a
  · rw [pk_uLn (by omega), va_up_ne _ _ z]; exact a
theorem mo_h9n {σ : sg_S} {tk : Nat → Int32} {of sl : Int32} {ct : Nat → Nat → Int32} {cl : Nat → Nat → Int64} {i : Nat} {c : sg_Ce} (h : mo_R σ tk of sl ct cl) (hk : ¬ sg_kd σ (sg_co c) = 2) : ∀ x g, x < 8 → g < 8 → cl 9 (8 * x + g) = sg_lt (sg_come1 σ i c) x g := by
  intro x g hx hg
  show _ = (if sg_kd σ (sg_co c) = 2 then va_up (sg_lt σ) (sg_co c) (va_up (sg_lt σ (sg_co c)) (sg_cg c) (sg_time σ (sg_co c) (sg_cg c))) else sg_lt σ) x g
  rw [if_neg hk]
  exact ((h.2.2.1 x hx).2.2.1 g hg).2
/-- while output o sends: the first j rows have moved down by one -/
def mo_dn (ct ct1 : Nat → Nat → Int32) (cl cl2 : Nat → Nat → Int64) (o j : Nat) : Prop := (∀ p, 512 * o ≤ p → p < 512 * o + j → mo_row ct1 cl2 p = mo_row ct cl (p + 1)) ∧ ∀ p, p < 512 * o ∨ 512 * o + j ≤ p → mo_row ct1 cl2 p = mo_row ct cl p
theorem mo_dn_s {ct ct1 ct2 : Nat → Nat → Int32} {cl cl2 cl3 : Nat → Nat → Int64} {o j : Nat} (h : mo_dn ct ct1 cl cl2 o j) (h1 : ∀ p, mo_row ct2 cl3 p = if p = 512 * o + j then mo_row ct1 cl2 (512 * o + j + 1) else mo_row ct1 cl2 p) : mo_dn ct ct2 cl cl3 o (j + 1) := by
  obtain ⟨a1, a2⟩ := h
  refine ⟨fun p b1 b2 => ?_, fun p hp => ?_⟩
  · rw [h1 p]
    by_cases z : p = 512 * o + j
    · rw [if_pos z, z]; exact a2 _ (by omega)
    · rw [if_neg z]; exact a1 p b1 (by omega)
  · rw [h1 p, if_neg (by omega)]; exact a2 p (by omega)
theorem mo_R_send0 {σ : sg_S} {tk : Nat → Int32} {of sl : Int32} {ct : Nat → Nat → Int32} {cl : Nat → Nat → Int64} {o : Nat} (h : mo_R σ tk of sl ct cl) : mo_R (sg_send0 σ o) (va_up tk o sl) of sl (va_up ct 14 (upd (ct 14) o (-1))) cl := by
  refine ⟨h.1, h.2.1, fun x hx => ?_, h.2.2.2⟩
  obtain ⟨a1, a2, a3, a4, a5⟩ := h.2.2.1 x hx
  refine ⟨a1, a2, a3, a4, ?_⟩
  show mo_se (va_up tk o sl x) (upd (ct 14) o (-1) x) (ct 15 x) (ct 16 x) (va_up (sg_se σ) o none x)
  by_cases z : x = o
  · subst z; rw [pk_us, va_up_self, va_up_self]; exact (rfl : (-1 : Int32) = -1)
  · rw [pk_un z, va_up_ne _ _ z, va_up_ne _ _ z]; exact a5
theorem mo_R_send1 {σ : sg_S} {tk : Nat → Int32} {of sl : Int32} {ct ct1 : Nat → Nat → Int32} {cl cl2 : Nat → Nat → Int64} {o : Nat} {c : sg_Ce} {cs : List sg_Ce} (h : mo_R σ tk of sl ct cl) (hinv : sg_inv σ) (hac : sg_ac σ ≤ 512) (ho : o < 8) (hq : sg_qu σ o = c :: cs) (hd : mo_dn ct ct1 cl cl2 o cs.length) (h0 : ct1 0 = upd (ct 0) o (nI cs.length)) (hs : ∀ j, j = 7 ∨ j = 8 ∨ j = 10 ∨ j = 11 ∨ j = 12 ∨ j = 13 → ct1 j = ct j) (h14 : ct1 14 = upd (upd (ct 14) o (-1)) o (nI (sg_ci c))) (h15 : ct1 15 = upd (ct 15) o (sg_ct c)) (h16 : ct1 16 = upd (ct 16) o (sl - sg_cc c)) (h9 : ∀ x g, x < 8 → g < 8 → cl2 9 (8 * x + g) = if cs = [] ∧ x = o then 0 else cl 9 (8 * x + g)) : mo_R (sg_send1 σ o c cs) (va_up tk o sl) of sl ct1 cl2 := by
  refine ⟨h.1, h.2.1, fun x hx => ?_, fun i hi => ?_⟩
  · obtain ⟨a1, a2, a3, a4, a5⟩ := h.2.2.1 x hx
    have hlx := sg_len_le hinv hx
    have hlo := sg_len_le hinv ho
    rw [hq] at hlo
    have hlo : cs.length + 1 ≤ sg_ac σ := hlo
    refine ⟨?_, by rw [hs 7 (by decide)]; exact a2, fun g hg => ⟨by rw [hs 8 (by decide)]; exact (a3 g hg).1, ?_⟩, fun k d hk => ?_, ?_⟩
    · show ct1 0 x = nI (va_up (sg_qu σ) o cs x).length
      rw [h0]
      by_cases z : x = o
      · subst z; rw [pk_us, va_up_self]
      · rw [pk_un z, va_up_ne _ _ z]; exact a1
    · show cl2 9 (8 * x + g) = (if cs = [] then va_up (sg_lt σ) o (fun _ => 0) else sg_lt σ) x g
      rw [h9 x g hx hg]
      by_cases z : x = o
      · subst z
        by_cases z2 : cs = []
        · rw [if_pos ⟨z2, rfl⟩, if_pos z2, va_up_self]
        · rw [if_neg (fun q => z2 q.1), if_neg z2]; exact (a3 g hg).2
      · rw [if_neg (fun q => z q.2)]
        by_cases z2 : cs = []
        · rw [if_pos z2, va_up_ne _ _ z]; exact (a3 g hg).2
        · rw [if_neg z2]; exact (a3 g hg).2
    · have hk : (va_up (sg_qu σ) o cs x)[k]? = some d := hk
      by_cases z : x = o
      · subst z
        rw [va_up_self] at hk
        have hkl : k < cs.length := (List.getElem?_eq_some_iff.mp hk).1
        rw [hd.1 _ (by omega) (by omega)]
        exact a4 (k + 1) d (by rw [hq]; exact hk)
      · rw [va_up_ne _ _ z] at hk
        have hkl : k < (sg_qu σ x).length := (List.getElem?_eq_some_iff.mp hk).1
        rw [hd.2 _ (by omega)]
        exact a4 k d hk
    · show mo_se (va_up tk o sl x) (ct1 14 x) (ct1 15 x) (ct1 16 x) (va_up (sg_se σ) o (some c) x)
      rw [h14, h15, h16]
      by_cases z : x = o
      · subst z
        rw [pk_us, pk_us, pk_us, va_up_self, va_up_self]
        exact ⟨rfl, rfl, rfl⟩
      · rw [pk_un z, pk_un z, pk_un z, pk_un z, va_up_ne _ _ z, va_up_ne _ _ z]; exact a5
  · rw [hs 10 (by decide), hs 11 (by decide), hs 12 (by decide), hs 13 (by decide)]
    exact h.2.2.2 i hi
