/-! Chains under writes. -/
theorem hp_nm {x y : Nat} {L : List Nat} (hx : x ∈ L) (hy : y ∉ L) : x ≠ y := fun z => hy (z ▸ hx)
theorem sw_sg_mem {M : hp_M} {nx : Option Nat} : ∀ {L : List Nat} {cs : List sg_Ce}, sw_sg M L cs nx → ∀ {x : Nat}, x ∈ L → ∃ (c : sg_Ce) (n : Option Nat), c ∈ cs ∧ M x = some (sw_c c n) := by
  intro L
  induction L with
  | nil =>
    intro cs h x hx
    exact absurd hx List.not_mem_nil
  | cons y ys ih =>
    intro cs h x hx
    cases cs with
    | nil => exact absurd h (fun q => q)
    | cons c cs =>
      rcases List.mem_cons.mp hx with e | e
      · rw [e]; exact ⟨c, _, List.mem_cons_self, h.1⟩
      · obtain ⟨d, n, h1, h2⟩ := ih h.2 e
        exact ⟨d, n, List.mem_cons_of_mem _ h1, h2⟩
theorem sw_sg_ne {M : hp_M} {nx : Option Nat} {L : List Nat} {cs : List sg_Ce} {a : Nat} {e : va_E} (j : Nat) (h : sw_sg M L cs nx) (ha : M a = some e) (ht : hp_tg e = j) (hj : j ≠ ix_ce) : a ∉ L := by
  intro hx
  obtain ⟨c, n, _, h2⟩ := sw_sg_mem h hx
  exact absurd rfl (hp_ne j ix_ce ha h2 ht rfl hj)
theorem sw_pi0 {M M3 : hp_M} {po q : Nat} {c : sg_Ce} {L : List Nat} {cs : List sg_Ce} {e2 e3 : va_E} (hch : sw_sg M L cs none) (hq : q ∉ L) (hpo : po ∉ L) (hpq : q ≠ po) (hnd : L.Nodup) (e : M3 = va_up (va_up (va_up M q (some (sw_c c (sw_hd L none)))) po (some e2)) po (some e3)) : M3 po = some e3 ∧ sw_sg M3 (q :: L) (c :: cs) none ∧ (q :: L).Nodup ∧ (∀ x, x ∈ q :: L ↔ x = q ∨ x ∈ L) ∧ ∀ x, x ≠ po → x ≠ q → x ∉ L → M3 x = M x := by
  rw [hp_uu] at e
  subst e
  refine ⟨va_up_self _ _ _, ⟨?_, sw_sg_kept hch (fun x hx => ?_)⟩, List.nodup_cons.mpr ⟨hq, hnd⟩, fun x => List.mem_cons, fun x h1 h2 _ => ?_⟩
  · rw [va_up_ne _ _ hpq, va_up_self]
  · rw [va_up_ne _ _ (hp_nm hx hpo), va_up_ne _ _ (hp_nm hx hq)]
  · rw [va_up_ne _ _ h1, va_up_ne _ _ h2]
theorem sw_pi1 {M M3 : hp_M} {po q x : Nat} {c d : sg_Ce} {K L : List Nat} {kc cs : List sg_Ce} {e3 : va_E} (hch : sw_sg M (K ++ x :: L) (kc ++ d :: cs) none) (hlen : K.length = kc.length) (hq : q ∉ K ++ x :: L) (hpo : po ∉ K ++ x :: L) (hpq : q ≠ po) (hnd : (K ++ x :: L).Nodup) (e : M3 = va_up (va_up (va_up M q (some (sw_c c (sw_hd L none)))) x (some (sw_c d (some q)))) po (some e3)) : M3 po = some e3 ∧ sw_sg M3 (K ++ x :: q :: L) (kc ++ d :: c :: cs) none ∧ (K ++ x :: q :: L).Nodup ∧ (∀ y, y ∈ K ++ x :: q :: L ↔ y = q ∨ y ∈ K ++ x :: L) ∧ ∀ y, y ≠ po → y ≠ q → y ∉ K ++ x :: L → M3 y = M y := by
  subst e
  obtain ⟨h1, h2, h3⟩ := (sw_sg_app hlen).mp hch
  have hxm : x ∈ K ++ x :: L := List.mem_append_right _ List.mem_cons_self
  have hxq : x ≠ q := fun z => hq (z ▸ hxm)
  have hxp : x ≠ po := fun z => hpo (z ▸ hxm)
  obtain ⟨n1, n2, n3⟩ := List.nodup_append.mp hnd
  obtain ⟨n4, n5⟩ := List.nodup_cons.mp n2
  refine ⟨va_up_self _ _ _, (sw_sg_app hlen).mpr ⟨sw_sg_kept h1 (fun y hy => ?_), ?_, ?_, sw_sg_kept h3 (fun y hy => ?_)⟩, ?_, fun y => ?_, fun y a1 a2 a3 => ?_⟩
  · have m : y ∈ K ++ x :: L := List.mem_append_left _ hy
    rw [va_up_ne _ _ (hp_nm m hpo), va_up_ne _ _ (n3 y hy x List.mem_cons_self), va_up_ne _ _ (hp_nm m hq)]
  · rw [va_up_ne _ _ hxp, va_up_self]
    rfl
  · rw [va_up_ne _ _ hpq, va_up_ne _ _ (Ne.symm hxq), va_up_self]
  · have m : y ∈ K ++ x :: L := List.mem_append_right _ (List.mem_cons_of_mem _ hy)
    rw [va_up_ne _ _ (hp_nm m hpo), va_up_ne _ _ (hp_nm hy n4), va_up_ne _ _ (hp_nm m hq)]
  · refine List.nodup_append.mpr ⟨n1, List.nodup_cons.mpr ⟨?_, List.nodup_cons.mpr ⟨?_, n5⟩⟩, fun y hy z hz => ?_⟩
    · intro hm
      rcases List.mem_cons.mp hm with z | z
      · exact hxq z
      · exact n4 z
    · intro hm
      exact hq (List.mem_append_right _ (List.mem_cons_of_mem _ hm))
    · rcases List.mem_cons.mp hz with w | w
      · rw [w]; exact n3 y hy x List.mem_cons_self
      · rcases List.mem_cons.mp w with w | w
        · rw [w]; exact fun u => hq (u ▸ List.mem_append_left _ hy)
        · exact n3 y hy z (List.mem_cons_of_mem _ w)
  · simp only [List.mem_append, List.mem_cons]
    constructor
    · rintro (h | h | h | h)
      · exact Or.inr (Or.inl h)
      · exact Or.inr (Or.inr (Or.inl h))
      · exact Or.inl h
      · exact Or.inr (Or.inr (Or.inr h))
    · rintro (h | h | h | h)
      · exact Or.inr (Or.inr (Or.inl h))
      · exact Or.inl h
      · exact Or.inr (Or.inl h)
      · exact Or.inr (Or.inr (Or.inr h))
  · rw [va_up_ne _ _ a1, va_up_ne _ _ (Ne.symm (hp_nm hxm a3)), va_up_ne _ _ a2]
/-- a truth as Java's number -/
def sw_b (b : Bool) : Int32 := if b = true then 1 else 0
theorem sw_b1t {c d : sg_Ce} (hc : sg_cg c < 8) (hd : sg_cg d < 8) (h : ¬ nI (sg_cg d) ≤ nI (sg_cg c)) : 1 = sw_b (sg_bef 1 c d) := by
  rw [nI_leI (by omega) (by omega)] at h
  rw [sg_bef1, decide_eq_true (Nat.lt_of_not_le h)]; rfl
theorem sw_b1f {c d : sg_Ce} (hc : sg_cg c < 8) (hd : sg_cg d < 8) (h : nI (sg_cg d) ≤ nI (sg_cg c)) : 0 = sw_b (sg_bef 1 c d) := by
  rw [nI_leI (by omega) (by omega)] at h
  rw [sg_bef1, decide_eq_false (Nat.not_lt_of_le h)]; rfl
theorem sw_b2t {c d : sg_Ce} (h : ¬ 0 ≤ lg_cmp (sg_cm c) (sg_cm d)) : 1 = sw_b (sg_bef 2 c d) := by
  rw [lg_cmp_ge] at h
  rw [sg_bef2, decide_eq_true (Int64.not_le.mp h)]; rfl
theorem sw_b2f {c d : sg_Ce} (h : 0 ≤ lg_cmp (sg_cm c) (sg_cm d)) : 0 = sw_b (sg_bef 2 c d) := by
  rw [lg_cmp_ge] at h
  rw [sg_bef2, decide_eq_false (Int64.not_lt.mpr h)]; rfl
theorem sw_b0 {c d : sg_Ce} : 0 = sw_b (sg_bef 0 c d) := by
  rw [sg_bef0]; rfl
theorem sw_bt {b : Bool} (h : ¬ sw_b b = 0) : b = true := by
  cases b with
  | true => rfl
  | false => exact absurd rfl h
theorem sw_bf {b : Bool} (h : sw_b b = 0) : b = false := by
  cases b with
  | true => exact absurd h (by decide)
  | false => rfl
theorem sw_hd_ins {K L1 L2 : List Nat} {x : Nat} {n1 n2 : Option Nat} : sw_hd (K ++ x :: L1) n1 = sw_hd (K ++ x :: L2) n2 := by
  cases K <;> rfl
theorem sw_sh {M : hp_M} {po x : Nat} {a1 a2 a4 b : Option va_E} (h : x ≠ po) : va_up (va_up (va_up (va_up M po a1) po a2) x b) po a4 = va_up (va_up M po a4) x b := by
  funext z
  by_cases h1 : z = x
  · subst h1
    rw [va_up_ne _ _ h, va_up_self, va_up_self]
  · by_cases h2 : z = po
    · subst h2
      rw [va_up_self, va_up_ne _ _ h1, va_up_self]
    · rw [va_up_ne _ _ h2, va_up_ne _ _ h1, va_up_ne _ _ h2, va_up_ne _ _ h2, va_up_ne _ _ h1, va_up_ne _ _ h2]
theorem hp_fi {g : Nat → Int32} {v : Int32} {n : Nat} (h : ∀ j, j < n → g j = v) : ∀ j, j < n + 1 → upd g n v j = v := fun j hj => by
  by_cases q : j = n
  · rw [q]; exact pk_us
  · rw [pk_un q]; exact h j (by omega)
theorem hp_fl {g : Nat → Int64} {v : Int64} {n : Nat} (h : ∀ j, j < n → g j = v) : ∀ j, j < n + 1 → vp_updL g n v j = v := fun j hj => by
  by_cases q : j = n
  · rw [q]; exact pk_uLs
  · rw [pk_uLn q]; exact h j (by omega)
