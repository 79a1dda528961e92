/-! A LOGICAL HEAP: M maps an address to its cell; hp_H says that the heap holds M, and nothing of M lies below B. Every row of the kit over a list of cells becomes a row over M. -/
def hp_ub (B : Nat) : Nat → Prop := fun q => B ≤ q
abbrev hp_M : Type := Nat → Option va_E
/-- the array classes: int[], long[], Input[], Output[] -/
abbrev hp_T (D : va_G) : List (ClassId × FieldType) := [(D.1 10, .int), (D.1 11, .long), (D.1 12, .object "EvenSwitch$Input"), (D.1 13, .object "EvenSwitch$Output")]
abbrev hp_ai (D : va_G) (n : Nat) (f : Nat → Int32) : va_E := .inl (D.1 10, n, .inl f)
abbrev hp_al (D : va_G) (n : Nat) (f : Nat → Int64) : va_E := .inl (D.1 11, n, .inr (.inl f))
abbrev hp_aq (D : va_G) (k n : Nat) (f : Nat → Option Nat) : va_E := .inl (D.1 k, n, .inr (.inr (.inr (.inr f))))
abbrev hp_ob (ci : Nat) (fs : List Value) : va_E := .inr (ci, fs)
def hp_L (M : hp_M) (ws : va_W) : Prop := ∀ (a : Nat) (e : va_E), M a = some e ↔ ∃ k : Nat, ws[k]? = some (a, e)
def hp_H (D : va_G) (B : Nat) (M : hp_M) (H : Heap) : Prop := B ≤ H.size ∧ ∃ ws : va_W, va_P D classes ws H ∧ va_D (hp_ub B) ws ∧ hp_L M ws
def hp_C (D : va_G) (B : Nat) (M : hp_M) (U : State) : Prop := hp_H D B M U.heap ∧ va_K D classes (hp_T D) U
theorem hp_set {M : hp_M} {ws : va_W} {A : Nat → Prop} {k a : Nat} {e0 : va_E} (hL : hp_L M ws) (hD : va_D A ws) (hk : ws[k]? = some (a, e0)) (e1 : va_E) : hp_L (va_up M a (some e1)) (ws.set k (a, e1)) := by
  have hlt : k < ws.length := (List.getElem?_eq_some_iff.mp hk).1
  intro b x
  by_cases hb : b = a
  · subst hb
    rw [va_up_self]
    constructor
    · intro h
      cases h
      exact ⟨k, List.getElem?_set_self hlt⟩
    · rintro ⟨j, hj⟩
      by_cases hjk : j = k
      · subst hjk
        rw [List.getElem?_set_self hlt] at hj
        cases hj
        rfl
      · rw [List.getElem?_set_ne (Ne.symm hjk)] at hj
        exact absurd (hD.1 _ _ _ _ hj hk rfl) hjk
  · rw [va_up_ne _ _ hb, hL b x]
    constructor
    · rintro ⟨j, hj⟩
      have hjk : j ≠ k := by
        rintro rfl
        rw [hk] at hj
        cases hj
        exact hb rfl
      exact ⟨j, by rw [List.getElem?_set_ne (Ne.symm hjk)]; exact hj⟩
    · rintro ⟨j, hj⟩
      have hjk : j ≠ k := by
        rintro rfl
        rw [List.getElem?_set_self hlt] at hj
        cases hj
        exact hb rfl
      rw [List.getElem?_set_ne (Ne.symm hjk)] at hj
      exact ⟨j, hj⟩
theorem hp_push {M : hp_M} {ws : va_W} {A : Nat → Prop} {q : Nat} {e1 : va_E} (hL : hp_L M ws) (hD : va_D A (ws ++ [(q, e1)])) : M q = none ∧ hp_L (va_up M q (some e1)) (ws ++ [(q, e1)]) := by
  have hlast : (ws ++ [(q, e1)])[ws.length]? = some (q, e1) := by simp
  have hold : ∀ (j : Nat) (x : Nat × va_E), ws[j]? = some x → (ws ++ [(q, e1)])[j]? = some x := fun j x h => by
    rw [List.getElem?_append_left (List.getElem?_eq_some_iff.mp h).1]; exact h
  have hne : ∀ (j : Nat) (x : Nat × va_E), ws[j]? = some x → x.1 ≠ q := fun j x h e => by
    have h1 := hD.1 _ _ _ _ (hold j x h) hlast e
    have h2 := (List.getElem?_eq_some_iff.mp h).1
    omega
  refine ⟨?_, fun b x => ?_⟩
  · cases hM : M q with
    | none => rfl
    | some x =>
      obtain ⟨j, hj⟩ := (hL q x).mp hM
      exact absurd rfl (hne j _ hj)
  · by_cases hb : b = q
    · subst hb
      rw [va_up_self]
      constructor
      · intro h
        cases h
        exact ⟨_, hlast⟩
      · rintro ⟨j, hj⟩
        by_cases hl : j < ws.length
        · rw [List.getElem?_append_left hl] at hj
          exact absurd rfl (hne j _ hj)
        · rw [List.getElem?_append_right (by omega)] at hj
          have hz : j - ws.length < 1 := (List.getElem?_eq_some_iff.mp hj).1
          rw [show j - ws.length = 0 by omega] at hj
          cases hj
          rfl
    · rw [va_up_ne _ _ hb, hL b x]
      constructor
      · rintro ⟨j, hj⟩
        exact ⟨j, hold j _ hj⟩
      · rintro ⟨j, hj⟩
        by_cases hl : j < ws.length
        · rw [List.getElem?_append_left hl] at hj
          exact ⟨j, hj⟩
        · rw [List.getElem?_append_right (by omega)] at hj
          have hz : j - ws.length < 1 := (List.getElem?_eq_some_iff.mp hj).1
          rw [show j - ws.length = 0 by omega] at hj
          cases hj
          exact absurd rfl hb
theorem hp_recv {D : va_G} {B : Nat} {M : hp_M} {H : Heap} {s : State} {tys : List (ClassId × FieldType)} {a ci : Nat} {q : vw_C} {fs : List Value} (hK : va_K D classes tys s) (hH : hp_H D B M H) (ha : M a = some (.inr (ci, fs))) (hc : classes[ci]? = some q) : ∃ cell : Cell, H[a]? = some cell ∧ cell.vm.isStatics = false ∧ s.vm.findClass q.1 = some cell.cls := by
  obtain ⟨-, ws, hP, hD, hL⟩ := hH
  obtain ⟨k, hk⟩ := (hL a _).mp ha
  exact va_recv hK hP hc hk
theorem hp_blind {D : va_G} {B : Nat} {M : hp_M} {av : List Value} : FrameBlind (va_Pc av (hp_C D B M)) := fun a U g mk q => ⟨q.1, q.2.1, va_K.moved (u := U) (U := U.calling g mk a) (Vm.Alike.refl U.vm) q.2.2⟩
theorem hp_pre {D : va_G} {B : Nat} {M : hp_M} {H : Heap} {s : State} {av : List Value} (hH : hp_H D B M H) (hK : va_K D classes (hp_T D) s) : ∀ U : State, U.heap = H → s.WarmedH U.vm → va_Pc av (hp_C D B M) av.toArray U := fun U hU hW => ⟨rfl, by rw [hU]; exact hH, va_K.moved hW.alike hK⟩
section HK
variable {p : Program} {l : Launch} {e : Env} {R : Room} {s : State} {m : MethodId} {args : Array Value} {below : List Frame} {meth : Method} {c : Code} {H : Heap} {locs : List Loc} {cells slots : Nat} {Q : State → Prop}
variable {cc : ByteArray} {pc : Nat} {ls : Array Slot} {rest : List Value} {D : va_G} {B a : Nat} {M : hp_M} {tys : List (ClassId × FieldType)} {H0 : Heap}
theorem hp_get (hexec : p.tables.exec = Jvm.exec) (hb : c.code = cc) {own C : String} {T : u_T} {N ci index : Nat} {Ts : List Cond} (hts : ∀ w ∈ Ts, w.before args s = true) (hin : ∀ w ∈ u_ws C T N, w ∈ Ts) (hown : s.vm.findClass own = some m.cls) (hK : va_K D classes tys s) (hH : hp_H D B M H) {fs : List Value} (ha : M a = some (.inr (ci, fs))) (hc : classes[ci]? = some (C, T, N)) (k : Nat) (hk : k < N) (hlink : (Cond.fieldLink own index (T k).1 (T k).2.1 (T k).2.2.1).before args s = true) {v : Value} (hv : fs[k]? = some v) (hdg : decode cc pc = .ok (.getfield index, 3))
    (kk : W p l e R s m args below meth c H locs cells slots Q (F0 m (pc + 3) ls (v :: rest))) : W p l e R s m args below meth c H locs cells slots Q (F0 m pc ls (.ref a :: rest)) := by
  obtain ⟨-, ws, hP, hD, hL⟩ := hH
  obtain ⟨q0, hq⟩ := (hL a _).mp ha
  exact va_get hexec hb hts hin hown hK hP q0 hq hc k hk hlink (fun _ h => h) hv hdg kk
theorem hp_put (hexec : p.tables.exec = Jvm.exec) (hb : c.code = cc) {own C : String} {T : u_T} {N ci index : Nat} {Ts : List Cond} (hts : ∀ w ∈ Ts, w.before args s = true) (hin : ∀ w ∈ u_ws C T N, w ∈ Ts) (ty0 : Nat → FieldType) (hty : ∀ k, k < N → parseFieldDescriptor (T k).2.2.1 = some (ty0 k)) (hnm : ∀ a, a < N → ∀ b, b < N → a ≠ b → (T a).2.1 ≠ (T b).2.1) (hown : s.vm.findClass own = some m.cls) (hK : va_K D classes tys s) (hH : hp_H D B M H) (hS : va_S (hp_ub B) s.heap H locs) (hB : B ≤ s.heap.size) {fs fs' : List Value} (ha : M a = some (.inr (ci, fs))) (hc : classes[ci]? = some (C, T, N)) (k : Nat) (hk : k < N) (hlink : (Cond.fieldLink own index (T k).1 (T k).2.1 (T k).2.2.1).before args s = true) (hfin : (T k).2.2.2 = false) {v : Value} (hn : narrow (ty0 k) v = v) (hfit : fits (ty0 k) v = true) (hl : k < fs.length) (hfs : fs.set k v = fs')
    (hdg : decode cc pc = .ok (.putfield index, 3)) (kk : ∀ (M1 : hp_M) (H1 : Heap) (locs1 : List Loc), M1 = va_up M a (some (.inr (ci, fs'))) → hp_H D B M1 H1 → va_S (hp_ub B) s.heap H1 locs1 → W p l e R s m args below meth c H1 locs1 cells slots Q (F0 m (pc + 3) ls rest)) : W p l e R s m args below meth c H locs cells slots Q (F0 m pc ls (v :: .ref a :: rest)) := by
  obtain ⟨-, ws, hP, hD, hL⟩ := hH
  obtain ⟨q0, hq⟩ := (hL a _).mp ha
  refine va_put hexec hb hts hin ty0 hty hnm hown hK hP hD hS q0 hq hc k hk hlink (fun _ h => h) hfin (hty k hk) hn hfit hl hdg (fun H1 locs1 hP1 hD1 hS1 => ?_)
  subst hfs
  exact kk _ H1 locs1 rfl ⟨Nat.le_trans hB hS1.1, _, hP1, hD1, hp_set hL hD hq _⟩ hS1
theorem hp_putF (hexec : p.tables.exec = Jvm.exec) (hb : c.code = cc) {own C : String} {T : u_T} {N ci index : Nat} {Ts : List Cond} (hts : ∀ w ∈ Ts, w.before args s = true) (hin : ∀ w ∈ u_ws C T N, w ∈ Ts) (ty0 : Nat → FieldType) (hty : ∀ k, k < N → parseFieldDescriptor (T k).2.2.1 = some (ty0 k)) (hnm : ∀ a, a < N → ∀ b, b < N → a ≠ b → (T a).2.1 ≠ (T b).2.1) (hown : s.vm.findClass own = some m.cls) (hK : va_K D classes tys s) (hH : hp_H D B M H) (hS : va_S (hp_ub B) s.heap H locs) (hB : B ≤ s.heap.size) {fs fs' : List Value} (ha : M a = some (.inr (ci, fs))) (hc : classes[ci]? = some (C, T, N)) (k : Nat) (hk : k < N) (hlink : (Cond.fieldLink own index (T k).1 (T k).2.1 (T k).2.2.1).before args s = true) (hfin : (T k).2.2.2 = true) (hin2 : meth.name = "<init>") (hdecl : (T k).1 = own) {v : Value} (hn : narrow (ty0 k) v = v) (hfit : fits (ty0 k) v = true) (hl : k < fs.length) (hfs : fs.set k v = fs')
    (hdg : decode cc pc = .ok (.putfield index, 3)) (kk : ∀ (M1 : hp_M) (H1 : Heap) (locs1 : List Loc), M1 = va_up M a (some (.inr (ci, fs'))) → hp_H D B M1 H1 → va_S (hp_ub B) s.heap H1 locs1 → W p l e R s m args below meth c H1 locs1 cells slots Q (F0 m (pc + 3) ls rest)) : W p l e R s m args below meth c H locs cells slots Q (F0 m pc ls (v :: .ref a :: rest)) := by
  obtain ⟨-, ws, hP, hD, hL⟩ := hH
  obtain ⟨q0, hq⟩ := (hL a _).mp ha
  refine va_putF hexec hb hts hin ty0 hty hnm hown hK hP hD hS q0 hq hc k hk hlink (fun _ h => h) hfin hin2 hdecl (hty k hk) hn hfit hl hdg (fun H1 locs1 hP1 hD1 hS1 => ?_)
  subst hfs
  exact kk _ H1 locs1 rfl ⟨Nat.le_trans hB hS1.1, _, hP1, hD1, hp_set hL hD hq _⟩ hS1
theorem hp_iald (hexec : p.tables.exec = Jvm.exec) (hb : c.code = cc) (hK : va_K D classes (hp_T D) s) (hH : hp_H D B M H) {n : Nat} {f : Nat → Int32} (ha : M a = some (hp_ai D n f)) {i v : Int32} (k : Nat) (hi : i = nI k) (hk : k < n) (hn : n < 2 ^ 31) (hv : f k = v) (hdg : decode cc pc = .ok (.iaload, 1))
    (kk : W p l e R s m args below meth c H locs cells slots Q (F0 m (pc + 1) ls (.int v :: rest))) : W p l e R s m args below meth c H locs cells slots Q (F0 m pc ls (.int i :: .ref a :: rest)) := by
  obtain ⟨-, ws, hP, hD, hL⟩ := hH
  obtain ⟨q0, hq⟩ := (hL a _).mp ha
  subst hi
  refine va_iald hexec hb hK hP q0 0 hq rfl (vp_in_nI hk hn) hdg ?_
  rw [nI_clamp (by omega), hv]
  exact kk
theorem hp_lald (hexec : p.tables.exec = Jvm.exec) (hb : c.code = cc) (hK : va_K D classes (hp_T D) s) (hH : hp_H D B M H) {n : Nat} {f : Nat → Int64} (ha : M a = some (hp_al D n f)) {i : Int32} {v : Int64} (k : Nat) (hi : i = nI k) (hk : k < n) (hn : n < 2 ^ 31) (hv : f k = v) (hdg : decode cc pc = .ok (.laload, 1))
    (kk : W p l e R s m args below meth c H locs cells slots Q (F0 m (pc + 1) ls (.long v :: rest))) : W p l e R s m args below meth c H locs cells slots Q (F0 m pc ls (.int i :: .ref a :: rest)) := by
  obtain ⟨-, ws, hP, hD, hL⟩ := hH
  obtain ⟨q0, hq⟩ := (hL a _).mp ha
  subst hi
  refine va_lald hexec hb hK hP q0 1 hq rfl (vp_in_nI hk hn) hdg ?_
  rw [nI_clamp (by omega), hv]
  exact kk
theorem hp_aald (hexec : p.tables.exec = Jvm.exec) (hb : c.code = cc) (hK : va_K D classes (hp_T D) s) (hH : hp_H D B M H) {ck n x : Nat} {C : String} {f : Nat → Option Nat} (ha : M a = some (hp_aq D ck n f)) (t0 : Nat) (ht : (hp_T D)[t0]? = some (D.1 ck, .object C)) {i : Int32} (k : Nat) (hi : i = nI k) (hk : k < n) (hn : n < 2 ^ 31) (hv : f k = some x) (hdg : decode cc pc = .ok (.aaload, 1))
    (kk : W p l e R s m args below meth c H locs cells slots Q (F0 m (pc + 1) ls (.ref x :: rest))) : W p l e R s m args below meth c H locs cells slots Q (F0 m pc ls (.int i :: .ref a :: rest)) := by
  obtain ⟨-, ws, hP, hD, hL⟩ := hH
  obtain ⟨q0, hq⟩ := (hL a _).mp ha
  subst hi
  refine va_aldq hexec hb hK hP q0 t0 hq ht (vp_in_nI hk hn) hdg ?_
  rw [nI_clamp (by omega), hv]
  exact kk
theorem hp_iast (hexec : p.tables.exec = Jvm.exec) (hb : c.code = cc) (hK : va_K D classes (hp_T D) s) (hH : hp_H D B M H) (hS : va_S (hp_ub B) s.heap H locs) (hB : B ≤ s.heap.size) {n : Nat} {f : Nat → Int32} (ha : M a = some (hp_ai D n f)) {i x : Int32} (k : Nat) (hi : i = nI k) (hk : k < n) (hn : n < 2 ^ 31) (hdg : decode cc pc = .ok (.iastore, 1))
    (kk : ∀ (M1 : hp_M) (H1 : Heap) (locs1 : List Loc), M1 = va_up M a (some (hp_ai D n (upd f k x))) → hp_H D B M1 H1 → va_S (hp_ub B) s.heap H1 locs1 → W p l e R s m args below meth c H1 locs1 cells slots Q (F0 m (pc + 1) ls rest)) : W p l e R s m args below meth c H locs cells slots Q (F0 m pc ls (.int x :: .int i :: .ref a :: rest)) := by
  obtain ⟨-, ws, hP, hD, hL⟩ := hH
  obtain ⟨q0, hq⟩ := (hL a _).mp ha
  subst hi
  refine va_iast hexec hb hK hP hD hS q0 0 hq rfl (vp_in_nI hk hn) hdg (fun H1 locs1 hP1 hD1 hS1 => ?_)
  rw [nI_clamp (by omega)] at hP1 hD1
  exact kk _ H1 locs1 rfl ⟨Nat.le_trans hB hS1.1, _, hP1, hD1, hp_set hL hD hq _⟩ hS1
theorem hp_last (hexec : p.tables.exec = Jvm.exec) (hb : c.code = cc) (hK : va_K D classes (hp_T D) s) (hH : hp_H D B M H) (hS : va_S (hp_ub B) s.heap H locs) (hB : B ≤ s.heap.size) {n : Nat} {f : Nat → Int64} (ha : M a = some (hp_al D n f)) {i : Int32} {x : Int64} (k : Nat) (hi : i = nI k) (hk : k < n) (hn : n < 2 ^ 31) (hdg : decode cc pc = .ok (.lastore, 1))
    (kk : ∀ (M1 : hp_M) (H1 : Heap) (locs1 : List Loc), M1 = va_up M a (some (hp_al D n (vp_updL f k x))) → hp_H D B M1 H1 → va_S (hp_ub B) s.heap H1 locs1 → W p l e R s m args below meth c H1 locs1 cells slots Q (F0 m (pc + 1) ls rest)) : W p l e R s m args below meth c H locs cells slots Q (F0 m pc ls (.long x :: .int i :: .ref a :: rest)) := by
  obtain ⟨-, ws, hP, hD, hL⟩ := hH
  obtain ⟨q0, hq⟩ := (hL a _).mp ha
  subst hi
  refine va_last hexec hb hK hP hD hS q0 1 hq rfl (vp_in_nI hk hn) hdg (fun H1 locs1 hP1 hD1 hS1 => ?_)
  rw [nI_clamp (by omega)] at hP1 hD1
  exact kk _ H1 locs1 rfl ⟨Nat.le_trans hB hS1.1, _, hP1, hD1, hp_set hL hD hq _⟩ hS1
theorem hp_aast (hexec : p.tables.exec = Jvm.exec) (hb : c.code = cc) (hK : va_K D classes (hp_T D) s) (hH : hp_H D B M H) (hS : va_S (hp_ub B) s.heap H locs) (hB : B ≤ s.heap.size) {ck n v ci : Nat} {r : vw_C} {vs : List Value} {f : Nat → Option Nat} (ha : M a = some (hp_aq D ck n f)) (t0 : Nat) (ht : (hp_T D)[t0]? = some (D.1 ck, .object r.1)) (hv : M v = some (.inr (ci, vs))) (hc : classes[ci]? = some r) {i : Int32} (k : Nat) (hi : i = nI k) (hk : k < n) (hn : n < 2 ^ 31) (hdg : decode cc pc = .ok (.aastore, 1))
    (kk : ∀ (M1 : hp_M) (H1 : Heap) (locs1 : List Loc), M1 = va_up M a (some (hp_aq D ck n (va_up f k (some v)))) → hp_H D B M1 H1 → va_S (hp_ub B) s.heap H1 locs1 → W p l e R s m args below meth c H1 locs1 cells slots Q (F0 m (pc + 1) ls rest)) : W p l e R s m args below meth c H locs cells slots Q (F0 m pc ls (.ref v :: .int i :: .ref a :: rest)) := by
  obtain ⟨-, ws, hP, hD, hL⟩ := hH
  obtain ⟨q0, hq⟩ := (hL a _).mp ha
  obtain ⟨qk, hqk⟩ := (hL v _).mp hv
  subst hi
  refine va_astq hexec hb hK hP hD hS q0 t0 qk ci hq ht hqk hc (vp_in_nI hk hn) hdg (fun H1 locs1 hP1 hD1 hS1 => ?_)
  rw [nI_clamp (by omega)] at hP1 hD1
  exact kk _ H1 locs1 rfl ⟨Nat.le_trans hB hS1.1, _, hP1, hD1, hp_set hL hD hq _⟩ hS1
theorem hp_alen (hexec : p.tables.exec = Jvm.exec) (hb : c.code = cc) (hK : va_K D classes (hp_T D) s) (hH : hp_H D B M H) {cA : ClassId} {x : vp_A} (ha : M a = some (.inl (cA, x))) (t0 : Nat) {ty : FieldType} (ht : (hp_T D)[t0]? = some (cA, ty)) (hdg : decode cc pc = .ok (.arraylength, 1))
    (kk : W p l e R s m args below meth c H locs cells slots Q (F0 m (pc + 1) ls (.int (nI x.1) :: rest))) : W p l e R s m args below meth c H locs cells slots Q (F0 m pc ls (.ref a :: rest)) := by
  obtain ⟨-, ws, hP, hD, hL⟩ := hH
  obtain ⟨q0, hq⟩ := (hL a _).mp ha
  exact va_alen hexec hb hK hP q0 t0 hq ht rfl hdg kk
theorem hp_new (hexec : p.tables.exec = Jvm.exec) (hb : c.code = cc) {own C : String} {T : u_T} {N ci index : Nat} {Ts : List Cond} (hts : ∀ w ∈ Ts, w.before args s = true) (hin : ∀ w ∈ u_ws C T N, w ∈ Ts) (ty : Nat → FieldType) (hty : ∀ k, k < N → parseFieldDescriptor (T k).2.2.1 = some (ty k)) (hown : s.vm.findClass own = some m.cls) (hcl : (Cond.classLink own index C).before args s = true) (hinst : (Cond.instantiable C N).before args s = true) (hini : (Cond.initialized C).before args s = true)
    (hK : va_K D classes tys s) (hH : hp_H D B M H) (hS : va_S (hp_ub B) s.heap H locs) (hB : B ≤ s.heap.size) (hc : classes[ci]? = some (C, T, N)) {fs : List Value} (hfs : ∀ j, j < N → defaultValue (ty j) = vp_V fs j) (hcells : cells + 1 ≤ R.cells) (hslots : slots + N ≤ R.slots) (hdg : decode cc pc = .ok (.new index, 3))
    (kk : ∀ (q : Nat) (M1 : hp_M) (H1 : Heap), M q = none → M1 = va_up M q (some (.inr (ci, fs))) → hp_H D B M1 H1 → va_S (hp_ub B) s.heap H1 locs →
      W p l e R s m args below meth c H1 locs (cells + 1) (slots + N) Q (F0 m (pc + 3) ls (.ref q :: rest))) : W p l e R s m args below meth c H locs cells slots Q (F0 m pc ls rest) := by
  obtain ⟨-, ws, hP, hD, hL⟩ := hH
  refine va_new hexec hb hts hin ty hty hown hcl hinst hini hK hP hD hS (fun q h => Nat.le_trans hB h) hc hfs hcells hslots hdg (fun q H1 hP1 hD1 hS1 => ?_)
  obtain ⟨h1, h2⟩ := hp_push hL hD1
  exact kk q _ H1 h1 rfl ⟨Nat.le_trans hB hS1.1, _, hP1, hD1, h2⟩ hS1
theorem hp_newi (hexec : p.tables.exec = Jvm.exec) (hb : c.code = cc) (harr : (Cond.arrayClass .int).before args s = true) (hK : va_K D classes (hp_T D) s) (hH : hp_H D B M H) (hS : va_S (hp_ub B) s.heap H locs) (hB : B ≤ s.heap.size) {n : Int32} (N' : Nat) (hn : n = nI N') (hN : N' * 4 ≤ 536870912) (hcells : cells + 1 ≤ R.cells) (hslots : slots + N' ≤ R.slots) (hdg : decode cc pc = .ok (.newarray .int, 2))
    (kk : ∀ (q : Nat) (M1 : hp_M) (H1 : Heap), M q = none → M1 = va_up M q (some (hp_ai D N' (fun _ => 0))) → hp_H D B M1 H1 → va_S (hp_ub B) s.heap H1 locs →
      W p l e R s m args below meth c H1 locs (cells + 1) (slots + N') Q (F0 m (pc + 2) ls (.ref q :: rest))) : W p l e R s m args below meth c H locs cells slots Q (F0 m pc ls (.int n :: rest)) := by
  obtain ⟨-, ws, hP, hD, hL⟩ := hH
  subst hn
  refine va_newa (atype := .int) (ty := .int) (N' := N') (a0 := (N', .inl (fun _ => 0))) hexec hb harr rfl hK hP hD hS (fun q h => Nat.le_trans hB h) (fun _ => rfl) (nI_pos (by omega)) (nI_clamp (by omega)) hN hcells hslots hdg (fun q cA H1 hK1 hP1 hD1 hS1 => ?_)
  have e1 := va_nm_int (hK.2 0 _ rfl).2
  have e2 := va_nm_int (hK1.2 4 (cA, .int) (by simp)).2
  have e3 : cA = D.1 10 := Option.some.inj (e2.symm.trans e1)
  subst e3
  obtain ⟨h1, h2⟩ := hp_push hL hD1
  exact kk q _ H1 h1 rfl ⟨Nat.le_trans hB hS1.1, _, hP1, hD1, h2⟩ hS1
theorem hp_newl (hexec : p.tables.exec = Jvm.exec) (hb : c.code = cc) (harr : (Cond.arrayClass .long).before args s = true) (hK : va_K D classes (hp_T D) s) (hH : hp_H D B M H) (hS : va_S (hp_ub B) s.heap H locs) (hB : B ≤ s.heap.size) {n : Int32} (N' : Nat) (hn : n = nI N') (hN : N' * 8 ≤ 536870912) (hcells : cells + 1 ≤ R.cells) (hslots : slots + N' ≤ R.slots) (hdg : decode cc pc = .ok (.newarray .long, 2))
    (kk : ∀ (q : Nat) (M1 : hp_M) (H1 : Heap), M q = none → M1 = va_up M q (some (hp_al D N' (fun _ => 0))) → hp_H D B M1 H1 → va_S (hp_ub B) s.heap H1 locs →
      W p l e R s m args below meth c H1 locs (cells + 1) (slots + N') Q (F0 m (pc + 2) ls (.ref q :: rest))) : W p l e R s m args below meth c H locs cells slots Q (F0 m pc ls (.int n :: rest)) := by
  obtain ⟨-, ws, hP, hD, hL⟩ := hH
  subst hn
  refine va_newa (atype := .long) (ty := .long) (N' := N') (a0 := (N', .inr (.inl (fun _ => 0)))) hexec hb harr rfl hK hP hD hS (fun q h => Nat.le_trans hB h) (fun _ => rfl) (nI_pos (by omega)) (nI_clamp (by omega)) hN hcells hslots hdg (fun q cA H1 hK1 hP1 hD1 hS1 => ?_)
  have e1 := va_nm_long (hK.2 1 _ rfl).2
  have e2 := va_nm_long (hK1.2 4 (cA, .long) (by simp)).2
  have e3 : cA = D.1 11 := Option.some.inj (e2.symm.trans e1)
  subst e3
  obtain ⟨h1, h2⟩ := hp_push hL hD1
  exact kk q _ H1 h1 rfl ⟨Nat.le_trans hB hS1.1, _, hP1, hD1, h2⟩ hS1
theorem hp_newq (hexec : p.tables.exec = Jvm.exec) (hb : c.code = cc) {own C : String} {index : Nat} (hown : s.vm.findClass own = some m.cls) (hclink : (Cond.classLink own index C).before args s = true) (hover : va_AO C s) (hK : va_K D classes (hp_T D) s) (hH : hp_H D B M H) (hS : va_S (hp_ub B) s.heap H locs) (hB : B ≤ s.heap.size) (ck t0 : Nat) (ht : (hp_T D)[t0]? = some (D.1 ck, .object C)) {n : Int32} (N' : Nat) (hn : n = nI N') (hN : N' * 4 ≤ 536870912) (hcells : cells + 1 ≤ R.cells) (hslots : slots + N' ≤ R.slots) (hdg : decode cc pc = .ok (.anewarray index, 3))
    (kk : ∀ (q : Nat) (M1 : hp_M) (H1 : Heap), M q = none → M1 = va_up M q (some (hp_aq D ck N' (fun _ => none))) → hp_H D B M1 H1 → va_S (hp_ub B) s.heap H1 locs →
      W p l e R s m args below meth c H1 locs (cells + 1) (slots + N') Q (F0 m (pc + 3) ls (.ref q :: rest))) : W p l e R s m args below meth c H locs cells slots Q (F0 m pc ls (.int n :: rest)) := by
  obtain ⟨-, ws, hP, hD, hL⟩ := hH
  subst hn
  refine va_newq (N' := N') hexec hb hown hclink hover hK hP hD hS (fun q h => Nat.le_trans hB h) (nI_pos (by omega)) (nI_clamp (by omega)) hN hcells hslots hdg (fun q cA H1 hK1 hP1 hD1 hS1 => ?_)
  obtain ⟨_, _, _, _, _, e1⟩ := (hK.2 t0 _ ht).2
  obtain ⟨_, _, _, _, _, e2⟩ := (hK1.2 4 (cA, .object C) (by simp)).2
  have e3 : cA = D.1 ck := Option.some.inj (e2.symm.trans e1)
  subst e3
  obtain ⟨h1, h2⟩ := hp_push hL hD1
  exact kk q _ H1 h1 rfl ⟨Nat.le_trans hB hS1.1, _, hP1, hD1, h2⟩ hS1
/-- a number on top by another name -/
theorem hp_as {x : Value} (v : Value) (h : x = v) (k : W p l e R s m args below meth c H locs cells slots Q (F0 m pc ls (v :: rest))) : W p l e R s m args below meth c H locs cells slots Q (F0 m pc ls (x :: rest)) := h ▸ k
theorem hp_ioi {x v : Int32} (h : x = v) (k : W p l e R s m args below meth c H locs cells slots Q (F0 m pc ls (.int v :: rest))) : W p l e R s m args below meth c H locs cells slots Q (F0 m pc ls (.int x :: rest)) := h ▸ k
theorem hp_lol {x v : Int64} (h : x = v) (k : W p l e R s m args below meth c H locs cells slots Q (F0 m pc ls (.long v :: rest))) : W p l e R s m args below meth c H locs cells slots Q (F0 m pc ls (.long x :: rest)) := h ▸ k
end HK
/-- the kind of a cell: its class's number; 100 and on: arrays -/
def hp_tg (e : va_E) : Nat := match e with
  | .inl (_, _, .inl _) => 100
  | .inl (_, _, .inr (.inl _)) => 101
  | .inl _ => 102
  | .inr o => o.1
theorem hp_ne {M : hp_M} {x y : Nat} {e1 e2 : va_E} (i j : Nat) (h1 : M x = some e1) (h2 : M y = some e2) (t1 : hp_tg e1 = i) (t2 : hp_tg e2 = j) (hij : i ≠ j) : x ≠ y := by
  intro q
  subst q
  rw [h1] at h2
  cases h2
  exact hij (t1.symm.trans t2)
theorem hp_id {M : hp_M} {a : Nat} {e : va_E} (h : M a = some e) : M = va_up M a (some e) := by
  funext x
  by_cases q : x = a
  · subst q; rw [va_up_self]; exact h
  · rw [va_up_ne _ _ q]
theorem hp_uu {M : hp_M} {a : Nat} {e1 e2 : Option va_E} : va_up (va_up M a e1) a e2 = va_up M a e2 := bx_uu _ _ _ _
theorem hp_fr {M : hp_M} {q b : Nat} {e : va_E} (z : M q = none) (h : M b = some e) : b ≠ q := by
  intro w
  rw [w, z] at h
  cases h
