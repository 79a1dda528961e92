/-! The making of an EvenSwitch. -/
def sw_I0 (D : va_G) (M : hp_M) (a : Nat) (F : Nat → Prop) (aI aO : Nat) (fI fO : Nat → Option Nat) (n : Nat) : Prop := ∃ (ip op sp lp ow : Nat → Nat),
  (M a = some (sw_s aI aO 0 0) ∧ M aI = some (hp_aq D 12 8 fI) ∧ M aO = some (hp_aq D 13 8 fO)) ∧ (ow a = 56 ∧ ow aI = 57 ∧ ow aO = 58) ∧
  (∀ i, i < n → sw_In M ow fI (fun _ => none) ip i 0 none) ∧ (∀ o, o < n → sw_Ou D M ow fO (fun _ => none) op sp lp (fun _ => []) o 0 (fun _ => 1) (fun _ => 0) [] none) ∧ ∀ x, F x → ow x = 99 ∧ M x ≠ none
theorem sw_I0_0 {D : va_G} {M : hp_M} {a : Nat} {F : Nat → Prop} {aI aO : Nat} {fI fO : Nat → Option Nat} (h1 : M a = some (sw_s aI aO 0 0)) (h2 : M aI = some (hp_aq D 12 8 fI)) (h3 : M aO = some (hp_aq D 13 8 fO)) (n1 : aI ≠ a) (n2 : aO ≠ a) (n3 : aO ≠ aI) (hF : ∀ x, F x → x ≠ a ∧ x ≠ aI ∧ x ≠ aO ∧ M x ≠ none) : sw_I0 D M a F aI aO fI fO 0 := by
  refine ⟨fun _ => 0, fun _ => 0, fun _ => 0, fun _ => 0, fun x => if x = a then 56 else if x = aI then 57 else if x = aO then 58 else 99, ⟨h1, h2, h3⟩, ⟨if_pos rfl, ?_, ?_⟩, fun i hi => absurd hi (Nat.not_lt_zero i), fun i hi => absurd hi (Nat.not_lt_zero i), fun x hx => ⟨?_, (hF x hx).2.2.2⟩⟩
  · show (if aI = a then 56 else if aI = aI then 57 else if aI = aO then 58 else 99) = 57
    rw [if_neg n1, if_pos rfl]
  · show (if aO = a then 56 else if aO = aI then 57 else if aO = aO then 58 else 99) = 58
    rw [if_neg n2, if_neg n3, if_pos rfl]
  · obtain ⟨b1, b2, b3, -⟩ := hF x hx
    show (if x = a then 56 else if x = aI then 57 else if x = aO then 58 else 99) = 99
    rw [if_neg b1, if_neg b2, if_neg b3]
theorem sw_I0_step {D : va_G} {M M1 : hp_M} {a : Nat} {F : Nat → Prop} {aI aO : Nat} {fI fO : Nat → Option Nat} {n : Nat} (hn : n < 8) (h : sw_I0 D M a F aI aO fI fO n) {q1 q2 q3 q4 : Nat} {f : Nat → Int32} (hf : ∀ j, j < 8 → f j = 65536)
    (z1 : M q1 = none) (z2 : M q2 = none) (z3 : M q3 = none) (z4 : M q4 = none) (k1 : M1 q1 = some (sw_i none 0)) (k2 : M1 q2 = some (sw_o 0 q3 q4 none 0 none)) (k3 : M1 q3 = some (hp_ai D 8 f)) (k4 : M1 q4 = some (hp_al D 8 (fun _ => 0)))
    (ka : M1 a = some (sw_s aI aO 0 0)) (kI : M1 aI = some (hp_aq D 12 8 (va_up fI n (some q1)))) (kO : M1 aO = some (hp_aq D 13 8 (va_up fO n (some q2)))) (kf : ∀ x, M x ≠ none → x ≠ aI → x ≠ aO → M1 x = M x) : sw_I0 D M1 a F aI aO (va_up fI n (some q1)) (va_up fO n (some q2)) (n + 1) ∧ sw_fr F M M1 := by
  obtain ⟨ip, op, sp, lp, ow, ⟨g1, g2, g3⟩, ⟨w1, w2, w3⟩, hi, ho, hF⟩ := h
  have d12 : q1 ≠ q2 := hp_ne ix_in ix_ou k1 k2 rfl rfl (by decide)
  have d13 : q1 ≠ q3 := hp_ne ix_in 100 k1 k3 rfl rfl (by decide)
  have d14 : q1 ≠ q4 := hp_ne ix_in 101 k1 k4 rfl rfl (by decide)
  have d23 : q2 ≠ q3 := hp_ne ix_ou 100 k2 k3 rfl rfl (by decide)
  have d24 : q2 ≠ q4 := hp_ne ix_ou 101 k2 k4 rfl rfl (by decide)
  have d34 : q3 ≠ q4 := hp_ne 100 101 k3 k4 rfl rfl (by decide)
  obtain ⟨ow', eo⟩ : ∃ z, z = va_up (va_up (va_up (va_up ow q1 (24 + n)) q2 (32 + n)) q3 (40 + n)) q4 (48 + n) := ⟨_, rfl⟩
  have ko : ∀ x, M x ≠ none → ow' x = ow x := fun x hx => by
    rw [eo, va_up_ne _ _ (fun z => hx (by rw [z]; exact z4)), va_up_ne _ _ (fun z => hx (by rw [z]; exact z3)), va_up_ne _ _ (fun z => hx (by rw [z]; exact z2)), va_up_ne _ _ (fun z => hx (by rw [z]; exact z1))]
  have o1 : ow' q1 = 24 + n := by rw [eo, va_up_ne _ _ d14, va_up_ne _ _ d13, va_up_ne _ _ d12]; exact va_up_self _ _ _
  have o2 : ow' q2 = 32 + n := by rw [eo, va_up_ne _ _ d24, va_up_ne _ _ d23]; exact va_up_self _ _ _
  have o3 : ow' q3 = 40 + n := by rw [eo, va_up_ne _ _ d34]; exact va_up_self _ _ _
  have o4 : ow' q4 = 48 + n := by rw [eo]; exact va_up_self _ _ _
  have hs : ∀ {x : Nat} {y : va_E}, M x = some y → M x ≠ none := fun hx z => by rw [hx] at z; cases z
  have kk : ∀ x, M x ≠ none → ow x ≠ 57 → ow x ≠ 58 → ow' x = ow x ∧ M1 x = M x := fun x h1 h2 h3 => ⟨ko x h1, kf x h1 (fun z => h2 (by rw [z]; exact w2)) (fun z => h3 (by rw [z]; exact w3))⟩
  have kF : ∀ x, F x → ow' x = ow x ∧ M1 x = M x := fun x hx => kk x (hF x hx).2 (by have := (hF x hx).1; omega) (by have := (hF x hx).1; omega)
  refine ⟨⟨va_up ip n q1, va_up op n q2, va_up sp n q3, va_up lp n q4, ow', ⟨ka, kI, kO⟩, ⟨by rw [ko a (hs g1)]; exact w1, by rw [ko aI (hs g2)]; exact w2, by rw [ko aO (hs g3)]; exact w3⟩, fun i q => ?_, fun o q => ?_, fun x hx => ⟨by rw [(kF x hx).1]; exact (hF x hx).1, by rw [(kF x hx).2]; exact (hF x hx).2⟩⟩, fun x hx => (kF x hx).2⟩
  · unfold sw_In
    by_cases z : i = n
    · subst z
      rw [va_up_self, va_up_self]
      exact ⟨rfl, k1, o1, trivial⟩
    · rw [va_up_ne _ _ z, va_up_ne _ _ z]
      obtain ⟨b1, b2, b3, -⟩ := hi i (by omega)
      have b4 := kk _ (hs b2) (by omega) (by omega)
      exact ⟨b1, by rw [b4.2]; exact b2, by rw [b4.1]; exact b3, trivial⟩
  · unfold sw_Ou
    by_cases z : o = n
    · subst z
      rw [va_up_self, va_up_self, va_up_self, va_up_self]
      exact ⟨rfl, k2, o2, ⟨f, k3, fun j hj => by rw [hf j hj]; show (65536 : Int32) = sg_step 1; decide⟩, o3, ⟨_, k4, fun j _ => rfl⟩, o4, ⟨trivial, List.nodup_nil, fun x hx => absurd hx List.not_mem_nil⟩, trivial⟩
    · rw [va_up_ne _ _ z, va_up_ne _ _ z, va_up_ne _ _ z, va_up_ne _ _ z]
      obtain ⟨b1, b2, b3, ⟨f1, b4, b4'⟩, b5, ⟨f2, b6, b6'⟩, b7, -, -⟩ := ho o (by omega)
      have c2 := kk _ (hs b2) (by omega) (by omega)
      have c4 := kk _ (hs b4) (by omega) (by omega)
      have c6 := kk _ (hs b6) (by omega) (by omega)
      exact ⟨b1, by rw [c2.2]; exact b2, by rw [c2.1]; exact b3, ⟨f1, by rw [c4.2]; exact b4, b4'⟩, by rw [c4.1]; exact b5, ⟨f2, by rw [c6.2]; exact b6, b6'⟩, by rw [c6.1]; exact b7, ⟨trivial, List.nodup_nil, fun x hx => absurd hx List.not_mem_nil⟩, trivial⟩
theorem sw_I0_8 {D : va_G} {M : hp_M} {a : Nat} {F : Nat → Prop} {aI aO : Nat} {fI fO : Nat → Option Nat} (h : sw_I0 D M a F aI aO fI fO 8) : sw_H D M a sg_0 F := by
  obtain ⟨ip, op, sp, lp, ow, h1, h2, hi, ho, hF⟩ := h
  refine ⟨aI, aO, fI, fO, fun _ => none, fun _ => none, ip, op, sp, lp, fun _ => [], ow, h1, h2, fun i q => ?_, ho, hF⟩
  have e : sg_held sg_0 i = 0 := by
    show 0 + sg_sum (fun _ => 0) 8 = 0
    rw [sg_sum_0]
  rw [e]; exact hi i q
/-! a contract with one more word -/
section HC2
variable {p : Program} {l : Launch} {e : Env} {R : Room} {s : State} {m : MethodId} {args : Array Value} {below : List Frame} {meth : Method} {c : Code} {H : Heap} {locs : List Loc} {cells slots : Nat} {Q : State → Prop}
variable {cc : ByteArray} {pc : Nat} {ls : Array Slot} {rest st0 : List Value} {D : va_G} {B b : Nat} {M : hp_M} {y : MethodName} {bytes : ByteArray} {maxL nL mc ms n index : Nat} {ret : Option FieldType} {rm : Room} {own : String} {As : List Value} {Qc : Array Value → State → Outcome → State → Prop} {E : State → Prop}
theorem hp_met2 {av : List Value} (hy : plainName y.cls = true) (hlen : (lg_sl av).length ≤ maxL)
    (body : ∀ (p : Program) (e : Env) (s : State) (m : MethodId) (args : Array Value) (below : List Frame) (meth : Method) (c : Code) (ls : Array Slot) (Q : State → Prop), (∀ t : State, MQ below Qc args s mc ms (hp_ub B) t → Q t) → p.tables.exec = Jvm.exec → c.code = cc → meth.sig.returnType = ret → (∀ w ∈ wd_T, w.before args s = true) → s.vm.findClass y.cls = some m.cls → meth.locks = false → meth.name = y.name → c.maxLocals = maxL → va_K D classes (hp_T D) s → hp_H D B M s.heap → va_S (hp_ub B) s.heap s.heap [] → B ≤ s.heap.size → lv_has ls maxL (lv_args 0 av) → E s →
      W p l e rm s m args below meth c s.heap [] 0 0 Q (F0 m 0 ls [])) :
    Met l y (wd_c y cc maxL ret) rm (va_Pc av (fun U => hp_C D B M U ∧ E U)) Qc mc ms (hp_ub B) := by
  refine Met.ofW (cc := cc) (maxL := maxL) (ret := ret) hy rfl ?_
  intro p e s m args below meth c s₁ Bd hml hv
  obtain ⟨rfl, ⟨hH, hK⟩, hE⟩ := hv
  have hts := atoms_spec (ws := wd_c y cc maxL ret) Bd.pre
  rw [lg_entry_eq]
  exact body p e s m _ below meth c _ _ (fun _ h => h) Bd.exec Bd.bytes Bd.returns (fun w h => hts w (List.mem_cons_of_mem _ h)) (findClass_of_methodNamed Bd.named) Bd.notSynchronized (name_of_methodNamed Bd.named Bd.method).1 hml hK hH va_S.rf hH.1 (lv_entry av hlen) hE
theorem hp_runIN {host : String} (hx : p.tables.exec = Jvm.exec) (hb : c.code = cc) (hml : c.maxLocals = nL) (hown : s.vm.findClass own = some m.cls) {ws : List Cond} (hM : Met l y ws rm (va_Pc (.ref b :: As) (hp_C D B M)) Qc mc ms (hp_ub B)) (cw : va_CN R s args own index y host bytes maxL none ws rm mc ms n ∧ y.name = "<init>" ∧ (Cond.instanceMethod y).before args s = true) (hK : va_K D classes (hp_T D) s) (hH : hp_H D B M H) (hn : As.length = n) (hsize : ls.size = nL) (hst : st0 = As.reverse ++ .ref b :: rest) (hW : (rest.map fun v => v.category).sum ≤ 8) (hdg : decode cc pc = .ok (.invokespecial index, 3)) (hf : cells + mc ≤ R.cells ∧ slots + ms ≤ R.slots) :
    va_Run p l e R s m args below meth c H locs cells slots mc ms (F0 m pc ls st0) rest (Qc (Value.ref b :: As).toArray) (hp_ub B) :=
  va_runIN (Ts := []) ⟨hx, hb, hml, hown, fun _ h => absurd h List.not_mem_nil⟩ hM cw ⟨hp_blind, hp_pre hH hK⟩ rfl hn hsize hst (lv_room hW) hdg hf
theorem hp_cwN {host : String} (n : Nat) (ht : ∀ w ∈ wd_T, w.before args s = true) (hl : va_Nw (.methodLinkNest own index y host) s) (hi : Cond.instanceMethod y ∈ wd_T) (hini : Cond.initialized y.cls ∈ wd_T) (hc : Cond.code y bytes maxL none ∈ wd_T) (hy : y.name = "<init>") (hrc : rm.cells = mc) (hrs : rm.slots = ms)
    (hd : y.cls ≠ "java/lang/invoke/MethodHandle" ∧ y.cls ≠ "java/lang/invoke/VarHandle" ∧ (parseMethodDescriptor y.desc).map (fun d => d.parameters.length) = some n) (hR : rm.frames + 1 ≤ R.frames ∧ 8 + (maxL + 11) + rm.locals ≤ R.locals) : va_CN R s args own index y host bytes maxL none (wd_c y bytes maxL none) rm mc ms n ∧ y.name = "<init>" ∧ (Cond.instanceMethod y).before args s = true :=
  ⟨va_cnB n ht (wd_good hc) rfl hrc hrs hl (ht _ hini) hd hR, hy, ht _ hi⟩
theorem hp_runI2 (hEb : ∀ (a : Array Value) (U : State) (g : JFrame) (mk : MethodId), E U → E (U.calling g mk a)) (hEw : ∀ U : State, s.WarmedH U.vm → E U) (hx : p.tables.exec = Jvm.exec) (hb : c.code = cc) (hml : c.maxLocals = nL) (hown : s.vm.findClass own = some m.cls) {ws : List Cond} (hM : Met l y ws rm (va_Pc (.ref b :: As) (fun U => hp_C D B M U ∧ E U)) Qc mc ms (hp_ub B)) (cw : CallB R s args own index y bytes maxL none ws rm mc ms n ∧ y.name = "<init>" ∧ (Cond.instanceMethod y).before args s = true) (hK : va_K D classes (hp_T D) s) (hH : hp_H D B M H) (hn : As.length = n) (hsize : ls.size = nL) (hst : st0 = As.reverse ++ .ref b :: rest) (hW : (rest.map fun v => v.category).sum ≤ 8) (hdg : decode cc pc = .ok (.invokespecial index, 3)) (hf : cells + mc ≤ R.cells ∧ slots + ms ≤ R.slots) :
    va_Run p l e R s m args below meth c H locs cells slots mc ms (F0 m pc ls st0) rest (Qc (Value.ref b :: As).toArray) (hp_ub B) :=
  va_runI (Ts := []) ⟨hx, hb, hml, hown, fun _ h => absurd h List.not_mem_nil⟩ hM cw ⟨fun a U g mk q => ⟨q.1, ⟨q.2.1.1, va_K.moved (u := U) (U := U.calling g mk a) (Vm.Alike.refl U.vm) q.2.1.2⟩, hEb a U g mk q.2.2⟩, fun U hU hW => ⟨rfl, ⟨by rw [hU]; exact hH, va_K.moved hW.alike hK⟩, hEw U hW⟩⟩ rfl hn hsize hst (lv_room hW) hdg hf
end HC2
/-- what the making of an EvenSwitch needs besides -/
def sw_E (U : State) : Prop := va_Nw (.methodLinkNest R_Sw 21 y_In_init "EvenSwitch") U ∧ va_AO R_In U ∧ va_AO R_Ou U
theorem sw_E_b (a : Array Value) (U : State) (g : JFrame) (mk : MethodId) (h : sw_E U) : sw_E (U.calling g mk a) := ⟨va_Nw.same rfl rfl h.1, va_AO.moved (u := U) (Vm.Alike.refl U.vm) h.2.1, va_AO.moved (u := U) (Vm.Alike.refl U.vm) h.2.2⟩
theorem sw_E_w {s : State} (h : sw_E s) (U : State) (hW : s.WarmedH U.vm) : sw_E U := ⟨va_Nw.warmM hW h.1, va_AO.moved hW.alike h.2.1, va_AO.moved hW.alike h.2.2⟩
