/-! Contracts over a logical heap: words, entry, calls, ends. -/
section HC
variable {p : Program} {l : Launch} {e : Env} {R : Room} {s : State} {m : MethodId} {args : Array Value} {below : List Frame} {meth : Method} {c : Code} {H : Heap} {locs : List Loc} {cells slots : Nat} {Q : State → Prop}
variable {cc : ByteArray} {pc : Nat} {ls : Array Slot} {rest st0 : List Value} {D : va_G} {B b : Nat} {M : hp_M} {y : MethodName} {bytes : ByteArray} {maxL nL mc ms n index : Nat} {ret : Option FieldType} {rm : Room} {Ts : List Cond} {own C : String} {As : List Value} {Qc : Array Value → State → Outcome → State → Prop}
theorem hp_met {av : List Value} (hy : plainName y.cls = true) (hlen : (lg_sl av).length ≤ maxL)
    (body : ∀ (p : Program) (e : Env) (s : State) (m : MethodId) (args : Array Value) (below : List Frame) (meth : Method) (c : Code) (ls : Array Slot) (Q : State → Prop), (∀ t : State, MQ below Qc args s mc ms (hp_ub B) t → Q t) → p.tables.exec = Jvm.exec → c.code = cc → meth.sig.returnType = ret → (∀ w ∈ wd_T, w.before args s = true) → s.vm.findClass y.cls = some m.cls → meth.locks = false → meth.name = y.name → c.maxLocals = maxL → va_K D classes (hp_T D) s → hp_H D B M s.heap → va_S (hp_ub B) s.heap s.heap [] → B ≤ s.heap.size → lv_has ls maxL (lv_args 0 av) →
      W p l e rm s m args below meth c s.heap [] 0 0 Q (F0 m 0 ls [])) :
    Met l y (wd_c y cc maxL ret) rm (va_Pc av (hp_C D B M)) Qc mc ms (hp_ub B) := by
  refine Met.ofW (cc := cc) (maxL := maxL) (ret := ret) hy rfl ?_
  intro p e s m args below meth c s₁ Bd hml hv
  obtain ⟨rfl, hH, hK⟩ := hv
  have hts := atoms_spec (ws := wd_c y cc maxL ret) Bd.pre
  rw [lg_entry_eq]
  exact body p e s m _ below meth c _ _ (fun _ h => h) Bd.exec Bd.bytes Bd.returns (fun w h => hts w (List.mem_cons_of_mem _ h)) (findClass_of_methodNamed Bd.named) Bd.notSynchronized (name_of_methodNamed Bd.named Bd.method).1 hml hK hH va_S.rf hH.1 (lv_entry av hlen)
theorem hp_mono {Q' : State → Prop} {g : JFrame} (hQ : ∀ t : State, Q' t → Q t) (k : W p l e R s m args below meth c H locs cells slots Q' g) : W p l e R s m args below meth c H locs cells slots Q g := fun T hT X => by
  obtain ⟨t, a1, b1⟩ := k T hT X
  exact ⟨t, a1, hQ t b1⟩
/-- a virtual call's words -/
theorem hp_cwV (n : Nat) (ht : ∀ w ∈ wd_T, w.before args s = true) (hl : Cond.methodLink own index y ∈ wd_T) (hi : Cond.instanceMethod y ∈ wd_T) (hs : Cond.selects y.cls y y ∈ wd_T) (hini : Cond.initialized y.cls ∈ wd_T) (hc : Cond.code y bytes maxL ret ∈ wd_T) (hrc : rm.cells = mc) (hrs : rm.slots = ms)
    (hd : y.cls ≠ "java/lang/invoke/MethodHandle" ∧ y.cls ≠ "java/lang/invoke/VarHandle" ∧ (parseMethodDescriptor y.desc).map (fun d => d.parameters.length) = some n) (hR : rm.frames + 1 ≤ R.frames ∧ 8 + (maxL + 11) + rm.locals ≤ R.locals) : CallW R s args own y.cls index y bytes maxL ret (wd_c y bytes maxL ret) rm mc ms n :=
  ⟨callB_of n ht (wd_good hc) rfl hrc hrs (ht _ hini) (ht _ hl) hd hR, ht _ hi, ht _ hs⟩
theorem hp_cwS (n : Nat) (ht : ∀ w ∈ wd_T, w.before args s = true) (hl : Cond.methodLink own index y ∈ wd_T) (hi : Cond.static y ∈ wd_T) (hini : Cond.initialized y.cls ∈ wd_T) (hc : Cond.code y bytes maxL ret ∈ wd_T) (hrc : rm.cells = mc) (hrs : rm.slots = ms)
    (hd : y.cls ≠ "java/lang/invoke/MethodHandle" ∧ y.cls ≠ "java/lang/invoke/VarHandle" ∧ (parseMethodDescriptor y.desc).map (fun d => d.parameters.length) = some n) (hR : rm.frames + 1 ≤ R.frames ∧ 8 + (maxL + 11) + rm.locals ≤ R.locals) : CallB R s args own index y bytes maxL ret (wd_c y bytes maxL ret) rm mc ms n ∧ (Cond.static y).before args s = true :=
  ⟨callB_of n ht (wd_good hc) rfl hrc hrs (ht _ hini) (ht _ hl) hd hR, ht _ hi⟩
theorem hp_cwI (n : Nat) (ht : ∀ w ∈ wd_T, w.before args s = true) (hl : Cond.methodLink own index y ∈ wd_T) (hi : Cond.instanceMethod y ∈ wd_T) (hini : Cond.initialized y.cls ∈ wd_T) (hc : Cond.code y bytes maxL none ∈ wd_T) (hy : y.name = "<init>") (hrc : rm.cells = mc) (hrs : rm.slots = ms)
    (hd : y.cls ≠ "java/lang/invoke/MethodHandle" ∧ y.cls ≠ "java/lang/invoke/VarHandle" ∧ (parseMethodDescriptor y.desc).map (fun d => d.parameters.length) = some n) (hR : rm.frames + 1 ≤ R.frames ∧ 8 + (maxL + 11) + rm.locals ≤ R.locals) : CallB R s args own index y bytes maxL none (wd_c y bytes maxL none) rm mc ms n ∧ y.name = "<init>" ∧ (Cond.instanceMethod y).before args s = true :=
  ⟨callB_of n ht (wd_good hc) rfl hrc hrs (ht _ hini) (ht _ hl) hd hR, hy, ht _ hi⟩
theorem hp_runV (hx : p.tables.exec = Jvm.exec) (hb : c.code = cc) (hml : c.maxLocals = nL) (hown : s.vm.findClass own = some m.cls) {ws : List Cond} (hM : Met l y ws rm (va_Pc (.ref b :: As) (hp_C D B M)) Qc mc ms (hp_ub B)) (cw : CallW R s args own C index y bytes maxL ret ws rm mc ms n) (hK : va_K D classes (hp_T D) s) (hH : hp_H D B M H) {ci N : Nat} {T : u_T} {fs : List Value} (hb0 : M b = some (.inr (ci, fs))) (hc : classes[ci]? = some (C, T, N)) (hn : As.length = n) (hsize : ls.size = nL) (hst : st0 = As.reverse ++ .ref b :: rest) (hW : (rest.map fun v => v.category).sum ≤ 8) (hdg : decode cc pc = .ok (.invokevirtual index, 3)) (hf : cells + mc ≤ R.cells ∧ slots + ms ≤ R.slots) :
    va_Run p l e R s m args below meth c H locs cells slots mc ms (F0 m pc ls st0) rest (Qc (Value.ref b :: As).toArray) (hp_ub B) :=
  va_runV (Ts := []) ⟨hx, hb, hml, hown, fun _ h => absurd h List.not_mem_nil⟩ hM cw ⟨hp_blind, hp_recv hK hH hb0 hc, hp_pre hH hK⟩ rfl hn hsize hst (lv_room hW) hdg hf
theorem hp_runS (hx : p.tables.exec = Jvm.exec) (hb : c.code = cc) (hml : c.maxLocals = nL) (hown : s.vm.findClass own = some m.cls) {ws : List Cond} (hM : Met l y ws rm (va_Pc As (hp_C D B M)) Qc mc ms (hp_ub B)) (cw : CallB R s args own index y bytes maxL ret ws rm mc ms n ∧ (Cond.static y).before args s = true) (hK : va_K D classes (hp_T D) s) (hH : hp_H D B M H) (hn : As.length = n) (hsize : ls.size = nL) (hst : st0 = As.reverse ++ rest) (hW : (rest.map fun v => v.category).sum ≤ 8) (hdg : decode cc pc = .ok (.invokestatic index, 3)) (hf : cells + mc ≤ R.cells ∧ slots + ms ≤ R.slots) :
    va_Run p l e R s m args below meth c H locs cells slots mc ms (F0 m pc ls st0) rest (Qc As.toArray) (hp_ub B) :=
  va_runS (Ts := []) ⟨hx, hb, hml, hown, fun _ h => absurd h List.not_mem_nil⟩ hM cw ⟨hp_blind, hp_pre hH hK⟩ rfl hn hsize hst (lv_room hW) hdg hf
theorem hp_runI (hx : p.tables.exec = Jvm.exec) (hb : c.code = cc) (hml : c.maxLocals = nL) (hown : s.vm.findClass own = some m.cls) {ws : List Cond} (hM : Met l y ws rm (va_Pc (.ref b :: As) (hp_C D B M)) Qc mc ms (hp_ub B)) (cw : CallB R s args own index y bytes maxL none ws rm mc ms n ∧ y.name = "<init>" ∧ (Cond.instanceMethod y).before args s = true) (hK : va_K D classes (hp_T D) s) (hH : hp_H D B M H) (hn : As.length = n) (hsize : ls.size = nL) (hst : st0 = As.reverse ++ .ref b :: rest) (hW : (rest.map fun v => v.category).sum ≤ 8) (hdg : decode cc pc = .ok (.invokespecial index, 3)) (hf : cells + mc ≤ R.cells ∧ slots + ms ≤ R.slots) :
    va_Run p l e R s m args below meth c H locs cells slots mc ms (F0 m pc ls st0) rest (Qc (Value.ref b :: As).toArray) (hp_ub B) :=
  va_runI (Ts := []) ⟨hx, hb, hml, hown, fun _ h => absurd h List.not_mem_nil⟩ hM cw ⟨hp_blind, hp_pre hH hK⟩ rfl hn hsize hst (lv_room hW) hdg hf
theorem hp_calli {post : Int32 → hp_M → Prop} {av : Array Value} (hr : va_Run p l e R s m args below meth c H locs cells slots mc ms (F0 m pc ls st0) rest (va_Qi post (hp_C D B) (hp_ub B) av) (hp_ub B)) (hS : va_S (hp_ub B) s.heap H locs)
    (kk : ∀ (r : Int32) (M1 : hp_M) (H1 : Heap) (locs1 : List Loc), post r M1 → hp_H D B M1 H1 → va_S (hp_ub B) s.heap H1 locs1 → W p l e R s m args below meth c H1 locs1 (cells + mc) (slots + ms) Q (F0 m (pc + 3) ls (.int r :: rest))) : W p l e R s m args below meth c H locs cells slots Q (F0 m pc ls st0) :=
  va_calli hr hS (fun _ _ h => h) (fun _ h => h) (fun r u t H1 locs1 ht _ hw hB _ _ hS1 => kk r u H1 locs1 hw (ht ▸ hB.1) hS1)
theorem hp_calll {post : Int64 → hp_M → Prop} {av : Array Value} (hr : va_Run p l e R s m args below meth c H locs cells slots mc ms (F0 m pc ls st0) rest (va_Ql post (hp_C D B) (hp_ub B) av) (hp_ub B)) (hS : va_S (hp_ub B) s.heap H locs)
    (kk : ∀ (r : Int64) (M1 : hp_M) (H1 : Heap) (locs1 : List Loc), post r M1 → hp_H D B M1 H1 → va_S (hp_ub B) s.heap H1 locs1 → W p l e R s m args below meth c H1 locs1 (cells + mc) (slots + ms) Q (F0 m (pc + 3) ls (.long r :: rest))) : W p l e R s m args below meth c H locs cells slots Q (F0 m pc ls st0) :=
  va_calll hr hS (fun _ _ h => h) (fun _ h => h) (fun r u t H1 locs1 ht _ hw hB _ _ hS1 => kk r u H1 locs1 hw (ht ▸ hB.1) hS1)
theorem hp_callv {post : hp_M → Prop} {av : Array Value} (hr : va_Run p l e R s m args below meth c H locs cells slots mc ms (F0 m pc ls st0) rest (va_Qv post (hp_C D B) (hp_ub B) av) (hp_ub B)) (hS : va_S (hp_ub B) s.heap H locs)
    (kk : ∀ (M1 : hp_M) (H1 : Heap) (locs1 : List Loc), post M1 → hp_H D B M1 H1 → va_S (hp_ub B) s.heap H1 locs1 → W p l e R s m args below meth c H1 locs1 (cells + mc) (slots + ms) Q (F0 m (pc + 3) ls rest)) : W p l e R s m args below meth c H locs cells slots Q (F0 m pc ls st0) :=
  va_callv hr hS (fun _ _ h => h) (fun _ h => h) (fun u t H1 locs1 ht _ hw hB _ _ hS1 => kk u H1 locs1 hw (ht ▸ hB.1) hS1)
theorem hp_callq {post : Option Nat → hp_M → Prop} {av : Array Value} (hr : va_Run p l e R s m args below meth c H locs cells slots mc ms (F0 m pc ls st0) rest (va_Qq post (hp_C D B) (hp_ub B) av) (hp_ub B)) (hS : va_S (hp_ub B) s.heap H locs)
    (kk : ∀ (r : Option Nat) (M1 : hp_M) (H1 : Heap) (locs1 : List Loc), post r M1 → hp_H D B M1 H1 → va_S (hp_ub B) s.heap H1 locs1 → W p l e R s m args below meth c H1 locs1 (cells + mc) (slots + ms) Q (F0 m (pc + 3) ls (va_rf r :: rest))) : W p l e R s m args below meth c H locs cells slots Q (F0 m pc ls st0) :=
  va_callq hr hS (fun _ _ h => h) (fun _ h => h) (fun r u t H1 locs1 ht _ hw hB _ _ hS1 => kk r u H1 locs1 hw (ht ▸ hB.1) hS1)
theorem hp_iret {post : Int32 → hp_M → Prop} {v : Int32} (hexec : p.tables.exec = Jvm.exec) (hb : c.code = cc) (hr : meth.sig.returnType = some .int) (hlocks : meth.locks = false) (hQ : ∀ t : State, MQ below (va_Qi post (hp_C D B) (hp_ub B)) args s mc ms (hp_ub B) t → Q t) (hK : va_K D classes (hp_T D) s) (hH : hp_H D B M H) (hS : va_S (hp_ub B) s.heap H locs) (hc : cells ≤ mc) (hs : slots ≤ ms) (hdg : decode cc pc = .ok (.ireturn, 1)) (hp : post v M) : W p l e R s m args below meth c H locs cells slots Q (F0 m pc ls [.int v]) :=
  W.widen hc hs (hp_mono hQ (W.iret hexec hb hr (fun t ht hW => ⟨⟨v, M, rfl, hp, by rw [ht]; exact hH, va_K.moved hW.alike hK⟩, hS.F ht⟩) hS.2.2 hdg hlocks))
theorem hp_zret {post : Int32 → hp_M → Prop} {v : Int32} (hexec : p.tables.exec = Jvm.exec) (hb : c.code = cc) (hr : meth.sig.returnType = some .boolean) (hlocks : meth.locks = false) (hQ : ∀ t : State, MQ below (va_Qi post (hp_C D B) (hp_ub B)) args s mc ms (hp_ub B) t → Q t) (hK : va_K D classes (hp_T D) s) (hH : hp_H D B M H) (hS : va_S (hp_ub B) s.heap H locs) (hc : cells ≤ mc) (hs : slots ≤ ms) (hn : narrow .boolean (.int v) = .int v) (hdg : decode cc pc = .ok (.ireturn, 1)) (hp : post v M) : W p l e R s m args below meth c H locs cells slots Q (F0 m pc ls [.int v]) :=
  W.widen hc hs (hp_mono hQ (W.zret hexec hb hr hn (fun t ht hW => ⟨⟨v, M, rfl, hp, by rw [ht]; exact hH, va_K.moved hW.alike hK⟩, hS.F ht⟩) hS.2.2 hdg hlocks))
theorem hp_lret {post : Int64 → hp_M → Prop} {v : Int64} (hexec : p.tables.exec = Jvm.exec) (hb : c.code = cc) (hr : meth.sig.returnType = some .long) (hlocks : meth.locks = false) (hQ : ∀ t : State, MQ below (va_Ql post (hp_C D B) (hp_ub B)) args s mc ms (hp_ub B) t → Q t) (hK : va_K D classes (hp_T D) s) (hH : hp_H D B M H) (hS : va_S (hp_ub B) s.heap H locs) (hc : cells ≤ mc) (hs : slots ≤ ms) (hdg : decode cc pc = .ok (.lreturn, 1)) (hp : post v M) : W p l e R s m args below meth c H locs cells slots Q (F0 m pc ls [.long v]) :=
  W.widen hc hs (hp_mono hQ (W.lret hexec hb hr (fun t ht hW => ⟨⟨v, M, rfl, hp, by rw [ht]; exact hH, va_K.moved hW.alike hK⟩, hS.F ht⟩) hS.2.2 hdg hlocks))
theorem hp_vret {post : hp_M → Prop} (hexec : p.tables.exec = Jvm.exec) (hb : c.code = cc) (hr : meth.sig.returnType = none) (hlocks : meth.locks = false) (hQ : ∀ t : State, MQ below (va_Qv post (hp_C D B) (hp_ub B)) args s mc ms (hp_ub B) t → Q t) (hK : va_K D classes (hp_T D) s) (hH : hp_H D B M H) (hS : va_S (hp_ub B) s.heap H locs) (hc : cells ≤ mc) (hs : slots ≤ ms) (hdg : decode cc pc = .ok (.return_, 1)) (hp : post M) : W p l e R s m args below meth c H locs cells slots Q (F0 m pc ls []) :=
  W.widen hc hs (hp_mono hQ (W.vret hexec hb hr (fun t ht hW => ⟨⟨M, rfl, hp, by rw [ht]; exact hH, va_K.moved hW.alike hK⟩, hS.F ht⟩) hS.2.2 hdg hlocks))
theorem hp_qret {post : Option Nat → hp_M → Prop} {v : Option Nat} {cn : String} (hexec : p.tables.exec = Jvm.exec) (hb : c.code = cc) (hr : meth.sig.returnType = some (.object cn)) (hlocks : meth.locks = false) (hQ : ∀ t : State, MQ below (va_Qq post (hp_C D B) (hp_ub B)) args s mc ms (hp_ub B) t → Q t) (hK : va_K D classes (hp_T D) s) (hH : hp_H D B M H) (hS : va_S (hp_ub B) s.heap H locs) (hc : cells ≤ mc) (hs : slots ≤ ms) (hdg : decode cc pc = .ok (.areturn, 1)) (hp : post v M) : W p l e R s m args below meth c H locs cells slots Q (F0 m pc ls [va_rf v]) :=
  W.widen hc hs (hp_mono hQ (W.aret hexec hb hr (Or.inl ⟨_, rfl⟩) (va_rf_or v) (fun t ht hW => ⟨⟨v, M, rfl, hp, by rw [ht]; exact hH, va_K.moved hW.alike hK⟩, hS.F ht⟩) hS.2.2 hdg hlocks))
/-- a reference that may be null: both ways -/
theorem hp_ifnull {r : Option Nat} {off : Int} {tgt : Nat} (hexec : p.tables.exec = Jvm.exec) (hb : c.code = cc) (hdg : decode cc pc = .ok (.ifnull off, 3)) (ht : (pc : Int) + off = (tgt : Int)) (kn : r = none → W p l e R s m args below meth c H locs cells slots Q (F0 m tgt ls rest)) (ks : ∀ x : Nat, r = some x → W p l e R s m args below meth c H locs cells slots Q (F0 m (pc + 3) ls rest)) : W p l e R s m args below meth c H locs cells slots Q (F0 m pc ls (va_rf r :: rest)) := by
  cases r with
  | none => exact lv_ifnullN hexec hb hdg ht (kn rfl)
  | some x => exact lv_ifnull hexec hb hdg (ks x rfl)
theorem hp_ifnonnull {r : Option Nat} {off : Int} {tgt : Nat} (hexec : p.tables.exec = Jvm.exec) (hb : c.code = cc) (hdg : decode cc pc = .ok (.ifnonnull off, 3)) (ht : (pc : Int) + off = (tgt : Int)) (ks : ∀ x : Nat, r = some x → W p l e R s m args below meth c H locs cells slots Q (F0 m tgt ls rest)) (kn : r = none → W p l e R s m args below meth c H locs cells slots Q (F0 m (pc + 3) ls rest)) : W p l e R s m args below meth c H locs cells slots Q (F0 m pc ls (va_rf r :: rest)) := by
  cases r with
  | none => exact lv_ifnonnullN hexec hb hdg (kn rfl)
  | some x => exact lv_ifnonnull hexec hb hdg ht (ks x rfl)
/-- loading and storing a reference that may be null -/
theorem hp_aload_n {k : Fin 4} {i : Nat} {r : Option Nat} (hexec : p.tables.exec = Jvm.exec) (hb : c.code = cc) (hdg : decode cc pc = .ok (.aload_n k, 1)) (hi : (k : Nat) = i) (hl : ls[i]? = some (.val (va_rf r))) (kk : W p l e R s m args below meth c H locs cells slots Q (F0 m (pc + 1) ls (va_rf r :: rest))) : W p l e R s m args below meth c H locs cells slots Q (F0 m pc ls rest) := by
  cases r with
  | none => exact lv_aload_nN hexec hb hdg hi hl kk
  | some x => exact lv_aload_n hexec hb hdg hi hl kk
theorem hp_aload {i : Nat} {r : Option Nat} (hexec : p.tables.exec = Jvm.exec) (hb : c.code = cc) (hdg : decode cc pc = .ok (.aload i, 2)) (hl : ls[i]? = some (.val (va_rf r))) (kk : W p l e R s m args below meth c H locs cells slots Q (F0 m (pc + 2) ls (va_rf r :: rest))) : W p l e R s m args below meth c H locs cells slots Q (F0 m pc ls rest) := by
  cases r with
  | none => exact lv_aloadN hexec hb hdg hl kk
  | some x => exact lv_aload hexec hb hdg hl kk
theorem hp_astore_n {k : Fin 4} {i nL : Nat} {r : Option Nat} {lv lv' : List (Nat × Value)} (hexec : p.tables.exec = Jvm.exec) (hb : c.code = cc) (hdg : decode cc pc = .ok (.astore_n k, 1)) (hi : (k : Nat) = i) (h : lv_has ls nL lv) (hn : i < nL) (hl : (i, va_rf r) :: lv.filter (fun q => !(q.1 == i) && !(q.1 + 1 == i && q.2.category == 2)) = lv')
    (kk : ∀ ls' : Array Slot, lv_has ls' nL lv' → W p l e R s m args below meth c H locs cells slots Q (F0 m (pc + 1) ls' rest)) : W p l e R s m args below meth c H locs cells slots Q (F0 m pc ls (va_rf r :: rest)) := by
  cases r with
  | none => exact lv_astore_nN hexec hb hdg hi h hn hl kk
  | some x => exact lv_astore_n hexec hb hdg hi h hn hl kk
theorem hp_astore {i nL : Nat} {r : Option Nat} {lv lv' : List (Nat × Value)} (hexec : p.tables.exec = Jvm.exec) (hb : c.code = cc) (hdg : decode cc pc = .ok (.astore i, 2)) (h : lv_has ls nL lv) (hn : i < nL) (hl : (i, va_rf r) :: lv.filter (fun q => !(q.1 == i) && !(q.1 + 1 == i && q.2.category == 2)) = lv')
    (kk : ∀ ls' : Array Slot, lv_has ls' nL lv' → W p l e R s m args below meth c H locs cells slots Q (F0 m (pc + 2) ls' rest)) : W p l e R s m args below meth c H locs cells slots Q (F0 m pc ls (va_rf r :: rest)) := by
  cases r with
  | none => exact lv_astoreN hexec hb hdg h hn hl kk
  | some x => exact lv_astore hexec hb hdg h hn hl kk
end HC
