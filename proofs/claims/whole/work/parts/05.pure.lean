/-! THE MATHEMATICAL SWITCH that both sides are tied to. -/
/-- a cell: input, output, class, tag, number of its acceptance, slot in which it came, time -/
abbrev sg_Ce : Type := Nat × Nat × Nat × Int32 × Nat × Int32 × Int64
/-- kinds, weights, last times, orders, offered, slot number, accepted, sent in the latest slot -/
abbrev sg_S : Type := (Nat → Int32) × (Nat → Nat → Int32) × (Nat → Nat → Int64) × (Nat → List sg_Ce) × (Nat → Option sg_Ce) × Int32 × Nat × (Nat → Option sg_Ce)
abbrev sg_kd (σ : sg_S) : Nat → Int32 := σ.1
abbrev sg_wt (σ : sg_S) : Nat → Nat → Int32 := σ.2.1
abbrev sg_lt (σ : sg_S) : Nat → Nat → Int64 := σ.2.2.1
abbrev sg_qu (σ : sg_S) : Nat → List sg_Ce := σ.2.2.2.1
abbrev sg_of (σ : sg_S) : Nat → Option sg_Ce := σ.2.2.2.2.1
abbrev sg_sl (σ : sg_S) : Int32 := σ.2.2.2.2.2.1
abbrev sg_ac (σ : sg_S) : Nat := σ.2.2.2.2.2.2.1
abbrev sg_se (σ : sg_S) : Nat → Option sg_Ce := σ.2.2.2.2.2.2.2
abbrev sg_ci (c : sg_Ce) : Nat := c.1
abbrev sg_co (c : sg_Ce) : Nat := c.2.1
abbrev sg_cg (c : sg_Ce) : Nat := c.2.2.1
abbrev sg_ct (c : sg_Ce) : Int32 := c.2.2.2.1
abbrev sg_cs (c : sg_Ce) : Nat := c.2.2.2.2.1
abbrev sg_cc (c : sg_Ce) : Int32 := c.2.2.2.2.2.1
abbrev sg_cm (c : sg_Ce) : Int64 := c.2.2.2.2.2.2
def sg_0 : sg_S := (fun _ => 0, fun _ _ => 1, fun _ _ => 0, fun _ => [], fun _ => none, 0, 0, fun _ => none)
/-- a class's step at a weight -/
def sg_step (w : Int32) : Int32 := (65535 + w) / w
/-- the time of a cell that comes -/
def sg_time (σ : sg_S) (o g : Nat) : Int64 := (if sg_lt σ o g < 256 * (sg_sl σ).toInt64 then 256 * (sg_sl σ).toInt64 else sg_lt σ o g) + (sg_step (sg_wt σ o g)).toInt64
/-- c goes ahead of d -/
def sg_bef (k : Int32) (c d : sg_Ce) : Bool := (k == 1 && decide (sg_cg c < sg_cg d)) || (k == 2 && decide (sg_cm c < sg_cm d))
def sg_ins (k : Int32) (c : sg_Ce) : List sg_Ce → List sg_Ce
  | [] => [c]
  | d :: ds => if sg_bef k c d then c :: d :: ds else d :: sg_ins k c ds
/-- the cell as it comes -/
def sg_cell (σ : sg_S) (c : sg_Ce) : sg_Ce := (sg_ci c, sg_co c, sg_cg c, sg_ct c, sg_cs c, sg_sl σ, if sg_kd σ (sg_co c) = 2 then sg_time σ (sg_co c) (sg_cg c) else 0)
def sg_come1 (σ : sg_S) (i : Nat) (c : sg_Ce) : sg_S := (sg_kd σ, sg_wt σ, if sg_kd σ (sg_co c) = 2 then va_up (sg_lt σ) (sg_co c) (va_up (sg_lt σ (sg_co c)) (sg_cg c) (sg_time σ (sg_co c) (sg_cg c))) else sg_lt σ, va_up (sg_qu σ) (sg_co c) (sg_ins (sg_kd σ (sg_co c)) (sg_cell σ c) (sg_qu σ (sg_co c))), va_up (sg_of σ) i none, sg_sl σ, sg_ac σ, sg_se σ)
def sg_come (σ : sg_S) (i : Nat) : sg_S := match sg_of σ i with
  | none => σ
  | some c => sg_come1 σ i c
def sg_comes (σ : sg_S) : Nat → sg_S
  | 0 => σ
  | n + 1 => sg_come (sg_comes σ n) n
def sg_send (σ : sg_S) (o : Nat) : sg_S := match sg_qu σ o with
  | [] => (sg_kd σ, sg_wt σ, sg_lt σ, sg_qu σ, sg_of σ, sg_sl σ, sg_ac σ, va_up (sg_se σ) o none)
  | c :: cs => (sg_kd σ, sg_wt σ, if cs = [] then va_up (sg_lt σ) o (fun _ => 0) else sg_lt σ, va_up (sg_qu σ) o cs, sg_of σ, sg_sl σ, sg_ac σ, va_up (sg_se σ) o (some c))
def sg_sends (σ : sg_S) : Nat → sg_S
  | 0 => σ
  | n + 1 => sg_send (sg_sends σ n) n
/-- how many of the first n outputs have a cell -/
def sg_count (σ : sg_S) : Nat → Nat
  | 0 => 0
  | n + 1 => sg_count σ n + (if sg_qu σ n = [] then 0 else 1)
def sg_slot (σ : sg_S) : sg_S := let τ := sg_sends (sg_comes σ 8) 8; (sg_kd τ, sg_wt τ, sg_lt τ, sg_qu τ, sg_of τ, sg_sl τ + 1, sg_ac τ, sg_se τ)
def sg_sum (f : Nat → Nat) : Nat → Nat
  | 0 => 0
  | n + 1 => sg_sum f n + f n
/-- cells of input i in a list -/
def sg_cnt (i : Nat) : List sg_Ce → Nat
  | [] => 0
  | c :: cs => (if sg_ci c = i then 1 else 0) + sg_cnt i cs
def sg_o1 (x : Option sg_Ce) : Nat := match x with
  | none => 0
  | some _ => 1
def sg_held (σ : sg_S) (i : Nat) : Nat := sg_o1 (sg_of σ i) + sg_sum (fun o => sg_cnt i (sg_qu σ o)) 8
def sg_total (σ : sg_S) : Nat := sg_sum (fun i => sg_o1 (sg_of σ i)) 8 + sg_sum (fun o => (sg_qu σ o).length) 8
def sg_reset (σ : sg_S) : sg_S := (sg_kd σ, sg_wt σ, fun _ _ => 0, fun _ => [], fun _ => none, sg_sl σ, sg_ac σ, fun _ => none)
def sg_offer (σ : sg_S) (i o g : Nat) (t : Int32) : sg_S := (sg_kd σ, sg_wt σ, sg_lt σ, sg_qu σ, va_up (sg_of σ) i (some (i, o, g, t, sg_ac σ, 0, 0)), sg_sl σ, sg_ac σ + 1, sg_se σ)
def sg_setO (σ : sg_S) (o : Nat) (k : Int32) : sg_S := (va_up (sg_kd σ) o k, sg_wt σ, sg_lt σ, sg_qu σ, sg_of σ, sg_sl σ, sg_ac σ, sg_se σ)
def sg_setW (σ : sg_S) (o g : Nat) (w : Int32) : sg_S := (sg_kd σ, va_up (sg_wt σ) o (va_up (sg_wt σ o) g w), sg_lt σ, sg_qu σ, sg_of σ, sg_sl σ, sg_ac σ, sg_se σ)
/-- what holds of every state that is reached -/
def sg_ord (k : Int32) (l : List sg_Ce) : Prop := (k = 1 → l.Pairwise (fun c d => sg_cg c ≤ sg_cg d)) ∧ (k = 2 → l.Pairwise (fun c d => sg_cm c ≤ sg_cm d))
def sg_inv (σ : sg_S) : Prop :=
  (∀ o, o < 8 → (sg_kd σ o = 0 ∨ sg_kd σ o = 1 ∨ sg_kd σ o = 2) ∧ sg_ord (sg_kd σ o) (sg_qu σ o) ∧ ((sg_qu σ o).map sg_cs).Nodup ∧ ∀ c ∈ sg_qu σ o, sg_ci c < 8 ∧ sg_co c = o ∧ sg_cg c < 8 ∧ sg_cs c < sg_ac σ) ∧
  (∀ i, i < 8 → sg_held σ i ≤ 64 ∧ ∀ c, sg_of σ i = some c → sg_ci c = i ∧ sg_co c < 8 ∧ sg_cg c < 8 ∧ sg_cs c < sg_ac σ ∧ sg_cc c = 0 ∧ sg_cm c = 0) ∧
  (∃ w : Nat → Nat, (∀ o, o < 8 → ∀ c ∈ sg_qu σ o, w (sg_cs c) = o) ∧ ∀ i, i < 8 → ∀ c, sg_of σ i = some c → w (sg_cs c) = 8 + i) ∧
  (∀ o g, o < 8 → g < 8 → sg_wt σ o g ≠ 0) ∧ sg_total σ ≤ sg_ac σ
