/-! One list of words for every method: what of the tables' words keeps. -/
def wd_T : List Cond := lw_tbl.filter goodWord
abbrev wd_c (y : MethodName) (b : ByteArray) (n : Nat) (r : Option FieldType) : List Cond := Cond.code y b n r :: wd_T
theorem wd_in {w : Cond} (h : w ∈ lw_tbl) (hg : goodWord w = true) : w ∈ wd_T := List.mem_filter.mpr ⟨h, hg⟩
theorem wd_out {w : Cond} (h : w ∈ wd_T) : w ∈ lw_tbl := (List.mem_filter.mp h).1
theorem wd_good {y : MethodName} {b : ByteArray} {n : Nat} {r : Option FieldType} (hc : Cond.code y b n r ∈ wd_T) : GoodIn wd_T (wd_c y b n r) := by
  intro w hw
  have h : w ∈ wd_T := by
    rcases List.mem_cons.mp hw with h | h
    · rw [h]; exact hc
    · exact h
  exact ⟨h, good_of_word (List.mem_filter.mp h).2⟩
