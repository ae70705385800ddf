/-- a word, by its place in the tables -/
def ai_gp (p : Nat) (w : Cond) : Bool := decide (lw_tbl[p]? = some w) && goodWord w
theorem ai_gp_in {p : Nat} {w : Cond} (h : ai_gp p w = true) : w ∈ ai_TB := by
  simp only [ai_gp, Bool.and_eq_true, decide_eq_true_eq] at h
  exact List.mem_filter.mpr ⟨List.mem_of_getElem? h.1, h.2⟩
theorem ai_GI {ws : List Cond} (h : ∀ w ∈ ws, w ∈ ai_TB) : GoodIn ai_TB ws := fun w hw => ⟨h w hw, good_of_word (List.mem_filter.mp (h w hw)).2⟩
