/-! instructions that read and write the heap -/
def ai_fty (ci : Nat) : Nat → FieldType := match ci with
  | 0 => tyX0
  | 1 => tyX1
  | 2 => tyX2
  | 3 => tyX3
  | 4 => tyX4
  | 5 => tyX5
  | 6 => tyX6
  | 7 => tyX7
  | 8 => tyX8
  | 9 => tyX9
  | _ => tyX10
def ai_good (w : Cond) : Bool := decide (w ∈ lw_tbl) && goodWord w
theorem ai_good_in {w : Cond} (h : ai_good w = true) : w ∈ ai_TB := by
  simp only [ai_good, Bool.and_eq_true, decide_eq_true_eq] at h
  exact List.mem_filter.mpr h
theorem ai_goods {l : List Cond} (h : l.all ai_good = true) : ∀ w ∈ l, w ∈ ai_TB := fun w hw => ai_good_in (List.all_eq_true.mp h w hw)
/-- what the tables say of a class of the worlds -/
def ai_clo (ci : Nat) (q : vw_C) : Prop := (∀ w ∈ u_ws q.1 q.2.1 q.2.2, w ∈ ai_TB) ∧ (∀ k, k < q.2.2 → parseFieldDescriptor (q.2.1 k).2.2.1 = some (ai_fty ci k)) ∧ (∀ a, a < q.2.2 → ∀ b, b < q.2.2 → a ≠ b → (q.2.1 a).2.1 ≠ (q.2.1 b).2.1) ∧ (ai_def ci).length = q.2.2 ∧ (∀ j, j < q.2.2 → defaultValue (ai_fty ci j) = vp_V (ai_def ci) j) ∧ Cond.instantiable q.1 q.2.2 ∈ ai_TB ∧ Cond.initialized q.1 ∈ ai_TB
set_option maxRecDepth 100000 in
theorem ai_clo0 : ai_clo 0 (RX0, TX0, 13) := ⟨ai_goods (by decide +kernel), tyX0_ok, nmX0, rfl, by decide +kernel, ai_good_in (by decide +kernel), ai_good_in (by decide +kernel)⟩
set_option maxRecDepth 100000 in
theorem ai_clo1 : ai_clo 1 (RX1, TX1, 9) := ⟨ai_goods (by decide +kernel), tyX1_ok, nmX1, rfl, by decide +kernel, ai_good_in (by decide +kernel), ai_good_in (by decide +kernel)⟩
set_option maxRecDepth 100000 in
theorem ai_clo2 : ai_clo 2 (RX2, TX2, 13) := ⟨ai_goods (by decide +kernel), tyX2_ok, nmX2, rfl, by decide +kernel, ai_good_in (by decide +kernel), ai_good_in (by decide +kernel)⟩
set_option maxRecDepth 100000 in
theorem ai_clo3 : ai_clo 3 (RX3, TX3, 5) := ⟨ai_goods (by decide +kernel), tyX3_ok, nmX3, rfl, by decide +kernel, ai_good_in (by decide +kernel), ai_good_in (by decide +kernel)⟩
set_option maxRecDepth 100000 in
theorem ai_clo4 : ai_clo 4 (RX4, TX4, 4) := ⟨ai_goods (by decide +kernel), tyX4_ok, nmX4, rfl, by decide +kernel, ai_good_in (by decide +kernel), ai_good_in (by decide +kernel)⟩
set_option maxRecDepth 100000 in
theorem ai_clo5 : ai_clo 5 (RX5, TX5, 6) := ⟨ai_goods (by decide +kernel), tyX5_ok, nmX5, rfl, by decide +kernel, ai_good_in (by decide +kernel), ai_good_in (by decide +kernel)⟩
set_option maxRecDepth 100000 in
theorem ai_clo6 : ai_clo 6 (RX6, TX6, 2) := ⟨ai_goods (by decide +kernel), tyX6_ok, nmX6, rfl, by decide +kernel, ai_good_in (by decide +kernel), ai_good_in (by decide +kernel)⟩
set_option maxRecDepth 100000 in
theorem ai_clo7 : ai_clo 7 (RX7, TX7, 6) := ⟨ai_goods (by decide +kernel), tyX7_ok, nmX7, rfl, by decide +kernel, ai_good_in (by decide +kernel), ai_good_in (by decide +kernel)⟩
set_option maxRecDepth 100000 in
theorem ai_clo8 : ai_clo 8 (RX8, TX8, 4) := ⟨ai_goods (by decide +kernel), tyX8_ok, nmX8, rfl, by decide +kernel, ai_good_in (by decide +kernel), ai_good_in (by decide +kernel)⟩
set_option maxRecDepth 100000 in
theorem ai_clo9 : ai_clo 9 (RX9, TX9, 12) := ⟨ai_goods (by decide +kernel), tyX9_ok, nmX9, rfl, by decide +kernel, ai_good_in (by decide +kernel), ai_good_in (by decide +kernel)⟩
set_option maxRecDepth 100000 in
theorem ai_clo10 : ai_clo 10 (RX10, TX10, 56) := ⟨ai_goods (by decide +kernel), tyX10_ok, nmX10, by decide +kernel, by decide +kernel, ai_good_in (by decide +kernel), ai_good_in (by decide +kernel)⟩
theorem ai_cls {ci : Nat} {q : vw_C} (h : vwCl[ci]? = some q) : ai_clo ci q := by
  match ci, h with
  | 0, h => cases h; exact ai_clo0
  | 1, h => cases h; exact ai_clo1
  | 2, h => cases h; exact ai_clo2
  | 3, h => cases h; exact ai_clo3
  | 4, h => cases h; exact ai_clo4
  | 5, h => cases h; exact ai_clo5
  | 6, h => cases h; exact ai_clo6
  | 7, h => cases h; exact ai_clo7
  | 8, h => cases h; exact ai_clo8
  | 9, h => cases h; exact ai_clo9
  | 10, h => cases h; exact ai_clo10
  | n + 11, h => simp [vwCl] at h
