/-! the law's cases, each of them whole -/
theorem pl_lift {xs : Nat → Int32} {fr fr' : ai_F} {ns : Nat} (h : ∀ o, ag_Go (8, xs) 12 an_law fr' o → ag_Go (8, xs) 12 an_law fr o) (k : pl_ok xs fr' ns) : pl_ok xs fr ns := by
  obtain ⟨h', ex', nc, ns', q1, q2, g⟩ := k
  exact ⟨h', ex', nc, ns', q1, q2, h _ g⟩
theorem pl_f64 : ∀ j : Nat, j < 64 → (if j < 64 then (-1 : Int32) else 0) = -1 := fun j hj => if_pos hj
/-- a cell's number -/
theorem pl_in {x : Int32} {S : Nat} (hS : S ≤ 64) (hk : 0 ≤ x ∧ x < nI S) : ∃ j, j < S ∧ x = nI j := by
  obtain ⟨j, hj, e⟩ := nI_of (Int32.not_lt.mpr hk.1)
  refine ⟨j, ?_, e⟩
  rw [e] at hk
  exact (nI_ltI hj (by omega)).mp hk.2
/-- what a cell's number gives -/
theorem pl_cellf {x z : Int32} {S : Nat} {g1 g2 : Nat → Int32} {a b : Nat} (hS1 : 1 ≤ S) (hS : S ≤ 64) (hz : z = nI S) (hab : nI a * nI b = nI S) (hg1 : ∀ j, j < S → g1 j = -1) (hg2 : ∀ j, j < S → g2 j = -1) (hk : 0 ≤ x ∧ x < z) : ¬ x < 0 ∧ x < z ∧ x < nI a * nI b ∧ ai_in x S = true ∧ ai_in x 64 = true ∧ g1 x.toNatClampNeg = -1 ∧ g2 x.toNatClampNeg = -1 ∧ (if x.toNatClampNeg < 64 then (-1 : Int32) else 0) = -1 := by
  subst hz
  obtain ⟨j, hj, rfl⟩ := pl_in hS hk
  have e : (nI j).toNatClampNeg = j := nI_clamp (by omega)
  rw [e]
  exact ⟨Int32.not_lt.mpr hk.1, hk.2, by rw [hab]; exact hk.2, ai_in_nI hj (by omega), ai_in_nI (by omega) (by omega), hg1 j hj, hg2 j hj, if_pos (by omega)⟩
set_option maxRecDepth 20000 in
theorem pl_c_house {xs : Nat → Int32} {S : Nat} {z : Int32} {f1 f2 f3 g1 g2 : Nat → Int32} {a b : Nat} {ns : Nat} (hS1 : 1 ≤ S) (hS : S ≤ 64) (hz : z = nI S) (hab : nI a * nI b = nI S) (hg1 : ∀ j, j < S → g1 j = -1) (hg2 : ∀ j, j < S → g2 j = -1) : pl_ok xs (140, [(0, .ref 1000000), (1, .ref 0), (2, .ref 49), (3, .ref 85), (4, .int 2)], [], (ah_w S z f1 f2 f3 g1 g2 0 a b (fun j => if j < 64 then -1 else 0) (fun j => if j < 64 then -1 else 0) 0 0 (fun _ => 0)), true, 86, ns) ns := by
  have hm : ∀ q : Int32, (q < nI a * nI b) = (q < z) := fun q => by rw [hab, hz]
  by_cases hk : 0 ≤ xs 3 ∧ xs 3 < z
  · obtain ⟨q0, q1, q2, q3, q4, q5, q6, q7⟩ := pl_cellf hS1 hS hz hab hg1 hg2 hk
    by_cases h1 : xs 4 < 1
    · exact pl_house_1 q0 q1 q2 q3 q4 q5 q6 q7 q7 h1
    by_cases h2 : 9 < xs 4
    · exact pl_house_2 q0 q1 q2 q3 q4 q5 q6 q7 q7 h1 h2
    by_cases h3 : xs 5 < 0
    · exact pl_house_3 q0 q1 q2 q3 q4 q5 q6 q7 q7 h1 h2 h3
    by_cases h4 : 7 < xs 5
    · exact pl_house_4 q0 q1 q2 q3 q4 q5 q6 q7 q7 h1 h2 h3 h4
    exact pl_house_5 q0 q1 q2 q3 q4 q5 q6 q7 q7 h1 h2 h3 h4
  · have hk2 : ¬ (0 ≤ xs 3 ∧ xs 3 < nI a * nI b) := by rw [hm]; exact hk
    exact pl_mk (pl_house_n hk hk2) (by omega) (by omega)
set_option maxRecDepth 20000 in
theorem pl_c_well {xs : Nat → Int32} {S : Nat} {z : Int32} {f1 f2 f3 g1 g2 : Nat → Int32} {a b : Nat} {ns : Nat} (hS1 : 1 ≤ S) (hS : S ≤ 64) (hz : z = nI S) (hab : nI a * nI b = nI S) (hg1 : ∀ j, j < S → g1 j = -1) (hg2 : ∀ j, j < S → g2 j = -1) : pl_ok xs (227, [(0, .ref 1000000), (1, .ref 0), (2, .ref 49), (3, .ref 85), (4, .int 2)], [], (ah_w S z f1 f2 f3 g1 g2 0 a b (fun j => if j < 64 then -1 else 0) (fun j => if j < 64 then -1 else 0) 0 0 (fun _ => 0)), true, 86, ns) ns := by
  have hm : ∀ q : Int32, (q < nI a * nI b) = (q < z) := fun q => by rw [hab, hz]
  by_cases hk : 0 ≤ xs 3 ∧ xs 3 < z
  · obtain ⟨q0, q1, q2, q3, q4, q5, q6, q7⟩ := pl_cellf hS1 hS hz hab hg1 hg2 hk
    by_cases hb : xs 4 = 0
    · exact pl_mk (pl_well_0 q0 q1 q2 q3 q4 q5 q6 q7 q7 hb) (by omega) (by omega)
    · exact pl_mk (pl_well_1 q0 q1 q2 q3 q4 q5 q6 q7 q7 hb) (by omega) (by omega)
  · by_cases hb : xs 4 = 0
    · by_cases h0 : xs 3 < 0
      · exact pl_mk (pl_well_n0l h0 hb) (by omega) (by omega)
      · have h1 : ¬ xs 3 < z := fun w => hk ⟨Int32.not_lt.mp h0, w⟩
        have h2 : ¬ xs 3 < nI a * nI b := by rw [hm]; exact h1
        exact pl_mk (pl_well_n0h h0 h1 h2 hb) (by omega) (by omega)
    · by_cases h0 : xs 3 < 0
      · exact pl_mk (pl_well_n1l h0 hb) (by omega) (by omega)
      · have h1 : ¬ xs 3 < z := fun w => hk ⟨Int32.not_lt.mp h0, w⟩
        have h2 : ¬ xs 3 < nI a * nI b := by rw [hm]; exact h1
        exact pl_mk (pl_well_n1h h0 h1 h2 hb) (by omega) (by omega)
set_option maxRecDepth 20000 in
theorem pl_c_wind {xs : Nat → Int32} {S : Nat} {z : Int32} {f1 f2 f3 g1 g2 : Nat → Int32} {a b : Nat} {ns : Nat} (hS1 : 1 ≤ S) (hS : S ≤ 64) (hz : z = nI S) (hab : nI a * nI b = nI S) (hg1 : ∀ j, j < S → g1 j = -1) (hg2 : ∀ j, j < S → g2 j = -1) : pl_ok xs (318, [(0, .ref 1000000), (1, .ref 0), (2, .ref 49), (3, .ref 85), (4, .int 2)], [], (ah_w S z f1 f2 f3 g1 g2 0 a b (fun j => if j < 64 then -1 else 0) (fun j => if j < 64 then -1 else 0) 0 0 (fun _ => 0)), true, 86, ns) ns := by
  by_cases h1 : xs 3 < 0
  · exact pl_mk (pl_wind_l h1) (by omega) (by omega)
  by_cases h2 : xs 3 ≤ 4
  · exact pl_mk (pl_wind h1 h2) (by omega) (by omega)
  exact pl_mk (pl_wind_h h1 h2) (by omega) (by omega)
set_option maxRecDepth 20000 in
theorem pl_c_company {xs : Nat → Int32} {S : Nat} {z : Int32} {f1 f2 f3 g1 g2 : Nat → Int32} {a b : Nat} {ns : Nat} (hS1 : 1 ≤ S) (hS : S ≤ 64) (hz : z = nI S) (hab : nI a * nI b = nI S) (hg1 : ∀ j, j < S → g1 j = -1) (hg2 : ∀ j, j < S → g2 j = -1) : pl_ok xs (374, [(0, .ref 1000000), (1, .ref 0), (2, .ref 49), (3, .ref 85), (4, .int 2)], [], (ah_w S z f1 f2 f3 g1 g2 0 a b (fun j => if j < 64 then -1 else 0) (fun j => if j < 64 then -1 else 0) 0 0 (fun _ => 0)), true, 86, ns) ns := by
  have hm : ∀ q : Int32, (q < nI a * nI b) = (q < z) := fun q => by rw [hab, hz]
  by_cases hk : 0 ≤ xs 5 ∧ xs 5 < z
  · obtain ⟨q0, q1, q2, q3, q4, q5, q6, q7⟩ := pl_cellf hS1 hS hz hab hg1 hg2 hk
    by_cases h3 : xs 3 < 0
    · exact pl_company_1 q0 q1 q2 q3 q4 q5 q6 q7 q7 h3
    by_cases h4 : 7 < xs 3
    · exact pl_company_2 q0 q1 q2 q3 q4 q5 q6 q7 q7 h3 h4
    by_cases h1 : xs 4 < 1
    · exact pl_company_3 q0 q1 q2 q3 q4 q5 q6 q7 q7 h3 h4 h1
    by_cases h2 : 9 < xs 4
    · exact pl_company_4 q0 q1 q2 q3 q4 q5 q6 q7 q7 h3 h4 h1 h2
    exact pl_company_5 q0 q1 q2 q3 q4 q5 q6 q7 q7 h3 h4 h1 h2
  · have hk2 : ¬ (0 ≤ xs 5 ∧ xs 5 < nI a * nI b) := by rw [hm]; exact hk
    exact pl_mk (pl_company_n hk hk2) (by omega) (by omega)
set_option maxRecDepth 20000 in
theorem pl_c_feed {xs : Nat → Int32} {S : Nat} {z : Int32} {f1 f2 f3 g1 g2 : Nat → Int32} {a b : Nat} {ns : Nat} (hS1 : 1 ≤ S) (hS : S ≤ 64) (hz : z = nI S) (hab : nI a * nI b = nI S) (hg1 : ∀ j, j < S → g1 j = -1) (hg2 : ∀ j, j < S → g2 j = -1) : pl_ok xs (454, [(0, .ref 1000000), (1, .ref 0), (2, .ref 49), (3, .ref 85), (4, .int 2)], [], (ah_w S z f1 f2 f3 g1 g2 0 a b (fun j => if j < 64 then -1 else 0) (fun j => if j < 64 then -1 else 0) 0 0 (fun _ => 0)), true, 86, ns) ns := by
  exact pl_feed
set_option maxRecDepth 20000 in
theorem pl_c_law {xs : Nat → Int32} {S : Nat} {z : Int32} {f1 f2 f3 g1 g2 : Nat → Int32} {a b : Nat} {ns : Nat} (hS1 : 1 ≤ S) (hS : S ≤ 64) (hz : z = nI S) (hab : nI a * nI b = nI S) (hg1 : ∀ j, j < S → g1 j = -1) (hg2 : ∀ j, j < S → g2 j = -1) : pl_ok xs (527, [(0, .ref 1000000), (1, .ref 0), (2, .ref 49), (3, .ref 85), (4, .int 2)], [], (ah_w S z f1 f2 f3 g1 g2 0 a b (fun j => if j < 64 then -1 else 0) (fun j => if j < 64 then -1 else 0) 0 0 (fun _ => 0)), true, 86, ns) ns := by
  by_cases h1 : xs 3 < 0
  · exact pl_law_1 h1
  by_cases h2 : 0 < xs 3
  · exact pl_law_2 h1 h2
  have h3 : xs 3 = 0 := Int32.le_antisymm (Int32.not_lt.mp h2) (Int32.not_lt.mp h1)
  by_cases h4 : xs 4 < 0
  · exact pl_law_3 h3 h4
  by_cases h5 : 100 < xs 4
  · exact pl_law_4 h3 h4 h5
  exact pl_law_5 h3 h4 h5
set_option maxRecDepth 20000 in
theorem pl_c_fault {xs : Nat → Int32} {S : Nat} {z : Int32} {f1 f2 f3 g1 g2 : Nat → Int32} {a b : Nat} {ns : Nat} (hS1 : 1 ≤ S) (hS : S ≤ 64) (hz : z = nI S) (hab : nI a * nI b = nI S) (hg1 : ∀ j, j < S → g1 j = -1) (hg2 : ∀ j, j < S → g2 j = -1) : pl_ok xs (595, [(0, .ref 1000000), (1, .ref 0), (2, .ref 49), (3, .ref 85), (4, .int 2)], [], (ah_w S z f1 f2 f3 g1 g2 0 a b (fun j => if j < 64 then -1 else 0) (fun j => if j < 64 then -1 else 0) 0 0 (fun _ => 0)), true, 86, ns) ns := by
  exact pl_mk (pl_fault) (by omega) (by omega)
set_option maxRecDepth 20000 in
theorem pl_c_light {xs : Nat → Int32} {S : Nat} {z : Int32} {f1 f2 f3 g1 g2 : Nat → Int32} {a b : Nat} {ns : Nat} (hS1 : 1 ≤ S) (hS : S ≤ 64) (hz : z = nI S) (hab : nI a * nI b = nI S) (hg1 : ∀ j, j < S → g1 j = -1) (hg2 : ∀ j, j < S → g2 j = -1) : pl_ok xs (608, [(0, .ref 1000000), (1, .ref 0), (2, .ref 49), (3, .ref 85), (4, .int 2)], [], (ah_w S z f1 f2 f3 g1 g2 0 a b (fun j => if j < 64 then -1 else 0) (fun j => if j < 64 then -1 else 0) 0 0 (fun _ => 0)), true, 86, ns) ns := by
  have hm : ∀ q : Int32, (q < nI a * nI b) = (q < z) := fun q => by rw [hab, hz]
  by_cases hk : 0 ≤ xs 3 ∧ xs 3 < z
  · obtain ⟨q0, q1, q2, q3, q4, q5, q6, q7⟩ := pl_cellf hS1 hS hz hab hg1 hg2 hk
    exact pl_mk (pl_light_r hk q3 q5 ⟨hk.1, q2⟩ q4 q7) (by omega) (by omega)
  · have hk2 : ¬ (0 ≤ xs 3 ∧ xs 3 < nI a * nI b) := by rw [hm]; exact hk
    exact pl_mk (pl_light_n hk hk2) (by omega) (by omega)
set_option maxRecDepth 20000 in
theorem pl_c_send {xs : Nat → Int32} {S : Nat} {z : Int32} {f1 f2 f3 g1 g2 : Nat → Int32} {a b : Nat} {ns : Nat} (hS1 : 1 ≤ S) (hS : S ≤ 64) (hz : z = nI S) (hab : nI a * nI b = nI S) (hg1 : ∀ j, j < S → g1 j = -1) (hg2 : ∀ j, j < S → g2 j = -1) : pl_ok xs (664, [(0, .ref 1000000), (1, .ref 0), (2, .ref 49), (3, .ref 85), (4, .int 2)], [], (ah_w S z f1 f2 f3 g1 g2 0 a b (fun j => if j < 64 then -1 else 0) (fun j => if j < 64 then -1 else 0) 0 0 (fun _ => 0)), true, 86, ns) ns := by
  exact pl_mk (pl_send) (by omega) (by omega)
set_option maxRecDepth 20000 in
theorem pl_c_pull {xs : Nat → Int32} {S : Nat} {z : Int32} {f1 f2 f3 g1 g2 : Nat → Int32} {a b : Nat} {ns : Nat} (hS1 : 1 ≤ S) (hS : S ≤ 64) (hz : z = nI S) (hab : nI a * nI b = nI S) (hg1 : ∀ j, j < S → g1 j = -1) (hg2 : ∀ j, j < S → g2 j = -1) : pl_ok xs (739, [(0, .ref 1000000), (1, .ref 0), (2, .ref 49), (3, .ref 85), (4, .int 2)], [], (ah_w S z f1 f2 f3 g1 g2 0 a b (fun j => if j < 64 then -1 else 0) (fun j => if j < 64 then -1 else 0) 0 0 (fun _ => 0)), true, 86, ns) ns := by
  exact pl_mk (pl_pull) (by omega) (by omega)
set_option maxRecDepth 20000 in
theorem pl_c_hours {xs : Nat → Int32} {S : Nat} {z : Int32} {f1 f2 f3 g1 g2 : Nat → Int32} {a b : Nat} {ns : Nat} (hS1 : 1 ≤ S) (hS : S ≤ 64) (hz : z = nI S) (hab : nI a * nI b = nI S) (hg1 : ∀ j, j < S → g1 j = -1) (hg2 : ∀ j, j < S → g2 j = -1) : pl_ok xs (814, [(0, .ref 1000000), (1, .ref 0), (2, .ref 49), (3, .ref 85), (4, .int 2)], [], (ah_w S z f1 f2 f3 g1 g2 0 a b (fun j => if j < 64 then -1 else 0) (fun j => if j < 64 then -1 else 0) 0 0 (fun _ => 0)), true, 86, ns) ns := by
  subst hz
  by_cases h1 : xs 3 < 0
  · exact pl_hours_1 h1
  by_cases h2 : 100 < xs 3
  · exact pl_hours_2 h1 h2
  obtain ⟨j, hj, e⟩ := nI_of2 (x := xs 3) (M := 100) (n := 100) (by decide) h1 (Int32.not_lt.mp h2)
  rcases j with _ | n
  · exact pl_hours_0 (by rw [e]; rfl)
  · exact pl_hours_3 hS1 hS hab hg1 pl_f64 hj e (nI_pos (by omega)) (by rw [← e]; exact h2) (show ¬ nI 2400 < nI (n + 1) from nI_nlt (by omega) (by omega)) (by rw [Int32.zero_add]; exact (show ¬ nI 2400 < nI (n + 1) from nI_nlt (by omega) (by omega))) (show nI 0 < nI (n + 1) from nI_lt (by omega) (by omega))
theorem pl_small_of {x : Int32} (n : Nat) (hn : n < 2 ^ 31) (h1 : 0 ≤ x.toInt) (h2 : x.toInt ≤ n) : ∃ j : Nat, j < n + 1 ∧ x = nI j := by
  obtain ⟨j, hj, e⟩ := nI_of (x := x) (fun w => by
    have := Int32.lt_iff_toInt_lt.mp w
    have e0 : (0 : Int32).toInt = 0 := by decide
    omega)
  refine ⟨j, ?_, e⟩
  rw [e, nI_toInt hj] at h2
  omega
set_option maxRecDepth 20000 in
theorem pl_c_cell {xs : Nat → Int32} {S : Nat} {z : Int32} {f1 f2 f3 g1 g2 : Nat → Int32} {a b : Nat} {ns : Nat} (hS1 : 1 ≤ S) (hS : S ≤ 64) (hz : z = nI S) (hab : nI a * nI b = nI S) (hg1 : ∀ j, j < S → g1 j = -1) (hg2 : ∀ j, j < S → g2 j = -1) : pl_ok xs (870, [(0, .ref 1000000), (1, .ref 0), (2, .ref 49), (3, .ref 85), (4, .int 2)], [], (ah_w S z f1 f2 f3 g1 g2 0 a b (fun j => if j < 64 then -1 else 0) (fun j => if j < 64 then -1 else 0) 0 0 (fun _ => 0)), true, 86, ns) ns := by
  have hm : ∀ q : Int32, (q < nI a * nI b) = (q < z) := fun q => by rw [hab, hz]
  by_cases hk : 0 ≤ xs 3 ∧ xs 3 < z
  · obtain ⟨q0, q1, q2, q3, q4, q5, q6, q7⟩ := pl_cellf hS1 hS hz hab hg1 hg2 hk
    by_cases hw : (xs 4).toInt < 0 ∨ 7 < (xs 4).toInt
    · exact pl_cell_x q0 q1 q2 q3 q4 q5 q6 q7 q7 hw
    obtain ⟨j, hj, e⟩ : ∃ j : Nat, j < 8 ∧ xs 4 = nI j := pl_small_of 7 (by omega) (by omega) (by omega)
    obtain rfl | rfl | rfl | rfl | rfl | rfl | rfl | rfl : j = 0 ∨ j = 1 ∨ j = 2 ∨ j = 3 ∨ j = 4 ∨ j = 5 ∨ j = 6 ∨ j = 7 := by omega
    · exact pl_cell_0 q0 q1 q2 q3 q4 q5 q6 q7 q7 e
    · exact pl_cell_1 q0 q1 q2 q3 q4 q5 q6 q7 q7 e
    · exact pl_cell_2 q0 q1 q2 q3 q4 q5 q6 q7 q7 e
    · exact pl_cell_3 q0 q1 q2 q3 q4 q5 q6 q7 q7 e
    · exact pl_cell_4 q0 q1 q2 q3 q4 q5 q6 q7 q7 e
    · exact pl_cell_5 q0 q1 q2 q3 q4 q5 q6 q7 q7 e
    · exact pl_cell_6 q0 q1 q2 q3 q4 q5 q6 q7 q7 e
    · exact pl_cell_7 q0 q1 q2 q3 q4 q5 q6 q7 q7 e
  · have hk2 : ¬ (0 ≤ xs 3 ∧ xs 3 < nI a * nI b) := by rw [hm]; exact hk
    exact pl_mk (pl_cell_n hk hk2) (by omega) (by omega)
set_option maxRecDepth 20000 in
theorem pl_c_of {xs : Nat → Int32} {S : Nat} {z : Int32} {f1 f2 f3 g1 g2 : Nat → Int32} {a b : Nat} {ns : Nat} (hS1 : 1 ≤ S) (hS : S ≤ 64) (hz : z = nI S) (hab : nI a * nI b = nI S) (hg1 : ∀ j, j < S → g1 j = -1) (hg2 : ∀ j, j < S → g2 j = -1) : pl_ok xs (938, [(0, .ref 1000000), (1, .ref 0), (2, .ref 49), (3, .ref 85), (4, .int 2)], [], (ah_w S z f1 f2 f3 g1 g2 0 a b (fun j => if j < 64 then -1 else 0) (fun j => if j < 64 then -1 else 0) 0 0 (fun _ => 0)), true, 86, ns) ns := by
  exact pl_mk (pl_of) (by omega) (by omega)
set_option maxRecDepth 20000 in
theorem pl_c_breaks {xs : Nat → Int32} {S : Nat} {z : Int32} {f1 f2 f3 g1 g2 : Nat → Int32} {a b : Nat} {ns : Nat} (hS1 : 1 ≤ S) (hS : S ≤ 64) (hz : z = nI S) (hab : nI a * nI b = nI S) (hg1 : ∀ j, j < S → g1 j = -1) (hg2 : ∀ j, j < S → g2 j = -1) : pl_ok xs (1006, [(0, .ref 1000000), (1, .ref 0), (2, .ref 49), (3, .ref 85), (4, .int 2)], [], (ah_w S z f1 f2 f3 g1 g2 0 a b (fun j => if j < 64 then -1 else 0) (fun j => if j < 64 then -1 else 0) 0 0 (fun _ => 0)), true, 86, ns) ns := by
  have hm : ∀ q : Int32, (q < nI a * nI b) = (q < z) := fun q => by rw [hab, hz]
  by_cases hk : 0 ≤ xs 3 ∧ xs 3 < z
  · obtain ⟨q0, q1, q2, q3, q4, q5, q6, q7⟩ := pl_cellf hS1 hS hz hab hg1 hg2 hk
    exact pl_mk (pl_breaks_r hk q3 q5 ⟨hk.1, q2⟩ q4 q7) (by omega) (by omega)
  · have hk2 : ¬ (0 ≤ xs 3 ∧ xs 3 < nI a * nI b) := by rw [hm]; exact hk
    exact pl_mk (pl_breaks_n hk hk2) (by omega) (by omega)
set_option maxRecDepth 20000 in
theorem pl_c_breaker {xs : Nat → Int32} {S : Nat} {z : Int32} {f1 f2 f3 g1 g2 : Nat → Int32} {a b : Nat} {ns : Nat} (hS1 : 1 ≤ S) (hS : S ≤ 64) (hz : z = nI S) (hab : nI a * nI b = nI S) (hg1 : ∀ j, j < S → g1 j = -1) (hg2 : ∀ j, j < S → g2 j = -1) : pl_ok xs (1062, [(0, .ref 1000000), (1, .ref 0), (2, .ref 49), (3, .ref 85), (4, .int 2)], [], (ah_w S z f1 f2 f3 g1 g2 0 a b (fun j => if j < 64 then -1 else 0) (fun j => if j < 64 then -1 else 0) 0 0 (fun _ => 0)), true, 86, ns) ns := by
  by_cases h1 : xs 3 < 0
  · exact pl_mk (pl_breaker_l h1) (by omega) (by omega)
  · exact pl_mk (pl_breaker_h h1) (by omega) (by omega)
set_option maxRecDepth 20000 in
theorem pl_c_count {xs : Nat → Int32} {S : Nat} {z : Int32} {f1 f2 f3 g1 g2 : Nat → Int32} {a b : Nat} {ns : Nat} (hS1 : 1 ≤ S) (hS : S ≤ 64) (hz : z = nI S) (hab : nI a * nI b = nI S) (hg1 : ∀ j, j < S → g1 j = -1) (hg2 : ∀ j, j < S → g2 j = -1) : pl_ok xs (1118, [(0, .ref 1000000), (1, .ref 0), (2, .ref 49), (3, .ref 85), (4, .int 2)], [], (ah_w S z f1 f2 f3 g1 g2 0 a b (fun j => if j < 64 then -1 else 0) (fun j => if j < 64 then -1 else 0) 0 0 (fun _ => 0)), true, 86, ns) ns := by
  subst hz
  by_cases hw : (xs 3).toInt < 0 ∨ 9 < (xs 3).toInt
  · exact pl_count_x hw
  obtain ⟨j, hj, e⟩ : ∃ j : Nat, j < 10 ∧ xs 3 = nI j := pl_small_of 9 (by omega) (by omega) (by omega)
  obtain rfl | rfl | rfl | rfl | rfl | rfl | rfl | rfl | rfl | rfl : j = 0 ∨ j = 1 ∨ j = 2 ∨ j = 3 ∨ j = 4 ∨ j = 5 ∨ j = 6 ∨ j = 7 ∨ j = 8 ∨ j = 9 := by omega
  · exact pl_count_0 e
  · exact pl_count_1 hS1 hS hab hg1 pl_f64 e
  · exact pl_count_2 hS1 hS hab hg1 pl_f64 e
  · exact pl_count_3 hS1 hS hab hg1 pl_f64 e
  · exact pl_count_4 hS1 hS hab hg1 pl_f64 e
  · exact pl_count_5 e
  · exact pl_count_6 e
  · exact pl_count_7 e
  · exact pl_count_8 e
  · exact pl_count_9 e
