/-! the public methods of the class -/
set_option maxRecDepth 20000 in
theorem sf_X9_house {X : Nat × (Nat → Int32)} {S a b : Nat} {sc : Nat → Int32} {ar : Nat → Nat → Int32} {lo : Nat → Int64} {ex : Bool} (hW : Wd S a b) (hI : Iv S sc ar) (x1 : Int32) (x2 : Int32) (x3 : Int32) (d : Nat)  : ce X S a b (d + 3) 73 [.ref 0, .int x1, .int x2, .int x3] sc ar lo ex "java/util/NoSuchElementException" (True) (fun x sc' ar' => Iv S sc' ar' ∧ Fr [] [5, 6, 7, 8, 9, 10] sc ar sc' ar' ∧ rl x 2) := by
  obtain ⟨ha1, ha8, hb1, hb8, hab, hS1, hS⟩ := id hW
  refine ce_of (M := an_X9_house) rfl (Nat.le_of_ble_eq_true rfl) ?_
  have hF : Fr [] [5, 6, 7, 8, 9, 10] sc ar sc ar := fr_0
  refine to_eq (fr' := (0, [(0, .ref 0), (1, .int x1), (2, .int x2), (3, .int x3)], [], gh S a b sc ar lo, ex, 0, 0)) rfl ?_
  refine to_n 2 (fr' := (2, [(0, .ref 0), (1, .int x1), (2, .int x2), (3, .int x3)], [.int x1, .ref 0], gh S a b sc ar lo, ex, 0, 0)) rfl ?_
  rcases has_or (x := x1) (B := S) (by omega) with ⟨n1, hn1, e1⟩ | w1
  · subst e1
    refine to_cu (q := 89) (M1 := an_X9_needCell) (rest := []) rfl rfl (by decide) rfl ⟨_, rfl⟩ (needCell_1 (n := n1)  (by omega) d) ?_
    refine to_eq (fr' := (5, [(0, .ref 0), (1, .int (nI n1)), (2, .int x2), (3, .int x3)], [], gh S a b sc ar lo, ex, 0, 0)) rfl ?_
    refine to_n 2 (fr' := (7, [(0, .ref 0), (1, .int (nI n1)), (2, .int x2), (3, .int x3)], [.int 1, .int x2], gh S a b sc ar lo, ex, 0, 0)) rfl ?_
    refine to_ic_lt (t := 23) rfl (fun q2 => ?_) (fun q2 => ?_)
    · refine to_n 1 (fr' := (24, [(0, .ref 0), (1, .int (nI n1)), (2, .int x2), (3, .int x3)], [.int 0], gh S a b sc ar lo, ex, 0, 0)) rfl ?_
      exact to_rt (i := .ireturn) (tg := []) rfl rfl (Or.inl ⟨_, _, _, ⟨hI, hF, rl_n (n := 0) (by omega)⟩, rfl⟩)
    · refine to_n 2 (fr' := (13, [(0, .ref 0), (1, .int (nI n1)), (2, .int x2), (3, .int x3)], [.int 9, .int x2], gh S a b sc ar lo, ex, 0, 0)) rfl ?_
      refine to_ic_gt (t := 23) rfl (fun q3 => ?_) (fun q3 => ?_)
      · refine to_n 1 (fr' := (24, [(0, .ref 0), (1, .int (nI n1)), (2, .int x2), (3, .int x3)], [.int 0], gh S a b sc ar lo, ex, 0, 0)) rfl ?_
        exact to_rt (i := .ireturn) (tg := []) rfl rfl (Or.inl ⟨_, _, _, ⟨hI, hF, rl_n (n := 0) (by omega)⟩, rfl⟩)
      · refine to_n 1 (fr' := (17, [(0, .ref 0), (1, .int (nI n1)), (2, .int x2), (3, .int x3)], [.int x3], gh S a b sc ar lo, ex, 0, 0)) rfl ?_
        refine to_cp (q := 91) (M1 := an_X9_isWard) (rest := []) rfl rfl (by decide) rfl trivial (sf_X9_isWard hW hI x3 (d + 1)) (fun x4 hx4 => ?_)
        obtain ⟨hx4, hp4⟩ := hx4
        obtain ⟨n4, hn4, rfl⟩ := hx4
        refine to_eq (fr' := (20, [(0, .ref 0), (1, .int (nI n1)), (2, .int x2), (3, .int x3)], [.int (nI n4)], gh S a b sc ar lo, ex, 0, 0)) rfl ?_
        refine to_nf_ne (t := 25) (x := n4) rfl (by omega) (fun q5 => ?_) (fun q5 => ?_)
        · refine to_n 1 (fr' := (26, [(0, .ref 0), (1, .int (nI n1)), (2, .int x2), (3, .int x3)], [.ref 0], gh S a b sc ar lo, ex, 0, 0)) rfl ?_
          refine to_get rfl rfl rfl rfl ?_
          refine to_n 3 (fr' := (32, [(0, .ref 0), (1, .int (nI n1)), (2, .int x2), (3, .int x3)], [.int x3, .int x2, .int (nI n1), .ref 1], gh S a b sc ar lo, ex, 0, 0)) rfl ?_
          refine to_ci (q := 5) (M1 := an_X0_build) (rest := []) rfl rfl (by decide) rfl ⟨_, rfl⟩ (sf_X0_build hW hI n1 (by omega) x2 x3 (d + 1)) (fun x6 sc6 ar6 hx6 => ?_)
          obtain ⟨hI6, hG6, hx6⟩ := hx6
          have hF6 := fr_t hF hG6 (by decide) (by decide)
          obtain ⟨n6, hn6, rfl⟩ := hx6
          refine to_eq (fr' := (35, [(0, .ref 0), (1, .int (nI n1)), (2, .int x2), (3, .int x3)], [.int (nI n6)], gh S a b sc6 ar6 lo, ex, 0, 0)) rfl ?_
          exact to_rt (i := .ireturn) (tg := []) rfl (ai_rtz (rl_n (n := n6) (by omega))) (Or.inl ⟨_, _, _, ⟨hI6, hF6, rl_n (n := n6) (by omega)⟩, rfl⟩)
        · refine to_n 1 (fr' := (24, [(0, .ref 0), (1, .int (nI n1)), (2, .int x2), (3, .int x3)], [.int 0], gh S a b sc ar lo, ex, 0, 0)) rfl ?_
          exact to_rt (i := .ireturn) (tg := []) rfl rfl (Or.inl ⟨_, _, _, ⟨hI, hF, rl_n (n := 0) (by omega)⟩, rfl⟩)
  · exact to_thr (q := 89) (M1 := an_X9_needCell) (rest := []) rfl rfl (by decide) rfl ⟨_, rfl⟩ (needCell_0  w1 d) rfl trivial (Or.inr ⟨trivial, rfl⟩)
set_option maxRecDepth 20000 in
theorem sf_X9_well {X : Nat × (Nat → Int32)} {S a b : Nat} {sc : Nat → Int32} {ar : Nat → Nat → Int32} {lo : Nat → Int64} {ex : Bool} (hW : Wd S a b) (hI : Iv S sc ar) (x1 : Int32) (k2 : Nat) (hk2 : k2 < 2) (d : Nat)  : ce X S a b (d + 3) 74 [.ref 0, .int x1, .int (nI k2)] sc ar lo ex "java/util/NoSuchElementException" (True) (fun x sc' ar' => Iv S sc' ar' ∧ Fr [] [12] sc ar sc' ar' ∧ rl x 2) := by
  obtain ⟨ha1, ha8, hb1, hb8, hab, hS1, hS⟩ := id hW
  refine ce_of (M := an_X9_well) rfl (Nat.le_of_ble_eq_true rfl) ?_
  have hF : Fr [] [12] sc ar sc ar := fr_0
  refine to_eq (fr' := (0, [(0, .ref 0), (1, .int x1), (2, .int (nI k2))], [], gh S a b sc ar lo, ex, 0, 0)) rfl ?_
  refine to_n 2 (fr' := (2, [(0, .ref 0), (1, .int x1), (2, .int (nI k2))], [.int x1, .ref 0], gh S a b sc ar lo, ex, 0, 0)) rfl ?_
  rcases has_or (x := x1) (B := S) (by omega) with ⟨n1, hn1, e1⟩ | w1
  · subst e1
    refine to_cu (q := 89) (M1 := an_X9_needCell) (rest := []) rfl rfl (by decide) rfl ⟨_, rfl⟩ (needCell_1 (n := n1)  (by omega) d) ?_
    refine to_eq (fr' := (5, [(0, .ref 0), (1, .int (nI n1)), (2, .int (nI k2))], [], gh S a b sc ar lo, ex, 0, 0)) rfl ?_
    refine to_n 1 (fr' := (6, [(0, .ref 0), (1, .int (nI n1)), (2, .int (nI k2))], [.ref 0], gh S a b sc ar lo, ex, 0, 0)) rfl ?_
    refine to_get rfl rfl rfl rfl ?_
    refine to_get rfl rfl rfl rfl ?_
    refine to_n 1 (fr' := (13, [(0, .ref 0), (1, .int (nI n1)), (2, .int (nI k2))], [.int (nI n1), .ref 5], gh S a b sc ar lo, ex, 0, 0)) rfl ?_
    refine to_ialR (i := n1) (v := ((ar 5) n1)) rfl (by decide) rfl (by omega) (by omega) rfl ?_
    refine to_n 1 (fr' := (15, [(0, .ref 0), (1, .int (nI n1)), (2, .int (nI k2))], [.int (-1), .int ((ar 5) n1)], gh S a b sc ar lo, ex, 0, 0)) rfl ?_
    refine to_ic_ne (t := 31) rfl (fun q2 => ?_) (fun q2 => ?_)
    · refine to_n 1 (fr' := (32, [(0, .ref 0), (1, .int (nI n1)), (2, .int (nI k2))], [.int 0], gh S a b sc ar lo, ex, 0, 0)) rfl ?_
      exact to_rt (i := .ireturn) (tg := []) rfl rfl (Or.inl ⟨_, _, _, ⟨hI, hF, rl_n (n := 0) (by omega)⟩, rfl⟩)
    · refine to_n 1 (fr' := (19, [(0, .ref 0), (1, .int (nI n1)), (2, .int (nI k2))], [.ref 0], gh S a b sc ar lo, ex, 0, 0)) rfl ?_
      refine to_get rfl rfl rfl rfl ?_
      refine to_get rfl rfl rfl rfl ?_
      refine to_n 1 (fr' := (26, [(0, .ref 0), (1, .int (nI n1)), (2, .int (nI k2))], [.int (nI n1), .ref 12], gh S a b sc ar lo, ex, 0, 0)) rfl ?_
      refine to_zalR (i := n1) (v := ((ar 12) n1)) rfl rfl (by omega) (by omega) rfl ?_
      refine to_n 1 (fr' := (28, [(0, .ref 0), (1, .int (nI n1)), (2, .int (nI k2))], [.int (nI k2), .int ((ar 12) n1)], gh S a b sc ar lo, ex, 0, 0)) rfl ?_
      refine to_ic_ne (t := 33) rfl (fun q3 => ?_) (fun q3 => ?_)
      · refine to_n 1 (fr' := (34, [(0, .ref 0), (1, .int (nI n1)), (2, .int (nI k2))], [.ref 0], gh S a b sc ar lo, ex, 0, 0)) rfl ?_
        refine to_get rfl rfl rfl rfl ?_
        refine to_get rfl rfl rfl rfl ?_
        refine to_n 2 (fr' := (42, [(0, .ref 0), (1, .int (nI n1)), (2, .int (nI k2))], [.int (nI k2), .int (nI n1), .ref 12], gh S a b sc ar lo, ex, 0, 0)) rfl ?_
        refine to_zasR (i := n1) (h' := gh S a b sc (uA ar 12 (upd (ar 12) n1 (vp_nar .boolean (nI k2)))) lo) rfl rfl (by omega) (by omega) rfl ?_
        have hI4 := ia_12 (g := (upd (ar 12) n1 (vp_nar .boolean (nI k2)))) hI
        have hF4 := fr_a (c := 12) (g := (upd (ar 12) n1 (vp_nar .boolean (nI k2)))) hF (by decide)
        refine to_n 1 (fr' := (44, [(0, .ref 0), (1, .int (nI n1)), (2, .int (nI k2))], [.int 1], gh S a b sc (uA ar 12 (upd (ar 12) n1 (vp_nar .boolean (nI k2)))) lo, ex, 0, 0)) rfl ?_
        exact to_rt (i := .ireturn) (tg := []) rfl rfl (Or.inl ⟨_, _, _, ⟨hI4, hF4, rl_n (n := 1) (by omega)⟩, rfl⟩)
      · refine to_n 1 (fr' := (32, [(0, .ref 0), (1, .int (nI n1)), (2, .int (nI k2))], [.int 0], gh S a b sc ar lo, ex, 0, 0)) rfl ?_
        exact to_rt (i := .ireturn) (tg := []) rfl rfl (Or.inl ⟨_, _, _, ⟨hI, hF, rl_n (n := 0) (by omega)⟩, rfl⟩)
  · exact to_thr (q := 89) (M1 := an_X9_needCell) (rest := []) rfl rfl (by decide) rfl ⟨_, rfl⟩ (needCell_0  w1 d) rfl trivial (Or.inr ⟨trivial, rfl⟩)
set_option maxRecDepth 20000 in
theorem sf_X9_company {X : Nat × (Nat → Int32)} {S a b : Nat} {sc : Nat → Int32} {ar : Nat → Nat → Int32} {lo : Nat → Int64} {ex : Bool} (hW : Wd S a b) (hI : Iv S sc ar) (x1 : Int32) (x2 : Int32) (x3 : Int32) (d : Nat)  : ce X S a b (d + 3) 76 [.ref 0, .int x1, .int x2, .int x3] sc ar lo ex "java/util/NoSuchElementException" (¬ (0 ≤ x3 ∧ x3 < nI S)) (fun x sc' ar' => Iv S sc' ar' ∧ Fr [1308] [14, 15, 16, 17] sc ar sc' ar' ∧ ((0 ≤ x3 ∧ x3 < nI S) ∧ co_P 1308 x1 x2 x sc sc')) := by
  obtain ⟨ha1, ha8, hb1, hb8, hab, hS1, hS⟩ := id hW
  obtain ⟨s0, hs0, es0⟩ := iv_s1308 hI
  refine ce_of (M := an_X9_company) rfl (Nat.le_of_ble_eq_true rfl) ?_
  have hF : Fr [1308] [14, 15, 16, 17] sc ar sc ar := fr_0
  refine to_eq (fr' := (0, [(0, .ref 0), (1, .int x1), (2, .int x2), (3, .int x3)], [], gh S a b sc ar lo, ex, 0, 0)) rfl ?_
  refine to_n 2 (fr' := (2, [(0, .ref 0), (1, .int x1), (2, .int x2), (3, .int x3)], [.int x3, .ref 0], gh S a b sc ar lo, ex, 0, 0)) rfl ?_
  rcases has_or (x := x3) (B := S) (by omega) with ⟨n1, hn1, e1⟩ | w1
  · subst e1
    refine to_cu (q := 89) (M1 := an_X9_needCell) (rest := []) rfl rfl (by decide) rfl ⟨_, rfl⟩ (needCell_1 (n := n1)  (by omega) d) ?_
    refine to_eq (fr' := (5, [(0, .ref 0), (1, .int x1), (2, .int x2), (3, .int (nI n1))], [], gh S a b sc ar lo, ex, 0, 0)) rfl ?_
    refine to_n 1 (fr' := (6, [(0, .ref 0), (1, .int x1), (2, .int x2), (3, .int (nI n1))], [.int x1], gh S a b sc ar lo, ex, 0, 0)) rfl ?_
    refine to_cp (q := 91) (M1 := an_X9_isWard) (rest := []) rfl rfl (by decide) rfl trivial (sf_X9_isWard hW hI x1 (d + 1)) (fun x2 hx2 => ?_)
    obtain ⟨hx2, hp2⟩ := hx2
    obtain ⟨n2, hn2, rfl⟩ := hx2
    refine to_eq (fr' := (9, [(0, .ref 0), (1, .int x1), (2, .int x2), (3, .int (nI n1))], [.int (nI n2)], gh S a b sc ar lo, ex, 0, 0)) rfl ?_
    refine to_nf_eq (t := 23) (x := n2) rfl (by omega) (fun q3 => ?_) (fun q3 => ?_)
    · refine to_n 1 (fr' := (24, [(0, .ref 0), (1, .int x1), (2, .int x2), (3, .int (nI n1))], [.int (-1)], gh S a b sc ar lo, ex, 0, 0)) rfl ?_
      exact to_rt (i := .ireturn) (tg := []) rfl rfl (Or.inl ⟨_, _, _, ⟨hI, hF, ⟨has_in hn1 (by omega), co_no (s := s0) (by omega) es0 (fun w => iw_0 hp2 q3 w.1)⟩⟩, rfl⟩)
    · refine to_n 2 (fr' := (14, [(0, .ref 0), (1, .int x1), (2, .int x2), (3, .int (nI n1))], [.int 1, .int x2], gh S a b sc ar lo, ex, 0, 0)) rfl ?_
      refine to_ic_lt (t := 23) rfl (fun q4 => ?_) (fun q4 => ?_)
      · refine to_n 1 (fr' := (24, [(0, .ref 0), (1, .int x1), (2, .int x2), (3, .int (nI n1))], [.int (-1)], gh S a b sc ar lo, ex, 0, 0)) rfl ?_
        exact to_rt (i := .ireturn) (tg := []) rfl rfl (Or.inl ⟨_, _, _, ⟨hI, hF, ⟨has_in hn1 (by omega), co_no (s := s0) (by omega) es0 (fun w => Int32.not_lt.mpr w.2.1 q4)⟩⟩, rfl⟩)
      · refine to_n 2 (fr' := (20, [(0, .ref 0), (1, .int x1), (2, .int x2), (3, .int (nI n1))], [.int 9, .int x2], gh S a b sc ar lo, ex, 0, 0)) rfl ?_
        refine to_ic_le (t := 25) rfl (fun q5 => ?_) (fun q5 => ?_)
        · refine to_n 1 (fr' := (26, [(0, .ref 0), (1, .int x1), (2, .int x2), (3, .int (nI n1))], [.ref 0], gh S a b sc ar lo, ex, 0, 0)) rfl ?_
          refine to_get rfl rfl rfl rfl ?_
          refine to_n 3 (fr' := (32, [(0, .ref 0), (1, .int x1), (2, .int x2), (3, .int (nI n1))], [.int (nI n1), .int x2, .int x1, .ref 13], gh S a b sc ar lo, ex, 0, 0)) rfl ?_
          refine to_ci (q := 15) (M1 := an_X1_enlist) (rest := []) rfl rfl (by decide) rfl ⟨_, rfl⟩ (sf_X1_enlist hW hI x1 x2 n1 (by omega) (d + 1)) (fun x6 sc6 ar6 hx6 => ?_)
          obtain ⟨hI6, hG6, hx6⟩ := hx6
          have hF6 := fr_t hF hG6 (by decide) (by decide)
          obtain ⟨hx6, hp6⟩ := hx6
          rcases hx6 with rfl | ⟨n6, hn6, rfl⟩
          · refine to_eq (fr' := (35, [(0, .ref 0), (1, .int x1), (2, .int x2), (3, .int (nI n1))], [.int (-1)], gh S a b sc6 ar6 lo, ex, 0, 0)) rfl ?_
            exact to_rt (i := .ireturn) (tg := []) rfl rfl (Or.inl ⟨_, _, _, ⟨hI6, hF6, ⟨has_in hn1 (by omega), co_en ⟨iw_1 hp2 q3 hn2, Int32.not_lt.mp q4, q5⟩ hp6⟩⟩, rfl⟩)
          · refine to_eq (fr' := (35, [(0, .ref 0), (1, .int x1), (2, .int x2), (3, .int (nI n1))], [.int (nI n6)], gh S a b sc6 ar6 lo, ex, 0, 0)) rfl ?_
            exact to_rt (i := .ireturn) (tg := []) rfl rfl (Or.inl ⟨_, _, _, ⟨hI6, hF6, ⟨has_in hn1 (by omega), co_en ⟨iw_1 hp2 q3 hn2, Int32.not_lt.mp q4, q5⟩ hp6⟩⟩, rfl⟩)
        · refine to_n 1 (fr' := (24, [(0, .ref 0), (1, .int x1), (2, .int x2), (3, .int (nI n1))], [.int (-1)], gh S a b sc ar lo, ex, 0, 0)) rfl ?_
          exact to_rt (i := .ireturn) (tg := []) rfl rfl (Or.inl ⟨_, _, _, ⟨hI, hF, ⟨has_in hn1 (by omega), co_no (s := s0) (by omega) es0 (fun w => q5 w.2.2)⟩⟩, rfl⟩)
  · exact to_thr (q := 89) (M1 := an_X9_needCell) (rest := []) rfl rfl (by decide) rfl ⟨_, rfl⟩ (needCell_0  w1 d) rfl trivial (Or.inr ⟨w1, rfl⟩)
set_option maxRecDepth 20000 in
theorem sf_X9_feed {X : Nat × (Nat → Int32)} {S a b : Nat} {sc : Nat → Int32} {ar : Nat → Nat → Int32} {lo : Nat → Int64} {ex : Bool} (hW : Wd S a b) (hI : Iv S sc ar) (x1 : Int32) (x2 : Int32) (x3 : Int32) (x4 : Int32) (x5 : Int32) (d : Nat)  : ci X S a b (d + 2) 77 [.ref 0, .int x1, .int x2, .int x3, .int x4, .int x5] sc ar lo ex (fun x sc' ar' => Iv S sc' ar' ∧ Fr [2201] [23] sc ar sc' ar' ∧ (fe_P 2201 x sc sc' ∧ ((x = -1 ∧ ar' 23 = ar 23) ∨ ∃ s : Nat, sc 2201 = nI s ∧ s + 20 ≤ 400 ∧ (∀ t, t < s → ar' 23 t = ar 23 t) ∧ ∀ m, m < 20 → ar' 23 (s + m) = vp_nar .byte ((fz_ x1 x2 x3 x4 x5 m).toInt8.toInt32)))) := by
  obtain ⟨ha1, ha8, hb1, hb8, hab, hS1, hS⟩ := id hW
  obtain ⟨s0, hs0, es0⟩ := iv_s2201 hI
  refine ci_of (M := an_X9_feed) rfl (Nat.le_of_ble_eq_true rfl) ?_
  have hF : Fr [2201] [23] sc ar sc ar := fr_0
  refine to_eq (fr' := (0, [(0, .ref 0), (1, .int x1), (2, .int x2), (3, .int x3), (4, .int x4), (5, .int x5)], [], gh S a b sc ar lo, ex, 0, 0)) rfl ?_
  refine to_n 1 (fr' := (1, [(0, .ref 0), (1, .int x1), (2, .int x2), (3, .int x3), (4, .int x4), (5, .int x5)], [.ref 0], gh S a b sc ar lo, ex, 0, 0)) rfl ?_
  refine to_get rfl rfl rfl rfl ?_
  refine to_getR (v := (nI s0)) rfl rfl rfl rfl es0 ?_
  refine to_n 1 (fr' := (9, [(0, .ref 0), (1, .int x1), (2, .int x2), (3, .int x3), (4, .int x4), (5, .int x5)], [.int 20, .int (nI s0)], gh S a b sc ar lo, ex, 0, 0)) rfl ?_
  refine to_addN (x := s0) (y := 20) rfl ?_
  refine to_n 1 (fr' := (13, [(0, .ref 0), (1, .int x1), (2, .int x2), (3, .int x3), (4, .int x4), (5, .int x5)], [.int 400, .int (nI (s0 + 20))], gh S a b sc ar lo, ex, 0, 0)) rfl ?_
  refine to_nc_le (t := 18) (x := (s0 + 20)) (y := 400) rfl (by omega) (by omega) (fun q1 => ?_) (fun q1 => ?_)
  · refine to_n 1 (fr' := (19, [(0, .ref 0), (1, .int x1), (2, .int x2), (3, .int x3), (4, .int x4), (5, .int x5)], [.ref 0], gh S a b sc ar lo, ex, 0, 0)) rfl ?_
    refine to_get rfl rfl rfl rfl ?_
    refine to_n 1 (fr' := (23, [(0, .ref 0), (1, .int x1), (2, .int x2), (3, .int x3), (4, .int x4), (5, .int x5)], [.int x1, .ref 22], gh S a b sc ar lo, ex, 0, 0)) rfl ?_
    refine to_cv (q := 55) (M1 := an_X6_put) (rest := []) rfl rfl (by decide) rfl ⟨_, rfl⟩ (sf_X6_put hW hI x1 s0 (by omega) es0 d) (fun sc2 ar2 hx2 => ?_)
    obtain ⟨hI2, hG2, hx2⟩ := hx2
    have hF2 := fr_t hF hG2 (by decide) (by decide)
    obtain ⟨hs2, hl2, a2, b2, c2, d2⟩ := hx2
    have f2_0 : ar2 23 (s0 + 0) = (vp_nar .byte (((x1 >>> (24 &&& 31)) : Int32).toInt8.toInt32)) := a2
    have f2_1 : ar2 23 (s0 + 1) = (vp_nar .byte (((x1 >>> (16 &&& 31)) : Int32).toInt8.toInt32)) := b2
    have f2_2 : ar2 23 (s0 + 2) = (vp_nar .byte (((x1 >>> (8 &&& 31)) : Int32).toInt8.toInt32)) := c2
    have f2_3 : ar2 23 (s0 + 3) = (vp_nar .byte (((x1 >>> (0 &&& 31)) : Int32).toInt8.toInt32)) := d2
    have l2 : ∀ t, t < s0 → ar2 23 t = ar 23 t := hl2
    refine to_eq (fr' := (26, [(0, .ref 0), (1, .int x1), (2, .int x2), (3, .int x3), (4, .int x4), (5, .int x5)], [], gh S a b sc2 ar2 lo, ex, 0, 0)) rfl ?_
    refine to_n 1 (fr' := (27, [(0, .ref 0), (1, .int x1), (2, .int x2), (3, .int x3), (4, .int x4), (5, .int x5)], [.ref 0], gh S a b sc2 ar2 lo, ex, 0, 0)) rfl ?_
    refine to_get rfl rfl rfl rfl ?_
    refine to_n 1 (fr' := (31, [(0, .ref 0), (1, .int x1), (2, .int x2), (3, .int x3), (4, .int x4), (5, .int x5)], [.int x2, .ref 22], gh S a b sc2 ar2 lo, ex, 0, 0)) rfl ?_
    refine to_cv (q := 55) (M1 := an_X6_put) (rest := []) rfl rfl (by decide) rfl ⟨_, rfl⟩ (sf_X6_put hW hI2 x2 (s0 + 4) (by omega) hs2 d) (fun sc3 ar3 hx3 => ?_)
    obtain ⟨hI3, hG3, hx3⟩ := hx3
    have hF3 := fr_t hF2 hG3 (by decide) (by decide)
    obtain ⟨hs3, hl3, a3, b3, c3, d3⟩ := hx3
    have f3_0 : ar3 23 (s0 + 0) = _ := (hl3 _ (by omega)).trans f2_0
    have f3_1 : ar3 23 (s0 + 1) = _ := (hl3 _ (by omega)).trans f2_1
    have f3_2 : ar3 23 (s0 + 2) = _ := (hl3 _ (by omega)).trans f2_2
    have f3_3 : ar3 23 (s0 + 3) = _ := (hl3 _ (by omega)).trans f2_3
    have f3_4 : ar3 23 (s0 + 4) = (vp_nar .byte (((x2 >>> (24 &&& 31)) : Int32).toInt8.toInt32)) := a3
    have f3_5 : ar3 23 (s0 + 5) = (vp_nar .byte (((x2 >>> (16 &&& 31)) : Int32).toInt8.toInt32)) := b3
    have f3_6 : ar3 23 (s0 + 6) = (vp_nar .byte (((x2 >>> (8 &&& 31)) : Int32).toInt8.toInt32)) := c3
    have f3_7 : ar3 23 (s0 + 7) = (vp_nar .byte (((x2 >>> (0 &&& 31)) : Int32).toInt8.toInt32)) := d3
    have l3 : ∀ t, t < s0 → ar3 23 t = ar 23 t := fun t ht => (hl3 t (by omega)).trans (l2 t ht)
    refine to_eq (fr' := (34, [(0, .ref 0), (1, .int x1), (2, .int x2), (3, .int x3), (4, .int x4), (5, .int x5)], [], gh S a b sc3 ar3 lo, ex, 0, 0)) rfl ?_
    refine to_n 1 (fr' := (35, [(0, .ref 0), (1, .int x1), (2, .int x2), (3, .int x3), (4, .int x4), (5, .int x5)], [.ref 0], gh S a b sc3 ar3 lo, ex, 0, 0)) rfl ?_
    refine to_get rfl rfl rfl rfl ?_
    refine to_n 1 (fr' := (39, [(0, .ref 0), (1, .int x1), (2, .int x2), (3, .int x3), (4, .int x4), (5, .int x5)], [.int x3, .ref 22], gh S a b sc3 ar3 lo, ex, 0, 0)) rfl ?_
    refine to_cv (q := 55) (M1 := an_X6_put) (rest := []) rfl rfl (by decide) rfl ⟨_, rfl⟩ (sf_X6_put hW hI3 x3 ((s0 + 4) + 4) (by omega) hs3 d) (fun sc4 ar4 hx4 => ?_)
    obtain ⟨hI4, hG4, hx4⟩ := hx4
    have hF4 := fr_t hF3 hG4 (by decide) (by decide)
    obtain ⟨hs4, hl4, a4, b4, c4, d4⟩ := hx4
    have f4_0 : ar4 23 (s0 + 0) = _ := (hl4 _ (by omega)).trans f3_0
    have f4_1 : ar4 23 (s0 + 1) = _ := (hl4 _ (by omega)).trans f3_1
    have f4_2 : ar4 23 (s0 + 2) = _ := (hl4 _ (by omega)).trans f3_2
    have f4_3 : ar4 23 (s0 + 3) = _ := (hl4 _ (by omega)).trans f3_3
    have f4_4 : ar4 23 (s0 + 4) = _ := (hl4 _ (by omega)).trans f3_4
    have f4_5 : ar4 23 (s0 + 5) = _ := (hl4 _ (by omega)).trans f3_5
    have f4_6 : ar4 23 (s0 + 6) = _ := (hl4 _ (by omega)).trans f3_6
    have f4_7 : ar4 23 (s0 + 7) = _ := (hl4 _ (by omega)).trans f3_7
    have f4_8 : ar4 23 (s0 + 8) = (vp_nar .byte (((x3 >>> (24 &&& 31)) : Int32).toInt8.toInt32)) := a4
    have f4_9 : ar4 23 (s0 + 9) = (vp_nar .byte (((x3 >>> (16 &&& 31)) : Int32).toInt8.toInt32)) := b4
    have f4_10 : ar4 23 (s0 + 10) = (vp_nar .byte (((x3 >>> (8 &&& 31)) : Int32).toInt8.toInt32)) := c4
    have f4_11 : ar4 23 (s0 + 11) = (vp_nar .byte (((x3 >>> (0 &&& 31)) : Int32).toInt8.toInt32)) := d4
    have l4 : ∀ t, t < s0 → ar4 23 t = ar 23 t := fun t ht => (hl4 t (by omega)).trans (l3 t ht)
    refine to_eq (fr' := (42, [(0, .ref 0), (1, .int x1), (2, .int x2), (3, .int x3), (4, .int x4), (5, .int x5)], [], gh S a b sc4 ar4 lo, ex, 0, 0)) rfl ?_
    refine to_n 1 (fr' := (43, [(0, .ref 0), (1, .int x1), (2, .int x2), (3, .int x3), (4, .int x4), (5, .int x5)], [.ref 0], gh S a b sc4 ar4 lo, ex, 0, 0)) rfl ?_
    refine to_get rfl rfl rfl rfl ?_
    refine to_n 1 (fr' := (48, [(0, .ref 0), (1, .int x1), (2, .int x2), (3, .int x3), (4, .int x4), (5, .int x5)], [.int x4, .ref 22], gh S a b sc4 ar4 lo, ex, 0, 0)) rfl ?_
    refine to_cv (q := 55) (M1 := an_X6_put) (rest := []) rfl rfl (by decide) rfl ⟨_, rfl⟩ (sf_X6_put hW hI4 x4 (((s0 + 4) + 4) + 4) (by omega) hs4 d) (fun sc5 ar5 hx5 => ?_)
    obtain ⟨hI5, hG5, hx5⟩ := hx5
    have hF5 := fr_t hF4 hG5 (by decide) (by decide)
    obtain ⟨hs5, hl5, a5, b5, c5, d5⟩ := hx5
    have f5_0 : ar5 23 (s0 + 0) = _ := (hl5 _ (by omega)).trans f4_0
    have f5_1 : ar5 23 (s0 + 1) = _ := (hl5 _ (by omega)).trans f4_1
    have f5_2 : ar5 23 (s0 + 2) = _ := (hl5 _ (by omega)).trans f4_2
    have f5_3 : ar5 23 (s0 + 3) = _ := (hl5 _ (by omega)).trans f4_3
    have f5_4 : ar5 23 (s0 + 4) = _ := (hl5 _ (by omega)).trans f4_4
    have f5_5 : ar5 23 (s0 + 5) = _ := (hl5 _ (by omega)).trans f4_5
    have f5_6 : ar5 23 (s0 + 6) = _ := (hl5 _ (by omega)).trans f4_6
    have f5_7 : ar5 23 (s0 + 7) = _ := (hl5 _ (by omega)).trans f4_7
    have f5_8 : ar5 23 (s0 + 8) = _ := (hl5 _ (by omega)).trans f4_8
    have f5_9 : ar5 23 (s0 + 9) = _ := (hl5 _ (by omega)).trans f4_9
    have f5_10 : ar5 23 (s0 + 10) = _ := (hl5 _ (by omega)).trans f4_10
    have f5_11 : ar5 23 (s0 + 11) = _ := (hl5 _ (by omega)).trans f4_11
    have f5_12 : ar5 23 (s0 + 12) = (vp_nar .byte (((x4 >>> (24 &&& 31)) : Int32).toInt8.toInt32)) := a5
    have f5_13 : ar5 23 (s0 + 13) = (vp_nar .byte (((x4 >>> (16 &&& 31)) : Int32).toInt8.toInt32)) := b5
    have f5_14 : ar5 23 (s0 + 14) = (vp_nar .byte (((x4 >>> (8 &&& 31)) : Int32).toInt8.toInt32)) := c5
    have f5_15 : ar5 23 (s0 + 15) = (vp_nar .byte (((x4 >>> (0 &&& 31)) : Int32).toInt8.toInt32)) := d5
    have l5 : ∀ t, t < s0 → ar5 23 t = ar 23 t := fun t ht => (hl5 t (by omega)).trans (l4 t ht)
    refine to_eq (fr' := (51, [(0, .ref 0), (1, .int x1), (2, .int x2), (3, .int x3), (4, .int x4), (5, .int x5)], [], gh S a b sc5 ar5 lo, ex, 0, 0)) rfl ?_
    refine to_n 1 (fr' := (52, [(0, .ref 0), (1, .int x1), (2, .int x2), (3, .int x3), (4, .int x4), (5, .int x5)], [.ref 0], gh S a b sc5 ar5 lo, ex, 0, 0)) rfl ?_
    refine to_get rfl rfl rfl rfl ?_
    refine to_n 1 (fr' := (57, [(0, .ref 0), (1, .int x1), (2, .int x2), (3, .int x3), (4, .int x4), (5, .int x5)], [.int x5, .ref 22], gh S a b sc5 ar5 lo, ex, 0, 0)) rfl ?_
    refine to_cv (q := 55) (M1 := an_X6_put) (rest := []) rfl rfl (by decide) rfl ⟨_, rfl⟩ (sf_X6_put hW hI5 x5 ((((s0 + 4) + 4) + 4) + 4) (by omega) hs5 d) (fun sc6 ar6 hx6 => ?_)
    obtain ⟨hI6, hG6, hx6⟩ := hx6
    have hF6 := fr_t hF5 hG6 (by decide) (by decide)
    obtain ⟨hs6, hl6, a6, b6, c6, d6⟩ := hx6
    have f6_0 : ar6 23 (s0 + 0) = _ := (hl6 _ (by omega)).trans f5_0
    have f6_1 : ar6 23 (s0 + 1) = _ := (hl6 _ (by omega)).trans f5_1
    have f6_2 : ar6 23 (s0 + 2) = _ := (hl6 _ (by omega)).trans f5_2
    have f6_3 : ar6 23 (s0 + 3) = _ := (hl6 _ (by omega)).trans f5_3
    have f6_4 : ar6 23 (s0 + 4) = _ := (hl6 _ (by omega)).trans f5_4
    have f6_5 : ar6 23 (s0 + 5) = _ := (hl6 _ (by omega)).trans f5_5
    have f6_6 : ar6 23 (s0 + 6) = _ := (hl6 _ (by omega)).trans f5_6
    have f6_7 : ar6 23 (s0 + 7) = _ := (hl6 _ (by omega)).trans f5_7
    have f6_8 : ar6 23 (s0 + 8) = _ := (hl6 _ (by omega)).trans f5_8
    have f6_9 : ar6 23 (s0 + 9) = _ := (hl6 _ (by omega)).trans f5_9
    have f6_10 : ar6 23 (s0 + 10) = _ := (hl6 _ (by omega)).trans f5_10
    have f6_11 : ar6 23 (s0 + 11) = _ := (hl6 _ (by omega)).trans f5_11
    have f6_12 : ar6 23 (s0 + 12) = _ := (hl6 _ (by omega)).trans f5_12
    have f6_13 : ar6 23 (s0 + 13) = _ := (hl6 _ (by omega)).trans f5_13
    have f6_14 : ar6 23 (s0 + 14) = _ := (hl6 _ (by omega)).trans f5_14
    have f6_15 : ar6 23 (s0 + 15) = _ := (hl6 _ (by omega)).trans f5_15
    have f6_16 : ar6 23 (s0 + 16) = (vp_nar .byte (((x5 >>> (24 &&& 31)) : Int32).toInt8.toInt32)) := a6
    have f6_17 : ar6 23 (s0 + 17) = (vp_nar .byte (((x5 >>> (16 &&& 31)) : Int32).toInt8.toInt32)) := b6
    have f6_18 : ar6 23 (s0 + 18) = (vp_nar .byte (((x5 >>> (8 &&& 31)) : Int32).toInt8.toInt32)) := c6
    have f6_19 : ar6 23 (s0 + 19) = (vp_nar .byte (((x5 >>> (0 &&& 31)) : Int32).toInt8.toInt32)) := d6
    have l6 : ∀ t, t < s0 → ar6 23 t = ar 23 t := fun t ht => (hl6 t (by omega)).trans (l5 t ht)
    refine to_eq (fr' := (60, [(0, .ref 0), (1, .int x1), (2, .int x2), (3, .int x3), (4, .int x4), (5, .int x5)], [], gh S a b sc6 ar6 lo, ex, 0, 0)) rfl ?_
    refine to_n 1 (fr' := (61, [(0, .ref 0), (1, .int x1), (2, .int x2), (3, .int x3), (4, .int x4), (5, .int x5)], [.ref 0], gh S a b sc6 ar6 lo, ex, 0, 0)) rfl ?_
    refine to_get rfl rfl rfl rfl ?_
    refine to_getR (v := (nI (((((s0 + 4) + 4) + 4) + 4) + 4))) rfl rfl rfl rfl hs6 ?_
    exact to_rt (i := .ireturn) (tg := []) rfl rfl ⟨_, _, _, ⟨hI6, hF6, ⟨⟨s0, by omega, es0, Or.inl ⟨by omega, by exact congrArg nI (by omega), hs6.trans (congrArg nI (by omega))⟩⟩, Or.inr ⟨s0, es0, by omega, l6, al_20 (P := fun m => ar6 23 (s0 + m) = vp_nar .byte ((fz_ x1 x2 x3 x4 x5 m).toInt8.toInt32)) f6_0 f6_1 f6_2 f6_3 f6_4 f6_5 f6_6 f6_7 f6_8 f6_9 f6_10 f6_11 f6_12 f6_13 f6_14 f6_15 f6_16 f6_17 f6_18 f6_19⟩⟩⟩, rfl⟩
  · refine to_n 1 (fr' := (17, [(0, .ref 0), (1, .int x1), (2, .int x2), (3, .int x3), (4, .int x4), (5, .int x5)], [.int (-1)], gh S a b sc ar lo, ex, 0, 0)) rfl ?_
    exact to_rt (i := .ireturn) (tg := []) rfl rfl ⟨_, _, _, ⟨hI, hF, ⟨⟨s0, by omega, es0, Or.inr ⟨by omega, rfl, rfl⟩⟩, Or.inl ⟨rfl, rfl⟩⟩⟩, rfl⟩
set_option maxRecDepth 20000 in
theorem sf_X9_fault {X : Nat × (Nat → Int32)} {S a b : Nat} {sc : Nat → Int32} {ar : Nat → Nat → Int32} {lo : Nat → Int64} {ex : Bool} (hW : Wd S a b) (hI : Iv S sc ar)  (d : Nat)  : ci X S a b (d + 1) 79 [.ref 0] sc ar lo ex (fun x sc' ar' => Iv S sc' ar' ∧ Fr [] [] sc ar sc' ar' ∧ x = sc 10) := by
  obtain ⟨ha1, ha8, hb1, hb8, hab, hS1, hS⟩ := id hW
  refine ci_of (M := an_X9_fault) rfl (Nat.le_of_ble_eq_true rfl) ?_
  have hF : Fr [] [] sc ar sc ar := fr_0
  refine to_eq (fr' := (0, [(0, .ref 0)], [], gh S a b sc ar lo, ex, 0, 0)) rfl ?_
  refine to_n 1 (fr' := (1, [(0, .ref 0)], [.ref 0], gh S a b sc ar lo, ex, 0, 0)) rfl ?_
  refine to_getR (v := (sc 10)) rfl rfl rfl rfl rfl ?_
  exact to_rt (i := .ireturn) (tg := []) rfl rfl ⟨_, _, _, ⟨hI, hF, rfl⟩, rfl⟩
/-! a law, as both come to it -/
def Be (sc : Nat → Int32) (ar : Nat → Nat → Int32) : Prop := ∀ l i : Nat, l < 7 → sc 2903 = nI l → i < l → ∃ e : Nat, e ≤ 400 * (i + 1) ∧ ar 31 i = nI e
def LwO (tk : Nat → Int32) (pl : Nat → Nat) (sz kt kf kl : Nat) (x1 x2 : Int32) (sc sc' : Nat → Int32) : Prop := ∃ s n l : Nat, s ≤ 400 ∧ sc kt = nI s ∧ x1 = nI n ∧ n ≤ s ∧ (0 ≤ x2 ∧ x2 ≤ 100) ∧ sc' kt = 0 ∧ l ≤ 6 ∧ sc kl = nI l ∧ ((l = 6 ∧ sc' kf = -1 ∧ sc' kl = nI 6) ∨ (l < 6 ∧ ∃ k : Nat, (pLw tk sz 13 0 0 = .inl k ∧ sc' kf = -1 ∧ sc' kl = nI (l + 1)) ∨ (pLw tk sz 13 0 0 = .inr k ∧ sc' kf = nI (pl k) ∧ sc' kl = nI l)))
def LwT (kt : Nat) (x1 x2 : Int32) (sc : Nat → Int32) : Prop := ∀ s n : Nat, s ≤ 400 → sc kt = nI s → x1 = nI n → n ≤ s → (0 ≤ x2 ∧ x2 ≤ 100) → False
theorem lwo_eq {tk : Nat → Int32} {pl : Nat → Nat} {sz kt kf kl kt' kf' kl' : Nat} {x1 x2 : Int32} {sc sc' tc tc' : Nat → Int32} (h : LwO tk pl sz kt kf kl x1 x2 sc sc') (g : LwO tk pl sz kt' kf' kl' x1 x2 tc tc') (el : tc kl' = sc kl) : sc' kt = tc' kt' ∧ sc' kf = tc' kf' ∧ sc' kl = tc' kl' := by
  obtain ⟨s, n, l, h1, h2, h3, h4, h5, h6, h7, h8, h9⟩ := h
  obtain ⟨s', n', l', g1, g2, g3, g4, g5, g6, g7, g8, g9⟩ := g
  obtain rfl : l = l' := (nI_eq (by omega) (by omega)).mp (h8.symm.trans (el.symm.trans g8))
  refine ⟨h6.trans g6.symm, ?_⟩
  rcases h9 with ⟨a1, a2, a3⟩ | ⟨a1, k, a2⟩
  · rcases g9 with ⟨b1, b2, b3⟩ | ⟨b1, k', b2⟩
    · exact ⟨a2.trans b2.symm, a3.trans b3.symm⟩
    · omega
  · rcases g9 with ⟨b1, b2, b3⟩ | ⟨b1, k', b2⟩
    · omega
    · rcases a2 with ⟨c1, c2, c3⟩ | ⟨c1, c2, c3⟩
      · rcases b2 with ⟨d1, d2, d3⟩ | ⟨d1, d2, d3⟩
        · exact ⟨c2.trans d2.symm, c3.trans d3.symm⟩
        · exact absurd (c1.symm.trans d1) (by intro w; cases w)
      · rcases b2 with ⟨d1, d2, d3⟩ | ⟨d1, d2, d3⟩
        · exact absurd (c1.symm.trans d1) (by intro w; cases w)
        · obtain rfl : k = k' := by
            have w := c1.symm.trans d1
            cases w
            rfl
          exact ⟨c2.trans d2.symm, c3.trans d3.symm⟩
theorem lw_tno {kt kf kl sz : Nat} {tk : Nat → Int32} {pl : Nat → Nat} {x1 x2 : Int32} {sc sc' : Nat → Int32} (h : LwT kt x1 x2 sc) (g : LwO tk pl sz kt kf kl x1 x2 sc sc') : False := by
  obtain ⟨s, n, l, h1, h2, h3, h4, h5, _⟩ := g
  exact h s n h1 h2 h3 h4 h5
theorem be_more {sc sc' : Nat → Int32} {ar ar' : Nat → Nat → Int32} {l : Nat} (h : Be sc ar) (hl : l < 6) (e0 : sc 2903 = nI l) (e1 : sc' 2903 = nI (l + 1)) (h1 : ∀ i, i < l → ar' 31 i = ar 31 i) (h2 : ∃ e : Nat, e ≤ 400 * (l + 1) ∧ ar' 31 l = nI e) : Be sc' ar' := by
  intro m i hm em hi
  obtain rfl : l + 1 = m := (nI_eq (by omega) (by omega)).mp (e1.symm.trans em)
  by_cases u : i = l
  · subst u
    exact h2
  · rw [h1 i (by omega)]
    exact h l i (by omega) e0 (by omega)
theorem be_fr {L A : List Nat} {sc sc' : Nat → Int32} {ar ar' : Nat → Nat → Int32} (h : Be sc ar) (f : Fr L A sc ar sc' ar') (hL : 2903 ∉ L) (hA : 31 ∉ A) : Be sc' ar' := by
  intro l i hl e hi
  rw [f.2 31 hA]
  exact h l i hl ((f.1 2903 hL).symm.trans e) hi
theorem be_of {sc sc' : Nat → Int32} {ar ar' : Nat → Nat → Int32} {l : Nat} (h : Be sc ar) (e0 : sc 2903 = nI l) (e1 : sc' 2903 = nI l) (h1 : ∀ i, i < l → ar' 31 i = ar 31 i) (hl : l < 7) : Be sc' ar' := by
  intro m i hm em hi
  obtain rfl : l = m := (nI_eq (by omega) (by omega)).mp (e1.symm.trans em)
  rw [h1 i hi]
  exact h l i hm e0 hi
set_option maxRecDepth 20000 in
theorem sf_X9_law {X : Nat × (Nat → Int32)} {S a b : Nat} {sc : Nat → Int32} {ar : Nat → Nat → Int32} {lo : Nat → Int64} {ex : Bool} (hW : Wd S a b) (hI : Iv S sc ar) (x1 : Int32) (x2 : Int32) (hB : Be sc ar) (d : Nat)  : ce X S a b (d + 31) 78 [.ref 0, .int x1, .int x2] sc ar lo ex "java/lang/IllegalArgumentException" (LwT 2201 x1 x2 sc) (fun x sc' ar' => Iv S sc' ar' ∧ Fr [10, 2201, 2401, 2402, 2404, 2405, 2602, 2604, 2605, 2903] [25, 27, 28, 30, 31, 32] sc ar sc' ar' ∧ (∃ (tk : Nat → Int32) (pl g : Nat → Nat) (sz : Nat), (∀ n l : Nat, x1 = nI n → n ≤ 400 → sc 2903 = nI l → l < 6 → Sm (ar 23) n tk pl g sz) ∧ LwO tk pl sz 2201 10 2903 x1 x2 sc sc' ∧ Be sc' ar')) := by
  obtain ⟨ha1, ha8, hb1, hb8, hab, hS1, hS⟩ := id hW
  obtain ⟨s0, hs0, es0⟩ := iv_s2201 hI
  obtain ⟨l0, hl0, el0⟩ := iv_s2903 hI
  refine ce_of (M := an_X9_law) rfl (Nat.le_of_ble_eq_true rfl) ?_
  have hF : Fr [10, 2201, 2401, 2402, 2404, 2405, 2602, 2604, 2605, 2903] [25, 27, 28, 30, 31, 32] sc ar sc ar := fr_0
  refine to_eq (fr' := (0, [(0, .ref 0), (1, .int x1), (2, .int x2)], [], gh S a b sc ar lo, ex, 0, 0)) rfl ?_
  refine to_n 1 (fr' := (1, [(0, .ref 0), (1, .int x1), (2, .int x2)], [.int x1], gh S a b sc ar lo, ex, 0, 0)) rfl ?_
  refine to_if_lt (t := 25) rfl (fun q1 => ?_) (fun q1 => ?_)
  · exact to_th (i := .new 105) (tg := []) rfl rfl (Or.inr ⟨(fun s n hs es e hn hx => nI_neg (by omega) q1 e.symm), rfl⟩)
  · obtain ⟨n2, hn2, e2⟩ := nI_of q1
    refine to_eq (fr' := (4, [(0, .ref 0), (1, .int (nI n2)), (2, .int x2)], [], gh S a b sc ar lo, ex, 0, 0)) (by rw [e2]) ?_
    refine to_eq (fr' := (4, [(0, .ref 0), (1, .int (nI n2)), (2, .int x2)], [], gh S a b sc ar lo, ex, 0, 0)) rfl ?_
    refine to_n 2 (fr' := (6, [(0, .ref 0), (1, .int (nI n2)), (2, .int x2)], [.ref 0, .int (nI n2)], gh S a b sc ar lo, ex, 0, 0)) rfl ?_
    refine to_get rfl rfl rfl rfl ?_
    refine to_getR (v := (nI s0)) rfl rfl rfl rfl es0 ?_
    refine to_nc_gt (t := 25) (x := n2) (y := s0) rfl (by omega) (by omega) (fun q3 => ?_) (fun q3 => ?_)
    · exact to_th (i := .new 105) (tg := []) rfl rfl (Or.inr ⟨(fun s n hs es e hn hx => by have a1 : s0 = s := (nI_eq (by omega) (by omega)).mp (es0.symm.trans es); have a2 : n2 = n := (nI_eq (by omega) (by omega)).mp (e2.symm.trans e); omega), rfl⟩)
    · refine to_n 1 (fr' := (16, [(0, .ref 0), (1, .int (nI n2)), (2, .int x2)], [.int x2], gh S a b sc ar lo, ex, 0, 0)) rfl ?_
      refine to_if_lt (t := 25) rfl (fun q4 => ?_) (fun q4 => ?_)
      · exact to_th (i := .new 105) (tg := []) rfl rfl (Or.inr ⟨(fun s n hs es e hn hx => Int32.not_lt.mpr hx.1 q4), rfl⟩)
      · refine to_n 2 (fr' := (22, [(0, .ref 0), (1, .int (nI n2)), (2, .int x2)], [.int 100, .int x2], gh S a b sc ar lo, ex, 0, 0)) rfl ?_
        refine to_ic_le (t := 35) rfl (fun q5 => ?_) (fun q5 => ?_)
        · refine to_n 1 (fr' := (36, [(0, .ref 0), (1, .int (nI n2)), (2, .int x2)], [.ref 0], gh S a b sc ar lo, ex, 0, 0)) rfl ?_
          refine to_get rfl rfl rfl rfl ?_
          refine to_n 1 (fr' := (40, [(0, .ref 0), (1, .int (nI n2)), (2, .int x2)], [.int 0, .ref 22], gh S a b sc ar lo, ex, 0, 0)) rfl ?_
          refine to_putR (h' := gh S a b (upd sc 2201 0) ar lo) rfl rfl rfl (Nat.le_of_ble_eq_true rfl) rfl rfl ?_
          have hI6 := ip_2201 (v := 0) hI (rl_n (n := 0) (by omega))
          have hF6 := fr_s (k := 2201) (v := 0) hF (by decide)
          refine to_n 2 (fr' := (45, [(0, .ref 0), (1, .int (nI n2)), (2, .int x2)], [.int (-1), .ref 0], gh S a b (upd sc 2201 0) ar lo, ex, 0, 0)) rfl ?_
          refine to_putR (h' := gh S a b (upd (upd sc 2201 0) 10 (-1)) ar lo) rfl rfl rfl (Nat.le_of_ble_eq_true rfl) rfl rfl ?_
          have hI7 := ip_10 (v := (-1)) hI6 
          have hF7 := fr_s (k := 10) (v := (-1)) hF6 (by decide)
          refine to_n 1 (fr' := (49, [(0, .ref 0), (1, .int (nI n2)), (2, .int x2)], [.ref 0], gh S a b (upd (upd sc 2201 0) 10 (-1)) ar lo, ex, 0, 0)) rfl ?_
          refine to_get rfl rfl rfl rfl ?_
          refine to_getR (v := (nI l0)) rfl rfl rfl rfl el0 ?_
          refine to_n 1 (fr' := (57, [(0, .ref 0), (1, .int (nI n2)), (2, .int x2)], [.int 6, .int (nI l0)], gh S a b (upd (upd sc 2201 0) 10 (-1)) ar lo, ex, 0, 0)) rfl ?_
          refine to_nc_lt (t := 63) (x := l0) (y := 6) rfl (by omega) (by omega) (fun q8 => ?_) (fun q8 => ?_)
          · refine to_n 1 (fr' := (64, [(0, .ref 0), (1, .int (nI n2)), (2, .int x2)], [.ref 0], gh S a b (upd (upd sc 2201 0) 10 (-1)) ar lo, ex, 0, 0)) rfl ?_
            refine to_get rfl rfl rfl rfl ?_
            refine to_n 1 (fr' := (68, [(0, .ref 0), (1, .int (nI n2)), (2, .int x2)], [.int (nI n2), .ref 24], gh S a b (upd (upd sc 2201 0) 10 (-1)) ar lo, ex, 0, 0)) rfl ?_
            refine to_ci (q := 41) (M1 := an_X5_reads) (rest := []) rfl rfl (by decide) rfl ⟨_, rfl⟩ (sf_X5_reads hW hI7 n2 (by omega) d) (fun x9 sc9 ar9 hx9 => ?_)
            obtain ⟨hI9, hG9, hx9⟩ := hx9
            have hF9 := fr_t hF7 hG9 (by decide) (by decide)
            have k9_2201 : sc9 2201 = 0 := (hG9.1 2201 (by decide)).trans rfl
            have k9_2903 : sc9 2903 = (nI l0) := (hG9.1 2903 (by decide)).trans el0
            have k9_10 : sc9 10 = (-1) := (hG9.1 10 (by decide)).trans rfl
            obtain ⟨hx9, hp9⟩ := hx9
            obtain ⟨n9, hn9, rfl⟩ := hx9
            obtain ⟨tk, pl, g, sz, kk, hsm, hat, hkz, hpk, hout⟩ := hp9
            have hz2 := (se_sm hsm).2.1
            have a31_9 : ar9 31 = ar 31 := hG9.2 31 (by decide)
            refine to_eq (fr' := (71, [(0, .ref 0), (1, .int (nI n2)), (2, .int x2)], [.int (nI n9)], gh S a b sc9 ar9 lo, ex, 0, 0)) rfl ?_
            refine to_nf_ne (t := 95) (x := n9) rfl (by omega) (fun q10 => ?_) (fun q10 => ?_)
            · refine to_n 1 (fr' := (96, [(0, .ref 0), (1, .int (nI n2)), (2, .int x2)], [.ref 0], gh S a b sc9 ar9 lo, ex, 0, 0)) rfl ?_
              refine to_get rfl rfl rfl rfl ?_
              refine to_n 1 (fr' := (100, [(0, .ref 0), (1, .int (nI n2)), (2, .int x2)], [.ref 0, .ref 29], gh S a b sc9 ar9 lo, ex, 0, 0)) rfl ?_
              refine to_get rfl rfl rfl rfl ?_
              refine to_get rfl rfl rfl rfl ?_
              refine to_n 1 (fr' := (107, [(0, .ref 0), (1, .int (nI n2)), (2, .int x2)], [.ref 0, .ref 25, .ref 29], gh S a b sc9 ar9 lo, ex, 0, 0)) rfl ?_
              refine to_get rfl rfl rfl rfl ?_
              obtain ⟨n11, hn11, e11⟩ := iv_s2401 hI9
              refine to_getR (v := (nI n11)) rfl rfl rfl rfl e11 ?_
              refine to_n 1 (fr' := (114, [(0, .ref 0), (1, .int (nI n2)), (2, .int x2)], [.int x2, .int (nI n11), .ref 25, .ref 29], gh S a b sc9 ar9 lo, ex, 0, 0)) rfl ?_
              refine to_ci (q := 37) (M1 := an_X4_enter) (rest := []) rfl rfl (by decide) rfl ⟨_, rfl⟩ (sf_X4_enter hW hI9 n11 (by omega) x2 l0 (by omega) k9_2903 (fun i hi => by rw [a31_9]; exact hB l0 i (by omega) el0 hi) (d + 28)) (fun x12 sc12 ar12 hx12 => ?_)
              obtain ⟨hI12, hG12, hx12⟩ := hx12
              have hF12 := fr_t hF9 hG12 (by decide) (by decide)
              have k12_2201 : sc12 2201 = 0 := (hG12.1 2201 (by decide)).trans k9_2201
              have k12_10 : sc12 10 = (-1) := (hG12.1 10 (by decide)).trans k9_10
              have hp12 := hx12
              refine to_eq (fr' := (117, [(0, .ref 0), (1, .int (nI n2)), (2, .int x2)], [.int x12], gh S a b sc12 ar12 lo, ex, 0, 0)) rfl ?_
              exact to_rt (i := .ireturn) (tg := []) rfl rfl (Or.inl ⟨_, _, _, ⟨hI12, hF12, ⟨tk, pl, g, sz, fun n l e hn el hl => (show n2 = n from (nI_eq (by omega) (by omega)).mp (e2.symm.trans e)) ▸ hsm, ⟨s0, n2, l0, by omega, es0, e2, by omega, ⟨Int32.not_lt.mp q4, q5⟩, k12_2201, by omega, el0, Or.inr ⟨by omega, kk, Or.inl ⟨hout.elim (fun w => w.1) (fun w => absurd w.2 (fun u => q10 ((nI_z (by omega)).mp u))), k12_10, hp12.1⟩⟩⟩, be_more hB (by omega) el0 hp12.1 (fun i hi => (hp12.2.1 i hi).trans (congrFun a31_9 i)) hp12.2.2⟩⟩, rfl⟩)
            · refine to_n 2 (fr' := (76, [(0, .ref 0), (1, .int (nI n2)), (2, .int x2)], [.ref 0, .ref 0], gh S a b sc9 ar9 lo, ex, 0, 0)) rfl ?_
              refine to_get rfl rfl rfl rfl ?_
              refine to_cp (q := 42) (M1 := an_X5_place) (rest := [.ref 0]) rfl rfl (by decide) rfl ⟨_, rfl⟩ (sf_X5_place hW hI9 kk (by omega) hat (d + 29)) (fun x13 hx13 => ?_)
              have hp13 := hx13
              refine to_eq (fr' := (82, [(0, .ref 0), (1, .int (nI n2)), (2, .int x2)], [.int x13, .ref 0], gh S a b sc9 ar9 lo, ex, 0, 0)) rfl ?_
              refine to_putR (h' := gh S a b (upd sc9 10 x13) ar9 lo) rfl rfl rfl (Nat.le_of_ble_eq_true rfl) rfl rfl ?_
              have hI14 := ip_10 (v := x13) hI9 
              have hF14 := fr_s (k := 10) (v := x13) hF9 (by decide)
              refine to_n 2 (fr' := (87, [(0, .ref 0), (1, .int (nI n2)), (2, .int x2)], [.ref 0, .int (-1)], gh S a b (upd sc9 10 x13) ar9 lo, ex, 0, 0)) rfl ?_
              refine to_get rfl rfl rfl rfl ?_
              refine to_getR (v := ((upd sc9 10 x13) 2402)) rfl rfl rfl rfl rfl ?_
              refine to_n 1 (fr' := (94, [(0, .ref 0), (1, .int (nI n2)), (2, .int x2)], [.int ((-1) - ((upd sc9 10 x13) 2402))], gh S a b (upd sc9 10 x13) ar9 lo, ex, 0, 0)) rfl ?_
              exact to_rt (i := .ireturn) (tg := []) rfl rfl (Or.inl ⟨_, _, _, ⟨hI14, hF14, ⟨tk, pl, g, sz, fun n l e hn el hl => (show n2 = n from (nI_eq (by omega) (by omega)).mp (e2.symm.trans e)) ▸ hsm, ⟨s0, n2, l0, by omega, es0, e2, by omega, ⟨Int32.not_lt.mp q4, q5⟩, k9_2201, by omega, el0, Or.inr ⟨by omega, kk, Or.inr ⟨hout.elim (fun w => absurd w.2 (by rw [q10]; decide)) (fun w => w.1), hp13.trans hpk, k9_2903⟩⟩⟩, be_of hB el0 k9_2903 (fun i _ => congrFun a31_9 i) (by omega)⟩⟩, rfl⟩)
          · refine to_n 1 (fr' := (62, [(0, .ref 0), (1, .int (nI n2)), (2, .int x2)], [.int (-9)], gh S a b (upd (upd sc 2201 0) 10 (-1)) ar lo, ex, 0, 0)) rfl ?_
            exact to_rt (i := .ireturn) (tg := []) rfl rfl (Or.inl ⟨_, _, _, ⟨hI7, hF7, ⟨fun _ => 0, fun _ => 0, fun _ => 0, 0, fun n l e hn el hl => absurd ((nI_eq (by omega) (by omega)).mp (el0.symm.trans el)) (by omega), ⟨s0, n2, l0, by omega, es0, e2, by omega, ⟨Int32.not_lt.mp q4, q5⟩, rfl, by omega, el0, Or.inl ⟨by omega, rfl, (show _ = nI l0 from el0).trans (congrArg nI (by omega))⟩⟩, be_of hB el0 el0 (fun i _ => rfl) (by omega)⟩⟩, rfl⟩)
        · exact to_th (i := .new 105) (tg := []) rfl rfl (Or.inr ⟨(fun s n hs es e hn hx => q5 hx.2), rfl⟩)
set_option maxRecDepth 20000 in
theorem sf_X9_light {X : Nat × (Nat → Int32)} {S a b : Nat} {sc : Nat → Int32} {ar : Nat → Nat → Int32} {lo : Nat → Int64} {ex : Bool} (hW : Wd S a b) (hI : Iv S sc ar) (x1 : Int32) (d : Nat)  : ce X S a b (d + 7) 80 [.ref 0, .int x1] sc ar lo ex "java/util/NoSuchElementException" (True) (fun x sc' ar' => Iv S sc' ar' ∧ Fr [9, 3300, 3301, 3304] [5, 17, 18, 34, 35, 48] sc ar sc' ar' ∧ True) := by
  obtain ⟨ha1, ha8, hb1, hb8, hab, hS1, hS⟩ := id hW
  refine ce_of (M := an_X9_light) rfl (Nat.le_of_ble_eq_true rfl) ?_
  have hF : Fr [9, 3300, 3301, 3304] [5, 17, 18, 34, 35, 48] sc ar sc ar := fr_0
  refine to_eq (fr' := (0, [(0, .ref 0), (1, .int x1)], [], gh S a b sc ar lo, ex, 0, 0)) rfl ?_
  refine to_n 2 (fr' := (2, [(0, .ref 0), (1, .int x1)], [.int x1, .ref 0], gh S a b sc ar lo, ex, 0, 0)) rfl ?_
  rcases has_or (x := x1) (B := S) (by omega) with ⟨n1, hn1, e1⟩ | w1
  · subst e1
    refine to_cu (q := 89) (M1 := an_X9_needCell) (rest := []) rfl rfl (by decide) rfl ⟨_, rfl⟩ (needCell_1 (n := n1)  (by omega) (d + 4)) ?_
    refine to_eq (fr' := (5, [(0, .ref 0), (1, .int (nI n1))], [], gh S a b sc ar lo, ex, 0, 0)) rfl ?_
    refine to_n 1 (fr' := (6, [(0, .ref 0), (1, .int (nI n1))], [.ref 0], gh S a b sc ar lo, ex, 0, 0)) rfl ?_
    refine to_get rfl rfl rfl rfl ?_
    refine to_get rfl rfl rfl rfl ?_
    refine to_n 1 (fr' := (13, [(0, .ref 0), (1, .int (nI n1))], [.int (nI n1), .ref 5], gh S a b sc ar lo, ex, 0, 0)) rfl ?_
    refine to_ialR (i := n1) (v := ((ar 5) n1)) rfl (by decide) rfl (by omega) (by omega) rfl ?_
    refine to_if_eq (t := 19) rfl (fun q2 => ?_) (fun q2 => ?_)
    · refine to_n 1 (fr' := (20, [(0, .ref 0), (1, .int (nI n1))], [.ref 0], gh S a b sc ar lo, ex, 0, 0)) rfl ?_
      refine to_get rfl rfl rfl rfl ?_
      refine to_get rfl rfl rfl rfl ?_
      refine to_n 2 (fr' := (28, [(0, .ref 0), (1, .int (nI n1))], [.int 1, .int (nI n1), .ref 5], gh S a b sc ar lo, ex, 0, 0)) rfl ?_
      refine to_iasR (i := n1) (h' := gh S a b sc (uA ar 5 (upd (ar 5) n1 1)) lo) rfl rfl (by omega) (by omega) rfl ?_
      have hI3 := ia_5 (g := (upd (ar 5) n1 1)) hI
      have hF3 := fr_a (c := 5) (g := (upd (ar 5) n1 1)) hF (by decide)
      refine to_n 1 (fr' := (30, [(0, .ref 0), (1, .int (nI n1))], [.ref 0], gh S a b sc (uA ar 5 (upd (ar 5) n1 1)) lo, ex, 0, 0)) rfl ?_
      refine to_get rfl rfl rfl rfl ?_
      refine to_n 2 (fr' := (35, [(0, .ref 0), (1, .int (nI n1))], [.int (nI n1), .int 0, .ref 48], gh S a b sc (uA ar 5 (upd (ar 5) n1 1)) lo, ex, 0, 0)) rfl ?_
      refine to_iasR (i := 0) (h' := gh S a b sc (uA (uA ar 5 (upd (ar 5) n1 1)) 48 (upd ((uA ar 5 (upd (ar 5) n1 1)) 48) 0 (nI n1))) lo) rfl rfl (by omega) (by omega) rfl ?_
      have hI4 := ia_48 (i := 0) (v := (nI n1)) hI3 (rl_n (n := n1) (by omega))
      have hF4 := fr_a (c := 48) (g := (upd ((uA ar 5 (upd (ar 5) n1 1)) 48) 0 (nI n1))) hF3 (by decide)
      refine to_n 2 (fr' := (38, [(0, .ref 0), (1, .int (nI n1))], [.int 1, .ref 0], gh S a b sc (uA (uA ar 5 (upd (ar 5) n1 1)) 48 (upd ((uA ar 5 (upd (ar 5) n1 1)) 48) 0 (nI n1))) lo, ex, 0, 0)) rfl ?_
      refine to_putR (h' := gh S a b (upd sc 9 1) (uA (uA ar 5 (upd (ar 5) n1 1)) 48 (upd ((uA ar 5 (upd (ar 5) n1 1)) 48) 0 (nI n1))) lo) rfl rfl rfl (Nat.le_of_ble_eq_true rfl) rfl rfl ?_
      have hI5 := ip_9 (v := 1) hI4 
      have hF5 := fr_s (k := 9) (v := 1) hF4 (by decide)
      refine to_n 1 (fr' := (42, [(0, .ref 0), (1, .int (nI n1))], [.ref 0], gh S a b (upd sc 9 1) (uA (uA ar 5 (upd (ar 5) n1 1)) 48 (upd ((uA ar 5 (upd (ar 5) n1 1)) 48) 0 (nI n1))) lo, ex, 0, 0)) rfl ?_
      refine to_cv (q := 102) (M1 := an_X9_ringBells) (rest := []) rfl rfl (by decide) rfl ⟨_, rfl⟩ (sf_X9_ringBells hW hI5  d) (fun sc6 ar6 hx6 => ?_)
      obtain ⟨hI6, hG6⟩ := hx6
      have hF6 := fr_t hF5 hG6 (by decide) (by decide)
      refine to_eq (fr' := (45, [(0, .ref 0), (1, .int (nI n1))], [], gh S a b sc6 ar6 lo, ex, 0, 0)) rfl ?_
      refine to_n 1 (fr' := (46, [(0, .ref 0), (1, .int (nI n1))], [.ref 0], gh S a b sc6 ar6 lo, ex, 0, 0)) rfl ?_
      refine to_get rfl rfl rfl rfl ?_
      refine to_n 1 (fr' := (50, [(0, .ref 0), (1, .int (nI n1))], [.int (nI n1), .ref 13], gh S a b sc6 ar6 lo, ex, 0, 0)) rfl ?_
      refine to_cp (q := 17) (M1 := an_X1_bound) (rest := []) rfl rfl (by decide) rfl ⟨_, rfl⟩ (sf_X1_bound hW hI6 (nI n1) (d + 5)) (fun x7 hx7 => ?_)
      refine to_eq (fr' := (53, [(0, .ref 0), (1, .int (nI n1))], [.int x7], gh S a b sc6 ar6 lo, ex, 0, 0)) rfl ?_
      exact to_rt (i := .ireturn) (tg := []) rfl rfl (Or.inl ⟨_, _, _, ⟨hI6, hF6, trivial⟩, rfl⟩)
    · refine to_n 1 (fr' := (18, [(0, .ref 0), (1, .int (nI n1))], [.int (-1)], gh S a b sc ar lo, ex, 0, 0)) rfl ?_
      exact to_rt (i := .ireturn) (tg := []) rfl rfl (Or.inl ⟨_, _, _, ⟨hI, hF, trivial⟩, rfl⟩)
  · exact to_thr (q := 89) (M1 := an_X9_needCell) (rest := []) rfl rfl (by decide) rfl ⟨_, rfl⟩ (needCell_0  w1 (d + 4)) rfl trivial (Or.inr ⟨trivial, rfl⟩)
set_option maxRecDepth 20000 in
theorem sf_X9_order {X : Nat × (Nat → Int32)} {S a b : Nat} {sc : Nat → Int32} {ar : Nat → Nat → Int32} {lo : Nat → Int64} {ex : Bool} (hW : Wd S a b) (hI : Iv S sc ar) (x1 : Int32) (x2 : Int32) (x3 : Int32) (d : Nat)  : ce X S a b (d + 3) 92 [.ref 0, .int x1, .int x2, .int x3] sc ar lo ex "java/util/NoSuchElementException" (True) (fun x sc' ar' => Iv S sc' ar' ∧ Fr [] [11, 17, 18] sc ar sc' ar' ∧ rl x 2) := by
  obtain ⟨ha1, ha8, hb1, hb8, hab, hS1, hS⟩ := id hW
  refine ce_of (M := an_X9_order) rfl (Nat.le_of_ble_eq_true rfl) ?_
  have hF : Fr [] [11, 17, 18] sc ar sc ar := fr_0
  refine to_eq (fr' := (0, [(0, .ref 0), (1, .int x1), (2, .int x2), (3, .int x3)], [], gh S a b sc ar lo, ex, 0, 0)) rfl ?_
  refine to_n 2 (fr' := (2, [(0, .ref 0), (1, .int x1), (2, .int x2), (3, .int x3)], [.int x1, .ref 0], gh S a b sc ar lo, ex, 0, 0)) rfl ?_
  obtain ⟨n1, hn1, e1⟩ := iv_s1308 hI
  rcases has_or (x := x1) (B := n1) (by omega) with ⟨n2, hn2, e2⟩ | w2
  · subst e2
    refine to_cu (q := 90) (M1 := an_X9_needCrew) (rest := []) rfl rfl (by decide) rfl ⟨_, rfl⟩ (needCrew_1 (n := n2) e1 (by omega) d) ?_
    refine to_eq (fr' := (5, [(0, .ref 0), (1, .int (nI n2)), (2, .int x2), (3, .int x3)], [], gh S a b sc ar lo, ex, 0, 0)) rfl ?_
    refine to_n 2 (fr' := (7, [(0, .ref 0), (1, .int (nI n2)), (2, .int x2), (3, .int x3)], [.int x2, .ref 0], gh S a b sc ar lo, ex, 0, 0)) rfl ?_
    rcases has_or (x := x2) (B := S) (by omega) with ⟨n3, hn3, e3⟩ | w3
    · subst e3
      refine to_cu (q := 89) (M1 := an_X9_needCell) (rest := []) rfl rfl (by decide) rfl ⟨_, rfl⟩ (needCell_1 (n := n3)  (by omega) d) ?_
      refine to_eq (fr' := (10, [(0, .ref 0), (1, .int (nI n2)), (2, .int (nI n3)), (3, .int x3)], [], gh S a b sc ar lo, ex, 0, 0)) rfl ?_
      refine to_n 1 (fr' := (11, [(0, .ref 0), (1, .int (nI n2)), (2, .int (nI n3)), (3, .int x3)], [.ref 0], gh S a b sc ar lo, ex, 0, 0)) rfl ?_
      refine to_get rfl rfl rfl rfl ?_
      refine to_get rfl rfl rfl rfl ?_
      refine to_n 1 (fr' := (18, [(0, .ref 0), (1, .int (nI n2)), (2, .int (nI n3)), (3, .int x3)], [.int (nI n3), .ref 5], gh S a b sc ar lo, ex, 0, 0)) rfl ?_
      refine to_ialR (i := n3) (v := ((ar 5) n3)) rfl (by decide) rfl (by omega) (by omega) rfl ?_
      refine to_n 1 (fr' := (20, [(0, .ref 0), (1, .int (nI n2)), (2, .int (nI n3)), (3, .int x3)], [.int x3, .int ((ar 5) n3)], gh S a b sc ar lo, ex, 0, 0)) rfl ?_
      refine to_ic_ne (t := 36) rfl (fun q4 => ?_) (fun q4 => ?_)
      · refine to_n 1 (fr' := (37, [(0, .ref 0), (1, .int (nI n2)), (2, .int (nI n3)), (3, .int x3)], [.int 0], gh S a b sc ar lo, ex, 0, 0)) rfl ?_
        exact to_rt (i := .ireturn) (tg := []) rfl rfl (Or.inl ⟨_, _, _, ⟨hI, hF, rl_n (n := 0) (by omega)⟩, rfl⟩)
      · refine to_n 1 (fr' := (24, [(0, .ref 0), (1, .int (nI n2)), (2, .int (nI n3)), (3, .int x3)], [.ref 0], gh S a b sc ar lo, ex, 0, 0)) rfl ?_
        refine to_get rfl rfl rfl rfl ?_
        refine to_get rfl rfl rfl rfl ?_
        refine to_n 1 (fr' := (31, [(0, .ref 0), (1, .int (nI n2)), (2, .int (nI n3)), (3, .int x3)], [.int (nI n2), .ref 17], gh S a b sc ar lo, ex, 0, 0)) rfl ?_
        rcases iv_a17 hI n2 with e5 | ⟨n5, hn5, e5⟩
        · refine to_ialR (i := n2) (v := (-1)) rfl (by decide) rfl (by omega) (by omega) e5 ?_
          refine to_n 1 (fr' := (33, [(0, .ref 0), (1, .int (nI n2)), (2, .int (nI n3)), (3, .int x3)], [.int (nI n3), .int (-1)], gh S a b sc ar lo, ex, 0, 0)) rfl ?_
          refine to_ic_ne_T (t := 38) (x := (-1)) (y := (nI n3)) rfl (fun w => nI_neg (n := n3) (x := (-1)) (by omega) (by decide) w.symm) ?_
          refine to_n 1 (fr' := (39, [(0, .ref 0), (1, .int (nI n2)), (2, .int (nI n3)), (3, .int x3)], [.ref 0], gh S a b sc ar lo, ex, 0, 0)) rfl ?_
          refine to_get rfl rfl rfl rfl ?_
          refine to_get rfl rfl rfl rfl ?_
          refine to_n 1 (fr' := (46, [(0, .ref 0), (1, .int (nI n2)), (2, .int (nI n3)), (3, .int x3)], [.int (nI n2), .ref 17], gh S a b sc ar lo, ex, 0, 0)) rfl ?_
          refine to_ialR (i := n2) (v := (-1)) rfl (by decide) rfl (by omega) (by omega) e5 ?_
          refine to_n 2 (fr' := (50, [(0, .ref 0), (1, .int (nI n2)), (2, .int (nI n3)), (3, .int x3), (4, .int (-1))], [.ref 0], gh S a b sc ar lo, ex, 0, 0)) rfl ?_
          refine to_get rfl rfl rfl rfl ?_
          refine to_n 1 (fr' := (55, [(0, .ref 0), (1, .int (nI n2)), (2, .int (nI n3)), (3, .int x3), (4, .int (-1))], [.int (-1), .ref 1], gh S a b sc ar lo, ex, 0, 0)) rfl ?_
          refine to_cp (q := 2) (M1 := an_X0_has) (rest := []) rfl rfl (by decide) rfl ⟨_, rfl⟩ (sf_has_0  (has_neg (by decide)) (d + 1)) (fun x6 hx6 => ?_)
          obtain rfl := hx6
          refine to_eq (fr' := (58, [(0, .ref 0), (1, .int (nI n2)), (2, .int (nI n3)), (3, .int x3), (4, .int (-1))], [.int 0], gh S a b sc ar lo, ex, 0, 0)) rfl ?_
          refine to_n 2 (fr' := (87, [(0, .ref 0), (1, .int (nI n2)), (2, .int (nI n3)), (3, .int x3), (4, .int (-1))], [.ref 0], gh S a b sc ar lo, ex, 0, 0)) rfl ?_
          refine to_get rfl rfl rfl rfl ?_
          refine to_get rfl rfl rfl rfl ?_
          refine to_n 2 (fr' := (95, [(0, .ref 0), (1, .int (nI n2)), (2, .int (nI n3)), (3, .int x3), (4, .int (-1))], [.int (nI n3), .int (nI n2), .ref 17], gh S a b sc ar lo, ex, 0, 0)) rfl ?_
          refine to_iasR (i := n2) (h' := gh S a b sc (uA ar 17 (upd (ar 17) n2 (nI n3))) lo) rfl rfl (by omega) (by omega) rfl ?_
          have hI7 := ia_17 (i := n2) (v := (nI n3)) hI (rq_n (n := n3) (by omega))
          have hF7 := fr_a (c := 17) (g := (upd (ar 17) n2 (nI n3))) hF (by decide)
          refine to_n 1 (fr' := (97, [(0, .ref 0), (1, .int (nI n2)), (2, .int (nI n3)), (3, .int x3), (4, .int (-1))], [.ref 0], gh S a b sc (uA ar 17 (upd (ar 17) n2 (nI n3))) lo, ex, 0, 0)) rfl ?_
          refine to_get rfl rfl rfl rfl ?_
          refine to_get rfl rfl rfl rfl ?_
          refine to_n 2 (fr' := (105, [(0, .ref 0), (1, .int (nI n2)), (2, .int (nI n3)), (3, .int x3), (4, .int (-1))], [.int x3, .int (nI n2), .ref 18], gh S a b sc (uA ar 17 (upd (ar 17) n2 (nI n3))) lo, ex, 0, 0)) rfl ?_
          refine to_if_ne (t := 112) rfl (fun q8 => ?_) (fun q8 => ?_)
          · refine to_n 1 (fr' := (113, [(0, .ref 0), (1, .int (nI n2)), (2, .int (nI n3)), (3, .int x3), (4, .int (-1))], [.int 0, .int (nI n2), .ref 18], gh S a b sc (uA ar 17 (upd (ar 17) n2 (nI n3))) lo, ex, 0, 0)) rfl ?_
            refine to_zasR (i := n2) (h' := gh S a b sc (uA (uA ar 17 (upd (ar 17) n2 (nI n3))) 18 (upd ((uA ar 17 (upd (ar 17) n2 (nI n3))) 18) n2 (vp_nar .boolean 0))) lo) rfl rfl (by omega) (by omega) rfl ?_
            have hI9 := ia_18 (g := (upd ((uA ar 17 (upd (ar 17) n2 (nI n3))) 18) n2 (vp_nar .boolean 0))) hI7
            have hF9 := fr_a (c := 18) (g := (upd ((uA ar 17 (upd (ar 17) n2 (nI n3))) 18) n2 (vp_nar .boolean 0))) hF7 (by decide)
            refine to_n 1 (fr' := (115, [(0, .ref 0), (1, .int (nI n2)), (2, .int (nI n3)), (3, .int x3), (4, .int (-1))], [.int 1], gh S a b sc (uA (uA ar 17 (upd (ar 17) n2 (nI n3))) 18 (upd ((uA ar 17 (upd (ar 17) n2 (nI n3))) 18) n2 (vp_nar .boolean 0))) lo, ex, 0, 0)) rfl ?_
            exact to_rt (i := .ireturn) (tg := []) rfl rfl (Or.inl ⟨_, _, _, ⟨hI9, hF9, rl_n (n := 1) (by omega)⟩, rfl⟩)
          · refine to_n 2 (fr' := (113, [(0, .ref 0), (1, .int (nI n2)), (2, .int (nI n3)), (3, .int x3), (4, .int (-1))], [.int 1, .int (nI n2), .ref 18], gh S a b sc (uA ar 17 (upd (ar 17) n2 (nI n3))) lo, ex, 0, 0)) rfl ?_
            refine to_zasR (i := n2) (h' := gh S a b sc (uA (uA ar 17 (upd (ar 17) n2 (nI n3))) 18 (upd ((uA ar 17 (upd (ar 17) n2 (nI n3))) 18) n2 (vp_nar .boolean 1))) lo) rfl rfl (by omega) (by omega) rfl ?_
            have hI10 := ia_18 (g := (upd ((uA ar 17 (upd (ar 17) n2 (nI n3))) 18) n2 (vp_nar .boolean 1))) hI7
            have hF10 := fr_a (c := 18) (g := (upd ((uA ar 17 (upd (ar 17) n2 (nI n3))) 18) n2 (vp_nar .boolean 1))) hF7 (by decide)
            refine to_n 1 (fr' := (115, [(0, .ref 0), (1, .int (nI n2)), (2, .int (nI n3)), (3, .int x3), (4, .int (-1))], [.int 1], gh S a b sc (uA (uA ar 17 (upd (ar 17) n2 (nI n3))) 18 (upd ((uA ar 17 (upd (ar 17) n2 (nI n3))) 18) n2 (vp_nar .boolean 1))) lo, ex, 0, 0)) rfl ?_
            exact to_rt (i := .ireturn) (tg := []) rfl rfl (Or.inl ⟨_, _, _, ⟨hI10, hF10, rl_n (n := 1) (by omega)⟩, rfl⟩)
        · refine to_ialR (i := n2) (v := (nI n5)) rfl (by decide) rfl (by omega) (by omega) e5 ?_
          refine to_n 1 (fr' := (33, [(0, .ref 0), (1, .int (nI n2)), (2, .int (nI n3)), (3, .int x3)], [.int (nI n3), .int (nI n5)], gh S a b sc ar lo, ex, 0, 0)) rfl ?_
          refine to_nc_ne (t := 38) (x := n5) (y := n3) rfl (by omega) (by omega) (fun q11 => ?_) (fun q11 => ?_)
          · refine to_n 1 (fr' := (39, [(0, .ref 0), (1, .int (nI n2)), (2, .int (nI n3)), (3, .int x3)], [.ref 0], gh S a b sc ar lo, ex, 0, 0)) rfl ?_
            refine to_get rfl rfl rfl rfl ?_
            refine to_get rfl rfl rfl rfl ?_
            refine to_n 1 (fr' := (46, [(0, .ref 0), (1, .int (nI n2)), (2, .int (nI n3)), (3, .int x3)], [.int (nI n2), .ref 17], gh S a b sc ar lo, ex, 0, 0)) rfl ?_
            refine to_ialR (i := n2) (v := (nI n5)) rfl (by decide) rfl (by omega) (by omega) e5 ?_
            refine to_n 2 (fr' := (50, [(0, .ref 0), (1, .int (nI n2)), (2, .int (nI n3)), (3, .int x3), (4, .int (nI n5))], [.ref 0], gh S a b sc ar lo, ex, 0, 0)) rfl ?_
            refine to_get rfl rfl rfl rfl ?_
            refine to_n 1 (fr' := (55, [(0, .ref 0), (1, .int (nI n2)), (2, .int (nI n3)), (3, .int x3), (4, .int (nI n5))], [.int (nI n5), .ref 1], gh S a b sc ar lo, ex, 0, 0)) rfl ?_
            rcases Nat.lt_or_ge n5 S with w12 | w12
            · refine to_cp (q := 2) (M1 := an_X0_has) (rest := []) rfl rfl (by decide) rfl ⟨_, rfl⟩ (sf_has_1 (n := n5)  (by omega) (d + 1)) (fun x12 hx12 => ?_)
              obtain rfl := hx12
              refine to_eq (fr' := (58, [(0, .ref 0), (1, .int (nI n2)), (2, .int (nI n3)), (3, .int x3), (4, .int (nI n5))], [.int 1], gh S a b sc ar lo, ex, 0, 0)) rfl ?_
              refine to_n 2 (fr' := (62, [(0, .ref 0), (1, .int (nI n2)), (2, .int (nI n3)), (3, .int x3), (4, .int (nI n5))], [.ref 0], gh S a b sc ar lo, ex, 0, 0)) rfl ?_
              refine to_get rfl rfl rfl rfl ?_
              refine to_get rfl rfl rfl rfl ?_
              refine to_n 1 (fr' := (70, [(0, .ref 0), (1, .int (nI n2)), (2, .int (nI n3)), (3, .int x3), (4, .int (nI n5))], [.int (nI n5), .ref 11], gh S a b sc ar lo, ex, 0, 0)) rfl ?_
              refine to_ialR (i := n5) (v := ((ar 11) n5)) rfl (by decide) rfl (by omega) (by omega) rfl ?_
              refine to_n 1 (fr' := (72, [(0, .ref 0), (1, .int (nI n2)), (2, .int (nI n3)), (3, .int x3), (4, .int (nI n5))], [.int (nI n2), .int ((ar 11) n5)], gh S a b sc ar lo, ex, 0, 0)) rfl ?_
              refine to_ic_ne (t := 86) rfl (fun q13 => ?_) (fun q13 => ?_)
              · refine to_n 1 (fr' := (87, [(0, .ref 0), (1, .int (nI n2)), (2, .int (nI n3)), (3, .int x3), (4, .int (nI n5))], [.ref 0], gh S a b sc ar lo, ex, 0, 0)) rfl ?_
                refine to_get rfl rfl rfl rfl ?_
                refine to_get rfl rfl rfl rfl ?_
                refine to_n 2 (fr' := (95, [(0, .ref 0), (1, .int (nI n2)), (2, .int (nI n3)), (3, .int x3), (4, .int (nI n5))], [.int (nI n3), .int (nI n2), .ref 17], gh S a b sc ar lo, ex, 0, 0)) rfl ?_
                refine to_iasR (i := n2) (h' := gh S a b sc (uA ar 17 (upd (ar 17) n2 (nI n3))) lo) rfl rfl (by omega) (by omega) rfl ?_
                have hI14 := ia_17 (i := n2) (v := (nI n3)) hI (rq_n (n := n3) (by omega))
                have hF14 := fr_a (c := 17) (g := (upd (ar 17) n2 (nI n3))) hF (by decide)
                refine to_n 1 (fr' := (97, [(0, .ref 0), (1, .int (nI n2)), (2, .int (nI n3)), (3, .int x3), (4, .int (nI n5))], [.ref 0], gh S a b sc (uA ar 17 (upd (ar 17) n2 (nI n3))) lo, ex, 0, 0)) rfl ?_
                refine to_get rfl rfl rfl rfl ?_
                refine to_get rfl rfl rfl rfl ?_
                refine to_n 2 (fr' := (105, [(0, .ref 0), (1, .int (nI n2)), (2, .int (nI n3)), (3, .int x3), (4, .int (nI n5))], [.int x3, .int (nI n2), .ref 18], gh S a b sc (uA ar 17 (upd (ar 17) n2 (nI n3))) lo, ex, 0, 0)) rfl ?_
                refine to_if_ne (t := 112) rfl (fun q15 => ?_) (fun q15 => ?_)
                · refine to_n 1 (fr' := (113, [(0, .ref 0), (1, .int (nI n2)), (2, .int (nI n3)), (3, .int x3), (4, .int (nI n5))], [.int 0, .int (nI n2), .ref 18], gh S a b sc (uA ar 17 (upd (ar 17) n2 (nI n3))) lo, ex, 0, 0)) rfl ?_
                  refine to_zasR (i := n2) (h' := gh S a b sc (uA (uA ar 17 (upd (ar 17) n2 (nI n3))) 18 (upd ((uA ar 17 (upd (ar 17) n2 (nI n3))) 18) n2 (vp_nar .boolean 0))) lo) rfl rfl (by omega) (by omega) rfl ?_
                  have hI16 := ia_18 (g := (upd ((uA ar 17 (upd (ar 17) n2 (nI n3))) 18) n2 (vp_nar .boolean 0))) hI14
                  have hF16 := fr_a (c := 18) (g := (upd ((uA ar 17 (upd (ar 17) n2 (nI n3))) 18) n2 (vp_nar .boolean 0))) hF14 (by decide)
                  refine to_n 1 (fr' := (115, [(0, .ref 0), (1, .int (nI n2)), (2, .int (nI n3)), (3, .int x3), (4, .int (nI n5))], [.int 1], gh S a b sc (uA (uA ar 17 (upd (ar 17) n2 (nI n3))) 18 (upd ((uA ar 17 (upd (ar 17) n2 (nI n3))) 18) n2 (vp_nar .boolean 0))) lo, ex, 0, 0)) rfl ?_
                  exact to_rt (i := .ireturn) (tg := []) rfl rfl (Or.inl ⟨_, _, _, ⟨hI16, hF16, rl_n (n := 1) (by omega)⟩, rfl⟩)
                · refine to_n 2 (fr' := (113, [(0, .ref 0), (1, .int (nI n2)), (2, .int (nI n3)), (3, .int x3), (4, .int (nI n5))], [.int 1, .int (nI n2), .ref 18], gh S a b sc (uA ar 17 (upd (ar 17) n2 (nI n3))) lo, ex, 0, 0)) rfl ?_
                  refine to_zasR (i := n2) (h' := gh S a b sc (uA (uA ar 17 (upd (ar 17) n2 (nI n3))) 18 (upd ((uA ar 17 (upd (ar 17) n2 (nI n3))) 18) n2 (vp_nar .boolean 1))) lo) rfl rfl (by omega) (by omega) rfl ?_
                  have hI17 := ia_18 (g := (upd ((uA ar 17 (upd (ar 17) n2 (nI n3))) 18) n2 (vp_nar .boolean 1))) hI14
                  have hF17 := fr_a (c := 18) (g := (upd ((uA ar 17 (upd (ar 17) n2 (nI n3))) 18) n2 (vp_nar .boolean 1))) hF14 (by decide)
                  refine to_n 1 (fr' := (115, [(0, .ref 0), (1, .int (nI n2)), (2, .int (nI n3)), (3, .int x3), (4, .int (nI n5))], [.int 1], gh S a b sc (uA (uA ar 17 (upd (ar 17) n2 (nI n3))) 18 (upd ((uA ar 17 (upd (ar 17) n2 (nI n3))) 18) n2 (vp_nar .boolean 1))) lo, ex, 0, 0)) rfl ?_
                  exact to_rt (i := .ireturn) (tg := []) rfl rfl (Or.inl ⟨_, _, _, ⟨hI17, hF17, rl_n (n := 1) (by omega)⟩, rfl⟩)
              · refine to_n 1 (fr' := (76, [(0, .ref 0), (1, .int (nI n2)), (2, .int (nI n3)), (3, .int x3), (4, .int (nI n5))], [.ref 0], gh S a b sc ar lo, ex, 0, 0)) rfl ?_
                refine to_get rfl rfl rfl rfl ?_
                refine to_get rfl rfl rfl rfl ?_
                refine to_n 2 (fr' := (85, [(0, .ref 0), (1, .int (nI n2)), (2, .int (nI n3)), (3, .int x3), (4, .int (nI n5))], [.int (-1), .int (nI n5), .ref 11], gh S a b sc ar lo, ex, 0, 0)) rfl ?_
                refine to_iasR (i := n5) (h' := gh S a b sc (uA ar 11 (upd (ar 11) n5 (-1))) lo) rfl rfl (by omega) (by omega) rfl ?_
                have hI18 := ia_11 (g := (upd (ar 11) n5 (-1))) hI
                have hF18 := fr_a (c := 11) (g := (upd (ar 11) n5 (-1))) hF (by decide)
                refine to_n 1 (fr' := (87, [(0, .ref 0), (1, .int (nI n2)), (2, .int (nI n3)), (3, .int x3), (4, .int (nI n5))], [.ref 0], gh S a b sc (uA ar 11 (upd (ar 11) n5 (-1))) lo, ex, 0, 0)) rfl ?_
                refine to_get rfl rfl rfl rfl ?_
                refine to_get rfl rfl rfl rfl ?_
                refine to_n 2 (fr' := (95, [(0, .ref 0), (1, .int (nI n2)), (2, .int (nI n3)), (3, .int x3), (4, .int (nI n5))], [.int (nI n3), .int (nI n2), .ref 17], gh S a b sc (uA ar 11 (upd (ar 11) n5 (-1))) lo, ex, 0, 0)) rfl ?_
                refine to_iasR (i := n2) (h' := gh S a b sc (uA (uA ar 11 (upd (ar 11) n5 (-1))) 17 (upd ((uA ar 11 (upd (ar 11) n5 (-1))) 17) n2 (nI n3))) lo) rfl rfl (by omega) (by omega) rfl ?_
                have hI19 := ia_17 (i := n2) (v := (nI n3)) hI18 (rq_n (n := n3) (by omega))
                have hF19 := fr_a (c := 17) (g := (upd ((uA ar 11 (upd (ar 11) n5 (-1))) 17) n2 (nI n3))) hF18 (by decide)
                refine to_n 1 (fr' := (97, [(0, .ref 0), (1, .int (nI n2)), (2, .int (nI n3)), (3, .int x3), (4, .int (nI n5))], [.ref 0], gh S a b sc (uA (uA ar 11 (upd (ar 11) n5 (-1))) 17 (upd ((uA ar 11 (upd (ar 11) n5 (-1))) 17) n2 (nI n3))) lo, ex, 0, 0)) rfl ?_
                refine to_get rfl rfl rfl rfl ?_
                refine to_get rfl rfl rfl rfl ?_
                refine to_n 2 (fr' := (105, [(0, .ref 0), (1, .int (nI n2)), (2, .int (nI n3)), (3, .int x3), (4, .int (nI n5))], [.int x3, .int (nI n2), .ref 18], gh S a b sc (uA (uA ar 11 (upd (ar 11) n5 (-1))) 17 (upd ((uA ar 11 (upd (ar 11) n5 (-1))) 17) n2 (nI n3))) lo, ex, 0, 0)) rfl ?_
                refine to_if_ne (t := 112) rfl (fun q20 => ?_) (fun q20 => ?_)
                · refine to_n 1 (fr' := (113, [(0, .ref 0), (1, .int (nI n2)), (2, .int (nI n3)), (3, .int x3), (4, .int (nI n5))], [.int 0, .int (nI n2), .ref 18], gh S a b sc (uA (uA ar 11 (upd (ar 11) n5 (-1))) 17 (upd ((uA ar 11 (upd (ar 11) n5 (-1))) 17) n2 (nI n3))) lo, ex, 0, 0)) rfl ?_
                  refine to_zasR (i := n2) (h' := gh S a b sc (uA (uA (uA ar 11 (upd (ar 11) n5 (-1))) 17 (upd ((uA ar 11 (upd (ar 11) n5 (-1))) 17) n2 (nI n3))) 18 (upd ((uA (uA ar 11 (upd (ar 11) n5 (-1))) 17 (upd ((uA ar 11 (upd (ar 11) n5 (-1))) 17) n2 (nI n3))) 18) n2 (vp_nar .boolean 0))) lo) rfl rfl (by omega) (by omega) rfl ?_
                  have hI21 := ia_18 (g := (upd ((uA (uA ar 11 (upd (ar 11) n5 (-1))) 17 (upd ((uA ar 11 (upd (ar 11) n5 (-1))) 17) n2 (nI n3))) 18) n2 (vp_nar .boolean 0))) hI19
                  have hF21 := fr_a (c := 18) (g := (upd ((uA (uA ar 11 (upd (ar 11) n5 (-1))) 17 (upd ((uA ar 11 (upd (ar 11) n5 (-1))) 17) n2 (nI n3))) 18) n2 (vp_nar .boolean 0))) hF19 (by decide)
                  refine to_n 1 (fr' := (115, [(0, .ref 0), (1, .int (nI n2)), (2, .int (nI n3)), (3, .int x3), (4, .int (nI n5))], [.int 1], gh S a b sc (uA (uA (uA ar 11 (upd (ar 11) n5 (-1))) 17 (upd ((uA ar 11 (upd (ar 11) n5 (-1))) 17) n2 (nI n3))) 18 (upd ((uA (uA ar 11 (upd (ar 11) n5 (-1))) 17 (upd ((uA ar 11 (upd (ar 11) n5 (-1))) 17) n2 (nI n3))) 18) n2 (vp_nar .boolean 0))) lo, ex, 0, 0)) rfl ?_
                  exact to_rt (i := .ireturn) (tg := []) rfl rfl (Or.inl ⟨_, _, _, ⟨hI21, hF21, rl_n (n := 1) (by omega)⟩, rfl⟩)
                · refine to_n 2 (fr' := (113, [(0, .ref 0), (1, .int (nI n2)), (2, .int (nI n3)), (3, .int x3), (4, .int (nI n5))], [.int 1, .int (nI n2), .ref 18], gh S a b sc (uA (uA ar 11 (upd (ar 11) n5 (-1))) 17 (upd ((uA ar 11 (upd (ar 11) n5 (-1))) 17) n2 (nI n3))) lo, ex, 0, 0)) rfl ?_
                  refine to_zasR (i := n2) (h' := gh S a b sc (uA (uA (uA ar 11 (upd (ar 11) n5 (-1))) 17 (upd ((uA ar 11 (upd (ar 11) n5 (-1))) 17) n2 (nI n3))) 18 (upd ((uA (uA ar 11 (upd (ar 11) n5 (-1))) 17 (upd ((uA ar 11 (upd (ar 11) n5 (-1))) 17) n2 (nI n3))) 18) n2 (vp_nar .boolean 1))) lo) rfl rfl (by omega) (by omega) rfl ?_
                  have hI22 := ia_18 (g := (upd ((uA (uA ar 11 (upd (ar 11) n5 (-1))) 17 (upd ((uA ar 11 (upd (ar 11) n5 (-1))) 17) n2 (nI n3))) 18) n2 (vp_nar .boolean 1))) hI19
                  have hF22 := fr_a (c := 18) (g := (upd ((uA (uA ar 11 (upd (ar 11) n5 (-1))) 17 (upd ((uA ar 11 (upd (ar 11) n5 (-1))) 17) n2 (nI n3))) 18) n2 (vp_nar .boolean 1))) hF19 (by decide)
                  refine to_n 1 (fr' := (115, [(0, .ref 0), (1, .int (nI n2)), (2, .int (nI n3)), (3, .int x3), (4, .int (nI n5))], [.int 1], gh S a b sc (uA (uA (uA ar 11 (upd (ar 11) n5 (-1))) 17 (upd ((uA ar 11 (upd (ar 11) n5 (-1))) 17) n2 (nI n3))) 18 (upd ((uA (uA ar 11 (upd (ar 11) n5 (-1))) 17 (upd ((uA ar 11 (upd (ar 11) n5 (-1))) 17) n2 (nI n3))) 18) n2 (vp_nar .boolean 1))) lo, ex, 0, 0)) rfl ?_
                  exact to_rt (i := .ireturn) (tg := []) rfl rfl (Or.inl ⟨_, _, _, ⟨hI22, hF22, rl_n (n := 1) (by omega)⟩, rfl⟩)
            · refine to_cp (q := 2) (M1 := an_X0_has) (rest := []) rfl rfl (by decide) rfl ⟨_, rfl⟩ (sf_has_0  (has_no (n := n5) (B := S) (by omega) (by omega) (by omega)) (d + 1)) (fun x12 hx12 => ?_)
              obtain rfl := hx12
              refine to_eq (fr' := (58, [(0, .ref 0), (1, .int (nI n2)), (2, .int (nI n3)), (3, .int x3), (4, .int (nI n5))], [.int 0], gh S a b sc ar lo, ex, 0, 0)) rfl ?_
              refine to_n 2 (fr' := (87, [(0, .ref 0), (1, .int (nI n2)), (2, .int (nI n3)), (3, .int x3), (4, .int (nI n5))], [.ref 0], gh S a b sc ar lo, ex, 0, 0)) rfl ?_
              refine to_get rfl rfl rfl rfl ?_
              refine to_get rfl rfl rfl rfl ?_
              refine to_n 2 (fr' := (95, [(0, .ref 0), (1, .int (nI n2)), (2, .int (nI n3)), (3, .int x3), (4, .int (nI n5))], [.int (nI n3), .int (nI n2), .ref 17], gh S a b sc ar lo, ex, 0, 0)) rfl ?_
              refine to_iasR (i := n2) (h' := gh S a b sc (uA ar 17 (upd (ar 17) n2 (nI n3))) lo) rfl rfl (by omega) (by omega) rfl ?_
              have hI23 := ia_17 (i := n2) (v := (nI n3)) hI (rq_n (n := n3) (by omega))
              have hF23 := fr_a (c := 17) (g := (upd (ar 17) n2 (nI n3))) hF (by decide)
              refine to_n 1 (fr' := (97, [(0, .ref 0), (1, .int (nI n2)), (2, .int (nI n3)), (3, .int x3), (4, .int (nI n5))], [.ref 0], gh S a b sc (uA ar 17 (upd (ar 17) n2 (nI n3))) lo, ex, 0, 0)) rfl ?_
              refine to_get rfl rfl rfl rfl ?_
              refine to_get rfl rfl rfl rfl ?_
              refine to_n 2 (fr' := (105, [(0, .ref 0), (1, .int (nI n2)), (2, .int (nI n3)), (3, .int x3), (4, .int (nI n5))], [.int x3, .int (nI n2), .ref 18], gh S a b sc (uA ar 17 (upd (ar 17) n2 (nI n3))) lo, ex, 0, 0)) rfl ?_
              refine to_if_ne (t := 112) rfl (fun q24 => ?_) (fun q24 => ?_)
              · refine to_n 1 (fr' := (113, [(0, .ref 0), (1, .int (nI n2)), (2, .int (nI n3)), (3, .int x3), (4, .int (nI n5))], [.int 0, .int (nI n2), .ref 18], gh S a b sc (uA ar 17 (upd (ar 17) n2 (nI n3))) lo, ex, 0, 0)) rfl ?_
                refine to_zasR (i := n2) (h' := gh S a b sc (uA (uA ar 17 (upd (ar 17) n2 (nI n3))) 18 (upd ((uA ar 17 (upd (ar 17) n2 (nI n3))) 18) n2 (vp_nar .boolean 0))) lo) rfl rfl (by omega) (by omega) rfl ?_
                have hI25 := ia_18 (g := (upd ((uA ar 17 (upd (ar 17) n2 (nI n3))) 18) n2 (vp_nar .boolean 0))) hI23
                have hF25 := fr_a (c := 18) (g := (upd ((uA ar 17 (upd (ar 17) n2 (nI n3))) 18) n2 (vp_nar .boolean 0))) hF23 (by decide)
                refine to_n 1 (fr' := (115, [(0, .ref 0), (1, .int (nI n2)), (2, .int (nI n3)), (3, .int x3), (4, .int (nI n5))], [.int 1], gh S a b sc (uA (uA ar 17 (upd (ar 17) n2 (nI n3))) 18 (upd ((uA ar 17 (upd (ar 17) n2 (nI n3))) 18) n2 (vp_nar .boolean 0))) lo, ex, 0, 0)) rfl ?_
                exact to_rt (i := .ireturn) (tg := []) rfl rfl (Or.inl ⟨_, _, _, ⟨hI25, hF25, rl_n (n := 1) (by omega)⟩, rfl⟩)
              · refine to_n 2 (fr' := (113, [(0, .ref 0), (1, .int (nI n2)), (2, .int (nI n3)), (3, .int x3), (4, .int (nI n5))], [.int 1, .int (nI n2), .ref 18], gh S a b sc (uA ar 17 (upd (ar 17) n2 (nI n3))) lo, ex, 0, 0)) rfl ?_
                refine to_zasR (i := n2) (h' := gh S a b sc (uA (uA ar 17 (upd (ar 17) n2 (nI n3))) 18 (upd ((uA ar 17 (upd (ar 17) n2 (nI n3))) 18) n2 (vp_nar .boolean 1))) lo) rfl rfl (by omega) (by omega) rfl ?_
                have hI26 := ia_18 (g := (upd ((uA ar 17 (upd (ar 17) n2 (nI n3))) 18) n2 (vp_nar .boolean 1))) hI23
                have hF26 := fr_a (c := 18) (g := (upd ((uA ar 17 (upd (ar 17) n2 (nI n3))) 18) n2 (vp_nar .boolean 1))) hF23 (by decide)
                refine to_n 1 (fr' := (115, [(0, .ref 0), (1, .int (nI n2)), (2, .int (nI n3)), (3, .int x3), (4, .int (nI n5))], [.int 1], gh S a b sc (uA (uA ar 17 (upd (ar 17) n2 (nI n3))) 18 (upd ((uA ar 17 (upd (ar 17) n2 (nI n3))) 18) n2 (vp_nar .boolean 1))) lo, ex, 0, 0)) rfl ?_
                exact to_rt (i := .ireturn) (tg := []) rfl rfl (Or.inl ⟨_, _, _, ⟨hI26, hF26, rl_n (n := 1) (by omega)⟩, rfl⟩)
          · refine to_n 1 (fr' := (37, [(0, .ref 0), (1, .int (nI n2)), (2, .int (nI n3)), (3, .int x3)], [.int 0], gh S a b sc ar lo, ex, 0, 0)) rfl ?_
            exact to_rt (i := .ireturn) (tg := []) rfl rfl (Or.inl ⟨_, _, _, ⟨hI, hF, rl_n (n := 0) (by omega)⟩, rfl⟩)
    · exact to_thr (q := 89) (M1 := an_X9_needCell) (rest := []) rfl rfl (by decide) rfl ⟨_, rfl⟩ (needCell_0  w3 d) rfl trivial (Or.inr ⟨trivial, rfl⟩)
  · exact to_thr (q := 90) (M1 := an_X9_needCrew) (rest := []) rfl rfl (by decide) rfl ⟨_, rfl⟩ (needCrew_0 e1 w2 d) rfl trivial (Or.inr ⟨trivial, rfl⟩)
set_option maxRecDepth 20000 in
theorem sf_X9_send {X : Nat × (Nat → Int32)} {S a b : Nat} {sc : Nat → Int32} {ar : Nat → Nat → Int32} {lo : Nat → Int64} {ex : Bool} (hW : Wd S a b) (hI : Iv S sc ar) (x1 : Int32) (x2 : Int32) (d : Nat)  : ce X S a b (d + 4) 81 [.ref 0, .int x1, .int x2] sc ar lo ex "java/util/NoSuchElementException" (True) (fun x sc' ar' => Iv S sc' ar' ∧ Fr [] [11, 17, 18] sc ar sc' ar' ∧ rl x 2) := by
  obtain ⟨ha1, ha8, hb1, hb8, hab, hS1, hS⟩ := id hW
  refine ce_of (M := an_X9_send) rfl (Nat.le_of_ble_eq_true rfl) ?_
  have hF : Fr [] [11, 17, 18] sc ar sc ar := fr_0
  refine to_eq (fr' := (0, [(0, .ref 0), (1, .int x1), (2, .int x2)], [], gh S a b sc ar lo, ex, 0, 0)) rfl ?_
  refine to_n 4 (fr' := (4, [(0, .ref 0), (1, .int x1), (2, .int x2)], [.int 1, .int x2, .int x1, .ref 0], gh S a b sc ar lo, ex, 0, 0)) rfl ?_
  refine to_ce (q := 92) (M1 := an_X9_order) (rest := []) rfl rfl (by decide) rfl ⟨_, rfl⟩ (sf_X9_order hW hI x1 x2 1 d) rfl trivial (fun _ => Or.inr ⟨trivial, rfl⟩) (fun x1 sc1 ar1 hx1 => ?_)
  obtain ⟨hI1, hG1, hx1⟩ := hx1
  have hF1 := fr_t hF hG1 (by decide) (by decide)
  obtain ⟨n1, hn1, rfl⟩ := hx1
  refine to_eq (fr' := (7, [(0, .ref 0), (1, .int x1), (2, .int x2)], [.int (nI n1)], gh S a b sc1 ar1 lo, ex, 0, 0)) rfl ?_
  exact to_rt (i := .ireturn) (tg := []) rfl (ai_rtz (rl_n (n := n1) (by omega))) (Or.inl ⟨_, _, _, ⟨hI1, hF1, rl_n (n := n1) (by omega)⟩, rfl⟩)
set_option maxRecDepth 20000 in
theorem sf_X9_pull {X : Nat × (Nat → Int32)} {S a b : Nat} {sc : Nat → Int32} {ar : Nat → Nat → Int32} {lo : Nat → Int64} {ex : Bool} (hW : Wd S a b) (hI : Iv S sc ar) (x1 : Int32) (x2 : Int32) (d : Nat)  : ce X S a b (d + 4) 82 [.ref 0, .int x1, .int x2] sc ar lo ex "java/util/NoSuchElementException" (True) (fun x sc' ar' => Iv S sc' ar' ∧ Fr [] [11, 17, 18] sc ar sc' ar' ∧ rl x 2) := by
  obtain ⟨ha1, ha8, hb1, hb8, hab, hS1, hS⟩ := id hW
  refine ce_of (M := an_X9_pull) rfl (Nat.le_of_ble_eq_true rfl) ?_
  have hF : Fr [] [11, 17, 18] sc ar sc ar := fr_0
  refine to_eq (fr' := (0, [(0, .ref 0), (1, .int x1), (2, .int x2)], [], gh S a b sc ar lo, ex, 0, 0)) rfl ?_
  refine to_n 4 (fr' := (4, [(0, .ref 0), (1, .int x1), (2, .int x2)], [.int 0, .int x2, .int x1, .ref 0], gh S a b sc ar lo, ex, 0, 0)) rfl ?_
  refine to_ce (q := 92) (M1 := an_X9_order) (rest := []) rfl rfl (by decide) rfl ⟨_, rfl⟩ (sf_X9_order hW hI x1 x2 0 d) rfl trivial (fun _ => Or.inr ⟨trivial, rfl⟩) (fun x1 sc1 ar1 hx1 => ?_)
  obtain ⟨hI1, hG1, hx1⟩ := hx1
  have hF1 := fr_t hF hG1 (by decide) (by decide)
  obtain ⟨n1, hn1, rfl⟩ := hx1
  refine to_eq (fr' := (7, [(0, .ref 0), (1, .int x1), (2, .int x2)], [.int (nI n1)], gh S a b sc1 ar1 lo, ex, 0, 0)) rfl ?_
  exact to_rt (i := .ireturn) (tg := []) rfl (ai_rtz (rl_n (n := n1) (by omega))) (Or.inl ⟨_, _, _, ⟨hI1, hF1, rl_n (n := n1) (by omega)⟩, rfl⟩)
set_option maxRecDepth 20000 in
theorem sf_X9_hours {X : Nat × (Nat → Int32)} {S a b : Nat} {sc : Nat → Int32} {ar : Nat → Nat → Int32} {lo : Nat → Int64} {ex : Bool} (hW : Wd S a b) (hI : Iv S sc ar) (x1 : Int32) (d : Nat)  : ce X S a b (d + 8) 83 [.ref 0, .int x1] sc ar lo ex "java/lang/IllegalArgumentException" (∀ h n : Nat, sc 11 = nI h → x1 = nI n → n ≤ 100 → h + n ≤ 2400 → False) (fun x sc' ar' => Iv S sc' ar' ∧ Fr [9, 11, 3300, 3301, 3304, 3603] [5, 8, 9, 10, 11, 16, 17, 18, 19, 20, 21, 34, 35, 37, 38, 48] sc ar sc' ar' ∧ (∃ h n : Nat, sc 11 = nI h ∧ x1 = nI n ∧ n ≤ 100 ∧ h + n ≤ 2400 ∧ x = nI (h + n) ∧ sc' 11 = nI (h + n))) := by
  obtain ⟨ha1, ha8, hb1, hb8, hab, hS1, hS⟩ := id hW
  obtain ⟨h0, hh0, eh0⟩ := iv_s11 hI
  refine ce_of (M := an_X9_hours) rfl (Nat.le_of_ble_eq_true rfl) ?_
  have hF : Fr [9, 11, 3300, 3301, 3304, 3603] [5, 8, 9, 10, 11, 16, 17, 18, 19, 20, 21, 34, 35, 37, 38, 48] sc ar sc ar := fr_0
  refine to_eq (fr' := (0, [(0, .ref 0), (1, .int x1)], [], gh S a b sc ar lo, ex, 0, 0)) rfl ?_
  have c34 : ∀ m : Nat, ∀ (nn : Nat) (i : Nat) (h1 : Nat) (sc1 : Nat → Int32) (ar1 : Nat → Nat → Int32), 100 ≤ i + m → sc1 11 = nI h1 → i ≤ nn → nn ≤ 100 → h0 + nn ≤ 2400 → h1 = h0 + i → x1 = nI nn → i ≤ 100 → Iv S sc1 ar1 → Fr [9, 11, 3300, 3301, 3304, 3603] [5, 8, 9, 10, 11, 16, 17, 18, 19, 20, 21, 34, 35, 37, 38, 48] sc ar sc1 ar1 → ag_To X (d + 7) an_X9_hours (34, [(0, .ref 0), (1, .int (nI nn)), (2, .int (nI i))], [], gh S a b sc1 ar1 lo, ex, 0, 0) (qe S a b sc ar lo ex "java/lang/IllegalArgumentException" (∀ h n : Nat, sc 11 = nI h → x1 = nI n → n ≤ 100 → h + n ≤ 2400 → False) (fun x sc' ar' => Iv S sc' ar' ∧ Fr [9, 11, 3300, 3301, 3304, 3603] [5, 8, 9, 10, 11, 16, 17, 18, 19, 20, 21, 34, 35, 37, 38, 48] sc ar sc' ar' ∧ (∃ h n : Nat, sc 11 = nI h ∧ x1 = nI n ∧ n ≤ 100 ∧ h + n ≤ 2400 ∧ x = nI (h + n) ∧ sc' 11 = nI (h + n)))) := by
    intro m
    induction m with
    | zero =>
      intro nn i h1 sc1 ar1 hm hc34_0 hc34_1 hc34_2 hc34_3 hc34_4 hc34_5 hc34_6 hI1 hF1
      refine to_n 2 (fr' := (36, [(0, .ref 0), (1, .int (nI nn)), (2, .int (nI i))], [.int (nI nn), .int (nI i)], gh S a b sc1 ar1 lo, ex, 0, 0)) rfl ?_
      refine to_nc_ge_T (t := 49) (x := i) (y := nn) rfl (by omega) (by omega) (by omega) ?_
      refine to_n 1 (fr' := (50, [(0, .ref 0), (1, .int (nI nn)), (2, .int (nI i))], [.ref 0], gh S a b sc1 ar1 lo, ex, 0, 0)) rfl ?_
      refine to_getR (v := (nI h1)) rfl rfl rfl rfl hc34_0 ?_
      exact to_rt (i := .ireturn) (tg := []) rfl rfl (Or.inl ⟨_, _, _, ⟨hI1, hF1, ⟨h0, nn, eh0, hc34_5, by omega, by omega, by rw [show h0 + nn = h1 by omega], by rw [show h0 + nn = h1 by omega]; exact hc34_0⟩⟩, rfl⟩)
    | succ m ih =>
      intro nn i h1 sc1 ar1 hm hc34_0 hc34_1 hc34_2 hc34_3 hc34_4 hc34_5 hc34_6 hI1 hF1
      refine to_n 2 (fr' := (36, [(0, .ref 0), (1, .int (nI nn)), (2, .int (nI i))], [.int (nI nn), .int (nI i)], gh S a b sc1 ar1 lo, ex, 0, 0)) rfl ?_
      refine to_nc_ge (t := 49) (x := i) (y := nn) rfl (by omega) (by omega) (fun q2 => ?_) (fun q2 => ?_)
      · refine to_n 1 (fr' := (50, [(0, .ref 0), (1, .int (nI nn)), (2, .int (nI i))], [.ref 0], gh S a b sc1 ar1 lo, ex, 0, 0)) rfl ?_
        refine to_getR (v := (nI h1)) rfl rfl rfl rfl hc34_0 ?_
        exact to_rt (i := .ireturn) (tg := []) rfl rfl (Or.inl ⟨_, _, _, ⟨hI1, hF1, ⟨h0, nn, eh0, hc34_5, by omega, by omega, by rw [show h0 + nn = h1 by omega], by rw [show h0 + nn = h1 by omega]; exact hc34_0⟩⟩, rfl⟩)
      · refine to_n 1 (fr' := (40, [(0, .ref 0), (1, .int (nI nn)), (2, .int (nI i))], [.ref 0], gh S a b sc1 ar1 lo, ex, 0, 0)) rfl ?_
        refine to_cv (q := 93) (M1 := an_X9_passHour) (rest := []) rfl rfl (by decide) rfl ⟨_, rfl⟩ (sf_X9_passHour hW hI1 h1 (by omega) hc34_0 d) (fun sc3 ar3 hx3 => ?_)
        obtain ⟨hI3, hG3, hx3⟩ := hx3
        have hF3 := fr_t hF1 hG3 (by decide) (by decide)
        refine to_eq (fr' := (43, [(0, .ref 0), (1, .int (nI nn)), (2, .int (nI i))], [], gh S a b sc3 ar3 lo, ex, 0, 0)) rfl ?_
        refine to_n 1 (fr' := (46, [(0, .ref 0), (1, .int (nI nn)), (2, .int ((nI i) + 1))], [], gh S a b sc3 ar3 lo, ex, 0, 0)) rfl ?_
        rw [nI_1 i]
        refine to_n 1 (fr' := (34, [(0, .ref 0), (1, .int (nI nn)), (2, .int (nI (i + 1)))], [], gh S a b sc3 ar3 lo, ex, 0, 0)) rfl ?_
        exact ih nn (i + 1) (h1 + 1) sc3 ar3 (by omega) (hx3) (by omega) (by omega) (by omega) (by omega) hc34_5 (by omega) hI3 hF3
  refine to_n 1 (fr' := (1, [(0, .ref 0), (1, .int x1)], [.int x1], gh S a b sc ar lo, ex, 0, 0)) rfl ?_
  refine to_if_lt (t := 22) rfl (fun q4 => ?_) (fun q4 => ?_)
  · exact to_th (i := .new 105) (tg := []) rfl rfl (Or.inr ⟨(fun h n _ e hn _ => nI_neg (by omega) q4 e.symm), rfl⟩)
  · obtain ⟨n5, hn5, e5⟩ := nI_of q4
    refine to_eq (fr' := (4, [(0, .ref 0), (1, .int (nI n5))], [], gh S a b sc ar lo, ex, 0, 0)) (by rw [e5]) ?_
    refine to_eq (fr' := (4, [(0, .ref 0), (1, .int (nI n5))], [], gh S a b sc ar lo, ex, 0, 0)) rfl ?_
    refine to_n 2 (fr' := (7, [(0, .ref 0), (1, .int (nI n5))], [.int 100, .int (nI n5)], gh S a b sc ar lo, ex, 0, 0)) rfl ?_
    refine to_nc_gt (t := 22) (x := n5) (y := 100) rfl (by omega) (by omega) (fun q6 => ?_) (fun q6 => ?_)
    · exact to_th (i := .new 105) (tg := []) rfl rfl (Or.inr ⟨(fun h n eh e hn hs => by have a1 : h0 = h := (nI_eq (by omega) (by omega)).mp (eh0.symm.trans eh); have a2 : n5 = n := (nI_eq (by omega) (by omega)).mp (e5.symm.trans e); omega), rfl⟩)
    · refine to_n 3 (fr' := (15, [(0, .ref 0), (1, .int (nI n5))], [.ref 0, .int 2400, .int (nI n5)], gh S a b sc ar lo, ex, 0, 0)) rfl ?_
      refine to_getR (v := (nI h0)) rfl rfl rfl rfl eh0 ?_
      refine to_subN (x := 2400) (y := h0) rfl (by omega) ?_
      refine to_nc_le (t := 32) (x := n5) (y := (2400 - h0)) rfl (by omega) (by omega) (fun q7 => ?_) (fun q7 => ?_)
      · refine to_n 2 (fr' := (34, [(0, .ref 0), (1, .int (nI n5)), (2, .int 0)], [], gh S a b sc ar lo, ex, 0, 0)) rfl ?_
        exact c34 (100 - 0) n5 0 h0 sc ar (by omega) (eh0) (by omega) (by omega) (by omega) (by omega) e5 (by omega) hI hF
      · exact to_th (i := .new 105) (tg := []) rfl rfl (Or.inr ⟨(fun h n eh e hn hs => by have a1 : h0 = h := (nI_eq (by omega) (by omega)).mp (eh0.symm.trans eh); have a2 : n5 = n := (nI_eq (by omega) (by omega)).mp (e5.symm.trans e); omega), rfl⟩)
set_option maxRecDepth 20000 in
theorem sf_X9_cell {X : Nat × (Nat → Int32)} {S a b : Nat} {sc : Nat → Int32} {ar : Nat → Nat → Int32} {lo : Nat → Int64} {ex : Bool} (hW : Wd S a b) (hI : Iv S sc ar) (x1 : Int32) (x2 : Int32) (d : Nat)  : ce X S a b (d + 3) 84 [.ref 0, .int x1, .int x2] sc ar lo ex "java/util/NoSuchElementException" (True) (fun x sc' ar' => Iv S sc' ar' ∧ Fr [] [] sc ar sc' ar' ∧ True) := by
  obtain ⟨ha1, ha8, hb1, hb8, hab, hS1, hS⟩ := id hW
  refine ce_of (M := an_X9_cell) rfl (Nat.le_of_ble_eq_true rfl) ?_
  have hF : Fr [] [] sc ar sc ar := fr_0
  refine to_eq (fr' := (0, [(0, .ref 0), (1, .int x1), (2, .int x2)], [], gh S a b sc ar lo, ex, 0, 0)) rfl ?_
  refine to_n 2 (fr' := (2, [(0, .ref 0), (1, .int x1), (2, .int x2)], [.int x1, .ref 0], gh S a b sc ar lo, ex, 0, 0)) rfl ?_
  rcases has_or (x := x1) (B := S) (by omega) with ⟨n1, hn1, e1⟩ | w1
  · subst e1
    refine to_cu (q := 89) (M1 := an_X9_needCell) (rest := []) rfl rfl (by decide) rfl ⟨_, rfl⟩ (needCell_1 (n := n1)  (by omega) d) ?_
    refine to_eq (fr' := (5, [(0, .ref 0), (1, .int (nI n1)), (2, .int x2)], [], gh S a b sc ar lo, ex, 0, 0)) rfl ?_
    refine to_n 1 (fr' := (6, [(0, .ref 0), (1, .int (nI n1)), (2, .int x2)], [.int x2], gh S a b sc ar lo, ex, 0, 0)) rfl ?_
    refine to_tb (x := x2) rfl rfl (by decide) (fun t ht => ?_)
    obtain rfl | rfl | rfl | rfl | rfl | rfl | rfl | rfl | rfl : t = 52 ∨ t = 62 ∨ t = 72 ∨ t = 82 ∨ t = 92 ∨ t = 102 ∨ t = 112 ∨ t = 122 ∨ t = 140 := by simpa using to_mem (l := [52, 62, 72, 82, 92, 102, 112, 122, 140]) ht (by decide)
    · refine to_eq (fr' := (52, [(0, .ref 0), (1, .int (nI n1)), (2, .int x2)], [], gh S a b sc ar lo, ex, 0, 0)) rfl ?_
      refine to_n 1 (fr' := (53, [(0, .ref 0), (1, .int (nI n1)), (2, .int x2)], [.ref 0], gh S a b sc ar lo, ex, 0, 0)) rfl ?_
      refine to_get rfl rfl rfl rfl ?_
      refine to_get rfl rfl rfl rfl ?_
      refine to_n 1 (fr' := (60, [(0, .ref 0), (1, .int (nI n1)), (2, .int x2)], [.int (nI n1), .ref 5], gh S a b sc ar lo, ex, 0, 0)) rfl ?_
      refine to_ialR (i := n1) (v := ((ar 5) n1)) rfl (by decide) rfl (by omega) (by omega) rfl ?_
      exact to_rt (i := .ireturn) (tg := []) rfl rfl (Or.inl ⟨_, _, _, ⟨hI, hF, trivial⟩, rfl⟩)
    · refine to_eq (fr' := (62, [(0, .ref 0), (1, .int (nI n1)), (2, .int x2)], [], gh S a b sc ar lo, ex, 0, 0)) rfl ?_
      refine to_n 1 (fr' := (63, [(0, .ref 0), (1, .int (nI n1)), (2, .int x2)], [.ref 0], gh S a b sc ar lo, ex, 0, 0)) rfl ?_
      refine to_get rfl rfl rfl rfl ?_
      refine to_get rfl rfl rfl rfl ?_
      refine to_n 1 (fr' := (70, [(0, .ref 0), (1, .int (nI n1)), (2, .int x2)], [.int (nI n1), .ref 6], gh S a b sc ar lo, ex, 0, 0)) rfl ?_
      refine to_ialR (i := n1) (v := ((ar 6) n1)) rfl (by decide) rfl (by omega) (by omega) rfl ?_
      exact to_rt (i := .ireturn) (tg := []) rfl rfl (Or.inl ⟨_, _, _, ⟨hI, hF, trivial⟩, rfl⟩)
    · refine to_eq (fr' := (72, [(0, .ref 0), (1, .int (nI n1)), (2, .int x2)], [], gh S a b sc ar lo, ex, 0, 0)) rfl ?_
      refine to_n 1 (fr' := (73, [(0, .ref 0), (1, .int (nI n1)), (2, .int x2)], [.ref 0], gh S a b sc ar lo, ex, 0, 0)) rfl ?_
      refine to_get rfl rfl rfl rfl ?_
      refine to_get rfl rfl rfl rfl ?_
      refine to_n 1 (fr' := (80, [(0, .ref 0), (1, .int (nI n1)), (2, .int x2)], [.int (nI n1), .ref 7], gh S a b sc ar lo, ex, 0, 0)) rfl ?_
      refine to_ialR (i := n1) (v := ((ar 7) n1)) rfl (by decide) rfl (by omega) (by omega) rfl ?_
      exact to_rt (i := .ireturn) (tg := []) rfl rfl (Or.inl ⟨_, _, _, ⟨hI, hF, trivial⟩, rfl⟩)
    · refine to_eq (fr' := (82, [(0, .ref 0), (1, .int (nI n1)), (2, .int x2)], [], gh S a b sc ar lo, ex, 0, 0)) rfl ?_
      refine to_n 1 (fr' := (83, [(0, .ref 0), (1, .int (nI n1)), (2, .int x2)], [.ref 0], gh S a b sc ar lo, ex, 0, 0)) rfl ?_
      refine to_get rfl rfl rfl rfl ?_
      refine to_get rfl rfl rfl rfl ?_
      refine to_n 1 (fr' := (90, [(0, .ref 0), (1, .int (nI n1)), (2, .int x2)], [.int (nI n1), .ref 8], gh S a b sc ar lo, ex, 0, 0)) rfl ?_
      refine to_ialR (i := n1) (v := ((ar 8) n1)) rfl (by decide) rfl (by omega) (by omega) rfl ?_
      exact to_rt (i := .ireturn) (tg := []) rfl rfl (Or.inl ⟨_, _, _, ⟨hI, hF, trivial⟩, rfl⟩)
    · refine to_eq (fr' := (92, [(0, .ref 0), (1, .int (nI n1)), (2, .int x2)], [], gh S a b sc ar lo, ex, 0, 0)) rfl ?_
      refine to_n 1 (fr' := (93, [(0, .ref 0), (1, .int (nI n1)), (2, .int x2)], [.ref 0], gh S a b sc ar lo, ex, 0, 0)) rfl ?_
      refine to_get rfl rfl rfl rfl ?_
      refine to_get rfl rfl rfl rfl ?_
      refine to_n 1 (fr' := (100, [(0, .ref 0), (1, .int (nI n1)), (2, .int x2)], [.int (nI n1), .ref 9], gh S a b sc ar lo, ex, 0, 0)) rfl ?_
      refine to_ialR (i := n1) (v := ((ar 9) n1)) rfl (by decide) rfl (by omega) (by omega) rfl ?_
      exact to_rt (i := .ireturn) (tg := []) rfl rfl (Or.inl ⟨_, _, _, ⟨hI, hF, trivial⟩, rfl⟩)
    · refine to_eq (fr' := (102, [(0, .ref 0), (1, .int (nI n1)), (2, .int x2)], [], gh S a b sc ar lo, ex, 0, 0)) rfl ?_
      refine to_n 1 (fr' := (103, [(0, .ref 0), (1, .int (nI n1)), (2, .int x2)], [.ref 0], gh S a b sc ar lo, ex, 0, 0)) rfl ?_
      refine to_get rfl rfl rfl rfl ?_
      refine to_get rfl rfl rfl rfl ?_
      refine to_n 1 (fr' := (110, [(0, .ref 0), (1, .int (nI n1)), (2, .int x2)], [.int (nI n1), .ref 10], gh S a b sc ar lo, ex, 0, 0)) rfl ?_
      refine to_ialR (i := n1) (v := ((ar 10) n1)) rfl (by decide) rfl (by omega) (by omega) rfl ?_
      exact to_rt (i := .ireturn) (tg := []) rfl rfl (Or.inl ⟨_, _, _, ⟨hI, hF, trivial⟩, rfl⟩)
    · refine to_eq (fr' := (112, [(0, .ref 0), (1, .int (nI n1)), (2, .int x2)], [], gh S a b sc ar lo, ex, 0, 0)) rfl ?_
      refine to_n 1 (fr' := (113, [(0, .ref 0), (1, .int (nI n1)), (2, .int x2)], [.ref 0], gh S a b sc ar lo, ex, 0, 0)) rfl ?_
      refine to_get rfl rfl rfl rfl ?_
      refine to_get rfl rfl rfl rfl ?_
      refine to_n 1 (fr' := (120, [(0, .ref 0), (1, .int (nI n1)), (2, .int x2)], [.int (nI n1), .ref 11], gh S a b sc ar lo, ex, 0, 0)) rfl ?_
      refine to_ialR (i := n1) (v := ((ar 11) n1)) rfl (by decide) rfl (by omega) (by omega) rfl ?_
      exact to_rt (i := .ireturn) (tg := []) rfl rfl (Or.inl ⟨_, _, _, ⟨hI, hF, trivial⟩, rfl⟩)
    · refine to_eq (fr' := (122, [(0, .ref 0), (1, .int (nI n1)), (2, .int x2)], [], gh S a b sc ar lo, ex, 0, 0)) rfl ?_
      refine to_n 1 (fr' := (123, [(0, .ref 0), (1, .int (nI n1)), (2, .int x2)], [.ref 0], gh S a b sc ar lo, ex, 0, 0)) rfl ?_
      refine to_get rfl rfl rfl rfl ?_
      refine to_get rfl rfl rfl rfl ?_
      refine to_n 1 (fr' := (130, [(0, .ref 0), (1, .int (nI n1)), (2, .int x2)], [.int (nI n1), .ref 12], gh S a b sc ar lo, ex, 0, 0)) rfl ?_
      refine to_zalR (i := n1) (v := ((ar 12) n1)) rfl rfl (by omega) (by omega) rfl ?_
      refine to_if_eq (t := 138) rfl (fun q2 => ?_) (fun q2 => ?_)
      · refine to_n 1 (fr' := (139, [(0, .ref 0), (1, .int (nI n1)), (2, .int x2)], [.int 0], gh S a b sc ar lo, ex, 0, 0)) rfl ?_
        exact to_rt (i := .ireturn) (tg := []) rfl rfl (Or.inl ⟨_, _, _, ⟨hI, hF, trivial⟩, rfl⟩)
      · refine to_n 2 (fr' := (139, [(0, .ref 0), (1, .int (nI n1)), (2, .int x2)], [.int 1], gh S a b sc ar lo, ex, 0, 0)) rfl ?_
        exact to_rt (i := .ireturn) (tg := []) rfl rfl (Or.inl ⟨_, _, _, ⟨hI, hF, trivial⟩, rfl⟩)
    · refine to_eq (fr' := (140, [(0, .ref 0), (1, .int (nI n1)), (2, .int x2)], [], gh S a b sc ar lo, ex, 0, 0)) rfl ?_
      exact to_th (i := .new 183) (tg := []) rfl rfl (Or.inr ⟨trivial, rfl⟩)
  · exact to_thr (q := 89) (M1 := an_X9_needCell) (rest := []) rfl rfl (by decide) rfl ⟨_, rfl⟩ (needCell_0  w1 d) rfl trivial (Or.inr ⟨trivial, rfl⟩)
set_option maxRecDepth 20000 in
theorem sf_X9_of {X : Nat × (Nat → Int32)} {S a b : Nat} {sc : Nat → Int32} {ar : Nat → Nat → Int32} {lo : Nat → Int64} {ex : Bool} (hW : Wd S a b) (hI : Iv S sc ar) (x1 : Int32) (x2 : Int32) (d : Nat)  : ce X S a b (d + 3) 85 [.ref 0, .int x1, .int x2] sc ar lo ex "java/util/NoSuchElementException" (True) (fun x sc' ar' => Iv S sc' ar' ∧ Fr [] [] sc ar sc' ar' ∧ True) := by
  obtain ⟨ha1, ha8, hb1, hb8, hab, hS1, hS⟩ := id hW
  refine ce_of (M := an_X9_of) rfl (Nat.le_of_ble_eq_true rfl) ?_
  have hF : Fr [] [] sc ar sc ar := fr_0
  refine to_eq (fr' := (0, [(0, .ref 0), (1, .int x1), (2, .int x2)], [], gh S a b sc ar lo, ex, 0, 0)) rfl ?_
  refine to_n 2 (fr' := (2, [(0, .ref 0), (1, .int x1), (2, .int x2)], [.int x1, .ref 0], gh S a b sc ar lo, ex, 0, 0)) rfl ?_
  obtain ⟨n1, hn1, e1⟩ := iv_s1308 hI
  rcases has_or (x := x1) (B := n1) (by omega) with ⟨n2, hn2, e2⟩ | w2
  · subst e2
    refine to_cu (q := 90) (M1 := an_X9_needCrew) (rest := []) rfl rfl (by decide) rfl ⟨_, rfl⟩ (needCrew_1 (n := n2) e1 (by omega) d) ?_
    refine to_eq (fr' := (5, [(0, .ref 0), (1, .int (nI n2)), (2, .int x2)], [], gh S a b sc ar lo, ex, 0, 0)) rfl ?_
    refine to_n 1 (fr' := (6, [(0, .ref 0), (1, .int (nI n2)), (2, .int x2)], [.int x2], gh S a b sc ar lo, ex, 0, 0)) rfl ?_
    refine to_tb (x := x2) rfl rfl (by decide) (fun t ht => ?_)
    obtain rfl | rfl | rfl | rfl | rfl | rfl | rfl | rfl | rfl : t = 52 ∨ t = 62 ∨ t = 72 ∨ t = 82 ∨ t = 92 ∨ t = 110 ∨ t = 120 ∨ t = 130 ∨ t = 140 := by simpa using to_mem (l := [52, 62, 72, 82, 92, 110, 120, 130, 140]) ht (by decide)
    · refine to_eq (fr' := (52, [(0, .ref 0), (1, .int (nI n2)), (2, .int x2)], [], gh S a b sc ar lo, ex, 0, 0)) rfl ?_
      refine to_n 1 (fr' := (53, [(0, .ref 0), (1, .int (nI n2)), (2, .int x2)], [.ref 0], gh S a b sc ar lo, ex, 0, 0)) rfl ?_
      refine to_get rfl rfl rfl rfl ?_
      refine to_get rfl rfl rfl rfl ?_
      refine to_n 1 (fr' := (60, [(0, .ref 0), (1, .int (nI n2)), (2, .int x2)], [.int (nI n2), .ref 14], gh S a b sc ar lo, ex, 0, 0)) rfl ?_
      refine to_ialR (i := n2) (v := ((ar 14) n2)) rfl (by decide) rfl (by omega) (by omega) rfl ?_
      exact to_rt (i := .ireturn) (tg := []) rfl rfl (Or.inl ⟨_, _, _, ⟨hI, hF, trivial⟩, rfl⟩)
    · refine to_eq (fr' := (62, [(0, .ref 0), (1, .int (nI n2)), (2, .int x2)], [], gh S a b sc ar lo, ex, 0, 0)) rfl ?_
      refine to_n 1 (fr' := (63, [(0, .ref 0), (1, .int (nI n2)), (2, .int x2)], [.ref 0], gh S a b sc ar lo, ex, 0, 0)) rfl ?_
      refine to_get rfl rfl rfl rfl ?_
      refine to_get rfl rfl rfl rfl ?_
      refine to_n 1 (fr' := (70, [(0, .ref 0), (1, .int (nI n2)), (2, .int x2)], [.int (nI n2), .ref 15], gh S a b sc ar lo, ex, 0, 0)) rfl ?_
      refine to_ialR (i := n2) (v := ((ar 15) n2)) rfl (by decide) rfl (by omega) (by omega) rfl ?_
      exact to_rt (i := .ireturn) (tg := []) rfl rfl (Or.inl ⟨_, _, _, ⟨hI, hF, trivial⟩, rfl⟩)
    · refine to_eq (fr' := (72, [(0, .ref 0), (1, .int (nI n2)), (2, .int x2)], [], gh S a b sc ar lo, ex, 0, 0)) rfl ?_
      refine to_n 1 (fr' := (73, [(0, .ref 0), (1, .int (nI n2)), (2, .int x2)], [.ref 0], gh S a b sc ar lo, ex, 0, 0)) rfl ?_
      refine to_get rfl rfl rfl rfl ?_
      refine to_get rfl rfl rfl rfl ?_
      refine to_n 1 (fr' := (80, [(0, .ref 0), (1, .int (nI n2)), (2, .int x2)], [.int (nI n2), .ref 16], gh S a b sc ar lo, ex, 0, 0)) rfl ?_
      obtain ⟨n3, hn3, e3⟩ := iv_a16 hI n2
      refine to_ialR (i := n2) (v := (nI n3)) rfl (by decide) rfl (by omega) (by omega) e3 ?_
      exact to_rt (i := .ireturn) (tg := []) rfl rfl (Or.inl ⟨_, _, _, ⟨hI, hF, trivial⟩, rfl⟩)
    · refine to_eq (fr' := (82, [(0, .ref 0), (1, .int (nI n2)), (2, .int x2)], [], gh S a b sc ar lo, ex, 0, 0)) rfl ?_
      refine to_n 1 (fr' := (83, [(0, .ref 0), (1, .int (nI n2)), (2, .int x2)], [.ref 0], gh S a b sc ar lo, ex, 0, 0)) rfl ?_
      refine to_get rfl rfl rfl rfl ?_
      refine to_get rfl rfl rfl rfl ?_
      refine to_n 1 (fr' := (90, [(0, .ref 0), (1, .int (nI n2)), (2, .int x2)], [.int (nI n2), .ref 17], gh S a b sc ar lo, ex, 0, 0)) rfl ?_
      rcases iv_a17 hI n2 with e4 | ⟨n4, hn4, e4⟩
      · refine to_ialR (i := n2) (v := (-1)) rfl (by decide) rfl (by omega) (by omega) e4 ?_
        exact to_rt (i := .ireturn) (tg := []) rfl rfl (Or.inl ⟨_, _, _, ⟨hI, hF, trivial⟩, rfl⟩)
      · refine to_ialR (i := n2) (v := (nI n4)) rfl (by decide) rfl (by omega) (by omega) e4 ?_
        exact to_rt (i := .ireturn) (tg := []) rfl rfl (Or.inl ⟨_, _, _, ⟨hI, hF, trivial⟩, rfl⟩)
    · refine to_eq (fr' := (92, [(0, .ref 0), (1, .int (nI n2)), (2, .int x2)], [], gh S a b sc ar lo, ex, 0, 0)) rfl ?_
      refine to_n 1 (fr' := (93, [(0, .ref 0), (1, .int (nI n2)), (2, .int x2)], [.ref 0], gh S a b sc ar lo, ex, 0, 0)) rfl ?_
      refine to_get rfl rfl rfl rfl ?_
      refine to_get rfl rfl rfl rfl ?_
      refine to_n 1 (fr' := (100, [(0, .ref 0), (1, .int (nI n2)), (2, .int x2)], [.int (nI n2), .ref 18], gh S a b sc ar lo, ex, 0, 0)) rfl ?_
      refine to_zalR (i := n2) (v := ((ar 18) n2)) rfl rfl (by omega) (by omega) rfl ?_
      refine to_if_eq (t := 108) rfl (fun q5 => ?_) (fun q5 => ?_)
      · refine to_n 1 (fr' := (109, [(0, .ref 0), (1, .int (nI n2)), (2, .int x2)], [.int 0], gh S a b sc ar lo, ex, 0, 0)) rfl ?_
        exact to_rt (i := .ireturn) (tg := []) rfl rfl (Or.inl ⟨_, _, _, ⟨hI, hF, trivial⟩, rfl⟩)
      · refine to_n 2 (fr' := (109, [(0, .ref 0), (1, .int (nI n2)), (2, .int x2)], [.int 1], gh S a b sc ar lo, ex, 0, 0)) rfl ?_
        exact to_rt (i := .ireturn) (tg := []) rfl rfl (Or.inl ⟨_, _, _, ⟨hI, hF, trivial⟩, rfl⟩)
    · refine to_eq (fr' := (110, [(0, .ref 0), (1, .int (nI n2)), (2, .int x2)], [], gh S a b sc ar lo, ex, 0, 0)) rfl ?_
      refine to_n 1 (fr' := (111, [(0, .ref 0), (1, .int (nI n2)), (2, .int x2)], [.ref 0], gh S a b sc ar lo, ex, 0, 0)) rfl ?_
      refine to_get rfl rfl rfl rfl ?_
      refine to_get rfl rfl rfl rfl ?_
      refine to_n 1 (fr' := (118, [(0, .ref 0), (1, .int (nI n2)), (2, .int x2)], [.int (nI n2), .ref 19], gh S a b sc ar lo, ex, 0, 0)) rfl ?_
      refine to_ialR (i := n2) (v := ((ar 19) n2)) rfl (by decide) rfl (by omega) (by omega) rfl ?_
      exact to_rt (i := .ireturn) (tg := []) rfl rfl (Or.inl ⟨_, _, _, ⟨hI, hF, trivial⟩, rfl⟩)
    · refine to_eq (fr' := (120, [(0, .ref 0), (1, .int (nI n2)), (2, .int x2)], [], gh S a b sc ar lo, ex, 0, 0)) rfl ?_
      refine to_n 1 (fr' := (121, [(0, .ref 0), (1, .int (nI n2)), (2, .int x2)], [.ref 0], gh S a b sc ar lo, ex, 0, 0)) rfl ?_
      refine to_get rfl rfl rfl rfl ?_
      refine to_get rfl rfl rfl rfl ?_
      refine to_n 1 (fr' := (128, [(0, .ref 0), (1, .int (nI n2)), (2, .int x2)], [.int (nI n2), .ref 20], gh S a b sc ar lo, ex, 0, 0)) rfl ?_
      refine to_ialR (i := n2) (v := ((ar 20) n2)) rfl (by decide) rfl (by omega) (by omega) rfl ?_
      exact to_rt (i := .ireturn) (tg := []) rfl rfl (Or.inl ⟨_, _, _, ⟨hI, hF, trivial⟩, rfl⟩)
    · refine to_eq (fr' := (130, [(0, .ref 0), (1, .int (nI n2)), (2, .int x2)], [], gh S a b sc ar lo, ex, 0, 0)) rfl ?_
      refine to_n 1 (fr' := (131, [(0, .ref 0), (1, .int (nI n2)), (2, .int x2)], [.ref 0], gh S a b sc ar lo, ex, 0, 0)) rfl ?_
      refine to_get rfl rfl rfl rfl ?_
      refine to_get rfl rfl rfl rfl ?_
      refine to_n 1 (fr' := (138, [(0, .ref 0), (1, .int (nI n2)), (2, .int x2)], [.int (nI n2), .ref 21], gh S a b sc ar lo, ex, 0, 0)) rfl ?_
      refine to_ialR (i := n2) (v := ((ar 21) n2)) rfl (by decide) rfl (by omega) (by omega) rfl ?_
      exact to_rt (i := .ireturn) (tg := []) rfl rfl (Or.inl ⟨_, _, _, ⟨hI, hF, trivial⟩, rfl⟩)
    · refine to_eq (fr' := (140, [(0, .ref 0), (1, .int (nI n2)), (2, .int x2)], [], gh S a b sc ar lo, ex, 0, 0)) rfl ?_
      exact to_th (i := .new 183) (tg := []) rfl rfl (Or.inr ⟨trivial, rfl⟩)
  · exact to_thr (q := 90) (M1 := an_X9_needCrew) (rest := []) rfl rfl (by decide) rfl ⟨_, rfl⟩ (needCrew_0 e1 w2 d) rfl trivial (Or.inr ⟨trivial, rfl⟩)
set_option maxRecDepth 20000 in
theorem sf_X9_breaks {X : Nat × (Nat → Int32)} {S a b : Nat} {sc : Nat → Int32} {ar : Nat → Nat → Int32} {lo : Nat → Int64} {ex : Bool} (hW : Wd S a b) (hI : Iv S sc ar) (x1 : Int32) (d : Nat)  : ce X S a b (d + 6) 86 [.ref 0, .int x1] sc ar lo ex "java/util/NoSuchElementException" (True) (fun x sc' ar' => Iv S sc' ar' ∧ Fr [3901, 3911, 3912] [40, 41, 42, 43, 44, 45, 46, 47] sc ar sc' ar' ∧ True) := by
  obtain ⟨ha1, ha8, hb1, hb8, hab, hS1, hS⟩ := id hW
  refine ce_of (M := an_X9_breaks) rfl (Nat.le_of_ble_eq_true rfl) ?_
  have hF : Fr [3901, 3911, 3912] [40, 41, 42, 43, 44, 45, 46, 47] sc ar sc ar := fr_0
  refine to_eq (fr' := (0, [(0, .ref 0), (1, .int x1)], [], gh S a b sc ar lo, ex, 0, 0)) rfl ?_
  refine to_n 2 (fr' := (2, [(0, .ref 0), (1, .int x1)], [.int x1, .ref 0], gh S a b sc ar lo, ex, 0, 0)) rfl ?_
  rcases has_or (x := x1) (B := S) (by omega) with ⟨n1, hn1, e1⟩ | w1
  · subst e1
    refine to_cu (q := 89) (M1 := an_X9_needCell) (rest := []) rfl rfl (by decide) rfl ⟨_, rfl⟩ (needCell_1 (n := n1)  (by omega) (d + 3)) ?_
    refine to_eq (fr' := (5, [(0, .ref 0), (1, .int (nI n1))], [], gh S a b sc ar lo, ex, 0, 0)) rfl ?_
    refine to_n 1 (fr' := (6, [(0, .ref 0), (1, .int (nI n1))], [.ref 0], gh S a b sc ar lo, ex, 0, 0)) rfl ?_
    refine to_get rfl rfl rfl rfl ?_
    refine to_get rfl rfl rfl rfl ?_
    refine to_n 1 (fr' := (13, [(0, .ref 0), (1, .int (nI n1))], [.int (nI n1), .ref 5], gh S a b sc ar lo, ex, 0, 0)) rfl ?_
    refine to_ialR (i := n1) (v := ((ar 5) n1)) rfl (by decide) rfl (by omega) (by omega) rfl ?_
    refine to_if_ne (t := 28) rfl (fun q2 => ?_) (fun q2 => ?_)
    · refine to_n 1 (fr' := (29, [(0, .ref 0), (1, .int (nI n1))], [.int (-1)], gh S a b sc ar lo, ex, 0, 0)) rfl ?_
      exact to_rt (i := .ireturn) (tg := []) rfl rfl (Or.inl ⟨_, _, _, ⟨hI, hF, trivial⟩, rfl⟩)
    · refine to_n 1 (fr' := (18, [(0, .ref 0), (1, .int (nI n1))], [.ref 0], gh S a b sc ar lo, ex, 0, 0)) rfl ?_
      refine to_get rfl rfl rfl rfl ?_
      refine to_n 1 (fr' := (22, [(0, .ref 0), (1, .int (nI n1))], [.int (nI n1), .ref 1], gh S a b sc ar lo, ex, 0, 0)) rfl ?_
      refine to_cp (q := 8) (M1 := an_X0_burningBeside) (rest := []) rfl rfl (by decide) rfl ⟨_, rfl⟩ (sf_X0_burningBeside hW hI n1 (by omega) (d + 2)) (fun x3 hx3 => ?_)
      obtain ⟨n3, hn3, rfl⟩ := hx3
      refine to_eq (fr' := (25, [(0, .ref 0), (1, .int (nI n1))], [.int (nI n3)], gh S a b sc ar lo, ex, 0, 0)) rfl ?_
      refine to_nf_eq (t := 30) (x := n3) rfl (by omega) (fun q4 => ?_) (fun q4 => ?_)
      · refine to_n 1 (fr' := (31, [(0, .ref 0), (1, .int (nI n1))], [.ref 0], gh S a b sc ar lo, ex, 0, 0)) rfl ?_
        refine to_get rfl rfl rfl rfl ?_
        refine to_n 1 (fr' := (35, [(0, .ref 0), (1, .int (nI n1))], [.int (nI n1), .ref 39], gh S a b sc ar lo, ex, 0, 0)) rfl ?_
        refine to_cv (q := 20) (M1 := an_X2_plan) (rest := []) rfl rfl (by decide) rfl ⟨_, rfl⟩ (sf_X2_plan hW hI (nI n1) d) (fun sc5 ar5 hx5 => ?_)
        obtain ⟨hI5, hG5⟩ := hx5
        have hF5 := fr_t hF hG5 (by decide) (by decide)
        refine to_eq (fr' := (38, [(0, .ref 0), (1, .int (nI n1))], [], gh S a b sc5 ar5 lo, ex, 0, 0)) rfl ?_
        refine to_n 1 (fr' := (39, [(0, .ref 0), (1, .int (nI n1))], [.ref 0], gh S a b sc5 ar5 lo, ex, 0, 0)) rfl ?_
        refine to_get rfl rfl rfl rfl ?_
        obtain ⟨n6, hn6, e6⟩ := iv_s3901 hI5
        refine to_getR (v := (nI n6)) rfl rfl rfl rfl e6 ?_
        exact to_rt (i := .ireturn) (tg := []) rfl rfl (Or.inl ⟨_, _, _, ⟨hI5, hF5, trivial⟩, rfl⟩)
      · refine to_n 1 (fr' := (29, [(0, .ref 0), (1, .int (nI n1))], [.int (-1)], gh S a b sc ar lo, ex, 0, 0)) rfl ?_
        exact to_rt (i := .ireturn) (tg := []) rfl rfl (Or.inl ⟨_, _, _, ⟨hI, hF, trivial⟩, rfl⟩)
  · exact to_thr (q := 89) (M1 := an_X9_needCell) (rest := []) rfl rfl (by decide) rfl ⟨_, rfl⟩ (needCell_0  w1 (d + 3)) rfl trivial (Or.inr ⟨trivial, rfl⟩)
set_option maxRecDepth 20000 in
theorem sf_X9_breaker {X : Nat × (Nat → Int32)} {S a b : Nat} {sc : Nat → Int32} {ar : Nat → Nat → Int32} {lo : Nat → Int64} {ex : Bool} (hW : Wd S a b) (hI : Iv S sc ar) (x1 : Int32) (d : Nat)  : ce X S a b (d + 1) 87 [.ref 0, .int x1] sc ar lo ex "java/util/NoSuchElementException" (True) (fun x sc' ar' => Iv S sc' ar' ∧ Fr [] [] sc ar sc' ar' ∧ True) := by
  obtain ⟨ha1, ha8, hb1, hb8, hab, hS1, hS⟩ := id hW
  refine ce_of (M := an_X9_breaker) rfl (Nat.le_of_ble_eq_true rfl) ?_
  have hF : Fr [] [] sc ar sc ar := fr_0
  refine to_eq (fr' := (0, [(0, .ref 0), (1, .int x1)], [], gh S a b sc ar lo, ex, 0, 0)) rfl ?_
  refine to_n 1 (fr' := (1, [(0, .ref 0), (1, .int x1)], [.int x1], gh S a b sc ar lo, ex, 0, 0)) rfl ?_
  refine to_if_lt (t := 15) rfl (fun q1 => ?_) (fun q1 => ?_)
  · exact to_th (i := .new 183) (tg := []) rfl rfl (Or.inr ⟨trivial, rfl⟩)
  · obtain ⟨n2, hn2, e2⟩ := nI_of q1
    rw [e2]
    refine to_eq (fr' := (4, [(0, .ref 0), (1, .int (nI n2))], [], gh S a b sc ar lo, ex, 0, 0)) rfl ?_
    refine to_n 2 (fr' := (6, [(0, .ref 0), (1, .int (nI n2))], [.ref 0, .int (nI n2)], gh S a b sc ar lo, ex, 0, 0)) rfl ?_
    refine to_get rfl rfl rfl rfl ?_
    obtain ⟨n3, hn3, e3⟩ := iv_s3901 hI
    refine to_getR (v := (nI n3)) rfl rfl rfl rfl e3 ?_
    refine to_nc_lt (t := 25) (x := n2) (y := n3) rfl (by omega) (by omega) (fun q4 => ?_) (fun q4 => ?_)
    · refine to_n 1 (fr' := (26, [(0, .ref 0), (1, .int (nI n2))], [.ref 0], gh S a b sc ar lo, ex, 0, 0)) rfl ?_
      refine to_get rfl rfl rfl rfl ?_
      refine to_get rfl rfl rfl rfl ?_
      refine to_n 1 (fr' := (33, [(0, .ref 0), (1, .int (nI n2))], [.int (nI n2), .ref 40], gh S a b sc ar lo, ex, 0, 0)) rfl ?_
      refine to_ialR (i := n2) (v := ((ar 40) n2)) rfl (by decide) rfl (by omega) (by omega) rfl ?_
      exact to_rt (i := .ireturn) (tg := []) rfl rfl (Or.inl ⟨_, _, _, ⟨hI, hF, trivial⟩, rfl⟩)
    · exact to_th (i := .new 183) (tg := []) rfl rfl (Or.inr ⟨trivial, rfl⟩)
set_option maxRecDepth 20000 in
theorem sf_X9_count {X : Nat × (Nat → Int32)} {S a b : Nat} {sc : Nat → Int32} {ar : Nat → Nat → Int32} {lo : Nat → Int64} {ex : Bool} (hW : Wd S a b) (hI : Iv S sc ar) (x1 : Int32) (d : Nat)  : ce X S a b (d + 2) 88 [.ref 0, .int x1] sc ar lo ex "java/util/NoSuchElementException" (True) (fun x sc' ar' => Iv S sc' ar' ∧ Fr [] [] sc ar sc' ar' ∧ True) := by
  obtain ⟨ha1, ha8, hb1, hb8, hab, hS1, hS⟩ := id hW
  refine ce_of (M := an_X9_count) rfl (Nat.le_of_ble_eq_true rfl) ?_
  have hF : Fr [] [] sc ar sc ar := fr_0
  refine to_eq (fr' := (0, [(0, .ref 0), (1, .int x1)], [], gh S a b sc ar lo, ex, 0, 0)) rfl ?_
  refine to_n 1 (fr' := (1, [(0, .ref 0), (1, .int x1)], [.int x1], gh S a b sc ar lo, ex, 0, 0)) rfl ?_
  refine to_tb (x := x1) rfl rfl (by decide) (fun t ht => ?_)
  obtain rfl | rfl | rfl | rfl | rfl | rfl | rfl | rfl | rfl | rfl | rfl : t = 56 ∨ t = 61 ∨ t = 70 ∨ t = 79 ∨ t = 88 ∨ t = 97 ∨ t = 105 ∨ t = 113 ∨ t = 121 ∨ t = 129 ∨ t = 144 := by simpa using to_mem (l := [56, 61, 70, 79, 88, 97, 105, 113, 121, 129, 144]) ht (by decide)
  · refine to_eq (fr' := (56, [(0, .ref 0), (1, .int x1)], [], gh S a b sc ar lo, ex, 0, 0)) rfl ?_
    refine to_n 1 (fr' := (57, [(0, .ref 0), (1, .int x1)], [.ref 0], gh S a b sc ar lo, ex, 0, 0)) rfl ?_
    obtain ⟨n1, hn1, e1⟩ := iv_s11 hI
    refine to_getR (v := (nI n1)) rfl rfl rfl rfl e1 ?_
    exact to_rt (i := .ireturn) (tg := []) rfl rfl (Or.inl ⟨_, _, _, ⟨hI, hF, trivial⟩, rfl⟩)
  · refine to_eq (fr' := (61, [(0, .ref 0), (1, .int x1)], [], gh S a b sc ar lo, ex, 0, 0)) rfl ?_
    refine to_n 1 (fr' := (62, [(0, .ref 0), (1, .int x1)], [.ref 0], gh S a b sc ar lo, ex, 0, 0)) rfl ?_
    refine to_get rfl rfl rfl rfl ?_
    refine to_n 1 (fr' := (66, [(0, .ref 0), (1, .int x1)], [.int 1, .ref 1], gh S a b sc ar lo, ex, 0, 0)) rfl ?_
    refine to_cp (q := 6) (M1 := an_X0_tally) (rest := []) rfl rfl (by decide) rfl ⟨_, rfl⟩ (sf_X0_tally hW hI 1 d) (fun x2 hx2 => ?_)
    refine to_eq (fr' := (69, [(0, .ref 0), (1, .int x1)], [.int x2], gh S a b sc ar lo, ex, 0, 0)) rfl ?_
    exact to_rt (i := .ireturn) (tg := []) rfl rfl (Or.inl ⟨_, _, _, ⟨hI, hF, trivial⟩, rfl⟩)
  · refine to_eq (fr' := (70, [(0, .ref 0), (1, .int x1)], [], gh S a b sc ar lo, ex, 0, 0)) rfl ?_
    refine to_n 1 (fr' := (71, [(0, .ref 0), (1, .int x1)], [.ref 0], gh S a b sc ar lo, ex, 0, 0)) rfl ?_
    refine to_get rfl rfl rfl rfl ?_
    refine to_n 1 (fr' := (75, [(0, .ref 0), (1, .int x1)], [.int 0, .ref 1], gh S a b sc ar lo, ex, 0, 0)) rfl ?_
    refine to_cp (q := 6) (M1 := an_X0_tally) (rest := []) rfl rfl (by decide) rfl ⟨_, rfl⟩ (sf_X0_tally hW hI 0 d) (fun x3 hx3 => ?_)
    refine to_eq (fr' := (78, [(0, .ref 0), (1, .int x1)], [.int x3], gh S a b sc ar lo, ex, 0, 0)) rfl ?_
    exact to_rt (i := .ireturn) (tg := []) rfl rfl (Or.inl ⟨_, _, _, ⟨hI, hF, trivial⟩, rfl⟩)
  · refine to_eq (fr' := (79, [(0, .ref 0), (1, .int x1)], [], gh S a b sc ar lo, ex, 0, 0)) rfl ?_
    refine to_n 1 (fr' := (80, [(0, .ref 0), (1, .int x1)], [.ref 0], gh S a b sc ar lo, ex, 0, 0)) rfl ?_
    refine to_get rfl rfl rfl rfl ?_
    refine to_n 1 (fr' := (84, [(0, .ref 0), (1, .int x1)], [.int 2, .ref 1], gh S a b sc ar lo, ex, 0, 0)) rfl ?_
    refine to_cp (q := 6) (M1 := an_X0_tally) (rest := []) rfl rfl (by decide) rfl ⟨_, rfl⟩ (sf_X0_tally hW hI 2 d) (fun x4 hx4 => ?_)
    refine to_eq (fr' := (87, [(0, .ref 0), (1, .int x1)], [.int x4], gh S a b sc ar lo, ex, 0, 0)) rfl ?_
    exact to_rt (i := .ireturn) (tg := []) rfl rfl (Or.inl ⟨_, _, _, ⟨hI, hF, trivial⟩, rfl⟩)
  · refine to_eq (fr' := (88, [(0, .ref 0), (1, .int x1)], [], gh S a b sc ar lo, ex, 0, 0)) rfl ?_
    refine to_n 1 (fr' := (89, [(0, .ref 0), (1, .int x1)], [.ref 0], gh S a b sc ar lo, ex, 0, 0)) rfl ?_
    refine to_get rfl rfl rfl rfl ?_
    refine to_n 1 (fr' := (93, [(0, .ref 0), (1, .int x1)], [.int 3, .ref 1], gh S a b sc ar lo, ex, 0, 0)) rfl ?_
    refine to_cp (q := 6) (M1 := an_X0_tally) (rest := []) rfl rfl (by decide) rfl ⟨_, rfl⟩ (sf_X0_tally hW hI 3 d) (fun x5 hx5 => ?_)
    refine to_eq (fr' := (96, [(0, .ref 0), (1, .int x1)], [.int x5], gh S a b sc ar lo, ex, 0, 0)) rfl ?_
    exact to_rt (i := .ireturn) (tg := []) rfl rfl (Or.inl ⟨_, _, _, ⟨hI, hF, trivial⟩, rfl⟩)
  · refine to_eq (fr' := (97, [(0, .ref 0), (1, .int x1)], [], gh S a b sc ar lo, ex, 0, 0)) rfl ?_
    refine to_n 1 (fr' := (98, [(0, .ref 0), (1, .int x1)], [.ref 0], gh S a b sc ar lo, ex, 0, 0)) rfl ?_
    refine to_get rfl rfl rfl rfl ?_
    obtain ⟨n6, hn6, e6⟩ := iv_s1308 hI
    refine to_getR (v := (nI n6)) rfl rfl rfl rfl e6 ?_
    exact to_rt (i := .ireturn) (tg := []) rfl rfl (Or.inl ⟨_, _, _, ⟨hI, hF, trivial⟩, rfl⟩)
  · refine to_eq (fr' := (105, [(0, .ref 0), (1, .int x1)], [], gh S a b sc ar lo, ex, 0, 0)) rfl ?_
    refine to_n 1 (fr' := (106, [(0, .ref 0), (1, .int x1)], [.ref 0], gh S a b sc ar lo, ex, 0, 0)) rfl ?_
    refine to_get rfl rfl rfl rfl ?_
    obtain ⟨n7, hn7, e7⟩ := iv_s2903 hI
    refine to_getR (v := (nI n7)) rfl rfl rfl rfl e7 ?_
    exact to_rt (i := .ireturn) (tg := []) rfl rfl (Or.inl ⟨_, _, _, ⟨hI, hF, trivial⟩, rfl⟩)
  · refine to_eq (fr' := (113, [(0, .ref 0), (1, .int x1)], [], gh S a b sc ar lo, ex, 0, 0)) rfl ?_
    refine to_n 1 (fr' := (114, [(0, .ref 0), (1, .int x1)], [.ref 0], gh S a b sc ar lo, ex, 0, 0)) rfl ?_
    refine to_get rfl rfl rfl rfl ?_
    refine to_cp (q := 18) (M1 := an_X1_allQuarrels) (rest := []) rfl rfl (by decide) rfl ⟨_, rfl⟩ (sf_X1_allQuarrels hW hI  d) (fun x8 hx8 => ?_)
    refine to_eq (fr' := (120, [(0, .ref 0), (1, .int x1)], [.int x8], gh S a b sc ar lo, ex, 0, 0)) rfl ?_
    exact to_rt (i := .ireturn) (tg := []) rfl rfl (Or.inl ⟨_, _, _, ⟨hI, hF, trivial⟩, rfl⟩)
  · refine to_eq (fr' := (121, [(0, .ref 0), (1, .int x1)], [], gh S a b sc ar lo, ex, 0, 0)) rfl ?_
    refine to_n 1 (fr' := (122, [(0, .ref 0), (1, .int x1)], [.ref 0], gh S a b sc ar lo, ex, 0, 0)) rfl ?_
    refine to_get rfl rfl rfl rfl ?_
    obtain ⟨n9, hn9, e9⟩ := iv_s2201 hI
    refine to_getR (v := (nI n9)) rfl rfl rfl rfl e9 ?_
    exact to_rt (i := .ireturn) (tg := []) rfl rfl (Or.inl ⟨_, _, _, ⟨hI, hF, trivial⟩, rfl⟩)
  · refine to_eq (fr' := (129, [(0, .ref 0), (1, .int x1)], [], gh S a b sc ar lo, ex, 0, 0)) rfl ?_
    refine to_n 1 (fr' := (130, [(0, .ref 0), (1, .int x1)], [.ref 0], gh S a b sc ar lo, ex, 0, 0)) rfl ?_
    refine to_get rfl rfl rfl rfl ?_
    refine to_n 1 (fr' := (134, [(0, .ref 0), (1, .int x1)], [.ref 0, .ref 29], gh S a b sc ar lo, ex, 0, 0)) rfl ?_
    obtain ⟨n10, hn10, e10⟩ := iv_s11 hI
    refine to_getR (v := (nI n10)) rfl rfl rfl rfl e10 ?_
    refine to_n 2 (fr' := (140, [(0, .ref 0), (1, .int x1)], [.int ((nI n10) / 24), .ref 29], gh S a b sc ar lo, ex, 0, 0)) rfl ?_
    refine to_cp (q := 39) (M1 := an_X4_inForce) (rest := []) rfl rfl (by decide) rfl ⟨_, rfl⟩ (sf_X4_inForce hW hI ((nI n10) / 24) d) (fun x11 hx11 => ?_)
    rcases hx11 with rfl | ⟨n11, hn11, rfl⟩
    · refine to_eq (fr' := (143, [(0, .ref 0), (1, .int x1)], [.int (-1)], gh S a b sc ar lo, ex, 0, 0)) rfl ?_
      exact to_rt (i := .ireturn) (tg := []) rfl rfl (Or.inl ⟨_, _, _, ⟨hI, hF, trivial⟩, rfl⟩)
    · refine to_eq (fr' := (143, [(0, .ref 0), (1, .int x1)], [.int (nI n11)], gh S a b sc ar lo, ex, 0, 0)) rfl ?_
      exact to_rt (i := .ireturn) (tg := []) rfl rfl (Or.inl ⟨_, _, _, ⟨hI, hF, trivial⟩, rfl⟩)
  · refine to_eq (fr' := (144, [(0, .ref 0), (1, .int x1)], [], gh S a b sc ar lo, ex, 0, 0)) rfl ?_
    exact to_th (i := .new 183) (tg := []) rfl rfl (Or.inr ⟨trivial, rfl⟩)
set_option maxRecDepth 20000 in
theorem sf_X9_wind {X : Nat × (Nat → Int32)} {S a b : Nat} {sc : Nat → Int32} {ar : Nat → Nat → Int32} {lo : Nat → Int64} {ex : Bool} (hW : Wd S a b) (hI : Iv S sc ar) (x1 : Int32) (d : Nat)  : ce X S a b (d + 1) 75 [.ref 0, .int x1] sc ar lo ex "java/lang/IllegalArgumentException" (¬ (0 ≤ x1 ∧ x1 ≤ 4)) (fun x sc' ar' => Iv S sc' ar' ∧ Fr [112] [] sc ar sc' ar' ∧ ((0 ≤ x1 ∧ x1 ≤ 4) ∧ x = sc 112 ∧ sc' 112 = x1)) := by
  obtain ⟨ha1, ha8, hb1, hb8, hab, hS1, hS⟩ := id hW
  refine ce_of (M := an_X9_wind) rfl (Nat.le_of_ble_eq_true rfl) ?_
  have hF : Fr [112] [] sc ar sc ar := fr_0
  refine to_eq (fr' := (0, [(0, .ref 0), (1, .int x1)], [], gh S a b sc ar lo, ex, 0, 0)) rfl ?_
  refine to_n 1 (fr' := (1, [(0, .ref 0), (1, .int x1)], [.int x1], gh S a b sc ar lo, ex, 0, 0)) rfl ?_
  refine to_if_lt (t := 9) rfl (fun q1 => ?_) (fun q1 => ?_)
  · exact to_th (i := .new 105) (tg := []) rfl rfl (Or.inr ⟨(fun w => Int32.not_lt.mpr w.1 q1), rfl⟩)
  · refine to_n 2 (fr' := (6, [(0, .ref 0), (1, .int x1)], [.int 4, .int x1], gh S a b sc ar lo, ex, 0, 0)) rfl ?_
    refine to_ic_le (t := 19) rfl (fun q2 => ?_) (fun q2 => ?_)
    · refine to_n 1 (fr' := (20, [(0, .ref 0), (1, .int x1)], [.ref 0], gh S a b sc ar lo, ex, 0, 0)) rfl ?_
      refine to_get rfl rfl rfl rfl ?_
      refine to_getR (v := (sc 112)) rfl rfl rfl rfl rfl ?_
      refine to_n 2 (fr' := (28, [(0, .ref 0), (1, .int x1), (2, .int (sc 112))], [.ref 0], gh S a b sc ar lo, ex, 0, 0)) rfl ?_
      refine to_get rfl rfl rfl rfl ?_
      refine to_n 1 (fr' := (32, [(0, .ref 0), (1, .int x1), (2, .int (sc 112))], [.int x1, .ref 1], gh S a b sc ar lo, ex, 0, 0)) rfl ?_
      refine to_putR (h' := gh S a b (upd sc 112 x1) ar lo) rfl rfl rfl (Nat.le_of_ble_eq_true rfl) rfl rfl ?_
      have hI3 := ip_112 (v := x1) hI 
      have hF3 := fr_s (k := 112) (v := x1) hF (by decide)
      refine to_n 1 (fr' := (36, [(0, .ref 0), (1, .int x1), (2, .int (sc 112))], [.int (sc 112)], gh S a b (upd sc 112 x1) ar lo, ex, 0, 0)) rfl ?_
      exact to_rt (i := .ireturn) (tg := []) rfl rfl (Or.inl ⟨_, _, _, ⟨hI3, hF3, ⟨⟨Int32.not_lt.mp q1, q2⟩, rfl, by simp [upd]⟩⟩, rfl⟩)
    · exact to_th (i := .new 105) (tg := []) rfl rfl (Or.inr ⟨(fun w => q2 w.2), rfl⟩)
