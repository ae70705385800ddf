/-! FireWards: an hour -/
set_option maxRecDepth 20000 in
theorem sf_X9_isWard {X : Nat × (Nat → Int32)} {S a b : Nat} {sc : Nat → Int32} {ar : Nat → Nat → Int32} {lo : Nat → Int64} {ex : Bool} (hW : Wd S a b) (hI : Iv S sc ar) (x1 : Int32) (d : Nat)  : cp X S a b (d + 1) 91 [.int x1] sc ar lo ex (fun x => rl x 2 ∧ ((x = 1 ∧ (0 ≤ x1 ∧ x1 ≤ 7)) ∨ (x = 0 ∧ ¬ (0 ≤ x1 ∧ x1 ≤ 7)))) := by
  obtain ⟨ha1, ha8, hb1, hb8, hab, hS1, hS⟩ := id hW
  refine cp_of (M := an_X9_isWard) rfl (Nat.le_of_ble_eq_true rfl) ?_
  refine to_eq (fr' := (0, [(0, .int x1)], [], gh S a b sc ar lo, ex, 0, 0)) rfl ?_
  refine to_n 1 (fr' := (1, [(0, .int x1)], [.int x1], gh S a b sc ar lo, ex, 0, 0)) rfl ?_
  refine to_if_lt (t := 14) rfl (fun q1 => ?_) (fun q1 => ?_)
  · refine to_n 1 (fr' := (15, [(0, .int x1)], [.int 0], gh S a b sc ar lo, ex, 0, 0)) rfl ?_
    exact to_rt (i := .ireturn) (tg := []) rfl rfl ⟨_, ⟨rl_n (n := 0) (by omega), (Or.inr ⟨rfl, fun w => Int32.not_lt.mpr w.1 q1⟩)⟩, rfl⟩
  · refine to_n 2 (fr' := (7, [(0, .int x1)], [.int 7, .int x1], gh S a b sc ar lo, ex, 0, 0)) rfl ?_
    refine to_ic_gt (t := 14) rfl (fun q2 => ?_) (fun q2 => ?_)
    · refine to_n 1 (fr' := (15, [(0, .int x1)], [.int 0], gh S a b sc ar lo, ex, 0, 0)) rfl ?_
      exact to_rt (i := .ireturn) (tg := []) rfl rfl ⟨_, ⟨rl_n (n := 0) (by omega), (Or.inr ⟨rfl, fun w => Int32.not_lt.mpr w.2 q2⟩)⟩, rfl⟩
    · refine to_n 2 (fr' := (15, [(0, .int x1)], [.int 1], gh S a b sc ar lo, ex, 0, 0)) rfl ?_
      exact to_rt (i := .ireturn) (tg := []) rfl rfl ⟨_, ⟨rl_n (n := 1) (by omega), (Or.inl ⟨rfl, Int32.not_lt.mp q1, Int32.not_lt.mp q2⟩)⟩, rfl⟩
set_option maxRecDepth 20000 in
theorem sf_X9_inform {X : Nat × (Nat → Int32)} {S a b : Nat} {sc : Nat → Int32} {ar : Nat → Nat → Int32} {lo : Nat → Int64} {ex : Bool} (hW : Wd S a b) (hI : Iv S sc ar) (k1 : Nat) (hk1 : k1 < 8) (k2 : Nat) (hk2 : k2 < S) (x1 : Int32) (d : Nat)  : cv X S a b (d + 2) 106 [.ref 0, .int (nI k1), .int (nI k2), .int x1] sc ar lo ex (fun sc' ar' => Iv S sc' ar' ∧ Fr [] [34] sc ar sc' ar') := by
  obtain ⟨ha1, ha8, hb1, hb8, hab, hS1, hS⟩ := id hW
  refine cv_of (M := an_X9_inform) rfl (Nat.le_of_ble_eq_true rfl) ?_
  have hF : Fr [] [34] sc ar sc ar := fr_0
  refine to_eq (fr' := (0, [(0, .ref 0), (1, .int (nI k1)), (2, .int (nI k2)), (3, .int x1)], [], gh S a b sc ar lo, ex, 0, 0)) rfl ?_
  refine to_n 1 (fr' := (1, [(0, .ref 0), (1, .int (nI k1)), (2, .int (nI k2)), (3, .int x1)], [.ref 0], gh S a b sc ar lo, ex, 0, 0)) rfl ?_
  refine to_get rfl rfl rfl rfl ?_
  refine to_n 2 (fr' := (7, [(0, .ref 0), (1, .int (nI k1)), (2, .int (nI k2)), (3, .int x1)], [.ref 0, .int (-20), .ref 33], gh S a b sc ar lo, ex, 0, 0)) rfl ?_
  refine to_get rfl rfl rfl rfl ?_
  refine to_get rfl rfl rfl rfl ?_
  refine to_n 1 (fr' := (14, [(0, .ref 0), (1, .int (nI k1)), (2, .int (nI k2)), (3, .int x1)], [.int (nI k2), .ref 7, .int (-20), .ref 33], gh S a b sc ar lo, ex, 0, 0)) rfl ?_
  refine to_ialR (i := k2) (v := ((ar 7) k2)) rfl (by decide) rfl (by omega) (by omega) rfl ?_
  refine to_cv (q := 30) (M1 := an_X3_learn) (rest := []) rfl rfl (by decide) rfl ⟨_, rfl⟩ (sf_X3_learn hW hI (-20) ((ar 7) k2) d) (fun sc1 ar1 hx1 => ?_)
  obtain ⟨hI1, hG1⟩ := hx1
  have hF1 := fr_t hF hG1 (by decide) (by decide)
  refine to_eq (fr' := (18, [(0, .ref 0), (1, .int (nI k1)), (2, .int (nI k2)), (3, .int x1)], [], gh S a b sc1 ar1 lo, ex, 0, 0)) rfl ?_
  refine to_n 1 (fr' := (19, [(0, .ref 0), (1, .int (nI k1)), (2, .int (nI k2)), (3, .int x1)], [.ref 0], gh S a b sc1 ar1 lo, ex, 0, 0)) rfl ?_
  refine to_get rfl rfl rfl rfl ?_
  refine to_n 2 (fr' := (25, [(0, .ref 0), (1, .int (nI k1)), (2, .int (nI k2)), (3, .int x1)], [.ref 0, .int (-21), .ref 33], gh S a b sc1 ar1 lo, ex, 0, 0)) rfl ?_
  refine to_get rfl rfl rfl rfl ?_
  refine to_get rfl rfl rfl rfl ?_
  refine to_n 1 (fr' := (32, [(0, .ref 0), (1, .int (nI k1)), (2, .int (nI k2)), (3, .int x1)], [.int (nI k2), .ref 6, .int (-21), .ref 33], gh S a b sc1 ar1 lo, ex, 0, 0)) rfl ?_
  refine to_ialR (i := k2) (v := ((ar1 6) k2)) rfl (by decide) rfl (by omega) (by omega) rfl ?_
  refine to_cv (q := 30) (M1 := an_X3_learn) (rest := []) rfl rfl (by decide) rfl ⟨_, rfl⟩ (sf_X3_learn hW hI1 (-21) ((ar1 6) k2) d) (fun sc2 ar2 hx2 => ?_)
  obtain ⟨hI2, hG2⟩ := hx2
  have hF2 := fr_t hF1 hG2 (by decide) (by decide)
  refine to_eq (fr' := (36, [(0, .ref 0), (1, .int (nI k1)), (2, .int (nI k2)), (3, .int x1)], [], gh S a b sc2 ar2 lo, ex, 0, 0)) rfl ?_
  refine to_n 1 (fr' := (37, [(0, .ref 0), (1, .int (nI k1)), (2, .int (nI k2)), (3, .int x1)], [.ref 0], gh S a b sc2 ar2 lo, ex, 0, 0)) rfl ?_
  refine to_get rfl rfl rfl rfl ?_
  refine to_n 2 (fr' := (43, [(0, .ref 0), (1, .int (nI k1)), (2, .int (nI k2)), (3, .int x1)], [.ref 0, .int (-22), .ref 33], gh S a b sc2 ar2 lo, ex, 0, 0)) rfl ?_
  refine to_get rfl rfl rfl rfl ?_
  refine to_get rfl rfl rfl rfl ?_
  refine to_n 1 (fr' := (50, [(0, .ref 0), (1, .int (nI k1)), (2, .int (nI k2)), (3, .int x1)], [.int (nI k2), .ref 8, .int (-22), .ref 33], gh S a b sc2 ar2 lo, ex, 0, 0)) rfl ?_
  refine to_ialR (i := k2) (v := ((ar2 8) k2)) rfl (by decide) rfl (by omega) (by omega) rfl ?_
  refine to_cv (q := 30) (M1 := an_X3_learn) (rest := []) rfl rfl (by decide) rfl ⟨_, rfl⟩ (sf_X3_learn hW hI2 (-22) ((ar2 8) k2) d) (fun sc3 ar3 hx3 => ?_)
  obtain ⟨hI3, hG3⟩ := hx3
  have hF3 := fr_t hF2 hG3 (by decide) (by decide)
  refine to_eq (fr' := (54, [(0, .ref 0), (1, .int (nI k1)), (2, .int (nI k2)), (3, .int x1)], [], gh S a b sc3 ar3 lo, ex, 0, 0)) rfl ?_
  refine to_n 1 (fr' := (55, [(0, .ref 0), (1, .int (nI k1)), (2, .int (nI k2)), (3, .int x1)], [.ref 0], gh S a b sc3 ar3 lo, ex, 0, 0)) rfl ?_
  refine to_get rfl rfl rfl rfl ?_
  refine to_n 2 (fr' := (61, [(0, .ref 0), (1, .int (nI k1)), (2, .int (nI k2)), (3, .int x1)], [.ref 0, .int (-23), .ref 33], gh S a b sc3 ar3 lo, ex, 0, 0)) rfl ?_
  refine to_get rfl rfl rfl rfl ?_
  refine to_get rfl rfl rfl rfl ?_
  refine to_n 1 (fr' := (68, [(0, .ref 0), (1, .int (nI k1)), (2, .int (nI k2)), (3, .int x1)], [.int (nI k1), .ref 14, .int (-23), .ref 33], gh S a b sc3 ar3 lo, ex, 0, 0)) rfl ?_
  refine to_ialR (i := k1) (v := ((ar3 14) k1)) rfl (by decide) rfl (by omega) (by omega) rfl ?_
  refine to_cv (q := 30) (M1 := an_X3_learn) (rest := []) rfl rfl (by decide) rfl ⟨_, rfl⟩ (sf_X3_learn hW hI3 (-23) ((ar3 14) k1) d) (fun sc4 ar4 hx4 => ?_)
  obtain ⟨hI4, hG4⟩ := hx4
  have hF4 := fr_t hF3 hG4 (by decide) (by decide)
  refine to_eq (fr' := (72, [(0, .ref 0), (1, .int (nI k1)), (2, .int (nI k2)), (3, .int x1)], [], gh S a b sc4 ar4 lo, ex, 0, 0)) rfl ?_
  refine to_n 1 (fr' := (73, [(0, .ref 0), (1, .int (nI k1)), (2, .int (nI k2)), (3, .int x1)], [.ref 0], gh S a b sc4 ar4 lo, ex, 0, 0)) rfl ?_
  refine to_get rfl rfl rfl rfl ?_
  refine to_n 2 (fr' := (79, [(0, .ref 0), (1, .int (nI k1)), (2, .int (nI k2)), (3, .int x1)], [.ref 0, .int (-24), .ref 33], gh S a b sc4 ar4 lo, ex, 0, 0)) rfl ?_
  refine to_get rfl rfl rfl rfl ?_
  refine to_get rfl rfl rfl rfl ?_
  refine to_n 1 (fr' := (86, [(0, .ref 0), (1, .int (nI k1)), (2, .int (nI k2)), (3, .int x1)], [.int (nI k1), .ref 15, .int (-24), .ref 33], gh S a b sc4 ar4 lo, ex, 0, 0)) rfl ?_
  refine to_ialR (i := k1) (v := ((ar4 15) k1)) rfl (by decide) rfl (by omega) (by omega) rfl ?_
  refine to_cv (q := 30) (M1 := an_X3_learn) (rest := []) rfl rfl (by decide) rfl ⟨_, rfl⟩ (sf_X3_learn hW hI4 (-24) ((ar4 15) k1) d) (fun sc5 ar5 hx5 => ?_)
  obtain ⟨hI5, hG5⟩ := hx5
  have hF5 := fr_t hF4 hG5 (by decide) (by decide)
  refine to_eq (fr' := (90, [(0, .ref 0), (1, .int (nI k1)), (2, .int (nI k2)), (3, .int x1)], [], gh S a b sc5 ar5 lo, ex, 0, 0)) rfl ?_
  refine to_n 1 (fr' := (91, [(0, .ref 0), (1, .int (nI k1)), (2, .int (nI k2)), (3, .int x1)], [.ref 0], gh S a b sc5 ar5 lo, ex, 0, 0)) rfl ?_
  refine to_get rfl rfl rfl rfl ?_
  refine to_n 2 (fr' := (97, [(0, .ref 0), (1, .int (nI k1)), (2, .int (nI k2)), (3, .int x1)], [.ref 0, .int (-25), .ref 33], gh S a b sc5 ar5 lo, ex, 0, 0)) rfl ?_
  refine to_get rfl rfl rfl rfl ?_
  refine to_n 1 (fr' := (101, [(0, .ref 0), (1, .int (nI k1)), (2, .int (nI k2)), (3, .int x1)], [.ref 0, .ref 1, .int (-25), .ref 33], gh S a b sc5 ar5 lo, ex, 0, 0)) rfl ?_
  refine to_get rfl rfl rfl rfl ?_
  refine to_get rfl rfl rfl rfl ?_
  refine to_n 1 (fr' := (108, [(0, .ref 0), (1, .int (nI k1)), (2, .int (nI k2)), (3, .int x1)], [.int (nI k1), .ref 16, .ref 1, .int (-25), .ref 33], gh S a b sc5 ar5 lo, ex, 0, 0)) rfl ?_
  obtain ⟨n6, hn6, e6⟩ := iv_a16 hI5 k1
  refine to_ialR (i := k1) (v := (nI n6)) rfl (by decide) rfl (by omega) (by omega) e6 ?_
  refine to_n 1 (fr' := (110, [(0, .ref 0), (1, .int (nI k1)), (2, .int (nI k2)), (3, .int x1)], [.int (nI k2), .int (nI n6), .ref 1, .int (-25), .ref 33], gh S a b sc5 ar5 lo, ex, 0, 0)) rfl ?_
  refine to_cp (q := 3) (M1 := an_X0_far) (rest := [.int (-25), .ref 33]) rfl rfl (by decide) rfl ⟨_, rfl⟩ (sf_X0_far hW hI5 n6 (by omega) k2 (by omega) d) (fun x7 hx7 => ?_)
  refine to_eq (fr' := (113, [(0, .ref 0), (1, .int (nI k1)), (2, .int (nI k2)), (3, .int x1)], [.int x7, .int (-25), .ref 33], gh S a b sc5 ar5 lo, ex, 0, 0)) rfl ?_
  refine to_cv (q := 30) (M1 := an_X3_learn) (rest := []) rfl rfl (by decide) rfl ⟨_, rfl⟩ (sf_X3_learn hW hI5 (-25) x7 d) (fun sc8 ar8 hx8 => ?_)
  obtain ⟨hI8, hG8⟩ := hx8
  have hF8 := fr_t hF5 hG8 (by decide) (by decide)
  refine to_eq (fr' := (116, [(0, .ref 0), (1, .int (nI k1)), (2, .int (nI k2)), (3, .int x1)], [], gh S a b sc8 ar8 lo, ex, 0, 0)) rfl ?_
  refine to_n 1 (fr' := (117, [(0, .ref 0), (1, .int (nI k1)), (2, .int (nI k2)), (3, .int x1)], [.ref 0], gh S a b sc8 ar8 lo, ex, 0, 0)) rfl ?_
  refine to_get rfl rfl rfl rfl ?_
  refine to_n 2 (fr' := (123, [(0, .ref 0), (1, .int (nI k1)), (2, .int (nI k2)), (3, .int x1)], [.ref 0, .int (-26), .ref 33], gh S a b sc8 ar8 lo, ex, 0, 0)) rfl ?_
  obtain ⟨n9, hn9, e9⟩ := iv_s11 hI8
  refine to_getR (v := (nI n9)) rfl rfl rfl rfl e9 ?_
  refine to_n 2 (fr' := (129, [(0, .ref 0), (1, .int (nI k1)), (2, .int (nI k2)), (3, .int x1)], [.int ((nI n9) - (nI n9) / 24 * 24), .int (-26), .ref 33], gh S a b sc8 ar8 lo, ex, 0, 0)) rfl ?_
  refine to_cv (q := 30) (M1 := an_X3_learn) (rest := []) rfl rfl (by decide) rfl ⟨_, rfl⟩ (sf_X3_learn hW hI8 (-26) ((nI n9) - (nI n9) / 24 * 24) d) (fun sc10 ar10 hx10 => ?_)
  obtain ⟨hI10, hG10⟩ := hx10
  have hF10 := fr_t hF8 hG10 (by decide) (by decide)
  refine to_eq (fr' := (132, [(0, .ref 0), (1, .int (nI k1)), (2, .int (nI k2)), (3, .int x1)], [], gh S a b sc10 ar10 lo, ex, 0, 0)) rfl ?_
  refine to_n 1 (fr' := (133, [(0, .ref 0), (1, .int (nI k1)), (2, .int (nI k2)), (3, .int x1)], [.ref 0], gh S a b sc10 ar10 lo, ex, 0, 0)) rfl ?_
  refine to_get rfl rfl rfl rfl ?_
  refine to_n 2 (fr' := (139, [(0, .ref 0), (1, .int (nI k1)), (2, .int (nI k2)), (3, .int x1)], [.int x1, .int (-27), .ref 33], gh S a b sc10 ar10 lo, ex, 0, 0)) rfl ?_
  refine to_cv (q := 30) (M1 := an_X3_learn) (rest := []) rfl rfl (by decide) rfl ⟨_, rfl⟩ (sf_X3_learn hW hI10 (-27) x1 d) (fun sc11 ar11 hx11 => ?_)
  obtain ⟨hI11, hG11⟩ := hx11
  have hF11 := fr_t hF10 hG11 (by decide) (by decide)
  refine to_eq (fr' := (142, [(0, .ref 0), (1, .int (nI k1)), (2, .int (nI k2)), (3, .int x1)], [], gh S a b sc11 ar11 lo, ex, 0, 0)) rfl ?_
  exact to_rt (i := .return_) (tg := []) rfl rfl ⟨_, _, ⟨hI11, hF11⟩, rfl⟩
set_option maxRecDepth 20000 in
theorem sf_X9_payFor {X : Nat × (Nat → Int32)} {S a b : Nat} {sc : Nat → Int32} {ar : Nat → Nat → Int32} {lo : Nat → Int64} {ex : Bool} (hW : Wd S a b) (hI : Iv S sc ar) (k1 : Nat) (hk1 : k1 < 8) (k2 : Nat) (hk2 : k2 < S) (d : Nat)  : ci X S a b (d + 4) 105 [.ref 0, .int (nI k1), .int (nI k2)] sc ar lo ex (fun x sc' ar' => Iv S sc' ar' ∧ Fr [3300, 3301, 3304] [34, 35] sc ar sc' ar' ∧ True) := by
  obtain ⟨ha1, ha8, hb1, hb8, hab, hS1, hS⟩ := id hW
  refine ci_of (M := an_X9_payFor) rfl (Nat.le_of_ble_eq_true rfl) ?_
  have hF : Fr [3300, 3301, 3304] [34, 35] sc ar sc ar := fr_0
  refine to_eq (fr' := (0, [(0, .ref 0), (1, .int (nI k1)), (2, .int (nI k2))], [], gh S a b sc ar lo, ex, 0, 0)) rfl ?_
  refine to_n 1 (fr' := (1, [(0, .ref 0), (1, .int (nI k1)), (2, .int (nI k2))], [.ref 0], gh S a b sc ar lo, ex, 0, 0)) rfl ?_
  refine to_get rfl rfl rfl rfl ?_
  refine to_n 1 (fr' := (5, [(0, .ref 0), (1, .int (nI k1)), (2, .int (nI k2))], [.ref 0, .ref 29], gh S a b sc ar lo, ex, 0, 0)) rfl ?_
  obtain ⟨n1, hn1, e1⟩ := iv_s11 hI
  refine to_getR (v := (nI n1)) rfl rfl rfl rfl e1 ?_
  refine to_n 2 (fr' := (11, [(0, .ref 0), (1, .int (nI k1)), (2, .int (nI k2))], [.int ((nI n1) / 24), .ref 29], gh S a b sc ar lo, ex, 0, 0)) rfl ?_
  refine to_cp (q := 39) (M1 := an_X4_inForce) (rest := []) rfl rfl (by decide) rfl ⟨_, rfl⟩ (sf_X4_inForce hW hI ((nI n1) / 24) (d + 2)) (fun x2 hx2 => ?_)
  rcases hx2 with rfl | ⟨n2, hn2, rfl⟩
  · refine to_eq (fr' := (14, [(0, .ref 0), (1, .int (nI k1)), (2, .int (nI k2))], [.int (-1)], gh S a b sc ar lo, ex, 0, 0)) rfl ?_
    refine to_n 5 (fr' := (21, [(0, .ref 0), (1, .int (nI k1)), (2, .int (nI k2)), (3, .int (-1))], [.int 1], gh S a b sc ar lo, ex, 0, 0)) rfl ?_
    exact to_rt (i := .ireturn) (tg := []) rfl rfl ⟨_, _, _, ⟨hI, hF, trivial⟩, rfl⟩
  · refine to_eq (fr' := (14, [(0, .ref 0), (1, .int (nI k1)), (2, .int (nI k2))], [.int (nI n2)], gh S a b sc ar lo, ex, 0, 0)) rfl ?_
    refine to_n 3 (fr' := (17, [(0, .ref 0), (1, .int (nI k1)), (2, .int (nI k2)), (3, .int (nI n2))], [.int (-1), .int (nI n2)], gh S a b sc ar lo, ex, 0, 0)) rfl ?_
    refine to_ic_ne_T (t := 22) (x := (nI n2)) (y := (-1)) rfl (nI_neg (by omega) (by decide)) ?_
    refine to_n 4 (fr' := (26, [(0, .ref 0), (1, .int (nI k1)), (2, .int (nI k2)), (3, .int (nI n2))], [.ref 0, .int (nI k2), .int (nI k1), .ref 0], gh S a b sc ar lo, ex, 0, 0)) rfl ?_
    refine to_get rfl rfl rfl rfl ?_
    refine to_n 1 (fr' := (30, [(0, .ref 0), (1, .int (nI k1)), (2, .int (nI k2)), (3, .int (nI n2))], [.int 1, .ref 1, .int (nI k2), .int (nI k1), .ref 0], gh S a b sc ar lo, ex, 0, 0)) rfl ?_
    refine to_cp (q := 6) (M1 := an_X0_tally) (rest := [.int (nI k2), .int (nI k1), .ref 0]) rfl rfl (by decide) rfl ⟨_, rfl⟩ (sf_X0_tally hW hI 1 (d + 2)) (fun x3 hx3 => ?_)
    refine to_eq (fr' := (33, [(0, .ref 0), (1, .int (nI k1)), (2, .int (nI k2)), (3, .int (nI n2))], [.int x3, .int (nI k2), .int (nI k1), .ref 0], gh S a b sc ar lo, ex, 0, 0)) rfl ?_
    refine to_cv (q := 106) (M1 := an_X9_inform) (rest := []) rfl rfl (by decide) rfl ⟨_, rfl⟩ (sf_X9_inform hW hI k1 (by omega) k2 (by omega) x3 (d + 1)) (fun sc4 ar4 hx4 => ?_)
    obtain ⟨hI4, hG4⟩ := hx4
    have hF4 := fr_t hF hG4 (by decide) (by decide)
    refine to_eq (fr' := (36, [(0, .ref 0), (1, .int (nI k1)), (2, .int (nI k2)), (3, .int (nI n2))], [], gh S a b sc4 ar4 lo, ex, 0, 0)) rfl ?_
    refine to_n 1 (fr' := (37, [(0, .ref 0), (1, .int (nI k1)), (2, .int (nI k2)), (3, .int (nI n2))], [.ref 0], gh S a b sc4 ar4 lo, ex, 0, 0)) rfl ?_
    refine to_get rfl rfl rfl rfl ?_
    refine to_n 1 (fr' := (41, [(0, .ref 0), (1, .int (nI k1)), (2, .int (nI k2)), (3, .int (nI n2))], [.ref 0, .ref 33], gh S a b sc4 ar4 lo, ex, 0, 0)) rfl ?_
    refine to_get rfl rfl rfl rfl ?_
    refine to_n 1 (fr' := (45, [(0, .ref 0), (1, .int (nI k1)), (2, .int (nI k2)), (3, .int (nI n2))], [.int (nI n2), .ref 29, .ref 33], gh S a b sc4 ar4 lo, ex, 0, 0)) rfl ?_
    refine to_cv (q := 31) (M1 := an_X3_apply) (rest := []) rfl rfl (by decide) rfl ⟨_, rfl⟩ (sf_X3_apply hW hI4 (nI n2) d) (fun sc5 ar5 hx5 => ?_)
    obtain ⟨hI5, hG5⟩ := hx5
    have hF5 := fr_t hF4 hG5 (by decide) (by decide)
    refine to_eq (fr' := (48, [(0, .ref 0), (1, .int (nI k1)), (2, .int (nI k2)), (3, .int (nI n2))], [], gh S a b sc5 ar5 lo, ex, 0, 0)) rfl ?_
    refine to_n 1 (fr' := (49, [(0, .ref 0), (1, .int (nI k1)), (2, .int (nI k2)), (3, .int (nI n2))], [.ref 0], gh S a b sc5 ar5 lo, ex, 0, 0)) rfl ?_
    refine to_get rfl rfl rfl rfl ?_
    refine to_getR (v := (sc5 3301)) rfl rfl rfl rfl rfl ?_
    exact to_rt (i := .ireturn) (tg := []) rfl rfl ⟨_, _, _, ⟨hI5, hF5, trivial⟩, rfl⟩
set_option maxRecDepth 20000 in
theorem sf_X9_isCalled {X : Nat × (Nat → Int32)} {S a b : Nat} {sc : Nat → Int32} {ar : Nat → Nat → Int32} {lo : Nat → Int64} {ex : Bool} (hW : Wd S a b) (hI : Iv S sc ar) (k1 : Nat) (hk1 : k1 < 8) (k2 : Nat) (hk2 : k2 < S) (x1 : Int32) (x2 : Int32) (d : Nat)  : ci X S a b (d + 4) 104 [.ref 0, .int (nI k1), .int (nI k2), .int x1, .int x2] sc ar lo ex (fun x sc' ar' => Iv S sc' ar' ∧ Fr [3300, 3301, 3304] [34, 35] sc ar sc' ar' ∧ rl x 2) := by
  obtain ⟨ha1, ha8, hb1, hb8, hab, hS1, hS⟩ := id hW
  refine ci_of (M := an_X9_isCalled) rfl (Nat.le_of_ble_eq_true rfl) ?_
  have hF : Fr [3300, 3301, 3304] [34, 35] sc ar sc ar := fr_0
  refine to_eq (fr' := (0, [(0, .ref 0), (1, .int (nI k1)), (2, .int (nI k2)), (3, .int x1), (4, .int x2)], [], gh S a b sc ar lo, ex, 0, 0)) rfl ?_
  refine to_n 2 (fr' := (2, [(0, .ref 0), (1, .int (nI k1)), (2, .int (nI k2)), (3, .int x1), (4, .int x2)], [.int (-1), .int x1], gh S a b sc ar lo, ex, 0, 0)) rfl ?_
  refine to_ic_ne (t := 32) rfl (fun q1 => ?_) (fun q1 => ?_)
  · refine to_n 4 (fr' := (37, [(0, .ref 0), (1, .int (nI k1)), (2, .int (nI k2)), (3, .int x1), (4, .int x2)], [.int x2, .int (nI k2), .int (nI k1), .ref 0], gh S a b sc ar lo, ex, 0, 0)) rfl ?_
    refine to_cv (q := 106) (M1 := an_X9_inform) (rest := []) rfl rfl (by decide) rfl ⟨_, rfl⟩ (sf_X9_inform hW hI k1 (by omega) k2 (by omega) x2 (d + 1)) (fun sc2 ar2 hx2 => ?_)
    obtain ⟨hI2, hG2⟩ := hx2
    have hF2 := fr_t hF hG2 (by decide) (by decide)
    refine to_eq (fr' := (40, [(0, .ref 0), (1, .int (nI k1)), (2, .int (nI k2)), (3, .int x1), (4, .int x2)], [], gh S a b sc2 ar2 lo, ex, 0, 0)) rfl ?_
    refine to_n 1 (fr' := (41, [(0, .ref 0), (1, .int (nI k1)), (2, .int (nI k2)), (3, .int x1), (4, .int x2)], [.ref 0], gh S a b sc2 ar2 lo, ex, 0, 0)) rfl ?_
    refine to_get rfl rfl rfl rfl ?_
    refine to_n 1 (fr' := (45, [(0, .ref 0), (1, .int (nI k1)), (2, .int (nI k2)), (3, .int x1), (4, .int x2)], [.ref 0, .ref 33], gh S a b sc2 ar2 lo, ex, 0, 0)) rfl ?_
    refine to_get rfl rfl rfl rfl ?_
    refine to_n 1 (fr' := (49, [(0, .ref 0), (1, .int (nI k1)), (2, .int (nI k2)), (3, .int x1), (4, .int x2)], [.int x1, .ref 29, .ref 33], gh S a b sc2 ar2 lo, ex, 0, 0)) rfl ?_
    refine to_cv (q := 31) (M1 := an_X3_apply) (rest := []) rfl rfl (by decide) rfl ⟨_, rfl⟩ (sf_X3_apply hW hI2 x1 d) (fun sc3 ar3 hx3 => ?_)
    obtain ⟨hI3, hG3⟩ := hx3
    have hF3 := fr_t hF2 hG3 (by decide) (by decide)
    refine to_eq (fr' := (52, [(0, .ref 0), (1, .int (nI k1)), (2, .int (nI k2)), (3, .int x1), (4, .int x2)], [], gh S a b sc3 ar3 lo, ex, 0, 0)) rfl ?_
    refine to_n 1 (fr' := (53, [(0, .ref 0), (1, .int (nI k1)), (2, .int (nI k2)), (3, .int x1), (4, .int x2)], [.ref 0], gh S a b sc3 ar3 lo, ex, 0, 0)) rfl ?_
    refine to_get rfl rfl rfl rfl ?_
    obtain ⟨n4, hn4, e4⟩ := iv_s3300 hI3
    refine to_getR (v := (nI n4)) rfl rfl rfl rfl e4 ?_
    exact to_rt (i := .ireturn) (tg := []) rfl (ai_rtz (rl_n (n := n4) (by omega))) ⟨_, _, _, ⟨hI3, hF3, rl_n (n := n4) (by omega)⟩, rfl⟩
  · refine to_n 1 (fr' := (6, [(0, .ref 0), (1, .int (nI k1)), (2, .int (nI k2)), (3, .int x1), (4, .int x2)], [.ref 0], gh S a b sc ar lo, ex, 0, 0)) rfl ?_
    refine to_get rfl rfl rfl rfl ?_
    refine to_get rfl rfl rfl rfl ?_
    refine to_n 1 (fr' := (13, [(0, .ref 0), (1, .int (nI k1)), (2, .int (nI k2)), (3, .int x1), (4, .int x2)], [.int (nI k1), .ref 14], gh S a b sc ar lo, ex, 0, 0)) rfl ?_
    refine to_ialR (i := k1) (v := ((ar 14) k1)) rfl (by decide) rfl (by omega) (by omega) rfl ?_
    refine to_n 1 (fr' := (15, [(0, .ref 0), (1, .int (nI k1)), (2, .int (nI k2)), (3, .int x1), (4, .int x2)], [.ref 0, .int ((ar 14) k1)], gh S a b sc ar lo, ex, 0, 0)) rfl ?_
    refine to_get rfl rfl rfl rfl ?_
    refine to_get rfl rfl rfl rfl ?_
    refine to_n 1 (fr' := (22, [(0, .ref 0), (1, .int (nI k1)), (2, .int (nI k2)), (3, .int x1), (4, .int x2)], [.int (nI k2), .ref 7, .int ((ar 14) k1)], gh S a b sc ar lo, ex, 0, 0)) rfl ?_
    refine to_ialR (i := k2) (v := ((ar 7) k2)) rfl (by decide) rfl (by omega) (by omega) rfl ?_
    refine to_ic_ne (t := 30) rfl (fun q5 => ?_) (fun q5 => ?_)
    · refine to_n 1 (fr' := (31, [(0, .ref 0), (1, .int (nI k1)), (2, .int (nI k2)), (3, .int x1), (4, .int x2)], [.int 0], gh S a b sc ar lo, ex, 0, 0)) rfl ?_
      exact to_rt (i := .ireturn) (tg := []) rfl rfl ⟨_, _, _, ⟨hI, hF, rl_n (n := 0) (by omega)⟩, rfl⟩
    · refine to_n 2 (fr' := (31, [(0, .ref 0), (1, .int (nI k1)), (2, .int (nI k2)), (3, .int x1), (4, .int x2)], [.int 1], gh S a b sc ar lo, ex, 0, 0)) rfl ?_
      exact to_rt (i := .ireturn) (tg := []) rfl rfl ⟨_, _, _, ⟨hI, hF, rl_n (n := 1) (by omega)⟩, rfl⟩
set_option maxRecDepth 20000 in
theorem sf_X9_ringBell {X : Nat × (Nat → Int32)} {S a b : Nat} {sc : Nat → Int32} {ar : Nat → Nat → Int32} {lo : Nat → Int64} {ex : Bool} (hW : Wd S a b) (hI : Iv S sc ar) (k1 : Nat) (hk1 : k1 < S) (x1 : Int32) (x2 : Int32) (d : Nat)  : cv X S a b (d + 5) 103 [.ref 0, .int (nI k1), .int x1, .int x2] sc ar lo ex (fun sc' ar' => Iv S sc' ar' ∧ Fr [3300, 3301, 3304] [17, 34, 35] sc ar sc' ar') := by
  obtain ⟨ha1, ha8, hb1, hb8, hab, hS1, hS⟩ := id hW
  refine cv_of (M := an_X9_ringBell) rfl (Nat.le_of_ble_eq_true rfl) ?_
  have hF : Fr [3300, 3301, 3304] [17, 34, 35] sc ar sc ar := fr_0
  refine to_eq (fr' := (0, [(0, .ref 0), (1, .int (nI k1)), (2, .int x1), (3, .int x2)], [], gh S a b sc ar lo, ex, 0, 0)) rfl ?_
  have c3 : ∀ m : Nat, ∀ (i : Nat) (sc1 : Nat → Int32) (ar1 : Nat → Nat → Int32), 9 ≤ i + m → i ≤ 9 → Iv S sc1 ar1 → Fr [3300, 3301, 3304] [17, 34, 35] sc ar sc1 ar1 → ag_To X (d + 4) an_X9_ringBell (3, [(0, .ref 0), (1, .int (nI k1)), (2, .int x1), (3, .int x2), (4, .int (nI i))], [], gh S a b sc1 ar1 lo, ex, 0, 0) (qv S a b lo ex (fun sc' ar' => Iv S sc' ar' ∧ Fr [3300, 3301, 3304] [17, 34, 35] sc ar sc' ar')) := by
    intro m
    induction m with
    | zero =>
      intro i sc1 ar1 hm hc3_0 hI1 hF1
      refine to_n 2 (fr' := (6, [(0, .ref 0), (1, .int (nI k1)), (2, .int x1), (3, .int x2), (4, .int (nI i))], [.ref 0, .int (nI i)], gh S a b sc1 ar1 lo, ex, 0, 0)) rfl ?_
      refine to_get rfl rfl rfl rfl ?_
      obtain ⟨n2, hn2, e2⟩ := iv_s1308 hI1
      refine to_getR (v := (nI n2)) rfl rfl rfl rfl e2 ?_
      refine to_nc_ge_T (t := 58) (x := i) (y := n2) rfl (by omega) (by omega) (by omega) ?_
      exact to_rt (i := .return_) (tg := []) rfl rfl ⟨_, _, ⟨hI1, hF1⟩, rfl⟩
    | succ m ih =>
      intro i sc1 ar1 hm hc3_0 hI1 hF1
      refine to_n 2 (fr' := (6, [(0, .ref 0), (1, .int (nI k1)), (2, .int x1), (3, .int x2), (4, .int (nI i))], [.ref 0, .int (nI i)], gh S a b sc1 ar1 lo, ex, 0, 0)) rfl ?_
      refine to_get rfl rfl rfl rfl ?_
      obtain ⟨n3, hn3, e3⟩ := iv_s1308 hI1
      refine to_getR (v := (nI n3)) rfl rfl rfl rfl e3 ?_
      refine to_nc_ge (t := 58) (x := i) (y := n3) rfl (by omega) (by omega) (fun q4 => ?_) (fun q4 => ?_)
      · exact to_rt (i := .return_) (tg := []) rfl rfl ⟨_, _, ⟨hI1, hF1⟩, rfl⟩
      · refine to_n 1 (fr' := (16, [(0, .ref 0), (1, .int (nI k1)), (2, .int x1), (3, .int x2), (4, .int (nI i))], [.ref 0], gh S a b sc1 ar1 lo, ex, 0, 0)) rfl ?_
        refine to_get rfl rfl rfl rfl ?_
        refine to_get rfl rfl rfl rfl ?_
        refine to_n 1 (fr' := (24, [(0, .ref 0), (1, .int (nI k1)), (2, .int x1), (3, .int x2), (4, .int (nI i))], [.int (nI i), .ref 17], gh S a b sc1 ar1 lo, ex, 0, 0)) rfl ?_
        rcases iv_a17 hI1 i with e5 | ⟨n5, hn5, e5⟩
        · refine to_ialR (i := i) (v := (-1)) rfl (by decide) rfl (by omega) (by omega) e5 ?_
          refine to_n 7 (fr' := (35, [(0, .ref 0), (1, .int (nI k1)), (2, .int x1), (3, .int x2), (4, .int (nI i))], [.int x2, .int x1, .int (nI k1), .int (nI i), .ref 0], gh S a b sc1 ar1 lo, ex, 0, 0)) rfl ?_
          refine to_ci (q := 104) (M1 := an_X9_isCalled) (rest := []) rfl rfl (by decide) rfl ⟨_, rfl⟩ (sf_X9_isCalled hW hI1 i (by omega) k1 (by omega) x1 x2 d) (fun x6 sc6 ar6 hx6 => ?_)
          obtain ⟨hI6, hG6, hx6⟩ := hx6
          have hF6 := fr_t hF1 hG6 (by decide) (by decide)
          obtain ⟨n6, hn6, rfl⟩ := hx6
          refine to_eq (fr' := (38, [(0, .ref 0), (1, .int (nI k1)), (2, .int x1), (3, .int x2), (4, .int (nI i))], [.int (nI n6)], gh S a b sc6 ar6 lo, ex, 0, 0)) rfl ?_
          refine to_nf_eq (t := 52) (x := n6) rfl (by omega) (fun q7 => ?_) (fun q7 => ?_)
          · refine to_n 1 (fr' := (55, [(0, .ref 0), (1, .int (nI k1)), (2, .int x1), (3, .int x2), (4, .int ((nI i) + 1))], [], gh S a b sc6 ar6 lo, ex, 0, 0)) rfl ?_
            rw [nI_1 i]
            refine to_n 1 (fr' := (3, [(0, .ref 0), (1, .int (nI k1)), (2, .int x1), (3, .int x2), (4, .int (nI (i + 1)))], [], gh S a b sc6 ar6 lo, ex, 0, 0)) rfl ?_
            exact ih (i + 1) sc6 ar6 (by omega) (by omega) hI6 hF6
          · refine to_n 1 (fr' := (42, [(0, .ref 0), (1, .int (nI k1)), (2, .int x1), (3, .int x2), (4, .int (nI i))], [.ref 0], gh S a b sc6 ar6 lo, ex, 0, 0)) rfl ?_
            refine to_get rfl rfl rfl rfl ?_
            refine to_get rfl rfl rfl rfl ?_
            refine to_n 2 (fr' := (51, [(0, .ref 0), (1, .int (nI k1)), (2, .int x1), (3, .int x2), (4, .int (nI i))], [.int (nI k1), .int (nI i), .ref 17], gh S a b sc6 ar6 lo, ex, 0, 0)) rfl ?_
            refine to_iasR (i := i) (h' := gh S a b sc6 (uA ar6 17 (upd (ar6 17) i (nI k1))) lo) rfl rfl (by omega) (by omega) rfl ?_
            have hI8 := ia_17 (i := i) (v := (nI k1)) hI6 (rq_n (n := k1) (by omega))
            have hF8 := fr_a (c := 17) (g := (upd (ar6 17) i (nI k1))) hF6 (by decide)
            refine to_n 1 (fr' := (55, [(0, .ref 0), (1, .int (nI k1)), (2, .int x1), (3, .int x2), (4, .int ((nI i) + 1))], [], gh S a b sc6 (uA ar6 17 (upd (ar6 17) i (nI k1))) lo, ex, 0, 0)) rfl ?_
            rw [nI_1 i]
            refine to_n 1 (fr' := (3, [(0, .ref 0), (1, .int (nI k1)), (2, .int x1), (3, .int x2), (4, .int (nI (i + 1)))], [], gh S a b sc6 (uA ar6 17 (upd (ar6 17) i (nI k1))) lo, ex, 0, 0)) rfl ?_
            exact ih (i + 1) sc6 (uA ar6 17 (upd (ar6 17) i (nI k1))) (by omega) (by omega) hI8 hF8
        · refine to_ialR (i := i) (v := (nI n5)) rfl (by decide) rfl (by omega) (by omega) e5 ?_
          refine to_n 1 (fr' := (26, [(0, .ref 0), (1, .int (nI k1)), (2, .int x1), (3, .int x2), (4, .int (nI i))], [.int (-1), .int (nI n5)], gh S a b sc1 ar1 lo, ex, 0, 0)) rfl ?_
          refine to_ic_ne_T (t := 52) (x := (nI n5)) (y := (-1)) rfl (nI_neg (by omega) (by decide)) ?_
          refine to_n 1 (fr' := (55, [(0, .ref 0), (1, .int (nI k1)), (2, .int x1), (3, .int x2), (4, .int ((nI i) + 1))], [], gh S a b sc1 ar1 lo, ex, 0, 0)) rfl ?_
          rw [nI_1 i]
          refine to_n 1 (fr' := (3, [(0, .ref 0), (1, .int (nI k1)), (2, .int x1), (3, .int x2), (4, .int (nI (i + 1)))], [], gh S a b sc1 ar1 lo, ex, 0, 0)) rfl ?_
          exact ih (i + 1) sc1 ar1 (by omega) (by omega) hI1 hF1
  refine to_n 2 (fr' := (3, [(0, .ref 0), (1, .int (nI k1)), (2, .int x1), (3, .int x2), (4, .int 0)], [], gh S a b sc ar lo, ex, 0, 0)) rfl ?_
  exact c3 (9 - 0) 0 sc ar (by omega) (by omega) hI hF
set_option maxRecDepth 20000 in
theorem sf_X9_ringBells {X : Nat × (Nat → Int32)} {S a b : Nat} {sc : Nat → Int32} {ar : Nat → Nat → Int32} {lo : Nat → Int64} {ex : Bool} (hW : Wd S a b) (hI : Iv S sc ar)  (d : Nat)  : cv X S a b (d + 6) 102 [.ref 0] sc ar lo ex (fun sc' ar' => Iv S sc' ar' ∧ Fr [3300, 3301, 3304] [17, 18, 34, 35] sc ar sc' ar') := by
  obtain ⟨ha1, ha8, hb1, hb8, hab, hS1, hS⟩ := id hW
  refine cv_of (M := an_X9_ringBells) rfl (Nat.le_of_ble_eq_true rfl) ?_
  have hF : Fr [3300, 3301, 3304] [17, 18, 34, 35] sc ar sc ar := fr_0
  refine to_eq (fr' := (0, [(0, .ref 0)], [], gh S a b sc ar lo, ex, 0, 0)) rfl ?_
  have c72 : ∀ m : Nat, ∀ (x : Int32) (y : Int32) (i : Nat) (sc1 : Nat → Int32) (ar1 : Nat → Nat → Int32), S ≤ i + m → i ≤ S → Iv S sc1 ar1 → Fr [3300, 3301, 3304] [17, 18, 34, 35] sc ar sc1 ar1 → ag_To X (d + 5) an_X9_ringBells (72, [(0, .ref 0), (1, .int x), (2, .int y), (3, .int (nI i))], [], gh S a b sc1 ar1 lo, ex, 0, 0) (qv S a b lo ex (fun sc' ar' => Iv S sc' ar' ∧ Fr [3300, 3301, 3304] [17, 18, 34, 35] sc ar sc' ar')) := by
    intro m
    induction m with
    | zero =>
      intro x y i sc1 ar1 hm hc72_0 hI1 hF1
      refine to_n 2 (fr' := (74, [(0, .ref 0), (1, .int x), (2, .int y), (3, .int (nI i))], [.ref 0, .int (nI i)], gh S a b sc1 ar1 lo, ex, 0, 0)) rfl ?_
      refine to_getR (v := (sc1 9)) rfl rfl rfl rfl rfl ?_
      refine to_ic_ge (t := 107) rfl (fun q2 => ?_) (fun q2 => ?_)
      · exact to_rt (i := .return_) (tg := []) rfl rfl ⟨_, _, ⟨hI1, hF1⟩, rfl⟩
      · refine to_n 2 (fr' := (82, [(0, .ref 0), (1, .int x), (2, .int y), (3, .int (nI i))], [.ref 0, .int (nI i)], gh S a b sc1 ar1 lo, ex, 0, 0)) rfl ?_
        refine to_get rfl rfl rfl rfl ?_
        refine to_len rfl (by decide) rfl (by decide) ?_
        refine to_eq (fr' := (86, [(0, .ref 0), (1, .int x), (2, .int y), (3, .int (nI i))], [.int (nI S), .int (nI i)], gh S a b sc1 ar1 lo, ex, 0, 0)) rfl ?_
        refine to_nc_ge_T (t := 107) (x := i) (y := S) rfl (by omega) (by omega) (by omega) ?_
        exact to_rt (i := .return_) (tg := []) rfl rfl ⟨_, _, ⟨hI1, hF1⟩, rfl⟩
    | succ m ih =>
      intro x y i sc1 ar1 hm hc72_0 hI1 hF1
      refine to_n 2 (fr' := (74, [(0, .ref 0), (1, .int x), (2, .int y), (3, .int (nI i))], [.ref 0, .int (nI i)], gh S a b sc1 ar1 lo, ex, 0, 0)) rfl ?_
      refine to_getR (v := (sc1 9)) rfl rfl rfl rfl rfl ?_
      refine to_ic_ge (t := 107) rfl (fun q3 => ?_) (fun q3 => ?_)
      · exact to_rt (i := .return_) (tg := []) rfl rfl ⟨_, _, ⟨hI1, hF1⟩, rfl⟩
      · refine to_n 2 (fr' := (82, [(0, .ref 0), (1, .int x), (2, .int y), (3, .int (nI i))], [.ref 0, .int (nI i)], gh S a b sc1 ar1 lo, ex, 0, 0)) rfl ?_
        refine to_get rfl rfl rfl rfl ?_
        refine to_len rfl (by decide) rfl (by decide) ?_
        refine to_eq (fr' := (86, [(0, .ref 0), (1, .int x), (2, .int y), (3, .int (nI i))], [.int (nI S), .int (nI i)], gh S a b sc1 ar1 lo, ex, 0, 0)) rfl ?_
        refine to_nc_ge (t := 107) (x := i) (y := S) rfl (by omega) (by omega) (fun q4 => ?_) (fun q4 => ?_)
        · exact to_rt (i := .return_) (tg := []) rfl rfl ⟨_, _, ⟨hI1, hF1⟩, rfl⟩
        · refine to_n 2 (fr' := (91, [(0, .ref 0), (1, .int x), (2, .int y), (3, .int (nI i))], [.ref 0, .ref 0], gh S a b sc1 ar1 lo, ex, 0, 0)) rfl ?_
          refine to_get rfl rfl rfl rfl ?_
          refine to_n 1 (fr' := (95, [(0, .ref 0), (1, .int x), (2, .int y), (3, .int (nI i))], [.int (nI i), .ref 48, .ref 0], gh S a b sc1 ar1 lo, ex, 0, 0)) rfl ?_
          obtain ⟨n5, hn5, e5⟩ := iv_a48 hI1 i
          refine to_ialR (i := i) (v := (nI n5)) rfl (by decide) rfl (by omega) (by omega) e5 ?_
          refine to_n 2 (fr' := (98, [(0, .ref 0), (1, .int x), (2, .int y), (3, .int (nI i))], [.int y, .int x, .int (nI n5), .ref 0], gh S a b sc1 ar1 lo, ex, 0, 0)) rfl ?_
          refine to_cv (q := 103) (M1 := an_X9_ringBell) (rest := []) rfl rfl (by decide) rfl ⟨_, rfl⟩ (sf_X9_ringBell hW hI1 n5 (by omega) x y d) (fun sc6 ar6 hx6 => ?_)
          obtain ⟨hI6, hG6⟩ := hx6
          have hF6 := fr_t hF1 hG6 (by decide) (by decide)
          refine to_eq (fr' := (101, [(0, .ref 0), (1, .int x), (2, .int y), (3, .int (nI i))], [], gh S a b sc6 ar6 lo, ex, 0, 0)) rfl ?_
          refine to_n 1 (fr' := (104, [(0, .ref 0), (1, .int x), (2, .int y), (3, .int ((nI i) + 1))], [], gh S a b sc6 ar6 lo, ex, 0, 0)) rfl ?_
          rw [nI_1 i]
          refine to_n 1 (fr' := (72, [(0, .ref 0), (1, .int x), (2, .int y), (3, .int (nI (i + 1)))], [], gh S a b sc6 ar6 lo, ex, 0, 0)) rfl ?_
          exact ih x y (i + 1) sc6 ar6 (by omega) (by omega) hI6 hF6
  have c46 : ∀  (sc7 : Nat → Int32) (ar7 : Nat → Nat → Int32), Iv S sc7 ar7 → Fr [3300, 3301, 3304] [17, 18, 34, 35] sc ar sc7 ar7 → ag_To X (d + 5) an_X9_ringBells (46, [(0, .ref 0)], [], gh S a b sc7 ar7 lo, ex, 0, 0) (qv S a b lo ex (fun sc' ar' => Iv S sc' ar' ∧ Fr [3300, 3301, 3304] [17, 18, 34, 35] sc ar sc' ar')) := by
    intro sc7 ar7 hI7 hF7
    refine to_n 1 (fr' := (47, [(0, .ref 0)], [.ref 0], gh S a b sc7 ar7 lo, ex, 0, 0)) rfl ?_
    refine to_get rfl rfl rfl rfl ?_
    refine to_n 1 (fr' := (51, [(0, .ref 0)], [.ref 0, .ref 29], gh S a b sc7 ar7 lo, ex, 0, 0)) rfl ?_
    obtain ⟨n8, hn8, e8⟩ := iv_s11 hI7
    refine to_getR (v := (nI n8)) rfl rfl rfl rfl e8 ?_
    refine to_n 2 (fr' := (57, [(0, .ref 0)], [.int ((nI n8) / 24), .ref 29], gh S a b sc7 ar7 lo, ex, 0, 0)) rfl ?_
    refine to_cp (q := 39) (M1 := an_X4_inForce) (rest := []) rfl rfl (by decide) rfl ⟨_, rfl⟩ (sf_X4_inForce hW hI7 ((nI n8) / 24) (d + 4)) (fun x9 hx9 => ?_)
    rcases hx9 with rfl | ⟨n9, hn9, rfl⟩
    · refine to_eq (fr' := (60, [(0, .ref 0)], [.int (-1)], gh S a b sc7 ar7 lo, ex, 0, 0)) rfl ?_
      refine to_n 2 (fr' := (62, [(0, .ref 0), (1, .int (-1))], [.ref 0], gh S a b sc7 ar7 lo, ex, 0, 0)) rfl ?_
      refine to_get rfl rfl rfl rfl ?_
      refine to_n 1 (fr' := (66, [(0, .ref 0), (1, .int (-1))], [.int 1, .ref 1], gh S a b sc7 ar7 lo, ex, 0, 0)) rfl ?_
      refine to_cp (q := 6) (M1 := an_X0_tally) (rest := []) rfl rfl (by decide) rfl ⟨_, rfl⟩ (sf_X0_tally hW hI7 1 (d + 4)) (fun x10 hx10 => ?_)
      refine to_eq (fr' := (69, [(0, .ref 0), (1, .int (-1))], [.int x10], gh S a b sc7 ar7 lo, ex, 0, 0)) rfl ?_
      refine to_n 3 (fr' := (72, [(0, .ref 0), (1, .int (-1)), (2, .int x10), (3, .int 0)], [], gh S a b sc7 ar7 lo, ex, 0, 0)) rfl ?_
      exact c72 (S - 0) (-1) x10 0 sc7 ar7 (by omega) (by omega) hI7 hF7
    · refine to_eq (fr' := (60, [(0, .ref 0)], [.int (nI n9)], gh S a b sc7 ar7 lo, ex, 0, 0)) rfl ?_
      refine to_n 2 (fr' := (62, [(0, .ref 0), (1, .int (nI n9))], [.ref 0], gh S a b sc7 ar7 lo, ex, 0, 0)) rfl ?_
      refine to_get rfl rfl rfl rfl ?_
      refine to_n 1 (fr' := (66, [(0, .ref 0), (1, .int (nI n9))], [.int 1, .ref 1], gh S a b sc7 ar7 lo, ex, 0, 0)) rfl ?_
      refine to_cp (q := 6) (M1 := an_X0_tally) (rest := []) rfl rfl (by decide) rfl ⟨_, rfl⟩ (sf_X0_tally hW hI7 1 (d + 4)) (fun x11 hx11 => ?_)
      refine to_eq (fr' := (69, [(0, .ref 0), (1, .int (nI n9))], [.int x11], gh S a b sc7 ar7 lo, ex, 0, 0)) rfl ?_
      refine to_n 3 (fr' := (72, [(0, .ref 0), (1, .int (nI n9)), (2, .int x11), (3, .int 0)], [], gh S a b sc7 ar7 lo, ex, 0, 0)) rfl ?_
      exact c72 (S - 0) (nI n9) x11 0 sc7 ar7 (by omega) (by omega) hI7 hF7
  have c10 : ∀ m : Nat, ∀ (i : Nat) (sc12 : Nat → Int32) (ar12 : Nat → Nat → Int32), S ≤ i + m → i ≤ S → Iv S sc12 ar12 → Fr [3300, 3301, 3304] [17, 18, 34, 35] sc ar sc12 ar12 → ag_To X (d + 5) an_X9_ringBells (10, [(0, .ref 0), (1, .int (nI i))], [], gh S a b sc12 ar12 lo, ex, 0, 0) (qv S a b lo ex (fun sc' ar' => Iv S sc' ar' ∧ Fr [3300, 3301, 3304] [17, 18, 34, 35] sc ar sc' ar')) := by
    intro m
    induction m with
    | zero =>
      intro i sc12 ar12 hm hc10_0 hI12 hF12
      refine to_n 2 (fr' := (12, [(0, .ref 0), (1, .int (nI i))], [.ref 0, .int (nI i)], gh S a b sc12 ar12 lo, ex, 0, 0)) rfl ?_
      refine to_getR (v := (sc12 9)) rfl rfl rfl rfl rfl ?_
      refine to_ic_ge (t := 46) rfl (fun q13 => ?_) (fun q13 => ?_)
      · refine to_lv (lv := [(0, .ref 0)]) rfl ⟨rfl, trivial⟩ ?_
        exact c46 sc12 ar12 hI12 hF12
      · refine to_n 2 (fr' := (20, [(0, .ref 0), (1, .int (nI i))], [.ref 0, .int (nI i)], gh S a b sc12 ar12 lo, ex, 0, 0)) rfl ?_
        refine to_get rfl rfl rfl rfl ?_
        refine to_len rfl (by decide) rfl (by decide) ?_
        refine to_eq (fr' := (24, [(0, .ref 0), (1, .int (nI i))], [.int (nI S), .int (nI i)], gh S a b sc12 ar12 lo, ex, 0, 0)) rfl ?_
        refine to_nc_ge_T (t := 46) (x := i) (y := S) rfl (by omega) (by omega) (by omega) ?_
        refine to_lv (lv := [(0, .ref 0)]) rfl ⟨rfl, trivial⟩ ?_
        exact c46 sc12 ar12 hI12 hF12
    | succ m ih =>
      intro i sc12 ar12 hm hc10_0 hI12 hF12
      refine to_n 2 (fr' := (12, [(0, .ref 0), (1, .int (nI i))], [.ref 0, .int (nI i)], gh S a b sc12 ar12 lo, ex, 0, 0)) rfl ?_
      refine to_getR (v := (sc12 9)) rfl rfl rfl rfl rfl ?_
      refine to_ic_ge (t := 46) rfl (fun q14 => ?_) (fun q14 => ?_)
      · refine to_lv (lv := [(0, .ref 0)]) rfl ⟨rfl, trivial⟩ ?_
        exact c46 sc12 ar12 hI12 hF12
      · refine to_n 2 (fr' := (20, [(0, .ref 0), (1, .int (nI i))], [.ref 0, .int (nI i)], gh S a b sc12 ar12 lo, ex, 0, 0)) rfl ?_
        refine to_get rfl rfl rfl rfl ?_
        refine to_len rfl (by decide) rfl (by decide) ?_
        refine to_eq (fr' := (24, [(0, .ref 0), (1, .int (nI i))], [.int (nI S), .int (nI i)], gh S a b sc12 ar12 lo, ex, 0, 0)) rfl ?_
        refine to_nc_ge (t := 46) (x := i) (y := S) rfl (by omega) (by omega) (fun q15 => ?_) (fun q15 => ?_)
        · refine to_lv (lv := [(0, .ref 0)]) rfl ⟨rfl, trivial⟩ ?_
          exact c46 sc12 ar12 hI12 hF12
        · refine to_n 1 (fr' := (28, [(0, .ref 0), (1, .int (nI i))], [.ref 0], gh S a b sc12 ar12 lo, ex, 0, 0)) rfl ?_
          refine to_get rfl rfl rfl rfl ?_
          refine to_n 1 (fr' := (32, [(0, .ref 0), (1, .int (nI i))], [.ref 0, .ref 13], gh S a b sc12 ar12 lo, ex, 0, 0)) rfl ?_
          refine to_get rfl rfl rfl rfl ?_
          refine to_n 1 (fr' := (36, [(0, .ref 0), (1, .int (nI i))], [.int (nI i), .ref 48, .ref 13], gh S a b sc12 ar12 lo, ex, 0, 0)) rfl ?_
          obtain ⟨n16, hn16, e16⟩ := iv_a48 hI12 i
          refine to_ialR (i := i) (v := (nI n16)) rfl (by decide) rfl (by omega) (by omega) e16 ?_
          refine to_cv (q := 16) (M1 := an_X1_forget) (rest := []) rfl rfl (by decide) rfl ⟨_, rfl⟩ (sf_X1_forget hW hI12 (nI n16) (d + 4)) (fun sc17 ar17 hx17 => ?_)
          obtain ⟨hI17, hG17⟩ := hx17
          have hF17 := fr_t hF12 hG17 (by decide) (by decide)
          refine to_eq (fr' := (40, [(0, .ref 0), (1, .int (nI i))], [], gh S a b sc17 ar17 lo, ex, 0, 0)) rfl ?_
          refine to_n 1 (fr' := (43, [(0, .ref 0), (1, .int ((nI i) + 1))], [], gh S a b sc17 ar17 lo, ex, 0, 0)) rfl ?_
          rw [nI_1 i]
          refine to_n 1 (fr' := (10, [(0, .ref 0), (1, .int (nI (i + 1)))], [], gh S a b sc17 ar17 lo, ex, 0, 0)) rfl ?_
          exact ih (i + 1) sc17 ar17 (by omega) (by omega) hI17 hF17
  refine to_n 1 (fr' := (1, [(0, .ref 0)], [.ref 0], gh S a b sc ar lo, ex, 0, 0)) rfl ?_
  refine to_getR (v := (sc 9)) rfl rfl rfl rfl rfl ?_
  refine to_if_ne (t := 8) rfl (fun q18 => ?_) (fun q18 => ?_)
  · refine to_n 2 (fr' := (10, [(0, .ref 0), (1, .int 0)], [], gh S a b sc ar lo, ex, 0, 0)) rfl ?_
    exact c10 (S - 0) 0 sc ar (by omega) (by omega) hI hF
  · exact to_rt (i := .return_) (tg := []) rfl rfl ⟨_, _, ⟨hI, hF⟩, rfl⟩
set_option maxRecDepth 20000 in
theorem sf_X9_leave {X : Nat × (Nat → Int32)} {S a b : Nat} {sc : Nat → Int32} {ar : Nat → Nat → Int32} {lo : Nat → Int64} {ex : Bool} (hW : Wd S a b) (hI : Iv S sc ar) (k1 : Nat) (hk1 : k1 < S) (d : Nat)  : cv X S a b (d + 2) 101 [.ref 0, .int (nI k1)] sc ar lo ex (fun sc' ar' => Iv S sc' ar' ∧ Fr [] [11, 17, 18] sc ar sc' ar') := by
  obtain ⟨ha1, ha8, hb1, hb8, hab, hS1, hS⟩ := id hW
  refine cv_of (M := an_X9_leave) rfl (Nat.le_of_ble_eq_true rfl) ?_
  have hF : Fr [] [11, 17, 18] sc ar sc ar := fr_0
  refine to_eq (fr' := (0, [(0, .ref 0), (1, .int (nI k1))], [], gh S a b sc ar lo, ex, 0, 0)) rfl ?_
  refine to_n 1 (fr' := (1, [(0, .ref 0), (1, .int (nI k1))], [.ref 0], gh S a b sc ar lo, ex, 0, 0)) rfl ?_
  refine to_get rfl rfl rfl rfl ?_
  refine to_get rfl rfl rfl rfl ?_
  refine to_n 2 (fr' := (9, [(0, .ref 0), (1, .int (nI k1))], [.int (-1), .int (nI k1), .ref 11], gh S a b sc ar lo, ex, 0, 0)) rfl ?_
  refine to_iasR (i := k1) (h' := gh S a b sc (uA ar 11 (upd (ar 11) k1 (-1))) lo) rfl rfl (by omega) (by omega) rfl ?_
  have hI1 := ia_11 (g := (upd (ar 11) k1 (-1))) hI
  have hF1 := fr_a (c := 11) (g := (upd (ar 11) k1 (-1))) hF (by decide)
  refine to_n 1 (fr' := (11, [(0, .ref 0), (1, .int (nI k1))], [.ref 0], gh S a b sc (uA ar 11 (upd (ar 11) k1 (-1))) lo, ex, 0, 0)) rfl ?_
  refine to_get rfl rfl rfl rfl ?_
  refine to_n 1 (fr' := (15, [(0, .ref 0), (1, .int (nI k1))], [.int (nI k1), .ref 13], gh S a b sc (uA ar 11 (upd (ar 11) k1 (-1))) lo, ex, 0, 0)) rfl ?_
  refine to_cv (q := 16) (M1 := an_X1_forget) (rest := []) rfl rfl (by decide) rfl ⟨_, rfl⟩ (sf_X1_forget hW hI1 (nI k1) d) (fun sc2 ar2 hx2 => ?_)
  obtain ⟨hI2, hG2⟩ := hx2
  have hF2 := fr_t hF1 hG2 (by decide) (by decide)
  refine to_eq (fr' := (18, [(0, .ref 0), (1, .int (nI k1))], [], gh S a b sc2 ar2 lo, ex, 0, 0)) rfl ?_
  exact to_rt (i := .return_) (tg := []) rfl rfl ⟨_, _, ⟨hI2, hF2⟩, rfl⟩
set_option maxRecDepth 20000 in
theorem sf_X9_putOut {X : Nat × (Nat → Int32)} {S a b : Nat} {sc : Nat → Int32} {ar : Nat → Nat → Int32} {lo : Nat → Int64} {ex : Bool} (hW : Wd S a b) (hI : Iv S sc ar) (k1 : Nat) (hk1 : k1 < S) (d : Nat)  : cv X S a b (d + 5) 100 [.ref 0, .int (nI k1)] sc ar lo ex (fun sc' ar' => Iv S sc' ar' ∧ Fr [3300, 3301, 3304] [5, 9, 10, 11, 17, 18, 19, 21, 34, 35] sc ar sc' ar') := by
  obtain ⟨ha1, ha8, hb1, hb8, hab, hS1, hS⟩ := id hW
  refine cv_of (M := an_X9_putOut) rfl (Nat.le_of_ble_eq_true rfl) ?_
  have hF : Fr [3300, 3301, 3304] [5, 9, 10, 11, 17, 18, 19, 21, 34, 35] sc ar sc ar := fr_0
  refine to_eq (fr' := (0, [(0, .ref 0), (1, .int (nI k1))], [], gh S a b sc ar lo, ex, 0, 0)) rfl ?_
  refine to_n 1 (fr' := (1, [(0, .ref 0), (1, .int (nI k1))], [.ref 0], gh S a b sc ar lo, ex, 0, 0)) rfl ?_
  refine to_get rfl rfl rfl rfl ?_
  refine to_get rfl rfl rfl rfl ?_
  refine to_n 1 (fr' := (8, [(0, .ref 0), (1, .int (nI k1))], [.int (nI k1), .ref 11], gh S a b sc ar lo, ex, 0, 0)) rfl ?_
  refine to_ialR (i := k1) (v := ((ar 11) k1)) rfl (by decide) rfl (by omega) (by omega) rfl ?_
  refine to_n 2 (fr' := (11, [(0, .ref 0), (1, .int (nI k1)), (2, .int ((ar 11) k1))], [.ref 0], gh S a b sc ar lo, ex, 0, 0)) rfl ?_
  refine to_get rfl rfl rfl rfl ?_
  refine to_get rfl rfl rfl rfl ?_
  refine to_n 2 (fr' := (19, [(0, .ref 0), (1, .int (nI k1)), (2, .int ((ar 11) k1))], [.int 0, .int (nI k1), .ref 5], gh S a b sc ar lo, ex, 0, 0)) rfl ?_
  refine to_iasR (i := k1) (h' := gh S a b sc (uA ar 5 (upd (ar 5) k1 0)) lo) rfl rfl (by omega) (by omega) rfl ?_
  have hI1 := ia_5 (g := (upd (ar 5) k1 0)) hI
  have hF1 := fr_a (c := 5) (g := (upd (ar 5) k1 0)) hF (by decide)
  refine to_n 1 (fr' := (21, [(0, .ref 0), (1, .int (nI k1)), (2, .int ((ar 11) k1))], [.ref 0], gh S a b sc (uA ar 5 (upd (ar 5) k1 0)) lo, ex, 0, 0)) rfl ?_
  refine to_get rfl rfl rfl rfl ?_
  refine to_get rfl rfl rfl rfl ?_
  refine to_n 2 (fr' := (29, [(0, .ref 0), (1, .int (nI k1)), (2, .int ((ar 11) k1))], [.int 0, .int (nI k1), .ref 9], gh S a b sc (uA ar 5 (upd (ar 5) k1 0)) lo, ex, 0, 0)) rfl ?_
  refine to_iasR (i := k1) (h' := gh S a b sc (uA (uA ar 5 (upd (ar 5) k1 0)) 9 (upd ((uA ar 5 (upd (ar 5) k1 0)) 9) k1 0)) lo) rfl rfl (by omega) (by omega) rfl ?_
  have hI2 := ia_9 (g := (upd ((uA ar 5 (upd (ar 5) k1 0)) 9) k1 0)) hI1
  have hF2 := fr_a (c := 9) (g := (upd ((uA ar 5 (upd (ar 5) k1 0)) 9) k1 0)) hF1 (by decide)
  refine to_n 1 (fr' := (31, [(0, .ref 0), (1, .int (nI k1)), (2, .int ((ar 11) k1))], [.ref 0], gh S a b sc (uA (uA ar 5 (upd (ar 5) k1 0)) 9 (upd ((uA ar 5 (upd (ar 5) k1 0)) 9) k1 0)) lo, ex, 0, 0)) rfl ?_
  refine to_get rfl rfl rfl rfl ?_
  refine to_get rfl rfl rfl rfl ?_
  refine to_n 2 (fr' := (39, [(0, .ref 0), (1, .int (nI k1)), (2, .int ((ar 11) k1))], [.int 0, .int (nI k1), .ref 10], gh S a b sc (uA (uA ar 5 (upd (ar 5) k1 0)) 9 (upd ((uA ar 5 (upd (ar 5) k1 0)) 9) k1 0)) lo, ex, 0, 0)) rfl ?_
  refine to_iasR (i := k1) (h' := gh S a b sc (uA (uA (uA ar 5 (upd (ar 5) k1 0)) 9 (upd ((uA ar 5 (upd (ar 5) k1 0)) 9) k1 0)) 10 (upd ((uA (uA ar 5 (upd (ar 5) k1 0)) 9 (upd ((uA ar 5 (upd (ar 5) k1 0)) 9) k1 0)) 10) k1 0)) lo) rfl rfl (by omega) (by omega) rfl ?_
  have hI3 := ia_10 (g := (upd ((uA (uA ar 5 (upd (ar 5) k1 0)) 9 (upd ((uA ar 5 (upd (ar 5) k1 0)) 9) k1 0)) 10) k1 0)) hI2
  have hF3 := fr_a (c := 10) (g := (upd ((uA (uA ar 5 (upd (ar 5) k1 0)) 9 (upd ((uA ar 5 (upd (ar 5) k1 0)) 9) k1 0)) 10) k1 0)) hF2 (by decide)
  refine to_n 2 (fr' := (42, [(0, .ref 0), (1, .int (nI k1)), (2, .int ((ar 11) k1))], [.int (nI k1), .ref 0], gh S a b sc (uA (uA (uA ar 5 (upd (ar 5) k1 0)) 9 (upd ((uA ar 5 (upd (ar 5) k1 0)) 9) k1 0)) 10 (upd ((uA (uA ar 5 (upd (ar 5) k1 0)) 9 (upd ((uA ar 5 (upd (ar 5) k1 0)) 9) k1 0)) 10) k1 0)) lo, ex, 0, 0)) rfl ?_
  refine to_cv (q := 101) (M1 := an_X9_leave) (rest := []) rfl rfl (by decide) rfl ⟨_, rfl⟩ (sf_X9_leave hW hI3 k1 (by omega) (d + 2)) (fun sc4 ar4 hx4 => ?_)
  obtain ⟨hI4, hG4⟩ := hx4
  have hF4 := fr_t hF3 hG4 (by decide) (by decide)
  refine to_eq (fr' := (45, [(0, .ref 0), (1, .int (nI k1)), (2, .int ((ar 11) k1))], [], gh S a b sc4 ar4 lo, ex, 0, 0)) rfl ?_
  refine to_n 1 (fr' := (46, [(0, .ref 0), (1, .int (nI k1)), (2, .int ((ar 11) k1))], [.ref 0], gh S a b sc4 ar4 lo, ex, 0, 0)) rfl ?_
  refine to_get rfl rfl rfl rfl ?_
  refine to_n 1 (fr' := (50, [(0, .ref 0), (1, .int (nI k1)), (2, .int ((ar 11) k1))], [.int ((ar 11) k1), .ref 13], gh S a b sc4 ar4 lo, ex, 0, 0)) rfl ?_
  obtain ⟨n5, hn5, e5⟩ := iv_s1308 hI4
  rcases has_or (x := ((ar 11) k1)) (B := n5) (by omega) with ⟨n6, hn6, e6⟩ | w6
  · rw [e6]
    refine to_cp (q := 14) (M1 := an_X1_has) (rest := []) rfl rfl (by decide) rfl ⟨_, rfl⟩ (cr_has_1 (n := n6) e5 (by omega) (d + 3)) (fun x6 hx6 => ?_)
    obtain rfl := hx6
    refine to_eq (fr' := (53, [(0, .ref 0), (1, .int (nI k1)), (2, .int (nI n6))], [.int 1], gh S a b sc4 ar4 lo, ex, 0, 0)) rfl ?_
    refine to_n 2 (fr' := (57, [(0, .ref 0), (1, .int (nI k1)), (2, .int (nI n6))], [.ref 0], gh S a b sc4 ar4 lo, ex, 0, 0)) rfl ?_
    refine to_get rfl rfl rfl rfl ?_
    refine to_get rfl rfl rfl rfl ?_
    refine to_n 2 (fr' := (65, [(0, .ref 0), (1, .int (nI k1)), (2, .int (nI n6))], [.int (nI n6), .ref 19, .int (nI n6), .ref 19], gh S a b sc4 ar4 lo, ex, 0, 0)) rfl ?_
    refine to_ialR (i := n6) (v := ((ar4 19) n6)) rfl (by decide) rfl (by omega) (by omega) rfl ?_
    refine to_n 3 (fr' := (69, [(0, .ref 0), (1, .int (nI k1)), (2, .int (nI n6))], [.int (nI k1), .int (nI n6), .ref 0, .int ((ar4 19) n6), .int (nI n6), .ref 19], gh S a b sc4 ar4 lo, ex, 0, 0)) rfl ?_
    refine to_ci (q := 105) (M1 := an_X9_payFor) (rest := [.int ((ar4 19) n6), .int (nI n6), .ref 19]) rfl rfl (by decide) rfl ⟨_, rfl⟩ (sf_X9_payFor hW hI4 n6 (by omega) k1 (by omega) d) (fun x7 sc7 ar7 hx7 => ?_)
    obtain ⟨hI7, hG7, hx7⟩ := hx7
    have hF7 := fr_t hF4 hG7 (by decide) (by decide)
    refine to_eq (fr' := (72, [(0, .ref 0), (1, .int (nI k1)), (2, .int (nI n6))], [.int x7, .int ((ar4 19) n6), .int (nI n6), .ref 19], gh S a b sc7 ar7 lo, ex, 0, 0)) rfl ?_
    refine to_n 1 (fr' := (73, [(0, .ref 0), (1, .int (nI k1)), (2, .int (nI n6))], [.int (((ar4 19) n6) + x7), .int (nI n6), .ref 19], gh S a b sc7 ar7 lo, ex, 0, 0)) rfl ?_
    refine to_iasR (i := n6) (h' := gh S a b sc7 (uA ar7 19 (upd (ar7 19) n6 (((ar4 19) n6) + x7))) lo) rfl rfl (by omega) (by omega) rfl ?_
    have hI8 := ia_19 (g := (upd (ar7 19) n6 (((ar4 19) n6) + x7))) hI7
    have hF8 := fr_a (c := 19) (g := (upd (ar7 19) n6 (((ar4 19) n6) + x7))) hF7 (by decide)
    refine to_n 1 (fr' := (75, [(0, .ref 0), (1, .int (nI k1)), (2, .int (nI n6))], [.ref 0], gh S a b sc7 (uA ar7 19 (upd (ar7 19) n6 (((ar4 19) n6) + x7))) lo, ex, 0, 0)) rfl ?_
    refine to_get rfl rfl rfl rfl ?_
    refine to_get rfl rfl rfl rfl ?_
    refine to_n 2 (fr' := (83, [(0, .ref 0), (1, .int (nI k1)), (2, .int (nI n6))], [.int (nI n6), .ref 21, .int (nI n6), .ref 21], gh S a b sc7 (uA ar7 19 (upd (ar7 19) n6 (((ar4 19) n6) + x7))) lo, ex, 0, 0)) rfl ?_
    refine to_ialR (i := n6) (v := (((uA ar7 19 (upd (ar7 19) n6 (((ar4 19) n6) + x7))) 21) n6)) rfl (by decide) rfl (by omega) (by omega) rfl ?_
    refine to_n 2 (fr' := (86, [(0, .ref 0), (1, .int (nI k1)), (2, .int (nI n6))], [.int ((((uA ar7 19 (upd (ar7 19) n6 (((ar4 19) n6) + x7))) 21) n6) + 1), .int (nI n6), .ref 21], gh S a b sc7 (uA ar7 19 (upd (ar7 19) n6 (((ar4 19) n6) + x7))) lo, ex, 0, 0)) rfl ?_
    refine to_iasR (i := n6) (h' := gh S a b sc7 (uA (uA ar7 19 (upd (ar7 19) n6 (((ar4 19) n6) + x7))) 21 (upd ((uA ar7 19 (upd (ar7 19) n6 (((ar4 19) n6) + x7))) 21) n6 ((((uA ar7 19 (upd (ar7 19) n6 (((ar4 19) n6) + x7))) 21) n6) + 1))) lo) rfl rfl (by omega) (by omega) rfl ?_
    have hI9 := ia_21 (g := (upd ((uA ar7 19 (upd (ar7 19) n6 (((ar4 19) n6) + x7))) 21) n6 ((((uA ar7 19 (upd (ar7 19) n6 (((ar4 19) n6) + x7))) 21) n6) + 1))) hI8
    have hF9 := fr_a (c := 21) (g := (upd ((uA ar7 19 (upd (ar7 19) n6 (((ar4 19) n6) + x7))) 21) n6 ((((uA ar7 19 (upd (ar7 19) n6 (((ar4 19) n6) + x7))) 21) n6) + 1))) hF8 (by decide)
    exact to_rt (i := .return_) (tg := []) rfl rfl ⟨_, _, ⟨hI9, hF9⟩, rfl⟩
  · refine to_cp (q := 14) (M1 := an_X1_has) (rest := []) rfl rfl (by decide) rfl ⟨_, rfl⟩ (cr_has_0 e5 w6 (d + 3)) (fun x6 hx6 => ?_)
    obtain rfl := hx6
    refine to_eq (fr' := (53, [(0, .ref 0), (1, .int (nI k1)), (2, .int ((ar 11) k1))], [.int 0], gh S a b sc4 ar4 lo, ex, 0, 0)) rfl ?_
    refine to_n 1 (fr' := (87, [(0, .ref 0), (1, .int (nI k1)), (2, .int ((ar 11) k1))], [], gh S a b sc4 ar4 lo, ex, 0, 0)) rfl ?_
    exact to_rt (i := .return_) (tg := []) rfl rfl ⟨_, _, ⟨hI4, hF4⟩, rfl⟩
set_option maxRecDepth 20000 in
theorem sf_X9_fireEats {X : Nat × (Nat → Int32)} {S a b : Nat} {sc : Nat → Int32} {ar : Nat → Nat → Int32} {lo : Nat → Int64} {ex : Bool} (hW : Wd S a b) (hI : Iv S sc ar)  (d : Nat)  : cv X S a b (d + 6) 99 [.ref 0] sc ar lo ex (fun sc' ar' => Iv S sc' ar' ∧ Fr [3300, 3301, 3304] [5, 8, 9, 10, 11, 17, 18, 19, 21, 34, 35] sc ar sc' ar') := by
  obtain ⟨ha1, ha8, hb1, hb8, hab, hS1, hS⟩ := id hW
  refine cv_of (M := an_X9_fireEats) rfl (Nat.le_of_ble_eq_true rfl) ?_
  have hF : Fr [3300, 3301, 3304] [5, 8, 9, 10, 11, 17, 18, 19, 21, 34, 35] sc ar sc ar := fr_0
  refine to_eq (fr' := (0, [(0, .ref 0)], [], gh S a b sc ar lo, ex, 0, 0)) rfl ?_
  have c2 : ∀ m : Nat, ∀ (i : Nat) (sc1 : Nat → Int32) (ar1 : Nat → Nat → Int32), i + m = S → Iv S sc1 ar1 → Fr [3300, 3301, 3304] [5, 8, 9, 10, 11, 17, 18, 19, 21, 34, 35] sc ar sc1 ar1 → ag_To X (d + 5) an_X9_fireEats (2, [(0, .ref 0), (1, .int (nI i))], [], gh S a b sc1 ar1 lo, ex, 0, 0) (qv S a b lo ex (fun sc' ar' => Iv S sc' ar' ∧ Fr [3300, 3301, 3304] [5, 8, 9, 10, 11, 17, 18, 19, 21, 34, 35] sc ar sc' ar')) := by
    intro m
    induction m with
    | zero =>
      intro i sc1 ar1 hm hI1 hF1
      refine to_n 2 (fr' := (4, [(0, .ref 0), (1, .int (nI i))], [.ref 0, .int (nI i)], gh S a b sc1 ar1 lo, ex, 0, 0)) rfl ?_
      refine to_get rfl rfl rfl rfl ?_
      refine to_get rfl rfl rfl rfl ?_
      refine to_nc_ge_T (t := 106) (x := i) (y := S) rfl (by omega) (by omega) (by omega) ?_
      exact to_rt (i := .return_) (tg := []) rfl rfl ⟨_, _, ⟨hI1, hF1⟩, rfl⟩
    | succ m ih =>
      intro i sc1 ar1 hm hI1 hF1
      refine to_n 2 (fr' := (4, [(0, .ref 0), (1, .int (nI i))], [.ref 0, .int (nI i)], gh S a b sc1 ar1 lo, ex, 0, 0)) rfl ?_
      refine to_get rfl rfl rfl rfl ?_
      refine to_get rfl rfl rfl rfl ?_
      refine to_nc_ge_F (t := 106) (x := i) (y := S) rfl (by omega) (by omega) (by omega) ?_
      refine to_n 1 (fr' := (14, [(0, .ref 0), (1, .int (nI i))], [.ref 0], gh S a b sc1 ar1 lo, ex, 0, 0)) rfl ?_
      refine to_get rfl rfl rfl rfl ?_
      refine to_get rfl rfl rfl rfl ?_
      refine to_n 1 (fr' := (21, [(0, .ref 0), (1, .int (nI i))], [.int (nI i), .ref 5], gh S a b sc1 ar1 lo, ex, 0, 0)) rfl ?_
      refine to_ialR (i := i) (v := ((ar1 5) i)) rfl (by decide) rfl (by omega) (by omega) rfl ?_
      refine to_n 1 (fr' := (23, [(0, .ref 0), (1, .int (nI i))], [.int 1, .int ((ar1 5) i)], gh S a b sc1 ar1 lo, ex, 0, 0)) rfl ?_
      refine to_ic_eq (t := 29) rfl (fun q2 => ?_) (fun q2 => ?_)
      · refine to_n 1 (fr' := (30, [(0, .ref 0), (1, .int (nI i))], [.ref 0], gh S a b sc1 ar1 lo, ex, 0, 0)) rfl ?_
        refine to_get rfl rfl rfl rfl ?_
        refine to_get rfl rfl rfl rfl ?_
        refine to_n 1 (fr' := (37, [(0, .ref 0), (1, .int (nI i))], [.int (nI i), .ref 10], gh S a b sc1 ar1 lo, ex, 0, 0)) rfl ?_
        refine to_ialR (i := i) (v := ((ar1 10) i)) rfl (by decide) rfl (by omega) (by omega) rfl ?_
        refine to_n 2 (fr' := (40, [(0, .ref 0), (1, .int (nI i))], [.ref 0, .int 4, .int ((ar1 10) i)], gh S a b sc1 ar1 lo, ex, 0, 0)) rfl ?_
        refine to_get rfl rfl rfl rfl ?_
        refine to_get rfl rfl rfl rfl ?_
        refine to_n 1 (fr' := (47, [(0, .ref 0), (1, .int (nI i))], [.int (nI i), .ref 8, .int 4, .int ((ar1 10) i)], gh S a b sc1 ar1 lo, ex, 0, 0)) rfl ?_
        refine to_ialR (i := i) (v := ((ar1 8) i)) rfl (by decide) rfl (by omega) (by omega) rfl ?_
        refine to_n 1 (fr' := (49, [(0, .ref 0), (1, .int (nI i))], [.int (4 * ((ar1 8) i)), .int ((ar1 10) i)], gh S a b sc1 ar1 lo, ex, 0, 0)) rfl ?_
        refine to_ic_lt (t := 60) rfl (fun q3 => ?_) (fun q3 => ?_)
        · refine to_n 1 (fr' := (61, [(0, .ref 0), (1, .int (nI i))], [.ref 0], gh S a b sc1 ar1 lo, ex, 0, 0)) rfl ?_
          refine to_get rfl rfl rfl rfl ?_
          refine to_get rfl rfl rfl rfl ?_
          refine to_n 2 (fr' := (69, [(0, .ref 0), (1, .int (nI i))], [.int (nI i), .ref 8, .int (nI i), .ref 8], gh S a b sc1 ar1 lo, ex, 0, 0)) rfl ?_
          refine to_ialR (i := i) (v := ((ar1 8) i)) rfl (by decide) rfl (by omega) (by omega) rfl ?_
          refine to_n 2 (fr' := (72, [(0, .ref 0), (1, .int (nI i))], [.int (((ar1 8) i) - 1), .int (nI i), .ref 8], gh S a b sc1 ar1 lo, ex, 0, 0)) rfl ?_
          refine to_iasR (i := i) (h' := gh S a b sc1 (uA ar1 8 (upd (ar1 8) i (((ar1 8) i) - 1))) lo) rfl rfl (by omega) (by omega) rfl ?_
          have hI4 := ia_8 (g := (upd (ar1 8) i (((ar1 8) i) - 1))) hI1
          have hF4 := fr_a (c := 8) (g := (upd (ar1 8) i (((ar1 8) i) - 1))) hF1 (by decide)
          refine to_n 1 (fr' := (74, [(0, .ref 0), (1, .int (nI i))], [.ref 0], gh S a b sc1 (uA ar1 8 (upd (ar1 8) i (((ar1 8) i) - 1))) lo, ex, 0, 0)) rfl ?_
          refine to_get rfl rfl rfl rfl ?_
          refine to_get rfl rfl rfl rfl ?_
          refine to_n 1 (fr' := (81, [(0, .ref 0), (1, .int (nI i))], [.int (nI i), .ref 8], gh S a b sc1 (uA ar1 8 (upd (ar1 8) i (((ar1 8) i) - 1))) lo, ex, 0, 0)) rfl ?_
          refine to_ialR (i := i) (v := ((upd (ar1 8) i (((ar1 8) i) - 1)) i)) rfl (by decide) rfl (by omega) (by omega) rfl ?_
          refine to_if_gt (t := 100) rfl (fun q5 => ?_) (fun q5 => ?_)
          · refine to_n 1 (fr' := (103, [(0, .ref 0), (1, .int ((nI i) + 1))], [], gh S a b sc1 (uA ar1 8 (upd (ar1 8) i (((ar1 8) i) - 1))) lo, ex, 0, 0)) rfl ?_
            rw [nI_1 i]
            refine to_n 1 (fr' := (2, [(0, .ref 0), (1, .int (nI (i + 1)))], [], gh S a b sc1 (uA ar1 8 (upd (ar1 8) i (((ar1 8) i) - 1))) lo, ex, 0, 0)) rfl ?_
            exact ih (i + 1) sc1 (uA ar1 8 (upd (ar1 8) i (((ar1 8) i) - 1))) (by omega) hI4 hF4
          · refine to_n 1 (fr' := (86, [(0, .ref 0), (1, .int (nI i))], [.ref 0], gh S a b sc1 (uA ar1 8 (upd (ar1 8) i (((ar1 8) i) - 1))) lo, ex, 0, 0)) rfl ?_
            refine to_get rfl rfl rfl rfl ?_
            refine to_get rfl rfl rfl rfl ?_
            refine to_n 2 (fr' := (94, [(0, .ref 0), (1, .int (nI i))], [.int 2, .int (nI i), .ref 5], gh S a b sc1 (uA ar1 8 (upd (ar1 8) i (((ar1 8) i) - 1))) lo, ex, 0, 0)) rfl ?_
            refine to_iasR (i := i) (h' := gh S a b sc1 (uA (uA ar1 8 (upd (ar1 8) i (((ar1 8) i) - 1))) 5 (upd ((uA ar1 8 (upd (ar1 8) i (((ar1 8) i) - 1))) 5) i 2)) lo) rfl rfl (by omega) (by omega) rfl ?_
            have hI6 := ia_5 (g := (upd ((uA ar1 8 (upd (ar1 8) i (((ar1 8) i) - 1))) 5) i 2)) hI4
            have hF6 := fr_a (c := 5) (g := (upd ((uA ar1 8 (upd (ar1 8) i (((ar1 8) i) - 1))) 5) i 2)) hF4 (by decide)
            refine to_n 2 (fr' := (97, [(0, .ref 0), (1, .int (nI i))], [.int (nI i), .ref 0], gh S a b sc1 (uA (uA ar1 8 (upd (ar1 8) i (((ar1 8) i) - 1))) 5 (upd ((uA ar1 8 (upd (ar1 8) i (((ar1 8) i) - 1))) 5) i 2)) lo, ex, 0, 0)) rfl ?_
            refine to_cv (q := 101) (M1 := an_X9_leave) (rest := []) rfl rfl (by decide) rfl ⟨_, rfl⟩ (sf_X9_leave hW hI6 i (by omega) (d + 3)) (fun sc7 ar7 hx7 => ?_)
            obtain ⟨hI7, hG7⟩ := hx7
            have hF7 := fr_t hF6 hG7 (by decide) (by decide)
            refine to_eq (fr' := (100, [(0, .ref 0), (1, .int (nI i))], [], gh S a b sc7 ar7 lo, ex, 0, 0)) rfl ?_
            refine to_n 1 (fr' := (103, [(0, .ref 0), (1, .int ((nI i) + 1))], [], gh S a b sc7 ar7 lo, ex, 0, 0)) rfl ?_
            rw [nI_1 i]
            refine to_n 1 (fr' := (2, [(0, .ref 0), (1, .int (nI (i + 1)))], [], gh S a b sc7 ar7 lo, ex, 0, 0)) rfl ?_
            exact ih (i + 1) sc7 ar7 (by omega) hI7 hF7
        · refine to_n 2 (fr' := (54, [(0, .ref 0), (1, .int (nI i))], [.int (nI i), .ref 0], gh S a b sc1 ar1 lo, ex, 0, 0)) rfl ?_
          refine to_cv (q := 100) (M1 := an_X9_putOut) (rest := []) rfl rfl (by decide) rfl ⟨_, rfl⟩ (sf_X9_putOut hW hI1 i (by omega) d) (fun sc8 ar8 hx8 => ?_)
          obtain ⟨hI8, hG8⟩ := hx8
          have hF8 := fr_t hF1 hG8 (by decide) (by decide)
          refine to_eq (fr' := (57, [(0, .ref 0), (1, .int (nI i))], [], gh S a b sc8 ar8 lo, ex, 0, 0)) rfl ?_
          refine to_n 2 (fr' := (103, [(0, .ref 0), (1, .int ((nI i) + 1))], [], gh S a b sc8 ar8 lo, ex, 0, 0)) rfl ?_
          rw [nI_1 i]
          refine to_n 1 (fr' := (2, [(0, .ref 0), (1, .int (nI (i + 1)))], [], gh S a b sc8 ar8 lo, ex, 0, 0)) rfl ?_
          exact ih (i + 1) sc8 ar8 (by omega) hI8 hF8
      · refine to_n 2 (fr' := (103, [(0, .ref 0), (1, .int ((nI i) + 1))], [], gh S a b sc1 ar1 lo, ex, 0, 0)) rfl ?_
        rw [nI_1 i]
        refine to_n 1 (fr' := (2, [(0, .ref 0), (1, .int (nI (i + 1)))], [], gh S a b sc1 ar1 lo, ex, 0, 0)) rfl ?_
        exact ih (i + 1) sc1 ar1 (by omega) hI1 hF1
  refine to_n 2 (fr' := (2, [(0, .ref 0), (1, .int 0)], [], gh S a b sc ar lo, ex, 0, 0)) rfl ?_
  exact c2 (S - 0) 0 sc ar (by omega) hI hF
set_option maxRecDepth 20000 in
theorem sf_X9_pullAt {X : Nat × (Nat → Int32)} {S a b : Nat} {sc : Nat → Int32} {ar : Nat → Nat → Int32} {lo : Nat → Int64} {ex : Bool} (hW : Wd S a b) (hI : Iv S sc ar) (k1 : Nat) (hk1 : k1 < S) (x1 : Int32) (d : Nat)  : cv X S a b (d + 2) 98 [.ref 0, .int (nI k1), .int x1] sc ar lo ex (fun sc' ar' => Iv S sc' ar' ∧ Fr [] [5, 8, 17, 18] sc ar sc' ar') := by
  obtain ⟨ha1, ha8, hb1, hb8, hab, hS1, hS⟩ := id hW
  refine cv_of (M := an_X9_pullAt) rfl (Nat.le_of_ble_eq_true rfl) ?_
  have hF : Fr [] [5, 8, 17, 18] sc ar sc ar := fr_0
  refine to_eq (fr' := (0, [(0, .ref 0), (1, .int (nI k1)), (2, .int x1)], [], gh S a b sc ar lo, ex, 0, 0)) rfl ?_
  refine to_n 1 (fr' := (1, [(0, .ref 0), (1, .int (nI k1)), (2, .int x1)], [.ref 0], gh S a b sc ar lo, ex, 0, 0)) rfl ?_
  refine to_get rfl rfl rfl rfl ?_
  refine to_get rfl rfl rfl rfl ?_
  refine to_n 2 (fr' := (9, [(0, .ref 0), (1, .int (nI k1)), (2, .int x1)], [.int (nI k1), .ref 8, .int (nI k1), .ref 8], gh S a b sc ar lo, ex, 0, 0)) rfl ?_
  refine to_ialR (i := k1) (v := ((ar 8) k1)) rfl (by decide) rfl (by omega) (by omega) rfl ?_
  refine to_n 2 (fr' := (12, [(0, .ref 0), (1, .int (nI k1)), (2, .int x1)], [.int (((ar 8) k1) - x1), .int (nI k1), .ref 8], gh S a b sc ar lo, ex, 0, 0)) rfl ?_
  refine to_iasR (i := k1) (h' := gh S a b sc (uA ar 8 (upd (ar 8) k1 (((ar 8) k1) - x1))) lo) rfl rfl (by omega) (by omega) rfl ?_
  have hI1 := ia_8 (g := (upd (ar 8) k1 (((ar 8) k1) - x1))) hI
  have hF1 := fr_a (c := 8) (g := (upd (ar 8) k1 (((ar 8) k1) - x1))) hF (by decide)
  refine to_n 1 (fr' := (14, [(0, .ref 0), (1, .int (nI k1)), (2, .int x1)], [.ref 0], gh S a b sc (uA ar 8 (upd (ar 8) k1 (((ar 8) k1) - x1))) lo, ex, 0, 0)) rfl ?_
  refine to_get rfl rfl rfl rfl ?_
  refine to_get rfl rfl rfl rfl ?_
  refine to_n 1 (fr' := (21, [(0, .ref 0), (1, .int (nI k1)), (2, .int x1)], [.int (nI k1), .ref 8], gh S a b sc (uA ar 8 (upd (ar 8) k1 (((ar 8) k1) - x1))) lo, ex, 0, 0)) rfl ?_
  refine to_ialR (i := k1) (v := ((upd (ar 8) k1 (((ar 8) k1) - x1)) k1)) rfl (by decide) rfl (by omega) (by omega) rfl ?_
  refine to_n 1 (fr' := (23, [(0, .ref 0), (1, .int (nI k1)), (2, .int x1)], [.int 1, .int ((upd (ar 8) k1 (((ar 8) k1) - x1)) k1)], gh S a b sc (uA ar 8 (upd (ar 8) k1 (((ar 8) k1) - x1))) lo, ex, 0, 0)) rfl ?_
  refine to_ic_ge (t := 54) rfl (fun q2 => ?_) (fun q2 => ?_)
  · exact to_rt (i := .return_) (tg := []) rfl rfl ⟨_, _, ⟨hI1, hF1⟩, rfl⟩
  · refine to_n 1 (fr' := (27, [(0, .ref 0), (1, .int (nI k1)), (2, .int x1)], [.ref 0], gh S a b sc (uA ar 8 (upd (ar 8) k1 (((ar 8) k1) - x1))) lo, ex, 0, 0)) rfl ?_
    refine to_get rfl rfl rfl rfl ?_
    refine to_get rfl rfl rfl rfl ?_
    refine to_n 2 (fr' := (35, [(0, .ref 0), (1, .int (nI k1)), (2, .int x1)], [.int 0, .int (nI k1), .ref 8], gh S a b sc (uA ar 8 (upd (ar 8) k1 (((ar 8) k1) - x1))) lo, ex, 0, 0)) rfl ?_
    refine to_iasR (i := k1) (h' := gh S a b sc (uA (uA ar 8 (upd (ar 8) k1 (((ar 8) k1) - x1))) 8 (upd (upd (ar 8) k1 (((ar 8) k1) - x1)) k1 0)) lo) rfl rfl (by omega) (by omega) rfl ?_
    have hI3 := ia_8 (g := (upd (upd (ar 8) k1 (((ar 8) k1) - x1)) k1 0)) hI1
    have hF3 := fr_a (c := 8) (g := (upd (upd (ar 8) k1 (((ar 8) k1) - x1)) k1 0)) hF1 (by decide)
    refine to_n 1 (fr' := (37, [(0, .ref 0), (1, .int (nI k1)), (2, .int x1)], [.ref 0], gh S a b sc (uA (uA ar 8 (upd (ar 8) k1 (((ar 8) k1) - x1))) 8 (upd (upd (ar 8) k1 (((ar 8) k1) - x1)) k1 0)) lo, ex, 0, 0)) rfl ?_
    refine to_get rfl rfl rfl rfl ?_
    refine to_get rfl rfl rfl rfl ?_
    refine to_n 2 (fr' := (45, [(0, .ref 0), (1, .int (nI k1)), (2, .int x1)], [.int 3, .int (nI k1), .ref 5], gh S a b sc (uA (uA ar 8 (upd (ar 8) k1 (((ar 8) k1) - x1))) 8 (upd (upd (ar 8) k1 (((ar 8) k1) - x1)) k1 0)) lo, ex, 0, 0)) rfl ?_
    refine to_iasR (i := k1) (h' := gh S a b sc (uA (uA (uA ar 8 (upd (ar 8) k1 (((ar 8) k1) - x1))) 8 (upd (upd (ar 8) k1 (((ar 8) k1) - x1)) k1 0)) 5 (upd ((uA (uA ar 8 (upd (ar 8) k1 (((ar 8) k1) - x1))) 8 (upd (upd (ar 8) k1 (((ar 8) k1) - x1)) k1 0)) 5) k1 3)) lo) rfl rfl (by omega) (by omega) rfl ?_
    have hI4 := ia_5 (g := (upd ((uA (uA ar 8 (upd (ar 8) k1 (((ar 8) k1) - x1))) 8 (upd (upd (ar 8) k1 (((ar 8) k1) - x1)) k1 0)) 5) k1 3)) hI3
    have hF4 := fr_a (c := 5) (g := (upd ((uA (uA ar 8 (upd (ar 8) k1 (((ar 8) k1) - x1))) 8 (upd (upd (ar 8) k1 (((ar 8) k1) - x1)) k1 0)) 5) k1 3)) hF3 (by decide)
    refine to_n 1 (fr' := (47, [(0, .ref 0), (1, .int (nI k1)), (2, .int x1)], [.ref 0], gh S a b sc (uA (uA (uA ar 8 (upd (ar 8) k1 (((ar 8) k1) - x1))) 8 (upd (upd (ar 8) k1 (((ar 8) k1) - x1)) k1 0)) 5 (upd ((uA (uA ar 8 (upd (ar 8) k1 (((ar 8) k1) - x1))) 8 (upd (upd (ar 8) k1 (((ar 8) k1) - x1)) k1 0)) 5) k1 3)) lo, ex, 0, 0)) rfl ?_
    refine to_get rfl rfl rfl rfl ?_
    refine to_n 1 (fr' := (51, [(0, .ref 0), (1, .int (nI k1)), (2, .int x1)], [.int (nI k1), .ref 13], gh S a b sc (uA (uA (uA ar 8 (upd (ar 8) k1 (((ar 8) k1) - x1))) 8 (upd (upd (ar 8) k1 (((ar 8) k1) - x1)) k1 0)) 5 (upd ((uA (uA ar 8 (upd (ar 8) k1 (((ar 8) k1) - x1))) 8 (upd (upd (ar 8) k1 (((ar 8) k1) - x1)) k1 0)) 5) k1 3)) lo, ex, 0, 0)) rfl ?_
    refine to_cv (q := 16) (M1 := an_X1_forget) (rest := []) rfl rfl (by decide) rfl ⟨_, rfl⟩ (sf_X1_forget hW hI4 (nI k1) d) (fun sc5 ar5 hx5 => ?_)
    obtain ⟨hI5, hG5⟩ := hx5
    have hF5 := fr_t hF4 hG5 (by decide) (by decide)
    refine to_eq (fr' := (54, [(0, .ref 0), (1, .int (nI k1)), (2, .int x1)], [], gh S a b sc5 ar5 lo, ex, 0, 0)) rfl ?_
    exact to_rt (i := .return_) (tg := []) rfl rfl ⟨_, _, ⟨hI5, hF5⟩, rfl⟩
set_option maxRecDepth 20000 in
theorem sf_X9_crewsWork {X : Nat × (Nat → Int32)} {S a b : Nat} {sc : Nat → Int32} {ar : Nat → Nat → Int32} {lo : Nat → Int64} {ex : Bool} (hW : Wd S a b) (hI : Iv S sc ar)  (d : Nat)  : cv X S a b (d + 3) 97 [.ref 0] sc ar lo ex (fun sc' ar' => Iv S sc' ar' ∧ Fr [] [5, 8, 10, 17, 18] sc ar sc' ar') := by
  obtain ⟨ha1, ha8, hb1, hb8, hab, hS1, hS⟩ := id hW
  refine cv_of (M := an_X9_crewsWork) rfl (Nat.le_of_ble_eq_true rfl) ?_
  have hF : Fr [] [5, 8, 10, 17, 18] sc ar sc ar := fr_0
  refine to_eq (fr' := (0, [(0, .ref 0)], [], gh S a b sc ar lo, ex, 0, 0)) rfl ?_
  have c2 : ∀ m : Nat, ∀ (i : Nat) (sc1 : Nat → Int32) (ar1 : Nat → Nat → Int32), 9 ≤ i + m → i ≤ 9 → Iv S sc1 ar1 → Fr [] [5, 8, 10, 17, 18] sc ar sc1 ar1 → ag_To X (d + 2) an_X9_crewsWork (2, [(0, .ref 0), (1, .int (nI i))], [], gh S a b sc1 ar1 lo, ex, 0, 0) (qv S a b lo ex (fun sc' ar' => Iv S sc' ar' ∧ Fr [] [5, 8, 10, 17, 18] sc ar sc' ar')) := by
    intro m
    induction m with
    | zero =>
      intro i sc1 ar1 hm hc2_0 hI1 hF1
      refine to_n 2 (fr' := (4, [(0, .ref 0), (1, .int (nI i))], [.ref 0, .int (nI i)], gh S a b sc1 ar1 lo, ex, 0, 0)) rfl ?_
      refine to_get rfl rfl rfl rfl ?_
      obtain ⟨n2, hn2, e2⟩ := iv_s1308 hI1
      refine to_getR (v := (nI n2)) rfl rfl rfl rfl e2 ?_
      refine to_nc_ge_T (t := 153) (x := i) (y := n2) rfl (by omega) (by omega) (by omega) ?_
      exact to_rt (i := .return_) (tg := []) rfl rfl ⟨_, _, ⟨hI1, hF1⟩, rfl⟩
    | succ m ih =>
      intro i sc1 ar1 hm hc2_0 hI1 hF1
      refine to_n 2 (fr' := (4, [(0, .ref 0), (1, .int (nI i))], [.ref 0, .int (nI i)], gh S a b sc1 ar1 lo, ex, 0, 0)) rfl ?_
      refine to_get rfl rfl rfl rfl ?_
      obtain ⟨n3, hn3, e3⟩ := iv_s1308 hI1
      refine to_getR (v := (nI n3)) rfl rfl rfl rfl e3 ?_
      refine to_nc_ge (t := 153) (x := i) (y := n3) rfl (by omega) (by omega) (fun q4 => ?_) (fun q4 => ?_)
      · exact to_rt (i := .return_) (tg := []) rfl rfl ⟨_, _, ⟨hI1, hF1⟩, rfl⟩
      · refine to_n 1 (fr' := (14, [(0, .ref 0), (1, .int (nI i))], [.ref 0], gh S a b sc1 ar1 lo, ex, 0, 0)) rfl ?_
        refine to_get rfl rfl rfl rfl ?_
        refine to_get rfl rfl rfl rfl ?_
        refine to_n 1 (fr' := (21, [(0, .ref 0), (1, .int (nI i))], [.int (nI i), .ref 17], gh S a b sc1 ar1 lo, ex, 0, 0)) rfl ?_
        rcases iv_a17 hI1 i with e5 | ⟨n5, hn5, e5⟩
        · refine to_ialR (i := i) (v := (-1)) rfl (by decide) rfl (by omega) (by omega) e5 ?_
          refine to_n 2 (fr' := (24, [(0, .ref 0), (1, .int (nI i)), (2, .int (-1))], [.ref 0], gh S a b sc1 ar1 lo, ex, 0, 0)) rfl ?_
          refine to_get rfl rfl rfl rfl ?_
          refine to_n 1 (fr' := (28, [(0, .ref 0), (1, .int (nI i)), (2, .int (-1))], [.int (-1), .ref 1], gh S a b sc1 ar1 lo, ex, 0, 0)) rfl ?_
          refine to_cp (q := 2) (M1 := an_X0_has) (rest := []) rfl rfl (by decide) rfl ⟨_, rfl⟩ (sf_has_0  (has_neg (by decide)) (d + 1)) (fun x6 hx6 => ?_)
          obtain rfl := hx6
          refine to_eq (fr' := (31, [(0, .ref 0), (1, .int (nI i)), (2, .int (-1))], [.int 0], gh S a b sc1 ar1 lo, ex, 0, 0)) rfl ?_
          refine to_n 2 (fr' := (150, [(0, .ref 0), (1, .int ((nI i) + 1)), (2, .int (-1))], [], gh S a b sc1 ar1 lo, ex, 0, 0)) rfl ?_
          rw [nI_1 i]
          refine to_n 1 (fr' := (2, [(0, .ref 0), (1, .int (nI (i + 1))), (2, .int (-1))], [], gh S a b sc1 ar1 lo, ex, 0, 0)) rfl ?_
          refine to_lv (lv := [(0, .ref 0), (1, .int (nI (i + 1)))]) rfl ⟨rfl, rfl, trivial⟩ ?_
          exact ih (i + 1) sc1 ar1 (by omega) (by omega) hI1 hF1
        · refine to_ialR (i := i) (v := (nI n5)) rfl (by decide) rfl (by omega) (by omega) e5 ?_
          refine to_n 2 (fr' := (24, [(0, .ref 0), (1, .int (nI i)), (2, .int (nI n5))], [.ref 0], gh S a b sc1 ar1 lo, ex, 0, 0)) rfl ?_
          refine to_get rfl rfl rfl rfl ?_
          refine to_n 1 (fr' := (28, [(0, .ref 0), (1, .int (nI i)), (2, .int (nI n5))], [.int (nI n5), .ref 1], gh S a b sc1 ar1 lo, ex, 0, 0)) rfl ?_
          rcases Nat.lt_or_ge n5 S with w7 | w7
          · refine to_cp (q := 2) (M1 := an_X0_has) (rest := []) rfl rfl (by decide) rfl ⟨_, rfl⟩ (sf_has_1 (n := n5)  (by omega) (d + 1)) (fun x7 hx7 => ?_)
            obtain rfl := hx7
            refine to_eq (fr' := (31, [(0, .ref 0), (1, .int (nI i)), (2, .int (nI n5))], [.int 1], gh S a b sc1 ar1 lo, ex, 0, 0)) rfl ?_
            refine to_n 2 (fr' := (35, [(0, .ref 0), (1, .int (nI i)), (2, .int (nI n5))], [.ref 0], gh S a b sc1 ar1 lo, ex, 0, 0)) rfl ?_
            refine to_get rfl rfl rfl rfl ?_
            refine to_n 1 (fr' := (39, [(0, .ref 0), (1, .int (nI i)), (2, .int (nI n5))], [.ref 0, .ref 1], gh S a b sc1 ar1 lo, ex, 0, 0)) rfl ?_
            refine to_get rfl rfl rfl rfl ?_
            refine to_get rfl rfl rfl rfl ?_
            refine to_n 1 (fr' := (46, [(0, .ref 0), (1, .int (nI i)), (2, .int (nI n5))], [.int (nI i), .ref 16, .ref 1], gh S a b sc1 ar1 lo, ex, 0, 0)) rfl ?_
            obtain ⟨n8, hn8, e8⟩ := iv_a16 hI1 i
            refine to_ialR (i := i) (v := (nI n8)) rfl (by decide) rfl (by omega) (by omega) e8 ?_
            refine to_n 1 (fr' := (48, [(0, .ref 0), (1, .int (nI i)), (2, .int (nI n5))], [.int (nI n5), .int (nI n8), .ref 1], gh S a b sc1 ar1 lo, ex, 0, 0)) rfl ?_
            refine to_cp (q := 4) (M1 := an_X0_areBeside) (rest := []) rfl rfl (by decide) rfl ⟨_, rfl⟩ (sf_X0_areBeside hW hI1 n8 (by omega) n5 (by omega) d) (fun x9 hx9 => ?_)
            obtain ⟨n9, hn9, rfl⟩ := hx9
            refine to_eq (fr' := (51, [(0, .ref 0), (1, .int (nI i)), (2, .int (nI n5))], [.int (nI n9)], gh S a b sc1 ar1 lo, ex, 0, 0)) rfl ?_
            refine to_nf_ne (t := 57) (x := n9) rfl (by omega) (fun q10 => ?_) (fun q10 => ?_)
            · refine to_n 1 (fr' := (58, [(0, .ref 0), (1, .int (nI i)), (2, .int (nI n5))], [.ref 0], gh S a b sc1 ar1 lo, ex, 0, 0)) rfl ?_
              refine to_get rfl rfl rfl rfl ?_
              refine to_get rfl rfl rfl rfl ?_
              refine to_n 1 (fr' := (65, [(0, .ref 0), (1, .int (nI i)), (2, .int (nI n5))], [.int (nI i), .ref 18], gh S a b sc1 ar1 lo, ex, 0, 0)) rfl ?_
              refine to_zalR (i := i) (v := ((ar1 18) i)) rfl rfl (by omega) (by omega) rfl ?_
              refine to_if_eq (t := 86) rfl (fun q11 => ?_) (fun q11 => ?_)
              · refine to_n 1 (fr' := (87, [(0, .ref 0), (1, .int (nI i)), (2, .int (nI n5))], [.ref 0], gh S a b sc1 ar1 lo, ex, 0, 0)) rfl ?_
                refine to_get rfl rfl rfl rfl ?_
                refine to_get rfl rfl rfl rfl ?_
                refine to_n 1 (fr' := (94, [(0, .ref 0), (1, .int (nI i)), (2, .int (nI n5))], [.int (nI n5), .ref 11], gh S a b sc1 ar1 lo, ex, 0, 0)) rfl ?_
                refine to_ialR (i := n5) (v := ((ar1 11) n5)) rfl (by decide) rfl (by omega) (by omega) rfl ?_
                refine to_n 1 (fr' := (96, [(0, .ref 0), (1, .int (nI i)), (2, .int (nI n5))], [.int (nI i), .int ((ar1 11) n5)], gh S a b sc1 ar1 lo, ex, 0, 0)) rfl ?_
                refine to_ic_ne (t := 147) rfl (fun q12 => ?_) (fun q12 => ?_)
                · refine to_n 1 (fr' := (150, [(0, .ref 0), (1, .int ((nI i) + 1)), (2, .int (nI n5))], [], gh S a b sc1 ar1 lo, ex, 0, 0)) rfl ?_
                  rw [nI_1 i]
                  refine to_n 1 (fr' := (2, [(0, .ref 0), (1, .int (nI (i + 1))), (2, .int (nI n5))], [], gh S a b sc1 ar1 lo, ex, 0, 0)) rfl ?_
                  refine to_lv (lv := [(0, .ref 0), (1, .int (nI (i + 1)))]) rfl ⟨rfl, rfl, trivial⟩ ?_
                  exact ih (i + 1) sc1 ar1 (by omega) (by omega) hI1 hF1
                · refine to_n 1 (fr' := (100, [(0, .ref 0), (1, .int (nI i)), (2, .int (nI n5))], [.ref 0], gh S a b sc1 ar1 lo, ex, 0, 0)) rfl ?_
                  refine to_get rfl rfl rfl rfl ?_
                  refine to_n 1 (fr' := (104, [(0, .ref 0), (1, .int (nI i)), (2, .int (nI n5))], [.ref 0, .ref 1], gh S a b sc1 ar1 lo, ex, 0, 0)) rfl ?_
                  refine to_get rfl rfl rfl rfl ?_
                  refine to_get rfl rfl rfl rfl ?_
                  refine to_n 1 (fr' := (111, [(0, .ref 0), (1, .int (nI i)), (2, .int (nI n5))], [.int (nI i), .ref 16, .ref 1], gh S a b sc1 ar1 lo, ex, 0, 0)) rfl ?_
                  refine to_ialR (i := i) (v := (nI n8)) rfl (by decide) rfl (by omega) (by omega) e8 ?_
                  refine to_cp (q := 9) (M1 := an_X0_wellNear) (rest := []) rfl rfl (by decide) rfl ⟨_, rfl⟩ (sf_X0_wellNear hW hI1 n8 (by omega) d) (fun x13 hx13 => ?_)
                  obtain ⟨n13, hn13, rfl⟩ := hx13
                  refine to_eq (fr' := (115, [(0, .ref 0), (1, .int (nI i)), (2, .int (nI n5))], [.int (nI n13)], gh S a b sc1 ar1 lo, ex, 0, 0)) rfl ?_
                  refine to_nf_eq (t := 122) (x := n13) rfl (by omega) (fun q14 => ?_) (fun q14 => ?_)
                  · refine to_n 3 (fr' := (125, [(0, .ref 0), (1, .int (nI i)), (2, .int (nI n5)), (3, .int 1)], [.ref 0], gh S a b sc1 ar1 lo, ex, 0, 0)) rfl ?_
                    refine to_get rfl rfl rfl rfl ?_
                    refine to_get rfl rfl rfl rfl ?_
                    refine to_n 2 (fr' := (133, [(0, .ref 0), (1, .int (nI i)), (2, .int (nI n5)), (3, .int 1)], [.int (nI n5), .ref 10, .int (nI n5), .ref 10], gh S a b sc1 ar1 lo, ex, 0, 0)) rfl ?_
                    refine to_ialR (i := n5) (v := ((ar1 10) n5)) rfl (by decide) rfl (by omega) (by omega) rfl ?_
                    refine to_n 2 (fr' := (136, [(0, .ref 0), (1, .int (nI i)), (2, .int (nI n5)), (3, .int 1)], [.ref 0, .int 1, .int ((ar1 10) n5), .int (nI n5), .ref 10], gh S a b sc1 ar1 lo, ex, 0, 0)) rfl ?_
                    refine to_get rfl rfl rfl rfl ?_
                    refine to_get rfl rfl rfl rfl ?_
                    refine to_n 1 (fr' := (143, [(0, .ref 0), (1, .int (nI i)), (2, .int (nI n5)), (3, .int 1)], [.int (nI i), .ref 15, .int 1, .int ((ar1 10) n5), .int (nI n5), .ref 10], gh S a b sc1 ar1 lo, ex, 0, 0)) rfl ?_
                    refine to_ialR (i := i) (v := ((ar1 15) i)) rfl (by decide) rfl (by omega) (by omega) rfl ?_
                    refine to_n 2 (fr' := (146, [(0, .ref 0), (1, .int (nI i)), (2, .int (nI n5)), (3, .int 1)], [.int (((ar1 10) n5) + (1 * ((ar1 15) i))), .int (nI n5), .ref 10], gh S a b sc1 ar1 lo, ex, 0, 0)) rfl ?_
                    refine to_iasR (i := n5) (h' := gh S a b sc1 (uA ar1 10 (upd (ar1 10) n5 (((ar1 10) n5) + (1 * ((ar1 15) i))))) lo) rfl rfl (by omega) (by omega) rfl ?_
                    have hI15 := ia_10 (g := (upd (ar1 10) n5 (((ar1 10) n5) + (1 * ((ar1 15) i))))) hI1
                    have hF15 := fr_a (c := 10) (g := (upd (ar1 10) n5 (((ar1 10) n5) + (1 * ((ar1 15) i))))) hF1 (by decide)
                    refine to_n 1 (fr' := (150, [(0, .ref 0), (1, .int ((nI i) + 1)), (2, .int (nI n5)), (3, .int 1)], [], gh S a b sc1 (uA ar1 10 (upd (ar1 10) n5 (((ar1 10) n5) + (1 * ((ar1 15) i))))) lo, ex, 0, 0)) rfl ?_
                    rw [nI_1 i]
                    refine to_n 1 (fr' := (2, [(0, .ref 0), (1, .int (nI (i + 1))), (2, .int (nI n5)), (3, .int 1)], [], gh S a b sc1 (uA ar1 10 (upd (ar1 10) n5 (((ar1 10) n5) + (1 * ((ar1 15) i))))) lo, ex, 0, 0)) rfl ?_
                    refine to_lv (lv := [(0, .ref 0), (1, .int (nI (i + 1)))]) rfl ⟨rfl, rfl, trivial⟩ ?_
                    exact ih (i + 1) sc1 (uA ar1 10 (upd (ar1 10) n5 (((ar1 10) n5) + (1 * ((ar1 15) i))))) (by omega) (by omega) hI15 hF15
                  · refine to_n 4 (fr' := (125, [(0, .ref 0), (1, .int (nI i)), (2, .int (nI n5)), (3, .int 2)], [.ref 0], gh S a b sc1 ar1 lo, ex, 0, 0)) rfl ?_
                    refine to_get rfl rfl rfl rfl ?_
                    refine to_get rfl rfl rfl rfl ?_
                    refine to_n 2 (fr' := (133, [(0, .ref 0), (1, .int (nI i)), (2, .int (nI n5)), (3, .int 2)], [.int (nI n5), .ref 10, .int (nI n5), .ref 10], gh S a b sc1 ar1 lo, ex, 0, 0)) rfl ?_
                    refine to_ialR (i := n5) (v := ((ar1 10) n5)) rfl (by decide) rfl (by omega) (by omega) rfl ?_
                    refine to_n 2 (fr' := (136, [(0, .ref 0), (1, .int (nI i)), (2, .int (nI n5)), (3, .int 2)], [.ref 0, .int 2, .int ((ar1 10) n5), .int (nI n5), .ref 10], gh S a b sc1 ar1 lo, ex, 0, 0)) rfl ?_
                    refine to_get rfl rfl rfl rfl ?_
                    refine to_get rfl rfl rfl rfl ?_
                    refine to_n 1 (fr' := (143, [(0, .ref 0), (1, .int (nI i)), (2, .int (nI n5)), (3, .int 2)], [.int (nI i), .ref 15, .int 2, .int ((ar1 10) n5), .int (nI n5), .ref 10], gh S a b sc1 ar1 lo, ex, 0, 0)) rfl ?_
                    refine to_ialR (i := i) (v := ((ar1 15) i)) rfl (by decide) rfl (by omega) (by omega) rfl ?_
                    refine to_n 2 (fr' := (146, [(0, .ref 0), (1, .int (nI i)), (2, .int (nI n5)), (3, .int 2)], [.int (((ar1 10) n5) + (2 * ((ar1 15) i))), .int (nI n5), .ref 10], gh S a b sc1 ar1 lo, ex, 0, 0)) rfl ?_
                    refine to_iasR (i := n5) (h' := gh S a b sc1 (uA ar1 10 (upd (ar1 10) n5 (((ar1 10) n5) + (2 * ((ar1 15) i))))) lo) rfl rfl (by omega) (by omega) rfl ?_
                    have hI16 := ia_10 (g := (upd (ar1 10) n5 (((ar1 10) n5) + (2 * ((ar1 15) i))))) hI1
                    have hF16 := fr_a (c := 10) (g := (upd (ar1 10) n5 (((ar1 10) n5) + (2 * ((ar1 15) i))))) hF1 (by decide)
                    refine to_n 1 (fr' := (150, [(0, .ref 0), (1, .int ((nI i) + 1)), (2, .int (nI n5)), (3, .int 2)], [], gh S a b sc1 (uA ar1 10 (upd (ar1 10) n5 (((ar1 10) n5) + (2 * ((ar1 15) i))))) lo, ex, 0, 0)) rfl ?_
                    rw [nI_1 i]
                    refine to_n 1 (fr' := (2, [(0, .ref 0), (1, .int (nI (i + 1))), (2, .int (nI n5)), (3, .int 2)], [], gh S a b sc1 (uA ar1 10 (upd (ar1 10) n5 (((ar1 10) n5) + (2 * ((ar1 15) i))))) lo, ex, 0, 0)) rfl ?_
                    refine to_lv (lv := [(0, .ref 0), (1, .int (nI (i + 1)))]) rfl ⟨rfl, rfl, trivial⟩ ?_
                    exact ih (i + 1) sc1 (uA ar1 10 (upd (ar1 10) n5 (((ar1 10) n5) + (2 * ((ar1 15) i))))) (by omega) (by omega) hI16 hF16
              · refine to_n 3 (fr' := (72, [(0, .ref 0), (1, .int (nI i)), (2, .int (nI n5))], [.ref 0, .int (nI n5), .ref 0], gh S a b sc1 ar1 lo, ex, 0, 0)) rfl ?_
                refine to_get rfl rfl rfl rfl ?_
                refine to_get rfl rfl rfl rfl ?_
                refine to_n 1 (fr' := (79, [(0, .ref 0), (1, .int (nI i)), (2, .int (nI n5))], [.int (nI i), .ref 15, .int (nI n5), .ref 0], gh S a b sc1 ar1 lo, ex, 0, 0)) rfl ?_
                refine to_ialR (i := i) (v := ((ar1 15) i)) rfl (by decide) rfl (by omega) (by omega) rfl ?_
                refine to_cv (q := 98) (M1 := an_X9_pullAt) (rest := []) rfl rfl (by decide) rfl ⟨_, rfl⟩ (sf_X9_pullAt hW hI1 n5 (by omega) ((ar1 15) i) d) (fun sc17 ar17 hx17 => ?_)
                obtain ⟨hI17, hG17⟩ := hx17
                have hF17 := fr_t hF1 hG17 (by decide) (by decide)
                refine to_eq (fr' := (83, [(0, .ref 0), (1, .int (nI i)), (2, .int (nI n5))], [], gh S a b sc17 ar17 lo, ex, 0, 0)) rfl ?_
                refine to_n 2 (fr' := (150, [(0, .ref 0), (1, .int ((nI i) + 1)), (2, .int (nI n5))], [], gh S a b sc17 ar17 lo, ex, 0, 0)) rfl ?_
                rw [nI_1 i]
                refine to_n 1 (fr' := (2, [(0, .ref 0), (1, .int (nI (i + 1))), (2, .int (nI n5))], [], gh S a b sc17 ar17 lo, ex, 0, 0)) rfl ?_
                refine to_lv (lv := [(0, .ref 0), (1, .int (nI (i + 1)))]) rfl ⟨rfl, rfl, trivial⟩ ?_
                exact ih (i + 1) sc17 ar17 (by omega) (by omega) hI17 hF17
            · refine to_n 2 (fr' := (150, [(0, .ref 0), (1, .int ((nI i) + 1)), (2, .int (nI n5))], [], gh S a b sc1 ar1 lo, ex, 0, 0)) rfl ?_
              rw [nI_1 i]
              refine to_n 1 (fr' := (2, [(0, .ref 0), (1, .int (nI (i + 1))), (2, .int (nI n5))], [], gh S a b sc1 ar1 lo, ex, 0, 0)) rfl ?_
              refine to_lv (lv := [(0, .ref 0), (1, .int (nI (i + 1)))]) rfl ⟨rfl, rfl, trivial⟩ ?_
              exact ih (i + 1) sc1 ar1 (by omega) (by omega) hI1 hF1
          · refine to_cp (q := 2) (M1 := an_X0_has) (rest := []) rfl rfl (by decide) rfl ⟨_, rfl⟩ (sf_has_0  (has_no (n := n5) (B := S) (by omega) (by omega) (by omega)) (d + 1)) (fun x7 hx7 => ?_)
            obtain rfl := hx7
            refine to_eq (fr' := (31, [(0, .ref 0), (1, .int (nI i)), (2, .int (nI n5))], [.int 0], gh S a b sc1 ar1 lo, ex, 0, 0)) rfl ?_
            refine to_n 2 (fr' := (150, [(0, .ref 0), (1, .int ((nI i) + 1)), (2, .int (nI n5))], [], gh S a b sc1 ar1 lo, ex, 0, 0)) rfl ?_
            rw [nI_1 i]
            refine to_n 1 (fr' := (2, [(0, .ref 0), (1, .int (nI (i + 1))), (2, .int (nI n5))], [], gh S a b sc1 ar1 lo, ex, 0, 0)) rfl ?_
            refine to_lv (lv := [(0, .ref 0), (1, .int (nI (i + 1)))]) rfl ⟨rfl, rfl, trivial⟩ ?_
            exact ih (i + 1) sc1 ar1 (by omega) (by omega) hI1 hF1
  refine to_n 2 (fr' := (2, [(0, .ref 0), (1, .int 0)], [], gh S a b sc ar lo, ex, 0, 0)) rfl ?_
  exact c2 (9 - 0) 0 sc ar (by omega) (by omega) hI hF
set_option maxRecDepth 20000 in
theorem sf_X9_giveRoof {X : Nat × (Nat → Int32)} {S a b : Nat} {sc : Nat → Int32} {ar : Nat → Nat → Int32} {lo : Nat → Int64} {ex : Bool} (hW : Wd S a b) (hI : Iv S sc ar) (k1 : Nat) (hk1 : k1 < S) (d : Nat)  : cv X S a b (d + 3) 96 [.ref 0, .int (nI k1)] sc ar lo ex (fun sc' ar' => Iv S sc' ar' ∧ Fr [] [11, 20] sc ar sc' ar') := by
  obtain ⟨ha1, ha8, hb1, hb8, hab, hS1, hS⟩ := id hW
  refine cv_of (M := an_X9_giveRoof) rfl (Nat.le_of_ble_eq_true rfl) ?_
  have hF : Fr [] [11, 20] sc ar sc ar := fr_0
  refine to_eq (fr' := (0, [(0, .ref 0), (1, .int (nI k1))], [], gh S a b sc ar lo, ex, 0, 0)) rfl ?_
  have c2 : ∀ m : Nat, ∀ (i : Nat) (sc1 : Nat → Int32) (ar1 : Nat → Nat → Int32), 9 ≤ i + m → i ≤ 9 → Iv S sc1 ar1 → Fr [] [11, 20] sc ar sc1 ar1 → ag_To X (d + 2) an_X9_giveRoof (2, [(0, .ref 0), (1, .int (nI k1)), (2, .int (nI i))], [], gh S a b sc1 ar1 lo, ex, 0, 0) (qv S a b lo ex (fun sc' ar' => Iv S sc' ar' ∧ Fr [] [11, 20] sc ar sc' ar')) := by
    intro m
    induction m with
    | zero =>
      intro i sc1 ar1 hm hc2_0 hI1 hF1
      refine to_n 2 (fr' := (4, [(0, .ref 0), (1, .int (nI k1)), (2, .int (nI i))], [.ref 0, .int (nI i)], gh S a b sc1 ar1 lo, ex, 0, 0)) rfl ?_
      refine to_get rfl rfl rfl rfl ?_
      obtain ⟨n2, hn2, e2⟩ := iv_s1308 hI1
      refine to_getR (v := (nI n2)) rfl rfl rfl rfl e2 ?_
      refine to_nc_ge_T (t := 94) (x := i) (y := n2) rfl (by omega) (by omega) (by omega) ?_
      exact to_rt (i := .return_) (tg := []) rfl rfl ⟨_, _, ⟨hI1, hF1⟩, rfl⟩
    | succ m ih =>
      intro i sc1 ar1 hm hc2_0 hI1 hF1
      refine to_n 2 (fr' := (4, [(0, .ref 0), (1, .int (nI k1)), (2, .int (nI i))], [.ref 0, .int (nI i)], gh S a b sc1 ar1 lo, ex, 0, 0)) rfl ?_
      refine to_get rfl rfl rfl rfl ?_
      obtain ⟨n3, hn3, e3⟩ := iv_s1308 hI1
      refine to_getR (v := (nI n3)) rfl rfl rfl rfl e3 ?_
      refine to_nc_ge (t := 94) (x := i) (y := n3) rfl (by omega) (by omega) (fun q4 => ?_) (fun q4 => ?_)
      · exact to_rt (i := .return_) (tg := []) rfl rfl ⟨_, _, ⟨hI1, hF1⟩, rfl⟩
      · refine to_n 1 (fr' := (14, [(0, .ref 0), (1, .int (nI k1)), (2, .int (nI i))], [.ref 0], gh S a b sc1 ar1 lo, ex, 0, 0)) rfl ?_
        refine to_get rfl rfl rfl rfl ?_
        refine to_get rfl rfl rfl rfl ?_
        refine to_n 1 (fr' := (21, [(0, .ref 0), (1, .int (nI k1)), (2, .int (nI i))], [.int (nI i), .ref 17], gh S a b sc1 ar1 lo, ex, 0, 0)) rfl ?_
        rcases iv_a17 hI1 i with e5 | ⟨n5, hn5, e5⟩
        · refine to_ialR (i := i) (v := (-1)) rfl (by decide) rfl (by omega) (by omega) e5 ?_
          refine to_n 1 (fr' := (23, [(0, .ref 0), (1, .int (nI k1)), (2, .int (nI i))], [.int (nI k1), .int (-1)], gh S a b sc1 ar1 lo, ex, 0, 0)) rfl ?_
          refine to_ic_ne_T (t := 88) (x := (-1)) (y := (nI k1)) rfl (fun w => nI_neg (n := k1) (x := (-1)) (by omega) (by decide) w.symm) ?_
          refine to_n 1 (fr' := (91, [(0, .ref 0), (1, .int (nI k1)), (2, .int ((nI i) + 1))], [], gh S a b sc1 ar1 lo, ex, 0, 0)) rfl ?_
          rw [nI_1 i]
          refine to_n 1 (fr' := (2, [(0, .ref 0), (1, .int (nI k1)), (2, .int (nI (i + 1)))], [], gh S a b sc1 ar1 lo, ex, 0, 0)) rfl ?_
          exact ih (i + 1) sc1 ar1 (by omega) (by omega) hI1 hF1
        · refine to_ialR (i := i) (v := (nI n5)) rfl (by decide) rfl (by omega) (by omega) e5 ?_
          refine to_n 1 (fr' := (23, [(0, .ref 0), (1, .int (nI k1)), (2, .int (nI i))], [.int (nI k1), .int (nI n5)], gh S a b sc1 ar1 lo, ex, 0, 0)) rfl ?_
          refine to_nc_ne (t := 88) (x := n5) (y := k1) rfl (by omega) (by omega) (fun q6 => ?_) (fun q6 => ?_)
          · refine to_n 1 (fr' := (91, [(0, .ref 0), (1, .int (nI k1)), (2, .int ((nI i) + 1))], [], gh S a b sc1 ar1 lo, ex, 0, 0)) rfl ?_
            rw [nI_1 i]
            refine to_n 1 (fr' := (2, [(0, .ref 0), (1, .int (nI k1)), (2, .int (nI (i + 1)))], [], gh S a b sc1 ar1 lo, ex, 0, 0)) rfl ?_
            exact ih (i + 1) sc1 ar1 (by omega) (by omega) hI1 hF1
          · refine to_n 1 (fr' := (27, [(0, .ref 0), (1, .int (nI k1)), (2, .int (nI i))], [.ref 0], gh S a b sc1 ar1 lo, ex, 0, 0)) rfl ?_
            refine to_get rfl rfl rfl rfl ?_
            refine to_n 1 (fr' := (31, [(0, .ref 0), (1, .int (nI k1)), (2, .int (nI i))], [.ref 0, .ref 1], gh S a b sc1 ar1 lo, ex, 0, 0)) rfl ?_
            refine to_get rfl rfl rfl rfl ?_
            refine to_get rfl rfl rfl rfl ?_
            refine to_n 1 (fr' := (38, [(0, .ref 0), (1, .int (nI k1)), (2, .int (nI i))], [.int (nI i), .ref 16, .ref 1], gh S a b sc1 ar1 lo, ex, 0, 0)) rfl ?_
            obtain ⟨n7, hn7, e7⟩ := iv_a16 hI1 i
            refine to_ialR (i := i) (v := (nI n7)) rfl (by decide) rfl (by omega) (by omega) e7 ?_
            refine to_n 1 (fr' := (40, [(0, .ref 0), (1, .int (nI k1)), (2, .int (nI i))], [.int (nI k1), .int (nI n7), .ref 1], gh S a b sc1 ar1 lo, ex, 0, 0)) rfl ?_
            refine to_cp (q := 4) (M1 := an_X0_areBeside) (rest := []) rfl rfl (by decide) rfl ⟨_, rfl⟩ (sf_X0_areBeside hW hI1 n7 (by omega) k1 (by omega) d) (fun x8 hx8 => ?_)
            obtain ⟨n8, hn8, rfl⟩ := hx8
            refine to_eq (fr' := (43, [(0, .ref 0), (1, .int (nI k1)), (2, .int (nI i))], [.int (nI n8)], gh S a b sc1 ar1 lo, ex, 0, 0)) rfl ?_
            refine to_nf_ne (t := 49) (x := n8) rfl (by omega) (fun q9 => ?_) (fun q9 => ?_)
            · refine to_n 1 (fr' := (50, [(0, .ref 0), (1, .int (nI k1)), (2, .int (nI i))], [.ref 0], gh S a b sc1 ar1 lo, ex, 0, 0)) rfl ?_
              refine to_get rfl rfl rfl rfl ?_
              refine to_get rfl rfl rfl rfl ?_
              refine to_n 1 (fr' := (57, [(0, .ref 0), (1, .int (nI k1)), (2, .int (nI i))], [.int (nI k1), .ref 11], gh S a b sc1 ar1 lo, ex, 0, 0)) rfl ?_
              refine to_ialR (i := k1) (v := ((ar1 11) k1)) rfl (by decide) rfl (by omega) (by omega) rfl ?_
              refine to_n 1 (fr' := (59, [(0, .ref 0), (1, .int (nI k1)), (2, .int (nI i))], [.int (-1), .int ((ar1 11) k1)], gh S a b sc1 ar1 lo, ex, 0, 0)) rfl ?_
              refine to_ic_ne (t := 75) rfl (fun q10 => ?_) (fun q10 => ?_)
              · refine to_n 1 (fr' := (76, [(0, .ref 0), (1, .int (nI k1)), (2, .int (nI i))], [.ref 0], gh S a b sc1 ar1 lo, ex, 0, 0)) rfl ?_
                refine to_get rfl rfl rfl rfl ?_
                refine to_get rfl rfl rfl rfl ?_
                refine to_n 2 (fr' := (84, [(0, .ref 0), (1, .int (nI k1)), (2, .int (nI i))], [.int (nI i), .ref 20, .int (nI i), .ref 20], gh S a b sc1 ar1 lo, ex, 0, 0)) rfl ?_
                refine to_ialR (i := i) (v := ((ar1 20) i)) rfl (by decide) rfl (by omega) (by omega) rfl ?_
                refine to_n 2 (fr' := (87, [(0, .ref 0), (1, .int (nI k1)), (2, .int (nI i))], [.int (((ar1 20) i) + 1), .int (nI i), .ref 20], gh S a b sc1 ar1 lo, ex, 0, 0)) rfl ?_
                refine to_iasR (i := i) (h' := gh S a b sc1 (uA ar1 20 (upd (ar1 20) i (((ar1 20) i) + 1))) lo) rfl rfl (by omega) (by omega) rfl ?_
                have hI11 := ia_20 (g := (upd (ar1 20) i (((ar1 20) i) + 1))) hI1
                have hF11 := fr_a (c := 20) (g := (upd (ar1 20) i (((ar1 20) i) + 1))) hF1 (by decide)
                refine to_n 1 (fr' := (91, [(0, .ref 0), (1, .int (nI k1)), (2, .int ((nI i) + 1))], [], gh S a b sc1 (uA ar1 20 (upd (ar1 20) i (((ar1 20) i) + 1))) lo, ex, 0, 0)) rfl ?_
                rw [nI_1 i]
                refine to_n 1 (fr' := (2, [(0, .ref 0), (1, .int (nI k1)), (2, .int (nI (i + 1)))], [], gh S a b sc1 (uA ar1 20 (upd (ar1 20) i (((ar1 20) i) + 1))) lo, ex, 0, 0)) rfl ?_
                exact ih (i + 1) sc1 (uA ar1 20 (upd (ar1 20) i (((ar1 20) i) + 1))) (by omega) (by omega) hI11 hF11
              · refine to_n 1 (fr' := (63, [(0, .ref 0), (1, .int (nI k1)), (2, .int (nI i))], [.ref 0], gh S a b sc1 ar1 lo, ex, 0, 0)) rfl ?_
                refine to_get rfl rfl rfl rfl ?_
                refine to_get rfl rfl rfl rfl ?_
                refine to_n 2 (fr' := (71, [(0, .ref 0), (1, .int (nI k1)), (2, .int (nI i))], [.int (nI i), .int (nI k1), .ref 11], gh S a b sc1 ar1 lo, ex, 0, 0)) rfl ?_
                refine to_iasR (i := k1) (h' := gh S a b sc1 (uA ar1 11 (upd (ar1 11) k1 (nI i))) lo) rfl rfl (by omega) (by omega) rfl ?_
                have hI12 := ia_11 (g := (upd (ar1 11) k1 (nI i))) hI1
                have hF12 := fr_a (c := 11) (g := (upd (ar1 11) k1 (nI i))) hF1 (by decide)
                refine to_n 2 (fr' := (91, [(0, .ref 0), (1, .int (nI k1)), (2, .int ((nI i) + 1))], [], gh S a b sc1 (uA ar1 11 (upd (ar1 11) k1 (nI i))) lo, ex, 0, 0)) rfl ?_
                rw [nI_1 i]
                refine to_n 1 (fr' := (2, [(0, .ref 0), (1, .int (nI k1)), (2, .int (nI (i + 1)))], [], gh S a b sc1 (uA ar1 11 (upd (ar1 11) k1 (nI i))) lo, ex, 0, 0)) rfl ?_
                exact ih (i + 1) sc1 (uA ar1 11 (upd (ar1 11) k1 (nI i))) (by omega) (by omega) hI12 hF12
            · refine to_n 2 (fr' := (91, [(0, .ref 0), (1, .int (nI k1)), (2, .int ((nI i) + 1))], [], gh S a b sc1 ar1 lo, ex, 0, 0)) rfl ?_
              rw [nI_1 i]
              refine to_n 1 (fr' := (2, [(0, .ref 0), (1, .int (nI k1)), (2, .int (nI (i + 1)))], [], gh S a b sc1 ar1 lo, ex, 0, 0)) rfl ?_
              exact ih (i + 1) sc1 ar1 (by omega) (by omega) hI1 hF1
  refine to_n 2 (fr' := (2, [(0, .ref 0), (1, .int (nI k1)), (2, .int 0)], [], gh S a b sc ar lo, ex, 0, 0)) rfl ?_
  exact c2 (9 - 0) 0 sc ar (by omega) (by omega) hI hF
set_option maxRecDepth 20000 in
theorem sf_X9_giveRoofs {X : Nat × (Nat → Int32)} {S a b : Nat} {sc : Nat → Int32} {ar : Nat → Nat → Int32} {lo : Nat → Int64} {ex : Bool} (hW : Wd S a b) (hI : Iv S sc ar)  (d : Nat)  : cv X S a b (d + 4) 95 [.ref 0] sc ar lo ex (fun sc' ar' => Iv S sc' ar' ∧ Fr [] [11, 20] sc ar sc' ar') := by
  obtain ⟨ha1, ha8, hb1, hb8, hab, hS1, hS⟩ := id hW
  refine cv_of (M := an_X9_giveRoofs) rfl (Nat.le_of_ble_eq_true rfl) ?_
  have hF : Fr [] [11, 20] sc ar sc ar := fr_0
  refine to_eq (fr' := (0, [(0, .ref 0)], [], gh S a b sc ar lo, ex, 0, 0)) rfl ?_
  have c2 : ∀ m : Nat, ∀ (i : Nat) (sc1 : Nat → Int32) (ar1 : Nat → Nat → Int32), i + m = S → Iv S sc1 ar1 → Fr [] [11, 20] sc ar sc1 ar1 → ag_To X (d + 3) an_X9_giveRoofs (2, [(0, .ref 0), (1, .int (nI i))], [], gh S a b sc1 ar1 lo, ex, 0, 0) (qv S a b lo ex (fun sc' ar' => Iv S sc' ar' ∧ Fr [] [11, 20] sc ar sc' ar')) := by
    intro m
    induction m with
    | zero =>
      intro i sc1 ar1 hm hI1 hF1
      refine to_n 2 (fr' := (4, [(0, .ref 0), (1, .int (nI i))], [.ref 0, .int (nI i)], gh S a b sc1 ar1 lo, ex, 0, 0)) rfl ?_
      refine to_get rfl rfl rfl rfl ?_
      refine to_get rfl rfl rfl rfl ?_
      refine to_nc_ge_T (t := 50) (x := i) (y := S) rfl (by omega) (by omega) (by omega) ?_
      exact to_rt (i := .return_) (tg := []) rfl rfl ⟨_, _, ⟨hI1, hF1⟩, rfl⟩
    | succ m ih =>
      intro i sc1 ar1 hm hI1 hF1
      refine to_n 2 (fr' := (4, [(0, .ref 0), (1, .int (nI i))], [.ref 0, .int (nI i)], gh S a b sc1 ar1 lo, ex, 0, 0)) rfl ?_
      refine to_get rfl rfl rfl rfl ?_
      refine to_get rfl rfl rfl rfl ?_
      refine to_nc_ge_F (t := 50) (x := i) (y := S) rfl (by omega) (by omega) (by omega) ?_
      refine to_n 1 (fr' := (14, [(0, .ref 0), (1, .int (nI i))], [.ref 0], gh S a b sc1 ar1 lo, ex, 0, 0)) rfl ?_
      refine to_get rfl rfl rfl rfl ?_
      refine to_get rfl rfl rfl rfl ?_
      refine to_n 1 (fr' := (21, [(0, .ref 0), (1, .int (nI i))], [.int (nI i), .ref 5], gh S a b sc1 ar1 lo, ex, 0, 0)) rfl ?_
      refine to_ialR (i := i) (v := ((ar1 5) i)) rfl (by decide) rfl (by omega) (by omega) rfl ?_
      refine to_n 1 (fr' := (23, [(0, .ref 0), (1, .int (nI i))], [.int 1, .int ((ar1 5) i)], gh S a b sc1 ar1 lo, ex, 0, 0)) rfl ?_
      refine to_ic_ne (t := 44) rfl (fun q2 => ?_) (fun q2 => ?_)
      · refine to_n 1 (fr' := (47, [(0, .ref 0), (1, .int ((nI i) + 1))], [], gh S a b sc1 ar1 lo, ex, 0, 0)) rfl ?_
        rw [nI_1 i]
        refine to_n 1 (fr' := (2, [(0, .ref 0), (1, .int (nI (i + 1)))], [], gh S a b sc1 ar1 lo, ex, 0, 0)) rfl ?_
        exact ih (i + 1) sc1 ar1 (by omega) hI1 hF1
      · refine to_n 1 (fr' := (27, [(0, .ref 0), (1, .int (nI i))], [.ref 0], gh S a b sc1 ar1 lo, ex, 0, 0)) rfl ?_
        refine to_get rfl rfl rfl rfl ?_
        refine to_get rfl rfl rfl rfl ?_
        refine to_n 1 (fr' := (34, [(0, .ref 0), (1, .int (nI i))], [.int (nI i), .ref 11], gh S a b sc1 ar1 lo, ex, 0, 0)) rfl ?_
        refine to_ialR (i := i) (v := ((ar1 11) i)) rfl (by decide) rfl (by omega) (by omega) rfl ?_
        refine to_n 1 (fr' := (36, [(0, .ref 0), (1, .int (nI i))], [.int (-1), .int ((ar1 11) i)], gh S a b sc1 ar1 lo, ex, 0, 0)) rfl ?_
        refine to_ic_ne (t := 44) rfl (fun q3 => ?_) (fun q3 => ?_)
        · refine to_n 1 (fr' := (47, [(0, .ref 0), (1, .int ((nI i) + 1))], [], gh S a b sc1 ar1 lo, ex, 0, 0)) rfl ?_
          rw [nI_1 i]
          refine to_n 1 (fr' := (2, [(0, .ref 0), (1, .int (nI (i + 1)))], [], gh S a b sc1 ar1 lo, ex, 0, 0)) rfl ?_
          exact ih (i + 1) sc1 ar1 (by omega) hI1 hF1
        · refine to_n 2 (fr' := (41, [(0, .ref 0), (1, .int (nI i))], [.int (nI i), .ref 0], gh S a b sc1 ar1 lo, ex, 0, 0)) rfl ?_
          refine to_cv (q := 96) (M1 := an_X9_giveRoof) (rest := []) rfl rfl (by decide) rfl ⟨_, rfl⟩ (sf_X9_giveRoof hW hI1 i (by omega) d) (fun sc4 ar4 hx4 => ?_)
          obtain ⟨hI4, hG4⟩ := hx4
          have hF4 := fr_t hF1 hG4 (by decide) (by decide)
          refine to_eq (fr' := (44, [(0, .ref 0), (1, .int (nI i))], [], gh S a b sc4 ar4 lo, ex, 0, 0)) rfl ?_
          refine to_n 1 (fr' := (47, [(0, .ref 0), (1, .int ((nI i) + 1))], [], gh S a b sc4 ar4 lo, ex, 0, 0)) rfl ?_
          rw [nI_1 i]
          refine to_n 1 (fr' := (2, [(0, .ref 0), (1, .int (nI (i + 1)))], [], gh S a b sc4 ar4 lo, ex, 0, 0)) rfl ?_
          exact ih (i + 1) sc4 ar4 (by omega) hI4 hF4
  refine to_n 2 (fr' := (2, [(0, .ref 0), (1, .int 0)], [], gh S a b sc ar lo, ex, 0, 0)) rfl ?_
  exact c2 (S - 0) 0 sc ar (by omega) hI hF
set_option maxRecDepth 20000 in
theorem sf_X9_crewsGo {X : Nat × (Nat → Int32)} {S a b : Nat} {sc : Nat → Int32} {ar : Nat → Nat → Int32} {lo : Nat → Int64} {ex : Bool} (hW : Wd S a b) (hI : Iv S sc ar)  (d : Nat)  : cv X S a b (d + 5) 94 [.ref 0] sc ar lo ex (fun sc' ar' => Iv S sc' ar' ∧ Fr [3603] [16, 37, 38] sc ar sc' ar') := by
  obtain ⟨ha1, ha8, hb1, hb8, hab, hS1, hS⟩ := id hW
  refine cv_of (M := an_X9_crewsGo) rfl (Nat.le_of_ble_eq_true rfl) ?_
  have hF : Fr [3603] [16, 37, 38] sc ar sc ar := fr_0
  refine to_eq (fr' := (0, [(0, .ref 0)], [], gh S a b sc ar lo, ex, 0, 0)) rfl ?_
  have c2 : ∀ m : Nat, ∀ (i : Nat) (sc1 : Nat → Int32) (ar1 : Nat → Nat → Int32), 9 ≤ i + m → i ≤ 9 → Iv S sc1 ar1 → Fr [3603] [16, 37, 38] sc ar sc1 ar1 → ag_To X (d + 4) an_X9_crewsGo (2, [(0, .ref 0), (1, .int (nI i))], [], gh S a b sc1 ar1 lo, ex, 0, 0) (qv S a b lo ex (fun sc' ar' => Iv S sc' ar' ∧ Fr [3603] [16, 37, 38] sc ar sc' ar')) := by
    intro m
    induction m with
    | zero =>
      intro i sc1 ar1 hm hc2_0 hI1 hF1
      refine to_n 2 (fr' := (4, [(0, .ref 0), (1, .int (nI i))], [.ref 0, .int (nI i)], gh S a b sc1 ar1 lo, ex, 0, 0)) rfl ?_
      refine to_get rfl rfl rfl rfl ?_
      obtain ⟨n2, hn2, e2⟩ := iv_s1308 hI1
      refine to_getR (v := (nI n2)) rfl rfl rfl rfl e2 ?_
      refine to_nc_ge_T (t := 80) (x := i) (y := n2) rfl (by omega) (by omega) (by omega) ?_
      exact to_rt (i := .return_) (tg := []) rfl rfl ⟨_, _, ⟨hI1, hF1⟩, rfl⟩
    | succ m ih =>
      intro i sc1 ar1 hm hc2_0 hI1 hF1
      refine to_n 2 (fr' := (4, [(0, .ref 0), (1, .int (nI i))], [.ref 0, .int (nI i)], gh S a b sc1 ar1 lo, ex, 0, 0)) rfl ?_
      refine to_get rfl rfl rfl rfl ?_
      obtain ⟨n3, hn3, e3⟩ := iv_s1308 hI1
      refine to_getR (v := (nI n3)) rfl rfl rfl rfl e3 ?_
      refine to_nc_ge (t := 80) (x := i) (y := n3) rfl (by omega) (by omega) (fun q4 => ?_) (fun q4 => ?_)
      · exact to_rt (i := .return_) (tg := []) rfl rfl ⟨_, _, ⟨hI1, hF1⟩, rfl⟩
      · refine to_n 1 (fr' := (14, [(0, .ref 0), (1, .int (nI i))], [.ref 0], gh S a b sc1 ar1 lo, ex, 0, 0)) rfl ?_
        refine to_get rfl rfl rfl rfl ?_
        refine to_get rfl rfl rfl rfl ?_
        refine to_n 1 (fr' := (21, [(0, .ref 0), (1, .int (nI i))], [.int (nI i), .ref 17], gh S a b sc1 ar1 lo, ex, 0, 0)) rfl ?_
        rcases iv_a17 hI1 i with e5 | ⟨n5, hn5, e5⟩
        · refine to_ialR (i := i) (v := (-1)) rfl (by decide) rfl (by omega) (by omega) e5 ?_
          refine to_n 5 (fr' := (77, [(0, .ref 0), (1, .int ((nI i) + 1)), (2, .int (-1))], [], gh S a b sc1 ar1 lo, ex, 0, 0)) rfl ?_
          rw [nI_1 i]
          refine to_n 1 (fr' := (2, [(0, .ref 0), (1, .int (nI (i + 1))), (2, .int (-1))], [], gh S a b sc1 ar1 lo, ex, 0, 0)) rfl ?_
          refine to_lv (lv := [(0, .ref 0), (1, .int (nI (i + 1)))]) rfl ⟨rfl, rfl, trivial⟩ ?_
          exact ih (i + 1) sc1 ar1 (by omega) (by omega) hI1 hF1
        · refine to_ialR (i := i) (v := (nI n5)) rfl (by decide) rfl (by omega) (by omega) e5 ?_
          refine to_n 3 (fr' := (25, [(0, .ref 0), (1, .int (nI i)), (2, .int (nI n5))], [.int (-1), .int (nI n5)], gh S a b sc1 ar1 lo, ex, 0, 0)) rfl ?_
          refine to_ic_eq_F (t := 74) (x := (nI n5)) (y := (-1)) rfl (nI_neg (by omega) (by decide)) ?_
          refine to_n 1 (fr' := (29, [(0, .ref 0), (1, .int (nI i)), (2, .int (nI n5))], [.ref 0], gh S a b sc1 ar1 lo, ex, 0, 0)) rfl ?_
          refine to_get rfl rfl rfl rfl ?_
          refine to_n 1 (fr' := (33, [(0, .ref 0), (1, .int (nI i)), (2, .int (nI n5))], [.ref 0, .ref 1], gh S a b sc1 ar1 lo, ex, 0, 0)) rfl ?_
          refine to_get rfl rfl rfl rfl ?_
          refine to_get rfl rfl rfl rfl ?_
          refine to_n 1 (fr' := (40, [(0, .ref 0), (1, .int (nI i)), (2, .int (nI n5))], [.int (nI i), .ref 16, .ref 1], gh S a b sc1 ar1 lo, ex, 0, 0)) rfl ?_
          obtain ⟨n6, hn6, e6⟩ := iv_a16 hI1 i
          refine to_ialR (i := i) (v := (nI n6)) rfl (by decide) rfl (by omega) (by omega) e6 ?_
          refine to_n 1 (fr' := (42, [(0, .ref 0), (1, .int (nI i)), (2, .int (nI n5))], [.int (nI n5), .int (nI n6), .ref 1], gh S a b sc1 ar1 lo, ex, 0, 0)) rfl ?_
          refine to_cp (q := 4) (M1 := an_X0_areBeside) (rest := []) rfl rfl (by decide) rfl ⟨_, rfl⟩ (sf_X0_areBeside hW hI1 n6 (by omega) n5 (by omega) (d + 2)) (fun x7 hx7 => ?_)
          obtain ⟨n7, hn7, rfl⟩ := hx7
          refine to_eq (fr' := (45, [(0, .ref 0), (1, .int (nI i)), (2, .int (nI n5))], [.int (nI n7)], gh S a b sc1 ar1 lo, ex, 0, 0)) rfl ?_
          refine to_nf_ne (t := 74) (x := n7) rfl (by omega) (fun q8 => ?_) (fun q8 => ?_)
          · refine to_n 1 (fr' := (77, [(0, .ref 0), (1, .int ((nI i) + 1)), (2, .int (nI n5))], [], gh S a b sc1 ar1 lo, ex, 0, 0)) rfl ?_
            rw [nI_1 i]
            refine to_n 1 (fr' := (2, [(0, .ref 0), (1, .int (nI (i + 1))), (2, .int (nI n5))], [], gh S a b sc1 ar1 lo, ex, 0, 0)) rfl ?_
            refine to_lv (lv := [(0, .ref 0), (1, .int (nI (i + 1)))]) rfl ⟨rfl, rfl, trivial⟩ ?_
            exact ih (i + 1) sc1 ar1 (by omega) (by omega) hI1 hF1
          · refine to_n 1 (fr' := (49, [(0, .ref 0), (1, .int (nI i)), (2, .int (nI n5))], [.ref 0], gh S a b sc1 ar1 lo, ex, 0, 0)) rfl ?_
            refine to_get rfl rfl rfl rfl ?_
            refine to_get rfl rfl rfl rfl ?_
            refine to_n 2 (fr' := (57, [(0, .ref 0), (1, .int (nI i)), (2, .int (nI n5))], [.ref 0, .int (nI i), .ref 16], gh S a b sc1 ar1 lo, ex, 0, 0)) rfl ?_
            refine to_get rfl rfl rfl rfl ?_
            refine to_n 1 (fr' := (61, [(0, .ref 0), (1, .int (nI i)), (2, .int (nI n5))], [.ref 0, .ref 36, .int (nI i), .ref 16], gh S a b sc1 ar1 lo, ex, 0, 0)) rfl ?_
            refine to_get rfl rfl rfl rfl ?_
            refine to_get rfl rfl rfl rfl ?_
            refine to_n 1 (fr' := (68, [(0, .ref 0), (1, .int (nI i)), (2, .int (nI n5))], [.int (nI i), .ref 16, .ref 36, .int (nI i), .ref 16], gh S a b sc1 ar1 lo, ex, 0, 0)) rfl ?_
            refine to_ialR (i := i) (v := (nI n6)) rfl (by decide) rfl (by omega) (by omega) e6 ?_
            refine to_n 1 (fr' := (70, [(0, .ref 0), (1, .int (nI i)), (2, .int (nI n5))], [.int (nI n5), .int (nI n6), .ref 36, .int (nI i), .ref 16], gh S a b sc1 ar1 lo, ex, 0, 0)) rfl ?_
            refine to_ci (q := 69) (M1 := an_X8_stepTowards) (rest := [.int (nI i), .ref 16]) rfl rfl (by decide) rfl ⟨_, rfl⟩ (sf_X8_stepTowards hW hI1 n6 (by omega) n5 (by omega) d) (fun x9 sc9 ar9 hx9 => ?_)
            obtain ⟨hI9, hG9, hx9⟩ := hx9
            have hF9 := fr_t hF1 hG9 (by decide) (by decide)
            obtain ⟨n9, hn9, rfl⟩ := hx9
            refine to_eq (fr' := (73, [(0, .ref 0), (1, .int (nI i)), (2, .int (nI n5))], [.int (nI n9), .int (nI i), .ref 16], gh S a b sc9 ar9 lo, ex, 0, 0)) rfl ?_
            refine to_iasR (i := i) (h' := gh S a b sc9 (uA ar9 16 (upd (ar9 16) i (nI n9))) lo) rfl rfl (by omega) (by omega) rfl ?_
            have hI10 := ia_16 (i := i) (v := (nI n9)) hI9 (rl_n (n := n9) (by omega))
            have hF10 := fr_a (c := 16) (g := (upd (ar9 16) i (nI n9))) hF9 (by decide)
            refine to_n 1 (fr' := (77, [(0, .ref 0), (1, .int ((nI i) + 1)), (2, .int (nI n5))], [], gh S a b sc9 (uA ar9 16 (upd (ar9 16) i (nI n9))) lo, ex, 0, 0)) rfl ?_
            rw [nI_1 i]
            refine to_n 1 (fr' := (2, [(0, .ref 0), (1, .int (nI (i + 1))), (2, .int (nI n5))], [], gh S a b sc9 (uA ar9 16 (upd (ar9 16) i (nI n9))) lo, ex, 0, 0)) rfl ?_
            refine to_lv (lv := [(0, .ref 0), (1, .int (nI (i + 1)))]) rfl ⟨rfl, rfl, trivial⟩ ?_
            exact ih (i + 1) sc9 (uA ar9 16 (upd (ar9 16) i (nI n9))) (by omega) (by omega) hI10 hF10
  refine to_n 2 (fr' := (2, [(0, .ref 0), (1, .int 0)], [], gh S a b sc ar lo, ex, 0, 0)) rfl ?_
  exact c2 (9 - 0) 0 sc ar (by omega) (by omega) hI hF
set_option maxRecDepth 20000 in
theorem sf_X9_passHour {X : Nat × (Nat → Int32)} {S a b : Nat} {sc : Nat → Int32} {ar : Nat → Nat → Int32} {lo : Nat → Int64} {ex : Bool} (hW : Wd S a b) (hI : Iv S sc ar) (h : Nat) (hh0 : h < 2400) (hh : sc 11 = nI h) (d : Nat)  : cv X S a b (d + 7) 93 [.ref 0] sc ar lo ex (fun sc' ar' => Iv S sc' ar' ∧ Fr [9, 11, 3300, 3301, 3304, 3603] [5, 8, 9, 10, 11, 16, 17, 18, 19, 20, 21, 34, 35, 37, 38, 48] sc ar sc' ar' ∧ sc' 11 = nI (h + 1)) := by
  obtain ⟨ha1, ha8, hb1, hb8, hab, hS1, hS⟩ := id hW
  refine cv_of (M := an_X9_passHour) rfl (Nat.le_of_ble_eq_true rfl) ?_
  have hF : Fr [9, 11, 3300, 3301, 3304, 3603] [5, 8, 9, 10, 11, 16, 17, 18, 19, 20, 21, 34, 35, 37, 38, 48] sc ar sc ar := fr_0
  refine to_eq (fr' := (0, [(0, .ref 0)], [], gh S a b sc ar lo, ex, 0, 0)) rfl ?_
  refine to_n 1 (fr' := (1, [(0, .ref 0)], [.ref 0], gh S a b sc ar lo, ex, 0, 0)) rfl ?_
  refine to_cv (q := 94) (M1 := an_X9_crewsGo) (rest := []) rfl rfl (by decide) rfl ⟨_, rfl⟩ (sf_X9_crewsGo hW hI  (d + 1)) (fun sc1 ar1 hx1 => ?_)
  obtain ⟨hI1, hG1⟩ := hx1
  have hF1 := fr_t hF hG1 (by decide) (by decide)
  have k1_11 : sc1 11 = (nI h) := (hG1.1 11 (by decide)).trans hh
  refine to_eq (fr' := (4, [(0, .ref 0)], [], gh S a b sc1 ar1 lo, ex, 0, 0)) rfl ?_
  refine to_n 1 (fr' := (5, [(0, .ref 0)], [.ref 0], gh S a b sc1 ar1 lo, ex, 0, 0)) rfl ?_
  refine to_cv (q := 95) (M1 := an_X9_giveRoofs) (rest := []) rfl rfl (by decide) rfl ⟨_, rfl⟩ (sf_X9_giveRoofs hW hI1  (d + 2)) (fun sc2 ar2 hx2 => ?_)
  obtain ⟨hI2, hG2⟩ := hx2
  have hF2 := fr_t hF1 hG2 (by decide) (by decide)
  have k2_11 : sc2 11 = (nI h) := (hG2.1 11 (by decide)).trans k1_11
  refine to_eq (fr' := (8, [(0, .ref 0)], [], gh S a b sc2 ar2 lo, ex, 0, 0)) rfl ?_
  refine to_n 1 (fr' := (9, [(0, .ref 0)], [.ref 0], gh S a b sc2 ar2 lo, ex, 0, 0)) rfl ?_
  refine to_cv (q := 97) (M1 := an_X9_crewsWork) (rest := []) rfl rfl (by decide) rfl ⟨_, rfl⟩ (sf_X9_crewsWork hW hI2  (d + 3)) (fun sc3 ar3 hx3 => ?_)
  obtain ⟨hI3, hG3⟩ := hx3
  have hF3 := fr_t hF2 hG3 (by decide) (by decide)
  have k3_11 : sc3 11 = (nI h) := (hG3.1 11 (by decide)).trans k2_11
  refine to_eq (fr' := (12, [(0, .ref 0)], [], gh S a b sc3 ar3 lo, ex, 0, 0)) rfl ?_
  refine to_n 1 (fr' := (13, [(0, .ref 0)], [.ref 0], gh S a b sc3 ar3 lo, ex, 0, 0)) rfl ?_
  refine to_cv (q := 99) (M1 := an_X9_fireEats) (rest := []) rfl rfl (by decide) rfl ⟨_, rfl⟩ (sf_X9_fireEats hW hI3  d) (fun sc4 ar4 hx4 => ?_)
  obtain ⟨hI4, hG4⟩ := hx4
  have hF4 := fr_t hF3 hG4 (by decide) (by decide)
  have k4_11 : sc4 11 = (nI h) := (hG4.1 11 (by decide)).trans k3_11
  refine to_eq (fr' := (16, [(0, .ref 0)], [], gh S a b sc4 ar4 lo, ex, 0, 0)) rfl ?_
  refine to_n 2 (fr' := (18, [(0, .ref 0)], [.ref 0, .ref 0], gh S a b sc4 ar4 lo, ex, 0, 0)) rfl ?_
  refine to_get rfl rfl rfl rfl ?_
  refine to_n 1 (fr' := (22, [(0, .ref 0)], [.ref 0, .ref 1, .ref 0], gh S a b sc4 ar4 lo, ex, 0, 0)) rfl ?_
  refine to_get rfl rfl rfl rfl ?_
  refine to_ci (q := 10) (M1 := an_X0_warmUp) (rest := [.ref 0]) rfl rfl (by decide) rfl ⟨_, rfl⟩ (sf_X0_warmUp hW hI4  (d + 2)) (fun x5 sc5 ar5 hx5 => ?_)
  obtain ⟨hI5, hG5, hx5⟩ := hx5
  have hF5 := fr_t hF4 hG5 (by decide) (by decide)
  have k5_11 : sc5 11 = (nI h) := (hG5.1 11 (by decide)).trans k4_11
  obtain ⟨n5, hn5, rfl⟩ := hx5
  refine to_eq (fr' := (28, [(0, .ref 0)], [.int (nI n5), .ref 0], gh S a b sc5 ar5 lo, ex, 0, 0)) rfl ?_
  refine to_putR (h' := gh S a b (upd sc5 9 (nI n5)) ar5 lo) rfl rfl rfl (Nat.le_of_ble_eq_true rfl) rfl rfl ?_
  have hI6 := ip_9 (v := (nI n5)) hI5 
  have hF6 := fr_s (k := 9) (v := (nI n5)) hF5 (by decide)
  refine to_n 1 (fr' := (32, [(0, .ref 0)], [.ref 0], gh S a b (upd sc5 9 (nI n5)) ar5 lo, ex, 0, 0)) rfl ?_
  refine to_cv (q := 102) (M1 := an_X9_ringBells) (rest := []) rfl rfl (by decide) rfl ⟨_, rfl⟩ (sf_X9_ringBells hW hI6  d) (fun sc7 ar7 hx7 => ?_)
  obtain ⟨hI7, hG7⟩ := hx7
  have hF7 := fr_t hF6 hG7 (by decide) (by decide)
  have k7_11 : sc7 11 = (nI h) := (hG7.1 11 (by decide)).trans k5_11
  refine to_eq (fr' := (35, [(0, .ref 0)], [], gh S a b sc7 ar7 lo, ex, 0, 0)) rfl ?_
  refine to_n 2 (fr' := (37, [(0, .ref 0)], [.ref 0, .ref 0], gh S a b sc7 ar7 lo, ex, 0, 0)) rfl ?_
  refine to_getR (v := (nI h)) rfl rfl rfl rfl k7_11 ?_
  refine to_n 1 (fr' := (41, [(0, .ref 0)], [.int 1, .int (nI h), .ref 0], gh S a b sc7 ar7 lo, ex, 0, 0)) rfl ?_
  refine to_addN (x := h) (y := 1) rfl ?_
  refine to_putR (h' := gh S a b (upd sc7 11 (nI (h + 1))) ar7 lo) rfl rfl rfl (Nat.le_of_ble_eq_true rfl) rfl rfl ?_
  have hI8 := ip_11 (v := (nI (h + 1))) hI7 (rl_n (n := (h + 1)) (by omega))
  have hF8 := fr_s (k := 11) (v := (nI (h + 1))) hF7 (by decide)
  exact to_rt (i := .return_) (tg := []) rfl rfl ⟨_, _, ⟨hI8, hF8, rfl⟩, rfl⟩
