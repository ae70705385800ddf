/-! FireWards: an hour -/
set_option maxRecDepth 20000 in
theorem sf_X9_isWard {X : Nat × (Nat → Int32)} {S a b : Nat} {sc : Nat → Int32} {ar : Nat → Nat → Int32} {lo : Nat → Int64} {ex : Bool} (hW : Wd S a b) (hI : Iv S sc ar) (x1 : Int32) (d : Nat)  : cp X S a b (d + 1) 91 [.int x1] sc ar lo ex (fun x => rl x 2 ∧ ((x = 1 ∧ (0 ≤ x1 ∧ x1 ≤ 7)) ∨ (x = 0 ∧ ¬ (0 ≤ x1 ∧ x1 ≤ 7)))) := by
  obtain ⟨ha1, ha8, hb1, hb8, hab, hS1, hS⟩ := id hW
  refine cp_of (M := an_X9_isWard) rfl (Nat.le_of_ble_eq_true rfl) ?_
  refine to_eq (fr' := (0, [(0, .int x1)], [], gh S a b sc ar lo, ex, 0, 0)) rfl ?_
  refine to_n 1 (fr' := (1, [(0, .int x1)], [.int x1], gh S a b sc ar lo, ex, 0, 0)) rfl ?_
  refine to_if_lt (t := 14) rfl (fun q1 => ?_) (fun q1 => ?_)
  · refine to_n 1 (fr' := (15, [(0, .int x1)], [.int 0], gh S a b sc ar lo, ex, 0, 0)) rfl ?_
    exact to_rt (i := .ireturn) (tg := []) rfl rfl ⟨_, ⟨rl_n (n := 0) (by omega), (Or.inr ⟨rfl, fun w => Int32.not_lt.mpr w.1 q1⟩)⟩, rfl⟩
  · refine to_n 2 (fr' := (7, [(0, .int x1)], [.int 7, .int x1], gh S a b sc ar lo, ex, 0, 0)) rfl ?_
    refine to_ic_gt (t := 14) rfl (fun q2 => ?_) (fun q2 => ?_)
    · refine to_n 1 (fr' := (15, [(0, .int x1)], [.int 0], gh S a b sc ar lo, ex, 0, 0)) rfl ?_
      exact to_rt (i := .ireturn) (tg := []) rfl rfl ⟨_, ⟨rl_n (n := 0) (by omega), (Or.inr ⟨rfl, fun w => Int32.not_lt.mpr w.2 q2⟩)⟩, rfl⟩
    · refine to_n 2 (fr' := (15, [(0, .int x1)], [.int 1], gh S a b sc ar lo, ex, 0, 0)) rfl ?_
      exact to_rt (i := .ireturn) (tg := []) rfl rfl ⟨_, ⟨rl_n (n := 1) (by omega), (Or.inl ⟨rfl, Int32.not_lt.mp q1, Int32.not_lt.mp q2⟩)⟩, rfl⟩
set_option maxRecDepth 20000 in
theorem sf_X9_inform {X : Nat × (Nat → Int32)} {S a b : Nat} {sc : Nat → Int32} {ar : Nat → Nat → Int32} {lo : Nat → Int64} {ex : Bool} (hW : Wd S a b) (hI : Iv S sc ar) (h : Nat) (ehb : h < 2401) (k1 : Nat) (hk1 : k1 < 8) (k2 : Nat) (hk2 : k2 < S) (x1 : Int32) (hg : Gd S a b ar) (eh : sc 11 = nI h) (d : Nat)  : cv X S a b (d + 2) 106 [.ref 0, .int (nI k1), .int (nI k2), .int x1] sc ar lo ex (fun sc' ar' => Iv S sc' ar' ∧ Fr [] [34] sc ar sc' ar' ∧ ar' 34 = zin (ar 34) (ar 7 k2) (ar 6 k2) (ar 8 k2) (ar 14 k1) (ar 15 k1) (nI (zds a (ar 16 k1).toNatClampNeg k2)) (nI (h % 24)) x1) := by
  obtain ⟨ha1, ha8, hb1, hb8, hab, hS1, hS⟩ := id hW
  refine cv_of (M := an_X9_inform) rfl (Nat.le_of_ble_eq_true rfl) ?_
  have hF : Fr [] [34] sc ar sc ar := fr_0
  refine to_eq (fr' := (0, [(0, .ref 0), (1, .int (nI k1)), (2, .int (nI k2)), (3, .int x1)], [], gh S a b sc ar lo, ex, 0, 0)) rfl ?_
  refine to_n 1 (fr' := (1, [(0, .ref 0), (1, .int (nI k1)), (2, .int (nI k2)), (3, .int x1)], [.ref 0], gh S a b sc ar lo, ex, 0, 0)) rfl ?_
  refine to_get rfl rfl rfl rfl ?_
  refine to_n 2 (fr' := (7, [(0, .ref 0), (1, .int (nI k1)), (2, .int (nI k2)), (3, .int x1)], [.ref 0, .int (-20), .ref 33], gh S a b sc ar lo, ex, 0, 0)) rfl ?_
  refine to_get rfl rfl rfl rfl ?_
  refine to_get rfl rfl rfl rfl ?_
  refine to_n 1 (fr' := (14, [(0, .ref 0), (1, .int (nI k1)), (2, .int (nI k2)), (3, .int x1)], [.int (nI k2), .ref 7, .int (-20), .ref 33], gh S a b sc ar lo, ex, 0, 0)) rfl ?_
  refine to_ialR (i := k2) (v := (ar 7 k2)) rfl (by decide) rfl (by omega) (by omega) (congrFun (hF.2 7 (by decide)) k2) ?_
  refine to_cv (q := 30) (M1 := an_X3_learn) (rest := []) rfl rfl (by decide) rfl ⟨_, rfl⟩ (sf_X3_learn hW hI (-20) (ar 7 k2) d) (fun sc1 ar1 hx1 => ?_)
  obtain ⟨hI1, hG1, hx1⟩ := hx1
  have hF1 := fr_t hF hG1 (by decide) (by decide)
  refine to_eq (fr' := (18, [(0, .ref 0), (1, .int (nI k1)), (2, .int (nI k2)), (3, .int x1)], [], gh S a b sc1 ar1 lo, ex, 0, 0)) rfl ?_
  refine to_n 1 (fr' := (19, [(0, .ref 0), (1, .int (nI k1)), (2, .int (nI k2)), (3, .int x1)], [.ref 0], gh S a b sc1 ar1 lo, ex, 0, 0)) rfl ?_
  refine to_get rfl rfl rfl rfl ?_
  refine to_n 2 (fr' := (25, [(0, .ref 0), (1, .int (nI k1)), (2, .int (nI k2)), (3, .int x1)], [.ref 0, .int (-21), .ref 33], gh S a b sc1 ar1 lo, ex, 0, 0)) rfl ?_
  refine to_get rfl rfl rfl rfl ?_
  refine to_get rfl rfl rfl rfl ?_
  refine to_n 1 (fr' := (32, [(0, .ref 0), (1, .int (nI k1)), (2, .int (nI k2)), (3, .int x1)], [.int (nI k2), .ref 6, .int (-21), .ref 33], gh S a b sc1 ar1 lo, ex, 0, 0)) rfl ?_
  refine to_ialR (i := k2) (v := (ar 6 k2)) rfl (by decide) rfl (by omega) (by omega) (congrFun (hF1.2 6 (by decide)) k2) ?_
  refine to_cv (q := 30) (M1 := an_X3_learn) (rest := []) rfl rfl (by decide) rfl ⟨_, rfl⟩ (sf_X3_learn hW hI1 (-21) (ar 6 k2) d) (fun sc2 ar2 hx2 => ?_)
  obtain ⟨hI2, hG2, hx2⟩ := hx2
  have hF2 := fr_t hF1 hG2 (by decide) (by decide)
  refine to_eq (fr' := (36, [(0, .ref 0), (1, .int (nI k1)), (2, .int (nI k2)), (3, .int x1)], [], gh S a b sc2 ar2 lo, ex, 0, 0)) rfl ?_
  refine to_n 1 (fr' := (37, [(0, .ref 0), (1, .int (nI k1)), (2, .int (nI k2)), (3, .int x1)], [.ref 0], gh S a b sc2 ar2 lo, ex, 0, 0)) rfl ?_
  refine to_get rfl rfl rfl rfl ?_
  refine to_n 2 (fr' := (43, [(0, .ref 0), (1, .int (nI k1)), (2, .int (nI k2)), (3, .int x1)], [.ref 0, .int (-22), .ref 33], gh S a b sc2 ar2 lo, ex, 0, 0)) rfl ?_
  refine to_get rfl rfl rfl rfl ?_
  refine to_get rfl rfl rfl rfl ?_
  refine to_n 1 (fr' := (50, [(0, .ref 0), (1, .int (nI k1)), (2, .int (nI k2)), (3, .int x1)], [.int (nI k2), .ref 8, .int (-22), .ref 33], gh S a b sc2 ar2 lo, ex, 0, 0)) rfl ?_
  refine to_ialR (i := k2) (v := (ar 8 k2)) rfl (by decide) rfl (by omega) (by omega) (congrFun (hF2.2 8 (by decide)) k2) ?_
  refine to_cv (q := 30) (M1 := an_X3_learn) (rest := []) rfl rfl (by decide) rfl ⟨_, rfl⟩ (sf_X3_learn hW hI2 (-22) (ar 8 k2) d) (fun sc3 ar3 hx3 => ?_)
  obtain ⟨hI3, hG3, hx3⟩ := hx3
  have hF3 := fr_t hF2 hG3 (by decide) (by decide)
  refine to_eq (fr' := (54, [(0, .ref 0), (1, .int (nI k1)), (2, .int (nI k2)), (3, .int x1)], [], gh S a b sc3 ar3 lo, ex, 0, 0)) rfl ?_
  refine to_n 1 (fr' := (55, [(0, .ref 0), (1, .int (nI k1)), (2, .int (nI k2)), (3, .int x1)], [.ref 0], gh S a b sc3 ar3 lo, ex, 0, 0)) rfl ?_
  refine to_get rfl rfl rfl rfl ?_
  refine to_n 2 (fr' := (61, [(0, .ref 0), (1, .int (nI k1)), (2, .int (nI k2)), (3, .int x1)], [.ref 0, .int (-23), .ref 33], gh S a b sc3 ar3 lo, ex, 0, 0)) rfl ?_
  refine to_get rfl rfl rfl rfl ?_
  refine to_get rfl rfl rfl rfl ?_
  refine to_n 1 (fr' := (68, [(0, .ref 0), (1, .int (nI k1)), (2, .int (nI k2)), (3, .int x1)], [.int (nI k1), .ref 14, .int (-23), .ref 33], gh S a b sc3 ar3 lo, ex, 0, 0)) rfl ?_
  refine to_ialR (i := k1) (v := (ar 14 k1)) rfl (by decide) rfl (by omega) (by omega) (congrFun (hF3.2 14 (by decide)) k1) ?_
  refine to_cv (q := 30) (M1 := an_X3_learn) (rest := []) rfl rfl (by decide) rfl ⟨_, rfl⟩ (sf_X3_learn hW hI3 (-23) (ar 14 k1) d) (fun sc4 ar4 hx4 => ?_)
  obtain ⟨hI4, hG4, hx4⟩ := hx4
  have hF4 := fr_t hF3 hG4 (by decide) (by decide)
  refine to_eq (fr' := (72, [(0, .ref 0), (1, .int (nI k1)), (2, .int (nI k2)), (3, .int x1)], [], gh S a b sc4 ar4 lo, ex, 0, 0)) rfl ?_
  refine to_n 1 (fr' := (73, [(0, .ref 0), (1, .int (nI k1)), (2, .int (nI k2)), (3, .int x1)], [.ref 0], gh S a b sc4 ar4 lo, ex, 0, 0)) rfl ?_
  refine to_get rfl rfl rfl rfl ?_
  refine to_n 2 (fr' := (79, [(0, .ref 0), (1, .int (nI k1)), (2, .int (nI k2)), (3, .int x1)], [.ref 0, .int (-24), .ref 33], gh S a b sc4 ar4 lo, ex, 0, 0)) rfl ?_
  refine to_get rfl rfl rfl rfl ?_
  refine to_get rfl rfl rfl rfl ?_
  refine to_n 1 (fr' := (86, [(0, .ref 0), (1, .int (nI k1)), (2, .int (nI k2)), (3, .int x1)], [.int (nI k1), .ref 15, .int (-24), .ref 33], gh S a b sc4 ar4 lo, ex, 0, 0)) rfl ?_
  refine to_ialR (i := k1) (v := (ar 15 k1)) rfl (by decide) rfl (by omega) (by omega) (congrFun (hF4.2 15 (by decide)) k1) ?_
  refine to_cv (q := 30) (M1 := an_X3_learn) (rest := []) rfl rfl (by decide) rfl ⟨_, rfl⟩ (sf_X3_learn hW hI4 (-24) (ar 15 k1) d) (fun sc5 ar5 hx5 => ?_)
  obtain ⟨hI5, hG5, hx5⟩ := hx5
  have hF5 := fr_t hF4 hG5 (by decide) (by decide)
  refine to_eq (fr' := (90, [(0, .ref 0), (1, .int (nI k1)), (2, .int (nI k2)), (3, .int x1)], [], gh S a b sc5 ar5 lo, ex, 0, 0)) rfl ?_
  refine to_n 1 (fr' := (91, [(0, .ref 0), (1, .int (nI k1)), (2, .int (nI k2)), (3, .int x1)], [.ref 0], gh S a b sc5 ar5 lo, ex, 0, 0)) rfl ?_
  refine to_get rfl rfl rfl rfl ?_
  refine to_n 2 (fr' := (97, [(0, .ref 0), (1, .int (nI k1)), (2, .int (nI k2)), (3, .int x1)], [.ref 0, .int (-25), .ref 33], gh S a b sc5 ar5 lo, ex, 0, 0)) rfl ?_
  refine to_get rfl rfl rfl rfl ?_
  refine to_n 1 (fr' := (101, [(0, .ref 0), (1, .int (nI k1)), (2, .int (nI k2)), (3, .int x1)], [.ref 0, .ref 1, .int (-25), .ref 33], gh S a b sc5 ar5 lo, ex, 0, 0)) rfl ?_
  refine to_get rfl rfl rfl rfl ?_
  refine to_get rfl rfl rfl rfl ?_
  refine to_n 1 (fr' := (108, [(0, .ref 0), (1, .int (nI k1)), (2, .int (nI k2)), (3, .int x1)], [.int (nI k1), .ref 16, .ref 1, .int (-25), .ref 33], gh S a b sc5 ar5 lo, ex, 0, 0)) rfl ?_
  obtain ⟨n6, hn6, e6⟩ := iv_a16 hI k1
  refine to_ialR (i := k1) (v := (nI n6)) rfl (by decide) rfl (by omega) (by omega) ((congrFun (hF5.2 16 (by decide)) k1).trans e6) ?_
  refine to_n 1 (fr' := (110, [(0, .ref 0), (1, .int (nI k1)), (2, .int (nI k2)), (3, .int x1)], [.int (nI k2), .int (nI n6), .ref 1, .int (-25), .ref 33], gh S a b sc5 ar5 lo, ex, 0, 0)) rfl ?_
  refine to_cp (q := 3) (M1 := an_X0_far) (rest := [.int (-25), .ref 33]) rfl rfl (by decide) rfl ⟨_, rfl⟩ (sf_X0_far hW hI5 n6 (by omega) k2 (by omega) (gd_fr hg hF5 (by decide) (by decide) (by decide)) d) (fun x7 hx7 => ?_)
  obtain rfl := hx7
  have hb7 : zds a n6 k2 < 16 := zds_b hW (show n6 < S by omega) (show k2 < S by omega)
  refine to_eq (fr' := (113, [(0, .ref 0), (1, .int (nI k1)), (2, .int (nI k2)), (3, .int x1)], [.int (nI (zds a n6 k2)), .int (-25), .ref 33], gh S a b sc5 ar5 lo, ex, 0, 0)) rfl ?_
  refine to_cv (q := 30) (M1 := an_X3_learn) (rest := []) rfl rfl (by decide) rfl ⟨_, rfl⟩ (sf_X3_learn hW hI5 (-25) (nI (zds a n6 k2)) d) (fun sc8 ar8 hx8 => ?_)
  obtain ⟨hI8, hG8, hx8⟩ := hx8
  have hF8 := fr_t hF5 hG8 (by decide) (by decide)
  refine to_eq (fr' := (116, [(0, .ref 0), (1, .int (nI k1)), (2, .int (nI k2)), (3, .int x1)], [], gh S a b sc8 ar8 lo, ex, 0, 0)) rfl ?_
  refine to_n 1 (fr' := (117, [(0, .ref 0), (1, .int (nI k1)), (2, .int (nI k2)), (3, .int x1)], [.ref 0], gh S a b sc8 ar8 lo, ex, 0, 0)) rfl ?_
  refine to_get rfl rfl rfl rfl ?_
  refine to_n 2 (fr' := (123, [(0, .ref 0), (1, .int (nI k1)), (2, .int (nI k2)), (3, .int x1)], [.ref 0, .int (-26), .ref 33], gh S a b sc8 ar8 lo, ex, 0, 0)) rfl ?_
  refine to_getR (v := (nI h)) rfl rfl rfl rfl ((hF8.1 11 (by decide)).trans eh) ?_
  refine to_n 1 (fr' := (128, [(0, .ref 0), (1, .int (nI k1)), (2, .int (nI k2)), (3, .int x1)], [.int 24, .int (nI h), .int (-26), .ref 33], gh S a b sc8 ar8 lo, ex, 0, 0)) rfl ?_
  refine to_remN (x := h) (y := 24) rfl (by omega) (by omega) (by omega) ?_
  refine to_cv (q := 30) (M1 := an_X3_learn) (rest := []) rfl rfl (by decide) rfl ⟨_, rfl⟩ (sf_X3_learn hW hI8 (-26) (nI (h % 24)) d) (fun sc9 ar9 hx9 => ?_)
  obtain ⟨hI9, hG9, hx9⟩ := hx9
  have hF9 := fr_t hF8 hG9 (by decide) (by decide)
  refine to_eq (fr' := (132, [(0, .ref 0), (1, .int (nI k1)), (2, .int (nI k2)), (3, .int x1)], [], gh S a b sc9 ar9 lo, ex, 0, 0)) rfl ?_
  refine to_n 1 (fr' := (133, [(0, .ref 0), (1, .int (nI k1)), (2, .int (nI k2)), (3, .int x1)], [.ref 0], gh S a b sc9 ar9 lo, ex, 0, 0)) rfl ?_
  refine to_get rfl rfl rfl rfl ?_
  refine to_n 2 (fr' := (139, [(0, .ref 0), (1, .int (nI k1)), (2, .int (nI k2)), (3, .int x1)], [.int x1, .int (-27), .ref 33], gh S a b sc9 ar9 lo, ex, 0, 0)) rfl ?_
  refine to_cv (q := 30) (M1 := an_X3_learn) (rest := []) rfl rfl (by decide) rfl ⟨_, rfl⟩ (sf_X3_learn hW hI9 (-27) x1 d) (fun sc10 ar10 hx10 => ?_)
  obtain ⟨hI10, hG10, hx10⟩ := hx10
  have hF10 := fr_t hF9 hG10 (by decide) (by decide)
  refine to_eq (fr' := (142, [(0, .ref 0), (1, .int (nI k1)), (2, .int (nI k2)), (3, .int x1)], [], gh S a b sc10 ar10 lo, ex, 0, 0)) rfl ?_
  exact to_rt (i := .return_) (tg := []) rfl rfl ⟨_, _, ⟨hI10, hF10, (by rw [hx10, hx9, hx8, hx5, hx4, hx3, hx2, hx1, e6, nI_clamp (by omega)]; rfl)⟩, rfl⟩
set_option maxRecDepth 20000 in
theorem sf_X9_payFor {X : Nat × (Nat → Int32)} {S a b : Nat} {sc : Nat → Int32} {ar : Nat → Nat → Int32} {lo : Nat → Int64} {ex : Bool} (hW : Wd S a b) (hI : Iv S sc ar) (h : Nat) (ehb : h < 2401) (l0 : Nat) (el0b : l0 < 7) (k1 : Nat) (hk1 : k1 < 8) (k2 : Nat) (hk2 : k2 < S) (hg : Gd S a b ar) (hB : zBk l0 (ar 30) (ar 31)) (eh : sc 11 = nI h) (el0 : sc 2903 = nI l0) (d : Nat)  : ci X S a b (d + 4) 105 [.ref 0, .int (nI k1), .int (nI k2)] sc ar lo ex (fun x sc' ar' => Iv S sc' ar' ∧ Fr [3300, 3301, 3304] [34, 35] sc ar sc' ar' ∧ x = zpf S a l0 h (ar 7) (ar 6) (ar 14) (ar 15) (ar 16) (ar 30) (ar 31) (ar 32) (ar 5) (ar 8) k1 k2) := by
  obtain ⟨ha1, ha8, hb1, hb8, hab, hS1, hS⟩ := id hW
  refine ci_of (M := an_X9_payFor) rfl (Nat.le_of_ble_eq_true rfl) ?_
  have hF : Fr [3300, 3301, 3304] [34, 35] sc ar sc ar := fr_0
  refine to_eq (fr' := (0, [(0, .ref 0), (1, .int (nI k1)), (2, .int (nI k2))], [], gh S a b sc ar lo, ex, 0, 0)) rfl ?_
  refine to_n 1 (fr' := (1, [(0, .ref 0), (1, .int (nI k1)), (2, .int (nI k2))], [.ref 0], gh S a b sc ar lo, ex, 0, 0)) rfl ?_
  refine to_get rfl rfl rfl rfl ?_
  refine to_n 1 (fr' := (5, [(0, .ref 0), (1, .int (nI k1)), (2, .int (nI k2))], [.ref 0, .ref 29], gh S a b sc ar lo, ex, 0, 0)) rfl ?_
  refine to_getR (v := (nI h)) rfl rfl rfl rfl ((hF.1 11 (by decide)).trans eh) ?_
  refine to_n 1 (fr' := (10, [(0, .ref 0), (1, .int (nI k1)), (2, .int (nI k2))], [.int 24, .int (nI h), .ref 29], gh S a b sc ar lo, ex, 0, 0)) rfl ?_
  refine to_divN (x := h) (y := 24) rfl (by omega) (by omega) (by omega) ?_
  refine to_cp (q := 39) (M1 := an_X4_inForce) (rest := []) rfl rfl (by decide) rfl ⟨_, rfl⟩ (sf_X4_inForce hW hI l0 (by omega) (nI (h / 24)) ((hF.1 2903 (by decide)).trans el0) (d + 2)) (fun x1 hx1 => ?_)
  obtain ⟨hx1, hp1⟩ := hx1
  rcases hx1 with rfl | ⟨n1, hn1, rfl⟩
  · refine to_eq (fr' := (14, [(0, .ref 0), (1, .int (nI k1)), (2, .int (nI k2))], [.int (-1)], gh S a b sc ar lo, ex, 0, 0)) rfl ?_
    refine to_n 5 (fr' := (21, [(0, .ref 0), (1, .int (nI k1)), (2, .int (nI k2)), (3, .int (-1))], [.int 1], gh S a b sc ar lo, ex, 0, 0)) rfl ?_
    exact to_rt (i := .ireturn) (tg := []) rfl rfl ⟨_, _, _, ⟨hI, hF, (zpf_0 hp1)⟩, rfl⟩
  · refine to_eq (fr' := (14, [(0, .ref 0), (1, .int (nI k1)), (2, .int (nI k2))], [.int (nI n1)], gh S a b sc ar lo, ex, 0, 0)) rfl ?_
    refine to_n 3 (fr' := (17, [(0, .ref 0), (1, .int (nI k1)), (2, .int (nI k2)), (3, .int (nI n1))], [.int (-1), .int (nI n1)], gh S a b sc ar lo, ex, 0, 0)) rfl ?_
    refine to_ic_ne_T (t := 22) (x := (nI n1)) (y := (-1)) rfl (nI_neg (by omega) (by decide)) ?_
    refine to_n 4 (fr' := (26, [(0, .ref 0), (1, .int (nI k1)), (2, .int (nI k2)), (3, .int (nI n1))], [.ref 0, .int (nI k2), .int (nI k1), .ref 0], gh S a b sc ar lo, ex, 0, 0)) rfl ?_
    refine to_get rfl rfl rfl rfl ?_
    refine to_n 1 (fr' := (30, [(0, .ref 0), (1, .int (nI k1)), (2, .int (nI k2)), (3, .int (nI n1))], [.int 1, .ref 1, .int (nI k2), .int (nI k1), .ref 0], gh S a b sc ar lo, ex, 0, 0)) rfl ?_
    refine to_cp (q := 6) (M1 := an_X0_tally) (rest := [.int (nI k2), .int (nI k1), .ref 0]) rfl rfl (by decide) rfl ⟨_, rfl⟩ (sf_X0_tally hW hI 1 (d + 2)) (fun x2 hx2 => ?_)
    have hp2 := hx2
    refine to_eq (fr' := (33, [(0, .ref 0), (1, .int (nI k1)), (2, .int (nI k2)), (3, .int (nI n1))], [.int x2, .int (nI k2), .int (nI k1), .ref 0], gh S a b sc ar lo, ex, 0, 0)) rfl ?_
    refine to_cv (q := 106) (M1 := an_X9_inform) (rest := []) rfl rfl (by decide) rfl ⟨_, rfl⟩ (sf_X9_inform hW hI h (by omega) k1 (by omega) k2 (by omega) x2 (gd_fr hg hF (by decide) (by decide) (by decide)) ((hF.1 11 (by decide)).trans eh) (d + 1)) (fun sc3 ar3 hx3 => ?_)
    obtain ⟨hI3, hG3, hx3⟩ := hx3
    have hF3 := fr_t hF hG3 (by decide) (by decide)
    refine to_eq (fr' := (36, [(0, .ref 0), (1, .int (nI k1)), (2, .int (nI k2)), (3, .int (nI n1))], [], gh S a b sc3 ar3 lo, ex, 0, 0)) rfl ?_
    refine to_n 1 (fr' := (37, [(0, .ref 0), (1, .int (nI k1)), (2, .int (nI k2)), (3, .int (nI n1))], [.ref 0], gh S a b sc3 ar3 lo, ex, 0, 0)) rfl ?_
    refine to_get rfl rfl rfl rfl ?_
    refine to_n 1 (fr' := (41, [(0, .ref 0), (1, .int (nI k1)), (2, .int (nI k2)), (3, .int (nI n1))], [.ref 0, .ref 33], gh S a b sc3 ar3 lo, ex, 0, 0)) rfl ?_
    refine to_get rfl rfl rfl rfl ?_
    refine to_n 1 (fr' := (45, [(0, .ref 0), (1, .int (nI k1)), (2, .int (nI k2)), (3, .int (nI n1))], [.int (nI n1), .ref 29, .ref 33], gh S a b sc3 ar3 lo, ex, 0, 0)) rfl ?_
    refine to_cv (q := 31) (M1 := an_X3_apply) (rest := []) rfl rfl (by decide) rfl ⟨_, rfl⟩ (sf_X3_apply hW hI3 l0 (by omega) n1 (by omega) (by omega) ((hF3.1 2903 (by decide)).trans el0) d) (fun sc4 ar4 hx4 => ?_)
    obtain ⟨hI4, hG4, hx4⟩ := hx4
    have hF4 := fr_t hF3 hG4 (by decide) (by decide)
    refine to_eq (fr' := (48, [(0, .ref 0), (1, .int (nI k1)), (2, .int (nI k2)), (3, .int (nI n1))], [], gh S a b sc4 ar4 lo, ex, 0, 0)) rfl ?_
    refine to_n 1 (fr' := (49, [(0, .ref 0), (1, .int (nI k1)), (2, .int (nI k2)), (3, .int (nI n1))], [.ref 0], gh S a b sc4 ar4 lo, ex, 0, 0)) rfl ?_
    refine to_get rfl rfl rfl rfl ?_
    refine to_getR (v := (sc4 3301)) rfl rfl rfl rfl rfl ?_
    exact to_rt (i := .ireturn) (tg := []) rfl rfl ⟨_, _, _, ⟨hI4, hF4, (zpf_1 hp1 (by omega) el0b (show zBk l0 (ar 30) (ar 31) from hB) (show ar3 34 = _ by rw [hx3, hp2]) _ (by rw [hx4.2, hF3.2 30 (by decide), hF3.2 31 (by decide)]))⟩, rfl⟩
set_option maxRecDepth 20000 in
theorem sf_X9_isCalled {X : Nat × (Nat → Int32)} {S a b : Nat} {sc : Nat → Int32} {ar : Nat → Nat → Int32} {lo : Nat → Int64} {ex : Bool} (hW : Wd S a b) (hI : Iv S sc ar) (h : Nat) (ehb : h < 2401) (l0 : Nat) (el0b : l0 < 7) (k1 : Nat) (hk1 : k1 < 8) (k2 : Nat) (hk2 : k2 < S) (x1 : Int32) (hx1 : rq x1 l0) (x2 : Int32) (hg : Gd S a b ar) (hB : zBk l0 (ar 30) (ar 31)) (eh : sc 11 = nI h) (el0 : sc 2903 = nI l0) (d : Nat)  : ci X S a b (d + 4) 104 [.ref 0, .int (nI k1), .int (nI k2), .int x1, .int x2] sc ar lo ex (fun x sc' ar' => Iv S sc' ar' ∧ Fr [3300, 3301, 3304] [34, 35] sc ar sc' ar' ∧ ((x = 1 ∧ zcal x1 (zkw a (ar 7) (ar 6) (ar 8) (ar 14) (ar 15) (ar 16) h x2 k1 k2) (ar 30) (ar 31) (ar 14 k1) (ar 7 k2) = true) ∨ (x = 0 ∧ ¬ (zcal x1 (zkw a (ar 7) (ar 6) (ar 8) (ar 14) (ar 15) (ar 16) h x2 k1 k2) (ar 30) (ar 31) (ar 14 k1) (ar 7 k2) = true)))) := by
  obtain ⟨ha1, ha8, hb1, hb8, hab, hS1, hS⟩ := id hW
  refine ci_of (M := an_X9_isCalled) rfl (Nat.le_of_ble_eq_true rfl) ?_
  have hF : Fr [3300, 3301, 3304] [34, 35] sc ar sc ar := fr_0
  refine to_eq (fr' := (0, [(0, .ref 0), (1, .int (nI k1)), (2, .int (nI k2)), (3, .int x1), (4, .int x2)], [], gh S a b sc ar lo, ex, 0, 0)) rfl ?_
  rcases hx1 with rfl | ⟨n1, hn1, rfl⟩
  · refine to_eq (fr' := (0, [(0, .ref 0), (1, .int (nI k1)), (2, .int (nI k2)), (3, .int (-1)), (4, .int x2)], [], gh S a b sc ar lo, ex, 0, 0)) rfl ?_
    refine to_n 4 (fr' := (6, [(0, .ref 0), (1, .int (nI k1)), (2, .int (nI k2)), (3, .int (-1)), (4, .int x2)], [.ref 0], gh S a b sc ar lo, ex, 0, 0)) rfl ?_
    refine to_get rfl rfl rfl rfl ?_
    refine to_get rfl rfl rfl rfl ?_
    refine to_n 1 (fr' := (13, [(0, .ref 0), (1, .int (nI k1)), (2, .int (nI k2)), (3, .int (-1)), (4, .int x2)], [.int (nI k1), .ref 14], gh S a b sc ar lo, ex, 0, 0)) rfl ?_
    refine to_ialR (i := k1) (v := (ar 14 k1)) rfl (by decide) rfl (by omega) (by omega) (congrFun (hF.2 14 (by decide)) k1) ?_
    refine to_n 1 (fr' := (15, [(0, .ref 0), (1, .int (nI k1)), (2, .int (nI k2)), (3, .int (-1)), (4, .int x2)], [.ref 0, .int (ar 14 k1)], gh S a b sc ar lo, ex, 0, 0)) rfl ?_
    refine to_get rfl rfl rfl rfl ?_
    refine to_get rfl rfl rfl rfl ?_
    refine to_n 1 (fr' := (22, [(0, .ref 0), (1, .int (nI k1)), (2, .int (nI k2)), (3, .int (-1)), (4, .int x2)], [.int (nI k2), .ref 7, .int (ar 14 k1)], gh S a b sc ar lo, ex, 0, 0)) rfl ?_
    refine to_ialR (i := k2) (v := (ar 7 k2)) rfl (by decide) rfl (by omega) (by omega) (congrFun (hF.2 7 (by decide)) k2) ?_
    refine to_ic_ne (t := 30) rfl (fun q2 => ?_) (fun q2 => ?_)
    · refine to_n 1 (fr' := (31, [(0, .ref 0), (1, .int (nI k1)), (2, .int (nI k2)), (3, .int (-1)), (4, .int x2)], [.int 0], gh S a b sc ar lo, ex, 0, 0)) rfl ?_
      exact to_rt (i := .ireturn) (tg := []) rfl rfl ⟨_, _, _, ⟨hI, hF, (Or.inr ⟨rfl, (fun w => q2 (zcal_0.mp w))⟩)⟩, rfl⟩
    · refine to_n 2 (fr' := (31, [(0, .ref 0), (1, .int (nI k1)), (2, .int (nI k2)), (3, .int (-1)), (4, .int x2)], [.int 1], gh S a b sc ar lo, ex, 0, 0)) rfl ?_
      exact to_rt (i := .ireturn) (tg := []) rfl rfl ⟨_, _, _, ⟨hI, hF, (Or.inl ⟨rfl, (zcal_0.mpr q2)⟩)⟩, rfl⟩
  · refine to_eq (fr' := (0, [(0, .ref 0), (1, .int (nI k1)), (2, .int (nI k2)), (3, .int (nI n1)), (4, .int x2)], [], gh S a b sc ar lo, ex, 0, 0)) rfl ?_
    refine to_n 2 (fr' := (2, [(0, .ref 0), (1, .int (nI k1)), (2, .int (nI k2)), (3, .int (nI n1)), (4, .int x2)], [.int (-1), .int (nI n1)], gh S a b sc ar lo, ex, 0, 0)) rfl ?_
    refine to_ic_ne_T (t := 32) (x := (nI n1)) (y := (-1)) rfl (nI_neg (by omega) (by decide)) ?_
    refine to_n 4 (fr' := (37, [(0, .ref 0), (1, .int (nI k1)), (2, .int (nI k2)), (3, .int (nI n1)), (4, .int x2)], [.int x2, .int (nI k2), .int (nI k1), .ref 0], gh S a b sc ar lo, ex, 0, 0)) rfl ?_
    refine to_cv (q := 106) (M1 := an_X9_inform) (rest := []) rfl rfl (by decide) rfl ⟨_, rfl⟩ (sf_X9_inform hW hI h (by omega) k1 (by omega) k2 (by omega) x2 (gd_fr hg hF (by decide) (by decide) (by decide)) ((hF.1 11 (by decide)).trans eh) (d + 1)) (fun sc3 ar3 hx3 => ?_)
    obtain ⟨hI3, hG3, hx3⟩ := hx3
    have hF3 := fr_t hF hG3 (by decide) (by decide)
    refine to_eq (fr' := (40, [(0, .ref 0), (1, .int (nI k1)), (2, .int (nI k2)), (3, .int (nI n1)), (4, .int x2)], [], gh S a b sc3 ar3 lo, ex, 0, 0)) rfl ?_
    refine to_n 1 (fr' := (41, [(0, .ref 0), (1, .int (nI k1)), (2, .int (nI k2)), (3, .int (nI n1)), (4, .int x2)], [.ref 0], gh S a b sc3 ar3 lo, ex, 0, 0)) rfl ?_
    refine to_get rfl rfl rfl rfl ?_
    refine to_n 1 (fr' := (45, [(0, .ref 0), (1, .int (nI k1)), (2, .int (nI k2)), (3, .int (nI n1)), (4, .int x2)], [.ref 0, .ref 33], gh S a b sc3 ar3 lo, ex, 0, 0)) rfl ?_
    refine to_get rfl rfl rfl rfl ?_
    refine to_n 1 (fr' := (49, [(0, .ref 0), (1, .int (nI k1)), (2, .int (nI k2)), (3, .int (nI n1)), (4, .int x2)], [.int (nI n1), .ref 29, .ref 33], gh S a b sc3 ar3 lo, ex, 0, 0)) rfl ?_
    refine to_cv (q := 31) (M1 := an_X3_apply) (rest := []) rfl rfl (by decide) rfl ⟨_, rfl⟩ (sf_X3_apply hW hI3 l0 (by omega) n1 (by omega) (by omega) ((hF3.1 2903 (by decide)).trans el0) d) (fun sc4 ar4 hx4 => ?_)
    obtain ⟨hI4, hG4, hx4⟩ := hx4
    have hF4 := fr_t hF3 hG4 (by decide) (by decide)
    refine to_eq (fr' := (52, [(0, .ref 0), (1, .int (nI k1)), (2, .int (nI k2)), (3, .int (nI n1)), (4, .int x2)], [], gh S a b sc4 ar4 lo, ex, 0, 0)) rfl ?_
    refine to_n 1 (fr' := (53, [(0, .ref 0), (1, .int (nI k1)), (2, .int (nI k2)), (3, .int (nI n1)), (4, .int x2)], [.ref 0], gh S a b sc4 ar4 lo, ex, 0, 0)) rfl ?_
    refine to_get rfl rfl rfl rfl ?_
    obtain ⟨n5, hn5, e5⟩ := iv_s3300 hI4
    refine to_getR (v := (nI n5)) rfl rfl rfl rfl e5 ?_
    exact to_rt (i := .ireturn) (tg := []) rfl (ai_rtz (rl_n (n := n5) (by omega))) ⟨_, _, _, ⟨hI4, hF4, (zdec (by omega) e5 (zcal_1 (by omega) el0b hB (show ar3 34 = _ by rw [hx3]) _ (by rw [hx4.1, hF3.2 30 (by decide), hF3.2 31 (by decide)])))⟩, rfl⟩
set_option maxRecDepth 20000 in
theorem sf_X9_ringBell {X : Nat × (Nat → Int32)} {S a b : Nat} {sc : Nat → Int32} {ar : Nat → Nat → Int32} {lo : Nat → Int64} {ex : Bool} (hW : Wd S a b) (hI : Iv S sc ar) (n : Nat) (enb : n < 9) (h : Nat) (ehb : h < 2401) (l0 : Nat) (el0b : l0 < 7) (k1 : Nat) (hk1 : k1 < S) (x1 : Int32) (x2 : Int32) (hx1 : rq x1 l0) (hg : Gd S a b ar) (hB : zBk l0 (ar 30) (ar 31)) (en : sc 1308 = nI n) (eh : sc 11 = nI h) (el0 : sc 2903 = nI l0) (d : Nat)  : cv X S a b (d + 5) 103 [.ref 0, .int (nI k1), .int x1, .int x2] sc ar lo ex (fun sc' ar' => Iv S sc' ar' ∧ Fr [3300, 3301, 3304] [17, 34, 35] sc ar sc' ar' ∧ ar' 17 = zpw (zrbW a h x1 x2 (ar 7) (ar 6) (ar 8) (ar 14) (ar 15) (ar 16) (ar 30) (ar 31) k1 (ar 17)) (ar 17) n) := by
  obtain ⟨ha1, ha8, hb1, hb8, hab, hS1, hS⟩ := id hW
  refine cv_of (M := an_X9_ringBell) rfl (Nat.le_of_ble_eq_true rfl) ?_
  have hF : Fr [3300, 3301, 3304] [17, 34, 35] sc ar sc ar := fr_0
  refine to_eq (fr' := (0, [(0, .ref 0), (1, .int (nI k1)), (2, .int x1), (3, .int x2)], [], gh S a b sc ar lo, ex, 0, 0)) rfl ?_
  have c3 : ∀ m : Nat, ∀ (i : Nat) (sc1 : Nat → Int32) (ar1 : Nat → Nat → Int32), i + m = n → ar1 17 = zpw (zrbW a h x1 x2 (ar 7) (ar 6) (ar 8) (ar 14) (ar 15) (ar 16) (ar 30) (ar 31) k1 (ar 17)) (ar 17) i → Iv S sc1 ar1 → Fr [3300, 3301, 3304] [17, 34, 35] sc ar sc1 ar1 → ag_To X (d + 4) an_X9_ringBell (3, [(0, .ref 0), (1, .int (nI k1)), (2, .int x1), (3, .int x2), (4, .int (nI i))], [], gh S a b sc1 ar1 lo, ex, 0, 0) (qv S a b lo ex (fun sc' ar' => Iv S sc' ar' ∧ Fr [3300, 3301, 3304] [17, 34, 35] sc ar sc' ar' ∧ ar' 17 = zpw (zrbW a h x1 x2 (ar 7) (ar 6) (ar 8) (ar 14) (ar 15) (ar 16) (ar 30) (ar 31) k1 (ar 17)) (ar 17) n)) := by
    intro m
    induction m with
    | zero =>
      intro i sc1 ar1 hm hc3_0 hI1 hF1
      refine to_n 2 (fr' := (6, [(0, .ref 0), (1, .int (nI k1)), (2, .int x1), (3, .int x2), (4, .int (nI i))], [.ref 0, .int (nI i)], gh S a b sc1 ar1 lo, ex, 0, 0)) rfl ?_
      refine to_get rfl rfl rfl rfl ?_
      refine to_getR (v := (nI n)) rfl rfl rfl rfl ((hF1.1 1308 (by decide)).trans en) ?_
      refine to_nc_ge_T (t := 58) (x := i) (y := n) rfl (by omega) (by omega) (by omega) ?_
      exact to_rt (i := .return_) (tg := []) rfl rfl ⟨_, _, ⟨hI1, hF1, (by rw [show n = i by omega]; exact hc3_0)⟩, rfl⟩
    | succ m ih =>
      intro i sc1 ar1 hm hc3_0 hI1 hF1
      refine to_n 2 (fr' := (6, [(0, .ref 0), (1, .int (nI k1)), (2, .int x1), (3, .int x2), (4, .int (nI i))], [.ref 0, .int (nI i)], gh S a b sc1 ar1 lo, ex, 0, 0)) rfl ?_
      refine to_get rfl rfl rfl rfl ?_
      refine to_getR (v := (nI n)) rfl rfl rfl rfl ((hF1.1 1308 (by decide)).trans en) ?_
      refine to_nc_ge_F (t := 58) (x := i) (y := n) rfl (by omega) (by omega) (by omega) ?_
      refine to_n 1 (fr' := (16, [(0, .ref 0), (1, .int (nI k1)), (2, .int x1), (3, .int x2), (4, .int (nI i))], [.ref 0], gh S a b sc1 ar1 lo, ex, 0, 0)) rfl ?_
      refine to_get rfl rfl rfl rfl ?_
      refine to_get rfl rfl rfl rfl ?_
      refine to_n 1 (fr' := (24, [(0, .ref 0), (1, .int (nI k1)), (2, .int x1), (3, .int x2), (4, .int (nI i))], [.int (nI i), .ref 17], gh S a b sc1 ar1 lo, ex, 0, 0)) rfl ?_
      rcases iv_a17 hI1 i with e2 | ⟨n2, hn2, e2⟩
      · refine to_ialR (i := i) (v := (-1)) rfl (by decide) rfl (by omega) (by omega) e2 ?_
        refine to_n 7 (fr' := (35, [(0, .ref 0), (1, .int (nI k1)), (2, .int x1), (3, .int x2), (4, .int (nI i))], [.int x2, .int x1, .int (nI k1), .int (nI i), .ref 0], gh S a b sc1 ar1 lo, ex, 0, 0)) rfl ?_
        refine to_ci (q := 104) (M1 := an_X9_isCalled) (rest := []) rfl rfl (by decide) rfl ⟨_, rfl⟩ (sf_X9_isCalled hW hI1 h (by omega) l0 (by omega) i (by omega) k1 (by omega) x1 (hx1) x2 (gd_fr hg hF1 (by decide) (by decide) (by decide)) (zbk_fr hB hF1 (by decide) (by decide)) ((hF1.1 11 (by decide)).trans eh) ((hF1.1 2903 (by decide)).trans el0) d) (fun x3 sc3 ar3 hx3 => ?_)
        obtain ⟨hI3, hG3, hx3⟩ := hx3
        have hF3 := fr_t hF1 hG3 (by decide) (by decide)
        simp only [show ar1 7 = ar 7 from hF1.2 7 (by decide), show ar1 6 = ar 6 from hF1.2 6 (by decide), show ar1 8 = ar 8 from hF1.2 8 (by decide), show ar1 14 = ar 14 from hF1.2 14 (by decide), show ar1 15 = ar 15 from hF1.2 15 (by decide), show ar1 16 = ar 16 from hF1.2 16 (by decide), show ar1 30 = ar 30 from hF1.2 30 (by decide), show ar1 31 = ar 31 from hF1.2 31 (by decide)] at hx3
        rcases hx3 with ⟨rfl, w3⟩ | ⟨rfl, w3⟩
        · refine to_eq (fr' := (38, [(0, .ref 0), (1, .int (nI k1)), (2, .int x1), (3, .int x2), (4, .int (nI i))], [.int 1], gh S a b sc3 ar3 lo, ex, 0, 0)) rfl ?_
          refine to_n 2 (fr' := (42, [(0, .ref 0), (1, .int (nI k1)), (2, .int x1), (3, .int x2), (4, .int (nI i))], [.ref 0], gh S a b sc3 ar3 lo, ex, 0, 0)) rfl ?_
          refine to_get rfl rfl rfl rfl ?_
          refine to_get rfl rfl rfl rfl ?_
          refine to_n 2 (fr' := (51, [(0, .ref 0), (1, .int (nI k1)), (2, .int x1), (3, .int x2), (4, .int (nI i))], [.int (nI k1), .int (nI i), .ref 17], gh S a b sc3 ar3 lo, ex, 0, 0)) rfl ?_
          refine to_iasR (i := i) (h' := gh S a b sc3 (uA ar3 17 (upd (ar3 17) i (nI k1))) lo) rfl rfl (by omega) (by omega) rfl ?_
          have hI4 := ia_17 (i := i) (v := (nI k1)) hI3 (rq_n (n := k1) (by omega))
          have hF4 := fr_a (c := 17) (g := (upd (ar3 17) i (nI k1))) hF3 (by decide)
          refine to_n 1 (fr' := (55, [(0, .ref 0), (1, .int (nI k1)), (2, .int x1), (3, .int x2), (4, .int ((nI i) + 1))], [], gh S a b sc3 (uA ar3 17 (upd (ar3 17) i (nI k1))) lo, ex, 0, 0)) rfl ?_
          rw [nI_1 i]
          refine to_n 1 (fr' := (3, [(0, .ref 0), (1, .int (nI k1)), (2, .int x1), (3, .int x2), (4, .int (nI (i + 1)))], [], gh S a b sc3 (uA ar3 17 (upd (ar3 17) i (nI k1))) lo, ex, 0, 0)) rfl ?_
          exact ih (i + 1) sc3 (uA ar3 17 (upd (ar3 17) i (nI k1))) (by omega) (by rw [show (uA ar3 17 (upd (ar3 17) i (nI k1))) 17 = upd (ar1 17) i (nI k1) from (by rw [uA_s, hG3.2 17 (by decide)])]; exact zrb_y (n := n) hc3_0 e2 w3) hI4 hF4
        · refine to_eq (fr' := (38, [(0, .ref 0), (1, .int (nI k1)), (2, .int x1), (3, .int x2), (4, .int (nI i))], [.int 0], gh S a b sc3 ar3 lo, ex, 0, 0)) rfl ?_
          refine to_n 2 (fr' := (55, [(0, .ref 0), (1, .int (nI k1)), (2, .int x1), (3, .int x2), (4, .int ((nI i) + 1))], [], gh S a b sc3 ar3 lo, ex, 0, 0)) rfl ?_
          rw [nI_1 i]
          refine to_n 1 (fr' := (3, [(0, .ref 0), (1, .int (nI k1)), (2, .int x1), (3, .int x2), (4, .int (nI (i + 1)))], [], gh S a b sc3 ar3 lo, ex, 0, 0)) rfl ?_
          exact ih (i + 1) sc3 ar3 (by omega) (by rw [show ar3 17 = ar1 17 from hG3.2 17 (by decide)]; exact zrb_n hc3_0 (fun w => w3 w.2)) hI3 hF3
      · refine to_ialR (i := i) (v := (nI n2)) rfl (by decide) rfl (by omega) (by omega) e2 ?_
        refine to_n 1 (fr' := (26, [(0, .ref 0), (1, .int (nI k1)), (2, .int x1), (3, .int x2), (4, .int (nI i))], [.int (-1), .int (nI n2)], gh S a b sc1 ar1 lo, ex, 0, 0)) rfl ?_
        refine to_ic_ne_T (t := 52) (x := (nI n2)) (y := (-1)) rfl (nI_neg (by omega) (by decide)) ?_
        refine to_n 1 (fr' := (55, [(0, .ref 0), (1, .int (nI k1)), (2, .int x1), (3, .int x2), (4, .int ((nI i) + 1))], [], gh S a b sc1 ar1 lo, ex, 0, 0)) rfl ?_
        rw [nI_1 i]
        refine to_n 1 (fr' := (3, [(0, .ref 0), (1, .int (nI k1)), (2, .int x1), (3, .int x2), (4, .int (nI (i + 1)))], [], gh S a b sc1 ar1 lo, ex, 0, 0)) rfl ?_
        exact ih (i + 1) sc1 ar1 (by omega) (zrb_n hc3_0 (fun w => nI_neg (by omega) (by decide) (e2.symm.trans w.1))) hI1 hF1
  refine to_n 2 (fr' := (3, [(0, .ref 0), (1, .int (nI k1)), (2, .int x1), (3, .int x2), (4, .int 0)], [], gh S a b sc ar lo, ex, 0, 0)) rfl ?_
  exact c3 (n - 0) 0 sc ar (by omega) zpw_0 hI hF
set_option maxRecDepth 20000 in
theorem sf_X9_ringBells {X : Nat × (Nat → Int32)} {S a b : Nat} {sc : Nat → Int32} {ar : Nat → Nat → Int32} {lo : Nat → Int64} {ex : Bool} (hW : Wd S a b) (hI : Iv S sc ar) (n : Nat) (enb : n < 9) (h : Nat) (ehb : h < 2401) (l0 : Nat) (el0b : l0 < 7) (f : Nat) (efb : f < 65) (hfS : f ≤ S) (hg : Gd S a b ar) (hB : zBk l0 (ar 30) (ar 31)) (en : sc 1308 = nI n) (eh : sc 11 = nI h) (el0 : sc 2903 = nI l0) (ef : sc 9 = nI f) (d : Nat)  : cv X S a b (d + 6) 102 [.ref 0] sc ar lo ex (fun sc' ar' => Iv S sc' ar' ∧ Fr [3300, 3301, 3304] [17, 18, 34, 35] sc ar sc' ar' ∧ (ar' 17 = zrgA a n h (fo (ar 32) (nI (h / 24)) l0 0 (-1)) (zcn (ar 5) 1 S) (ar 7) (ar 6) (ar 8) (ar 14) (ar 15) (ar 16) (ar 30) (ar 31) (ar 48) f (zfgA n (ar 48) f (ar 17, ar 18)).1 ∧ ar' 18 = (zfgA n (ar 48) f (ar 17, ar 18)).2)) := by
  obtain ⟨ha1, ha8, hb1, hb8, hab, hS1, hS⟩ := id hW
  refine cv_of (M := an_X9_ringBells) rfl (Nat.le_of_ble_eq_true rfl) ?_
  have hF : Fr [3300, 3301, 3304] [17, 18, 34, 35] sc ar sc ar := fr_0
  refine to_eq (fr' := (0, [(0, .ref 0)], [], gh S a b sc ar lo, ex, 0, 0)) rfl ?_
  have c72 : ∀ m : Nat, ∀ (x : Int32) (y : Int32) (i : Nat) (sc1 : Nat → Int32) (ar1 : Nat → Nat → Int32), i + m = f → ar1 17 = zrgA a n h x y (ar 7) (ar 6) (ar 8) (ar 14) (ar 15) (ar 16) (ar 30) (ar 31) (ar 48) i (zfgA n (ar 48) f (ar 17, ar 18)).1 → ar1 18 = (zfgA n (ar 48) f (ar 17, ar 18)).2 → x = (fo (ar 32) (nI (h / 24)) l0 0 (-1)) → y = (zcn (ar 5) 1 S) → rq x l0 → Iv S sc1 ar1 → Fr [3300, 3301, 3304] [17, 18, 34, 35] sc ar sc1 ar1 → ag_To X (d + 5) an_X9_ringBells (72, [(0, .ref 0), (1, .int x), (2, .int y), (3, .int (nI i))], [], gh S a b sc1 ar1 lo, ex, 0, 0) (qv S a b lo ex (fun sc' ar' => Iv S sc' ar' ∧ Fr [3300, 3301, 3304] [17, 18, 34, 35] sc ar sc' ar' ∧ (ar' 17 = zrgA a n h (fo (ar 32) (nI (h / 24)) l0 0 (-1)) (zcn (ar 5) 1 S) (ar 7) (ar 6) (ar 8) (ar 14) (ar 15) (ar 16) (ar 30) (ar 31) (ar 48) f (zfgA n (ar 48) f (ar 17, ar 18)).1 ∧ ar' 18 = (zfgA n (ar 48) f (ar 17, ar 18)).2))) := by
    intro m
    induction m with
    | zero =>
      intro x y i sc1 ar1 hm hc72_0 hc72_1 hc72_2 hc72_3 hc72_4 hI1 hF1
      refine to_n 2 (fr' := (74, [(0, .ref 0), (1, .int x), (2, .int y), (3, .int (nI i))], [.ref 0, .int (nI i)], gh S a b sc1 ar1 lo, ex, 0, 0)) rfl ?_
      refine to_getR (v := (nI f)) rfl rfl rfl rfl ((hF1.1 9 (by decide)).trans ef) ?_
      refine to_nc_ge_T (t := 107) (x := i) (y := f) rfl (by omega) (by omega) (by omega) ?_
      exact to_rt (i := .return_) (tg := []) rfl rfl ⟨_, _, ⟨hI1, hF1, (by have e9 : i = f := (by omega); rw [← hc72_2, ← hc72_3]; rw [e9] at hc72_0; exact ⟨hc72_0, hc72_1⟩)⟩, rfl⟩
    | succ m ih =>
      intro x y i sc1 ar1 hm hc72_0 hc72_1 hc72_2 hc72_3 hc72_4 hI1 hF1
      refine to_n 2 (fr' := (74, [(0, .ref 0), (1, .int x), (2, .int y), (3, .int (nI i))], [.ref 0, .int (nI i)], gh S a b sc1 ar1 lo, ex, 0, 0)) rfl ?_
      refine to_getR (v := (nI f)) rfl rfl rfl rfl ((hF1.1 9 (by decide)).trans ef) ?_
      refine to_nc_ge_F (t := 107) (x := i) (y := f) rfl (by omega) (by omega) (by omega) ?_
      refine to_n 2 (fr' := (82, [(0, .ref 0), (1, .int x), (2, .int y), (3, .int (nI i))], [.ref 0, .int (nI i)], gh S a b sc1 ar1 lo, ex, 0, 0)) rfl ?_
      refine to_get rfl rfl rfl rfl ?_
      refine to_len rfl (by decide) rfl (by decide) ?_
      refine to_eq (fr' := (86, [(0, .ref 0), (1, .int x), (2, .int y), (3, .int (nI i))], [.int (nI S), .int (nI i)], gh S a b sc1 ar1 lo, ex, 0, 0)) rfl ?_
      refine to_nc_ge_F (t := 107) (x := i) (y := S) rfl (by omega) (by omega) (by omega) ?_
      refine to_n 2 (fr' := (91, [(0, .ref 0), (1, .int x), (2, .int y), (3, .int (nI i))], [.ref 0, .ref 0], gh S a b sc1 ar1 lo, ex, 0, 0)) rfl ?_
      refine to_get rfl rfl rfl rfl ?_
      refine to_n 1 (fr' := (95, [(0, .ref 0), (1, .int x), (2, .int y), (3, .int (nI i))], [.int (nI i), .ref 48, .ref 0], gh S a b sc1 ar1 lo, ex, 0, 0)) rfl ?_
      obtain ⟨n2, hn2, e2⟩ := iv_a48 hI i
      refine to_ialR (i := i) (v := (nI n2)) rfl (by decide) rfl (by omega) (by omega) ((congrFun (hF1.2 48 (by decide)) i).trans e2) ?_
      refine to_n 2 (fr' := (98, [(0, .ref 0), (1, .int x), (2, .int y), (3, .int (nI i))], [.int y, .int x, .int (nI n2), .ref 0], gh S a b sc1 ar1 lo, ex, 0, 0)) rfl ?_
      refine to_cv (q := 103) (M1 := an_X9_ringBell) (rest := []) rfl rfl (by decide) rfl ⟨_, rfl⟩ (sf_X9_ringBell hW hI1 n (by omega) h (by omega) l0 (by omega) n2 (by omega) x y hc72_4 (gd_fr hg hF1 (by decide) (by decide) (by decide)) (zbk_fr hB hF1 (by decide) (by decide)) ((hF1.1 1308 (by decide)).trans en) ((hF1.1 11 (by decide)).trans eh) ((hF1.1 2903 (by decide)).trans el0) d) (fun sc3 ar3 hx3 => ?_)
      obtain ⟨hI3, hG3, hx3⟩ := hx3
      have hF3 := fr_t hF1 hG3 (by decide) (by decide)
      simp only [show ar1 7 = ar 7 from hF1.2 7 (by decide), show ar1 6 = ar 6 from hF1.2 6 (by decide), show ar1 8 = ar 8 from hF1.2 8 (by decide), show ar1 14 = ar 14 from hF1.2 14 (by decide), show ar1 15 = ar 15 from hF1.2 15 (by decide), show ar1 16 = ar 16 from hF1.2 16 (by decide), show ar1 30 = ar 30 from hF1.2 30 (by decide), show ar1 31 = ar 31 from hF1.2 31 (by decide)] at hx3
      refine to_eq (fr' := (101, [(0, .ref 0), (1, .int x), (2, .int y), (3, .int (nI i))], [], gh S a b sc3 ar3 lo, ex, 0, 0)) rfl ?_
      refine to_n 1 (fr' := (104, [(0, .ref 0), (1, .int x), (2, .int y), (3, .int ((nI i) + 1))], [], gh S a b sc3 ar3 lo, ex, 0, 0)) rfl ?_
      rw [nI_1 i]
      refine to_n 1 (fr' := (72, [(0, .ref 0), (1, .int x), (2, .int y), (3, .int (nI (i + 1)))], [], gh S a b sc3 ar3 lo, ex, 0, 0)) rfl ?_
      exact ih x y (i + 1) sc3 ar3 (by omega) (zrg_s hc72_0 e2 (by omega) hx3) ((hG3.2 18 (by decide)).trans hc72_1) hc72_2 hc72_3 hc72_4 hI3 hF3
  have c46 : ∀  (sc4 : Nat → Int32) (ar4 : Nat → Nat → Int32), (ar4 17, ar4 18) = (zfgA n (ar 48) f (ar 17, ar 18)) → Iv S sc4 ar4 → Fr [3300, 3301, 3304] [17, 18, 34, 35] sc ar sc4 ar4 → ag_To X (d + 5) an_X9_ringBells (46, [(0, .ref 0)], [], gh S a b sc4 ar4 lo, ex, 0, 0) (qv S a b lo ex (fun sc' ar' => Iv S sc' ar' ∧ Fr [3300, 3301, 3304] [17, 18, 34, 35] sc ar sc' ar' ∧ (ar' 17 = zrgA a n h (fo (ar 32) (nI (h / 24)) l0 0 (-1)) (zcn (ar 5) 1 S) (ar 7) (ar 6) (ar 8) (ar 14) (ar 15) (ar 16) (ar 30) (ar 31) (ar 48) f (zfgA n (ar 48) f (ar 17, ar 18)).1 ∧ ar' 18 = (zfgA n (ar 48) f (ar 17, ar 18)).2))) := by
    intro sc4 ar4 hc46_0 hI4 hF4
    refine to_n 1 (fr' := (47, [(0, .ref 0)], [.ref 0], gh S a b sc4 ar4 lo, ex, 0, 0)) rfl ?_
    refine to_get rfl rfl rfl rfl ?_
    refine to_n 1 (fr' := (51, [(0, .ref 0)], [.ref 0, .ref 29], gh S a b sc4 ar4 lo, ex, 0, 0)) rfl ?_
    refine to_getR (v := (nI h)) rfl rfl rfl rfl ((hF4.1 11 (by decide)).trans eh) ?_
    refine to_n 1 (fr' := (56, [(0, .ref 0)], [.int 24, .int (nI h), .ref 29], gh S a b sc4 ar4 lo, ex, 0, 0)) rfl ?_
    refine to_divN (x := h) (y := 24) rfl (by omega) (by omega) (by omega) ?_
    refine to_cp (q := 39) (M1 := an_X4_inForce) (rest := []) rfl rfl (by decide) rfl ⟨_, rfl⟩ (sf_X4_inForce hW hI4 l0 (by omega) (nI (h / 24)) ((hF4.1 2903 (by decide)).trans el0) (d + 4)) (fun x5 hx5 => ?_)
    simp only [show ar4 32 = ar 32 from hF4.2 32 (by decide)] at hx5
    obtain ⟨hx5, hp5⟩ := hx5
    rcases hx5 with rfl | ⟨n5, hn5, rfl⟩
    · refine to_eq (fr' := (60, [(0, .ref 0)], [.int (-1)], gh S a b sc4 ar4 lo, ex, 0, 0)) rfl ?_
      refine to_n 2 (fr' := (62, [(0, .ref 0), (1, .int (-1))], [.ref 0], gh S a b sc4 ar4 lo, ex, 0, 0)) rfl ?_
      refine to_get rfl rfl rfl rfl ?_
      refine to_n 1 (fr' := (66, [(0, .ref 0), (1, .int (-1))], [.int 1, .ref 1], gh S a b sc4 ar4 lo, ex, 0, 0)) rfl ?_
      refine to_cp (q := 6) (M1 := an_X0_tally) (rest := []) rfl rfl (by decide) rfl ⟨_, rfl⟩ (sf_X0_tally hW hI4 1 (d + 4)) (fun x6 hx6 => ?_)
      simp only [show ar4 5 = ar 5 from hF4.2 5 (by decide)] at hx6
      have hp6 := hx6
      refine to_eq (fr' := (69, [(0, .ref 0), (1, .int (-1))], [.int x6], gh S a b sc4 ar4 lo, ex, 0, 0)) rfl ?_
      refine to_n 3 (fr' := (72, [(0, .ref 0), (1, .int (-1)), (2, .int x6), (3, .int 0)], [], gh S a b sc4 ar4 lo, ex, 0, 0)) rfl ?_
      exact c72 (f - 0) (-1) x6 0 sc4 ar4 (by omega) (congrArg Prod.fst hc46_0) (congrArg Prod.snd hc46_0) hp5 hp6 (rq_m) hI4 hF4
    · refine to_eq (fr' := (60, [(0, .ref 0)], [.int (nI n5)], gh S a b sc4 ar4 lo, ex, 0, 0)) rfl ?_
      refine to_n 2 (fr' := (62, [(0, .ref 0), (1, .int (nI n5))], [.ref 0], gh S a b sc4 ar4 lo, ex, 0, 0)) rfl ?_
      refine to_get rfl rfl rfl rfl ?_
      refine to_n 1 (fr' := (66, [(0, .ref 0), (1, .int (nI n5))], [.int 1, .ref 1], gh S a b sc4 ar4 lo, ex, 0, 0)) rfl ?_
      refine to_cp (q := 6) (M1 := an_X0_tally) (rest := []) rfl rfl (by decide) rfl ⟨_, rfl⟩ (sf_X0_tally hW hI4 1 (d + 4)) (fun x7 hx7 => ?_)
      simp only [show ar4 5 = ar 5 from hF4.2 5 (by decide)] at hx7
      have hp7 := hx7
      refine to_eq (fr' := (69, [(0, .ref 0), (1, .int (nI n5))], [.int x7], gh S a b sc4 ar4 lo, ex, 0, 0)) rfl ?_
      refine to_n 3 (fr' := (72, [(0, .ref 0), (1, .int (nI n5)), (2, .int x7), (3, .int 0)], [], gh S a b sc4 ar4 lo, ex, 0, 0)) rfl ?_
      exact c72 (f - 0) (nI n5) x7 0 sc4 ar4 (by omega) (congrArg Prod.fst hc46_0) (congrArg Prod.snd hc46_0) hp5 hp7 (rq_n (n := n5) (by omega)) hI4 hF4
  have c10 : ∀ m : Nat, ∀ (i : Nat) (sc8 : Nat → Int32) (ar8 : Nat → Nat → Int32), i + m = f → (ar8 17, ar8 18) = zfgA n (ar 48) i (ar 17, ar 18) → Iv S sc8 ar8 → Fr [3300, 3301, 3304] [17, 18, 34, 35] sc ar sc8 ar8 → ag_To X (d + 5) an_X9_ringBells (10, [(0, .ref 0), (1, .int (nI i))], [], gh S a b sc8 ar8 lo, ex, 0, 0) (qv S a b lo ex (fun sc' ar' => Iv S sc' ar' ∧ Fr [3300, 3301, 3304] [17, 18, 34, 35] sc ar sc' ar' ∧ (ar' 17 = zrgA a n h (fo (ar 32) (nI (h / 24)) l0 0 (-1)) (zcn (ar 5) 1 S) (ar 7) (ar 6) (ar 8) (ar 14) (ar 15) (ar 16) (ar 30) (ar 31) (ar 48) f (zfgA n (ar 48) f (ar 17, ar 18)).1 ∧ ar' 18 = (zfgA n (ar 48) f (ar 17, ar 18)).2))) := by
    intro m
    induction m with
    | zero =>
      intro i sc8 ar8 hm hc10_0 hI8 hF8
      refine to_n 2 (fr' := (12, [(0, .ref 0), (1, .int (nI i))], [.ref 0, .int (nI i)], gh S a b sc8 ar8 lo, ex, 0, 0)) rfl ?_
      refine to_getR (v := (nI f)) rfl rfl rfl rfl ((hF8.1 9 (by decide)).trans ef) ?_
      refine to_nc_ge_T (t := 46) (x := i) (y := f) rfl (by omega) (by omega) (by omega) ?_
      refine to_lv (lv := [(0, .ref 0)]) rfl ⟨rfl, trivial⟩ ?_
      exact c46 sc8 ar8 (by rw [show f = i by omega]; exact hc10_0) hI8 hF8
    | succ m ih =>
      intro i sc8 ar8 hm hc10_0 hI8 hF8
      refine to_n 2 (fr' := (12, [(0, .ref 0), (1, .int (nI i))], [.ref 0, .int (nI i)], gh S a b sc8 ar8 lo, ex, 0, 0)) rfl ?_
      refine to_getR (v := (nI f)) rfl rfl rfl rfl ((hF8.1 9 (by decide)).trans ef) ?_
      refine to_nc_ge_F (t := 46) (x := i) (y := f) rfl (by omega) (by omega) (by omega) ?_
      refine to_n 2 (fr' := (20, [(0, .ref 0), (1, .int (nI i))], [.ref 0, .int (nI i)], gh S a b sc8 ar8 lo, ex, 0, 0)) rfl ?_
      refine to_get rfl rfl rfl rfl ?_
      refine to_len rfl (by decide) rfl (by decide) ?_
      refine to_eq (fr' := (24, [(0, .ref 0), (1, .int (nI i))], [.int (nI S), .int (nI i)], gh S a b sc8 ar8 lo, ex, 0, 0)) rfl ?_
      refine to_nc_ge_F (t := 46) (x := i) (y := S) rfl (by omega) (by omega) (by omega) ?_
      refine to_n 1 (fr' := (28, [(0, .ref 0), (1, .int (nI i))], [.ref 0], gh S a b sc8 ar8 lo, ex, 0, 0)) rfl ?_
      refine to_get rfl rfl rfl rfl ?_
      refine to_n 1 (fr' := (32, [(0, .ref 0), (1, .int (nI i))], [.ref 0, .ref 13], gh S a b sc8 ar8 lo, ex, 0, 0)) rfl ?_
      refine to_get rfl rfl rfl rfl ?_
      refine to_n 1 (fr' := (36, [(0, .ref 0), (1, .int (nI i))], [.int (nI i), .ref 48, .ref 13], gh S a b sc8 ar8 lo, ex, 0, 0)) rfl ?_
      obtain ⟨n9, hn9, e9⟩ := iv_a48 hI i
      refine to_ialR (i := i) (v := (nI n9)) rfl (by decide) rfl (by omega) (by omega) ((congrFun (hF8.2 48 (by decide)) i).trans e9) ?_
      refine to_cv (q := 16) (M1 := an_X1_forget) (rest := []) rfl rfl (by decide) rfl ⟨_, rfl⟩ (sf_X1_forget hW hI8 n (by omega) (nI n9) ((hF8.1 1308 (by decide)).trans en) (d + 4)) (fun sc10 ar10 hx10 => ?_)
      obtain ⟨hI10, hG10, hx10⟩ := hx10
      have hF10 := fr_t hF8 hG10 (by decide) (by decide)
      refine to_eq (fr' := (40, [(0, .ref 0), (1, .int (nI i))], [], gh S a b sc10 ar10 lo, ex, 0, 0)) rfl ?_
      refine to_n 1 (fr' := (43, [(0, .ref 0), (1, .int ((nI i) + 1))], [], gh S a b sc10 ar10 lo, ex, 0, 0)) rfl ?_
      rw [nI_1 i]
      refine to_n 1 (fr' := (10, [(0, .ref 0), (1, .int (nI (i + 1)))], [], gh S a b sc10 ar10 lo, ex, 0, 0)) rfl ?_
      exact ih (i + 1) sc10 ar10 (by omega) (zfg_s hc10_0 e9 hx10.1 hx10.2) hI10 hF10
  refine to_n 1 (fr' := (1, [(0, .ref 0)], [.ref 0], gh S a b sc ar lo, ex, 0, 0)) rfl ?_
  refine to_getR (v := (nI f)) rfl rfl rfl rfl ((hF.1 9 (by decide)).trans ef) ?_
  refine to_nf_ne (t := 8) (x := f) rfl (by omega) (fun q11 => ?_) (fun q11 => ?_)
  · refine to_n 2 (fr' := (10, [(0, .ref 0), (1, .int 0)], [], gh S a b sc ar lo, ex, 0, 0)) rfl ?_
    exact c10 (f - 0) 0 sc ar (by omega) rfl hI hF
  · exact to_rt (i := .return_) (tg := []) rfl rfl ⟨_, _, ⟨hI, hF, (by have e9 : f = 0 := (by omega); subst e9; exact ⟨rfl, rfl⟩)⟩, rfl⟩
set_option maxRecDepth 20000 in
theorem sf_X9_leave {X : Nat × (Nat → Int32)} {S a b : Nat} {sc : Nat → Int32} {ar : Nat → Nat → Int32} {lo : Nat → Int64} {ex : Bool} (hW : Wd S a b) (hI : Iv S sc ar) (n : Nat) (enb : n < 9) (k1 : Nat) (hk1 : k1 < S) (en : sc 1308 = nI n) (d : Nat)  : cv X S a b (d + 2) 101 [.ref 0, .int (nI k1)] sc ar lo ex (fun sc' ar' => Iv S sc' ar' ∧ Fr [] [11, 17, 18] sc ar sc' ar' ∧ (ar' 11 = upd (ar 11) k1 (-1) ∧ ar' 17 = fgl n (nI k1) (ar 17) ∧ ar' 18 = fgp n (nI k1) (ar 17) (ar 18))) := by
  obtain ⟨ha1, ha8, hb1, hb8, hab, hS1, hS⟩ := id hW
  refine cv_of (M := an_X9_leave) rfl (Nat.le_of_ble_eq_true rfl) ?_
  have hF : Fr [] [11, 17, 18] sc ar sc ar := fr_0
  refine to_eq (fr' := (0, [(0, .ref 0), (1, .int (nI k1))], [], gh S a b sc ar lo, ex, 0, 0)) rfl ?_
  refine to_n 1 (fr' := (1, [(0, .ref 0), (1, .int (nI k1))], [.ref 0], gh S a b sc ar lo, ex, 0, 0)) rfl ?_
  refine to_get rfl rfl rfl rfl ?_
  refine to_get rfl rfl rfl rfl ?_
  refine to_n 2 (fr' := (9, [(0, .ref 0), (1, .int (nI k1))], [.int (-1), .int (nI k1), .ref 11], gh S a b sc ar lo, ex, 0, 0)) rfl ?_
  refine to_iasR (i := k1) (h' := gh S a b sc (uA ar 11 (upd (ar 11) k1 (-1))) lo) rfl rfl (by omega) (by omega) rfl ?_
  have hI1 := ia_11 (g := (upd (ar 11) k1 (-1))) hI
  have hF1 := fr_a (c := 11) (g := (upd (ar 11) k1 (-1))) hF (by decide)
  refine to_n 1 (fr' := (11, [(0, .ref 0), (1, .int (nI k1))], [.ref 0], gh S a b sc (uA ar 11 (upd (ar 11) k1 (-1))) lo, ex, 0, 0)) rfl ?_
  refine to_get rfl rfl rfl rfl ?_
  refine to_n 1 (fr' := (15, [(0, .ref 0), (1, .int (nI k1))], [.int (nI k1), .ref 13], gh S a b sc (uA ar 11 (upd (ar 11) k1 (-1))) lo, ex, 0, 0)) rfl ?_
  refine to_cv (q := 16) (M1 := an_X1_forget) (rest := []) rfl rfl (by decide) rfl ⟨_, rfl⟩ (sf_X1_forget hW hI1 n (by omega) (nI k1) ((hF1.1 1308 (by decide)).trans en) d) (fun sc2 ar2 hx2 => ?_)
  obtain ⟨hI2, hG2, hx2⟩ := hx2
  have hF2 := fr_t hF1 hG2 (by decide) (by decide)
  refine to_eq (fr' := (18, [(0, .ref 0), (1, .int (nI k1))], [], gh S a b sc2 ar2 lo, ex, 0, 0)) rfl ?_
  exact to_rt (i := .return_) (tg := []) rfl rfl ⟨_, _, ⟨hI2, hF2, ⟨hG2.2 11 (by decide), hx2.1, hx2.2⟩⟩, rfl⟩
set_option maxRecDepth 20000 in
theorem sf_X9_putOut {X : Nat × (Nat → Int32)} {S a b : Nat} {sc : Nat → Int32} {ar : Nat → Nat → Int32} {lo : Nat → Int64} {ex : Bool} (hW : Wd S a b) (hI : Iv S sc ar) (n : Nat) (enb : n < 9) (h : Nat) (ehb : h < 2401) (l0 : Nat) (el0b : l0 < 7) (k1 : Nat) (hk1 : k1 < S) (hg : Gd S a b ar) (hB : zBk l0 (ar 30) (ar 31)) (en : sc 1308 = nI n) (eh : sc 11 = nI h) (el0 : sc 2903 = nI l0) (d : Nat)  : cv X S a b (d + 5) 100 [.ref 0, .int (nI k1)] sc ar lo ex (fun sc' ar' => Iv S sc' ar' ∧ Fr [3300, 3301, 3304] [5, 9, 10, 11, 17, 18, 19, 21, 34, 35] sc ar sc' ar' ∧ (ar' 5, ar' 8, ar' 9, ar' 10, ar' 11, ar' 17, ar' 18, ar' 19, ar' 21) = zpo n (zpf S a l0 h (ar 7) (ar 6) (ar 14) (ar 15) (ar 16) (ar 30) (ar 31) (ar 32)) k1 (ar 5, ar 8, ar 9, ar 10, ar 11, ar 17, ar 18, ar 19, ar 21)) := by
  obtain ⟨ha1, ha8, hb1, hb8, hab, hS1, hS⟩ := id hW
  refine cv_of (M := an_X9_putOut) rfl (Nat.le_of_ble_eq_true rfl) ?_
  have hF : Fr [3300, 3301, 3304] [5, 9, 10, 11, 17, 18, 19, 21, 34, 35] sc ar sc ar := fr_0
  refine to_eq (fr' := (0, [(0, .ref 0), (1, .int (nI k1))], [], gh S a b sc ar lo, ex, 0, 0)) rfl ?_
  refine to_n 1 (fr' := (1, [(0, .ref 0), (1, .int (nI k1))], [.ref 0], gh S a b sc ar lo, ex, 0, 0)) rfl ?_
  refine to_get rfl rfl rfl rfl ?_
  refine to_get rfl rfl rfl rfl ?_
  refine to_n 1 (fr' := (8, [(0, .ref 0), (1, .int (nI k1))], [.int (nI k1), .ref 11], gh S a b sc ar lo, ex, 0, 0)) rfl ?_
  refine to_ialR (i := k1) (v := ((ar 11) k1)) rfl (by decide) rfl (by omega) (by omega) rfl ?_
  refine to_n 2 (fr' := (11, [(0, .ref 0), (1, .int (nI k1)), (2, .int ((ar 11) k1))], [.ref 0], gh S a b sc ar lo, ex, 0, 0)) rfl ?_
  refine to_get rfl rfl rfl rfl ?_
  refine to_get rfl rfl rfl rfl ?_
  refine to_n 2 (fr' := (19, [(0, .ref 0), (1, .int (nI k1)), (2, .int ((ar 11) k1))], [.int 0, .int (nI k1), .ref 5], gh S a b sc ar lo, ex, 0, 0)) rfl ?_
  refine to_iasR (i := k1) (h' := gh S a b sc (uA ar 5 (upd (ar 5) k1 0)) lo) rfl rfl (by omega) (by omega) rfl ?_
  have hI1 := ia_5 (g := (upd (ar 5) k1 0)) hI
  have hF1 := fr_a (c := 5) (g := (upd (ar 5) k1 0)) hF (by decide)
  refine to_n 1 (fr' := (21, [(0, .ref 0), (1, .int (nI k1)), (2, .int ((ar 11) k1))], [.ref 0], gh S a b sc (uA ar 5 (upd (ar 5) k1 0)) lo, ex, 0, 0)) rfl ?_
  refine to_get rfl rfl rfl rfl ?_
  refine to_get rfl rfl rfl rfl ?_
  refine to_n 2 (fr' := (29, [(0, .ref 0), (1, .int (nI k1)), (2, .int ((ar 11) k1))], [.int 0, .int (nI k1), .ref 9], gh S a b sc (uA ar 5 (upd (ar 5) k1 0)) lo, ex, 0, 0)) rfl ?_
  refine to_iasR (i := k1) (h' := gh S a b sc (uA (uA ar 5 (upd (ar 5) k1 0)) 9 (upd ((uA ar 5 (upd (ar 5) k1 0)) 9) k1 0)) lo) rfl rfl (by omega) (by omega) rfl ?_
  have hI2 := ia_9 (g := (upd ((uA ar 5 (upd (ar 5) k1 0)) 9) k1 0)) hI1
  have hF2 := fr_a (c := 9) (g := (upd ((uA ar 5 (upd (ar 5) k1 0)) 9) k1 0)) hF1 (by decide)
  refine to_n 1 (fr' := (31, [(0, .ref 0), (1, .int (nI k1)), (2, .int ((ar 11) k1))], [.ref 0], gh S a b sc (uA (uA ar 5 (upd (ar 5) k1 0)) 9 (upd ((uA ar 5 (upd (ar 5) k1 0)) 9) k1 0)) lo, ex, 0, 0)) rfl ?_
  refine to_get rfl rfl rfl rfl ?_
  refine to_get rfl rfl rfl rfl ?_
  refine to_n 2 (fr' := (39, [(0, .ref 0), (1, .int (nI k1)), (2, .int ((ar 11) k1))], [.int 0, .int (nI k1), .ref 10], gh S a b sc (uA (uA ar 5 (upd (ar 5) k1 0)) 9 (upd ((uA ar 5 (upd (ar 5) k1 0)) 9) k1 0)) lo, ex, 0, 0)) rfl ?_
  refine to_iasR (i := k1) (h' := gh S a b sc (uA (uA (uA ar 5 (upd (ar 5) k1 0)) 9 (upd ((uA ar 5 (upd (ar 5) k1 0)) 9) k1 0)) 10 (upd ((uA (uA ar 5 (upd (ar 5) k1 0)) 9 (upd ((uA ar 5 (upd (ar 5) k1 0)) 9) k1 0)) 10) k1 0)) lo) rfl rfl (by omega) (by omega) rfl ?_
  have hI3 := ia_10 (g := (upd ((uA (uA ar 5 (upd (ar 5) k1 0)) 9 (upd ((uA ar 5 (upd (ar 5) k1 0)) 9) k1 0)) 10) k1 0)) hI2
  have hF3 := fr_a (c := 10) (g := (upd ((uA (uA ar 5 (upd (ar 5) k1 0)) 9 (upd ((uA ar 5 (upd (ar 5) k1 0)) 9) k1 0)) 10) k1 0)) hF2 (by decide)
  refine to_n 2 (fr' := (42, [(0, .ref 0), (1, .int (nI k1)), (2, .int ((ar 11) k1))], [.int (nI k1), .ref 0], gh S a b sc (uA (uA (uA ar 5 (upd (ar 5) k1 0)) 9 (upd ((uA ar 5 (upd (ar 5) k1 0)) 9) k1 0)) 10 (upd ((uA (uA ar 5 (upd (ar 5) k1 0)) 9 (upd ((uA ar 5 (upd (ar 5) k1 0)) 9) k1 0)) 10) k1 0)) lo, ex, 0, 0)) rfl ?_
  refine to_cv (q := 101) (M1 := an_X9_leave) (rest := []) rfl rfl (by decide) rfl ⟨_, rfl⟩ (sf_X9_leave hW hI3 n (by omega) k1 (by omega) ((hF3.1 1308 (by decide)).trans en) (d + 2)) (fun sc4 ar4 hx4 => ?_)
  obtain ⟨hI4, hG4, hx4⟩ := hx4
  have hF4 := fr_t hF3 hG4 (by decide) (by decide)
  refine to_eq (fr' := (45, [(0, .ref 0), (1, .int (nI k1)), (2, .int ((ar 11) k1))], [], gh S a b sc4 ar4 lo, ex, 0, 0)) rfl ?_
  refine to_n 1 (fr' := (46, [(0, .ref 0), (1, .int (nI k1)), (2, .int ((ar 11) k1))], [.ref 0], gh S a b sc4 ar4 lo, ex, 0, 0)) rfl ?_
  refine to_get rfl rfl rfl rfl ?_
  refine to_n 1 (fr' := (50, [(0, .ref 0), (1, .int (nI k1)), (2, .int ((ar 11) k1))], [.int ((ar 11) k1), .ref 13], gh S a b sc4 ar4 lo, ex, 0, 0)) rfl ?_
  rcases has_or (x := ((ar 11) k1)) (B := n) (by omega) with ⟨n5, hn5, e5⟩ | w5
  · rw [e5]
    refine to_cp (q := 14) (M1 := an_X1_has) (rest := []) rfl rfl (by decide) rfl ⟨_, rfl⟩ (cr_has_1 (n := n5) ((hF4.1 1308 (by decide)).trans en) (by omega) (d + 3)) (fun x5 hx5 => ?_)
    obtain rfl := hx5
    refine to_eq (fr' := (53, [(0, .ref 0), (1, .int (nI k1)), (2, .int (nI n5))], [.int 1], gh S a b sc4 ar4 lo, ex, 0, 0)) rfl ?_
    refine to_n 2 (fr' := (57, [(0, .ref 0), (1, .int (nI k1)), (2, .int (nI n5))], [.ref 0], gh S a b sc4 ar4 lo, ex, 0, 0)) rfl ?_
    refine to_get rfl rfl rfl rfl ?_
    refine to_get rfl rfl rfl rfl ?_
    refine to_n 2 (fr' := (65, [(0, .ref 0), (1, .int (nI k1)), (2, .int (nI n5))], [.int (nI n5), .ref 19, .int (nI n5), .ref 19], gh S a b sc4 ar4 lo, ex, 0, 0)) rfl ?_
    refine to_ialR (i := n5) (v := ((ar4 19) n5)) rfl (by decide) rfl (by omega) (by omega) rfl ?_
    refine to_n 3 (fr' := (69, [(0, .ref 0), (1, .int (nI k1)), (2, .int (nI n5))], [.int (nI k1), .int (nI n5), .ref 0, .int ((ar4 19) n5), .int (nI n5), .ref 19], gh S a b sc4 ar4 lo, ex, 0, 0)) rfl ?_
    refine to_ci (q := 105) (M1 := an_X9_payFor) (rest := [.int ((ar4 19) n5), .int (nI n5), .ref 19]) rfl rfl (by decide) rfl ⟨_, rfl⟩ (sf_X9_payFor hW hI4 h (by omega) l0 (by omega) n5 (by omega) k1 (by omega) (gd_fr hg hF4 (by decide) (by decide) (by decide)) (zbk_fr hB hF4 (by decide) (by decide)) ((hF4.1 11 (by decide)).trans eh) ((hF4.1 2903 (by decide)).trans el0) d) (fun x6 sc6 ar6 hx6 => ?_)
    obtain ⟨hI6, hG6, hx6⟩ := hx6
    have hF6 := fr_t hF4 hG6 (by decide) (by decide)
    simp only [show ar4 7 = ar 7 from hF4.2 7 (by decide), show ar4 6 = ar 6 from hF4.2 6 (by decide), show ar4 14 = ar 14 from hF4.2 14 (by decide), show ar4 15 = ar 15 from hF4.2 15 (by decide), show ar4 16 = ar 16 from hF4.2 16 (by decide), show ar4 30 = ar 30 from hF4.2 30 (by decide), show ar4 31 = ar 31 from hF4.2 31 (by decide), show ar4 32 = ar 32 from hF4.2 32 (by decide)] at hx6
    have hp6 := hx6
    refine to_eq (fr' := (72, [(0, .ref 0), (1, .int (nI k1)), (2, .int (nI n5))], [.int x6, .int ((ar4 19) n5), .int (nI n5), .ref 19], gh S a b sc6 ar6 lo, ex, 0, 0)) rfl ?_
    refine to_n 1 (fr' := (73, [(0, .ref 0), (1, .int (nI k1)), (2, .int (nI n5))], [.int (((ar4 19) n5) + x6), .int (nI n5), .ref 19], gh S a b sc6 ar6 lo, ex, 0, 0)) rfl ?_
    refine to_iasR (i := n5) (h' := gh S a b sc6 (uA ar6 19 (upd (ar6 19) n5 (((ar4 19) n5) + x6))) lo) rfl rfl (by omega) (by omega) rfl ?_
    have hI7 := ia_19 (g := (upd (ar6 19) n5 (((ar4 19) n5) + x6))) hI6
    have hF7 := fr_a (c := 19) (g := (upd (ar6 19) n5 (((ar4 19) n5) + x6))) hF6 (by decide)
    refine to_n 1 (fr' := (75, [(0, .ref 0), (1, .int (nI k1)), (2, .int (nI n5))], [.ref 0], gh S a b sc6 (uA ar6 19 (upd (ar6 19) n5 (((ar4 19) n5) + x6))) lo, ex, 0, 0)) rfl ?_
    refine to_get rfl rfl rfl rfl ?_
    refine to_get rfl rfl rfl rfl ?_
    refine to_n 2 (fr' := (83, [(0, .ref 0), (1, .int (nI k1)), (2, .int (nI n5))], [.int (nI n5), .ref 21, .int (nI n5), .ref 21], gh S a b sc6 (uA ar6 19 (upd (ar6 19) n5 (((ar4 19) n5) + x6))) lo, ex, 0, 0)) rfl ?_
    refine to_ialR (i := n5) (v := (((uA ar6 19 (upd (ar6 19) n5 (((ar4 19) n5) + x6))) 21) n5)) rfl (by decide) rfl (by omega) (by omega) rfl ?_
    refine to_n 2 (fr' := (86, [(0, .ref 0), (1, .int (nI k1)), (2, .int (nI n5))], [.int ((((uA ar6 19 (upd (ar6 19) n5 (((ar4 19) n5) + x6))) 21) n5) + 1), .int (nI n5), .ref 21], gh S a b sc6 (uA ar6 19 (upd (ar6 19) n5 (((ar4 19) n5) + x6))) lo, ex, 0, 0)) rfl ?_
    refine to_iasR (i := n5) (h' := gh S a b sc6 (uA (uA ar6 19 (upd (ar6 19) n5 (((ar4 19) n5) + x6))) 21 (upd ((uA ar6 19 (upd (ar6 19) n5 (((ar4 19) n5) + x6))) 21) n5 ((((uA ar6 19 (upd (ar6 19) n5 (((ar4 19) n5) + x6))) 21) n5) + 1))) lo) rfl rfl (by omega) (by omega) rfl ?_
    have hI8 := ia_21 (g := (upd ((uA ar6 19 (upd (ar6 19) n5 (((ar4 19) n5) + x6))) 21) n5 ((((uA ar6 19 (upd (ar6 19) n5 (((ar4 19) n5) + x6))) 21) n5) + 1))) hI7
    have hF8 := fr_a (c := 21) (g := (upd ((uA ar6 19 (upd (ar6 19) n5 (((ar4 19) n5) + x6))) 21) n5 ((((uA ar6 19 (upd (ar6 19) n5 (((ar4 19) n5) + x6))) 21) n5) + 1))) hF7 (by decide)
    exact to_rt (i := .return_) (tg := []) rfl rfl ⟨_, _, ⟨hI8, hF8, (by rw [zpo_y (c := n5) (by omega) enb e5]; simp only [uA_s, uA_n, (show ar6 21 = ar4 21 from hG6.2 21 (by decide)), (show ar6 19 = ar4 19 from hG6.2 19 (by decide)), (show ar6 18 = ar4 18 from hG6.2 18 (by decide)), (show ar6 17 = ar4 17 from hG6.2 17 (by decide)), (show ar6 11 = ar4 11 from hG6.2 11 (by decide)), (show ar6 10 = ar4 10 from hG6.2 10 (by decide)), (show ar6 9 = ar4 9 from hG6.2 9 (by decide)), (show ar6 8 = ar4 8 from hG6.2 8 (by decide)), (show ar6 5 = ar4 5 from hG6.2 5 (by decide)), (show ar4 21 = (uA (uA (uA ar 5 (upd (ar 5) k1 0)) 9 (upd ((uA ar 5 (upd (ar 5) k1 0)) 9) k1 0)) 10 (upd ((uA (uA ar 5 (upd (ar 5) k1 0)) 9 (upd ((uA ar 5 (upd (ar 5) k1 0)) 9) k1 0)) 10) k1 0)) 21 from hG4.2 21 (by decide)), (show ar4 19 = (uA (uA (uA ar 5 (upd (ar 5) k1 0)) 9 (upd ((uA ar 5 (upd (ar 5) k1 0)) 9) k1 0)) 10 (upd ((uA (uA ar 5 (upd (ar 5) k1 0)) 9 (upd ((uA ar 5 (upd (ar 5) k1 0)) 9) k1 0)) 10) k1 0)) 19 from hG4.2 19 (by decide)), (show ar4 10 = (uA (uA (uA ar 5 (upd (ar 5) k1 0)) 9 (upd ((uA ar 5 (upd (ar 5) k1 0)) 9) k1 0)) 10 (upd ((uA (uA ar 5 (upd (ar 5) k1 0)) 9 (upd ((uA ar 5 (upd (ar 5) k1 0)) 9) k1 0)) 10) k1 0)) 10 from hG4.2 10 (by decide)), (show ar4 9 = (uA (uA (uA ar 5 (upd (ar 5) k1 0)) 9 (upd ((uA ar 5 (upd (ar 5) k1 0)) 9) k1 0)) 10 (upd ((uA (uA ar 5 (upd (ar 5) k1 0)) 9 (upd ((uA ar 5 (upd (ar 5) k1 0)) 9) k1 0)) 10) k1 0)) 9 from hG4.2 9 (by decide)), (show ar4 8 = (uA (uA (uA ar 5 (upd (ar 5) k1 0)) 9 (upd ((uA ar 5 (upd (ar 5) k1 0)) 9) k1 0)) 10 (upd ((uA (uA ar 5 (upd (ar 5) k1 0)) 9 (upd ((uA ar 5 (upd (ar 5) k1 0)) 9) k1 0)) 10) k1 0)) 8 from hG4.2 8 (by decide)), (show ar4 5 = (uA (uA (uA ar 5 (upd (ar 5) k1 0)) 9 (upd ((uA ar 5 (upd (ar 5) k1 0)) 9) k1 0)) 10 (upd ((uA (uA ar 5 (upd (ar 5) k1 0)) 9 (upd ((uA ar 5 (upd (ar 5) k1 0)) 9) k1 0)) 10) k1 0)) 5 from hG4.2 5 (by decide)), hx4, hp6, Nat.reduceEqDiff, not_false_eq_true])⟩, rfl⟩
  · refine to_cp (q := 14) (M1 := an_X1_has) (rest := []) rfl rfl (by decide) rfl ⟨_, rfl⟩ (cr_has_0 ((hF4.1 1308 (by decide)).trans en) w5 (d + 3)) (fun x5 hx5 => ?_)
    obtain rfl := hx5
    refine to_eq (fr' := (53, [(0, .ref 0), (1, .int (nI k1)), (2, .int ((ar 11) k1))], [.int 0], gh S a b sc4 ar4 lo, ex, 0, 0)) rfl ?_
    refine to_n 1 (fr' := (87, [(0, .ref 0), (1, .int (nI k1)), (2, .int ((ar 11) k1))], [], gh S a b sc4 ar4 lo, ex, 0, 0)) rfl ?_
    exact to_rt (i := .return_) (tg := []) rfl rfl ⟨_, _, ⟨hI4, hF4, (by rw [zpo_n w5]; simp only [uA_s, uA_n, (show ar4 21 = (uA (uA (uA ar 5 (upd (ar 5) k1 0)) 9 (upd ((uA ar 5 (upd (ar 5) k1 0)) 9) k1 0)) 10 (upd ((uA (uA ar 5 (upd (ar 5) k1 0)) 9 (upd ((uA ar 5 (upd (ar 5) k1 0)) 9) k1 0)) 10) k1 0)) 21 from hG4.2 21 (by decide)), (show ar4 19 = (uA (uA (uA ar 5 (upd (ar 5) k1 0)) 9 (upd ((uA ar 5 (upd (ar 5) k1 0)) 9) k1 0)) 10 (upd ((uA (uA ar 5 (upd (ar 5) k1 0)) 9 (upd ((uA ar 5 (upd (ar 5) k1 0)) 9) k1 0)) 10) k1 0)) 19 from hG4.2 19 (by decide)), (show ar4 10 = (uA (uA (uA ar 5 (upd (ar 5) k1 0)) 9 (upd ((uA ar 5 (upd (ar 5) k1 0)) 9) k1 0)) 10 (upd ((uA (uA ar 5 (upd (ar 5) k1 0)) 9 (upd ((uA ar 5 (upd (ar 5) k1 0)) 9) k1 0)) 10) k1 0)) 10 from hG4.2 10 (by decide)), (show ar4 9 = (uA (uA (uA ar 5 (upd (ar 5) k1 0)) 9 (upd ((uA ar 5 (upd (ar 5) k1 0)) 9) k1 0)) 10 (upd ((uA (uA ar 5 (upd (ar 5) k1 0)) 9 (upd ((uA ar 5 (upd (ar 5) k1 0)) 9) k1 0)) 10) k1 0)) 9 from hG4.2 9 (by decide)), (show ar4 8 = (uA (uA (uA ar 5 (upd (ar 5) k1 0)) 9 (upd ((uA ar 5 (upd (ar 5) k1 0)) 9) k1 0)) 10 (upd ((uA (uA ar 5 (upd (ar 5) k1 0)) 9 (upd ((uA ar 5 (upd (ar 5) k1 0)) 9) k1 0)) 10) k1 0)) 8 from hG4.2 8 (by decide)), (show ar4 5 = (uA (uA (uA ar 5 (upd (ar 5) k1 0)) 9 (upd ((uA ar 5 (upd (ar 5) k1 0)) 9) k1 0)) 10 (upd ((uA (uA ar 5 (upd (ar 5) k1 0)) 9 (upd ((uA ar 5 (upd (ar 5) k1 0)) 9) k1 0)) 10) k1 0)) 5 from hG4.2 5 (by decide)), hx4, Nat.reduceEqDiff, not_false_eq_true])⟩, rfl⟩
set_option maxRecDepth 20000 in
theorem sf_X9_fireEats {X : Nat × (Nat → Int32)} {S a b : Nat} {sc : Nat → Int32} {ar : Nat → Nat → Int32} {lo : Nat → Int64} {ex : Bool} (hW : Wd S a b) (hI : Iv S sc ar) (n : Nat) (enb : n < 9) (h : Nat) (ehb : h < 2401) (l0 : Nat) (el0b : l0 < 7) (hg : Gd S a b ar) (hB : zBk l0 (ar 30) (ar 31)) (en : sc 1308 = nI n) (eh : sc 11 = nI h) (el0 : sc 2903 = nI l0) (d : Nat)  : cv X S a b (d + 6) 99 [.ref 0] sc ar lo ex (fun sc' ar' => Iv S sc' ar' ∧ Fr [3300, 3301, 3304] [5, 8, 9, 10, 11, 17, 18, 19, 21, 34, 35] sc ar sc' ar' ∧ (ar' 5, ar' 8, ar' 9, ar' 10, ar' 11, ar' 17, ar' 18, ar' 19, ar' 21) = zit (zbn n (zpf S a l0 h (ar 7) (ar 6) (ar 14) (ar 15) (ar 16) (ar 30) (ar 31) (ar 32))) S (ar 5, ar 8, ar 9, ar 10, ar 11, ar 17, ar 18, ar 19, ar 21)) := by
  obtain ⟨ha1, ha8, hb1, hb8, hab, hS1, hS⟩ := id hW
  refine cv_of (M := an_X9_fireEats) rfl (Nat.le_of_ble_eq_true rfl) ?_
  have hF : Fr [3300, 3301, 3304] [5, 8, 9, 10, 11, 17, 18, 19, 21, 34, 35] sc ar sc ar := fr_0
  refine to_eq (fr' := (0, [(0, .ref 0)], [], gh S a b sc ar lo, ex, 0, 0)) rfl ?_
  have c2 : ∀ m : Nat, ∀ (i : Nat) (sc1 : Nat → Int32) (ar1 : Nat → Nat → Int32), i + m = S → (ar1 5, ar1 8, ar1 9, ar1 10, ar1 11, ar1 17, ar1 18, ar1 19, ar1 21) = zit (zbn n (zpf S a l0 h (ar 7) (ar 6) (ar 14) (ar 15) (ar 16) (ar 30) (ar 31) (ar 32))) i (ar 5, ar 8, ar 9, ar 10, ar 11, ar 17, ar 18, ar 19, ar 21) → Iv S sc1 ar1 → Fr [3300, 3301, 3304] [5, 8, 9, 10, 11, 17, 18, 19, 21, 34, 35] sc ar sc1 ar1 → ag_To X (d + 5) an_X9_fireEats (2, [(0, .ref 0), (1, .int (nI i))], [], gh S a b sc1 ar1 lo, ex, 0, 0) (qv S a b lo ex (fun sc' ar' => Iv S sc' ar' ∧ Fr [3300, 3301, 3304] [5, 8, 9, 10, 11, 17, 18, 19, 21, 34, 35] sc ar sc' ar' ∧ (ar' 5, ar' 8, ar' 9, ar' 10, ar' 11, ar' 17, ar' 18, ar' 19, ar' 21) = zit (zbn n (zpf S a l0 h (ar 7) (ar 6) (ar 14) (ar 15) (ar 16) (ar 30) (ar 31) (ar 32))) S (ar 5, ar 8, ar 9, ar 10, ar 11, ar 17, ar 18, ar 19, ar 21))) := by
    intro m
    induction m with
    | zero =>
      intro i sc1 ar1 hm hc2_0 hI1 hF1
      refine to_n 2 (fr' := (4, [(0, .ref 0), (1, .int (nI i))], [.ref 0, .int (nI i)], gh S a b sc1 ar1 lo, ex, 0, 0)) rfl ?_
      refine to_get rfl rfl rfl rfl ?_
      refine to_get rfl rfl rfl rfl ?_
      refine to_nc_ge_T (t := 106) (x := i) (y := S) rfl (by omega) (by omega) (by omega) ?_
      exact to_rt (i := .return_) (tg := []) rfl rfl ⟨_, _, ⟨hI1, hF1, (by have e9 : i = S := (by omega); rw [e9] at hc2_0; exact hc2_0)⟩, rfl⟩
    | succ m ih =>
      intro i sc1 ar1 hm hc2_0 hI1 hF1
      refine to_n 2 (fr' := (4, [(0, .ref 0), (1, .int (nI i))], [.ref 0, .int (nI i)], gh S a b sc1 ar1 lo, ex, 0, 0)) rfl ?_
      refine to_get rfl rfl rfl rfl ?_
      refine to_get rfl rfl rfl rfl ?_
      refine to_nc_ge_F (t := 106) (x := i) (y := S) rfl (by omega) (by omega) (by omega) ?_
      refine to_n 1 (fr' := (14, [(0, .ref 0), (1, .int (nI i))], [.ref 0], gh S a b sc1 ar1 lo, ex, 0, 0)) rfl ?_
      refine to_get rfl rfl rfl rfl ?_
      refine to_get rfl rfl rfl rfl ?_
      refine to_n 1 (fr' := (21, [(0, .ref 0), (1, .int (nI i))], [.int (nI i), .ref 5], gh S a b sc1 ar1 lo, ex, 0, 0)) rfl ?_
      refine to_ialR (i := i) (v := ((ar1 5) i)) rfl (by decide) rfl (by omega) (by omega) rfl ?_
      refine to_n 1 (fr' := (23, [(0, .ref 0), (1, .int (nI i))], [.int 1, .int ((ar1 5) i)], gh S a b sc1 ar1 lo, ex, 0, 0)) rfl ?_
      refine to_ic_eq (t := 29) rfl (fun q2 => ?_) (fun q2 => ?_)
      · refine to_n 1 (fr' := (30, [(0, .ref 0), (1, .int (nI i))], [.ref 0], gh S a b sc1 ar1 lo, ex, 0, 0)) rfl ?_
        refine to_get rfl rfl rfl rfl ?_
        refine to_get rfl rfl rfl rfl ?_
        refine to_n 1 (fr' := (37, [(0, .ref 0), (1, .int (nI i))], [.int (nI i), .ref 10], gh S a b sc1 ar1 lo, ex, 0, 0)) rfl ?_
        refine to_ialR (i := i) (v := ((ar1 10) i)) rfl (by decide) rfl (by omega) (by omega) rfl ?_
        refine to_n 2 (fr' := (40, [(0, .ref 0), (1, .int (nI i))], [.ref 0, .int 4, .int ((ar1 10) i)], gh S a b sc1 ar1 lo, ex, 0, 0)) rfl ?_
        refine to_get rfl rfl rfl rfl ?_
        refine to_get rfl rfl rfl rfl ?_
        refine to_n 1 (fr' := (47, [(0, .ref 0), (1, .int (nI i))], [.int (nI i), .ref 8, .int 4, .int ((ar1 10) i)], gh S a b sc1 ar1 lo, ex, 0, 0)) rfl ?_
        refine to_ialR (i := i) (v := ((ar1 8) i)) rfl (by decide) rfl (by omega) (by omega) rfl ?_
        refine to_n 1 (fr' := (49, [(0, .ref 0), (1, .int (nI i))], [.int (4 * ((ar1 8) i)), .int ((ar1 10) i)], gh S a b sc1 ar1 lo, ex, 0, 0)) rfl ?_
        refine to_ic_lt (t := 60) rfl (fun q3 => ?_) (fun q3 => ?_)
        · refine to_n 1 (fr' := (61, [(0, .ref 0), (1, .int (nI i))], [.ref 0], gh S a b sc1 ar1 lo, ex, 0, 0)) rfl ?_
          refine to_get rfl rfl rfl rfl ?_
          refine to_get rfl rfl rfl rfl ?_
          refine to_n 2 (fr' := (69, [(0, .ref 0), (1, .int (nI i))], [.int (nI i), .ref 8, .int (nI i), .ref 8], gh S a b sc1 ar1 lo, ex, 0, 0)) rfl ?_
          refine to_ialR (i := i) (v := ((ar1 8) i)) rfl (by decide) rfl (by omega) (by omega) rfl ?_
          refine to_n 2 (fr' := (72, [(0, .ref 0), (1, .int (nI i))], [.int (((ar1 8) i) - 1), .int (nI i), .ref 8], gh S a b sc1 ar1 lo, ex, 0, 0)) rfl ?_
          refine to_iasR (i := i) (h' := gh S a b sc1 (uA ar1 8 (upd (ar1 8) i (((ar1 8) i) - 1))) lo) rfl rfl (by omega) (by omega) rfl ?_
          have hI4 := ia_8 (g := (upd (ar1 8) i (((ar1 8) i) - 1))) hI1
          have hF4 := fr_a (c := 8) (g := (upd (ar1 8) i (((ar1 8) i) - 1))) hF1 (by decide)
          refine to_n 1 (fr' := (74, [(0, .ref 0), (1, .int (nI i))], [.ref 0], gh S a b sc1 (uA ar1 8 (upd (ar1 8) i (((ar1 8) i) - 1))) lo, ex, 0, 0)) rfl ?_
          refine to_get rfl rfl rfl rfl ?_
          refine to_get rfl rfl rfl rfl ?_
          refine to_n 1 (fr' := (81, [(0, .ref 0), (1, .int (nI i))], [.int (nI i), .ref 8], gh S a b sc1 (uA ar1 8 (upd (ar1 8) i (((ar1 8) i) - 1))) lo, ex, 0, 0)) rfl ?_
          refine to_ialR (i := i) (v := ((upd (ar1 8) i (((ar1 8) i) - 1)) i)) rfl (by decide) rfl (by omega) (by omega) rfl ?_
          refine to_if_gt (t := 100) rfl (fun q5 => ?_) (fun q5 => ?_)
          · refine to_n 1 (fr' := (103, [(0, .ref 0), (1, .int ((nI i) + 1))], [], gh S a b sc1 (uA ar1 8 (upd (ar1 8) i (((ar1 8) i) - 1))) lo, ex, 0, 0)) rfl ?_
            rw [nI_1 i]
            refine to_n 1 (fr' := (2, [(0, .ref 0), (1, .int (nI (i + 1)))], [], gh S a b sc1 (uA ar1 8 (upd (ar1 8) i (((ar1 8) i) - 1))) lo, ex, 0, 0)) rfl ?_
            exact ih (i + 1) sc1 (uA ar1 8 (upd (ar1 8) i (((ar1 8) i) - 1))) (by omega) (zit_s hc2_0 (zbn_g q2 (Int32.not_le.mpr q3) (Int32.not_le.mpr q5))) hI4 hF4
          · refine to_n 1 (fr' := (86, [(0, .ref 0), (1, .int (nI i))], [.ref 0], gh S a b sc1 (uA ar1 8 (upd (ar1 8) i (((ar1 8) i) - 1))) lo, ex, 0, 0)) rfl ?_
            refine to_get rfl rfl rfl rfl ?_
            refine to_get rfl rfl rfl rfl ?_
            refine to_n 2 (fr' := (94, [(0, .ref 0), (1, .int (nI i))], [.int 2, .int (nI i), .ref 5], gh S a b sc1 (uA ar1 8 (upd (ar1 8) i (((ar1 8) i) - 1))) lo, ex, 0, 0)) rfl ?_
            refine to_iasR (i := i) (h' := gh S a b sc1 (uA (uA ar1 8 (upd (ar1 8) i (((ar1 8) i) - 1))) 5 (upd ((uA ar1 8 (upd (ar1 8) i (((ar1 8) i) - 1))) 5) i 2)) lo) rfl rfl (by omega) (by omega) rfl ?_
            have hI6 := ia_5 (g := (upd ((uA ar1 8 (upd (ar1 8) i (((ar1 8) i) - 1))) 5) i 2)) hI4
            have hF6 := fr_a (c := 5) (g := (upd ((uA ar1 8 (upd (ar1 8) i (((ar1 8) i) - 1))) 5) i 2)) hF4 (by decide)
            refine to_n 2 (fr' := (97, [(0, .ref 0), (1, .int (nI i))], [.int (nI i), .ref 0], gh S a b sc1 (uA (uA ar1 8 (upd (ar1 8) i (((ar1 8) i) - 1))) 5 (upd ((uA ar1 8 (upd (ar1 8) i (((ar1 8) i) - 1))) 5) i 2)) lo, ex, 0, 0)) rfl ?_
            refine to_cv (q := 101) (M1 := an_X9_leave) (rest := []) rfl rfl (by decide) rfl ⟨_, rfl⟩ (sf_X9_leave hW hI6 n (by omega) i (by omega) ((hF6.1 1308 (by decide)).trans en) (d + 3)) (fun sc7 ar7 hx7 => ?_)
            obtain ⟨hI7, hG7, hx7⟩ := hx7
            have hF7 := fr_t hF6 hG7 (by decide) (by decide)
            refine to_eq (fr' := (100, [(0, .ref 0), (1, .int (nI i))], [], gh S a b sc7 ar7 lo, ex, 0, 0)) rfl ?_
            refine to_n 1 (fr' := (103, [(0, .ref 0), (1, .int ((nI i) + 1))], [], gh S a b sc7 ar7 lo, ex, 0, 0)) rfl ?_
            rw [nI_1 i]
            refine to_n 1 (fr' := (2, [(0, .ref 0), (1, .int (nI (i + 1)))], [], gh S a b sc7 ar7 lo, ex, 0, 0)) rfl ?_
            exact ih (i + 1) sc7 ar7 (by omega) (zit_s hc2_0 (by rw [← zbn_a q2 (Int32.not_le.mpr q3) (Int32.not_lt.mp q5)]; simp only [uA_s, uA_n, (show ar7 21 = (uA (uA ar1 8 (upd (ar1 8) i (((ar1 8) i) - 1))) 5 (upd ((uA ar1 8 (upd (ar1 8) i (((ar1 8) i) - 1))) 5) i 2)) 21 from hG7.2 21 (by decide)), (show ar7 19 = (uA (uA ar1 8 (upd (ar1 8) i (((ar1 8) i) - 1))) 5 (upd ((uA ar1 8 (upd (ar1 8) i (((ar1 8) i) - 1))) 5) i 2)) 19 from hG7.2 19 (by decide)), (show ar7 10 = (uA (uA ar1 8 (upd (ar1 8) i (((ar1 8) i) - 1))) 5 (upd ((uA ar1 8 (upd (ar1 8) i (((ar1 8) i) - 1))) 5) i 2)) 10 from hG7.2 10 (by decide)), (show ar7 9 = (uA (uA ar1 8 (upd (ar1 8) i (((ar1 8) i) - 1))) 5 (upd ((uA ar1 8 (upd (ar1 8) i (((ar1 8) i) - 1))) 5) i 2)) 9 from hG7.2 9 (by decide)), (show ar7 8 = (uA (uA ar1 8 (upd (ar1 8) i (((ar1 8) i) - 1))) 5 (upd ((uA ar1 8 (upd (ar1 8) i (((ar1 8) i) - 1))) 5) i 2)) 8 from hG7.2 8 (by decide)), (show ar7 5 = (uA (uA ar1 8 (upd (ar1 8) i (((ar1 8) i) - 1))) 5 (upd ((uA ar1 8 (upd (ar1 8) i (((ar1 8) i) - 1))) 5) i 2)) 5 from hG7.2 5 (by decide)), hx7, Nat.reduceEqDiff, not_false_eq_true])) hI7 hF7
        · refine to_n 2 (fr' := (54, [(0, .ref 0), (1, .int (nI i))], [.int (nI i), .ref 0], gh S a b sc1 ar1 lo, ex, 0, 0)) rfl ?_
          refine to_cv (q := 100) (M1 := an_X9_putOut) (rest := []) rfl rfl (by decide) rfl ⟨_, rfl⟩ (sf_X9_putOut hW hI1 n (by omega) h (by omega) l0 (by omega) i (by omega) (gd_fr hg hF1 (by decide) (by decide) (by decide)) (zbk_fr hB hF1 (by decide) (by decide)) ((hF1.1 1308 (by decide)).trans en) ((hF1.1 11 (by decide)).trans eh) ((hF1.1 2903 (by decide)).trans el0) d) (fun sc8 ar8 hx8 => ?_)
          obtain ⟨hI8, hG8, hx8⟩ := hx8
          have hF8 := fr_t hF1 hG8 (by decide) (by decide)
          simp only [show ar1 7 = ar 7 from hF1.2 7 (by decide), show ar1 6 = ar 6 from hF1.2 6 (by decide), show ar1 14 = ar 14 from hF1.2 14 (by decide), show ar1 15 = ar 15 from hF1.2 15 (by decide), show ar1 16 = ar 16 from hF1.2 16 (by decide), show ar1 30 = ar 30 from hF1.2 30 (by decide), show ar1 31 = ar 31 from hF1.2 31 (by decide), show ar1 32 = ar 32 from hF1.2 32 (by decide)] at hx8
          refine to_eq (fr' := (57, [(0, .ref 0), (1, .int (nI i))], [], gh S a b sc8 ar8 lo, ex, 0, 0)) rfl ?_
          refine to_n 2 (fr' := (103, [(0, .ref 0), (1, .int ((nI i) + 1))], [], gh S a b sc8 ar8 lo, ex, 0, 0)) rfl ?_
          rw [nI_1 i]
          refine to_n 1 (fr' := (2, [(0, .ref 0), (1, .int (nI (i + 1)))], [], gh S a b sc8 ar8 lo, ex, 0, 0)) rfl ?_
          exact ih (i + 1) sc8 ar8 (by omega) (zit_s hc2_0 (zbn_p q2 (Int32.not_lt.mp q3) hx8)) hI8 hF8
      · refine to_n 2 (fr' := (103, [(0, .ref 0), (1, .int ((nI i) + 1))], [], gh S a b sc1 ar1 lo, ex, 0, 0)) rfl ?_
        rw [nI_1 i]
        refine to_n 1 (fr' := (2, [(0, .ref 0), (1, .int (nI (i + 1)))], [], gh S a b sc1 ar1 lo, ex, 0, 0)) rfl ?_
        exact ih (i + 1) sc1 ar1 (by omega) (zit_s hc2_0 (zbn_0 q2)) hI1 hF1
  refine to_n 2 (fr' := (2, [(0, .ref 0), (1, .int 0)], [], gh S a b sc ar lo, ex, 0, 0)) rfl ?_
  exact c2 (S - 0) 0 sc ar (by omega) rfl hI hF
set_option maxRecDepth 20000 in
theorem sf_X9_pullAt {X : Nat × (Nat → Int32)} {S a b : Nat} {sc : Nat → Int32} {ar : Nat → Nat → Int32} {lo : Nat → Int64} {ex : Bool} (hW : Wd S a b) (hI : Iv S sc ar) (n : Nat) (enb : n < 9) (k1 : Nat) (hk1 : k1 < S) (x1 : Int32) (en : sc 1308 = nI n) (d : Nat)  : cv X S a b (d + 2) 98 [.ref 0, .int (nI k1), .int x1] sc ar lo ex (fun sc' ar' => Iv S sc' ar' ∧ Fr [] [5, 8, 17, 18] sc ar sc' ar' ∧ (ar' 5, ar' 8, ar' 10, ar' 17, ar' 18) = zpl n k1 x1 (ar 5, ar 8, ar 10, ar 17, ar 18)) := by
  obtain ⟨ha1, ha8, hb1, hb8, hab, hS1, hS⟩ := id hW
  refine cv_of (M := an_X9_pullAt) rfl (Nat.le_of_ble_eq_true rfl) ?_
  have hF : Fr [] [5, 8, 17, 18] sc ar sc ar := fr_0
  refine to_eq (fr' := (0, [(0, .ref 0), (1, .int (nI k1)), (2, .int x1)], [], gh S a b sc ar lo, ex, 0, 0)) rfl ?_
  refine to_n 1 (fr' := (1, [(0, .ref 0), (1, .int (nI k1)), (2, .int x1)], [.ref 0], gh S a b sc ar lo, ex, 0, 0)) rfl ?_
  refine to_get rfl rfl rfl rfl ?_
  refine to_get rfl rfl rfl rfl ?_
  refine to_n 2 (fr' := (9, [(0, .ref 0), (1, .int (nI k1)), (2, .int x1)], [.int (nI k1), .ref 8, .int (nI k1), .ref 8], gh S a b sc ar lo, ex, 0, 0)) rfl ?_
  refine to_ialR (i := k1) (v := ((ar 8) k1)) rfl (by decide) rfl (by omega) (by omega) rfl ?_
  refine to_n 2 (fr' := (12, [(0, .ref 0), (1, .int (nI k1)), (2, .int x1)], [.int (((ar 8) k1) - x1), .int (nI k1), .ref 8], gh S a b sc ar lo, ex, 0, 0)) rfl ?_
  refine to_iasR (i := k1) (h' := gh S a b sc (uA ar 8 (upd (ar 8) k1 (((ar 8) k1) - x1))) lo) rfl rfl (by omega) (by omega) rfl ?_
  have hI1 := ia_8 (g := (upd (ar 8) k1 (((ar 8) k1) - x1))) hI
  have hF1 := fr_a (c := 8) (g := (upd (ar 8) k1 (((ar 8) k1) - x1))) hF (by decide)
  refine to_n 1 (fr' := (14, [(0, .ref 0), (1, .int (nI k1)), (2, .int x1)], [.ref 0], gh S a b sc (uA ar 8 (upd (ar 8) k1 (((ar 8) k1) - x1))) lo, ex, 0, 0)) rfl ?_
  refine to_get rfl rfl rfl rfl ?_
  refine to_get rfl rfl rfl rfl ?_
  refine to_n 1 (fr' := (21, [(0, .ref 0), (1, .int (nI k1)), (2, .int x1)], [.int (nI k1), .ref 8], gh S a b sc (uA ar 8 (upd (ar 8) k1 (((ar 8) k1) - x1))) lo, ex, 0, 0)) rfl ?_
  refine to_ialR (i := k1) (v := ((upd (ar 8) k1 (((ar 8) k1) - x1)) k1)) rfl (by decide) rfl (by omega) (by omega) rfl ?_
  refine to_n 1 (fr' := (23, [(0, .ref 0), (1, .int (nI k1)), (2, .int x1)], [.int 1, .int ((upd (ar 8) k1 (((ar 8) k1) - x1)) k1)], gh S a b sc (uA ar 8 (upd (ar 8) k1 (((ar 8) k1) - x1))) lo, ex, 0, 0)) rfl ?_
  refine to_ic_ge (t := 54) rfl (fun q2 => ?_) (fun q2 => ?_)
  · exact to_rt (i := .return_) (tg := []) rfl rfl ⟨_, _, ⟨hI1, hF1, (zpl_0 (Int32.not_lt.mpr q2))⟩, rfl⟩
  · refine to_n 1 (fr' := (27, [(0, .ref 0), (1, .int (nI k1)), (2, .int x1)], [.ref 0], gh S a b sc (uA ar 8 (upd (ar 8) k1 (((ar 8) k1) - x1))) lo, ex, 0, 0)) rfl ?_
    refine to_get rfl rfl rfl rfl ?_
    refine to_get rfl rfl rfl rfl ?_
    refine to_n 2 (fr' := (35, [(0, .ref 0), (1, .int (nI k1)), (2, .int x1)], [.int 0, .int (nI k1), .ref 8], gh S a b sc (uA ar 8 (upd (ar 8) k1 (((ar 8) k1) - x1))) lo, ex, 0, 0)) rfl ?_
    refine to_iasR (i := k1) (h' := gh S a b sc (uA (uA ar 8 (upd (ar 8) k1 (((ar 8) k1) - x1))) 8 (upd (upd (ar 8) k1 (((ar 8) k1) - x1)) k1 0)) lo) rfl rfl (by omega) (by omega) rfl ?_
    have hI3 := ia_8 (g := (upd (upd (ar 8) k1 (((ar 8) k1) - x1)) k1 0)) hI1
    have hF3 := fr_a (c := 8) (g := (upd (upd (ar 8) k1 (((ar 8) k1) - x1)) k1 0)) hF1 (by decide)
    refine to_n 1 (fr' := (37, [(0, .ref 0), (1, .int (nI k1)), (2, .int x1)], [.ref 0], gh S a b sc (uA (uA ar 8 (upd (ar 8) k1 (((ar 8) k1) - x1))) 8 (upd (upd (ar 8) k1 (((ar 8) k1) - x1)) k1 0)) lo, ex, 0, 0)) rfl ?_
    refine to_get rfl rfl rfl rfl ?_
    refine to_get rfl rfl rfl rfl ?_
    refine to_n 2 (fr' := (45, [(0, .ref 0), (1, .int (nI k1)), (2, .int x1)], [.int 3, .int (nI k1), .ref 5], gh S a b sc (uA (uA ar 8 (upd (ar 8) k1 (((ar 8) k1) - x1))) 8 (upd (upd (ar 8) k1 (((ar 8) k1) - x1)) k1 0)) lo, ex, 0, 0)) rfl ?_
    refine to_iasR (i := k1) (h' := gh S a b sc (uA (uA (uA ar 8 (upd (ar 8) k1 (((ar 8) k1) - x1))) 8 (upd (upd (ar 8) k1 (((ar 8) k1) - x1)) k1 0)) 5 (upd ((uA (uA ar 8 (upd (ar 8) k1 (((ar 8) k1) - x1))) 8 (upd (upd (ar 8) k1 (((ar 8) k1) - x1)) k1 0)) 5) k1 3)) lo) rfl rfl (by omega) (by omega) rfl ?_
    have hI4 := ia_5 (g := (upd ((uA (uA ar 8 (upd (ar 8) k1 (((ar 8) k1) - x1))) 8 (upd (upd (ar 8) k1 (((ar 8) k1) - x1)) k1 0)) 5) k1 3)) hI3
    have hF4 := fr_a (c := 5) (g := (upd ((uA (uA ar 8 (upd (ar 8) k1 (((ar 8) k1) - x1))) 8 (upd (upd (ar 8) k1 (((ar 8) k1) - x1)) k1 0)) 5) k1 3)) hF3 (by decide)
    refine to_n 1 (fr' := (47, [(0, .ref 0), (1, .int (nI k1)), (2, .int x1)], [.ref 0], gh S a b sc (uA (uA (uA ar 8 (upd (ar 8) k1 (((ar 8) k1) - x1))) 8 (upd (upd (ar 8) k1 (((ar 8) k1) - x1)) k1 0)) 5 (upd ((uA (uA ar 8 (upd (ar 8) k1 (((ar 8) k1) - x1))) 8 (upd (upd (ar 8) k1 (((ar 8) k1) - x1)) k1 0)) 5) k1 3)) lo, ex, 0, 0)) rfl ?_
    refine to_get rfl rfl rfl rfl ?_
    refine to_n 1 (fr' := (51, [(0, .ref 0), (1, .int (nI k1)), (2, .int x1)], [.int (nI k1), .ref 13], gh S a b sc (uA (uA (uA ar 8 (upd (ar 8) k1 (((ar 8) k1) - x1))) 8 (upd (upd (ar 8) k1 (((ar 8) k1) - x1)) k1 0)) 5 (upd ((uA (uA ar 8 (upd (ar 8) k1 (((ar 8) k1) - x1))) 8 (upd (upd (ar 8) k1 (((ar 8) k1) - x1)) k1 0)) 5) k1 3)) lo, ex, 0, 0)) rfl ?_
    refine to_cv (q := 16) (M1 := an_X1_forget) (rest := []) rfl rfl (by decide) rfl ⟨_, rfl⟩ (sf_X1_forget hW hI4 n (by omega) (nI k1) ((hF4.1 1308 (by decide)).trans en) d) (fun sc5 ar5 hx5 => ?_)
    obtain ⟨hI5, hG5, hx5⟩ := hx5
    have hF5 := fr_t hF4 hG5 (by decide) (by decide)
    refine to_eq (fr' := (54, [(0, .ref 0), (1, .int (nI k1)), (2, .int x1)], [], gh S a b sc5 ar5 lo, ex, 0, 0)) rfl ?_
    exact to_rt (i := .return_) (tg := []) rfl rfl ⟨_, _, ⟨hI5, hF5, (by rw [← zpl_1 (Int32.not_le.mp q2)]; simp only [uA_s, uA_n, (show ar5 10 = (uA (uA (uA ar 8 (upd (ar 8) k1 (((ar 8) k1) - x1))) 8 (upd (upd (ar 8) k1 (((ar 8) k1) - x1)) k1 0)) 5 (upd ((uA (uA ar 8 (upd (ar 8) k1 (((ar 8) k1) - x1))) 8 (upd (upd (ar 8) k1 (((ar 8) k1) - x1)) k1 0)) 5) k1 3)) 10 from hG5.2 10 (by decide)), (show ar5 8 = (uA (uA (uA ar 8 (upd (ar 8) k1 (((ar 8) k1) - x1))) 8 (upd (upd (ar 8) k1 (((ar 8) k1) - x1)) k1 0)) 5 (upd ((uA (uA ar 8 (upd (ar 8) k1 (((ar 8) k1) - x1))) 8 (upd (upd (ar 8) k1 (((ar 8) k1) - x1)) k1 0)) 5) k1 3)) 8 from hG5.2 8 (by decide)), (show ar5 5 = (uA (uA (uA ar 8 (upd (ar 8) k1 (((ar 8) k1) - x1))) 8 (upd (upd (ar 8) k1 (((ar 8) k1) - x1)) k1 0)) 5 (upd ((uA (uA ar 8 (upd (ar 8) k1 (((ar 8) k1) - x1))) 8 (upd (upd (ar 8) k1 (((ar 8) k1) - x1)) k1 0)) 5) k1 3)) 5 from hG5.2 5 (by decide)), hx5, Nat.reduceEqDiff, not_false_eq_true])⟩, rfl⟩
set_option maxRecDepth 20000 in
theorem sf_X9_crewsWork {X : Nat × (Nat → Int32)} {S a b : Nat} {sc : Nat → Int32} {ar : Nat → Nat → Int32} {lo : Nat → Int64} {ex : Bool} (hW : Wd S a b) (hI : Iv S sc ar) (n : Nat) (enb : n < 9) (hg : Gd S a b ar) (en : sc 1308 = nI n) (d : Nat)  : cv X S a b (d + 3) 97 [.ref 0] sc ar lo ex (fun sc' ar' => Iv S sc' ar' ∧ Fr [] [5, 8, 10, 17, 18] sc ar sc' ar' ∧ (ar' 5, ar' 8, ar' 10, ar' 17, ar' 18) = zit (zwk S a n (ar 15) (ar 16) (ar 11) (ar 12)) n (ar 5, ar 8, ar 10, ar 17, ar 18)) := by
  obtain ⟨ha1, ha8, hb1, hb8, hab, hS1, hS⟩ := id hW
  refine cv_of (M := an_X9_crewsWork) rfl (Nat.le_of_ble_eq_true rfl) ?_
  have hF : Fr [] [5, 8, 10, 17, 18] sc ar sc ar := fr_0
  refine to_eq (fr' := (0, [(0, .ref 0)], [], gh S a b sc ar lo, ex, 0, 0)) rfl ?_
  have c2 : ∀ m : Nat, ∀ (i : Nat) (sc1 : Nat → Int32) (ar1 : Nat → Nat → Int32), i + m = n → (ar1 5, ar1 8, ar1 10, ar1 17, ar1 18) = zit (zwk S a n (ar 15) (ar 16) (ar 11) (ar 12)) i (ar 5, ar 8, ar 10, ar 17, ar 18) → Iv S sc1 ar1 → Fr [] [5, 8, 10, 17, 18] sc ar sc1 ar1 → ag_To X (d + 2) an_X9_crewsWork (2, [(0, .ref 0), (1, .int (nI i))], [], gh S a b sc1 ar1 lo, ex, 0, 0) (qv S a b lo ex (fun sc' ar' => Iv S sc' ar' ∧ Fr [] [5, 8, 10, 17, 18] sc ar sc' ar' ∧ (ar' 5, ar' 8, ar' 10, ar' 17, ar' 18) = zit (zwk S a n (ar 15) (ar 16) (ar 11) (ar 12)) n (ar 5, ar 8, ar 10, ar 17, ar 18))) := by
    intro m
    induction m with
    | zero =>
      intro i sc1 ar1 hm hc2_0 hI1 hF1
      refine to_n 2 (fr' := (4, [(0, .ref 0), (1, .int (nI i))], [.ref 0, .int (nI i)], gh S a b sc1 ar1 lo, ex, 0, 0)) rfl ?_
      refine to_get rfl rfl rfl rfl ?_
      refine to_getR (v := (nI n)) rfl rfl rfl rfl ((hF1.1 1308 (by decide)).trans en) ?_
      refine to_nc_ge_T (t := 153) (x := i) (y := n) rfl (by omega) (by omega) (by omega) ?_
      exact to_rt (i := .return_) (tg := []) rfl rfl ⟨_, _, ⟨hI1, hF1, (by have e9 : i = n := (by omega); rw [e9] at hc2_0; exact hc2_0)⟩, rfl⟩
    | succ m ih =>
      intro i sc1 ar1 hm hc2_0 hI1 hF1
      refine to_n 2 (fr' := (4, [(0, .ref 0), (1, .int (nI i))], [.ref 0, .int (nI i)], gh S a b sc1 ar1 lo, ex, 0, 0)) rfl ?_
      refine to_get rfl rfl rfl rfl ?_
      refine to_getR (v := (nI n)) rfl rfl rfl rfl ((hF1.1 1308 (by decide)).trans en) ?_
      refine to_nc_ge_F (t := 153) (x := i) (y := n) rfl (by omega) (by omega) (by omega) ?_
      refine to_n 1 (fr' := (14, [(0, .ref 0), (1, .int (nI i))], [.ref 0], gh S a b sc1 ar1 lo, ex, 0, 0)) rfl ?_
      refine to_get rfl rfl rfl rfl ?_
      refine to_get rfl rfl rfl rfl ?_
      refine to_n 1 (fr' := (21, [(0, .ref 0), (1, .int (nI i))], [.int (nI i), .ref 17], gh S a b sc1 ar1 lo, ex, 0, 0)) rfl ?_
      rcases iv_a17 hI1 i with e2 | ⟨n2, hn2, e2⟩
      · refine to_ialR (i := i) (v := (-1)) rfl (by decide) rfl (by omega) (by omega) e2 ?_
        refine to_n 2 (fr' := (24, [(0, .ref 0), (1, .int (nI i)), (2, .int (-1))], [.ref 0], gh S a b sc1 ar1 lo, ex, 0, 0)) rfl ?_
        refine to_get rfl rfl rfl rfl ?_
        refine to_n 1 (fr' := (28, [(0, .ref 0), (1, .int (nI i)), (2, .int (-1))], [.int (-1), .ref 1], gh S a b sc1 ar1 lo, ex, 0, 0)) rfl ?_
        refine to_cp (q := 2) (M1 := an_X0_has) (rest := []) rfl rfl (by decide) rfl ⟨_, rfl⟩ (sf_has_0  (has_neg (by decide)) (d + 1)) (fun x3 hx3 => ?_)
        obtain rfl := hx3
        refine to_eq (fr' := (31, [(0, .ref 0), (1, .int (nI i)), (2, .int (-1))], [.int 0], gh S a b sc1 ar1 lo, ex, 0, 0)) rfl ?_
        refine to_n 2 (fr' := (150, [(0, .ref 0), (1, .int ((nI i) + 1)), (2, .int (-1))], [], gh S a b sc1 ar1 lo, ex, 0, 0)) rfl ?_
        rw [nI_1 i]
        refine to_n 1 (fr' := (2, [(0, .ref 0), (1, .int (nI (i + 1))), (2, .int (-1))], [], gh S a b sc1 ar1 lo, ex, 0, 0)) rfl ?_
        refine to_lv (lv := [(0, .ref 0), (1, .int (nI (i + 1)))]) rfl ⟨rfl, rfl, trivial⟩ ?_
        exact ih (i + 1) sc1 ar1 (by omega) (zit_s hc2_0 (zwk_0 e2)) hI1 hF1
      · refine to_ialR (i := i) (v := (nI n2)) rfl (by decide) rfl (by omega) (by omega) e2 ?_
        refine to_n 2 (fr' := (24, [(0, .ref 0), (1, .int (nI i)), (2, .int (nI n2))], [.ref 0], gh S a b sc1 ar1 lo, ex, 0, 0)) rfl ?_
        refine to_get rfl rfl rfl rfl ?_
        refine to_n 1 (fr' := (28, [(0, .ref 0), (1, .int (nI i)), (2, .int (nI n2))], [.int (nI n2), .ref 1], gh S a b sc1 ar1 lo, ex, 0, 0)) rfl ?_
        rcases Nat.lt_or_ge n2 S with w4 | w4
        · refine to_cp (q := 2) (M1 := an_X0_has) (rest := []) rfl rfl (by decide) rfl ⟨_, rfl⟩ (sf_has_1 (n := n2)  (by omega) (d + 1)) (fun x4 hx4 => ?_)
          obtain rfl := hx4
          refine to_eq (fr' := (31, [(0, .ref 0), (1, .int (nI i)), (2, .int (nI n2))], [.int 1], gh S a b sc1 ar1 lo, ex, 0, 0)) rfl ?_
          refine to_n 2 (fr' := (35, [(0, .ref 0), (1, .int (nI i)), (2, .int (nI n2))], [.ref 0], gh S a b sc1 ar1 lo, ex, 0, 0)) rfl ?_
          refine to_get rfl rfl rfl rfl ?_
          refine to_n 1 (fr' := (39, [(0, .ref 0), (1, .int (nI i)), (2, .int (nI n2))], [.ref 0, .ref 1], gh S a b sc1 ar1 lo, ex, 0, 0)) rfl ?_
          refine to_get rfl rfl rfl rfl ?_
          refine to_get rfl rfl rfl rfl ?_
          refine to_n 1 (fr' := (46, [(0, .ref 0), (1, .int (nI i)), (2, .int (nI n2))], [.int (nI i), .ref 16, .ref 1], gh S a b sc1 ar1 lo, ex, 0, 0)) rfl ?_
          obtain ⟨n5, hn5, e5⟩ := iv_a16 hI i
          refine to_ialR (i := i) (v := (nI n5)) rfl (by decide) rfl (by omega) (by omega) ((congrFun (hF1.2 16 (by decide)) i).trans e5) ?_
          refine to_n 1 (fr' := (48, [(0, .ref 0), (1, .int (nI i)), (2, .int (nI n2))], [.int (nI n2), .int (nI n5), .ref 1], gh S a b sc1 ar1 lo, ex, 0, 0)) rfl ?_
          refine to_cp (q := 4) (M1 := an_X0_areBeside) (rest := []) rfl rfl (by decide) rfl ⟨_, rfl⟩ (sf_X0_areBeside hW hI1 n5 (by omega) n2 (by omega) (gd_fr hg hF1 (by decide) (by decide) (by decide)) d) (fun x6 hx6 => ?_)
          rcases hx6 with ⟨rfl, w6⟩ | ⟨rfl, w6⟩
          · refine to_eq (fr' := (51, [(0, .ref 0), (1, .int (nI i)), (2, .int (nI n2))], [.int 1], gh S a b sc1 ar1 lo, ex, 0, 0)) rfl ?_
            refine to_n 2 (fr' := (58, [(0, .ref 0), (1, .int (nI i)), (2, .int (nI n2))], [.ref 0], gh S a b sc1 ar1 lo, ex, 0, 0)) rfl ?_
            refine to_get rfl rfl rfl rfl ?_
            refine to_get rfl rfl rfl rfl ?_
            refine to_n 1 (fr' := (65, [(0, .ref 0), (1, .int (nI i)), (2, .int (nI n2))], [.int (nI i), .ref 18], gh S a b sc1 ar1 lo, ex, 0, 0)) rfl ?_
            refine to_zalR (i := i) (v := ((ar1 18) i)) rfl rfl (by omega) (by omega) rfl ?_
            refine to_if_eq (t := 86) rfl (fun q7 => ?_) (fun q7 => ?_)
            · refine to_n 1 (fr' := (87, [(0, .ref 0), (1, .int (nI i)), (2, .int (nI n2))], [.ref 0], gh S a b sc1 ar1 lo, ex, 0, 0)) rfl ?_
              refine to_get rfl rfl rfl rfl ?_
              refine to_get rfl rfl rfl rfl ?_
              refine to_n 1 (fr' := (94, [(0, .ref 0), (1, .int (nI i)), (2, .int (nI n2))], [.int (nI n2), .ref 11], gh S a b sc1 ar1 lo, ex, 0, 0)) rfl ?_
              refine to_ialR (i := n2) (v := (ar 11 n2)) rfl (by decide) rfl (by omega) (by omega) (congrFun (hF1.2 11 (by decide)) n2) ?_
              refine to_n 1 (fr' := (96, [(0, .ref 0), (1, .int (nI i)), (2, .int (nI n2))], [.int (nI i), .int (ar 11 n2)], gh S a b sc1 ar1 lo, ex, 0, 0)) rfl ?_
              refine to_ic_ne (t := 147) rfl (fun q8 => ?_) (fun q8 => ?_)
              · refine to_n 1 (fr' := (150, [(0, .ref 0), (1, .int ((nI i) + 1)), (2, .int (nI n2))], [], gh S a b sc1 ar1 lo, ex, 0, 0)) rfl ?_
                rw [nI_1 i]
                refine to_n 1 (fr' := (2, [(0, .ref 0), (1, .int (nI (i + 1))), (2, .int (nI n2))], [], gh S a b sc1 ar1 lo, ex, 0, 0)) rfl ?_
                refine to_lv (lv := [(0, .ref 0), (1, .int (nI (i + 1)))]) rfl ⟨rfl, rfl, trivial⟩ ?_
                exact ih (i + 1) sc1 ar1 (by omega) (zit_s hc2_0 (zwk_n e2 e5 (by omega) (by omega) w6 q7 q8)) hI1 hF1
              · refine to_n 1 (fr' := (100, [(0, .ref 0), (1, .int (nI i)), (2, .int (nI n2))], [.ref 0], gh S a b sc1 ar1 lo, ex, 0, 0)) rfl ?_
                refine to_get rfl rfl rfl rfl ?_
                refine to_n 1 (fr' := (104, [(0, .ref 0), (1, .int (nI i)), (2, .int (nI n2))], [.ref 0, .ref 1], gh S a b sc1 ar1 lo, ex, 0, 0)) rfl ?_
                refine to_get rfl rfl rfl rfl ?_
                refine to_get rfl rfl rfl rfl ?_
                refine to_n 1 (fr' := (111, [(0, .ref 0), (1, .int (nI i)), (2, .int (nI n2))], [.int (nI i), .ref 16, .ref 1], gh S a b sc1 ar1 lo, ex, 0, 0)) rfl ?_
                refine to_ialR (i := i) (v := (nI n5)) rfl (by decide) rfl (by omega) (by omega) ((congrFun (hF1.2 16 (by decide)) i).trans e5) ?_
                refine to_cp (q := 9) (M1 := an_X0_wellNear) (rest := []) rfl rfl (by decide) rfl ⟨_, rfl⟩ (sf_X0_wellNear hW hI1 n5 (by omega) (gd_fr hg hF1 (by decide) (by decide) (by decide)) d) (fun x9 hx9 => ?_)
                simp only [show ar1 12 = ar 12 from hF1.2 12 (by decide)] at hx9
                rcases hx9 with ⟨rfl, w9⟩ | ⟨rfl, w9⟩
                · refine to_eq (fr' := (115, [(0, .ref 0), (1, .int (nI i)), (2, .int (nI n2))], [.int 1], gh S a b sc1 ar1 lo, ex, 0, 0)) rfl ?_
                  refine to_n 5 (fr' := (125, [(0, .ref 0), (1, .int (nI i)), (2, .int (nI n2)), (3, .int 2)], [.ref 0], gh S a b sc1 ar1 lo, ex, 0, 0)) rfl ?_
                  refine to_get rfl rfl rfl rfl ?_
                  refine to_get rfl rfl rfl rfl ?_
                  refine to_n 2 (fr' := (133, [(0, .ref 0), (1, .int (nI i)), (2, .int (nI n2)), (3, .int 2)], [.int (nI n2), .ref 10, .int (nI n2), .ref 10], gh S a b sc1 ar1 lo, ex, 0, 0)) rfl ?_
                  refine to_ialR (i := n2) (v := ((ar1 10) n2)) rfl (by decide) rfl (by omega) (by omega) rfl ?_
                  refine to_n 2 (fr' := (136, [(0, .ref 0), (1, .int (nI i)), (2, .int (nI n2)), (3, .int 2)], [.ref 0, .int 2, .int ((ar1 10) n2), .int (nI n2), .ref 10], gh S a b sc1 ar1 lo, ex, 0, 0)) rfl ?_
                  refine to_get rfl rfl rfl rfl ?_
                  refine to_get rfl rfl rfl rfl ?_
                  refine to_n 1 (fr' := (143, [(0, .ref 0), (1, .int (nI i)), (2, .int (nI n2)), (3, .int 2)], [.int (nI i), .ref 15, .int 2, .int ((ar1 10) n2), .int (nI n2), .ref 10], gh S a b sc1 ar1 lo, ex, 0, 0)) rfl ?_
                  refine to_ialR (i := i) (v := (ar 15 i)) rfl (by decide) rfl (by omega) (by omega) (congrFun (hF1.2 15 (by decide)) i) ?_
                  refine to_n 2 (fr' := (146, [(0, .ref 0), (1, .int (nI i)), (2, .int (nI n2)), (3, .int 2)], [.int (((ar1 10) n2) + (2 * (ar 15 i))), .int (nI n2), .ref 10], gh S a b sc1 ar1 lo, ex, 0, 0)) rfl ?_
                  refine to_iasR (i := n2) (h' := gh S a b sc1 (uA ar1 10 (upd (ar1 10) n2 (((ar1 10) n2) + (2 * (ar 15 i))))) lo) rfl rfl (by omega) (by omega) rfl ?_
                  have hI10 := ia_10 (g := (upd (ar1 10) n2 (((ar1 10) n2) + (2 * (ar 15 i))))) hI1
                  have hF10 := fr_a (c := 10) (g := (upd (ar1 10) n2 (((ar1 10) n2) + (2 * (ar 15 i))))) hF1 (by decide)
                  refine to_n 1 (fr' := (150, [(0, .ref 0), (1, .int ((nI i) + 1)), (2, .int (nI n2)), (3, .int 2)], [], gh S a b sc1 (uA ar1 10 (upd (ar1 10) n2 (((ar1 10) n2) + (2 * (ar 15 i))))) lo, ex, 0, 0)) rfl ?_
                  rw [nI_1 i]
                  refine to_n 1 (fr' := (2, [(0, .ref 0), (1, .int (nI (i + 1))), (2, .int (nI n2)), (3, .int 2)], [], gh S a b sc1 (uA ar1 10 (upd (ar1 10) n2 (((ar1 10) n2) + (2 * (ar 15 i))))) lo, ex, 0, 0)) rfl ?_
                  refine to_lv (lv := [(0, .ref 0), (1, .int (nI (i + 1)))]) rfl ⟨rfl, rfl, trivial⟩ ?_
                  exact ih (i + 1) sc1 (uA ar1 10 (upd (ar1 10) n2 (((ar1 10) n2) + (2 * (ar 15 i))))) (by omega) (zit_s hc2_0 (zwk_w e2 e5 (by omega) (by omega) w6 q7 q8 w9)) hI10 hF10
                · refine to_eq (fr' := (115, [(0, .ref 0), (1, .int (nI i)), (2, .int (nI n2))], [.int 0], gh S a b sc1 ar1 lo, ex, 0, 0)) rfl ?_
                  refine to_n 4 (fr' := (125, [(0, .ref 0), (1, .int (nI i)), (2, .int (nI n2)), (3, .int 1)], [.ref 0], gh S a b sc1 ar1 lo, ex, 0, 0)) rfl ?_
                  refine to_get rfl rfl rfl rfl ?_
                  refine to_get rfl rfl rfl rfl ?_
                  refine to_n 2 (fr' := (133, [(0, .ref 0), (1, .int (nI i)), (2, .int (nI n2)), (3, .int 1)], [.int (nI n2), .ref 10, .int (nI n2), .ref 10], gh S a b sc1 ar1 lo, ex, 0, 0)) rfl ?_
                  refine to_ialR (i := n2) (v := ((ar1 10) n2)) rfl (by decide) rfl (by omega) (by omega) rfl ?_
                  refine to_n 2 (fr' := (136, [(0, .ref 0), (1, .int (nI i)), (2, .int (nI n2)), (3, .int 1)], [.ref 0, .int 1, .int ((ar1 10) n2), .int (nI n2), .ref 10], gh S a b sc1 ar1 lo, ex, 0, 0)) rfl ?_
                  refine to_get rfl rfl rfl rfl ?_
                  refine to_get rfl rfl rfl rfl ?_
                  refine to_n 1 (fr' := (143, [(0, .ref 0), (1, .int (nI i)), (2, .int (nI n2)), (3, .int 1)], [.int (nI i), .ref 15, .int 1, .int ((ar1 10) n2), .int (nI n2), .ref 10], gh S a b sc1 ar1 lo, ex, 0, 0)) rfl ?_
                  refine to_ialR (i := i) (v := (ar 15 i)) rfl (by decide) rfl (by omega) (by omega) (congrFun (hF1.2 15 (by decide)) i) ?_
                  refine to_n 2 (fr' := (146, [(0, .ref 0), (1, .int (nI i)), (2, .int (nI n2)), (3, .int 1)], [.int (((ar1 10) n2) + (1 * (ar 15 i))), .int (nI n2), .ref 10], gh S a b sc1 ar1 lo, ex, 0, 0)) rfl ?_
                  refine to_iasR (i := n2) (h' := gh S a b sc1 (uA ar1 10 (upd (ar1 10) n2 (((ar1 10) n2) + (1 * (ar 15 i))))) lo) rfl rfl (by omega) (by omega) rfl ?_
                  have hI11 := ia_10 (g := (upd (ar1 10) n2 (((ar1 10) n2) + (1 * (ar 15 i))))) hI1
                  have hF11 := fr_a (c := 10) (g := (upd (ar1 10) n2 (((ar1 10) n2) + (1 * (ar 15 i))))) hF1 (by decide)
                  refine to_n 1 (fr' := (150, [(0, .ref 0), (1, .int ((nI i) + 1)), (2, .int (nI n2)), (3, .int 1)], [], gh S a b sc1 (uA ar1 10 (upd (ar1 10) n2 (((ar1 10) n2) + (1 * (ar 15 i))))) lo, ex, 0, 0)) rfl ?_
                  rw [nI_1 i]
                  refine to_n 1 (fr' := (2, [(0, .ref 0), (1, .int (nI (i + 1))), (2, .int (nI n2)), (3, .int 1)], [], gh S a b sc1 (uA ar1 10 (upd (ar1 10) n2 (((ar1 10) n2) + (1 * (ar 15 i))))) lo, ex, 0, 0)) rfl ?_
                  refine to_lv (lv := [(0, .ref 0), (1, .int (nI (i + 1)))]) rfl ⟨rfl, rfl, trivial⟩ ?_
                  exact ih (i + 1) sc1 (uA ar1 10 (upd (ar1 10) n2 (((ar1 10) n2) + (1 * (ar 15 i))))) (by omega) (zit_s hc2_0 (zwk_v e2 e5 (by omega) (by omega) w6 q7 q8 w9)) hI11 hF11
            · refine to_n 3 (fr' := (72, [(0, .ref 0), (1, .int (nI i)), (2, .int (nI n2))], [.ref 0, .int (nI n2), .ref 0], gh S a b sc1 ar1 lo, ex, 0, 0)) rfl ?_
              refine to_get rfl rfl rfl rfl ?_
              refine to_get rfl rfl rfl rfl ?_
              refine to_n 1 (fr' := (79, [(0, .ref 0), (1, .int (nI i)), (2, .int (nI n2))], [.int (nI i), .ref 15, .int (nI n2), .ref 0], gh S a b sc1 ar1 lo, ex, 0, 0)) rfl ?_
              refine to_ialR (i := i) (v := (ar 15 i)) rfl (by decide) rfl (by omega) (by omega) (congrFun (hF1.2 15 (by decide)) i) ?_
              refine to_cv (q := 98) (M1 := an_X9_pullAt) (rest := []) rfl rfl (by decide) rfl ⟨_, rfl⟩ (sf_X9_pullAt hW hI1 n (by omega) n2 (by omega) (ar 15 i) ((hF1.1 1308 (by decide)).trans en) d) (fun sc12 ar12 hx12 => ?_)
              obtain ⟨hI12, hG12, hx12⟩ := hx12
              have hF12 := fr_t hF1 hG12 (by decide) (by decide)
              refine to_eq (fr' := (83, [(0, .ref 0), (1, .int (nI i)), (2, .int (nI n2))], [], gh S a b sc12 ar12 lo, ex, 0, 0)) rfl ?_
              refine to_n 2 (fr' := (150, [(0, .ref 0), (1, .int ((nI i) + 1)), (2, .int (nI n2))], [], gh S a b sc12 ar12 lo, ex, 0, 0)) rfl ?_
              rw [nI_1 i]
              refine to_n 1 (fr' := (2, [(0, .ref 0), (1, .int (nI (i + 1))), (2, .int (nI n2))], [], gh S a b sc12 ar12 lo, ex, 0, 0)) rfl ?_
              refine to_lv (lv := [(0, .ref 0), (1, .int (nI (i + 1)))]) rfl ⟨rfl, rfl, trivial⟩ ?_
              exact ih (i + 1) sc12 ar12 (by omega) (zit_s hc2_0 (zwk_p e2 e5 (by omega) (by omega) w6 q7 hx12)) hI12 hF12
          · refine to_eq (fr' := (51, [(0, .ref 0), (1, .int (nI i)), (2, .int (nI n2))], [.int 0], gh S a b sc1 ar1 lo, ex, 0, 0)) rfl ?_
            refine to_n 3 (fr' := (150, [(0, .ref 0), (1, .int ((nI i) + 1)), (2, .int (nI n2))], [], gh S a b sc1 ar1 lo, ex, 0, 0)) rfl ?_
            rw [nI_1 i]
            refine to_n 1 (fr' := (2, [(0, .ref 0), (1, .int (nI (i + 1))), (2, .int (nI n2))], [], gh S a b sc1 ar1 lo, ex, 0, 0)) rfl ?_
            refine to_lv (lv := [(0, .ref 0), (1, .int (nI (i + 1)))]) rfl ⟨rfl, rfl, trivial⟩ ?_
            exact ih (i + 1) sc1 ar1 (by omega) (zit_s hc2_0 (zwk_1 e2 e5 (by omega) (by omega) w6)) hI1 hF1
        · refine to_cp (q := 2) (M1 := an_X0_has) (rest := []) rfl rfl (by decide) rfl ⟨_, rfl⟩ (sf_has_0  (has_no (n := n2) (B := S) (by omega) (by omega) (by omega)) (d + 1)) (fun x4 hx4 => ?_)
          obtain rfl := hx4
          refine to_eq (fr' := (31, [(0, .ref 0), (1, .int (nI i)), (2, .int (nI n2))], [.int 0], gh S a b sc1 ar1 lo, ex, 0, 0)) rfl ?_
          refine to_n 2 (fr' := (150, [(0, .ref 0), (1, .int ((nI i) + 1)), (2, .int (nI n2))], [], gh S a b sc1 ar1 lo, ex, 0, 0)) rfl ?_
          rw [nI_1 i]
          refine to_n 1 (fr' := (2, [(0, .ref 0), (1, .int (nI (i + 1))), (2, .int (nI n2))], [], gh S a b sc1 ar1 lo, ex, 0, 0)) rfl ?_
          refine to_lv (lv := [(0, .ref 0), (1, .int (nI (i + 1)))]) rfl ⟨rfl, rfl, trivial⟩ ?_
          exact ih (i + 1) sc1 ar1 (by omega) (by exfalso; omega) hI1 hF1
  refine to_n 2 (fr' := (2, [(0, .ref 0), (1, .int 0)], [], gh S a b sc ar lo, ex, 0, 0)) rfl ?_
  exact c2 (n - 0) 0 sc ar (by omega) rfl hI hF
set_option maxRecDepth 20000 in
theorem sf_X9_giveRoof {X : Nat × (Nat → Int32)} {S a b : Nat} {sc : Nat → Int32} {ar : Nat → Nat → Int32} {lo : Nat → Int64} {ex : Bool} (hW : Wd S a b) (hI : Iv S sc ar) (n : Nat) (enb : n < 9) (k1 : Nat) (hk1 : k1 < S) (hg : Gd S a b ar) (en : sc 1308 = nI n) (d : Nat)  : cv X S a b (d + 3) 96 [.ref 0, .int (nI k1)] sc ar lo ex (fun sc' ar' => Iv S sc' ar' ∧ Fr [] [11, 20] sc ar sc' ar' ∧ (ar' 11, ar' 20) = zit (zgr a k1 (ar 17) (ar 16)) n (ar 11, ar 20)) := by
  obtain ⟨ha1, ha8, hb1, hb8, hab, hS1, hS⟩ := id hW
  refine cv_of (M := an_X9_giveRoof) rfl (Nat.le_of_ble_eq_true rfl) ?_
  have hF : Fr [] [11, 20] sc ar sc ar := fr_0
  refine to_eq (fr' := (0, [(0, .ref 0), (1, .int (nI k1))], [], gh S a b sc ar lo, ex, 0, 0)) rfl ?_
  have c2 : ∀ m : Nat, ∀ (i : Nat) (sc1 : Nat → Int32) (ar1 : Nat → Nat → Int32), i + m = n → (ar1 11, ar1 20) = zit (zgr a k1 (ar 17) (ar 16)) i (ar 11, ar 20) → Iv S sc1 ar1 → Fr [] [11, 20] sc ar sc1 ar1 → ag_To X (d + 2) an_X9_giveRoof (2, [(0, .ref 0), (1, .int (nI k1)), (2, .int (nI i))], [], gh S a b sc1 ar1 lo, ex, 0, 0) (qv S a b lo ex (fun sc' ar' => Iv S sc' ar' ∧ Fr [] [11, 20] sc ar sc' ar' ∧ (ar' 11, ar' 20) = zit (zgr a k1 (ar 17) (ar 16)) n (ar 11, ar 20))) := by
    intro m
    induction m with
    | zero =>
      intro i sc1 ar1 hm hc2_0 hI1 hF1
      refine to_n 2 (fr' := (4, [(0, .ref 0), (1, .int (nI k1)), (2, .int (nI i))], [.ref 0, .int (nI i)], gh S a b sc1 ar1 lo, ex, 0, 0)) rfl ?_
      refine to_get rfl rfl rfl rfl ?_
      refine to_getR (v := (nI n)) rfl rfl rfl rfl ((hF1.1 1308 (by decide)).trans en) ?_
      refine to_nc_ge_T (t := 94) (x := i) (y := n) rfl (by omega) (by omega) (by omega) ?_
      exact to_rt (i := .return_) (tg := []) rfl rfl ⟨_, _, ⟨hI1, hF1, (by have e9 : i = n := (by omega); rw [e9] at hc2_0; exact hc2_0)⟩, rfl⟩
    | succ m ih =>
      intro i sc1 ar1 hm hc2_0 hI1 hF1
      refine to_n 2 (fr' := (4, [(0, .ref 0), (1, .int (nI k1)), (2, .int (nI i))], [.ref 0, .int (nI i)], gh S a b sc1 ar1 lo, ex, 0, 0)) rfl ?_
      refine to_get rfl rfl rfl rfl ?_
      refine to_getR (v := (nI n)) rfl rfl rfl rfl ((hF1.1 1308 (by decide)).trans en) ?_
      refine to_nc_ge_F (t := 94) (x := i) (y := n) rfl (by omega) (by omega) (by omega) ?_
      refine to_n 1 (fr' := (14, [(0, .ref 0), (1, .int (nI k1)), (2, .int (nI i))], [.ref 0], gh S a b sc1 ar1 lo, ex, 0, 0)) rfl ?_
      refine to_get rfl rfl rfl rfl ?_
      refine to_get rfl rfl rfl rfl ?_
      refine to_n 1 (fr' := (21, [(0, .ref 0), (1, .int (nI k1)), (2, .int (nI i))], [.int (nI i), .ref 17], gh S a b sc1 ar1 lo, ex, 0, 0)) rfl ?_
      rcases iv_a17 hI i with e2 | ⟨n2, hn2, e2⟩
      · refine to_ialR (i := i) (v := (-1)) rfl (by decide) rfl (by omega) (by omega) ((congrFun (hF1.2 17 (by decide)) i).trans e2) ?_
        refine to_n 1 (fr' := (23, [(0, .ref 0), (1, .int (nI k1)), (2, .int (nI i))], [.int (nI k1), .int (-1)], gh S a b sc1 ar1 lo, ex, 0, 0)) rfl ?_
        refine to_ic_ne_T (t := 88) (x := (-1)) (y := (nI k1)) rfl (fun w => nI_neg (n := k1) (x := (-1)) (by omega) (by decide) w.symm) ?_
        refine to_n 1 (fr' := (91, [(0, .ref 0), (1, .int (nI k1)), (2, .int ((nI i) + 1))], [], gh S a b sc1 ar1 lo, ex, 0, 0)) rfl ?_
        rw [nI_1 i]
        refine to_n 1 (fr' := (2, [(0, .ref 0), (1, .int (nI k1)), (2, .int (nI (i + 1)))], [], gh S a b sc1 ar1 lo, ex, 0, 0)) rfl ?_
        exact ih (i + 1) sc1 ar1 (by omega) (zit_s hc2_0 (zgr_0 (fun w => ni_m e2 (by omega) w.1))) hI1 hF1
      · refine to_ialR (i := i) (v := (nI n2)) rfl (by decide) rfl (by omega) (by omega) ((congrFun (hF1.2 17 (by decide)) i).trans e2) ?_
        refine to_n 1 (fr' := (23, [(0, .ref 0), (1, .int (nI k1)), (2, .int (nI i))], [.int (nI k1), .int (nI n2)], gh S a b sc1 ar1 lo, ex, 0, 0)) rfl ?_
        refine to_nc_ne (t := 88) (x := n2) (y := k1) rfl (by omega) (by omega) (fun q3 => ?_) (fun q3 => ?_)
        · refine to_n 1 (fr' := (91, [(0, .ref 0), (1, .int (nI k1)), (2, .int ((nI i) + 1))], [], gh S a b sc1 ar1 lo, ex, 0, 0)) rfl ?_
          rw [nI_1 i]
          refine to_n 1 (fr' := (2, [(0, .ref 0), (1, .int (nI k1)), (2, .int (nI (i + 1)))], [], gh S a b sc1 ar1 lo, ex, 0, 0)) rfl ?_
          exact ih (i + 1) sc1 ar1 (by omega) (zit_s hc2_0 (zgr_0 (fun w => ni_ne e2 q3 (by omega) (by omega) w.1))) hI1 hF1
        · refine to_n 1 (fr' := (27, [(0, .ref 0), (1, .int (nI k1)), (2, .int (nI i))], [.ref 0], gh S a b sc1 ar1 lo, ex, 0, 0)) rfl ?_
          refine to_get rfl rfl rfl rfl ?_
          refine to_n 1 (fr' := (31, [(0, .ref 0), (1, .int (nI k1)), (2, .int (nI i))], [.ref 0, .ref 1], gh S a b sc1 ar1 lo, ex, 0, 0)) rfl ?_
          refine to_get rfl rfl rfl rfl ?_
          refine to_get rfl rfl rfl rfl ?_
          refine to_n 1 (fr' := (38, [(0, .ref 0), (1, .int (nI k1)), (2, .int (nI i))], [.int (nI i), .ref 16, .ref 1], gh S a b sc1 ar1 lo, ex, 0, 0)) rfl ?_
          obtain ⟨n4, hn4, e4⟩ := iv_a16 hI i
          refine to_ialR (i := i) (v := (nI n4)) rfl (by decide) rfl (by omega) (by omega) ((congrFun (hF1.2 16 (by decide)) i).trans e4) ?_
          refine to_n 1 (fr' := (40, [(0, .ref 0), (1, .int (nI k1)), (2, .int (nI i))], [.int (nI k1), .int (nI n4), .ref 1], gh S a b sc1 ar1 lo, ex, 0, 0)) rfl ?_
          refine to_cp (q := 4) (M1 := an_X0_areBeside) (rest := []) rfl rfl (by decide) rfl ⟨_, rfl⟩ (sf_X0_areBeside hW hI1 n4 (by omega) k1 (by omega) (gd_fr hg hF1 (by decide) (by decide) (by decide)) d) (fun x5 hx5 => ?_)
          rcases hx5 with ⟨rfl, w5⟩ | ⟨rfl, w5⟩
          · refine to_eq (fr' := (43, [(0, .ref 0), (1, .int (nI k1)), (2, .int (nI i))], [.int 1], gh S a b sc1 ar1 lo, ex, 0, 0)) rfl ?_
            refine to_n 2 (fr' := (50, [(0, .ref 0), (1, .int (nI k1)), (2, .int (nI i))], [.ref 0], gh S a b sc1 ar1 lo, ex, 0, 0)) rfl ?_
            refine to_get rfl rfl rfl rfl ?_
            refine to_get rfl rfl rfl rfl ?_
            refine to_n 1 (fr' := (57, [(0, .ref 0), (1, .int (nI k1)), (2, .int (nI i))], [.int (nI k1), .ref 11], gh S a b sc1 ar1 lo, ex, 0, 0)) rfl ?_
            refine to_ialR (i := k1) (v := ((ar1 11) k1)) rfl (by decide) rfl (by omega) (by omega) rfl ?_
            refine to_n 1 (fr' := (59, [(0, .ref 0), (1, .int (nI k1)), (2, .int (nI i))], [.int (-1), .int ((ar1 11) k1)], gh S a b sc1 ar1 lo, ex, 0, 0)) rfl ?_
            refine to_ic_ne (t := 75) rfl (fun q6 => ?_) (fun q6 => ?_)
            · refine to_n 1 (fr' := (76, [(0, .ref 0), (1, .int (nI k1)), (2, .int (nI i))], [.ref 0], gh S a b sc1 ar1 lo, ex, 0, 0)) rfl ?_
              refine to_get rfl rfl rfl rfl ?_
              refine to_get rfl rfl rfl rfl ?_
              refine to_n 2 (fr' := (84, [(0, .ref 0), (1, .int (nI k1)), (2, .int (nI i))], [.int (nI i), .ref 20, .int (nI i), .ref 20], gh S a b sc1 ar1 lo, ex, 0, 0)) rfl ?_
              refine to_ialR (i := i) (v := ((ar1 20) i)) rfl (by decide) rfl (by omega) (by omega) rfl ?_
              refine to_n 2 (fr' := (87, [(0, .ref 0), (1, .int (nI k1)), (2, .int (nI i))], [.int (((ar1 20) i) + 1), .int (nI i), .ref 20], gh S a b sc1 ar1 lo, ex, 0, 0)) rfl ?_
              refine to_iasR (i := i) (h' := gh S a b sc1 (uA ar1 20 (upd (ar1 20) i (((ar1 20) i) + 1))) lo) rfl rfl (by omega) (by omega) rfl ?_
              have hI7 := ia_20 (g := (upd (ar1 20) i (((ar1 20) i) + 1))) hI1
              have hF7 := fr_a (c := 20) (g := (upd (ar1 20) i (((ar1 20) i) + 1))) hF1 (by decide)
              refine to_n 1 (fr' := (91, [(0, .ref 0), (1, .int (nI k1)), (2, .int ((nI i) + 1))], [], gh S a b sc1 (uA ar1 20 (upd (ar1 20) i (((ar1 20) i) + 1))) lo, ex, 0, 0)) rfl ?_
              rw [nI_1 i]
              refine to_n 1 (fr' := (2, [(0, .ref 0), (1, .int (nI k1)), (2, .int (nI (i + 1)))], [], gh S a b sc1 (uA ar1 20 (upd (ar1 20) i (((ar1 20) i) + 1))) lo, ex, 0, 0)) rfl ?_
              exact ih (i + 1) sc1 (uA ar1 20 (upd (ar1 20) i (((ar1 20) i) + 1))) (by omega) (zit_s hc2_0 (zgr_2 (n := n) (e2.trans (congrArg nI q3)) e4 (by omega) w5 q6)) hI7 hF7
            · refine to_n 1 (fr' := (63, [(0, .ref 0), (1, .int (nI k1)), (2, .int (nI i))], [.ref 0], gh S a b sc1 ar1 lo, ex, 0, 0)) rfl ?_
              refine to_get rfl rfl rfl rfl ?_
              refine to_get rfl rfl rfl rfl ?_
              refine to_n 2 (fr' := (71, [(0, .ref 0), (1, .int (nI k1)), (2, .int (nI i))], [.int (nI i), .int (nI k1), .ref 11], gh S a b sc1 ar1 lo, ex, 0, 0)) rfl ?_
              refine to_iasR (i := k1) (h' := gh S a b sc1 (uA ar1 11 (upd (ar1 11) k1 (nI i))) lo) rfl rfl (by omega) (by omega) rfl ?_
              have hI8 := ia_11 (g := (upd (ar1 11) k1 (nI i))) hI1
              have hF8 := fr_a (c := 11) (g := (upd (ar1 11) k1 (nI i))) hF1 (by decide)
              refine to_n 2 (fr' := (91, [(0, .ref 0), (1, .int (nI k1)), (2, .int ((nI i) + 1))], [], gh S a b sc1 (uA ar1 11 (upd (ar1 11) k1 (nI i))) lo, ex, 0, 0)) rfl ?_
              rw [nI_1 i]
              refine to_n 1 (fr' := (2, [(0, .ref 0), (1, .int (nI k1)), (2, .int (nI (i + 1)))], [], gh S a b sc1 (uA ar1 11 (upd (ar1 11) k1 (nI i))) lo, ex, 0, 0)) rfl ?_
              exact ih (i + 1) sc1 (uA ar1 11 (upd (ar1 11) k1 (nI i))) (by omega) (zit_s hc2_0 (zgr_1 (n := n) (e2.trans (congrArg nI q3)) e4 (by omega) w5 q6)) hI8 hF8
          · refine to_eq (fr' := (43, [(0, .ref 0), (1, .int (nI k1)), (2, .int (nI i))], [.int 0], gh S a b sc1 ar1 lo, ex, 0, 0)) rfl ?_
            refine to_n 3 (fr' := (91, [(0, .ref 0), (1, .int (nI k1)), (2, .int ((nI i) + 1))], [], gh S a b sc1 ar1 lo, ex, 0, 0)) rfl ?_
            rw [nI_1 i]
            refine to_n 1 (fr' := (2, [(0, .ref 0), (1, .int (nI k1)), (2, .int (nI (i + 1)))], [], gh S a b sc1 ar1 lo, ex, 0, 0)) rfl ?_
            exact ih (i + 1) sc1 ar1 (by omega) (zit_s hc2_0 (zgr_0 (zgr_d e4 (by omega) w5))) hI1 hF1
  refine to_n 2 (fr' := (2, [(0, .ref 0), (1, .int (nI k1)), (2, .int 0)], [], gh S a b sc ar lo, ex, 0, 0)) rfl ?_
  exact c2 (n - 0) 0 sc ar (by omega) rfl hI hF
set_option maxRecDepth 20000 in
theorem sf_X9_giveRoofs {X : Nat × (Nat → Int32)} {S a b : Nat} {sc : Nat → Int32} {ar : Nat → Nat → Int32} {lo : Nat → Int64} {ex : Bool} (hW : Wd S a b) (hI : Iv S sc ar) (n : Nat) (enb : n < 9) (hg : Gd S a b ar) (en : sc 1308 = nI n) (d : Nat)  : cv X S a b (d + 4) 95 [.ref 0] sc ar lo ex (fun sc' ar' => Iv S sc' ar' ∧ Fr [] [11, 20] sc ar sc' ar' ∧ (ar' 11, ar' 20) = zit (zgrs a n (ar 5) (ar 17) (ar 16)) S (ar 11, ar 20)) := by
  obtain ⟨ha1, ha8, hb1, hb8, hab, hS1, hS⟩ := id hW
  refine cv_of (M := an_X9_giveRoofs) rfl (Nat.le_of_ble_eq_true rfl) ?_
  have hF : Fr [] [11, 20] sc ar sc ar := fr_0
  refine to_eq (fr' := (0, [(0, .ref 0)], [], gh S a b sc ar lo, ex, 0, 0)) rfl ?_
  have c2 : ∀ m : Nat, ∀ (i : Nat) (sc1 : Nat → Int32) (ar1 : Nat → Nat → Int32), i + m = S → (ar1 11, ar1 20) = zit (zgrs a n (ar 5) (ar 17) (ar 16)) i (ar 11, ar 20) → Iv S sc1 ar1 → Fr [] [11, 20] sc ar sc1 ar1 → ag_To X (d + 3) an_X9_giveRoofs (2, [(0, .ref 0), (1, .int (nI i))], [], gh S a b sc1 ar1 lo, ex, 0, 0) (qv S a b lo ex (fun sc' ar' => Iv S sc' ar' ∧ Fr [] [11, 20] sc ar sc' ar' ∧ (ar' 11, ar' 20) = zit (zgrs a n (ar 5) (ar 17) (ar 16)) S (ar 11, ar 20))) := by
    intro m
    induction m with
    | zero =>
      intro i sc1 ar1 hm hc2_0 hI1 hF1
      refine to_n 2 (fr' := (4, [(0, .ref 0), (1, .int (nI i))], [.ref 0, .int (nI i)], gh S a b sc1 ar1 lo, ex, 0, 0)) rfl ?_
      refine to_get rfl rfl rfl rfl ?_
      refine to_get rfl rfl rfl rfl ?_
      refine to_nc_ge_T (t := 50) (x := i) (y := S) rfl (by omega) (by omega) (by omega) ?_
      exact to_rt (i := .return_) (tg := []) rfl rfl ⟨_, _, ⟨hI1, hF1, (by have e9 : i = S := (by omega); rw [e9] at hc2_0; exact hc2_0)⟩, rfl⟩
    | succ m ih =>
      intro i sc1 ar1 hm hc2_0 hI1 hF1
      refine to_n 2 (fr' := (4, [(0, .ref 0), (1, .int (nI i))], [.ref 0, .int (nI i)], gh S a b sc1 ar1 lo, ex, 0, 0)) rfl ?_
      refine to_get rfl rfl rfl rfl ?_
      refine to_get rfl rfl rfl rfl ?_
      refine to_nc_ge_F (t := 50) (x := i) (y := S) rfl (by omega) (by omega) (by omega) ?_
      refine to_n 1 (fr' := (14, [(0, .ref 0), (1, .int (nI i))], [.ref 0], gh S a b sc1 ar1 lo, ex, 0, 0)) rfl ?_
      refine to_get rfl rfl rfl rfl ?_
      refine to_get rfl rfl rfl rfl ?_
      refine to_n 1 (fr' := (21, [(0, .ref 0), (1, .int (nI i))], [.int (nI i), .ref 5], gh S a b sc1 ar1 lo, ex, 0, 0)) rfl ?_
      refine to_ialR (i := i) (v := (ar 5 i)) rfl (by decide) rfl (by omega) (by omega) (congrFun (hF1.2 5 (by decide)) i) ?_
      refine to_n 1 (fr' := (23, [(0, .ref 0), (1, .int (nI i))], [.int 1, .int (ar 5 i)], gh S a b sc1 ar1 lo, ex, 0, 0)) rfl ?_
      refine to_ic_ne (t := 44) rfl (fun q2 => ?_) (fun q2 => ?_)
      · refine to_n 1 (fr' := (47, [(0, .ref 0), (1, .int ((nI i) + 1))], [], gh S a b sc1 ar1 lo, ex, 0, 0)) rfl ?_
        rw [nI_1 i]
        refine to_n 1 (fr' := (2, [(0, .ref 0), (1, .int (nI (i + 1)))], [], gh S a b sc1 ar1 lo, ex, 0, 0)) rfl ?_
        exact ih (i + 1) sc1 ar1 (by omega) (zit_s hc2_0 (zgrs_n (fun w => q2 w.1))) hI1 hF1
      · refine to_n 1 (fr' := (27, [(0, .ref 0), (1, .int (nI i))], [.ref 0], gh S a b sc1 ar1 lo, ex, 0, 0)) rfl ?_
        refine to_get rfl rfl rfl rfl ?_
        refine to_get rfl rfl rfl rfl ?_
        refine to_n 1 (fr' := (34, [(0, .ref 0), (1, .int (nI i))], [.int (nI i), .ref 11], gh S a b sc1 ar1 lo, ex, 0, 0)) rfl ?_
        refine to_ialR (i := i) (v := ((ar1 11) i)) rfl (by decide) rfl (by omega) (by omega) rfl ?_
        refine to_n 1 (fr' := (36, [(0, .ref 0), (1, .int (nI i))], [.int (-1), .int ((ar1 11) i)], gh S a b sc1 ar1 lo, ex, 0, 0)) rfl ?_
        refine to_ic_ne (t := 44) rfl (fun q3 => ?_) (fun q3 => ?_)
        · refine to_n 1 (fr' := (47, [(0, .ref 0), (1, .int ((nI i) + 1))], [], gh S a b sc1 ar1 lo, ex, 0, 0)) rfl ?_
          rw [nI_1 i]
          refine to_n 1 (fr' := (2, [(0, .ref 0), (1, .int (nI (i + 1)))], [], gh S a b sc1 ar1 lo, ex, 0, 0)) rfl ?_
          exact ih (i + 1) sc1 ar1 (by omega) (zit_s hc2_0 (zgrs_n (fun w => q3 w.2))) hI1 hF1
        · refine to_n 2 (fr' := (41, [(0, .ref 0), (1, .int (nI i))], [.int (nI i), .ref 0], gh S a b sc1 ar1 lo, ex, 0, 0)) rfl ?_
          refine to_cv (q := 96) (M1 := an_X9_giveRoof) (rest := []) rfl rfl (by decide) rfl ⟨_, rfl⟩ (sf_X9_giveRoof hW hI1 n (by omega) i (by omega) (gd_fr hg hF1 (by decide) (by decide) (by decide)) ((hF1.1 1308 (by decide)).trans en) d) (fun sc4 ar4 hx4 => ?_)
          obtain ⟨hI4, hG4, hx4⟩ := hx4
          have hF4 := fr_t hF1 hG4 (by decide) (by decide)
          simp only [show ar1 17 = ar 17 from hF1.2 17 (by decide), show ar1 16 = ar 16 from hF1.2 16 (by decide)] at hx4
          refine to_eq (fr' := (44, [(0, .ref 0), (1, .int (nI i))], [], gh S a b sc4 ar4 lo, ex, 0, 0)) rfl ?_
          refine to_n 1 (fr' := (47, [(0, .ref 0), (1, .int ((nI i) + 1))], [], gh S a b sc4 ar4 lo, ex, 0, 0)) rfl ?_
          rw [nI_1 i]
          refine to_n 1 (fr' := (2, [(0, .ref 0), (1, .int (nI (i + 1)))], [], gh S a b sc4 ar4 lo, ex, 0, 0)) rfl ?_
          exact ih (i + 1) sc4 ar4 (by omega) (zit_s hc2_0 (zgrs_y q2 q3 hx4)) hI4 hF4
  refine to_n 2 (fr' := (2, [(0, .ref 0), (1, .int 0)], [], gh S a b sc ar lo, ex, 0, 0)) rfl ?_
  exact c2 (S - 0) 0 sc ar (by omega) rfl hI hF
set_option maxRecDepth 20000 in
theorem sf_X9_crewsGo {X : Nat × (Nat → Int32)} {S a b : Nat} {sc : Nat → Int32} {ar : Nat → Nat → Int32} {lo : Nat → Int64} {ex : Bool} (hW : Wd S a b) (hI : Iv S sc ar) (n : Nat) (enb : n < 9) (hg : Gd S a b ar) (en : sc 1308 = nI n) (d : Nat)  : cv X S a b (d + 5) 94 [.ref 0] sc ar lo ex (fun sc' ar' => Iv S sc' ar' ∧ Fr [3603] [16, 37, 38] sc ar sc' ar' ∧ ar' 16 = zpw (zgoW S a (ar 5) (ar 17) (ar 16)) (ar 16) n) := by
  obtain ⟨ha1, ha8, hb1, hb8, hab, hS1, hS⟩ := id hW
  refine cv_of (M := an_X9_crewsGo) rfl (Nat.le_of_ble_eq_true rfl) ?_
  have hF : Fr [3603] [16, 37, 38] sc ar sc ar := fr_0
  refine to_eq (fr' := (0, [(0, .ref 0)], [], gh S a b sc ar lo, ex, 0, 0)) rfl ?_
  have c2 : ∀ m : Nat, ∀ (i : Nat) (sc1 : Nat → Int32) (ar1 : Nat → Nat → Int32), i + m = n → ar1 16 = zpw (zgoW S a (ar 5) (ar 17) (ar 16)) (ar 16) i → Iv S sc1 ar1 → Fr [3603] [16, 37, 38] sc ar sc1 ar1 → ag_To X (d + 4) an_X9_crewsGo (2, [(0, .ref 0), (1, .int (nI i))], [], gh S a b sc1 ar1 lo, ex, 0, 0) (qv S a b lo ex (fun sc' ar' => Iv S sc' ar' ∧ Fr [3603] [16, 37, 38] sc ar sc' ar' ∧ ar' 16 = zpw (zgoW S a (ar 5) (ar 17) (ar 16)) (ar 16) n)) := by
    intro m
    induction m with
    | zero =>
      intro i sc1 ar1 hm hc2_0 hI1 hF1
      refine to_n 2 (fr' := (4, [(0, .ref 0), (1, .int (nI i))], [.ref 0, .int (nI i)], gh S a b sc1 ar1 lo, ex, 0, 0)) rfl ?_
      refine to_get rfl rfl rfl rfl ?_
      refine to_getR (v := (nI n)) rfl rfl rfl rfl ((hF1.1 1308 (by decide)).trans en) ?_
      refine to_nc_ge_T (t := 80) (x := i) (y := n) rfl (by omega) (by omega) (by omega) ?_
      exact to_rt (i := .return_) (tg := []) rfl rfl ⟨_, _, ⟨hI1, hF1, (by rw [show n = i by omega]; exact hc2_0)⟩, rfl⟩
    | succ m ih =>
      intro i sc1 ar1 hm hc2_0 hI1 hF1
      refine to_n 2 (fr' := (4, [(0, .ref 0), (1, .int (nI i))], [.ref 0, .int (nI i)], gh S a b sc1 ar1 lo, ex, 0, 0)) rfl ?_
      refine to_get rfl rfl rfl rfl ?_
      refine to_getR (v := (nI n)) rfl rfl rfl rfl ((hF1.1 1308 (by decide)).trans en) ?_
      refine to_nc_ge_F (t := 80) (x := i) (y := n) rfl (by omega) (by omega) (by omega) ?_
      refine to_n 1 (fr' := (14, [(0, .ref 0), (1, .int (nI i))], [.ref 0], gh S a b sc1 ar1 lo, ex, 0, 0)) rfl ?_
      refine to_get rfl rfl rfl rfl ?_
      refine to_get rfl rfl rfl rfl ?_
      refine to_n 1 (fr' := (21, [(0, .ref 0), (1, .int (nI i))], [.int (nI i), .ref 17], gh S a b sc1 ar1 lo, ex, 0, 0)) rfl ?_
      rcases iv_a17 hI i with e2 | ⟨n2, hn2, e2⟩
      · refine to_ialR (i := i) (v := (-1)) rfl (by decide) rfl (by omega) (by omega) ((congrFun (hF1.2 17 (by decide)) i).trans e2) ?_
        refine to_n 5 (fr' := (77, [(0, .ref 0), (1, .int ((nI i) + 1)), (2, .int (-1))], [], gh S a b sc1 ar1 lo, ex, 0, 0)) rfl ?_
        rw [nI_1 i]
        refine to_n 1 (fr' := (2, [(0, .ref 0), (1, .int (nI (i + 1))), (2, .int (-1))], [], gh S a b sc1 ar1 lo, ex, 0, 0)) rfl ?_
        refine to_lv (lv := [(0, .ref 0), (1, .int (nI (i + 1)))]) rfl ⟨rfl, rfl, trivial⟩ ?_
        exact ih (i + 1) sc1 ar1 (by omega) (zpw_k hc2_0 (zgw_0 e2)) hI1 hF1
      · refine to_ialR (i := i) (v := (nI n2)) rfl (by decide) rfl (by omega) (by omega) ((congrFun (hF1.2 17 (by decide)) i).trans e2) ?_
        refine to_n 3 (fr' := (25, [(0, .ref 0), (1, .int (nI i)), (2, .int (nI n2))], [.int (-1), .int (nI n2)], gh S a b sc1 ar1 lo, ex, 0, 0)) rfl ?_
        refine to_ic_eq_F (t := 74) (x := (nI n2)) (y := (-1)) rfl (nI_neg (by omega) (by decide)) ?_
        refine to_n 1 (fr' := (29, [(0, .ref 0), (1, .int (nI i)), (2, .int (nI n2))], [.ref 0], gh S a b sc1 ar1 lo, ex, 0, 0)) rfl ?_
        refine to_get rfl rfl rfl rfl ?_
        refine to_n 1 (fr' := (33, [(0, .ref 0), (1, .int (nI i)), (2, .int (nI n2))], [.ref 0, .ref 1], gh S a b sc1 ar1 lo, ex, 0, 0)) rfl ?_
        refine to_get rfl rfl rfl rfl ?_
        refine to_get rfl rfl rfl rfl ?_
        refine to_n 1 (fr' := (40, [(0, .ref 0), (1, .int (nI i)), (2, .int (nI n2))], [.int (nI i), .ref 16, .ref 1], gh S a b sc1 ar1 lo, ex, 0, 0)) rfl ?_
        obtain ⟨n3, hn3, e3⟩ := iv_a16 hI1 i
        refine to_ialR (i := i) (v := (nI n3)) rfl (by decide) rfl (by omega) (by omega) e3 ?_
        refine to_n 1 (fr' := (42, [(0, .ref 0), (1, .int (nI i)), (2, .int (nI n2))], [.int (nI n2), .int (nI n3), .ref 1], gh S a b sc1 ar1 lo, ex, 0, 0)) rfl ?_
        refine to_cp (q := 4) (M1 := an_X0_areBeside) (rest := []) rfl rfl (by decide) rfl ⟨_, rfl⟩ (sf_X0_areBeside hW hI1 n3 (by omega) n2 (by omega) (gd_fr hg hF1 (by decide) (by decide) (by decide)) (d + 2)) (fun x4 hx4 => ?_)
        rcases hx4 with ⟨rfl, w4⟩ | ⟨rfl, w4⟩
        · refine to_eq (fr' := (45, [(0, .ref 0), (1, .int (nI i)), (2, .int (nI n2))], [.int 1], gh S a b sc1 ar1 lo, ex, 0, 0)) rfl ?_
          refine to_n 2 (fr' := (77, [(0, .ref 0), (1, .int ((nI i) + 1)), (2, .int (nI n2))], [], gh S a b sc1 ar1 lo, ex, 0, 0)) rfl ?_
          rw [nI_1 i]
          refine to_n 1 (fr' := (2, [(0, .ref 0), (1, .int (nI (i + 1))), (2, .int (nI n2))], [], gh S a b sc1 ar1 lo, ex, 0, 0)) rfl ?_
          refine to_lv (lv := [(0, .ref 0), (1, .int (nI (i + 1)))]) rfl ⟨rfl, rfl, trivial⟩ ?_
          exact ih (i + 1) sc1 ar1 (by omega) (zpw_k hc2_0 (zgw_1 e2 ((zpw_at hc2_0).symm.trans e3) (by omega) (by omega) w4)) hI1 hF1
        · refine to_eq (fr' := (45, [(0, .ref 0), (1, .int (nI i)), (2, .int (nI n2))], [.int 0], gh S a b sc1 ar1 lo, ex, 0, 0)) rfl ?_
          refine to_n 2 (fr' := (49, [(0, .ref 0), (1, .int (nI i)), (2, .int (nI n2))], [.ref 0], gh S a b sc1 ar1 lo, ex, 0, 0)) rfl ?_
          refine to_get rfl rfl rfl rfl ?_
          refine to_get rfl rfl rfl rfl ?_
          refine to_n 2 (fr' := (57, [(0, .ref 0), (1, .int (nI i)), (2, .int (nI n2))], [.ref 0, .int (nI i), .ref 16], gh S a b sc1 ar1 lo, ex, 0, 0)) rfl ?_
          refine to_get rfl rfl rfl rfl ?_
          refine to_n 1 (fr' := (61, [(0, .ref 0), (1, .int (nI i)), (2, .int (nI n2))], [.ref 0, .ref 36, .int (nI i), .ref 16], gh S a b sc1 ar1 lo, ex, 0, 0)) rfl ?_
          refine to_get rfl rfl rfl rfl ?_
          refine to_get rfl rfl rfl rfl ?_
          refine to_n 1 (fr' := (68, [(0, .ref 0), (1, .int (nI i)), (2, .int (nI n2))], [.int (nI i), .ref 16, .ref 36, .int (nI i), .ref 16], gh S a b sc1 ar1 lo, ex, 0, 0)) rfl ?_
          refine to_ialR (i := i) (v := (nI n3)) rfl (by decide) rfl (by omega) (by omega) e3 ?_
          refine to_n 1 (fr' := (70, [(0, .ref 0), (1, .int (nI i)), (2, .int (nI n2))], [.int (nI n2), .int (nI n3), .ref 36, .int (nI i), .ref 16], gh S a b sc1 ar1 lo, ex, 0, 0)) rfl ?_
          refine to_ci (q := 69) (M1 := an_X8_stepTowards) (rest := [.int (nI i), .ref 16]) rfl rfl (by decide) rfl ⟨_, rfl⟩ (sf_X8_stepTowards hW hI1 n3 (by omega) n2 (by omega) (gd_fr hg hF1 (by decide) (by decide) (by decide)) d) (fun x5 sc5 ar5 hx5 => ?_)
          obtain ⟨hI5, hG5, hx5⟩ := hx5
          have hF5 := fr_t hF1 hG5 (by decide) (by decide)
          simp only [show ar1 5 = ar 5 from hF1.2 5 (by decide)] at hx5
          obtain ⟨hx5, hp5⟩ := hx5
          obtain ⟨n5, hn5, rfl⟩ := hx5
          refine to_eq (fr' := (73, [(0, .ref 0), (1, .int (nI i)), (2, .int (nI n2))], [.int (nI n5), .int (nI i), .ref 16], gh S a b sc5 ar5 lo, ex, 0, 0)) rfl ?_
          refine to_iasR (i := i) (h' := gh S a b sc5 (uA ar5 16 (upd (ar5 16) i (nI n5))) lo) rfl rfl (by omega) (by omega) rfl ?_
          have hI6 := ia_16 (i := i) (v := (nI n5)) hI5 (rl_n (n := n5) (by omega))
          have hF6 := fr_a (c := 16) (g := (upd (ar5 16) i (nI n5))) hF5 (by decide)
          refine to_n 1 (fr' := (77, [(0, .ref 0), (1, .int ((nI i) + 1)), (2, .int (nI n2))], [], gh S a b sc5 (uA ar5 16 (upd (ar5 16) i (nI n5))) lo, ex, 0, 0)) rfl ?_
          rw [nI_1 i]
          refine to_n 1 (fr' := (2, [(0, .ref 0), (1, .int (nI (i + 1))), (2, .int (nI n2))], [], gh S a b sc5 (uA ar5 16 (upd (ar5 16) i (nI n5))) lo, ex, 0, 0)) rfl ?_
          refine to_lv (lv := [(0, .ref 0), (1, .int (nI (i + 1)))]) rfl ⟨rfl, rfl, trivial⟩ ?_
          exact ih (i + 1) sc5 (uA ar5 16 (upd (ar5 16) i (nI n5))) (by omega) (by rw [show (uA ar5 16 (upd (ar5 16) i (nI n5))) 16 = upd (ar1 16) i (nI n5) from (by rw [uA_s, hG5.2 16 (by decide)])]; exact zpw_u hc2_0 (hp5.trans (zgw_2 e2 ((zpw_at hc2_0).symm.trans e3) (by omega) (by omega) w4))) hI6 hF6
  refine to_n 2 (fr' := (2, [(0, .ref 0), (1, .int 0)], [], gh S a b sc ar lo, ex, 0, 0)) rfl ?_
  exact c2 (n - 0) 0 sc ar (by omega) zpw_0 hI hF
set_option maxRecDepth 20000 in
theorem sf_X9_passHour {X : Nat × (Nat → Int32)} {S a b : Nat} {sc : Nat → Int32} {ar : Nat → Nat → Int32} {lo : Nat → Int64} {ex : Bool} (hW : Wd S a b) (hI : Iv S sc ar) (n : Nat) (enb : n < 9) (h : Nat) (ehb : h < 2401) (l0 : Nat) (el0b : l0 < 7) (hh0 : h < 2400) (hg : Gd S a b ar) (hB : zBk l0 (ar 30) (ar 31)) (en : sc 1308 = nI n) (eh : sc 11 = nI h) (el0 : sc 2903 = nI l0) (d : Nat)  : cv X S a b (d + 7) 93 [.ref 0] sc ar lo ex (fun sc' ar' => Iv S sc' ar' ∧ Fr [9, 11, 3300, 3301, 3304, 3603] [5, 8, 9, 10, 11, 16, 17, 18, 19, 20, 21, 34, 35, 37, 38, 48] sc ar sc' ar' ∧ (sc' 11 = nI (h + 1) ∧ zV ar' = zvH S a b n l0 h (sc 112) (ar 30) (ar 31) (ar 32) (zV ar))) := by
  obtain ⟨ha1, ha8, hb1, hb8, hab, hS1, hS⟩ := id hW
  refine cv_of (M := an_X9_passHour) rfl (Nat.le_of_ble_eq_true rfl) ?_
  have hF : Fr [9, 11, 3300, 3301, 3304, 3603] [5, 8, 9, 10, 11, 16, 17, 18, 19, 20, 21, 34, 35, 37, 38, 48] sc ar sc ar := fr_0
  refine to_eq (fr' := (0, [(0, .ref 0)], [], gh S a b sc ar lo, ex, 0, 0)) rfl ?_
  refine to_n 1 (fr' := (1, [(0, .ref 0)], [.ref 0], gh S a b sc ar lo, ex, 0, 0)) rfl ?_
  refine to_cv (q := 94) (M1 := an_X9_crewsGo) (rest := []) rfl rfl (by decide) rfl ⟨_, rfl⟩ (sf_X9_crewsGo hW hI n (by omega) (gd_fr hg hF (by decide) (by decide) (by decide)) ((hF.1 1308 (by decide)).trans en) (d + 1)) (fun sc1 ar1 hx1 => ?_)
  obtain ⟨hI1, hG1, hx1⟩ := hx1
  have hF1 := fr_t hF hG1 (by decide) (by decide)
  have k1_11 : sc1 11 = (nI h) := (hG1.1 11 (by decide)).trans eh
  have V1 : zV ar1 = zvGo S a n (zV ar) := zV_ext (zr_all (P := fun r => ar1 r = zvGo S a n (zV ar) r) (hG1.2 5 (by decide)) (hG1.2 6 (by decide)) (hG1.2 7 (by decide)) (hG1.2 8 (by decide)) (hG1.2 9 (by decide)) (hG1.2 10 (by decide)) (hG1.2 11 (by decide)) (hG1.2 12 (by decide)) (hG1.2 14 (by decide)) (hG1.2 15 (by decide)) hx1 (hG1.2 17 (by decide)) (hG1.2 18 (by decide)) (hG1.2 19 (by decide)) (hG1.2 20 (by decide)) (hG1.2 21 (by decide))) (zv0_u (zv0_V) rfl)
  refine to_eq (fr' := (4, [(0, .ref 0)], [], gh S a b sc1 ar1 lo, ex, 0, 0)) rfl ?_
  refine to_n 1 (fr' := (5, [(0, .ref 0)], [.ref 0], gh S a b sc1 ar1 lo, ex, 0, 0)) rfl ?_
  refine to_cv (q := 95) (M1 := an_X9_giveRoofs) (rest := []) rfl rfl (by decide) rfl ⟨_, rfl⟩ (sf_X9_giveRoofs hW hI1 n (by omega) (gd_fr hg hF1 (by decide) (by decide) (by decide)) ((hF1.1 1308 (by decide)).trans en) (d + 2)) (fun sc2 ar2 hx2 => ?_)
  obtain ⟨hI2, hG2, hx2⟩ := hx2
  have hF2 := fr_t hF1 hG2 (by decide) (by decide)
  have k2_11 : sc2 11 = (nI h) := (hG2.1 11 (by decide)).trans k1_11
  have V2 : zV ar2 = zvRo S a n (zV ar1) := zV_ext (zr_all (P := fun r => ar2 r = zvRo S a n (zV ar1) r) (hG2.2 5 (by decide)) (hG2.2 6 (by decide)) (hG2.2 7 (by decide)) (hG2.2 8 (by decide)) (hG2.2 9 (by decide)) (hG2.2 10 (by decide)) (congrArg (fun z => z.1) hx2) (hG2.2 12 (by decide)) (hG2.2 14 (by decide)) (hG2.2 15 (by decide)) (hG2.2 16 (by decide)) (hG2.2 17 (by decide)) (hG2.2 18 (by decide)) (hG2.2 19 (by decide)) (congrArg (fun z => z.2) hx2) (hG2.2 21 (by decide))) (zv0_u (zv0_u (zv0_V) rfl) rfl)
  refine to_eq (fr' := (8, [(0, .ref 0)], [], gh S a b sc2 ar2 lo, ex, 0, 0)) rfl ?_
  refine to_n 1 (fr' := (9, [(0, .ref 0)], [.ref 0], gh S a b sc2 ar2 lo, ex, 0, 0)) rfl ?_
  refine to_cv (q := 97) (M1 := an_X9_crewsWork) (rest := []) rfl rfl (by decide) rfl ⟨_, rfl⟩ (sf_X9_crewsWork hW hI2 n (by omega) (gd_fr hg hF2 (by decide) (by decide) (by decide)) ((hF2.1 1308 (by decide)).trans en) (d + 3)) (fun sc3 ar3 hx3 => ?_)
  obtain ⟨hI3, hG3, hx3⟩ := hx3
  have hF3 := fr_t hF2 hG3 (by decide) (by decide)
  have k3_11 : sc3 11 = (nI h) := (hG3.1 11 (by decide)).trans k2_11
  have V3 : zV ar3 = zvWk S a n (zV ar2) := zV_ext (zr_all (P := fun r => ar3 r = zvWk S a n (zV ar2) r) (congrArg (fun z => z.1) hx3) (hG3.2 6 (by decide)) (hG3.2 7 (by decide)) (congrArg (fun z => z.2.1) hx3) (hG3.2 9 (by decide)) (congrArg (fun z => z.2.2.1) hx3) (hG3.2 11 (by decide)) (hG3.2 12 (by decide)) (hG3.2 14 (by decide)) (hG3.2 15 (by decide)) (hG3.2 16 (by decide)) (congrArg (fun z => z.2.2.2.1) hx3) (congrArg (fun z => z.2.2.2.2) hx3) (hG3.2 19 (by decide)) (hG3.2 20 (by decide)) (hG3.2 21 (by decide))) (zv0_u (zv0_u (zv0_u (zv0_u (zv0_u (zv0_V) rfl) rfl) rfl) rfl) rfl)
  refine to_eq (fr' := (12, [(0, .ref 0)], [], gh S a b sc3 ar3 lo, ex, 0, 0)) rfl ?_
  refine to_n 1 (fr' := (13, [(0, .ref 0)], [.ref 0], gh S a b sc3 ar3 lo, ex, 0, 0)) rfl ?_
  refine to_cv (q := 99) (M1 := an_X9_fireEats) (rest := []) rfl rfl (by decide) rfl ⟨_, rfl⟩ (sf_X9_fireEats hW hI3 n (by omega) h (by omega) l0 (by omega) (gd_fr hg hF3 (by decide) (by decide) (by decide)) (zbk_fr hB hF3 (by decide) (by decide)) ((hF3.1 1308 (by decide)).trans en) k3_11 ((hF3.1 2903 (by decide)).trans el0) d) (fun sc4 ar4 hx4 => ?_)
  obtain ⟨hI4, hG4, hx4⟩ := hx4
  have hF4 := fr_t hF3 hG4 (by decide) (by decide)
  have k4_11 : sc4 11 = (nI h) := (hG4.1 11 (by decide)).trans k3_11
  simp only [show ar3 30 = ar 30 from hF3.2 30 (by decide), show ar3 31 = ar 31 from hF3.2 31 (by decide), show ar3 32 = ar 32 from hF3.2 32 (by decide)] at hx4
  have V4 : zV ar4 = zvBu S a n l0 h (ar 30) (ar 31) (ar 32) (zV ar3) := zV_ext (zr_all (P := fun r => ar4 r = zvBu S a n l0 h (ar 30) (ar 31) (ar 32) (zV ar3) r) (congrArg (fun z => z.1) hx4) (hG4.2 6 (by decide)) (hG4.2 7 (by decide)) (congrArg (fun z => z.2.1) hx4) (congrArg (fun z => z.2.2.1) hx4) (congrArg (fun z => z.2.2.2.1) hx4) (congrArg (fun z => z.2.2.2.2.1) hx4) (hG4.2 12 (by decide)) (hG4.2 14 (by decide)) (hG4.2 15 (by decide)) (hG4.2 16 (by decide)) (congrArg (fun z => z.2.2.2.2.2.1) hx4) (congrArg (fun z => z.2.2.2.2.2.2.1) hx4) (congrArg (fun z => z.2.2.2.2.2.2.2.1) hx4) (hG4.2 20 (by decide)) (congrArg (fun z => z.2.2.2.2.2.2.2.2) hx4)) (zB9_0 zv0_V)
  refine to_eq (fr' := (16, [(0, .ref 0)], [], gh S a b sc4 ar4 lo, ex, 0, 0)) rfl ?_
  refine to_n 2 (fr' := (18, [(0, .ref 0)], [.ref 0, .ref 0], gh S a b sc4 ar4 lo, ex, 0, 0)) rfl ?_
  refine to_get rfl rfl rfl rfl ?_
  refine to_n 1 (fr' := (22, [(0, .ref 0)], [.ref 0, .ref 1, .ref 0], gh S a b sc4 ar4 lo, ex, 0, 0)) rfl ?_
  refine to_get rfl rfl rfl rfl ?_
  refine to_ci (q := 10) (M1 := an_X0_warmUp) (rest := [.ref 0]) rfl rfl (by decide) rfl ⟨_, rfl⟩ (sf_X0_warmUp hW hI4 (gd_fr hg hF4 (by decide) (by decide) (by decide)) (d + 2)) (fun x5 sc5 ar5 hx5 => ?_)
  obtain ⟨hI5, hG5, hx5⟩ := hx5
  have hF5 := fr_t hF4 hG5 (by decide) (by decide)
  have k5_11 : sc5 11 = (nI h) := (hG5.1 11 (by decide)).trans k4_11
  obtain ⟨hx5, hp5⟩ := hx5
  obtain ⟨n5, hn5, rfl⟩ := hx5
  rw [hF4.1 112 (by decide)] at hp5
  obtain ⟨w5_9, w5_5, f5, hf5, ef5, hz5⟩ := hp5
  have V5 : zV ar5 = zvWa S a b (sc 112) (zV ar4) := zV_ext (zr_all (P := fun r => ar5 r = zvWa S a b (sc 112) (zV ar4) r) w5_5 (hG5.2 6 (by decide)) (hG5.2 7 (by decide)) (hG5.2 8 (by decide)) w5_9 (hG5.2 10 (by decide)) (hG5.2 11 (by decide)) (hG5.2 12 (by decide)) (hG5.2 14 (by decide)) (hG5.2 15 (by decide)) (hG5.2 16 (by decide)) (hG5.2 17 (by decide)) (hG5.2 18 (by decide)) (hG5.2 19 (by decide)) (hG5.2 20 (by decide)) (hG5.2 21 (by decide))) (zv0_u (zv0_u (zv0_V) rfl) rfl)
  refine to_eq (fr' := (28, [(0, .ref 0)], [.int (nI n5), .ref 0], gh S a b sc5 ar5 lo, ex, 0, 0)) rfl ?_
  refine to_putR (h' := gh S a b (upd sc5 9 (nI n5)) ar5 lo) rfl rfl rfl (Nat.le_of_ble_eq_true rfl) rfl rfl ?_
  have hI6 := ip_9 (v := (nI n5)) hI5 
  have hF6 := fr_s (k := 9) (v := (nI n5)) hF5 (by decide)
  refine to_n 1 (fr' := (32, [(0, .ref 0)], [.ref 0], gh S a b (upd sc5 9 (nI n5)) ar5 lo, ex, 0, 0)) rfl ?_
  refine to_cv (q := 102) (M1 := an_X9_ringBells) (rest := []) rfl rfl (by decide) rfl ⟨_, rfl⟩ (sf_X9_ringBells hW hI6 n (by omega) h (by omega) l0 (by omega) f5 (by omega) hf5 (gd_fr hg hF6 (by decide) (by decide) (by decide)) (zbk_fr hB hF6 (by decide) (by decide)) ((hF6.1 1308 (by decide)).trans en) k5_11 ((hF6.1 2903 (by decide)).trans el0) ef5 d) (fun sc7 ar7 hx7 => ?_)
  obtain ⟨hI7, hG7, hx7⟩ := hx7
  have hF7 := fr_t hF6 hG7 (by decide) (by decide)
  have k7_11 : sc7 11 = (nI h) := (hG7.1 11 (by decide)).trans k5_11
  simp only [show ar5 30 = ar 30 from hF6.2 30 (by decide), show ar5 31 = ar 31 from hF6.2 31 (by decide), show ar5 32 = ar 32 from hF6.2 32 (by decide)] at hx7
  have e7_1 := hx7.1
  have e7_2 := hx7.2
  rw [hz5.1, zfB_eq hz5 S (Nat.le_refl _), zrB_eq hS hz5 S (Nat.le_refl _)] at e7_1
  rw [hz5.1, zfB_eq hz5 S (Nat.le_refl _)] at e7_2
  have V7 : zV ar7 = zvRi S a n l0 h (ar 30) (ar 31) (ar 32) (zbr S a b (sc 112) (zV ar4 5) (zV ar4 9)) (zV ar5) := zV_ext (zr_all (P := fun r => ar7 r = zvRi S a n l0 h (ar 30) (ar 31) (ar 32) (zbr S a b (sc 112) (zV ar4 5) (zV ar4 9)) (zV ar5) r) (hG7.2 5 (by decide)) (hG7.2 6 (by decide)) (hG7.2 7 (by decide)) (hG7.2 8 (by decide)) (hG7.2 9 (by decide)) (hG7.2 10 (by decide)) (hG7.2 11 (by decide)) (hG7.2 12 (by decide)) (hG7.2 14 (by decide)) (hG7.2 15 (by decide)) (hG7.2 16 (by decide)) e7_1 e7_2 (hG7.2 19 (by decide)) (hG7.2 20 (by decide)) (hG7.2 21 (by decide))) (zv0_u (zv0_u (zv0_V) rfl) rfl)
  refine to_eq (fr' := (35, [(0, .ref 0)], [], gh S a b sc7 ar7 lo, ex, 0, 0)) rfl ?_
  refine to_n 2 (fr' := (37, [(0, .ref 0)], [.ref 0, .ref 0], gh S a b sc7 ar7 lo, ex, 0, 0)) rfl ?_
  refine to_getR (v := (nI h)) rfl rfl rfl rfl k7_11 ?_
  refine to_n 1 (fr' := (41, [(0, .ref 0)], [.int 1, .int (nI h), .ref 0], gh S a b sc7 ar7 lo, ex, 0, 0)) rfl ?_
  refine to_addN (x := h) (y := 1) rfl ?_
  refine to_putR (h' := gh S a b (upd sc7 11 (nI (h + 1))) ar7 lo) rfl rfl rfl (Nat.le_of_ble_eq_true rfl) rfl rfl ?_
  have hI8 := ip_11 (v := (nI (h + 1))) hI7 (rl_n (n := (h + 1)) (by omega))
  have hF8 := fr_s (k := 11) (v := (nI (h + 1))) hF7 (by decide)
  exact to_rt (i := .return_) (tg := []) rfl rfl ⟨_, _, ⟨hI8, hF8, ⟨rfl, (by rw [V7, V5, V4, V3, V2, V1]; rfl)⟩⟩, rfl⟩
