/-! Tokens, LawReader -/
set_option maxRecDepth 20000 in
theorem sf_X7_wordIs {X : Nat × (Nat → Int32)} {S a b : Nat} {sc : Nat → Int32} {ar : Nat → Nat → Int32} {lo : Nat → Int64} {ex : Bool} (hW : Wd S a b) (hI : Iv S sc ar) (i : Nat) (hi : i < 35) (k1 : Nat) (hk1 : k1 < 401) (d : Nat)  : cp X S a b (d + 1) 66 [.ref 26, .ref (1000001 + i), .int (nI k1)] sc ar lo ex (fun x => rl x 2) := by
  obtain ⟨ha1, ha8, hb1, hb8, hab, hS1, hS⟩ := id hW
  have hlen := vs_txl i hi
  refine cp_of (M := an_X7_wordIs) rfl (Nat.le_of_ble_eq_true rfl) ?_
  refine to_eq (fr' := (0, [(0, .ref 26), (1, .ref (1000001 + i)), (2, .int (nI k1))], [], gh S a b sc ar lo, ex, 0, 0)) rfl ?_
  have c17 : ∀ m : Nat, ∀ (j : Nat) , j + m = (ai_tx i).length → k1 + (ai_tx i).length ≤ 400 → ag_To X d an_X7_wordIs (17, [(0, .ref 26), (1, .ref (1000001 + i)), (2, .int (nI k1)), (3, .int (nI j))], [], gh S a b sc ar lo, ex, 0, 0) (qp S a b sc ar lo ex (fun x => rl x 2)) := by
    intro m
    induction m with
    | zero =>
      intro j hm hc17_0
      refine to_n 2 (fr' := (19, [(0, .ref 26), (1, .ref (1000001 + i)), (2, .int (nI k1)), (3, .int (nI j))], [.ref (1000001 + i), .int (nI j)], gh S a b sc ar lo, ex, 0, 0)) rfl ?_
      refine to_slen (i := i) rfl rfl (by omega) (Nat.le_of_ble_eq_true rfl) ?_
      refine to_nc_ge_T (t := 49) (x := j) (y := ((ai_tx i).length)) rfl (by omega) (by omega) (by omega) ?_
      refine to_n 1 (fr' := (50, [(0, .ref 26), (1, .ref (1000001 + i)), (2, .int (nI k1)), (3, .int (nI j))], [.int 1], gh S a b sc ar lo, ex, 0, 0)) rfl ?_
      exact to_rt (i := .ireturn) (tg := []) rfl rfl ⟨_, rl_n (n := 1) (by omega), rfl⟩
    | succ m ih =>
      intro j hm hc17_0
      refine to_n 2 (fr' := (19, [(0, .ref 26), (1, .ref (1000001 + i)), (2, .int (nI k1)), (3, .int (nI j))], [.ref (1000001 + i), .int (nI j)], gh S a b sc ar lo, ex, 0, 0)) rfl ?_
      refine to_slen (i := i) rfl rfl (by omega) (Nat.le_of_ble_eq_true rfl) ?_
      refine to_nc_ge_F (t := 49) (x := j) (y := ((ai_tx i).length)) rfl (by omega) (by omega) (by omega) ?_
      refine to_n 1 (fr' := (26, [(0, .ref 26), (1, .ref (1000001 + i)), (2, .int (nI k1)), (3, .int (nI j))], [.ref 26], gh S a b sc ar lo, ex, 0, 0)) rfl ?_
      refine to_get rfl rfl rfl rfl ?_
      refine to_n 2 (fr' := (31, [(0, .ref 26), (1, .ref (1000001 + i)), (2, .int (nI k1)), (3, .int (nI j))], [.int (nI j), .int (nI k1), .ref 23], gh S a b sc ar lo, ex, 0, 0)) rfl ?_
      refine to_addN (x := k1) (y := j) rfl ?_
      refine to_balR (i := (k1 + j)) (v := ((ar 23) (k1 + j))) rfl rfl (by omega) (by omega) rfl ?_
      refine to_n 2 (fr' := (35, [(0, .ref 26), (1, .ref (1000001 + i)), (2, .int (nI k1)), (3, .int (nI j))], [.int (nI j), .ref (1000001 + i), .int ((ar 23) (k1 + j))], gh S a b sc ar lo, ex, 0, 0)) rfl ?_
      refine to_schr (i := i) (j := j) rfl rfl (by omega) (by omega) (Nat.le_of_ble_eq_true rfl) ?_
      refine to_ic_eq (t := 43) rfl (fun q2 => ?_) (fun q2 => ?_)
      · refine to_n 1 (fr' := (46, [(0, .ref 26), (1, .ref (1000001 + i)), (2, .int (nI k1)), (3, .int ((nI j) + 1))], [], gh S a b sc ar lo, ex, 0, 0)) rfl ?_
        rw [nI_1 j]
        refine to_n 1 (fr' := (17, [(0, .ref 26), (1, .ref (1000001 + i)), (2, .int (nI k1)), (3, .int (nI (j + 1)))], [], gh S a b sc ar lo, ex, 0, 0)) rfl ?_
        exact ih (j + 1) (by omega) (by omega)
      · refine to_n 1 (fr' := (42, [(0, .ref 26), (1, .ref (1000001 + i)), (2, .int (nI k1)), (3, .int (nI j))], [.int 0], gh S a b sc ar lo, ex, 0, 0)) rfl ?_
        exact to_rt (i := .ireturn) (tg := []) rfl rfl ⟨_, rl_n (n := 0) (by omega), rfl⟩
  refine to_n 1 (fr' := (1, [(0, .ref 26), (1, .ref (1000001 + i)), (2, .int (nI k1))], [.ref (1000001 + i)], gh S a b sc ar lo, ex, 0, 0)) rfl ?_
  refine to_slen (i := i) rfl rfl (by omega) (Nat.le_of_ble_eq_true rfl) ?_
  refine to_n 1 (fr' := (5, [(0, .ref 26), (1, .ref (1000001 + i)), (2, .int (nI k1))], [.ref 26, .int (nI ((ai_tx i).length))], gh S a b sc ar lo, ex, 0, 0)) rfl ?_
  obtain ⟨n3, hn3, e3⟩ := iv_s2605 hI
  refine to_getR (v := (nI n3)) rfl rfl rfl rfl e3 ?_
  refine to_n 1 (fr' := (9, [(0, .ref 26), (1, .ref (1000001 + i)), (2, .int (nI k1))], [.int (nI k1), .int (nI n3), .int (nI ((ai_tx i).length))], gh S a b sc ar lo, ex, 0, 0)) rfl ?_
  rcases Nat.lt_or_ge n3 k1 with w4 | w4
  · refine to_n 1 (fr' := (10, [(0, .ref 26), (1, .ref (1000001 + i)), (2, .int (nI k1))], [.int ((nI n3) - (nI k1)), .int (nI ((ai_tx i).length))], gh S a b sc ar lo, ex, 0, 0)) rfl ?_
    refine to_ic_eq_F (t := 15) (x := (nI ((ai_tx i).length))) (y := ((nI n3) - (nI k1))) rfl (nI_neg (n := ((ai_tx i).length)) (by omega) (sub_neg w4 (by omega))) ?_
    refine to_n 1 (fr' := (14, [(0, .ref 26), (1, .ref (1000001 + i)), (2, .int (nI k1))], [.int 0], gh S a b sc ar lo, ex, 0, 0)) rfl ?_
    exact to_rt (i := .ireturn) (tg := []) rfl rfl ⟨_, rl_n (n := 0) (by omega), rfl⟩
  · refine to_subN (x := n3) (y := k1) rfl (by omega) ?_
    refine to_nc_eq (t := 15) (x := ((ai_tx i).length)) (y := (n3 - k1)) rfl (by omega) (by omega) (fun q5 => ?_) (fun q5 => ?_)
    · refine to_n 2 (fr' := (17, [(0, .ref 26), (1, .ref (1000001 + i)), (2, .int (nI k1)), (3, .int 0)], [], gh S a b sc ar lo, ex, 0, 0)) rfl ?_
      exact c17 ((ai_tx i).length - 0) 0 (by omega) (by omega)
    · refine to_n 1 (fr' := (14, [(0, .ref 26), (1, .ref (1000001 + i)), (2, .int (nI k1))], [.int 0], gh S a b sc ar lo, ex, 0, 0)) rfl ?_
      exact to_rt (i := .ireturn) (tg := []) rfl rfl ⟨_, rl_n (n := 0) (by omega), rfl⟩
set_option maxRecDepth 20000 in
theorem sf_X7_letterAt {X : Nat × (Nat → Int32)} {S a b : Nat} {sc : Nat → Int32} {ar : Nat → Nat → Int32} {lo : Nat → Int64} {ex : Bool} (hW : Wd S a b) (hI : Iv S sc ar) (k1 : Nat) (hk1 : k1 < 400) (d : Nat)  : cp X S a b (d + 1) 60 [.ref 26, .int (nI k1)] sc ar lo ex (fun x => rl x 2) := by
  obtain ⟨ha1, ha8, hb1, hb8, hab, hS1, hS⟩ := id hW
  refine cp_of (M := an_X7_letterAt) rfl (Nat.le_of_ble_eq_true rfl) ?_
  refine to_eq (fr' := (0, [(0, .ref 26), (1, .int (nI k1))], [], gh S a b sc ar lo, ex, 0, 0)) rfl ?_
  refine to_n 1 (fr' := (1, [(0, .ref 26), (1, .int (nI k1))], [.ref 26], gh S a b sc ar lo, ex, 0, 0)) rfl ?_
  refine to_get rfl rfl rfl rfl ?_
  refine to_n 1 (fr' := (5, [(0, .ref 26), (1, .int (nI k1))], [.int (nI k1), .ref 23], gh S a b sc ar lo, ex, 0, 0)) rfl ?_
  refine to_balR (i := k1) (v := ((ar 23) k1)) rfl rfl (by omega) (by omega) rfl ?_
  refine to_n 1 (fr' := (8, [(0, .ref 26), (1, .int (nI k1))], [.int 97, .int ((ar 23) k1)], gh S a b sc ar lo, ex, 0, 0)) rfl ?_
  refine to_ic_lt (t := 26) rfl (fun q1 => ?_) (fun q1 => ?_)
  · refine to_n 1 (fr' := (27, [(0, .ref 26), (1, .int (nI k1))], [.int 0], gh S a b sc ar lo, ex, 0, 0)) rfl ?_
    exact to_rt (i := .ireturn) (tg := []) rfl rfl ⟨_, rl_n (n := 0) (by omega), rfl⟩
  · refine to_n 1 (fr' := (12, [(0, .ref 26), (1, .int (nI k1))], [.ref 26], gh S a b sc ar lo, ex, 0, 0)) rfl ?_
    refine to_get rfl rfl rfl rfl ?_
    refine to_n 1 (fr' := (16, [(0, .ref 26), (1, .int (nI k1))], [.int (nI k1), .ref 23], gh S a b sc ar lo, ex, 0, 0)) rfl ?_
    refine to_balR (i := k1) (v := ((ar 23) k1)) rfl rfl (by omega) (by omega) rfl ?_
    refine to_n 1 (fr' := (19, [(0, .ref 26), (1, .int (nI k1))], [.int 122, .int ((ar 23) k1)], gh S a b sc ar lo, ex, 0, 0)) rfl ?_
    refine to_ic_gt (t := 26) rfl (fun q2 => ?_) (fun q2 => ?_)
    · refine to_n 1 (fr' := (27, [(0, .ref 26), (1, .int (nI k1))], [.int 0], gh S a b sc ar lo, ex, 0, 0)) rfl ?_
      exact to_rt (i := .ireturn) (tg := []) rfl rfl ⟨_, rl_n (n := 0) (by omega), rfl⟩
    · refine to_n 2 (fr' := (27, [(0, .ref 26), (1, .int (nI k1))], [.int 1], gh S a b sc ar lo, ex, 0, 0)) rfl ?_
      exact to_rt (i := .ireturn) (tg := []) rfl rfl ⟨_, rl_n (n := 1) (by omega), rfl⟩
set_option maxRecDepth 20000 in
theorem sf_X7_digitAt {X : Nat × (Nat → Int32)} {S a b : Nat} {sc : Nat → Int32} {ar : Nat → Nat → Int32} {lo : Nat → Int64} {ex : Bool} (hW : Wd S a b) (hI : Iv S sc ar) (k1 : Nat) (hk1 : k1 < 400) (d : Nat)  : cp X S a b (d + 1) 61 [.ref 26, .int (nI k1)] sc ar lo ex (fun x => rl x 2) := by
  obtain ⟨ha1, ha8, hb1, hb8, hab, hS1, hS⟩ := id hW
  refine cp_of (M := an_X7_digitAt) rfl (Nat.le_of_ble_eq_true rfl) ?_
  refine to_eq (fr' := (0, [(0, .ref 26), (1, .int (nI k1))], [], gh S a b sc ar lo, ex, 0, 0)) rfl ?_
  refine to_n 1 (fr' := (1, [(0, .ref 26), (1, .int (nI k1))], [.ref 26], gh S a b sc ar lo, ex, 0, 0)) rfl ?_
  refine to_get rfl rfl rfl rfl ?_
  refine to_n 1 (fr' := (5, [(0, .ref 26), (1, .int (nI k1))], [.int (nI k1), .ref 23], gh S a b sc ar lo, ex, 0, 0)) rfl ?_
  refine to_balR (i := k1) (v := ((ar 23) k1)) rfl rfl (by omega) (by omega) rfl ?_
  refine to_n 1 (fr' := (8, [(0, .ref 26), (1, .int (nI k1))], [.int 48, .int ((ar 23) k1)], gh S a b sc ar lo, ex, 0, 0)) rfl ?_
  refine to_ic_lt (t := 26) rfl (fun q1 => ?_) (fun q1 => ?_)
  · refine to_n 1 (fr' := (27, [(0, .ref 26), (1, .int (nI k1))], [.int 0], gh S a b sc ar lo, ex, 0, 0)) rfl ?_
    exact to_rt (i := .ireturn) (tg := []) rfl rfl ⟨_, rl_n (n := 0) (by omega), rfl⟩
  · refine to_n 1 (fr' := (12, [(0, .ref 26), (1, .int (nI k1))], [.ref 26], gh S a b sc ar lo, ex, 0, 0)) rfl ?_
    refine to_get rfl rfl rfl rfl ?_
    refine to_n 1 (fr' := (16, [(0, .ref 26), (1, .int (nI k1))], [.int (nI k1), .ref 23], gh S a b sc ar lo, ex, 0, 0)) rfl ?_
    refine to_balR (i := k1) (v := ((ar 23) k1)) rfl rfl (by omega) (by omega) rfl ?_
    refine to_n 1 (fr' := (19, [(0, .ref 26), (1, .int (nI k1))], [.int 57, .int ((ar 23) k1)], gh S a b sc ar lo, ex, 0, 0)) rfl ?_
    refine to_ic_gt (t := 26) rfl (fun q2 => ?_) (fun q2 => ?_)
    · refine to_n 1 (fr' := (27, [(0, .ref 26), (1, .int (nI k1))], [.int 0], gh S a b sc ar lo, ex, 0, 0)) rfl ?_
      exact to_rt (i := .ireturn) (tg := []) rfl rfl ⟨_, rl_n (n := 0) (by omega), rfl⟩
    · refine to_n 2 (fr' := (27, [(0, .ref 26), (1, .int (nI k1))], [.int 1], gh S a b sc ar lo, ex, 0, 0)) rfl ?_
      exact to_rt (i := .ireturn) (tg := []) rfl rfl ⟨_, rl_n (n := 1) (by omega), rfl⟩
set_option maxRecDepth 20000 in
theorem sf_X7_signAt {X : Nat × (Nat → Int32)} {S a b : Nat} {sc : Nat → Int32} {ar : Nat → Nat → Int32} {lo : Nat → Int64} {ex : Bool} (hW : Wd S a b) (hI : Iv S sc ar) (k1 : Nat) (hk1 : k1 < 400) (d : Nat)  : cp X S a b (d + 1) 67 [.ref 26, .int (nI k1)] sc ar lo ex (fun x => True) := by
  obtain ⟨ha1, ha8, hb1, hb8, hab, hS1, hS⟩ := id hW
  refine cp_of (M := an_X7_signAt) rfl (Nat.le_of_ble_eq_true rfl) ?_
  refine to_eq (fr' := (0, [(0, .ref 26), (1, .int (nI k1))], [], gh S a b sc ar lo, ex, 0, 0)) rfl ?_
  refine to_n 1 (fr' := (1, [(0, .ref 26), (1, .int (nI k1))], [.ref 26], gh S a b sc ar lo, ex, 0, 0)) rfl ?_
  refine to_get rfl rfl rfl rfl ?_
  refine to_n 1 (fr' := (5, [(0, .ref 26), (1, .int (nI k1))], [.int (nI k1), .ref 23], gh S a b sc ar lo, ex, 0, 0)) rfl ?_
  refine to_balR (i := k1) (v := ((ar 23) k1)) rfl rfl (by omega) (by omega) rfl ?_
  refine to_tb (x := ((ar 23) k1)) rfl rfl (by decide) (fun t ht => ?_)
  obtain rfl | rfl | rfl | rfl | rfl | rfl | rfl | rfl | rfl : t = 108 ∨ t = 111 ∨ t = 114 ∨ t = 117 ∨ t = 120 ∨ t = 123 ∨ t = 126 ∨ t = 129 ∨ t = 132 := by simpa using to_mem (l := [108, 111, 114, 117, 120, 123, 126, 129, 132]) ht (by decide)
  · refine to_eq (fr' := (108, [(0, .ref 26), (1, .int (nI k1))], [], gh S a b sc ar lo, ex, 0, 0)) rfl ?_
    refine to_n 1 (fr' := (110, [(0, .ref 26), (1, .int (nI k1))], [.int (-4)], gh S a b sc ar lo, ex, 0, 0)) rfl ?_
    exact to_rt (i := .ireturn) (tg := []) rfl rfl ⟨_, trivial, rfl⟩
  · refine to_eq (fr' := (111, [(0, .ref 26), (1, .int (nI k1))], [], gh S a b sc ar lo, ex, 0, 0)) rfl ?_
    refine to_n 1 (fr' := (113, [(0, .ref 26), (1, .int (nI k1))], [.int (-5)], gh S a b sc ar lo, ex, 0, 0)) rfl ?_
    exact to_rt (i := .ireturn) (tg := []) rfl rfl ⟨_, trivial, rfl⟩
  · refine to_eq (fr' := (114, [(0, .ref 26), (1, .int (nI k1))], [], gh S a b sc ar lo, ex, 0, 0)) rfl ?_
    refine to_n 1 (fr' := (116, [(0, .ref 26), (1, .int (nI k1))], [.int (-6)], gh S a b sc ar lo, ex, 0, 0)) rfl ?_
    exact to_rt (i := .ireturn) (tg := []) rfl rfl ⟨_, trivial, rfl⟩
  · refine to_eq (fr' := (117, [(0, .ref 26), (1, .int (nI k1))], [], gh S a b sc ar lo, ex, 0, 0)) rfl ?_
    refine to_n 1 (fr' := (119, [(0, .ref 26), (1, .int (nI k1))], [.int (-7)], gh S a b sc ar lo, ex, 0, 0)) rfl ?_
    exact to_rt (i := .ireturn) (tg := []) rfl rfl ⟨_, trivial, rfl⟩
  · refine to_eq (fr' := (120, [(0, .ref 26), (1, .int (nI k1))], [], gh S a b sc ar lo, ex, 0, 0)) rfl ?_
    refine to_n 1 (fr' := (122, [(0, .ref 26), (1, .int (nI k1))], [.int (-8)], gh S a b sc ar lo, ex, 0, 0)) rfl ?_
    exact to_rt (i := .ireturn) (tg := []) rfl rfl ⟨_, trivial, rfl⟩
  · refine to_eq (fr' := (123, [(0, .ref 26), (1, .int (nI k1))], [], gh S a b sc ar lo, ex, 0, 0)) rfl ?_
    refine to_n 1 (fr' := (125, [(0, .ref 26), (1, .int (nI k1))], [.int (-9)], gh S a b sc ar lo, ex, 0, 0)) rfl ?_
    exact to_rt (i := .ireturn) (tg := []) rfl rfl ⟨_, trivial, rfl⟩
  · refine to_eq (fr' := (126, [(0, .ref 26), (1, .int (nI k1))], [], gh S a b sc ar lo, ex, 0, 0)) rfl ?_
    refine to_n 1 (fr' := (128, [(0, .ref 26), (1, .int (nI k1))], [.int (-10)], gh S a b sc ar lo, ex, 0, 0)) rfl ?_
    exact to_rt (i := .ireturn) (tg := []) rfl rfl ⟨_, trivial, rfl⟩
  · refine to_eq (fr' := (129, [(0, .ref 26), (1, .int (nI k1))], [], gh S a b sc ar lo, ex, 0, 0)) rfl ?_
    refine to_n 1 (fr' := (131, [(0, .ref 26), (1, .int (nI k1))], [.int (-11)], gh S a b sc ar lo, ex, 0, 0)) rfl ?_
    exact to_rt (i := .ireturn) (tg := []) rfl rfl ⟨_, trivial, rfl⟩
  · refine to_eq (fr' := (132, [(0, .ref 26), (1, .int (nI k1))], [], gh S a b sc ar lo, ex, 0, 0)) rfl ?_
    refine to_n 1 (fr' := (134, [(0, .ref 26), (1, .int (nI k1))], [.int (-2)], gh S a b sc ar lo, ex, 0, 0)) rfl ?_
    exact to_rt (i := .ireturn) (tg := []) rfl rfl ⟨_, trivial, rfl⟩
set_option maxRecDepth 20000 in
theorem sf_X7_keyword {X : Nat × (Nat → Int32)} {S a b : Nat} {sc : Nat → Int32} {ar : Nat → Nat → Int32} {lo : Nat → Int64} {ex : Bool} (hW : Wd S a b) (hI : Iv S sc ar) (k1 : Nat) (hk1 : k1 < 401) (d : Nat)  : cp X S a b (d + 2) 64 [.ref 26, .int (nI k1)] sc ar lo ex (fun x => True) := by
  obtain ⟨ha1, ha8, hb1, hb8, hab, hS1, hS⟩ := id hW
  refine cp_of (M := an_X7_keyword) rfl (Nat.le_of_ble_eq_true rfl) ?_
  refine to_eq (fr' := (0, [(0, .ref 26), (1, .int (nI k1))], [], gh S a b sc ar lo, ex, 0, 0)) rfl ?_
  refine to_n 3 (fr' := (4, [(0, .ref 26), (1, .int (nI k1))], [.int (nI k1), .ref 1000004, .ref 26], gh S a b sc ar lo, ex, 0, 0)) rfl ?_
  refine to_cp (q := 66) (M1 := an_X7_wordIs) (rest := []) rfl rfl (by decide) rfl ⟨_, rfl⟩ (sf_X7_wordIs hW hI 3 (by omega) k1 (by omega) d) (fun x1 hx1 => ?_)
  obtain ⟨n1, hn1, rfl⟩ := hx1
  refine to_eq (fr' := (7, [(0, .ref 26), (1, .int (nI k1))], [.int (nI n1)], gh S a b sc ar lo, ex, 0, 0)) rfl ?_
  refine to_nf_eq (t := 13) (x := n1) rfl (by omega) (fun q2 => ?_) (fun q2 => ?_)
  · refine to_n 3 (fr' := (17, [(0, .ref 26), (1, .int (nI k1))], [.int (nI k1), .ref 1000005, .ref 26], gh S a b sc ar lo, ex, 0, 0)) rfl ?_
    refine to_cp (q := 66) (M1 := an_X7_wordIs) (rest := []) rfl rfl (by decide) rfl ⟨_, rfl⟩ (sf_X7_wordIs hW hI 4 (by omega) k1 (by omega) d) (fun x3 hx3 => ?_)
    obtain ⟨n3, hn3, rfl⟩ := hx3
    refine to_eq (fr' := (20, [(0, .ref 26), (1, .int (nI k1))], [.int (nI n3)], gh S a b sc ar lo, ex, 0, 0)) rfl ?_
    refine to_nf_eq (t := 26) (x := n3) rfl (by omega) (fun q4 => ?_) (fun q4 => ?_)
    · refine to_n 3 (fr' := (30, [(0, .ref 26), (1, .int (nI k1))], [.int (nI k1), .ref 1000006, .ref 26], gh S a b sc ar lo, ex, 0, 0)) rfl ?_
      refine to_cp (q := 66) (M1 := an_X7_wordIs) (rest := []) rfl rfl (by decide) rfl ⟨_, rfl⟩ (sf_X7_wordIs hW hI 5 (by omega) k1 (by omega) d) (fun x5 hx5 => ?_)
      obtain ⟨n5, hn5, rfl⟩ := hx5
      refine to_eq (fr' := (33, [(0, .ref 26), (1, .int (nI k1))], [.int (nI n5)], gh S a b sc ar lo, ex, 0, 0)) rfl ?_
      refine to_nf_eq (t := 39) (x := n5) rfl (by omega) (fun q6 => ?_) (fun q6 => ?_)
      · refine to_n 3 (fr' := (43, [(0, .ref 26), (1, .int (nI k1))], [.int (nI k1), .ref 1000007, .ref 26], gh S a b sc ar lo, ex, 0, 0)) rfl ?_
        refine to_cp (q := 66) (M1 := an_X7_wordIs) (rest := []) rfl rfl (by decide) rfl ⟨_, rfl⟩ (sf_X7_wordIs hW hI 6 (by omega) k1 (by omega) d) (fun x7 hx7 => ?_)
        obtain ⟨n7, hn7, rfl⟩ := hx7
        refine to_eq (fr' := (46, [(0, .ref 26), (1, .int (nI k1))], [.int (nI n7)], gh S a b sc ar lo, ex, 0, 0)) rfl ?_
        refine to_nf_eq (t := 52) (x := n7) rfl (by omega) (fun q8 => ?_) (fun q8 => ?_)
        · refine to_n 3 (fr' := (56, [(0, .ref 26), (1, .int (nI k1))], [.int (nI k1), .ref 1000008, .ref 26], gh S a b sc ar lo, ex, 0, 0)) rfl ?_
          refine to_cp (q := 66) (M1 := an_X7_wordIs) (rest := []) rfl rfl (by decide) rfl ⟨_, rfl⟩ (sf_X7_wordIs hW hI 7 (by omega) k1 (by omega) d) (fun x9 hx9 => ?_)
          obtain ⟨n9, hn9, rfl⟩ := hx9
          refine to_eq (fr' := (59, [(0, .ref 26), (1, .int (nI k1))], [.int (nI n9)], gh S a b sc ar lo, ex, 0, 0)) rfl ?_
          refine to_nf_eq (t := 67) (x := n9) rfl (by omega) (fun q10 => ?_) (fun q10 => ?_)
          · refine to_n 1 (fr' := (69, [(0, .ref 26), (1, .int (nI k1))], [.int (-17)], gh S a b sc ar lo, ex, 0, 0)) rfl ?_
            exact to_rt (i := .ireturn) (tg := []) rfl rfl ⟨_, trivial, rfl⟩
          · refine to_n 2 (fr' := (69, [(0, .ref 26), (1, .int (nI k1))], [.int (-16)], gh S a b sc ar lo, ex, 0, 0)) rfl ?_
            exact to_rt (i := .ireturn) (tg := []) rfl rfl ⟨_, trivial, rfl⟩
        · refine to_n 1 (fr' := (51, [(0, .ref 26), (1, .int (nI k1))], [.int (-15)], gh S a b sc ar lo, ex, 0, 0)) rfl ?_
          exact to_rt (i := .ireturn) (tg := []) rfl rfl ⟨_, trivial, rfl⟩
      · refine to_n 1 (fr' := (38, [(0, .ref 26), (1, .int (nI k1))], [.int (-14)], gh S a b sc ar lo, ex, 0, 0)) rfl ?_
        exact to_rt (i := .ireturn) (tg := []) rfl rfl ⟨_, trivial, rfl⟩
    · refine to_n 1 (fr' := (25, [(0, .ref 26), (1, .int (nI k1))], [.int (-13)], gh S a b sc ar lo, ex, 0, 0)) rfl ?_
      exact to_rt (i := .ireturn) (tg := []) rfl rfl ⟨_, trivial, rfl⟩
  · refine to_n 1 (fr' := (12, [(0, .ref 26), (1, .int (nI k1))], [.int (-12)], gh S a b sc ar lo, ex, 0, 0)) rfl ?_
    exact to_rt (i := .ireturn) (tg := []) rfl rfl ⟨_, trivial, rfl⟩
set_option maxRecDepth 20000 in
theorem sf_X7_nameWord {X : Nat × (Nat → Int32)} {S a b : Nat} {sc : Nat → Int32} {ar : Nat → Nat → Int32} {lo : Nat → Int64} {ex : Bool} (hW : Wd S a b) (hI : Iv S sc ar) (k1 : Nat) (hk1 : k1 < 401) (d : Nat)  : cp X S a b (d + 2) 65 [.ref 26, .int (nI k1)] sc ar lo ex (fun x => True) := by
  obtain ⟨ha1, ha8, hb1, hb8, hab, hS1, hS⟩ := id hW
  refine cp_of (M := an_X7_nameWord) rfl (Nat.le_of_ble_eq_true rfl) ?_
  refine to_eq (fr' := (0, [(0, .ref 26), (1, .int (nI k1))], [], gh S a b sc ar lo, ex, 0, 0)) rfl ?_
  refine to_n 3 (fr' := (4, [(0, .ref 26), (1, .int (nI k1))], [.int (nI k1), .ref 1000009, .ref 26], gh S a b sc ar lo, ex, 0, 0)) rfl ?_
  refine to_cp (q := 66) (M1 := an_X7_wordIs) (rest := []) rfl rfl (by decide) rfl ⟨_, rfl⟩ (sf_X7_wordIs hW hI 8 (by omega) k1 (by omega) d) (fun x1 hx1 => ?_)
  obtain ⟨n1, hn1, rfl⟩ := hx1
  refine to_eq (fr' := (7, [(0, .ref 26), (1, .int (nI k1))], [.int (nI n1)], gh S a b sc ar lo, ex, 0, 0)) rfl ?_
  refine to_nf_eq (t := 13) (x := n1) rfl (by omega) (fun q2 => ?_) (fun q2 => ?_)
  · refine to_n 3 (fr' := (17, [(0, .ref 26), (1, .int (nI k1))], [.int (nI k1), .ref 1000010, .ref 26], gh S a b sc ar lo, ex, 0, 0)) rfl ?_
    refine to_cp (q := 66) (M1 := an_X7_wordIs) (rest := []) rfl rfl (by decide) rfl ⟨_, rfl⟩ (sf_X7_wordIs hW hI 9 (by omega) k1 (by omega) d) (fun x3 hx3 => ?_)
    obtain ⟨n3, hn3, rfl⟩ := hx3
    refine to_eq (fr' := (20, [(0, .ref 26), (1, .int (nI k1))], [.int (nI n3)], gh S a b sc ar lo, ex, 0, 0)) rfl ?_
    refine to_nf_eq (t := 26) (x := n3) rfl (by omega) (fun q4 => ?_) (fun q4 => ?_)
    · refine to_n 3 (fr' := (30, [(0, .ref 26), (1, .int (nI k1))], [.int (nI k1), .ref 1000011, .ref 26], gh S a b sc ar lo, ex, 0, 0)) rfl ?_
      refine to_cp (q := 66) (M1 := an_X7_wordIs) (rest := []) rfl rfl (by decide) rfl ⟨_, rfl⟩ (sf_X7_wordIs hW hI 10 (by omega) k1 (by omega) d) (fun x5 hx5 => ?_)
      obtain ⟨n5, hn5, rfl⟩ := hx5
      refine to_eq (fr' := (33, [(0, .ref 26), (1, .int (nI k1))], [.int (nI n5)], gh S a b sc ar lo, ex, 0, 0)) rfl ?_
      refine to_nf_eq (t := 39) (x := n5) rfl (by omega) (fun q6 => ?_) (fun q6 => ?_)
      · refine to_n 3 (fr' := (43, [(0, .ref 26), (1, .int (nI k1))], [.int (nI k1), .ref 1000012, .ref 26], gh S a b sc ar lo, ex, 0, 0)) rfl ?_
        refine to_cp (q := 66) (M1 := an_X7_wordIs) (rest := []) rfl rfl (by decide) rfl ⟨_, rfl⟩ (sf_X7_wordIs hW hI 11 (by omega) k1 (by omega) d) (fun x7 hx7 => ?_)
        obtain ⟨n7, hn7, rfl⟩ := hx7
        refine to_eq (fr' := (46, [(0, .ref 26), (1, .int (nI k1))], [.int (nI n7)], gh S a b sc ar lo, ex, 0, 0)) rfl ?_
        refine to_nf_eq (t := 52) (x := n7) rfl (by omega) (fun q8 => ?_) (fun q8 => ?_)
        · refine to_n 3 (fr' := (56, [(0, .ref 26), (1, .int (nI k1))], [.int (nI k1), .ref 1000013, .ref 26], gh S a b sc ar lo, ex, 0, 0)) rfl ?_
          refine to_cp (q := 66) (M1 := an_X7_wordIs) (rest := []) rfl rfl (by decide) rfl ⟨_, rfl⟩ (sf_X7_wordIs hW hI 12 (by omega) k1 (by omega) d) (fun x9 hx9 => ?_)
          obtain ⟨n9, hn9, rfl⟩ := hx9
          refine to_eq (fr' := (59, [(0, .ref 26), (1, .int (nI k1))], [.int (nI n9)], gh S a b sc ar lo, ex, 0, 0)) rfl ?_
          refine to_nf_eq (t := 65) (x := n9) rfl (by omega) (fun q10 => ?_) (fun q10 => ?_)
          · refine to_n 3 (fr' := (69, [(0, .ref 26), (1, .int (nI k1))], [.int (nI k1), .ref 1000014, .ref 26], gh S a b sc ar lo, ex, 0, 0)) rfl ?_
            refine to_cp (q := 66) (M1 := an_X7_wordIs) (rest := []) rfl rfl (by decide) rfl ⟨_, rfl⟩ (sf_X7_wordIs hW hI 13 (by omega) k1 (by omega) d) (fun x11 hx11 => ?_)
            obtain ⟨n11, hn11, rfl⟩ := hx11
            refine to_eq (fr' := (72, [(0, .ref 26), (1, .int (nI k1))], [.int (nI n11)], gh S a b sc ar lo, ex, 0, 0)) rfl ?_
            refine to_nf_eq (t := 78) (x := n11) rfl (by omega) (fun q12 => ?_) (fun q12 => ?_)
            · refine to_n 3 (fr' := (82, [(0, .ref 26), (1, .int (nI k1))], [.int (nI k1), .ref 1000015, .ref 26], gh S a b sc ar lo, ex, 0, 0)) rfl ?_
              refine to_cp (q := 66) (M1 := an_X7_wordIs) (rest := []) rfl rfl (by decide) rfl ⟨_, rfl⟩ (sf_X7_wordIs hW hI 14 (by omega) k1 (by omega) d) (fun x13 hx13 => ?_)
              obtain ⟨n13, hn13, rfl⟩ := hx13
              refine to_eq (fr' := (85, [(0, .ref 26), (1, .int (nI k1))], [.int (nI n13)], gh S a b sc ar lo, ex, 0, 0)) rfl ?_
              refine to_nf_eq (t := 91) (x := n13) rfl (by omega) (fun q14 => ?_) (fun q14 => ?_)
              · refine to_n 3 (fr' := (95, [(0, .ref 26), (1, .int (nI k1))], [.int (nI k1), .ref 1000016, .ref 26], gh S a b sc ar lo, ex, 0, 0)) rfl ?_
                refine to_cp (q := 66) (M1 := an_X7_wordIs) (rest := []) rfl rfl (by decide) rfl ⟨_, rfl⟩ (sf_X7_wordIs hW hI 15 (by omega) k1 (by omega) d) (fun x15 hx15 => ?_)
                obtain ⟨n15, hn15, rfl⟩ := hx15
                refine to_eq (fr' := (98, [(0, .ref 26), (1, .int (nI k1))], [.int (nI n15)], gh S a b sc ar lo, ex, 0, 0)) rfl ?_
                refine to_nf_eq (t := 106) (x := n15) rfl (by omega) (fun q16 => ?_) (fun q16 => ?_)
                · refine to_n 1 (fr' := (108, [(0, .ref 26), (1, .int (nI k1))], [.int (-17)], gh S a b sc ar lo, ex, 0, 0)) rfl ?_
                  exact to_rt (i := .ireturn) (tg := []) rfl rfl ⟨_, trivial, rfl⟩
                · refine to_n 2 (fr' := (108, [(0, .ref 26), (1, .int (nI k1))], [.int (-27)], gh S a b sc ar lo, ex, 0, 0)) rfl ?_
                  exact to_rt (i := .ireturn) (tg := []) rfl rfl ⟨_, trivial, rfl⟩
              · refine to_n 1 (fr' := (90, [(0, .ref 26), (1, .int (nI k1))], [.int (-26)], gh S a b sc ar lo, ex, 0, 0)) rfl ?_
                exact to_rt (i := .ireturn) (tg := []) rfl rfl ⟨_, trivial, rfl⟩
            · refine to_n 1 (fr' := (77, [(0, .ref 26), (1, .int (nI k1))], [.int (-25)], gh S a b sc ar lo, ex, 0, 0)) rfl ?_
              exact to_rt (i := .ireturn) (tg := []) rfl rfl ⟨_, trivial, rfl⟩
          · refine to_n 1 (fr' := (64, [(0, .ref 26), (1, .int (nI k1))], [.int (-24)], gh S a b sc ar lo, ex, 0, 0)) rfl ?_
            exact to_rt (i := .ireturn) (tg := []) rfl rfl ⟨_, trivial, rfl⟩
        · refine to_n 1 (fr' := (51, [(0, .ref 26), (1, .int (nI k1))], [.int (-23)], gh S a b sc ar lo, ex, 0, 0)) rfl ?_
          exact to_rt (i := .ireturn) (tg := []) rfl rfl ⟨_, trivial, rfl⟩
      · refine to_n 1 (fr' := (38, [(0, .ref 26), (1, .int (nI k1))], [.int (-22)], gh S a b sc ar lo, ex, 0, 0)) rfl ?_
        exact to_rt (i := .ireturn) (tg := []) rfl rfl ⟨_, trivial, rfl⟩
    · refine to_n 1 (fr' := (25, [(0, .ref 26), (1, .int (nI k1))], [.int (-21)], gh S a b sc ar lo, ex, 0, 0)) rfl ?_
      exact to_rt (i := .ireturn) (tg := []) rfl rfl ⟨_, trivial, rfl⟩
  · refine to_n 1 (fr' := (12, [(0, .ref 26), (1, .int (nI k1))], [.int (-20)], gh S a b sc ar lo, ex, 0, 0)) rfl ?_
    exact to_rt (i := .ireturn) (tg := []) rfl rfl ⟨_, trivial, rfl⟩
set_option maxRecDepth 20000 in
theorem sf_X7_takeNumber {X : Nat × (Nat → Int32)} {S a b : Nat} {sc : Nat → Int32} {ar : Nat → Nat → Int32} {lo : Nat → Int64} {ex : Bool} (hW : Wd S a b) (hI : Iv S sc ar) (k1 : Nat) (hk1 : k1 < 400) (d : Nat)  : ci X S a b (d + 2) 62 [.ref 26, .int (nI k1)] sc ar lo ex (fun x sc' ar' => Iv S sc' ar' ∧ Fr [2605] [] sc ar sc' ar' ∧ True) := by
  obtain ⟨ha1, ha8, hb1, hb8, hab, hS1, hS⟩ := id hW
  refine ci_of (M := an_X7_takeNumber) rfl (Nat.le_of_ble_eq_true rfl) ?_
  have hF : Fr [2605] [] sc ar sc ar := fr_0
  refine to_eq (fr' := (0, [(0, .ref 26), (1, .int (nI k1))], [], gh S a b sc ar lo, ex, 0, 0)) rfl ?_
  have c2 : ∀ m : Nat, ∀ (y : Int32) (p : Nat) (sc1 : Nat → Int32) (ar1 : Nat → Nat → Int32), 400 ≤ p + m → sc1 2605 = nI p → p ≤ 400 → Iv S sc1 ar1 → Fr [2605] [] sc ar sc1 ar1 → ag_To X (d + 1) an_X7_takeNumber (2, [(0, .ref 26), (1, .int (nI k1)), (2, .int y)], [], gh S a b sc1 ar1 lo, ex, 0, 0) (qi S a b lo ex (fun x sc' ar' => Iv S sc' ar' ∧ Fr [2605] [] sc ar sc' ar' ∧ True)) := by
    intro m
    induction m with
    | zero =>
      intro y p sc1 ar1 hm hc2_0 hc2_1 hI1 hF1
      refine to_n 1 (fr' := (3, [(0, .ref 26), (1, .int (nI k1)), (2, .int y)], [.ref 26], gh S a b sc1 ar1 lo, ex, 0, 0)) rfl ?_
      refine to_getR (v := (nI p)) rfl rfl rfl rfl hc2_0 ?_
      refine to_n 1 (fr' := (7, [(0, .ref 26), (1, .int (nI k1)), (2, .int y)], [.ref 26, .int (nI p)], gh S a b sc1 ar1 lo, ex, 0, 0)) rfl ?_
      obtain ⟨n2, hn2, e2⟩ := iv_s2604 hI1
      refine to_getR (v := (nI n2)) rfl rfl rfl rfl e2 ?_
      refine to_nc_ge_T (t := 65) (x := p) (y := n2) rfl (by omega) (by omega) (by omega) ?_
      refine to_n 1 (fr' := (66, [(0, .ref 26), (1, .int (nI k1)), (2, .int y)], [.ref 26], gh S a b sc1 ar1 lo, ex, 0, 0)) rfl ?_
      refine to_getR (v := (nI p)) rfl rfl rfl rfl hc2_0 ?_
      refine to_n 3 (fr' := (72, [(0, .ref 26), (1, .int (nI k1)), (2, .int y)], [.int 5, .int ((nI p) - (nI k1))], gh S a b sc1 ar1 lo, ex, 0, 0)) rfl ?_
      refine to_ic_le (t := 80) rfl (fun q3 => ?_) (fun q3 => ?_)
      · refine to_n 1 (fr' := (81, [(0, .ref 26), (1, .int (nI k1)), (2, .int y)], [.int y], gh S a b sc1 ar1 lo, ex, 0, 0)) rfl ?_
        exact to_rt (i := .ireturn) (tg := []) rfl rfl ⟨_, _, _, ⟨hI1, hF1, trivial⟩, rfl⟩
      · refine to_n 2 (fr' := (81, [(0, .ref 26), (1, .int (nI k1)), (2, .int y)], [.int (-3)], gh S a b sc1 ar1 lo, ex, 0, 0)) rfl ?_
        exact to_rt (i := .ireturn) (tg := []) rfl rfl ⟨_, _, _, ⟨hI1, hF1, trivial⟩, rfl⟩
    | succ m ih =>
      intro y p sc1 ar1 hm hc2_0 hc2_1 hI1 hF1
      refine to_n 1 (fr' := (3, [(0, .ref 26), (1, .int (nI k1)), (2, .int y)], [.ref 26], gh S a b sc1 ar1 lo, ex, 0, 0)) rfl ?_
      refine to_getR (v := (nI p)) rfl rfl rfl rfl hc2_0 ?_
      refine to_n 1 (fr' := (7, [(0, .ref 26), (1, .int (nI k1)), (2, .int y)], [.ref 26, .int (nI p)], gh S a b sc1 ar1 lo, ex, 0, 0)) rfl ?_
      obtain ⟨n4, hn4, e4⟩ := iv_s2604 hI1
      refine to_getR (v := (nI n4)) rfl rfl rfl rfl e4 ?_
      refine to_nc_ge (t := 65) (x := p) (y := n4) rfl (by omega) (by omega) (fun q5 => ?_) (fun q5 => ?_)
      · refine to_n 1 (fr' := (66, [(0, .ref 26), (1, .int (nI k1)), (2, .int y)], [.ref 26], gh S a b sc1 ar1 lo, ex, 0, 0)) rfl ?_
        refine to_getR (v := (nI p)) rfl rfl rfl rfl hc2_0 ?_
        refine to_n 3 (fr' := (72, [(0, .ref 26), (1, .int (nI k1)), (2, .int y)], [.int 5, .int ((nI p) - (nI k1))], gh S a b sc1 ar1 lo, ex, 0, 0)) rfl ?_
        refine to_ic_le (t := 80) rfl (fun q6 => ?_) (fun q6 => ?_)
        · refine to_n 1 (fr' := (81, [(0, .ref 26), (1, .int (nI k1)), (2, .int y)], [.int y], gh S a b sc1 ar1 lo, ex, 0, 0)) rfl ?_
          exact to_rt (i := .ireturn) (tg := []) rfl rfl ⟨_, _, _, ⟨hI1, hF1, trivial⟩, rfl⟩
        · refine to_n 2 (fr' := (81, [(0, .ref 26), (1, .int (nI k1)), (2, .int y)], [.int (-3)], gh S a b sc1 ar1 lo, ex, 0, 0)) rfl ?_
          exact to_rt (i := .ireturn) (tg := []) rfl rfl ⟨_, _, _, ⟨hI1, hF1, trivial⟩, rfl⟩
      · refine to_n 2 (fr' := (15, [(0, .ref 26), (1, .int (nI k1)), (2, .int y)], [.ref 26, .ref 26], gh S a b sc1 ar1 lo, ex, 0, 0)) rfl ?_
        refine to_getR (v := (nI p)) rfl rfl rfl rfl hc2_0 ?_
        refine to_cp (q := 61) (M1 := an_X7_digitAt) (rest := []) rfl rfl (by decide) rfl ⟨_, rfl⟩ (sf_X7_digitAt hW hI1 p (by omega) d) (fun x7 hx7 => ?_)
        obtain ⟨n7, hn7, rfl⟩ := hx7
        refine to_eq (fr' := (21, [(0, .ref 26), (1, .int (nI k1)), (2, .int y)], [.int (nI n7)], gh S a b sc1 ar1 lo, ex, 0, 0)) rfl ?_
        refine to_nf_eq (t := 65) (x := n7) rfl (by omega) (fun q8 => ?_) (fun q8 => ?_)
        · refine to_n 1 (fr' := (66, [(0, .ref 26), (1, .int (nI k1)), (2, .int y)], [.ref 26], gh S a b sc1 ar1 lo, ex, 0, 0)) rfl ?_
          refine to_getR (v := (nI p)) rfl rfl rfl rfl hc2_0 ?_
          refine to_n 3 (fr' := (72, [(0, .ref 26), (1, .int (nI k1)), (2, .int y)], [.int 5, .int ((nI p) - (nI k1))], gh S a b sc1 ar1 lo, ex, 0, 0)) rfl ?_
          refine to_ic_le (t := 80) rfl (fun q9 => ?_) (fun q9 => ?_)
          · refine to_n 1 (fr' := (81, [(0, .ref 26), (1, .int (nI k1)), (2, .int y)], [.int y], gh S a b sc1 ar1 lo, ex, 0, 0)) rfl ?_
            exact to_rt (i := .ireturn) (tg := []) rfl rfl ⟨_, _, _, ⟨hI1, hF1, trivial⟩, rfl⟩
          · refine to_n 2 (fr' := (81, [(0, .ref 26), (1, .int (nI k1)), (2, .int y)], [.int (-3)], gh S a b sc1 ar1 lo, ex, 0, 0)) rfl ?_
            exact to_rt (i := .ireturn) (tg := []) rfl rfl ⟨_, _, _, ⟨hI1, hF1, trivial⟩, rfl⟩
        · refine to_n 1 (fr' := (25, [(0, .ref 26), (1, .int (nI k1)), (2, .int y)], [.ref 26], gh S a b sc1 ar1 lo, ex, 0, 0)) rfl ?_
          refine to_getR (v := (nI p)) rfl rfl rfl rfl hc2_0 ?_
          refine to_n 3 (fr' := (31, [(0, .ref 26), (1, .int (nI k1)), (2, .int y)], [.int 5, .int ((nI p) - (nI k1))], gh S a b sc1 ar1 lo, ex, 0, 0)) rfl ?_
          refine to_ic_ge (t := 52) rfl (fun q10 => ?_) (fun q10 => ?_)
          · refine to_n 2 (fr' := (54, [(0, .ref 26), (1, .int (nI k1)), (2, .int y)], [.ref 26, .ref 26], gh S a b sc1 ar1 lo, ex, 0, 0)) rfl ?_
            refine to_getR (v := (nI p)) rfl rfl rfl rfl hc2_0 ?_
            refine to_n 1 (fr' := (58, [(0, .ref 26), (1, .int (nI k1)), (2, .int y)], [.int 1, .int (nI p), .ref 26], gh S a b sc1 ar1 lo, ex, 0, 0)) rfl ?_
            refine to_addN (x := p) (y := 1) rfl ?_
            refine to_putR (h' := gh S a b (upd sc1 2605 (nI (p + 1))) ar1 lo) rfl rfl rfl (Nat.le_of_ble_eq_true rfl) rfl rfl ?_
            have hI11 := ip_2605 (v := (nI (p + 1))) hI1 (rl_n (n := (p + 1)) (by omega))
            have hF11 := fr_s (k := 2605) (v := (nI (p + 1))) hF1 (by decide)
            refine to_n 1 (fr' := (2, [(0, .ref 26), (1, .int (nI k1)), (2, .int y)], [], gh S a b (upd sc1 2605 (nI (p + 1))) ar1 lo, ex, 0, 0)) rfl ?_
            exact ih y (p + 1) (upd sc1 2605 (nI (p + 1))) ar1 (by omega) (rfl) (by omega) hI11 hF11
          · refine to_n 4 (fr' := (39, [(0, .ref 26), (1, .int (nI k1)), (2, .int y)], [.ref 26, .int (10 * y)], gh S a b sc1 ar1 lo, ex, 0, 0)) rfl ?_
            refine to_get rfl rfl rfl rfl ?_
            refine to_n 1 (fr' := (43, [(0, .ref 26), (1, .int (nI k1)), (2, .int y)], [.ref 26, .ref 23, .int (10 * y)], gh S a b sc1 ar1 lo, ex, 0, 0)) rfl ?_
            refine to_getR (v := (nI p)) rfl rfl rfl rfl hc2_0 ?_
            refine to_balR (i := p) (v := ((ar1 23) p)) rfl rfl (by omega) (by omega) rfl ?_
            refine to_n 6 (fr' := (54, [(0, .ref 26), (1, .int (nI k1)), (2, .int (((10 * y) + ((ar1 23) p)) - 48))], [.ref 26, .ref 26], gh S a b sc1 ar1 lo, ex, 0, 0)) rfl ?_
            refine to_getR (v := (nI p)) rfl rfl rfl rfl hc2_0 ?_
            refine to_n 1 (fr' := (58, [(0, .ref 26), (1, .int (nI k1)), (2, .int (((10 * y) + ((ar1 23) p)) - 48))], [.int 1, .int (nI p), .ref 26], gh S a b sc1 ar1 lo, ex, 0, 0)) rfl ?_
            refine to_addN (x := p) (y := 1) rfl ?_
            refine to_putR (h' := gh S a b (upd sc1 2605 (nI (p + 1))) ar1 lo) rfl rfl rfl (Nat.le_of_ble_eq_true rfl) rfl rfl ?_
            have hI12 := ip_2605 (v := (nI (p + 1))) hI1 (rl_n (n := (p + 1)) (by omega))
            have hF12 := fr_s (k := 2605) (v := (nI (p + 1))) hF1 (by decide)
            refine to_n 1 (fr' := (2, [(0, .ref 26), (1, .int (nI k1)), (2, .int (((10 * y) + ((ar1 23) p)) - 48))], [], gh S a b (upd sc1 2605 (nI (p + 1))) ar1 lo, ex, 0, 0)) rfl ?_
            exact ih (((10 * y) + ((ar1 23) p)) - 48) (p + 1) (upd sc1 2605 (nI (p + 1))) ar1 (by omega) (rfl) (by omega) hI12 hF12
  refine to_n 2 (fr' := (2, [(0, .ref 26), (1, .int (nI k1)), (2, .int 0)], [], gh S a b sc ar lo, ex, 0, 0)) rfl ?_
  obtain ⟨n13, hn13, e13⟩ := iv_s2605 hI
  exact c2 (400 - n13) 0 n13 sc ar (by omega) (e13) (by omega) hI hF
set_option maxRecDepth 20000 in
theorem sf_X7_takeWord {X : Nat × (Nat → Int32)} {S a b : Nat} {sc : Nat → Int32} {ar : Nat → Nat → Int32} {lo : Nat → Int64} {ex : Bool} (hW : Wd S a b) (hI : Iv S sc ar) (k1 : Nat) (hk1 : k1 < 400) (d : Nat)  : ci X S a b (d + 3) 63 [.ref 26, .int (nI k1)] sc ar lo ex (fun x sc' ar' => Iv S sc' ar' ∧ Fr [2605] [] sc ar sc' ar' ∧ True) := by
  obtain ⟨ha1, ha8, hb1, hb8, hab, hS1, hS⟩ := id hW
  refine ci_of (M := an_X7_takeWord) rfl (Nat.le_of_ble_eq_true rfl) ?_
  have hF : Fr [2605] [] sc ar sc ar := fr_0
  refine to_eq (fr' := (0, [(0, .ref 26), (1, .int (nI k1))], [], gh S a b sc ar lo, ex, 0, 0)) rfl ?_
  have c35 : ∀  (sc1 : Nat → Int32) (ar1 : Nat → Nat → Int32), Iv S sc1 ar1 → Fr [2605] [] sc ar sc1 ar1 → ag_To X (d + 2) an_X7_takeWord (35, [(0, .ref 26), (1, .int (nI k1))], [], gh S a b sc1 ar1 lo, ex, 0, 0) (qi S a b lo ex (fun x sc' ar' => Iv S sc' ar' ∧ Fr [2605] [] sc ar sc' ar' ∧ True)) := by
    intro sc1 ar1 hI1 hF1
    refine to_n 2 (fr' := (37, [(0, .ref 26), (1, .int (nI k1))], [.int (nI k1), .ref 26], gh S a b sc1 ar1 lo, ex, 0, 0)) rfl ?_
    refine to_cp (q := 64) (M1 := an_X7_keyword) (rest := []) rfl rfl (by decide) rfl ⟨_, rfl⟩ (sf_X7_keyword hW hI1 k1 (by omega) d) (fun x2 hx2 => ?_)
    refine to_eq (fr' := (40, [(0, .ref 26), (1, .int (nI k1))], [.int x2], gh S a b sc1 ar1 lo, ex, 0, 0)) rfl ?_
    refine to_n 3 (fr' := (44, [(0, .ref 26), (1, .int (nI k1)), (2, .int x2)], [.int (-17), .int x2], gh S a b sc1 ar1 lo, ex, 0, 0)) rfl ?_
    refine to_ic_ne (t := 55) rfl (fun q3 => ?_) (fun q3 => ?_)
    · refine to_n 1 (fr' := (56, [(0, .ref 26), (1, .int (nI k1)), (2, .int x2)], [.int x2], gh S a b sc1 ar1 lo, ex, 0, 0)) rfl ?_
      exact to_rt (i := .ireturn) (tg := []) rfl rfl ⟨_, _, _, ⟨hI1, hF1, trivial⟩, rfl⟩
    · refine to_n 2 (fr' := (49, [(0, .ref 26), (1, .int (nI k1)), (2, .int x2)], [.int (nI k1), .ref 26], gh S a b sc1 ar1 lo, ex, 0, 0)) rfl ?_
      refine to_cp (q := 65) (M1 := an_X7_nameWord) (rest := []) rfl rfl (by decide) rfl ⟨_, rfl⟩ (sf_X7_nameWord hW hI1 k1 (by omega) d) (fun x4 hx4 => ?_)
      refine to_eq (fr' := (52, [(0, .ref 26), (1, .int (nI k1)), (2, .int x2)], [.int x4], gh S a b sc1 ar1 lo, ex, 0, 0)) rfl ?_
      refine to_n 1 (fr' := (56, [(0, .ref 26), (1, .int (nI k1)), (2, .int x2)], [.int x4], gh S a b sc1 ar1 lo, ex, 0, 0)) rfl ?_
      exact to_rt (i := .ireturn) (tg := []) rfl rfl ⟨_, _, _, ⟨hI1, hF1, trivial⟩, rfl⟩
  have c0 : ∀ m : Nat, ∀ (p : Nat) (sc5 : Nat → Int32) (ar5 : Nat → Nat → Int32), 400 ≤ p + m → sc5 2605 = nI p → p ≤ 400 → Iv S sc5 ar5 → Fr [2605] [] sc ar sc5 ar5 → ag_To X (d + 2) an_X7_takeWord (0, [(0, .ref 26), (1, .int (nI k1))], [], gh S a b sc5 ar5 lo, ex, 0, 0) (qi S a b lo ex (fun x sc' ar' => Iv S sc' ar' ∧ Fr [2605] [] sc ar sc' ar' ∧ True)) := by
    intro m
    induction m with
    | zero =>
      intro p sc5 ar5 hm hc0_0 hc0_1 hI5 hF5
      refine to_n 1 (fr' := (1, [(0, .ref 26), (1, .int (nI k1))], [.ref 26], gh S a b sc5 ar5 lo, ex, 0, 0)) rfl ?_
      refine to_getR (v := (nI p)) rfl rfl rfl rfl hc0_0 ?_
      refine to_n 1 (fr' := (5, [(0, .ref 26), (1, .int (nI k1))], [.ref 26, .int (nI p)], gh S a b sc5 ar5 lo, ex, 0, 0)) rfl ?_
      obtain ⟨n6, hn6, e6⟩ := iv_s2604 hI5
      refine to_getR (v := (nI n6)) rfl rfl rfl rfl e6 ?_
      refine to_nc_ge_T (t := 35) (x := p) (y := n6) rfl (by omega) (by omega) (by omega) ?_
      exact c35 sc5 ar5 hI5 hF5
    | succ m ih =>
      intro p sc5 ar5 hm hc0_0 hc0_1 hI5 hF5
      refine to_n 1 (fr' := (1, [(0, .ref 26), (1, .int (nI k1))], [.ref 26], gh S a b sc5 ar5 lo, ex, 0, 0)) rfl ?_
      refine to_getR (v := (nI p)) rfl rfl rfl rfl hc0_0 ?_
      refine to_n 1 (fr' := (5, [(0, .ref 26), (1, .int (nI k1))], [.ref 26, .int (nI p)], gh S a b sc5 ar5 lo, ex, 0, 0)) rfl ?_
      obtain ⟨n7, hn7, e7⟩ := iv_s2604 hI5
      refine to_getR (v := (nI n7)) rfl rfl rfl rfl e7 ?_
      refine to_nc_ge (t := 35) (x := p) (y := n7) rfl (by omega) (by omega) (fun q8 => ?_) (fun q8 => ?_)
      · exact c35 sc5 ar5 hI5 hF5
      · refine to_n 2 (fr' := (13, [(0, .ref 26), (1, .int (nI k1))], [.ref 26, .ref 26], gh S a b sc5 ar5 lo, ex, 0, 0)) rfl ?_
        refine to_getR (v := (nI p)) rfl rfl rfl rfl hc0_0 ?_
        refine to_cp (q := 60) (M1 := an_X7_letterAt) (rest := []) rfl rfl (by decide) rfl ⟨_, rfl⟩ (sf_X7_letterAt hW hI5 p (by omega) (d + 1)) (fun x9 hx9 => ?_)
        obtain ⟨n9, hn9, rfl⟩ := hx9
        refine to_eq (fr' := (19, [(0, .ref 26), (1, .int (nI k1))], [.int (nI n9)], gh S a b sc5 ar5 lo, ex, 0, 0)) rfl ?_
        refine to_nf_eq (t := 35) (x := n9) rfl (by omega) (fun q10 => ?_) (fun q10 => ?_)
        · exact c35 sc5 ar5 hI5 hF5
        · refine to_n 2 (fr' := (24, [(0, .ref 26), (1, .int (nI k1))], [.ref 26, .ref 26], gh S a b sc5 ar5 lo, ex, 0, 0)) rfl ?_
          refine to_getR (v := (nI p)) rfl rfl rfl rfl hc0_0 ?_
          refine to_n 1 (fr' := (28, [(0, .ref 26), (1, .int (nI k1))], [.int 1, .int (nI p), .ref 26], gh S a b sc5 ar5 lo, ex, 0, 0)) rfl ?_
          refine to_addN (x := p) (y := 1) rfl ?_
          refine to_putR (h' := gh S a b (upd sc5 2605 (nI (p + 1))) ar5 lo) rfl rfl rfl (Nat.le_of_ble_eq_true rfl) rfl rfl ?_
          have hI11 := ip_2605 (v := (nI (p + 1))) hI5 (rl_n (n := (p + 1)) (by omega))
          have hF11 := fr_s (k := 2605) (v := (nI (p + 1))) hF5 (by decide)
          refine to_n 1 (fr' := (0, [(0, .ref 26), (1, .int (nI k1))], [], gh S a b (upd sc5 2605 (nI (p + 1))) ar5 lo, ex, 0, 0)) rfl ?_
          exact ih (p + 1) (upd sc5 2605 (nI (p + 1))) ar5 (by omega) (rfl) (by omega) hI11 hF11
  obtain ⟨n12, hn12, e12⟩ := iv_s2605 hI
  exact c0 (400 - n12) n12 sc ar (by omega) (e12) (by omega) hI hF
set_option maxRecDepth 20000 in
theorem sf_X7_takeToken {X : Nat × (Nat → Int32)} {S a b : Nat} {sc : Nat → Int32} {ar : Nat → Nat → Int32} {lo : Nat → Int64} {ex : Bool} (hW : Wd S a b) (hI : Iv S sc ar) (k1 : Nat) (hk1 : k1 < 400) (d : Nat)  : ci X S a b (d + 4) 59 [.ref 26, .int (nI k1)] sc ar lo ex (fun x sc' ar' => Iv S sc' ar' ∧ Fr [2605] [] sc ar sc' ar' ∧ True) := by
  obtain ⟨ha1, ha8, hb1, hb8, hab, hS1, hS⟩ := id hW
  refine ci_of (M := an_X7_takeToken) rfl (Nat.le_of_ble_eq_true rfl) ?_
  have hF : Fr [2605] [] sc ar sc ar := fr_0
  refine to_eq (fr' := (0, [(0, .ref 26), (1, .int (nI k1))], [], gh S a b sc ar lo, ex, 0, 0)) rfl ?_
  refine to_n 2 (fr' := (2, [(0, .ref 26), (1, .int (nI k1))], [.int (nI k1), .ref 26], gh S a b sc ar lo, ex, 0, 0)) rfl ?_
  refine to_cp (q := 60) (M1 := an_X7_letterAt) (rest := []) rfl rfl (by decide) rfl ⟨_, rfl⟩ (sf_X7_letterAt hW hI k1 (by omega) (d + 2)) (fun x1 hx1 => ?_)
  obtain ⟨n1, hn1, rfl⟩ := hx1
  refine to_eq (fr' := (5, [(0, .ref 26), (1, .int (nI k1))], [.int (nI n1)], gh S a b sc ar lo, ex, 0, 0)) rfl ?_
  refine to_nf_eq (t := 14) (x := n1) rfl (by omega) (fun q2 => ?_) (fun q2 => ?_)
  · refine to_n 2 (fr' := (16, [(0, .ref 26), (1, .int (nI k1))], [.int (nI k1), .ref 26], gh S a b sc ar lo, ex, 0, 0)) rfl ?_
    refine to_cp (q := 61) (M1 := an_X7_digitAt) (rest := []) rfl rfl (by decide) rfl ⟨_, rfl⟩ (sf_X7_digitAt hW hI k1 (by omega) (d + 2)) (fun x3 hx3 => ?_)
    obtain ⟨n3, hn3, rfl⟩ := hx3
    refine to_eq (fr' := (19, [(0, .ref 26), (1, .int (nI k1))], [.int (nI n3)], gh S a b sc ar lo, ex, 0, 0)) rfl ?_
    refine to_nf_eq (t := 28) (x := n3) rfl (by omega) (fun q4 => ?_) (fun q4 => ?_)
    · refine to_n 3 (fr' := (31, [(0, .ref 26), (1, .int (nI k1))], [.int 1, .int (nI k1), .ref 26], gh S a b sc ar lo, ex, 0, 0)) rfl ?_
      refine to_addN (x := k1) (y := 1) rfl ?_
      refine to_putR (h' := gh S a b (upd sc 2605 (nI (k1 + 1))) ar lo) rfl rfl rfl (Nat.le_of_ble_eq_true rfl) rfl rfl ?_
      have hI5 := ip_2605 (v := (nI (k1 + 1))) hI (rl_n (n := (k1 + 1)) (by omega))
      have hF5 := fr_s (k := 2605) (v := (nI (k1 + 1))) hF (by decide)
      refine to_n 2 (fr' := (37, [(0, .ref 26), (1, .int (nI k1))], [.int (nI k1), .ref 26], gh S a b (upd sc 2605 (nI (k1 + 1))) ar lo, ex, 0, 0)) rfl ?_
      refine to_cp (q := 67) (M1 := an_X7_signAt) (rest := []) rfl rfl (by decide) rfl ⟨_, rfl⟩ (sf_X7_signAt hW hI5 k1 (by omega) (d + 2)) (fun x6 hx6 => ?_)
      refine to_eq (fr' := (40, [(0, .ref 26), (1, .int (nI k1))], [.int x6], gh S a b (upd sc 2605 (nI (k1 + 1))) ar lo, ex, 0, 0)) rfl ?_
      exact to_rt (i := .ireturn) (tg := []) rfl rfl ⟨_, _, _, ⟨hI5, hF5, trivial⟩, rfl⟩
    · refine to_n 2 (fr' := (24, [(0, .ref 26), (1, .int (nI k1))], [.int (nI k1), .ref 26], gh S a b sc ar lo, ex, 0, 0)) rfl ?_
      refine to_ci (q := 62) (M1 := an_X7_takeNumber) (rest := []) rfl rfl (by decide) rfl ⟨_, rfl⟩ (sf_X7_takeNumber hW hI k1 (by omega) (d + 1)) (fun x7 sc7 ar7 hx7 => ?_)
      obtain ⟨hI7, hG7, hx7⟩ := hx7
      have hF7 := fr_t hF hG7 (by decide) (by decide)
      refine to_eq (fr' := (27, [(0, .ref 26), (1, .int (nI k1))], [.int x7], gh S a b sc7 ar7 lo, ex, 0, 0)) rfl ?_
      exact to_rt (i := .ireturn) (tg := []) rfl rfl ⟨_, _, _, ⟨hI7, hF7, trivial⟩, rfl⟩
  · refine to_n 2 (fr' := (10, [(0, .ref 26), (1, .int (nI k1))], [.int (nI k1), .ref 26], gh S a b sc ar lo, ex, 0, 0)) rfl ?_
    refine to_ci (q := 63) (M1 := an_X7_takeWord) (rest := []) rfl rfl (by decide) rfl ⟨_, rfl⟩ (sf_X7_takeWord hW hI k1 (by omega) d) (fun x8 sc8 ar8 hx8 => ?_)
    obtain ⟨hI8, hG8, hx8⟩ := hx8
    have hF8 := fr_t hF hG8 (by decide) (by decide)
    refine to_eq (fr' := (13, [(0, .ref 26), (1, .int (nI k1))], [.int x8], gh S a b sc8 ar8 lo, ex, 0, 0)) rfl ?_
    exact to_rt (i := .ireturn) (tg := []) rfl rfl ⟨_, _, _, ⟨hI8, hF8, trivial⟩, rfl⟩
set_option maxRecDepth 20000 in
theorem sf_X7_add {X : Nat × (Nat → Int32)} {S a b : Nat} {sc : Nat → Int32} {ar : Nat → Nat → Int32} {lo : Nat → Int64} {ex : Bool} (hW : Wd S a b) (hI : Iv S sc ar) (x1 : Int32) (x2 : Int32) (d : Nat)  : cv X S a b (d + 1) 58 [.ref 26, .int x1, .int x2] sc ar lo ex (fun sc' ar' => Iv S sc' ar' ∧ Fr [2602] [27, 28] sc ar sc' ar') := by
  obtain ⟨ha1, ha8, hb1, hb8, hab, hS1, hS⟩ := id hW
  refine cv_of (M := an_X7_add) rfl (Nat.le_of_ble_eq_true rfl) ?_
  have hF : Fr [2602] [27, 28] sc ar sc ar := fr_0
  refine to_eq (fr' := (0, [(0, .ref 26), (1, .int x1), (2, .int x2)], [], gh S a b sc ar lo, ex, 0, 0)) rfl ?_
  refine to_n 1 (fr' := (1, [(0, .ref 26), (1, .int x1), (2, .int x2)], [.ref 26], gh S a b sc ar lo, ex, 0, 0)) rfl ?_
  obtain ⟨n1, hn1, e1⟩ := iv_s2602 hI
  refine to_getR (v := (nI n1)) rfl rfl rfl rfl e1 ?_
  refine to_n 1 (fr' := (5, [(0, .ref 26), (1, .int x1), (2, .int x2)], [.ref 26, .int (nI n1)], gh S a b sc ar lo, ex, 0, 0)) rfl ?_
  refine to_get rfl rfl rfl rfl ?_
  refine to_len rfl (by decide) rfl (by decide) ?_
  refine to_eq (fr' := (9, [(0, .ref 26), (1, .int x1), (2, .int x2)], [.int (nI 401), .int (nI n1)], gh S a b sc ar lo, ex, 0, 0)) rfl ?_
  refine to_nc_ge (t := 42) (x := n1) (y := 401) rfl (by omega) (by omega) (fun q2 => ?_) (fun q2 => ?_)
  · exact to_rt (i := .return_) (tg := []) rfl rfl ⟨_, _, ⟨hI, hF⟩, rfl⟩
  · refine to_n 1 (fr' := (13, [(0, .ref 26), (1, .int x1), (2, .int x2)], [.ref 26], gh S a b sc ar lo, ex, 0, 0)) rfl ?_
    refine to_get rfl rfl rfl rfl ?_
    refine to_n 1 (fr' := (17, [(0, .ref 26), (1, .int x1), (2, .int x2)], [.ref 26, .ref 27], gh S a b sc ar lo, ex, 0, 0)) rfl ?_
    refine to_getR (v := (nI n1)) rfl rfl rfl rfl e1 ?_
    refine to_n 1 (fr' := (21, [(0, .ref 26), (1, .int x1), (2, .int x2)], [.int x2, .int (nI n1), .ref 27], gh S a b sc ar lo, ex, 0, 0)) rfl ?_
    refine to_iasR (i := n1) (h' := gh S a b sc (uA ar 27 (upd (ar 27) n1 x2)) lo) rfl rfl (by omega) (by omega) rfl ?_
    have hI3 := ia_27 (g := (upd (ar 27) n1 x2)) hI
    have hF3 := fr_a (c := 27) (g := (upd (ar 27) n1 x2)) hF (by decide)
    refine to_n 1 (fr' := (23, [(0, .ref 26), (1, .int x1), (2, .int x2)], [.ref 26], gh S a b sc (uA ar 27 (upd (ar 27) n1 x2)) lo, ex, 0, 0)) rfl ?_
    refine to_get rfl rfl rfl rfl ?_
    refine to_n 1 (fr' := (27, [(0, .ref 26), (1, .int x1), (2, .int x2)], [.ref 26, .ref 28], gh S a b sc (uA ar 27 (upd (ar 27) n1 x2)) lo, ex, 0, 0)) rfl ?_
    refine to_getR (v := (nI n1)) rfl rfl rfl rfl e1 ?_
    refine to_n 1 (fr' := (31, [(0, .ref 26), (1, .int x1), (2, .int x2)], [.int x1, .int (nI n1), .ref 28], gh S a b sc (uA ar 27 (upd (ar 27) n1 x2)) lo, ex, 0, 0)) rfl ?_
    refine to_iasR (i := n1) (h' := gh S a b sc (uA (uA ar 27 (upd (ar 27) n1 x2)) 28 (upd ((uA ar 27 (upd (ar 27) n1 x2)) 28) n1 x1)) lo) rfl rfl (by omega) (by omega) rfl ?_
    have hI4 := ia_28 (g := (upd ((uA ar 27 (upd (ar 27) n1 x2)) 28) n1 x1)) hI3
    have hF4 := fr_a (c := 28) (g := (upd ((uA ar 27 (upd (ar 27) n1 x2)) 28) n1 x1)) hF3 (by decide)
    refine to_n 2 (fr' := (34, [(0, .ref 26), (1, .int x1), (2, .int x2)], [.ref 26, .ref 26], gh S a b sc (uA (uA ar 27 (upd (ar 27) n1 x2)) 28 (upd ((uA ar 27 (upd (ar 27) n1 x2)) 28) n1 x1)) lo, ex, 0, 0)) rfl ?_
    refine to_getR (v := (nI n1)) rfl rfl rfl rfl e1 ?_
    refine to_n 1 (fr' := (38, [(0, .ref 26), (1, .int x1), (2, .int x2)], [.int 1, .int (nI n1), .ref 26], gh S a b sc (uA (uA ar 27 (upd (ar 27) n1 x2)) 28 (upd ((uA ar 27 (upd (ar 27) n1 x2)) 28) n1 x1)) lo, ex, 0, 0)) rfl ?_
    refine to_addN (x := n1) (y := 1) rfl ?_
    refine to_putR (h' := gh S a b (upd sc 2602 (nI (n1 + 1))) (uA (uA ar 27 (upd (ar 27) n1 x2)) 28 (upd ((uA ar 27 (upd (ar 27) n1 x2)) 28) n1 x1)) lo) rfl rfl rfl (Nat.le_of_ble_eq_true rfl) rfl rfl ?_
    have hI5 := ip_2602 (v := (nI (n1 + 1))) hI4 (rl_n (n := (n1 + 1)) (by omega))
    have hF5 := fr_s (k := 2602) (v := (nI (n1 + 1))) hF4 (by decide)
    exact to_rt (i := .return_) (tg := []) rfl rfl ⟨_, _, ⟨hI5, hF5⟩, rfl⟩
set_option maxRecDepth 20000 in
theorem sf_X7_scan {X : Nat × (Nat → Int32)} {S a b : Nat} {sc : Nat → Int32} {ar : Nat → Nat → Int32} {lo : Nat → Int64} {ex : Bool} (hW : Wd S a b) (hI : Iv S sc ar) (k1 : Nat) (hk1 : k1 < 401) (d : Nat)  : cv X S a b (d + 5) 57 [.ref 26, .int (nI k1)] sc ar lo ex (fun sc' ar' => Iv S sc' ar' ∧ Fr [2602, 2604, 2605] [27, 28] sc ar sc' ar') := by
  obtain ⟨ha1, ha8, hb1, hb8, hab, hS1, hS⟩ := id hW
  refine cv_of (M := an_X7_scan) rfl (Nat.le_of_ble_eq_true rfl) ?_
  have hF : Fr [2602, 2604, 2605] [27, 28] sc ar sc ar := fr_0
  refine to_eq (fr' := (0, [(0, .ref 26), (1, .int (nI k1))], [], gh S a b sc ar lo, ex, 0, 0)) rfl ?_
  have c119 : ∀  (sc1 : Nat → Int32) (ar1 : Nat → Nat → Int32), Iv S sc1 ar1 → Fr [2602, 2604, 2605] [27, 28] sc ar sc1 ar1 → ag_To X (d + 4) an_X7_scan (119, [(0, .ref 26)], [], gh S a b sc1 ar1 lo, ex, 0, 0) (qv S a b lo ex (fun sc' ar' => Iv S sc' ar' ∧ Fr [2602, 2604, 2605] [27, 28] sc ar sc' ar')) := by
    intro sc1 ar1 hI1 hF1
    refine to_n 2 (fr' := (121, [(0, .ref 26)], [.ref 26, .ref 26], gh S a b sc1 ar1 lo, ex, 0, 0)) rfl ?_
    obtain ⟨n2, hn2, e2⟩ := iv_s2604 hI1
    refine to_getR (v := (nI n2)) rfl rfl rfl rfl e2 ?_
    refine to_n 1 (fr' := (125, [(0, .ref 26)], [.int (-1), .int (nI n2), .ref 26], gh S a b sc1 ar1 lo, ex, 0, 0)) rfl ?_
    refine to_cv (q := 58) (M1 := an_X7_add) (rest := []) rfl rfl (by decide) rfl ⟨_, rfl⟩ (sf_X7_add hW hI1 (nI n2) (-1) (d + 3)) (fun sc3 ar3 hx3 => ?_)
    obtain ⟨hI3, hG3⟩ := hx3
    have hF3 := fr_t hF1 hG3 (by decide) (by decide)
    refine to_eq (fr' := (128, [(0, .ref 26)], [], gh S a b sc3 ar3 lo, ex, 0, 0)) rfl ?_
    exact to_rt (i := .return_) (tg := []) rfl rfl ⟨_, _, ⟨hI3, hF3⟩, rfl⟩
  have c25 : ∀ m : Nat, ∀ (i : Nat) (sc4 : Nat → Int32) (ar4 : Nat → Nat → Int32), i + m = 400 → Iv S sc4 ar4 → Fr [2602, 2604, 2605] [27, 28] sc ar sc4 ar4 → ag_To X (d + 4) an_X7_scan (25, [(0, .ref 26), (1, .int (nI k1)), (2, .int (nI i))], [], gh S a b sc4 ar4 lo, ex, 0, 0) (qv S a b lo ex (fun sc' ar' => Iv S sc' ar' ∧ Fr [2602, 2604, 2605] [27, 28] sc ar sc' ar')) := by
    intro m
    induction m with
    | zero =>
      intro i sc4 ar4 hm hI4 hF4
      refine to_n 2 (fr' := (29, [(0, .ref 26), (1, .int (nI k1)), (2, .int (nI i))], [.int 400, .int (nI i)], gh S a b sc4 ar4 lo, ex, 0, 0)) rfl ?_
      refine to_nc_ge_T (t := 119) (x := i) (y := 400) rfl (by omega) (by omega) (by omega) ?_
      refine to_lv (lv := [(0, .ref 26)]) rfl ⟨rfl, trivial⟩ ?_
      exact c119 sc4 ar4 hI4 hF4
    | succ m ih =>
      intro i sc4 ar4 hm hI4 hF4
      have c84 : ∀  (sc5 : Nat → Int32) (ar5 : Nat → Nat → Int32), Iv S sc5 ar5 → Fr [2602, 2604, 2605] [27, 28] sc ar sc5 ar5 → ag_To X (d + 4) an_X7_scan (84, [(0, .ref 26), (1, .int (nI k1)), (2, .int (nI i))], [], gh S a b sc5 ar5 lo, ex, 0, 0) (qv S a b lo ex (fun sc' ar' => Iv S sc' ar' ∧ Fr [2602, 2604, 2605] [27, 28] sc ar sc' ar')) := by
        intro sc5 ar5 hI5 hF5
        refine to_n 1 (fr' := (85, [(0, .ref 26), (1, .int (nI k1)), (2, .int (nI i))], [.ref 26], gh S a b sc5 ar5 lo, ex, 0, 0)) rfl ?_
        obtain ⟨n6, hn6, e6⟩ := iv_s2605 hI5
        refine to_getR (v := (nI n6)) rfl rfl rfl rfl e6 ?_
        refine to_n 1 (fr' := (89, [(0, .ref 26), (1, .int (nI k1)), (2, .int (nI i))], [.ref 26, .int (nI n6)], gh S a b sc5 ar5 lo, ex, 0, 0)) rfl ?_
        obtain ⟨n7, hn7, e7⟩ := iv_s2604 hI5
        refine to_getR (v := (nI n7)) rfl rfl rfl rfl e7 ?_
        refine to_nc_lt (t := 98) (x := n6) (y := n7) rfl (by omega) (by omega) (fun q8 => ?_) (fun q8 => ?_)
        · refine to_n 1 (fr' := (99, [(0, .ref 26), (1, .int (nI k1)), (2, .int (nI i))], [.ref 26], gh S a b sc5 ar5 lo, ex, 0, 0)) rfl ?_
          refine to_getR (v := (nI n6)) rfl rfl rfl rfl e6 ?_
          refine to_n 5 (fr' := (107, [(0, .ref 26), (1, .int (nI k1)), (2, .int (nI i)), (3, .int (nI n6))], [.int (nI n6), .ref 26, .int (nI n6), .ref 26], gh S a b sc5 ar5 lo, ex, 0, 0)) rfl ?_
          refine to_ci (q := 59) (M1 := an_X7_takeToken) (rest := [.int (nI n6), .ref 26]) rfl rfl (by decide) rfl ⟨_, rfl⟩ (sf_X7_takeToken hW hI5 n6 (by omega) d) (fun x9 sc9 ar9 hx9 => ?_)
          obtain ⟨hI9, hG9, hx9⟩ := hx9
          have hF9 := fr_t hF5 hG9 (by decide) (by decide)
          refine to_eq (fr' := (110, [(0, .ref 26), (1, .int (nI k1)), (2, .int (nI i)), (3, .int (nI n6))], [.int x9, .int (nI n6), .ref 26], gh S a b sc9 ar9 lo, ex, 0, 0)) rfl ?_
          refine to_cv (q := 58) (M1 := an_X7_add) (rest := []) rfl rfl (by decide) rfl ⟨_, rfl⟩ (sf_X7_add hW hI9 (nI n6) x9 (d + 3)) (fun sc10 ar10 hx10 => ?_)
          obtain ⟨hI10, hG10⟩ := hx10
          have hF10 := fr_t hF9 hG10 (by decide) (by decide)
          refine to_eq (fr' := (113, [(0, .ref 26), (1, .int (nI k1)), (2, .int (nI i)), (3, .int (nI n6))], [], gh S a b sc10 ar10 lo, ex, 0, 0)) rfl ?_
          refine to_n 1 (fr' := (116, [(0, .ref 26), (1, .int (nI k1)), (2, .int ((nI i) + 1)), (3, .int (nI n6))], [], gh S a b sc10 ar10 lo, ex, 0, 0)) rfl ?_
          rw [nI_1 i]
          refine to_n 1 (fr' := (25, [(0, .ref 26), (1, .int (nI k1)), (2, .int (nI (i + 1))), (3, .int (nI n6))], [], gh S a b sc10 ar10 lo, ex, 0, 0)) rfl ?_
          refine to_lv (lv := [(0, .ref 26), (1, .int (nI k1)), (2, .int (nI (i + 1)))]) rfl ⟨rfl, rfl, rfl, trivial⟩ ?_
          exact ih (i + 1) sc10 ar10 (by omega) hI10 hF10
        · refine to_n 1 (fr' := (119, [(0, .ref 26), (1, .int (nI k1)), (2, .int (nI i))], [], gh S a b sc5 ar5 lo, ex, 0, 0)) rfl ?_
          refine to_lv (lv := [(0, .ref 26)]) rfl ⟨rfl, trivial⟩ ?_
          exact c119 sc5 ar5 hI5 hF5
      have c32 : ∀ m : Nat, ∀ (p : Nat) (sc11 : Nat → Int32) (ar11 : Nat → Nat → Int32), 400 ≤ p + m → sc11 2605 = nI p → p ≤ 400 → Iv S sc11 ar11 → Fr [2602, 2604, 2605] [27, 28] sc ar sc11 ar11 → ag_To X (d + 4) an_X7_scan (32, [(0, .ref 26), (1, .int (nI k1)), (2, .int (nI i))], [], gh S a b sc11 ar11 lo, ex, 0, 0) (qv S a b lo ex (fun sc' ar' => Iv S sc' ar' ∧ Fr [2602, 2604, 2605] [27, 28] sc ar sc' ar')) := by
        intro m
        induction m with
        | zero =>
          intro p sc11 ar11 hm hc32_0 hc32_1 hI11 hF11
          refine to_n 1 (fr' := (33, [(0, .ref 26), (1, .int (nI k1)), (2, .int (nI i))], [.ref 26], gh S a b sc11 ar11 lo, ex, 0, 0)) rfl ?_
          refine to_getR (v := (nI p)) rfl rfl rfl rfl hc32_0 ?_
          refine to_n 1 (fr' := (37, [(0, .ref 26), (1, .int (nI k1)), (2, .int (nI i))], [.ref 26, .int (nI p)], gh S a b sc11 ar11 lo, ex, 0, 0)) rfl ?_
          obtain ⟨n12, hn12, e12⟩ := iv_s2604 hI11
          refine to_getR (v := (nI n12)) rfl rfl rfl rfl e12 ?_
          refine to_nc_ge_T (t := 84) (x := p) (y := n12) rfl (by omega) (by omega) (by omega) ?_
          exact c84 sc11 ar11 hI11 hF11
        | succ m ih =>
          intro p sc11 ar11 hm hc32_0 hc32_1 hI11 hF11
          refine to_n 1 (fr' := (33, [(0, .ref 26), (1, .int (nI k1)), (2, .int (nI i))], [.ref 26], gh S a b sc11 ar11 lo, ex, 0, 0)) rfl ?_
          refine to_getR (v := (nI p)) rfl rfl rfl rfl hc32_0 ?_
          refine to_n 1 (fr' := (37, [(0, .ref 26), (1, .int (nI k1)), (2, .int (nI i))], [.ref 26, .int (nI p)], gh S a b sc11 ar11 lo, ex, 0, 0)) rfl ?_
          obtain ⟨n13, hn13, e13⟩ := iv_s2604 hI11
          refine to_getR (v := (nI n13)) rfl rfl rfl rfl e13 ?_
          refine to_nc_ge (t := 84) (x := p) (y := n13) rfl (by omega) (by omega) (fun q14 => ?_) (fun q14 => ?_)
          · exact c84 sc11 ar11 hI11 hF11
          · refine to_n 1 (fr' := (44, [(0, .ref 26), (1, .int (nI k1)), (2, .int (nI i))], [.ref 26], gh S a b sc11 ar11 lo, ex, 0, 0)) rfl ?_
            refine to_get rfl rfl rfl rfl ?_
            refine to_n 1 (fr' := (48, [(0, .ref 26), (1, .int (nI k1)), (2, .int (nI i))], [.ref 26, .ref 23], gh S a b sc11 ar11 lo, ex, 0, 0)) rfl ?_
            refine to_getR (v := (nI p)) rfl rfl rfl rfl hc32_0 ?_
            refine to_balR (i := p) (v := ((ar11 23) p)) rfl rfl (by omega) (by omega) rfl ?_
            refine to_n 1 (fr' := (54, [(0, .ref 26), (1, .int (nI k1)), (2, .int (nI i))], [.int 32, .int ((ar11 23) p)], gh S a b sc11 ar11 lo, ex, 0, 0)) rfl ?_
            refine to_ic_eq (t := 71) rfl (fun q15 => ?_) (fun q15 => ?_)
            · refine to_n 2 (fr' := (73, [(0, .ref 26), (1, .int (nI k1)), (2, .int (nI i))], [.ref 26, .ref 26], gh S a b sc11 ar11 lo, ex, 0, 0)) rfl ?_
              refine to_getR (v := (nI p)) rfl rfl rfl rfl hc32_0 ?_
              refine to_n 1 (fr' := (77, [(0, .ref 26), (1, .int (nI k1)), (2, .int (nI i))], [.int 1, .int (nI p), .ref 26], gh S a b sc11 ar11 lo, ex, 0, 0)) rfl ?_
              refine to_addN (x := p) (y := 1) rfl ?_
              refine to_putR (h' := gh S a b (upd sc11 2605 (nI (p + 1))) ar11 lo) rfl rfl rfl (Nat.le_of_ble_eq_true rfl) rfl rfl ?_
              have hI16 := ip_2605 (v := (nI (p + 1))) hI11 (rl_n (n := (p + 1)) (by omega))
              have hF16 := fr_s (k := 2605) (v := (nI (p + 1))) hF11 (by decide)
              refine to_n 1 (fr' := (32, [(0, .ref 26), (1, .int (nI k1)), (2, .int (nI i))], [], gh S a b (upd sc11 2605 (nI (p + 1))) ar11 lo, ex, 0, 0)) rfl ?_
              exact ih (p + 1) (upd sc11 2605 (nI (p + 1))) ar11 (by omega) (rfl) (by omega) hI16 hF16
            · refine to_n 1 (fr' := (58, [(0, .ref 26), (1, .int (nI k1)), (2, .int (nI i))], [.ref 26], gh S a b sc11 ar11 lo, ex, 0, 0)) rfl ?_
              refine to_get rfl rfl rfl rfl ?_
              refine to_n 1 (fr' := (62, [(0, .ref 26), (1, .int (nI k1)), (2, .int (nI i))], [.ref 26, .ref 23], gh S a b sc11 ar11 lo, ex, 0, 0)) rfl ?_
              refine to_getR (v := (nI p)) rfl rfl rfl rfl hc32_0 ?_
              refine to_balR (i := p) (v := ((ar11 23) p)) rfl rfl (by omega) (by omega) rfl ?_
              refine to_n 1 (fr' := (68, [(0, .ref 26), (1, .int (nI k1)), (2, .int (nI i))], [.int 10, .int ((ar11 23) p)], gh S a b sc11 ar11 lo, ex, 0, 0)) rfl ?_
              refine to_ic_ne (t := 84) rfl (fun q17 => ?_) (fun q17 => ?_)
              · exact c84 sc11 ar11 hI11 hF11
              · refine to_n 2 (fr' := (73, [(0, .ref 26), (1, .int (nI k1)), (2, .int (nI i))], [.ref 26, .ref 26], gh S a b sc11 ar11 lo, ex, 0, 0)) rfl ?_
                refine to_getR (v := (nI p)) rfl rfl rfl rfl hc32_0 ?_
                refine to_n 1 (fr' := (77, [(0, .ref 26), (1, .int (nI k1)), (2, .int (nI i))], [.int 1, .int (nI p), .ref 26], gh S a b sc11 ar11 lo, ex, 0, 0)) rfl ?_
                refine to_addN (x := p) (y := 1) rfl ?_
                refine to_putR (h' := gh S a b (upd sc11 2605 (nI (p + 1))) ar11 lo) rfl rfl rfl (Nat.le_of_ble_eq_true rfl) rfl rfl ?_
                have hI18 := ip_2605 (v := (nI (p + 1))) hI11 (rl_n (n := (p + 1)) (by omega))
                have hF18 := fr_s (k := 2605) (v := (nI (p + 1))) hF11 (by decide)
                refine to_n 1 (fr' := (32, [(0, .ref 26), (1, .int (nI k1)), (2, .int (nI i))], [], gh S a b (upd sc11 2605 (nI (p + 1))) ar11 lo, ex, 0, 0)) rfl ?_
                exact ih (p + 1) (upd sc11 2605 (nI (p + 1))) ar11 (by omega) (rfl) (by omega) hI18 hF18
      refine to_n 2 (fr' := (29, [(0, .ref 26), (1, .int (nI k1)), (2, .int (nI i))], [.int 400, .int (nI i)], gh S a b sc4 ar4 lo, ex, 0, 0)) rfl ?_
      refine to_nc_ge_F (t := 119) (x := i) (y := 400) rfl (by omega) (by omega) (by omega) ?_
      obtain ⟨n19, hn19, e19⟩ := iv_s2605 hI4
      exact c32 (400 - n19) n19 sc4 ar4 (by omega) (e19) (by omega) hI4 hF4
  refine to_n 3 (fr' := (3, [(0, .ref 26), (1, .int (nI k1))], [.ref 26, .int (nI k1), .ref 26], gh S a b sc ar lo, ex, 0, 0)) rfl ?_
  refine to_get rfl rfl rfl rfl ?_
  refine to_len rfl (by decide) rfl (by decide) ?_
  refine to_eq (fr' := (7, [(0, .ref 26), (1, .int (nI k1))], [.int (nI 400), .int (nI k1), .ref 26], gh S a b sc ar lo, ex, 0, 0)) rfl ?_
  refine to_minN (x := k1) (y := 400) rfl rfl (by omega) (by omega) (by decide) ?_
  refine to_putR (h' := gh S a b (upd sc 2604 (nI k1)) ar lo) rfl rfl rfl (Nat.le_of_ble_eq_true rfl) rfl rfl ?_
  have hI20 := ip_2604 (v := (nI k1)) hI (rl_n (n := k1) (by omega))
  have hF20 := fr_s (k := 2604) (v := (nI k1)) hF (by decide)
  refine to_n 2 (fr' := (15, [(0, .ref 26), (1, .int (nI k1))], [.int 0, .ref 26], gh S a b (upd sc 2604 (nI k1)) ar lo, ex, 0, 0)) rfl ?_
  refine to_putR (h' := gh S a b (upd (upd sc 2604 (nI k1)) 2605 0) ar lo) rfl rfl rfl (Nat.le_of_ble_eq_true rfl) rfl rfl ?_
  have hI21 := ip_2605 (v := 0) hI20 (rl_n (n := 0) (by omega))
  have hF21 := fr_s (k := 2605) (v := 0) hF20 (by decide)
  refine to_n 2 (fr' := (20, [(0, .ref 26), (1, .int (nI k1))], [.int 0, .ref 26], gh S a b (upd (upd sc 2604 (nI k1)) 2605 0) ar lo, ex, 0, 0)) rfl ?_
  refine to_putR (h' := gh S a b (upd (upd (upd sc 2604 (nI k1)) 2605 0) 2602 0) ar lo) rfl rfl rfl (Nat.le_of_ble_eq_true rfl) rfl rfl ?_
  have hI22 := ip_2602 (v := 0) hI21 (rl_n (n := 0) (by omega))
  have hF22 := fr_s (k := 2602) (v := 0) hF21 (by decide)
  refine to_n 2 (fr' := (25, [(0, .ref 26), (1, .int (nI k1)), (2, .int 0)], [], gh S a b (upd (upd (upd sc 2604 (nI k1)) 2605 0) 2602 0) ar lo, ex, 0, 0)) rfl ?_
  exact c25 (400 - 0) 0 (upd (upd (upd sc 2604 (nI k1)) 2605 0) 2602 0) ar (by omega) hI22 hF22
