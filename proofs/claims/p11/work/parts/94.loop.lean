/-! the law, call after call -/
theorem lg_self (x : Int64) : lg_cmp x x = 0 := by
  unfold lg_cmp
  rw [if_neg (Int64.lt_irrefl), if_pos rfl]
set_option maxRecDepth 20000 in
theorem lw_loop {X : Nat × (Nat → Int32)} {S a b B BS : Nat} (hW : Wd S a b) (hX : X.1 ≤ 3074) (d : Nat) : ∀ (m i : Nat) (sc : Nat → Int32) (ar : Nat → Nat → Int32) (lo : Nat → Int64) (ex : Bool) (nc ns : Nat), X.1 ≤ i + 6 * m → i ≤ 4000 → Iv S sc ar → Lw sc ar → (∃ n l0 h : Nat, Rl S a b n l0 h sc ar) → nc + m ≤ B → ns + 6 * m ≤ BS → ag_To X (d + 33) an_law (43, [(0, .ref 1000000), (1, .ref 0), (2, .ref 49), (3, .ref 85), (4, .int (nI i))], [], gh S a b sc ar lo, ex, nc, ns) (fun o => ∃ h9 ex9 nc9 ns9, nc9 ≤ B ∧ ns9 ≤ BS ∧ o = .inl (some (.int 1), h9, ex9, nc9, ns9)) := by
  obtain ⟨ha1, ha8, hb1, hb8, hab, hS1, hS⟩ := id hW
  intro m
  induction m with
  | zero =>
    intro i sc ar lo ex nc ns hm hi hI hLw hR0 hB hBS
    refine to_n 2 (fr' := (46, [(0, .ref 1000000), (1, .ref 0), (2, .ref 49), (3, .ref 85), (4, .int (nI i))], [.ref 1000000, .int (nI i)], gh S a b sc ar lo, ex, nc, ns)) rfl ?_
    refine to_lenx rfl ?_
    refine to_n 1 (fr' := (49, [(0, .ref 1000000), (1, .ref 0), (2, .ref 49), (3, .ref 85), (4, .int (nI i))], [.int 6, .int (nI X.1), .int (nI i)], gh S a b sc ar lo, ex, nc, ns)) rfl ?_
    rcases Nat.lt_or_ge X.1 6 with w | w
    · refine to_n 1 (fr' := (50, [(0, .ref 1000000), (1, .ref 0), (2, .ref 49), (3, .ref 85), (4, .int (nI i))], [.int ((nI X.1) - (nI 6)), .int (nI i)], gh S a b sc ar lo, ex, nc, ns)) rfl ?_
      refine to_ic_gt_T (t := 795) rfl (neg_lt (by omega) (sub_neg w (by omega))) ?_
      refine to_n 1 (fr' := (796, [(0, .ref 1000000), (1, .ref 0), (2, .ref 49), (3, .ref 85), (4, .int (nI i))], [.int 1], gh S a b sc ar lo, ex, nc, ns)) rfl ?_
      exact to_rt (i := .ireturn) (tg := []) rfl rfl ⟨_, _, _, _, by omega, by omega, rfl⟩
    · refine to_subN (x := X.1) (y := 6) rfl (by omega) ?_
      refine to_nc_gt_T (t := 795) (x := i) (y := X.1 - 6) rfl (by omega) (by omega) (by omega) ?_
      refine to_n 1 (fr' := (796, [(0, .ref 1000000), (1, .ref 0), (2, .ref 49), (3, .ref 85), (4, .int (nI i))], [.int 1], gh S a b sc ar lo, ex, nc, ns)) rfl ?_
      exact to_rt (i := .ireturn) (tg := []) rfl rfl ⟨_, _, _, _, by omega, by omega, rfl⟩
  | succ m ih =>
    intro i sc ar lo ex nc ns hm hi hI hLw hR0 hB hBS
    obtain ⟨n, l0, h, hR⟩ := hR0
    obtain ⟨⟨hn9, hl7, hh24⟩, q1, q2, q3, q4, q5, q6, q7⟩ := id hR.2.2.1
    refine to_n 2 (fr' := (46, [(0, .ref 1000000), (1, .ref 0), (2, .ref 49), (3, .ref 85), (4, .int (nI i))], [.ref 1000000, .int (nI i)], gh S a b sc ar lo, ex, nc, ns)) rfl ?_
    refine to_lenx rfl ?_
    refine to_n 1 (fr' := (49, [(0, .ref 1000000), (1, .ref 0), (2, .ref 49), (3, .ref 85), (4, .int (nI i))], [.int 6, .int (nI X.1), .int (nI i)], gh S a b sc ar lo, ex, nc, ns)) rfl ?_
    rcases Nat.lt_or_ge X.1 6 with w | w
    · refine to_n 1 (fr' := (50, [(0, .ref 1000000), (1, .ref 0), (2, .ref 49), (3, .ref 85), (4, .int (nI i))], [.int ((nI X.1) - (nI 6)), .int (nI i)], gh S a b sc ar lo, ex, nc, ns)) rfl ?_
      refine to_ic_gt_T (t := 795) rfl (neg_lt (by omega) (sub_neg w (by omega))) ?_
      refine to_n 1 (fr' := (796, [(0, .ref 1000000), (1, .ref 0), (2, .ref 49), (3, .ref 85), (4, .int (nI i))], [.int 1], gh S a b sc ar lo, ex, nc, ns)) rfl ?_
      exact to_rt (i := .ireturn) (tg := []) rfl rfl ⟨_, _, _, _, by omega, by omega, rfl⟩
    · refine to_subN (x := X.1) (y := 6) rfl (by omega) ?_
      refine to_nc_gt (t := 795) (x := i) (y := X.1 - 6) rfl (by omega) (by omega) (fun q => ?_) (fun q => ?_)
      · refine to_n 1 (fr' := (796, [(0, .ref 1000000), (1, .ref 0), (2, .ref 49), (3, .ref 85), (4, .int (nI i))], [.int 1], gh S a b sc ar lo, ex, nc, ns)) rfl ?_
        exact to_rt (i := .ireturn) (tg := []) rfl rfl ⟨_, _, _, _, by omega, by omega, rfl⟩
      · refine to_n 2 (fr' := (56, [(0, .ref 1000000), (1, .ref 0), (2, .ref 49), (3, .ref 85), (4, .int (nI i))], [.int (nI i), .ref 1000000], gh S a b sc ar lo, ex, nc, ns)) rfl ?_
        refine to_ldx (i := i) rfl (by omega) (by omega) ?_
        refine to_n 2 (fr' := (60, [(0, .ref 1000000), (1, .ref 0), (2, .ref 49), (3, .ref 85), (4, .int (nI i))], [.int ((X.2 i) &&& 15)], gh S a b sc ar lo, ex, nc, ns)) rfl ?_
        refine to_tb (x := ((X.2 i) &&& 15)) rfl rfl (by decide) (fun t ht => ?_)
        obtain rfl | rfl | rfl | rfl | rfl | rfl | rfl | rfl | rfl | rfl | rfl | rfl | rfl | rfl | rfl | rfl | rfl : t = 140 ∨ t = 192 ∨ t = 248 ∨ t = 276 ∨ t = 328 ∨ t = 401 ∨ t = 441 ∨ t = 454 ∨ t = 482 ∨ t = 522 ∨ t = 597 ∨ t = 625 ∨ t = 665 ∨ t = 705 ∨ t = 733 ∨ t = 761 ∨ t = 789 := by simpa using to_mem (l := [140, 192, 248, 276, 328, 401, 441, 454, 482, 522, 597, 625, 665, 705, 733, 761, 789]) ht (by decide)
        · refine to_eq (fr' := (140, [(0, .ref 1000000), (1, .ref 0), (2, .ref 49), (3, .ref 85), (4, .int (nI i))], [], gh S a b sc ar lo, ex, nc, ns)) rfl ?_
          refine to_n 4 (fr' := (145, [(0, .ref 1000000), (1, .ref 0), (2, .ref 49), (3, .ref 85), (4, .int (nI i))], [.int 1, .int (nI i), .ref 1000000, .ref 0], gh S a b sc ar lo, ex, nc, ns)) rfl ?_
          refine to_addN (x := i) (y := 1) rfl ?_
          refine to_ldx (i := (i + 1)) rfl (by omega) (by omega) ?_
          refine to_n 3 (fr' := (151, [(0, .ref 1000000), (1, .ref 0), (2, .ref 49), (3, .ref 85), (4, .int (nI i))], [.int 2, .int (nI i), .ref 1000000, .int (X.2 (i + 1)), .ref 0], gh S a b sc ar lo, ex, nc, ns)) rfl ?_
          refine to_addN (x := i) (y := 2) rfl ?_
          refine to_ldx (i := (i + 2)) rfl (by omega) (by omega) ?_
          refine to_n 3 (fr' := (157, [(0, .ref 1000000), (1, .ref 0), (2, .ref 49), (3, .ref 85), (4, .int (nI i))], [.int 3, .int (nI i), .ref 1000000, .int (X.2 (i + 2)), .int (X.2 (i + 1)), .ref 0], gh S a b sc ar lo, ex, nc, ns)) rfl ?_
          refine to_addN (x := i) (y := 3) rfl ?_
          refine to_ldx (i := (i + 3)) rfl (by omega) (by omega) ?_
          refine to_n 1 (fr' := (160, [(0, .ref 1000000), (1, .ref 0), (2, .ref 49), (3, .ref 85), (4, .int (nI i))], [.ref 85, .int (X.2 (i + 3)), .int (X.2 (i + 2)), .int (X.2 (i + 1)), .ref 0], gh S a b sc ar lo, ex, nc, ns)) rfl ?_
          refine to_cl (q := 170) (M1 := an_L_house) (rest := []) rfl rfl (by decide) rfl trivial (lc_house hW hI (X.2 (i + 1)) (X.2 (i + 2)) (X.2 (i + 3)) (d + 29)) (fun x1 sc1 ar1 lo1 ex1 nn1 ss1 hx1 hn1 hs1 => ?_)
          obtain ⟨hI1, hG1, hx1⟩ := hx1
          have hL1 : Lw sc1 ar1 := lw_fr hLw hG1 (by decide) (by decide) (by decide) (by decide)
          refine to_eq (fr' := (163, [(0, .ref 1000000), (1, .ref 0), (2, .ref 49), (3, .ref 85), (4, .int (nI i))], [.int x1], gh S a b sc1 ar1 lo1, ex1, (nc + nn1), (ns + ss1))) rfl ?_
          refine to_n 5 (fr' := (170, [(0, .ref 1000000), (1, .ref 0), (2, .ref 49), (3, .ref 85), (4, .int (nI i)), (5, .int x1)], [.int 1, .int (nI i), .ref 1000000, .ref 49], gh S a b sc1 ar1 lo1, ex1, (nc + nn1), (ns + ss1))) rfl ?_
          refine to_addN (x := i) (y := 1) rfl ?_
          refine to_ldx (i := (i + 1)) rfl (by omega) (by omega) ?_
          refine to_n 3 (fr' := (176, [(0, .ref 1000000), (1, .ref 0), (2, .ref 49), (3, .ref 85), (4, .int (nI i)), (5, .int x1)], [.int 2, .int (nI i), .ref 1000000, .int (X.2 (i + 1)), .ref 49], gh S a b sc1 ar1 lo1, ex1, (nc + nn1), (ns + ss1))) rfl ?_
          refine to_addN (x := i) (y := 2) rfl ?_
          refine to_ldx (i := (i + 2)) rfl (by omega) (by omega) ?_
          refine to_n 3 (fr' := (182, [(0, .ref 1000000), (1, .ref 0), (2, .ref 49), (3, .ref 85), (4, .int (nI i)), (5, .int x1)], [.int 3, .int (nI i), .ref 1000000, .int (X.2 (i + 2)), .int (X.2 (i + 1)), .ref 49], gh S a b sc1 ar1 lo1, ex1, (nc + nn1), (ns + ss1))) rfl ?_
          refine to_addN (x := i) (y := 3) rfl ?_
          refine to_ldx (i := (i + 3)) rfl (by omega) (by omega) ?_
          refine to_ci (q := 114) (M1 := an_X10_house) (rest := []) rfl rfl (by decide) rfl ⟨_, rfl⟩ (sf_X10_house hW hI1 (X.2 (i + 1)) (X.2 (i + 2)) (X.2 (i + 3)) (d + 31)) (fun x2 sc2 ar2 hx2 => ?_)
          obtain ⟨hI2, hG2, hx2⟩ := hx2
          have hL2 : Lw sc2 ar2 := lw_fr hL1 hG2 (by decide) (by decide) (by decide) (by decide)
          have hP2 := pr_house hS hR hx1 hG1 hx2 hG2
          have hR2 : ∃ n l0 h : Nat, Rl S a b n l0 h sc2 ar2 := ⟨n, l0, h, hP2.1⟩
          clear hx1 hx2 hP2
          refine to_eq (fr' := (187, [(0, .ref 1000000), (1, .ref 0), (2, .ref 49), (3, .ref 85), (4, .int (nI i)), (5, .int x1)], [.int x2], gh S a b sc2 ar2 lo1, ex1, (nc + nn1), (ns + ss1))) rfl ?_
          refine to_n 3 (fr' := (792, [(0, .ref 1000000), (1, .ref 0), (2, .ref 49), (3, .ref 85), (4, .int ((nI i) + 6)), (5, .int x1), (6, .int x2)], [], gh S a b sc2 ar2 lo1, ex1, (nc + nn1), (ns + ss1))) rfl ?_
          rw [show ((nI i) + 6 : Int32) = nI (i + 6) from nI_add _ 6]
          refine to_n 1 (fr' := (43, [(0, .ref 1000000), (1, .ref 0), (2, .ref 49), (3, .ref 85), (4, .int (nI (i + 6))), (5, .int x1), (6, .int x2)], [], gh S a b sc2 ar2 lo1, ex1, (nc + nn1), (ns + ss1))) rfl ?_
          refine to_lv (lv := [(0, .ref 1000000), (1, .ref 0), (2, .ref 49), (3, .ref 85), (4, .int (nI (i + 6)))]) rfl ⟨rfl, rfl, rfl, rfl, rfl, trivial⟩ ?_
          exact ih (i + 6) sc2 ar2 lo1 ex1 (nc + nn1) (ns + ss1) (by omega) (by omega) hI2 hL2 hR2 (by omega) (by omega)
        · refine to_eq (fr' := (192, [(0, .ref 1000000), (1, .ref 0), (2, .ref 49), (3, .ref 85), (4, .int (nI i))], [], gh S a b sc ar lo, ex, nc, ns)) rfl ?_
          refine to_n 4 (fr' := (197, [(0, .ref 1000000), (1, .ref 0), (2, .ref 49), (3, .ref 85), (4, .int (nI i))], [.int 1, .int (nI i), .ref 1000000, .ref 0], gh S a b sc ar lo, ex, nc, ns)) rfl ?_
          refine to_addN (x := i) (y := 1) rfl ?_
          refine to_ldx (i := (i + 1)) rfl (by omega) (by omega) ?_
          refine to_n 3 (fr' := (203, [(0, .ref 1000000), (1, .ref 0), (2, .ref 49), (3, .ref 85), (4, .int (nI i))], [.int 2, .int (nI i), .ref 1000000, .int (X.2 (i + 1)), .ref 0], gh S a b sc ar lo, ex, nc, ns)) rfl ?_
          refine to_addN (x := i) (y := 2) rfl ?_
          refine to_ldx (i := (i + 2)) rfl (by omega) (by omega) ?_
          refine to_if_eq (t := 212) rfl (fun q3 => ?_) (fun q3 => ?_)
          · refine to_n 2 (fr' := (214, [(0, .ref 1000000), (1, .ref 0), (2, .ref 49), (3, .ref 85), (4, .int (nI i))], [.ref 85, .int 0, .int (X.2 (i + 1)), .ref 0], gh S a b sc ar lo, ex, nc, ns)) rfl ?_
            refine to_cl (q := 171) (M1 := an_L_well) (rest := []) rfl rfl (by decide) rfl trivial (lc_well hW hI (X.2 (i + 1)) 0 (by omega) (d + 29)) (fun x4 sc4 ar4 lo4 ex4 nn4 ss4 hx4 hn4 hs4 => ?_)
            obtain ⟨hI4, hG4, hx4⟩ := hx4
            have hL4 : Lw sc4 ar4 := lw_fr hLw hG4 (by decide) (by decide) (by decide) (by decide)
            refine to_eq (fr' := (217, [(0, .ref 1000000), (1, .ref 0), (2, .ref 49), (3, .ref 85), (4, .int (nI i))], [.int x4], gh S a b sc4 ar4 lo4, ex4, (nc + nn4), (ns + ss4))) rfl ?_
            refine to_n 5 (fr' := (224, [(0, .ref 1000000), (1, .ref 0), (2, .ref 49), (3, .ref 85), (4, .int (nI i)), (5, .int x4)], [.int 1, .int (nI i), .ref 1000000, .ref 49], gh S a b sc4 ar4 lo4, ex4, (nc + nn4), (ns + ss4))) rfl ?_
            refine to_addN (x := i) (y := 1) rfl ?_
            refine to_ldx (i := (i + 1)) rfl (by omega) (by omega) ?_
            refine to_n 3 (fr' := (230, [(0, .ref 1000000), (1, .ref 0), (2, .ref 49), (3, .ref 85), (4, .int (nI i)), (5, .int x4)], [.int 2, .int (nI i), .ref 1000000, .int (X.2 (i + 1)), .ref 49], gh S a b sc4 ar4 lo4, ex4, (nc + nn4), (ns + ss4))) rfl ?_
            refine to_addN (x := i) (y := 2) rfl ?_
            refine to_ldx (i := (i + 2)) rfl (by omega) (by omega) ?_
            refine to_if_eq_T (t := 239) rfl q3 ?_
            refine to_n 1 (fr' := (240, [(0, .ref 1000000), (1, .ref 0), (2, .ref 49), (3, .ref 85), (4, .int (nI i)), (5, .int x4)], [.int 0, .int (X.2 (i + 1)), .ref 49], gh S a b sc4 ar4 lo4, ex4, (nc + nn4), (ns + ss4))) rfl ?_
            refine to_ci (q := 115) (M1 := an_X10_well) (rest := []) rfl rfl (by decide) rfl ⟨_, rfl⟩ (sf_X10_well hW hI4 (X.2 (i + 1)) 0 (by omega) (d + 31)) (fun x5 sc5 ar5 hx5 => ?_)
            obtain ⟨hI5, hG5, hx5⟩ := hx5
            have hL5 : Lw sc5 ar5 := lw_fr hL4 hG5 (by decide) (by decide) (by decide) (by decide)
            have hP5 := pr_well hS hR hx4 hG4 hx5 hG5
            have hR5 : ∃ n l0 h : Nat, Rl S a b n l0 h sc5 ar5 := ⟨n, l0, h, hP5.1⟩
            clear hx4 hx5 hP5
            refine to_eq (fr' := (243, [(0, .ref 1000000), (1, .ref 0), (2, .ref 49), (3, .ref 85), (4, .int (nI i)), (5, .int x4)], [.int x5], gh S a b sc5 ar5 lo4, ex4, (nc + nn4), (ns + ss4))) rfl ?_
            refine to_n 3 (fr' := (792, [(0, .ref 1000000), (1, .ref 0), (2, .ref 49), (3, .ref 85), (4, .int ((nI i) + 6)), (5, .int x4), (6, .int x5)], [], gh S a b sc5 ar5 lo4, ex4, (nc + nn4), (ns + ss4))) rfl ?_
            rw [show ((nI i) + 6 : Int32) = nI (i + 6) from nI_add _ 6]
            refine to_n 1 (fr' := (43, [(0, .ref 1000000), (1, .ref 0), (2, .ref 49), (3, .ref 85), (4, .int (nI (i + 6))), (5, .int x4), (6, .int x5)], [], gh S a b sc5 ar5 lo4, ex4, (nc + nn4), (ns + ss4))) rfl ?_
            refine to_lv (lv := [(0, .ref 1000000), (1, .ref 0), (2, .ref 49), (3, .ref 85), (4, .int (nI (i + 6)))]) rfl ⟨rfl, rfl, rfl, rfl, rfl, trivial⟩ ?_
            exact ih (i + 6) sc5 ar5 lo4 ex4 (nc + nn4) (ns + ss4) (by omega) (by omega) hI5 hL5 hR5 (by omega) (by omega)
          · refine to_n 3 (fr' := (214, [(0, .ref 1000000), (1, .ref 0), (2, .ref 49), (3, .ref 85), (4, .int (nI i))], [.ref 85, .int 1, .int (X.2 (i + 1)), .ref 0], gh S a b sc ar lo, ex, nc, ns)) rfl ?_
            refine to_cl (q := 171) (M1 := an_L_well) (rest := []) rfl rfl (by decide) rfl trivial (lc_well hW hI (X.2 (i + 1)) 1 (by omega) (d + 29)) (fun x6 sc6 ar6 lo6 ex6 nn6 ss6 hx6 hn6 hs6 => ?_)
            obtain ⟨hI6, hG6, hx6⟩ := hx6
            have hL6 : Lw sc6 ar6 := lw_fr hLw hG6 (by decide) (by decide) (by decide) (by decide)
            refine to_eq (fr' := (217, [(0, .ref 1000000), (1, .ref 0), (2, .ref 49), (3, .ref 85), (4, .int (nI i))], [.int x6], gh S a b sc6 ar6 lo6, ex6, (nc + nn6), (ns + ss6))) rfl ?_
            refine to_n 5 (fr' := (224, [(0, .ref 1000000), (1, .ref 0), (2, .ref 49), (3, .ref 85), (4, .int (nI i)), (5, .int x6)], [.int 1, .int (nI i), .ref 1000000, .ref 49], gh S a b sc6 ar6 lo6, ex6, (nc + nn6), (ns + ss6))) rfl ?_
            refine to_addN (x := i) (y := 1) rfl ?_
            refine to_ldx (i := (i + 1)) rfl (by omega) (by omega) ?_
            refine to_n 3 (fr' := (230, [(0, .ref 1000000), (1, .ref 0), (2, .ref 49), (3, .ref 85), (4, .int (nI i)), (5, .int x6)], [.int 2, .int (nI i), .ref 1000000, .int (X.2 (i + 1)), .ref 49], gh S a b sc6 ar6 lo6, ex6, (nc + nn6), (ns + ss6))) rfl ?_
            refine to_addN (x := i) (y := 2) rfl ?_
            refine to_ldx (i := (i + 2)) rfl (by omega) (by omega) ?_
            refine to_if_eq_F (t := 239) rfl q3 ?_
            refine to_n 2 (fr' := (240, [(0, .ref 1000000), (1, .ref 0), (2, .ref 49), (3, .ref 85), (4, .int (nI i)), (5, .int x6)], [.int 1, .int (X.2 (i + 1)), .ref 49], gh S a b sc6 ar6 lo6, ex6, (nc + nn6), (ns + ss6))) rfl ?_
            refine to_ci (q := 115) (M1 := an_X10_well) (rest := []) rfl rfl (by decide) rfl ⟨_, rfl⟩ (sf_X10_well hW hI6 (X.2 (i + 1)) 1 (by omega) (d + 31)) (fun x7 sc7 ar7 hx7 => ?_)
            obtain ⟨hI7, hG7, hx7⟩ := hx7
            have hL7 : Lw sc7 ar7 := lw_fr hL6 hG7 (by decide) (by decide) (by decide) (by decide)
            have hP7 := pr_well hS hR hx6 hG6 hx7 hG7
            have hR7 : ∃ n l0 h : Nat, Rl S a b n l0 h sc7 ar7 := ⟨n, l0, h, hP7.1⟩
            clear hx6 hx7 hP7
            refine to_eq (fr' := (243, [(0, .ref 1000000), (1, .ref 0), (2, .ref 49), (3, .ref 85), (4, .int (nI i)), (5, .int x6)], [.int x7], gh S a b sc7 ar7 lo6, ex6, (nc + nn6), (ns + ss6))) rfl ?_
            refine to_n 3 (fr' := (792, [(0, .ref 1000000), (1, .ref 0), (2, .ref 49), (3, .ref 85), (4, .int ((nI i) + 6)), (5, .int x6), (6, .int x7)], [], gh S a b sc7 ar7 lo6, ex6, (nc + nn6), (ns + ss6))) rfl ?_
            rw [show ((nI i) + 6 : Int32) = nI (i + 6) from nI_add _ 6]
            refine to_n 1 (fr' := (43, [(0, .ref 1000000), (1, .ref 0), (2, .ref 49), (3, .ref 85), (4, .int (nI (i + 6))), (5, .int x6), (6, .int x7)], [], gh S a b sc7 ar7 lo6, ex6, (nc + nn6), (ns + ss6))) rfl ?_
            refine to_lv (lv := [(0, .ref 1000000), (1, .ref 0), (2, .ref 49), (3, .ref 85), (4, .int (nI (i + 6)))]) rfl ⟨rfl, rfl, rfl, rfl, rfl, trivial⟩ ?_
            exact ih (i + 6) sc7 ar7 lo6 ex6 (nc + nn6) (ns + ss6) (by omega) (by omega) hI7 hL7 hR7 (by omega) (by omega)
        · refine to_eq (fr' := (248, [(0, .ref 1000000), (1, .ref 0), (2, .ref 49), (3, .ref 85), (4, .int (nI i))], [], gh S a b sc ar lo, ex, nc, ns)) rfl ?_
          refine to_n 4 (fr' := (253, [(0, .ref 1000000), (1, .ref 0), (2, .ref 49), (3, .ref 85), (4, .int (nI i))], [.int 1, .int (nI i), .ref 1000000, .ref 0], gh S a b sc ar lo, ex, nc, ns)) rfl ?_
          refine to_addN (x := i) (y := 1) rfl ?_
          refine to_ldx (i := (i + 1)) rfl (by omega) (by omega) ?_
          refine to_n 1 (fr' := (256, [(0, .ref 1000000), (1, .ref 0), (2, .ref 49), (3, .ref 85), (4, .int (nI i))], [.ref 85, .int (X.2 (i + 1)), .ref 0], gh S a b sc ar lo, ex, nc, ns)) rfl ?_
          refine to_cl (q := 172) (M1 := an_L_wind) (rest := []) rfl rfl (by decide) rfl trivial (lc_wind hW hI (X.2 (i + 1)) (d + 31)) (fun x8 sc8 ar8 lo8 ex8 nn8 ss8 hx8 hn8 hs8 => ?_)
          obtain ⟨hI8, hG8, hx8⟩ := hx8
          have hL8 : Lw sc8 ar8 := lw_fr hLw hG8 (by decide) (by decide) (by decide) (by decide)
          refine to_eq (fr' := (259, [(0, .ref 1000000), (1, .ref 0), (2, .ref 49), (3, .ref 85), (4, .int (nI i))], [.int x8], gh S a b sc8 ar8 lo8, ex8, (nc + nn8), (ns + ss8))) rfl ?_
          refine to_n 5 (fr' := (266, [(0, .ref 1000000), (1, .ref 0), (2, .ref 49), (3, .ref 85), (4, .int (nI i)), (5, .int x8)], [.int 1, .int (nI i), .ref 1000000, .ref 49], gh S a b sc8 ar8 lo8, ex8, (nc + nn8), (ns + ss8))) rfl ?_
          refine to_addN (x := i) (y := 1) rfl ?_
          refine to_ldx (i := (i + 1)) rfl (by omega) (by omega) ?_
          refine to_ci (q := 116) (M1 := an_X10_wind) (rest := []) rfl rfl (by decide) rfl ⟨_, rfl⟩ (sf_X10_wind hW hI8 (X.2 (i + 1)) (d + 31)) (fun x9 sc9 ar9 hx9 => ?_)
          obtain ⟨hI9, hG9, hx9⟩ := hx9
          have hL9 : Lw sc9 ar9 := lw_fr hL8 hG9 (by decide) (by decide) (by decide) (by decide)
          have hP9 := pr_wind hS hR hx8 hG8 hx9 hG9
          have hR9 : ∃ n l0 h : Nat, Rl S a b n l0 h sc9 ar9 := ⟨n, l0, h, hP9.1⟩
          clear hx8 hx9 hP9
          refine to_eq (fr' := (271, [(0, .ref 1000000), (1, .ref 0), (2, .ref 49), (3, .ref 85), (4, .int (nI i)), (5, .int x8)], [.int x9], gh S a b sc9 ar9 lo8, ex8, (nc + nn8), (ns + ss8))) rfl ?_
          refine to_n 3 (fr' := (792, [(0, .ref 1000000), (1, .ref 0), (2, .ref 49), (3, .ref 85), (4, .int ((nI i) + 6)), (5, .int x8), (6, .int x9)], [], gh S a b sc9 ar9 lo8, ex8, (nc + nn8), (ns + ss8))) rfl ?_
          rw [show ((nI i) + 6 : Int32) = nI (i + 6) from nI_add _ 6]
          refine to_n 1 (fr' := (43, [(0, .ref 1000000), (1, .ref 0), (2, .ref 49), (3, .ref 85), (4, .int (nI (i + 6))), (5, .int x8), (6, .int x9)], [], gh S a b sc9 ar9 lo8, ex8, (nc + nn8), (ns + ss8))) rfl ?_
          refine to_lv (lv := [(0, .ref 1000000), (1, .ref 0), (2, .ref 49), (3, .ref 85), (4, .int (nI (i + 6)))]) rfl ⟨rfl, rfl, rfl, rfl, rfl, trivial⟩ ?_
          exact ih (i + 6) sc9 ar9 lo8 ex8 (nc + nn8) (ns + ss8) (by omega) (by omega) hI9 hL9 hR9 (by omega) (by omega)
        · refine to_eq (fr' := (276, [(0, .ref 1000000), (1, .ref 0), (2, .ref 49), (3, .ref 85), (4, .int (nI i))], [], gh S a b sc ar lo, ex, nc, ns)) rfl ?_
          refine to_n 4 (fr' := (281, [(0, .ref 1000000), (1, .ref 0), (2, .ref 49), (3, .ref 85), (4, .int (nI i))], [.int 1, .int (nI i), .ref 1000000, .ref 0], gh S a b sc ar lo, ex, nc, ns)) rfl ?_
          refine to_addN (x := i) (y := 1) rfl ?_
          refine to_ldx (i := (i + 1)) rfl (by omega) (by omega) ?_
          refine to_n 3 (fr' := (287, [(0, .ref 1000000), (1, .ref 0), (2, .ref 49), (3, .ref 85), (4, .int (nI i))], [.int 2, .int (nI i), .ref 1000000, .int (X.2 (i + 1)), .ref 0], gh S a b sc ar lo, ex, nc, ns)) rfl ?_
          refine to_addN (x := i) (y := 2) rfl ?_
          refine to_ldx (i := (i + 2)) rfl (by omega) (by omega) ?_
          refine to_n 3 (fr' := (293, [(0, .ref 1000000), (1, .ref 0), (2, .ref 49), (3, .ref 85), (4, .int (nI i))], [.int 3, .int (nI i), .ref 1000000, .int (X.2 (i + 2)), .int (X.2 (i + 1)), .ref 0], gh S a b sc ar lo, ex, nc, ns)) rfl ?_
          refine to_addN (x := i) (y := 3) rfl ?_
          refine to_ldx (i := (i + 3)) rfl (by omega) (by omega) ?_
          refine to_n 1 (fr' := (296, [(0, .ref 1000000), (1, .ref 0), (2, .ref 49), (3, .ref 85), (4, .int (nI i))], [.ref 85, .int (X.2 (i + 3)), .int (X.2 (i + 2)), .int (X.2 (i + 1)), .ref 0], gh S a b sc ar lo, ex, nc, ns)) rfl ?_
          refine to_cl (q := 173) (M1 := an_L_company) (rest := []) rfl rfl (by decide) rfl trivial (lc_company hW hI (X.2 (i + 1)) (X.2 (i + 2)) (X.2 (i + 3)) (d + 29)) (fun x10 sc10 ar10 lo10 ex10 nn10 ss10 hx10 hn10 hs10 => ?_)
          obtain ⟨hI10, hG10, hx10⟩ := hx10
          have hL10 : Lw sc10 ar10 := lw_fr hLw hG10 (by decide) (by decide) (by decide) (by decide)
          refine to_eq (fr' := (299, [(0, .ref 1000000), (1, .ref 0), (2, .ref 49), (3, .ref 85), (4, .int (nI i))], [.int x10], gh S a b sc10 ar10 lo10, ex10, (nc + nn10), (ns + ss10))) rfl ?_
          refine to_n 5 (fr' := (306, [(0, .ref 1000000), (1, .ref 0), (2, .ref 49), (3, .ref 85), (4, .int (nI i)), (5, .int x10)], [.int 1, .int (nI i), .ref 1000000, .ref 49], gh S a b sc10 ar10 lo10, ex10, (nc + nn10), (ns + ss10))) rfl ?_
          refine to_addN (x := i) (y := 1) rfl ?_
          refine to_ldx (i := (i + 1)) rfl (by omega) (by omega) ?_
          refine to_n 3 (fr' := (312, [(0, .ref 1000000), (1, .ref 0), (2, .ref 49), (3, .ref 85), (4, .int (nI i)), (5, .int x10)], [.int 2, .int (nI i), .ref 1000000, .int (X.2 (i + 1)), .ref 49], gh S a b sc10 ar10 lo10, ex10, (nc + nn10), (ns + ss10))) rfl ?_
          refine to_addN (x := i) (y := 2) rfl ?_
          refine to_ldx (i := (i + 2)) rfl (by omega) (by omega) ?_
          refine to_n 3 (fr' := (318, [(0, .ref 1000000), (1, .ref 0), (2, .ref 49), (3, .ref 85), (4, .int (nI i)), (5, .int x10)], [.int 3, .int (nI i), .ref 1000000, .int (X.2 (i + 2)), .int (X.2 (i + 1)), .ref 49], gh S a b sc10 ar10 lo10, ex10, (nc + nn10), (ns + ss10))) rfl ?_
          refine to_addN (x := i) (y := 3) rfl ?_
          refine to_ldx (i := (i + 3)) rfl (by omega) (by omega) ?_
          refine to_ci (q := 117) (M1 := an_X10_company) (rest := []) rfl rfl (by decide) rfl ⟨_, rfl⟩ (sf_X10_company hW hI10 (X.2 (i + 1)) (X.2 (i + 2)) (X.2 (i + 3)) (d + 31)) (fun x11 sc11 ar11 hx11 => ?_)
          obtain ⟨hI11, hG11, hx11⟩ := hx11
          have hL11 : Lw sc11 ar11 := lw_fr hL10 hG11 (by decide) (by decide) (by decide) (by decide)
          have hP11 := pr_company hS hR hx10 hG10 hx11 hG11
          have hR11 : ∃ n l0 h : Nat, Rl S a b n l0 h sc11 ar11 := (hP11.1.elim fun n2 w => ⟨n2, l0, h, w⟩)
          clear hx10 hx11 hP11
          refine to_eq (fr' := (323, [(0, .ref 1000000), (1, .ref 0), (2, .ref 49), (3, .ref 85), (4, .int (nI i)), (5, .int x10)], [.int x11], gh S a b sc11 ar11 lo10, ex10, (nc + nn10), (ns + ss10))) rfl ?_
          refine to_n 3 (fr' := (792, [(0, .ref 1000000), (1, .ref 0), (2, .ref 49), (3, .ref 85), (4, .int ((nI i) + 6)), (5, .int x10), (6, .int x11)], [], gh S a b sc11 ar11 lo10, ex10, (nc + nn10), (ns + ss10))) rfl ?_
          rw [show ((nI i) + 6 : Int32) = nI (i + 6) from nI_add _ 6]
          refine to_n 1 (fr' := (43, [(0, .ref 1000000), (1, .ref 0), (2, .ref 49), (3, .ref 85), (4, .int (nI (i + 6))), (5, .int x10), (6, .int x11)], [], gh S a b sc11 ar11 lo10, ex10, (nc + nn10), (ns + ss10))) rfl ?_
          refine to_lv (lv := [(0, .ref 1000000), (1, .ref 0), (2, .ref 49), (3, .ref 85), (4, .int (nI (i + 6)))]) rfl ⟨rfl, rfl, rfl, rfl, rfl, trivial⟩ ?_
          exact ih (i + 6) sc11 ar11 lo10 ex10 (nc + nn10) (ns + ss10) (by omega) (by omega) hI11 hL11 hR11 (by omega) (by omega)
        · refine to_eq (fr' := (328, [(0, .ref 1000000), (1, .ref 0), (2, .ref 49), (3, .ref 85), (4, .int (nI i))], [], gh S a b sc ar lo, ex, nc, ns)) rfl ?_
          refine to_n 4 (fr' := (333, [(0, .ref 1000000), (1, .ref 0), (2, .ref 49), (3, .ref 85), (4, .int (nI i))], [.int 1, .int (nI i), .ref 1000000, .ref 0], gh S a b sc ar lo, ex, nc, ns)) rfl ?_
          refine to_addN (x := i) (y := 1) rfl ?_
          refine to_ldx (i := (i + 1)) rfl (by omega) (by omega) ?_
          refine to_n 3 (fr' := (339, [(0, .ref 1000000), (1, .ref 0), (2, .ref 49), (3, .ref 85), (4, .int (nI i))], [.int 2, .int (nI i), .ref 1000000, .int (X.2 (i + 1)), .ref 0], gh S a b sc ar lo, ex, nc, ns)) rfl ?_
          refine to_addN (x := i) (y := 2) rfl ?_
          refine to_ldx (i := (i + 2)) rfl (by omega) (by omega) ?_
          refine to_n 3 (fr' := (345, [(0, .ref 1000000), (1, .ref 0), (2, .ref 49), (3, .ref 85), (4, .int (nI i))], [.int 3, .int (nI i), .ref 1000000, .int (X.2 (i + 2)), .int (X.2 (i + 1)), .ref 0], gh S a b sc ar lo, ex, nc, ns)) rfl ?_
          refine to_addN (x := i) (y := 3) rfl ?_
          refine to_ldx (i := (i + 3)) rfl (by omega) (by omega) ?_
          refine to_n 3 (fr' := (351, [(0, .ref 1000000), (1, .ref 0), (2, .ref 49), (3, .ref 85), (4, .int (nI i))], [.int 4, .int (nI i), .ref 1000000, .int (X.2 (i + 3)), .int (X.2 (i + 2)), .int (X.2 (i + 1)), .ref 0], gh S a b sc ar lo, ex, nc, ns)) rfl ?_
          refine to_addN (x := i) (y := 4) rfl ?_
          refine to_ldx (i := (i + 4)) rfl (by omega) (by omega) ?_
          refine to_n 3 (fr' := (357, [(0, .ref 1000000), (1, .ref 0), (2, .ref 49), (3, .ref 85), (4, .int (nI i))], [.int 5, .int (nI i), .ref 1000000, .int (X.2 (i + 4)), .int (X.2 (i + 3)), .int (X.2 (i + 2)), .int (X.2 (i + 1)), .ref 0], gh S a b sc ar lo, ex, nc, ns)) rfl ?_
          refine to_addN (x := i) (y := 5) rfl ?_
          refine to_ldx (i := (i + 5)) rfl (by omega) (by omega) ?_
          refine to_ci (q := 77) (M1 := an_X9_feed) (rest := []) rfl rfl (by decide) rfl ⟨_, rfl⟩ (sf_X9_feed hW hI (X.2 (i + 1)) (X.2 (i + 2)) (X.2 (i + 3)) (X.2 (i + 4)) (X.2 (i + 5)) (d + 31)) (fun x12 sc12 ar12 hx12 => ?_)
          obtain ⟨hI12, hG12, hx12⟩ := hx12
          have hL12 : Lw sc12 ar12 := lw_fr hLw hG12 (by decide) (by decide) (by decide) (by decide)
          refine to_eq (fr' := (362, [(0, .ref 1000000), (1, .ref 0), (2, .ref 49), (3, .ref 85), (4, .int (nI i))], [.int x12], gh S a b sc12 ar12 lo, ex, nc, ns)) rfl ?_
          refine to_n 5 (fr' := (368, [(0, .ref 1000000), (1, .ref 0), (2, .ref 49), (3, .ref 85), (4, .int (nI i))], [.int 1, .int (nI i), .ref 1000000, .ref 49], gh S a b sc12 ar12 lo, ex, nc, ns)) rfl ?_
          refine to_addN (x := i) (y := 1) rfl ?_
          refine to_ldx (i := (i + 1)) rfl (by omega) (by omega) ?_
          refine to_n 3 (fr' := (374, [(0, .ref 1000000), (1, .ref 0), (2, .ref 49), (3, .ref 85), (4, .int (nI i))], [.int 2, .int (nI i), .ref 1000000, .int (X.2 (i + 1)), .ref 49], gh S a b sc12 ar12 lo, ex, nc, ns)) rfl ?_
          refine to_addN (x := i) (y := 2) rfl ?_
          refine to_ldx (i := (i + 2)) rfl (by omega) (by omega) ?_
          refine to_n 3 (fr' := (380, [(0, .ref 1000000), (1, .ref 0), (2, .ref 49), (3, .ref 85), (4, .int (nI i))], [.int 3, .int (nI i), .ref 1000000, .int (X.2 (i + 2)), .int (X.2 (i + 1)), .ref 49], gh S a b sc12 ar12 lo, ex, nc, ns)) rfl ?_
          refine to_addN (x := i) (y := 3) rfl ?_
          refine to_ldx (i := (i + 3)) rfl (by omega) (by omega) ?_
          refine to_n 3 (fr' := (386, [(0, .ref 1000000), (1, .ref 0), (2, .ref 49), (3, .ref 85), (4, .int (nI i))], [.int 4, .int (nI i), .ref 1000000, .int (X.2 (i + 3)), .int (X.2 (i + 2)), .int (X.2 (i + 1)), .ref 49], gh S a b sc12 ar12 lo, ex, nc, ns)) rfl ?_
          refine to_addN (x := i) (y := 4) rfl ?_
          refine to_ldx (i := (i + 4)) rfl (by omega) (by omega) ?_
          refine to_n 3 (fr' := (392, [(0, .ref 1000000), (1, .ref 0), (2, .ref 49), (3, .ref 85), (4, .int (nI i))], [.int 5, .int (nI i), .ref 1000000, .int (X.2 (i + 4)), .int (X.2 (i + 3)), .int (X.2 (i + 2)), .int (X.2 (i + 1)), .ref 49], gh S a b sc12 ar12 lo, ex, nc, ns)) rfl ?_
          refine to_addN (x := i) (y := 5) rfl ?_
          refine to_ldx (i := (i + 5)) rfl (by omega) (by omega) ?_
          refine to_ci (q := 118) (M1 := an_X10_feed) (rest := []) rfl rfl (by decide) rfl ⟨_, rfl⟩ (sf_X10_feed hW hI12 (X.2 (i + 1)) (X.2 (i + 2)) (X.2 (i + 3)) (X.2 (i + 4)) (X.2 (i + 5)) (d + 32)) (fun x13 sc13 ar13 hx13 => ?_)
          obtain ⟨hI13, hG13, hx13⟩ := hx13
          have hL13 : Lw sc13 ar13 := lw_fr hL12 hG13 (by decide) (by decide) (by decide) (by decide)
          have hP13 := pr_feed hR hx12 hG12 hx13 hG13
          have hR13 : ∃ n l0 h : Nat, Rl S a b n l0 h sc13 ar13 := ⟨n, l0, h, hP13⟩
          clear hx12 hx13 hP13
          refine to_eq (fr' := (397, [(0, .ref 1000000), (1, .ref 0), (2, .ref 49), (3, .ref 85), (4, .int (nI i))], [.int x13], gh S a b sc13 ar13 lo, ex, nc, ns)) rfl ?_
          refine to_n 3 (fr' := (792, [(0, .ref 1000000), (1, .ref 0), (2, .ref 49), (3, .ref 85), (4, .int ((nI i) + 6))], [], gh S a b sc13 ar13 lo, ex, nc, ns)) rfl ?_
          rw [show ((nI i) + 6 : Int32) = nI (i + 6) from nI_add _ 6]
          refine to_n 1 (fr' := (43, [(0, .ref 1000000), (1, .ref 0), (2, .ref 49), (3, .ref 85), (4, .int (nI (i + 6)))], [], gh S a b sc13 ar13 lo, ex, nc, ns)) rfl ?_
          exact ih (i + 6) sc13 ar13 lo ex nc ns (by omega) (by omega) hI13 hL13 hR13 (by omega) (by omega)
        · refine to_eq (fr' := (401, [(0, .ref 1000000), (1, .ref 0), (2, .ref 49), (3, .ref 85), (4, .int (nI i))], [], gh S a b sc ar lo, ex, nc, ns)) rfl ?_
          refine to_n 4 (fr' := (406, [(0, .ref 1000000), (1, .ref 0), (2, .ref 49), (3, .ref 85), (4, .int (nI i))], [.int 1, .int (nI i), .ref 1000000, .ref 0], gh S a b sc ar lo, ex, nc, ns)) rfl ?_
          refine to_addN (x := i) (y := 1) rfl ?_
          refine to_ldx (i := (i + 1)) rfl (by omega) (by omega) ?_
          refine to_n 3 (fr' := (412, [(0, .ref 1000000), (1, .ref 0), (2, .ref 49), (3, .ref 85), (4, .int (nI i))], [.int 2, .int (nI i), .ref 1000000, .int (X.2 (i + 1)), .ref 0], gh S a b sc ar lo, ex, nc, ns)) rfl ?_
          refine to_addN (x := i) (y := 2) rfl ?_
          refine to_ldx (i := (i + 2)) rfl (by omega) (by omega) ?_
          refine to_n 1 (fr' := (415, [(0, .ref 1000000), (1, .ref 0), (2, .ref 49), (3, .ref 85), (4, .int (nI i))], [.ref 85, .int (X.2 (i + 2)), .int (X.2 (i + 1)), .ref 0], gh S a b sc ar lo, ex, nc, ns)) rfl ?_
          refine to_cl (q := 174) (M1 := an_L_law) (rest := []) rfl rfl (by decide) rfl trivial (lc_law hW hI (X.2 (i + 1)) (X.2 (i + 2)) hR.1.2.1 (d + 1)) (fun x14 sc14 ar14 lo14 ex14 nn14 ss14 hx14 hn14 hs14 => ?_)
          obtain ⟨hI14, hG14, hx14⟩ := hx14
          have hL14 : Lw sc14 ar14 := lw_fr hLw hG14 (by decide) (by decide) (by decide) (by decide)
          refine to_eq (fr' := (418, [(0, .ref 1000000), (1, .ref 0), (2, .ref 49), (3, .ref 85), (4, .int (nI i))], [.int x14], gh S a b sc14 ar14 lo14, ex14, (nc + nn14), (ns + ss14))) rfl ?_
          refine to_n 5 (fr' := (425, [(0, .ref 1000000), (1, .ref 0), (2, .ref 49), (3, .ref 85), (4, .int (nI i)), (5, .int x14)], [.int 1, .int (nI i), .ref 1000000, .ref 49], gh S a b sc14 ar14 lo14, ex14, (nc + nn14), (ns + ss14))) rfl ?_
          refine to_addN (x := i) (y := 1) rfl ?_
          refine to_ldx (i := (i + 1)) rfl (by omega) (by omega) ?_
          refine to_n 3 (fr' := (431, [(0, .ref 1000000), (1, .ref 0), (2, .ref 49), (3, .ref 85), (4, .int (nI i)), (5, .int x14)], [.int 2, .int (nI i), .ref 1000000, .int (X.2 (i + 1)), .ref 49], gh S a b sc14 ar14 lo14, ex14, (nc + nn14), (ns + ss14))) rfl ?_
          refine to_addN (x := i) (y := 2) rfl ?_
          refine to_ldx (i := (i + 2)) rfl (by omega) (by omega) ?_
          rcases hx14 with ⟨rfl, vv, ⟨tk, pl, g, sz, wsm, wo, wb, wc⟩, -⟩ | ⟨rfl, wt, ws, wa⟩
          · refine to_ci (q := 132) (M1 := an_X10_law) (rest := []) rfl rfl (by decide) rfl ⟨_, rfl⟩ (sf_X10_law hW hI14 (X.2 (i + 1)) (X.2 (i + 2)) tk pl g sz (rf_st hR.1 hG14 (by decide) wsm) hL14 d) (fun x15 sc15 ar15 hx15 => ?_)
            obtain ⟨hI15, hG15, hL15, hx15, hr15⟩ := hx15
            have hR15 : ∃ n l0 h : Nat, Rl S a b n l0 h sc15 ar15 := (pr_law hR wo wb wc hG14 hx15 hr15 hG15).elim fun l2 w => ⟨n, l2, h, w⟩
            clear wsm wo wb wc hx15 hr15
            refine to_eq (fr' := (436, [(0, .ref 1000000), (1, .ref 0), (2, .ref 49), (3, .ref 85), (4, .int (nI i)), (5, .int 0)], [.int x15], gh S a b sc15 ar15 lo14, ex14, (nc + nn14), (ns + ss14))) rfl ?_
            refine to_n 3 (fr' := (792, [(0, .ref 1000000), (1, .ref 0), (2, .ref 49), (3, .ref 85), (4, .int ((nI i) + 6)), (5, .int 0), (6, .int x15)], [], gh S a b sc15 ar15 lo14, ex14, (nc + nn14), (ns + ss14))) rfl ?_
            rw [show ((nI i) + 6 : Int32) = nI (i + 6) from nI_add _ 6]
            refine to_n 1 (fr' := (43, [(0, .ref 1000000), (1, .ref 0), (2, .ref 49), (3, .ref 85), (4, .int (nI (i + 6))), (5, .int 0), (6, .int x15)], [], gh S a b sc15 ar15 lo14, ex14, (nc + nn14), (ns + ss14))) rfl ?_
            refine to_lv (lv := [(0, .ref 1000000), (1, .ref 0), (2, .ref 49), (3, .ref 85), (4, .int (nI (i + 6)))]) rfl ⟨rfl, rfl, rfl, rfl, rfl, trivial⟩ ?_
            exact ih (i + 6) sc15 ar15 lo14 ex14 (nc + nn14) (ns + ss14) (by omega) (by omega) hI15 hL15 hR15 (by omega) (by omega)
          · subst ws
            subst wa
            refine to_ci (q := 132) (M1 := an_X10_law) (rest := []) rfl rfl (by decide) rfl ⟨_, rfl⟩ (sf_X10_law hW hI (X.2 (i + 1)) (X.2 (i + 2)) (fun _ => 0) (fun _ => 0) (fun _ => 0) 0 (fun s n hs es e hn hx => (wt s n hs (hR.1.1.2.1.trans es) e hn hx).elim) hLw d) (fun x16 sc16 ar16 hx16 => ?_)
            obtain ⟨hI16, hG16, hL16, hx16, hr16⟩ := hx16
            have hR16 : ∃ n l0 h : Nat, Rl S a b n l0 h sc16 ar16 := (pr_lawt hR wt hx16 hr16 hG16).elim fun l2 w => ⟨n, l2, h, w⟩
            clear wt hx16 hr16
            refine to_eq (fr' := (436, [(0, .ref 1000000), (1, .ref 0), (2, .ref 49), (3, .ref 85), (4, .int (nI i)), (5, .int 1)], [.int x16], gh S a b sc16 ar16 lo14, ex14, (nc + nn14), (ns + ss14))) rfl ?_
            refine to_n 3 (fr' := (792, [(0, .ref 1000000), (1, .ref 0), (2, .ref 49), (3, .ref 85), (4, .int ((nI i) + 6)), (5, .int 1), (6, .int x16)], [], gh S a b sc16 ar16 lo14, ex14, (nc + nn14), (ns + ss14))) rfl ?_
            rw [show ((nI i) + 6 : Int32) = nI (i + 6) from nI_add _ 6]
            refine to_n 1 (fr' := (43, [(0, .ref 1000000), (1, .ref 0), (2, .ref 49), (3, .ref 85), (4, .int (nI (i + 6))), (5, .int 1), (6, .int x16)], [], gh S a b sc16 ar16 lo14, ex14, (nc + nn14), (ns + ss14))) rfl ?_
            refine to_lv (lv := [(0, .ref 1000000), (1, .ref 0), (2, .ref 49), (3, .ref 85), (4, .int (nI (i + 6)))]) rfl ⟨rfl, rfl, rfl, rfl, rfl, trivial⟩ ?_
            exact ih (i + 6) sc16 ar16 lo14 ex14 (nc + nn14) (ns + ss14) (by omega) (by omega) hI16 hL16 hR16 (by omega) (by omega)
        · refine to_eq (fr' := (441, [(0, .ref 1000000), (1, .ref 0), (2, .ref 49), (3, .ref 85), (4, .int (nI i))], [], gh S a b sc ar lo, ex, nc, ns)) rfl ?_
          refine to_n 1 (fr' := (442, [(0, .ref 1000000), (1, .ref 0), (2, .ref 49), (3, .ref 85), (4, .int (nI i))], [.ref 0], gh S a b sc ar lo, ex, nc, ns)) rfl ?_
          refine to_ci (q := 79) (M1 := an_X9_fault) (rest := []) rfl rfl (by decide) rfl ⟨_, rfl⟩ (sf_X9_fault hW hI  (d + 32)) (fun x17 sc17 ar17 hx17 => ?_)
          obtain ⟨hI17, hG17, hx17⟩ := hx17
          have hL17 : Lw sc17 ar17 := lw_fr hLw hG17 (by decide) (by decide) (by decide) (by decide)
          refine to_eq (fr' := (445, [(0, .ref 1000000), (1, .ref 0), (2, .ref 49), (3, .ref 85), (4, .int (nI i))], [.int x17], gh S a b sc17 ar17 lo, ex, nc, ns)) rfl ?_
          refine to_n 2 (fr' := (447, [(0, .ref 1000000), (1, .ref 0), (2, .ref 49), (3, .ref 85), (4, .int (nI i))], [.ref 49], gh S a b sc17 ar17 lo, ex, nc, ns)) rfl ?_
          refine to_ci (q := 133) (M1 := an_X10_fault) (rest := []) rfl rfl (by decide) rfl ⟨_, rfl⟩ (sf_X10_fault hW hI17  (d + 32)) (fun x18 sc18 ar18 hx18 => ?_)
          obtain ⟨hI18, hG18, hx18⟩ := hx18
          have hL18 : Lw sc18 ar18 := lw_fr hL17 hG18 (by decide) (by decide) (by decide) (by decide)
          have hP18 := pr_fault hR hx17 hG17 hx18 hG18
          have hR18 : ∃ n l0 h : Nat, Rl S a b n l0 h sc18 ar18 := ⟨n, l0, h, hP18⟩
          clear hx17 hx18 hP18
          refine to_eq (fr' := (450, [(0, .ref 1000000), (1, .ref 0), (2, .ref 49), (3, .ref 85), (4, .int (nI i))], [.int x18], gh S a b sc18 ar18 lo, ex, nc, ns)) rfl ?_
          refine to_n 3 (fr' := (792, [(0, .ref 1000000), (1, .ref 0), (2, .ref 49), (3, .ref 85), (4, .int ((nI i) + 6))], [], gh S a b sc18 ar18 lo, ex, nc, ns)) rfl ?_
          rw [show ((nI i) + 6 : Int32) = nI (i + 6) from nI_add _ 6]
          refine to_n 1 (fr' := (43, [(0, .ref 1000000), (1, .ref 0), (2, .ref 49), (3, .ref 85), (4, .int (nI (i + 6)))], [], gh S a b sc18 ar18 lo, ex, nc, ns)) rfl ?_
          exact ih (i + 6) sc18 ar18 lo ex nc ns (by omega) (by omega) hI18 hL18 hR18 (by omega) (by omega)
        · refine to_eq (fr' := (454, [(0, .ref 1000000), (1, .ref 0), (2, .ref 49), (3, .ref 85), (4, .int (nI i))], [], gh S a b sc ar lo, ex, nc, ns)) rfl ?_
          refine to_n 4 (fr' := (459, [(0, .ref 1000000), (1, .ref 0), (2, .ref 49), (3, .ref 85), (4, .int (nI i))], [.int 1, .int (nI i), .ref 1000000, .ref 0], gh S a b sc ar lo, ex, nc, ns)) rfl ?_
          refine to_addN (x := i) (y := 1) rfl ?_
          refine to_ldx (i := (i + 1)) rfl (by omega) (by omega) ?_
          refine to_n 1 (fr' := (462, [(0, .ref 1000000), (1, .ref 0), (2, .ref 49), (3, .ref 85), (4, .int (nI i))], [.ref 85, .int (X.2 (i + 1)), .ref 0], gh S a b sc ar lo, ex, nc, ns)) rfl ?_
          refine to_cl (q := 175) (M1 := an_L_light) (rest := []) rfl rfl (by decide) rfl trivial (lc_light hW hI n hn9 h hh24 l0 hl7 (X.2 (i + 1)) hR.2.1 hR.2.2.2.1.1 q1 q5 q3 (d + 25)) (fun x19 sc19 ar19 lo19 ex19 nn19 ss19 hx19 hn19 hs19 => ?_)
          obtain ⟨hI19, hG19, hx19⟩ := hx19
          have hL19 : Lw sc19 ar19 := lw_fr hLw hG19 (by decide) (by decide) (by decide) (by decide)
          refine to_eq (fr' := (465, [(0, .ref 1000000), (1, .ref 0), (2, .ref 49), (3, .ref 85), (4, .int (nI i))], [.int x19], gh S a b sc19 ar19 lo19, ex19, (nc + nn19), (ns + ss19))) rfl ?_
          refine to_n 5 (fr' := (472, [(0, .ref 1000000), (1, .ref 0), (2, .ref 49), (3, .ref 85), (4, .int (nI i)), (5, .int x19)], [.int 1, .int (nI i), .ref 1000000, .ref 49], gh S a b sc19 ar19 lo19, ex19, (nc + nn19), (ns + ss19))) rfl ?_
          refine to_addN (x := i) (y := 1) rfl ?_
          refine to_ldx (i := (i + 1)) rfl (by omega) (by omega) ?_
          refine to_ci (q := 144) (M1 := an_X10_light) (rest := []) rfl rfl (by decide) rfl ⟨_, rfl⟩ (sf_X10_light hW hI19 n hn9 h hh24 l0 hl7 (X.2 (i + 1)) hL19 (ld_fr (ld_s hR.2.2.2.1.2.1) hG19 (by decide) (by decide) (by decide)) ((hG19.1 4906 (by decide)).trans q2) ((hG19.1 4904 (by decide)).trans q6) ((hG19.1 4907 (by decide)).trans q4) (d + 26)) (fun x20 sc20 ar20 hx20 => ?_)
          obtain ⟨hI20, hG20, hx20⟩ := hx20
          have hL20 : Lw sc20 ar20 := lw_fr hL19 hG20 (by decide) (by decide) (by decide) (by decide)
          have hP20 := pr_light hS hR hx19 hG19 hx20 hG20
          have hR20 : ∃ n l0 h : Nat, Rl S a b n l0 h sc20 ar20 := ⟨n, l0, h, hP20.1⟩
          clear hx19 hx20 hP20
          refine to_eq (fr' := (477, [(0, .ref 1000000), (1, .ref 0), (2, .ref 49), (3, .ref 85), (4, .int (nI i)), (5, .int x19)], [.int x20], gh S a b sc20 ar20 lo19, ex19, (nc + nn19), (ns + ss19))) rfl ?_
          refine to_n 3 (fr' := (792, [(0, .ref 1000000), (1, .ref 0), (2, .ref 49), (3, .ref 85), (4, .int ((nI i) + 6)), (5, .int x19), (6, .int x20)], [], gh S a b sc20 ar20 lo19, ex19, (nc + nn19), (ns + ss19))) rfl ?_
          rw [show ((nI i) + 6 : Int32) = nI (i + 6) from nI_add _ 6]
          refine to_n 1 (fr' := (43, [(0, .ref 1000000), (1, .ref 0), (2, .ref 49), (3, .ref 85), (4, .int (nI (i + 6))), (5, .int x19), (6, .int x20)], [], gh S a b sc20 ar20 lo19, ex19, (nc + nn19), (ns + ss19))) rfl ?_
          refine to_lv (lv := [(0, .ref 1000000), (1, .ref 0), (2, .ref 49), (3, .ref 85), (4, .int (nI (i + 6)))]) rfl ⟨rfl, rfl, rfl, rfl, rfl, trivial⟩ ?_
          exact ih (i + 6) sc20 ar20 lo19 ex19 (nc + nn19) (ns + ss19) (by omega) (by omega) hI20 hL20 hR20 (by omega) (by omega)
        · refine to_eq (fr' := (482, [(0, .ref 1000000), (1, .ref 0), (2, .ref 49), (3, .ref 85), (4, .int (nI i))], [], gh S a b sc ar lo, ex, nc, ns)) rfl ?_
          refine to_n 4 (fr' := (487, [(0, .ref 1000000), (1, .ref 0), (2, .ref 49), (3, .ref 85), (4, .int (nI i))], [.int 1, .int (nI i), .ref 1000000, .ref 0], gh S a b sc ar lo, ex, nc, ns)) rfl ?_
          refine to_addN (x := i) (y := 1) rfl ?_
          refine to_ldx (i := (i + 1)) rfl (by omega) (by omega) ?_
          refine to_n 3 (fr' := (493, [(0, .ref 1000000), (1, .ref 0), (2, .ref 49), (3, .ref 85), (4, .int (nI i))], [.int 2, .int (nI i), .ref 1000000, .int (X.2 (i + 1)), .ref 0], gh S a b sc ar lo, ex, nc, ns)) rfl ?_
          refine to_addN (x := i) (y := 2) rfl ?_
          refine to_ldx (i := (i + 2)) rfl (by omega) (by omega) ?_
          refine to_n 1 (fr' := (496, [(0, .ref 1000000), (1, .ref 0), (2, .ref 49), (3, .ref 85), (4, .int (nI i))], [.ref 85, .int (X.2 (i + 2)), .int (X.2 (i + 1)), .ref 0], gh S a b sc ar lo, ex, nc, ns)) rfl ?_
          refine to_cl (q := 176) (M1 := an_L_send) (rest := []) rfl rfl (by decide) rfl trivial (lc_send hW hI n hn9 (X.2 (i + 1)) (X.2 (i + 2)) q1 (d + 28)) (fun x21 sc21 ar21 lo21 ex21 nn21 ss21 hx21 hn21 hs21 => ?_)
          obtain ⟨hI21, hG21, hx21⟩ := hx21
          have hL21 : Lw sc21 ar21 := lw_fr hLw hG21 (by decide) (by decide) (by decide) (by decide)
          refine to_eq (fr' := (499, [(0, .ref 1000000), (1, .ref 0), (2, .ref 49), (3, .ref 85), (4, .int (nI i))], [.int x21], gh S a b sc21 ar21 lo21, ex21, (nc + nn21), (ns + ss21))) rfl ?_
          refine to_n 5 (fr' := (506, [(0, .ref 1000000), (1, .ref 0), (2, .ref 49), (3, .ref 85), (4, .int (nI i)), (5, .int x21)], [.int 1, .int (nI i), .ref 1000000, .ref 49], gh S a b sc21 ar21 lo21, ex21, (nc + nn21), (ns + ss21))) rfl ?_
          refine to_addN (x := i) (y := 1) rfl ?_
          refine to_ldx (i := (i + 1)) rfl (by omega) (by omega) ?_
          refine to_n 3 (fr' := (512, [(0, .ref 1000000), (1, .ref 0), (2, .ref 49), (3, .ref 85), (4, .int (nI i)), (5, .int x21)], [.int 2, .int (nI i), .ref 1000000, .int (X.2 (i + 1)), .ref 49], gh S a b sc21 ar21 lo21, ex21, (nc + nn21), (ns + ss21))) rfl ?_
          refine to_addN (x := i) (y := 2) rfl ?_
          refine to_ldx (i := (i + 2)) rfl (by omega) (by omega) ?_
          refine to_ci (q := 146) (M1 := an_X10_send) (rest := []) rfl rfl (by decide) rfl ⟨_, rfl⟩ (sf_X10_send hW hI21 n hn9 (X.2 (i + 1)) (X.2 (i + 2)) ((hG21.1 4906 (by decide)).trans q2) (d + 30)) (fun x22 sc22 ar22 hx22 => ?_)
          obtain ⟨hI22, hG22, hx22⟩ := hx22
          have hL22 : Lw sc22 ar22 := lw_fr hL21 hG22 (by decide) (by decide) (by decide) (by decide)
          have hP22 := pr_send hS hR hx21 hG21 hx22 hG22
          have hR22 : ∃ n l0 h : Nat, Rl S a b n l0 h sc22 ar22 := ⟨n, l0, h, hP22.1⟩
          clear hx21 hx22 hP22
          refine to_eq (fr' := (517, [(0, .ref 1000000), (1, .ref 0), (2, .ref 49), (3, .ref 85), (4, .int (nI i)), (5, .int x21)], [.int x22], gh S a b sc22 ar22 lo21, ex21, (nc + nn21), (ns + ss21))) rfl ?_
          refine to_n 3 (fr' := (792, [(0, .ref 1000000), (1, .ref 0), (2, .ref 49), (3, .ref 85), (4, .int ((nI i) + 6)), (5, .int x21), (6, .int x22)], [], gh S a b sc22 ar22 lo21, ex21, (nc + nn21), (ns + ss21))) rfl ?_
          rw [show ((nI i) + 6 : Int32) = nI (i + 6) from nI_add _ 6]
          refine to_n 1 (fr' := (43, [(0, .ref 1000000), (1, .ref 0), (2, .ref 49), (3, .ref 85), (4, .int (nI (i + 6))), (5, .int x21), (6, .int x22)], [], gh S a b sc22 ar22 lo21, ex21, (nc + nn21), (ns + ss21))) rfl ?_
          refine to_lv (lv := [(0, .ref 1000000), (1, .ref 0), (2, .ref 49), (3, .ref 85), (4, .int (nI (i + 6)))]) rfl ⟨rfl, rfl, rfl, rfl, rfl, trivial⟩ ?_
          exact ih (i + 6) sc22 ar22 lo21 ex21 (nc + nn21) (ns + ss21) (by omega) (by omega) hI22 hL22 hR22 (by omega) (by omega)
        · refine to_eq (fr' := (522, [(0, .ref 1000000), (1, .ref 0), (2, .ref 49), (3, .ref 85), (4, .int (nI i))], [], gh S a b sc ar lo, ex, nc, ns)) rfl ?_
          refine to_n 4 (fr' := (527, [(0, .ref 1000000), (1, .ref 0), (2, .ref 49), (3, .ref 85), (4, .int (nI i))], [.int 1, .int (nI i), .ref 1000000, .ref 0], gh S a b sc ar lo, ex, nc, ns)) rfl ?_
          refine to_addN (x := i) (y := 1) rfl ?_
          refine to_ldx (i := (i + 1)) rfl (by omega) (by omega) ?_
          refine to_n 3 (fr' := (533, [(0, .ref 1000000), (1, .ref 0), (2, .ref 49), (3, .ref 85), (4, .int (nI i))], [.int 2, .int (nI i), .ref 1000000, .int (X.2 (i + 1)), .ref 0], gh S a b sc ar lo, ex, nc, ns)) rfl ?_
          refine to_addN (x := i) (y := 2) rfl ?_
          refine to_ldx (i := (i + 2)) rfl (by omega) (by omega) ?_
          refine to_n 1 (fr' := (536, [(0, .ref 1000000), (1, .ref 0), (2, .ref 49), (3, .ref 85), (4, .int (nI i))], [.ref 85, .int (X.2 (i + 2)), .int (X.2 (i + 1)), .ref 0], gh S a b sc ar lo, ex, nc, ns)) rfl ?_
          refine to_cl (q := 177) (M1 := an_L_pull) (rest := []) rfl rfl (by decide) rfl trivial (lc_pull hW hI n hn9 (X.2 (i + 1)) (X.2 (i + 2)) q1 (d + 28)) (fun x23 sc23 ar23 lo23 ex23 nn23 ss23 hx23 hn23 hs23 => ?_)
          obtain ⟨hI23, hG23, hx23⟩ := hx23
          have hL23 : Lw sc23 ar23 := lw_fr hLw hG23 (by decide) (by decide) (by decide) (by decide)
          refine to_eq (fr' := (539, [(0, .ref 1000000), (1, .ref 0), (2, .ref 49), (3, .ref 85), (4, .int (nI i))], [.int x23], gh S a b sc23 ar23 lo23, ex23, (nc + nn23), (ns + ss23))) rfl ?_
          refine to_n 5 (fr' := (546, [(0, .ref 1000000), (1, .ref 0), (2, .ref 49), (3, .ref 85), (4, .int (nI i)), (5, .int x23)], [.int 1, .int (nI i), .ref 1000000, .ref 49], gh S a b sc23 ar23 lo23, ex23, (nc + nn23), (ns + ss23))) rfl ?_
          refine to_addN (x := i) (y := 1) rfl ?_
          refine to_ldx (i := (i + 1)) rfl (by omega) (by omega) ?_
          refine to_n 3 (fr' := (552, [(0, .ref 1000000), (1, .ref 0), (2, .ref 49), (3, .ref 85), (4, .int (nI i)), (5, .int x23)], [.int 2, .int (nI i), .ref 1000000, .int (X.2 (i + 1)), .ref 49], gh S a b sc23 ar23 lo23, ex23, (nc + nn23), (ns + ss23))) rfl ?_
          refine to_addN (x := i) (y := 2) rfl ?_
          refine to_ldx (i := (i + 2)) rfl (by omega) (by omega) ?_
          refine to_ci (q := 147) (M1 := an_X10_pull) (rest := []) rfl rfl (by decide) rfl ⟨_, rfl⟩ (sf_X10_pull hW hI23 n hn9 (X.2 (i + 1)) (X.2 (i + 2)) ((hG23.1 4906 (by decide)).trans q2) (d + 30)) (fun x24 sc24 ar24 hx24 => ?_)
          obtain ⟨hI24, hG24, hx24⟩ := hx24
          have hL24 : Lw sc24 ar24 := lw_fr hL23 hG24 (by decide) (by decide) (by decide) (by decide)
          have hP24 := pr_pull hS hR hx23 hG23 hx24 hG24
          have hR24 : ∃ n l0 h : Nat, Rl S a b n l0 h sc24 ar24 := ⟨n, l0, h, hP24.1⟩
          have hC24 := hP24.2
          clear hx23 hx24 hP24
          rcases hC24 with ⟨rfl, v5, ⟨rfl, wl⟩ | ⟨rfl, wl⟩⟩ | ⟨rfl, v5⟩
          · refine to_eq (fr' := (557, [(0, .ref 1000000), (1, .ref 0), (2, .ref 49), (3, .ref 85), (4, .int (nI i)), (5, .int 0)], [.int 0], gh S a b sc24 ar24 lo23, ex23, (nc + nn23), (ns + ss23))) rfl ?_
            refine to_n 2 (fr' := (560, [(0, .ref 1000000), (1, .ref 0), (2, .ref 49), (3, .ref 85), (4, .int (nI i)), (5, .int 0), (6, .int 0)], [.ref 49], gh S a b sc24 ar24 lo23, ex23, (nc + nn23), (ns + ss23))) rfl ?_
            refine to_cp (q := 108) (M1 := an_X10_thrown) (rest := []) rfl rfl (by decide) rfl ⟨_, rfl⟩ (sf_X10_thrown hW hI24 (d + 32)) (fun x25 hx25 => ?_)
            refine to_eq (fr' := (563, [(0, .ref 1000000), (1, .ref 0), (2, .ref 49), (3, .ref 85), (4, .int (nI i)), (5, .int 0), (6, .int 0)], [.int x25], gh S a b sc24 ar24 lo23, ex23, (nc + nn23), (ns + ss23))) rfl ?_
            refine to_n 1 (fr' := (565, [(0, .ref 1000000), (1, .ref 0), (2, .ref 49), (3, .ref 85), (4, .int (nI i)), (5, .int 0), (6, .int 0)], [.int 0, .int x25], gh S a b sc24 ar24 lo23, ex23, (nc + nn23), (ns + ss23))) rfl ?_
            refine to_ic_eq_T (t := 570) rfl (hx25.trans v5) ?_
            refine to_n 9 (fr' := (589, [(0, .ref 1000000), (1, .ref 0), (2, .ref 49), (3, .ref 85), (4, .int (nI i)), (5, .int 0), (6, .int 0)], [.int (lg_cmp (lo23 0) 0)], gh S a b sc24 ar24 lo23, ex23, (nc + nn23), (ns + ss23))) rfl ?_
            refine to_if_eq_T (t := 594) rfl (by rw [wl]; exact lg_self _) ?_
            refine to_n 2 (fr' := (792, [(0, .ref 1000000), (1, .ref 0), (2, .ref 49), (3, .ref 85), (4, .int ((nI i) + 6)), (5, .int 0), (6, .int 0)], [], gh S a b sc24 ar24 lo23, ex23, (nc + nn23), (ns + ss23))) rfl ?_
            rw [show ((nI i) + 6 : Int32) = nI (i + 6) from nI_add _ 6]
            refine to_n 1 (fr' := (43, [(0, .ref 1000000), (1, .ref 0), (2, .ref 49), (3, .ref 85), (4, .int (nI (i + 6))), (5, .int 0), (6, .int 0)], [], gh S a b sc24 ar24 lo23, ex23, (nc + nn23), (ns + ss23))) rfl ?_
            refine to_lv (lv := [(0, .ref 1000000), (1, .ref 0), (2, .ref 49), (3, .ref 85), (4, .int (nI (i + 6)))]) rfl ⟨rfl, rfl, rfl, rfl, rfl, trivial⟩ ?_
            exact ih (i + 6) sc24 ar24 lo23 ex23 (nc + nn23) (ns + ss23) (by omega) (by omega) hI24 hL24 hR24 (by omega) (by omega)
          · refine to_eq (fr' := (557, [(0, .ref 1000000), (1, .ref 0), (2, .ref 49), (3, .ref 85), (4, .int (nI i)), (5, .int 0)], [.int 1], gh S a b sc24 ar24 lo23, ex23, (nc + nn23), (ns + ss23))) rfl ?_
            refine to_n 2 (fr' := (560, [(0, .ref 1000000), (1, .ref 0), (2, .ref 49), (3, .ref 85), (4, .int (nI i)), (5, .int 0), (6, .int 1)], [.ref 49], gh S a b sc24 ar24 lo23, ex23, (nc + nn23), (ns + ss23))) rfl ?_
            refine to_cp (q := 108) (M1 := an_X10_thrown) (rest := []) rfl rfl (by decide) rfl ⟨_, rfl⟩ (sf_X10_thrown hW hI24 (d + 32)) (fun x26 hx26 => ?_)
            refine to_eq (fr' := (563, [(0, .ref 1000000), (1, .ref 0), (2, .ref 49), (3, .ref 85), (4, .int (nI i)), (5, .int 0), (6, .int 1)], [.int x26], gh S a b sc24 ar24 lo23, ex23, (nc + nn23), (ns + ss23))) rfl ?_
            refine to_n 1 (fr' := (565, [(0, .ref 1000000), (1, .ref 0), (2, .ref 49), (3, .ref 85), (4, .int (nI i)), (5, .int 0), (6, .int 1)], [.int 0, .int x26], gh S a b sc24 ar24 lo23, ex23, (nc + nn23), (ns + ss23))) rfl ?_
            refine to_ic_eq_T (t := 570) rfl (hx26.trans v5) ?_
            refine to_n 10 (fr' := (589, [(0, .ref 1000000), (1, .ref 0), (2, .ref 49), (3, .ref 85), (4, .int (nI i)), (5, .int 0), (6, .int 1)], [.int (lg_cmp (lo23 0) 1)], gh S a b sc24 ar24 lo23, ex23, (nc + nn23), (ns + ss23))) rfl ?_
            refine to_if_eq_T (t := 594) rfl (by rw [wl]; exact lg_self _) ?_
            refine to_n 2 (fr' := (792, [(0, .ref 1000000), (1, .ref 0), (2, .ref 49), (3, .ref 85), (4, .int ((nI i) + 6)), (5, .int 0), (6, .int 1)], [], gh S a b sc24 ar24 lo23, ex23, (nc + nn23), (ns + ss23))) rfl ?_
            rw [show ((nI i) + 6 : Int32) = nI (i + 6) from nI_add _ 6]
            refine to_n 1 (fr' := (43, [(0, .ref 1000000), (1, .ref 0), (2, .ref 49), (3, .ref 85), (4, .int (nI (i + 6))), (5, .int 0), (6, .int 1)], [], gh S a b sc24 ar24 lo23, ex23, (nc + nn23), (ns + ss23))) rfl ?_
            refine to_lv (lv := [(0, .ref 1000000), (1, .ref 0), (2, .ref 49), (3, .ref 85), (4, .int (nI (i + 6)))]) rfl ⟨rfl, rfl, rfl, rfl, rfl, trivial⟩ ?_
            exact ih (i + 6) sc24 ar24 lo23 ex23 (nc + nn23) (ns + ss23) (by omega) (by omega) hI24 hL24 hR24 (by omega) (by omega)
          · refine to_eq (fr' := (557, [(0, .ref 1000000), (1, .ref 0), (2, .ref 49), (3, .ref 85), (4, .int (nI i)), (5, .int 1)], [.int x24], gh S a b sc24 ar24 lo23, ex23, (nc + nn23), (ns + ss23))) rfl ?_
            refine to_n 2 (fr' := (560, [(0, .ref 1000000), (1, .ref 0), (2, .ref 49), (3, .ref 85), (4, .int (nI i)), (5, .int 1), (6, .int x24)], [.ref 49], gh S a b sc24 ar24 lo23, ex23, (nc + nn23), (ns + ss23))) rfl ?_
            refine to_cp (q := 108) (M1 := an_X10_thrown) (rest := []) rfl rfl (by decide) rfl ⟨_, rfl⟩ (sf_X10_thrown hW hI24 (d + 32)) (fun x27 hx27 => ?_)
            refine to_eq (fr' := (563, [(0, .ref 1000000), (1, .ref 0), (2, .ref 49), (3, .ref 85), (4, .int (nI i)), (5, .int 1), (6, .int x24)], [.int x27], gh S a b sc24 ar24 lo23, ex23, (nc + nn23), (ns + ss23))) rfl ?_
            refine to_n 1 (fr' := (565, [(0, .ref 1000000), (1, .ref 0), (2, .ref 49), (3, .ref 85), (4, .int (nI i)), (5, .int 1), (6, .int x24)], [.int 1, .int x27], gh S a b sc24 ar24 lo23, ex23, (nc + nn23), (ns + ss23))) rfl ?_
            refine to_ic_eq_T (t := 570) rfl (hx27.trans v5) ?_
            refine to_n 4 (fr' := (792, [(0, .ref 1000000), (1, .ref 0), (2, .ref 49), (3, .ref 85), (4, .int ((nI i) + 6)), (5, .int 1), (6, .int x24)], [], gh S a b sc24 ar24 lo23, ex23, (nc + nn23), (ns + ss23))) rfl ?_
            rw [show ((nI i) + 6 : Int32) = nI (i + 6) from nI_add _ 6]
            refine to_n 1 (fr' := (43, [(0, .ref 1000000), (1, .ref 0), (2, .ref 49), (3, .ref 85), (4, .int (nI (i + 6))), (5, .int 1), (6, .int x24)], [], gh S a b sc24 ar24 lo23, ex23, (nc + nn23), (ns + ss23))) rfl ?_
            refine to_lv (lv := [(0, .ref 1000000), (1, .ref 0), (2, .ref 49), (3, .ref 85), (4, .int (nI (i + 6)))]) rfl ⟨rfl, rfl, rfl, rfl, rfl, trivial⟩ ?_
            exact ih (i + 6) sc24 ar24 lo23 ex23 (nc + nn23) (ns + ss23) (by omega) (by omega) hI24 hL24 hR24 (by omega) (by omega)
        · refine to_eq (fr' := (597, [(0, .ref 1000000), (1, .ref 0), (2, .ref 49), (3, .ref 85), (4, .int (nI i))], [], gh S a b sc ar lo, ex, nc, ns)) rfl ?_
          refine to_n 4 (fr' := (602, [(0, .ref 1000000), (1, .ref 0), (2, .ref 49), (3, .ref 85), (4, .int (nI i))], [.int 1, .int (nI i), .ref 1000000, .ref 0], gh S a b sc ar lo, ex, nc, ns)) rfl ?_
          refine to_addN (x := i) (y := 1) rfl ?_
          refine to_ldx (i := (i + 1)) rfl (by omega) (by omega) ?_
          refine to_n 1 (fr' := (605, [(0, .ref 1000000), (1, .ref 0), (2, .ref 49), (3, .ref 85), (4, .int (nI i))], [.ref 85, .int (X.2 (i + 1)), .ref 0], gh S a b sc ar lo, ex, nc, ns)) rfl ?_
          refine to_cl (q := 178) (M1 := an_L_hours) (rest := []) rfl rfl (by decide) rfl trivial (lc_hours hW hI n hn9 l0 hl7 (X.2 (i + 1)) hR.2.1 hR.2.2.2.1.1 q1 q3 (d + 24)) (fun x28 sc28 ar28 lo28 ex28 nn28 ss28 hx28 hn28 hs28 => ?_)
          obtain ⟨hI28, hG28, hx28⟩ := hx28
          have hL28 : Lw sc28 ar28 := lw_fr hLw hG28 (by decide) (by decide) (by decide) (by decide)
          refine to_eq (fr' := (608, [(0, .ref 1000000), (1, .ref 0), (2, .ref 49), (3, .ref 85), (4, .int (nI i))], [.int x28], gh S a b sc28 ar28 lo28, ex28, (nc + nn28), (ns + ss28))) rfl ?_
          refine to_n 5 (fr' := (615, [(0, .ref 1000000), (1, .ref 0), (2, .ref 49), (3, .ref 85), (4, .int (nI i)), (5, .int x28)], [.int 1, .int (nI i), .ref 1000000, .ref 49], gh S a b sc28 ar28 lo28, ex28, (nc + nn28), (ns + ss28))) rfl ?_
          refine to_addN (x := i) (y := 1) rfl ?_
          refine to_ldx (i := (i + 1)) rfl (by omega) (by omega) ?_
          refine to_ci (q := 157) (M1 := an_X10_hours) (rest := []) rfl rfl (by decide) rfl ⟨_, rfl⟩ (sf_X10_hours hW hI28 n hn9 l0 hl7 (X.2 (i + 1)) hL28 (ld_fr (ld_s hR.2.2.2.1.2.1) hG28 (by decide) (by decide) (by decide)) ((hG28.1 4906 (by decide)).trans q2) ((hG28.1 4907 (by decide)).trans q4) (d + 26)) (fun x29 sc29 ar29 hx29 => ?_)
          obtain ⟨hI29, hG29, hx29⟩ := hx29
          have hL29 : Lw sc29 ar29 := lw_fr hL28 hG29 (by decide) (by decide) (by decide) (by decide)
          have hP29 := pr_hours hS hR hx28 hG28 hx29 hG29
          have hR29 : ∃ n l0 h : Nat, Rl S a b n l0 h sc29 ar29 := (hP29.1.elim fun h2 w => ⟨n, l0, h2, w⟩)
          clear hx28 hx29 hP29
          refine to_eq (fr' := (620, [(0, .ref 1000000), (1, .ref 0), (2, .ref 49), (3, .ref 85), (4, .int (nI i)), (5, .int x28)], [.int x29], gh S a b sc29 ar29 lo28, ex28, (nc + nn28), (ns + ss28))) rfl ?_
          refine to_n 3 (fr' := (792, [(0, .ref 1000000), (1, .ref 0), (2, .ref 49), (3, .ref 85), (4, .int ((nI i) + 6)), (5, .int x28), (6, .int x29)], [], gh S a b sc29 ar29 lo28, ex28, (nc + nn28), (ns + ss28))) rfl ?_
          rw [show ((nI i) + 6 : Int32) = nI (i + 6) from nI_add _ 6]
          refine to_n 1 (fr' := (43, [(0, .ref 1000000), (1, .ref 0), (2, .ref 49), (3, .ref 85), (4, .int (nI (i + 6))), (5, .int x28), (6, .int x29)], [], gh S a b sc29 ar29 lo28, ex28, (nc + nn28), (ns + ss28))) rfl ?_
          refine to_lv (lv := [(0, .ref 1000000), (1, .ref 0), (2, .ref 49), (3, .ref 85), (4, .int (nI (i + 6)))]) rfl ⟨rfl, rfl, rfl, rfl, rfl, trivial⟩ ?_
          exact ih (i + 6) sc29 ar29 lo28 ex28 (nc + nn28) (ns + ss28) (by omega) (by omega) hI29 hL29 hR29 (by omega) (by omega)
        · refine to_eq (fr' := (625, [(0, .ref 1000000), (1, .ref 0), (2, .ref 49), (3, .ref 85), (4, .int (nI i))], [], gh S a b sc ar lo, ex, nc, ns)) rfl ?_
          refine to_n 4 (fr' := (630, [(0, .ref 1000000), (1, .ref 0), (2, .ref 49), (3, .ref 85), (4, .int (nI i))], [.int 1, .int (nI i), .ref 1000000, .ref 0], gh S a b sc ar lo, ex, nc, ns)) rfl ?_
          refine to_addN (x := i) (y := 1) rfl ?_
          refine to_ldx (i := (i + 1)) rfl (by omega) (by omega) ?_
          refine to_n 3 (fr' := (636, [(0, .ref 1000000), (1, .ref 0), (2, .ref 49), (3, .ref 85), (4, .int (nI i))], [.int 2, .int (nI i), .ref 1000000, .int (X.2 (i + 1)), .ref 0], gh S a b sc ar lo, ex, nc, ns)) rfl ?_
          refine to_addN (x := i) (y := 2) rfl ?_
          refine to_ldx (i := (i + 2)) rfl (by omega) (by omega) ?_
          refine to_n 1 (fr' := (639, [(0, .ref 1000000), (1, .ref 0), (2, .ref 49), (3, .ref 85), (4, .int (nI i))], [.ref 85, .int (X.2 (i + 2)), .int (X.2 (i + 1)), .ref 0], gh S a b sc ar lo, ex, nc, ns)) rfl ?_
          refine to_cl (q := 179) (M1 := an_L_cell_) (rest := []) rfl rfl (by decide) rfl trivial (lc_cell_ hW hI (X.2 (i + 1)) (X.2 (i + 2)) (d + 29)) (fun x30 sc30 ar30 lo30 ex30 nn30 ss30 hx30 hn30 hs30 => ?_)
          obtain ⟨hI30, hG30, hx30⟩ := hx30
          have hL30 : Lw sc30 ar30 := lw_fr hLw hG30 (by decide) (by decide) (by decide) (by decide)
          refine to_eq (fr' := (642, [(0, .ref 1000000), (1, .ref 0), (2, .ref 49), (3, .ref 85), (4, .int (nI i))], [.int x30], gh S a b sc30 ar30 lo30, ex30, (nc + nn30), (ns + ss30))) rfl ?_
          refine to_n 5 (fr' := (649, [(0, .ref 1000000), (1, .ref 0), (2, .ref 49), (3, .ref 85), (4, .int (nI i)), (5, .int x30)], [.int 1, .int (nI i), .ref 1000000, .ref 49], gh S a b sc30 ar30 lo30, ex30, (nc + nn30), (ns + ss30))) rfl ?_
          refine to_addN (x := i) (y := 1) rfl ?_
          refine to_ldx (i := (i + 1)) rfl (by omega) (by omega) ?_
          refine to_n 3 (fr' := (655, [(0, .ref 1000000), (1, .ref 0), (2, .ref 49), (3, .ref 85), (4, .int (nI i)), (5, .int x30)], [.int 2, .int (nI i), .ref 1000000, .int (X.2 (i + 1)), .ref 49], gh S a b sc30 ar30 lo30, ex30, (nc + nn30), (ns + ss30))) rfl ?_
          refine to_addN (x := i) (y := 2) rfl ?_
          refine to_ldx (i := (i + 2)) rfl (by omega) (by omega) ?_
          refine to_ci (q := 158) (M1 := an_X10_cell) (rest := []) rfl rfl (by decide) rfl ⟨_, rfl⟩ (sf_X10_cell hW hI30 (X.2 (i + 1)) (X.2 (i + 2)) (d + 31)) (fun x31 sc31 ar31 hx31 => ?_)
          obtain ⟨hI31, hG31, hx31⟩ := hx31
          have hL31 : Lw sc31 ar31 := lw_fr hL30 hG31 (by decide) (by decide) (by decide) (by decide)
          have hP31 := pr_cell hS hR hx30 hG30 hx31 hG31
          have hR31 : ∃ n l0 h : Nat, Rl S a b n l0 h sc31 ar31 := ⟨n, l0, h, hP31.1⟩
          clear hx30 hx31 hP31
          refine to_eq (fr' := (660, [(0, .ref 1000000), (1, .ref 0), (2, .ref 49), (3, .ref 85), (4, .int (nI i)), (5, .int x30)], [.int x31], gh S a b sc31 ar31 lo30, ex30, (nc + nn30), (ns + ss30))) rfl ?_
          refine to_n 3 (fr' := (792, [(0, .ref 1000000), (1, .ref 0), (2, .ref 49), (3, .ref 85), (4, .int ((nI i) + 6)), (5, .int x30), (6, .int x31)], [], gh S a b sc31 ar31 lo30, ex30, (nc + nn30), (ns + ss30))) rfl ?_
          rw [show ((nI i) + 6 : Int32) = nI (i + 6) from nI_add _ 6]
          refine to_n 1 (fr' := (43, [(0, .ref 1000000), (1, .ref 0), (2, .ref 49), (3, .ref 85), (4, .int (nI (i + 6))), (5, .int x30), (6, .int x31)], [], gh S a b sc31 ar31 lo30, ex30, (nc + nn30), (ns + ss30))) rfl ?_
          refine to_lv (lv := [(0, .ref 1000000), (1, .ref 0), (2, .ref 49), (3, .ref 85), (4, .int (nI (i + 6)))]) rfl ⟨rfl, rfl, rfl, rfl, rfl, trivial⟩ ?_
          exact ih (i + 6) sc31 ar31 lo30 ex30 (nc + nn30) (ns + ss30) (by omega) (by omega) hI31 hL31 hR31 (by omega) (by omega)
        · refine to_eq (fr' := (665, [(0, .ref 1000000), (1, .ref 0), (2, .ref 49), (3, .ref 85), (4, .int (nI i))], [], gh S a b sc ar lo, ex, nc, ns)) rfl ?_
          refine to_n 4 (fr' := (670, [(0, .ref 1000000), (1, .ref 0), (2, .ref 49), (3, .ref 85), (4, .int (nI i))], [.int 1, .int (nI i), .ref 1000000, .ref 0], gh S a b sc ar lo, ex, nc, ns)) rfl ?_
          refine to_addN (x := i) (y := 1) rfl ?_
          refine to_ldx (i := (i + 1)) rfl (by omega) (by omega) ?_
          refine to_n 3 (fr' := (676, [(0, .ref 1000000), (1, .ref 0), (2, .ref 49), (3, .ref 85), (4, .int (nI i))], [.int 2, .int (nI i), .ref 1000000, .int (X.2 (i + 1)), .ref 0], gh S a b sc ar lo, ex, nc, ns)) rfl ?_
          refine to_addN (x := i) (y := 2) rfl ?_
          refine to_ldx (i := (i + 2)) rfl (by omega) (by omega) ?_
          refine to_n 1 (fr' := (679, [(0, .ref 1000000), (1, .ref 0), (2, .ref 49), (3, .ref 85), (4, .int (nI i))], [.ref 85, .int (X.2 (i + 2)), .int (X.2 (i + 1)), .ref 0], gh S a b sc ar lo, ex, nc, ns)) rfl ?_
          refine to_cl (q := 180) (M1 := an_L_of) (rest := []) rfl rfl (by decide) rfl trivial (lc_of hW hI n hn9 (X.2 (i + 1)) (X.2 (i + 2)) q1 (d + 29)) (fun x32 sc32 ar32 lo32 ex32 nn32 ss32 hx32 hn32 hs32 => ?_)
          obtain ⟨hI32, hG32, hx32⟩ := hx32
          have hL32 : Lw sc32 ar32 := lw_fr hLw hG32 (by decide) (by decide) (by decide) (by decide)
          refine to_eq (fr' := (682, [(0, .ref 1000000), (1, .ref 0), (2, .ref 49), (3, .ref 85), (4, .int (nI i))], [.int x32], gh S a b sc32 ar32 lo32, ex32, (nc + nn32), (ns + ss32))) rfl ?_
          refine to_n 5 (fr' := (689, [(0, .ref 1000000), (1, .ref 0), (2, .ref 49), (3, .ref 85), (4, .int (nI i)), (5, .int x32)], [.int 1, .int (nI i), .ref 1000000, .ref 49], gh S a b sc32 ar32 lo32, ex32, (nc + nn32), (ns + ss32))) rfl ?_
          refine to_addN (x := i) (y := 1) rfl ?_
          refine to_ldx (i := (i + 1)) rfl (by omega) (by omega) ?_
          refine to_n 3 (fr' := (695, [(0, .ref 1000000), (1, .ref 0), (2, .ref 49), (3, .ref 85), (4, .int (nI i)), (5, .int x32)], [.int 2, .int (nI i), .ref 1000000, .int (X.2 (i + 1)), .ref 49], gh S a b sc32 ar32 lo32, ex32, (nc + nn32), (ns + ss32))) rfl ?_
          refine to_addN (x := i) (y := 2) rfl ?_
          refine to_ldx (i := (i + 2)) rfl (by omega) (by omega) ?_
          refine to_ci (q := 159) (M1 := an_X10_of) (rest := []) rfl rfl (by decide) rfl ⟨_, rfl⟩ (sf_X10_of hW hI32 n hn9 (X.2 (i + 1)) (X.2 (i + 2)) ((hG32.1 4906 (by decide)).trans q2) (d + 31)) (fun x33 sc33 ar33 hx33 => ?_)
          obtain ⟨hI33, hG33, hx33⟩ := hx33
          have hL33 : Lw sc33 ar33 := lw_fr hL32 hG33 (by decide) (by decide) (by decide) (by decide)
          have hP33 := pr_of hS hR hx32 hG32 hx33 hG33
          have hR33 : ∃ n l0 h : Nat, Rl S a b n l0 h sc33 ar33 := ⟨n, l0, h, hP33.1⟩
          clear hx32 hx33 hP33
          refine to_eq (fr' := (700, [(0, .ref 1000000), (1, .ref 0), (2, .ref 49), (3, .ref 85), (4, .int (nI i)), (5, .int x32)], [.int x33], gh S a b sc33 ar33 lo32, ex32, (nc + nn32), (ns + ss32))) rfl ?_
          refine to_n 3 (fr' := (792, [(0, .ref 1000000), (1, .ref 0), (2, .ref 49), (3, .ref 85), (4, .int ((nI i) + 6)), (5, .int x32), (6, .int x33)], [], gh S a b sc33 ar33 lo32, ex32, (nc + nn32), (ns + ss32))) rfl ?_
          rw [show ((nI i) + 6 : Int32) = nI (i + 6) from nI_add _ 6]
          refine to_n 1 (fr' := (43, [(0, .ref 1000000), (1, .ref 0), (2, .ref 49), (3, .ref 85), (4, .int (nI (i + 6))), (5, .int x32), (6, .int x33)], [], gh S a b sc33 ar33 lo32, ex32, (nc + nn32), (ns + ss32))) rfl ?_
          refine to_lv (lv := [(0, .ref 1000000), (1, .ref 0), (2, .ref 49), (3, .ref 85), (4, .int (nI (i + 6)))]) rfl ⟨rfl, rfl, rfl, rfl, rfl, trivial⟩ ?_
          exact ih (i + 6) sc33 ar33 lo32 ex32 (nc + nn32) (ns + ss32) (by omega) (by omega) hI33 hL33 hR33 (by omega) (by omega)
        · refine to_eq (fr' := (705, [(0, .ref 1000000), (1, .ref 0), (2, .ref 49), (3, .ref 85), (4, .int (nI i))], [], gh S a b sc ar lo, ex, nc, ns)) rfl ?_
          refine to_n 4 (fr' := (710, [(0, .ref 1000000), (1, .ref 0), (2, .ref 49), (3, .ref 85), (4, .int (nI i))], [.int 1, .int (nI i), .ref 1000000, .ref 0], gh S a b sc ar lo, ex, nc, ns)) rfl ?_
          refine to_addN (x := i) (y := 1) rfl ?_
          refine to_ldx (i := (i + 1)) rfl (by omega) (by omega) ?_
          refine to_n 1 (fr' := (713, [(0, .ref 1000000), (1, .ref 0), (2, .ref 49), (3, .ref 85), (4, .int (nI i))], [.ref 85, .int (X.2 (i + 1)), .ref 0], gh S a b sc ar lo, ex, nc, ns)) rfl ?_
          refine to_cl (q := 181) (M1 := an_L_breaks) (rest := []) rfl rfl (by decide) rfl trivial (lc_breaks hW hI (X.2 (i + 1)) (d + 26)) (fun x34 sc34 ar34 lo34 ex34 nn34 ss34 hx34 hn34 hs34 => ?_)
          obtain ⟨hI34, hG34, hx34⟩ := hx34
          have hL34 : Lw sc34 ar34 := lw_fr hLw hG34 (by decide) (by decide) (by decide) (by decide)
          refine to_eq (fr' := (716, [(0, .ref 1000000), (1, .ref 0), (2, .ref 49), (3, .ref 85), (4, .int (nI i))], [.int x34], gh S a b sc34 ar34 lo34, ex34, (nc + nn34), (ns + ss34))) rfl ?_
          refine to_n 5 (fr' := (723, [(0, .ref 1000000), (1, .ref 0), (2, .ref 49), (3, .ref 85), (4, .int (nI i)), (5, .int x34)], [.int 1, .int (nI i), .ref 1000000, .ref 49], gh S a b sc34 ar34 lo34, ex34, (nc + nn34), (ns + ss34))) rfl ?_
          refine to_addN (x := i) (y := 1) rfl ?_
          refine to_ldx (i := (i + 1)) rfl (by omega) (by omega) ?_
          refine to_ci (q := 165) (M1 := an_X10_breaks) (rest := []) rfl rfl (by decide) rfl ⟨_, rfl⟩ (sf_X10_breaks hW hI34 (X.2 (i + 1)) (d + 28)) (fun x35 sc35 ar35 hx35 => ?_)
          obtain ⟨hI35, hG35, hx35⟩ := hx35
          have hL35 : Lw sc35 ar35 := lw_fr hL34 hG35 (by decide) (by decide) (by decide) (by decide)
          have hP35 := pr_breaks (x1 := 0) (y := 0) hS hR hx34 hG34 hx35 hG35
          have hR35 : ∃ n l0 h : Nat, Rl S a b n l0 h sc35 ar35 := ⟨n, l0, h, hP35⟩
          clear hx34 hx35 hP35
          refine to_eq (fr' := (728, [(0, .ref 1000000), (1, .ref 0), (2, .ref 49), (3, .ref 85), (4, .int (nI i)), (5, .int x34)], [.int x35], gh S a b sc35 ar35 lo34, ex34, (nc + nn34), (ns + ss34))) rfl ?_
          refine to_n 3 (fr' := (792, [(0, .ref 1000000), (1, .ref 0), (2, .ref 49), (3, .ref 85), (4, .int ((nI i) + 6)), (5, .int x34), (6, .int x35)], [], gh S a b sc35 ar35 lo34, ex34, (nc + nn34), (ns + ss34))) rfl ?_
          rw [show ((nI i) + 6 : Int32) = nI (i + 6) from nI_add _ 6]
          refine to_n 1 (fr' := (43, [(0, .ref 1000000), (1, .ref 0), (2, .ref 49), (3, .ref 85), (4, .int (nI (i + 6))), (5, .int x34), (6, .int x35)], [], gh S a b sc35 ar35 lo34, ex34, (nc + nn34), (ns + ss34))) rfl ?_
          refine to_lv (lv := [(0, .ref 1000000), (1, .ref 0), (2, .ref 49), (3, .ref 85), (4, .int (nI (i + 6)))]) rfl ⟨rfl, rfl, rfl, rfl, rfl, trivial⟩ ?_
          exact ih (i + 6) sc35 ar35 lo34 ex34 (nc + nn34) (ns + ss34) (by omega) (by omega) hI35 hL35 hR35 (by omega) (by omega)
        · refine to_eq (fr' := (733, [(0, .ref 1000000), (1, .ref 0), (2, .ref 49), (3, .ref 85), (4, .int (nI i))], [], gh S a b sc ar lo, ex, nc, ns)) rfl ?_
          refine to_n 4 (fr' := (738, [(0, .ref 1000000), (1, .ref 0), (2, .ref 49), (3, .ref 85), (4, .int (nI i))], [.int 1, .int (nI i), .ref 1000000, .ref 0], gh S a b sc ar lo, ex, nc, ns)) rfl ?_
          refine to_addN (x := i) (y := 1) rfl ?_
          refine to_ldx (i := (i + 1)) rfl (by omega) (by omega) ?_
          refine to_n 1 (fr' := (741, [(0, .ref 1000000), (1, .ref 0), (2, .ref 49), (3, .ref 85), (4, .int (nI i))], [.ref 85, .int (X.2 (i + 1)), .ref 0], gh S a b sc ar lo, ex, nc, ns)) rfl ?_
          refine to_cl (q := 182) (M1 := an_L_breaker) (rest := []) rfl rfl (by decide) rfl trivial (lc_breaker hW hI (X.2 (i + 1)) (d + 31)) (fun x36 sc36 ar36 lo36 ex36 nn36 ss36 hx36 hn36 hs36 => ?_)
          obtain ⟨hI36, hG36, hx36⟩ := hx36
          have hL36 : Lw sc36 ar36 := lw_fr hLw hG36 (by decide) (by decide) (by decide) (by decide)
          refine to_eq (fr' := (744, [(0, .ref 1000000), (1, .ref 0), (2, .ref 49), (3, .ref 85), (4, .int (nI i))], [.int x36], gh S a b sc36 ar36 lo36, ex36, (nc + nn36), (ns + ss36))) rfl ?_
          refine to_n 5 (fr' := (751, [(0, .ref 1000000), (1, .ref 0), (2, .ref 49), (3, .ref 85), (4, .int (nI i)), (5, .int x36)], [.int 1, .int (nI i), .ref 1000000, .ref 49], gh S a b sc36 ar36 lo36, ex36, (nc + nn36), (ns + ss36))) rfl ?_
          refine to_addN (x := i) (y := 1) rfl ?_
          refine to_ldx (i := (i + 1)) rfl (by omega) (by omega) ?_
          refine to_ci (q := 166) (M1 := an_X10_breaker) (rest := []) rfl rfl (by decide) rfl ⟨_, rfl⟩ (sf_X10_breaker hW hI36 (X.2 (i + 1)) (d + 31)) (fun x37 sc37 ar37 hx37 => ?_)
          obtain ⟨hI37, hG37, hx37⟩ := hx37
          have hL37 : Lw sc37 ar37 := lw_fr hL36 hG37 (by decide) (by decide) (by decide) (by decide)
          have hP37 := pr_breaker (x1 := 0) (y := 0) hS hR hx36 hG36 hx37 hG37
          have hR37 : ∃ n l0 h : Nat, Rl S a b n l0 h sc37 ar37 := ⟨n, l0, h, hP37⟩
          clear hx36 hx37 hP37
          refine to_eq (fr' := (756, [(0, .ref 1000000), (1, .ref 0), (2, .ref 49), (3, .ref 85), (4, .int (nI i)), (5, .int x36)], [.int x37], gh S a b sc37 ar37 lo36, ex36, (nc + nn36), (ns + ss36))) rfl ?_
          refine to_n 3 (fr' := (792, [(0, .ref 1000000), (1, .ref 0), (2, .ref 49), (3, .ref 85), (4, .int ((nI i) + 6)), (5, .int x36), (6, .int x37)], [], gh S a b sc37 ar37 lo36, ex36, (nc + nn36), (ns + ss36))) rfl ?_
          rw [show ((nI i) + 6 : Int32) = nI (i + 6) from nI_add _ 6]
          refine to_n 1 (fr' := (43, [(0, .ref 1000000), (1, .ref 0), (2, .ref 49), (3, .ref 85), (4, .int (nI (i + 6))), (5, .int x36), (6, .int x37)], [], gh S a b sc37 ar37 lo36, ex36, (nc + nn36), (ns + ss36))) rfl ?_
          refine to_lv (lv := [(0, .ref 1000000), (1, .ref 0), (2, .ref 49), (3, .ref 85), (4, .int (nI (i + 6)))]) rfl ⟨rfl, rfl, rfl, rfl, rfl, trivial⟩ ?_
          exact ih (i + 6) sc37 ar37 lo36 ex36 (nc + nn36) (ns + ss36) (by omega) (by omega) hI37 hL37 hR37 (by omega) (by omega)
        · refine to_eq (fr' := (761, [(0, .ref 1000000), (1, .ref 0), (2, .ref 49), (3, .ref 85), (4, .int (nI i))], [], gh S a b sc ar lo, ex, nc, ns)) rfl ?_
          refine to_n 4 (fr' := (766, [(0, .ref 1000000), (1, .ref 0), (2, .ref 49), (3, .ref 85), (4, .int (nI i))], [.int 1, .int (nI i), .ref 1000000, .ref 0], gh S a b sc ar lo, ex, nc, ns)) rfl ?_
          refine to_addN (x := i) (y := 1) rfl ?_
          refine to_ldx (i := (i + 1)) rfl (by omega) (by omega) ?_
          refine to_n 1 (fr' := (769, [(0, .ref 1000000), (1, .ref 0), (2, .ref 49), (3, .ref 85), (4, .int (nI i))], [.ref 85, .int (X.2 (i + 1)), .ref 0], gh S a b sc ar lo, ex, nc, ns)) rfl ?_
          refine to_cl (q := 183) (M1 := an_L_count) (rest := []) rfl rfl (by decide) rfl trivial (lc_count hW hI n hn9 h hh24 l0 hl7 (X.2 (i + 1)) q1 q5 q3 (d + 30)) (fun x38 sc38 ar38 lo38 ex38 nn38 ss38 hx38 hn38 hs38 => ?_)
          obtain ⟨hI38, hG38, hx38⟩ := hx38
          have hL38 : Lw sc38 ar38 := lw_fr hLw hG38 (by decide) (by decide) (by decide) (by decide)
          refine to_eq (fr' := (772, [(0, .ref 1000000), (1, .ref 0), (2, .ref 49), (3, .ref 85), (4, .int (nI i))], [.int x38], gh S a b sc38 ar38 lo38, ex38, (nc + nn38), (ns + ss38))) rfl ?_
          refine to_n 5 (fr' := (779, [(0, .ref 1000000), (1, .ref 0), (2, .ref 49), (3, .ref 85), (4, .int (nI i)), (5, .int x38)], [.int 1, .int (nI i), .ref 1000000, .ref 49], gh S a b sc38 ar38 lo38, ex38, (nc + nn38), (ns + ss38))) rfl ?_
          refine to_addN (x := i) (y := 1) rfl ?_
          refine to_ldx (i := (i + 1)) rfl (by omega) (by omega) ?_
          refine to_ci (q := 167) (M1 := an_X10_count) (rest := []) rfl rfl (by decide) rfl ⟨_, rfl⟩ (sf_X10_count hW hI38 n hn9 h hh24 l0 hl7 (X.2 (i + 1)) ((hG38.1 4906 (by decide)).trans q2) ((hG38.1 4904 (by decide)).trans q6) ((hG38.1 4907 (by decide)).trans q4) (d + 31)) (fun x39 sc39 ar39 hx39 => ?_)
          obtain ⟨hI39, hG39, hx39⟩ := hx39
          have hL39 : Lw sc39 ar39 := lw_fr hL38 hG39 (by decide) (by decide) (by decide) (by decide)
          have hP39 := pr_count hS hR hx38 hG38 hx39 hG39
          have hR39 : ∃ n l0 h : Nat, Rl S a b n l0 h sc39 ar39 := ⟨n, l0, h, hP39.1⟩
          clear hx38 hx39 hP39
          refine to_eq (fr' := (784, [(0, .ref 1000000), (1, .ref 0), (2, .ref 49), (3, .ref 85), (4, .int (nI i)), (5, .int x38)], [.int x39], gh S a b sc39 ar39 lo38, ex38, (nc + nn38), (ns + ss38))) rfl ?_
          refine to_n 3 (fr' := (792, [(0, .ref 1000000), (1, .ref 0), (2, .ref 49), (3, .ref 85), (4, .int ((nI i) + 6)), (5, .int x38), (6, .int x39)], [], gh S a b sc39 ar39 lo38, ex38, (nc + nn38), (ns + ss38))) rfl ?_
          rw [show ((nI i) + 6 : Int32) = nI (i + 6) from nI_add _ 6]
          refine to_n 1 (fr' := (43, [(0, .ref 1000000), (1, .ref 0), (2, .ref 49), (3, .ref 85), (4, .int (nI (i + 6))), (5, .int x38), (6, .int x39)], [], gh S a b sc39 ar39 lo38, ex38, (nc + nn38), (ns + ss38))) rfl ?_
          refine to_lv (lv := [(0, .ref 1000000), (1, .ref 0), (2, .ref 49), (3, .ref 85), (4, .int (nI (i + 6)))]) rfl ⟨rfl, rfl, rfl, rfl, rfl, trivial⟩ ?_
          exact ih (i + 6) sc39 ar39 lo38 ex38 (nc + nn38) (ns + ss38) (by omega) (by omega) hI39 hL39 hR39 (by omega) (by omega)
        · refine to_eq (fr' := (789, [(0, .ref 1000000), (1, .ref 0), (2, .ref 49), (3, .ref 85), (4, .int (nI i))], [], gh S a b sc ar lo, ex, nc, ns)) rfl ?_
          refine to_n 1 (fr' := (792, [(0, .ref 1000000), (1, .ref 0), (2, .ref 49), (3, .ref 85), (4, .int ((nI i) + 6))], [], gh S a b sc ar lo, ex, nc, ns)) rfl ?_
          rw [show ((nI i) + 6 : Int32) = nI (i + 6) from nI_add _ 6]
          refine to_n 1 (fr' := (43, [(0, .ref 1000000), (1, .ref 0), (2, .ref 49), (3, .ref 85), (4, .int (nI (i + 6)))], [], gh S a b sc ar lo, ex, nc, ns)) rfl ?_
          exact ih (i + 6) sc ar lo ex nc ns (by omega) (by omega) hI hLw ⟨n, l0, h, hR⟩ (by omega) (by omega)
