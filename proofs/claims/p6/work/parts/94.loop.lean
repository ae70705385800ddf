/-! the law, call after call -/
theorem lg_self (x : Int64) : lg_cmp x x = 0 := by
  unfold lg_cmp
  rw [if_neg (Int64.lt_irrefl), if_pos rfl]
set_option maxRecDepth 20000 in
theorem lw_loop {X : Nat × (Nat → Int32)} {S a b B BS : Nat} (hW : Wd S a b) (hX : X.1 ≤ 3074) (d : Nat) : ∀ (m i : Nat) (sc : Nat → Int32) (ar : Nat → Nat → Int32) (lo : Nat → Int64) (ex : Bool) (nc ns : Nat), X.1 ≤ i + 6 * m → i ≤ 4000 → Iv S sc ar → Lw sc ar → sc 2201 = sc 4908 → nc + m ≤ B → ns + 6 * m ≤ BS → ag_To X (d + 36) an_law (43, [(0, .ref 1000000), (1, .ref 0), (2, .ref 49), (3, .ref 85), (4, .int (nI i))], [], gh S a b sc ar lo, ex, nc, ns) (fun o => ∃ h9 ex9 nc9 ns9, nc9 ≤ B ∧ ns9 ≤ BS ∧ o = .inl (some (.int 1), h9, ex9, nc9, ns9)) := by
  obtain ⟨ha1, ha8, hb1, hb8, hab, hS1, hS⟩ := id hW
  intro m
  induction m with
  | zero =>
    intro i sc ar lo ex nc ns hm hi hI hLw hR hB hBS
    refine to_n 2 (fr' := (46, [(0, .ref 1000000), (1, .ref 0), (2, .ref 49), (3, .ref 85), (4, .int (nI i))], [.ref 1000000, .int (nI i)], gh S a b sc ar lo, ex, nc, ns)) rfl ?_
    refine to_lenx rfl ?_
    refine to_n 1 (fr' := (49, [(0, .ref 1000000), (1, .ref 0), (2, .ref 49), (3, .ref 85), (4, .int (nI i))], [.int 6, .int (nI X.1), .int (nI i)], gh S a b sc ar lo, ex, nc, ns)) rfl ?_
    rcases Nat.lt_or_ge X.1 6 with w | w
    · refine to_n 1 (fr' := (50, [(0, .ref 1000000), (1, .ref 0), (2, .ref 49), (3, .ref 85), (4, .int (nI i))], [.int ((nI X.1) - (nI 6)), .int (nI i)], gh S a b sc ar lo, ex, nc, ns)) rfl ?_
      refine to_ic_gt_T (t := 760) rfl (neg_lt (by omega) (sub_neg w (by omega))) ?_
      refine to_n 1 (fr' := (761, [(0, .ref 1000000), (1, .ref 0), (2, .ref 49), (3, .ref 85), (4, .int (nI i))], [.int 1], gh S a b sc ar lo, ex, nc, ns)) rfl ?_
      exact to_rt (i := .ireturn) (tg := []) rfl rfl ⟨_, _, _, _, by omega, by omega, rfl⟩
    · refine to_subN (x := X.1) (y := 6) rfl (by omega) ?_
      refine to_nc_gt_T (t := 760) (x := i) (y := X.1 - 6) rfl (by omega) (by omega) (by omega) ?_
      refine to_n 1 (fr' := (761, [(0, .ref 1000000), (1, .ref 0), (2, .ref 49), (3, .ref 85), (4, .int (nI i))], [.int 1], gh S a b sc ar lo, ex, nc, ns)) rfl ?_
      exact to_rt (i := .ireturn) (tg := []) rfl rfl ⟨_, _, _, _, by omega, by omega, rfl⟩
  | succ m ih =>
    intro i sc ar lo ex nc ns hm hi hI hLw hR hB hBS
    refine to_n 2 (fr' := (46, [(0, .ref 1000000), (1, .ref 0), (2, .ref 49), (3, .ref 85), (4, .int (nI i))], [.ref 1000000, .int (nI i)], gh S a b sc ar lo, ex, nc, ns)) rfl ?_
    refine to_lenx rfl ?_
    refine to_n 1 (fr' := (49, [(0, .ref 1000000), (1, .ref 0), (2, .ref 49), (3, .ref 85), (4, .int (nI i))], [.int 6, .int (nI X.1), .int (nI i)], gh S a b sc ar lo, ex, nc, ns)) rfl ?_
    rcases Nat.lt_or_ge X.1 6 with w | w
    · refine to_n 1 (fr' := (50, [(0, .ref 1000000), (1, .ref 0), (2, .ref 49), (3, .ref 85), (4, .int (nI i))], [.int ((nI X.1) - (nI 6)), .int (nI i)], gh S a b sc ar lo, ex, nc, ns)) rfl ?_
      refine to_ic_gt_T (t := 760) rfl (neg_lt (by omega) (sub_neg w (by omega))) ?_
      refine to_n 1 (fr' := (761, [(0, .ref 1000000), (1, .ref 0), (2, .ref 49), (3, .ref 85), (4, .int (nI i))], [.int 1], gh S a b sc ar lo, ex, nc, ns)) rfl ?_
      exact to_rt (i := .ireturn) (tg := []) rfl rfl ⟨_, _, _, _, by omega, by omega, rfl⟩
    · refine to_subN (x := X.1) (y := 6) rfl (by omega) ?_
      refine to_nc_gt (t := 760) (x := i) (y := X.1 - 6) rfl (by omega) (by omega) (fun q => ?_) (fun q => ?_)
      · refine to_n 1 (fr' := (761, [(0, .ref 1000000), (1, .ref 0), (2, .ref 49), (3, .ref 85), (4, .int (nI i))], [.int 1], gh S a b sc ar lo, ex, nc, ns)) rfl ?_
        exact to_rt (i := .ireturn) (tg := []) rfl rfl ⟨_, _, _, _, by omega, by omega, rfl⟩
      · refine to_n 2 (fr' := (56, [(0, .ref 1000000), (1, .ref 0), (2, .ref 49), (3, .ref 85), (4, .int (nI i))], [.int (nI i), .ref 1000000], gh S a b sc ar lo, ex, nc, ns)) rfl ?_
        refine to_ldx (i := i) rfl (by omega) (by omega) ?_
        refine to_n 2 (fr' := (60, [(0, .ref 1000000), (1, .ref 0), (2, .ref 49), (3, .ref 85), (4, .int (nI i))], [.int ((X.2 i) &&& 15)], gh S a b sc ar lo, ex, nc, ns)) rfl ?_
        refine to_tb (x := ((X.2 i) &&& 15)) rfl rfl (by decide) (fun t ht => ?_)
        obtain rfl | rfl | rfl | rfl | rfl | rfl | rfl | rfl | rfl | rfl | rfl | rfl | rfl | rfl | rfl | rfl | rfl : t = 140 ∨ t = 192 ∨ t = 248 ∨ t = 276 ∨ t = 328 ∨ t = 401 ∨ t = 441 ∨ t = 454 ∨ t = 482 ∨ t = 522 ∨ t = 562 ∨ t = 590 ∨ t = 630 ∨ t = 670 ∨ t = 698 ∨ t = 726 ∨ t = 754 := by simpa using to_mem (l := [140, 192, 248, 276, 328, 401, 441, 454, 482, 522, 562, 590, 630, 670, 698, 726, 754]) ht (by decide)
        · refine to_eq (fr' := (140, [(0, .ref 1000000), (1, .ref 0), (2, .ref 49), (3, .ref 85), (4, .int (nI i))], [], gh S a b sc ar lo, ex, nc, ns)) rfl ?_
          refine to_n 4 (fr' := (145, [(0, .ref 1000000), (1, .ref 0), (2, .ref 49), (3, .ref 85), (4, .int (nI i))], [.int 1, .int (nI i), .ref 1000000, .ref 0], gh S a b sc ar lo, ex, nc, ns)) rfl ?_
          refine to_addN (x := i) (y := 1) rfl ?_
          refine to_ldx (i := (i + 1)) rfl (by omega) (by omega) ?_
          refine to_n 3 (fr' := (151, [(0, .ref 1000000), (1, .ref 0), (2, .ref 49), (3, .ref 85), (4, .int (nI i))], [.int 2, .int (nI i), .ref 1000000, .int (X.2 (i + 1)), .ref 0], gh S a b sc ar lo, ex, nc, ns)) rfl ?_
          refine to_addN (x := i) (y := 2) rfl ?_
          refine to_ldx (i := (i + 2)) rfl (by omega) (by omega) ?_
          refine to_n 3 (fr' := (157, [(0, .ref 1000000), (1, .ref 0), (2, .ref 49), (3, .ref 85), (4, .int (nI i))], [.int 3, .int (nI i), .ref 1000000, .int (X.2 (i + 2)), .int (X.2 (i + 1)), .ref 0], gh S a b sc ar lo, ex, nc, ns)) rfl ?_
          refine to_addN (x := i) (y := 3) rfl ?_
          refine to_ldx (i := (i + 3)) rfl (by omega) (by omega) ?_
          refine to_n 1 (fr' := (160, [(0, .ref 1000000), (1, .ref 0), (2, .ref 49), (3, .ref 85), (4, .int (nI i))], [.ref 85, .int (X.2 (i + 3)), .int (X.2 (i + 2)), .int (X.2 (i + 1)), .ref 0], gh S a b sc ar lo, ex, nc, ns)) rfl ?_
          refine to_cl (q := 169) (M1 := an_L_house) (rest := []) rfl rfl (by decide) rfl trivial (lc_house hW hI (X.2 (i + 1)) (X.2 (i + 2)) (X.2 (i + 3)) (d + 32)) (fun x1 sc1 ar1 lo1 ex1 nn1 ss1 hx1 hn1 hs1 => ?_)
          obtain ⟨hI1, hG1⟩ := hx1
          have hL1 : Lw sc1 ar1 := lw_fr hLw hG1 (by decide) (by decide) (by decide) (by decide)
          have hR1 : sc1 2201 = sc1 4908 := (hG1.1 2201 (by decide)).trans (hR.trans (hG1.1 4908 (by decide)).symm)
          refine to_eq (fr' := (163, [(0, .ref 1000000), (1, .ref 0), (2, .ref 49), (3, .ref 85), (4, .int (nI i))], [.int x1], gh S a b sc1 ar1 lo1, ex1, (nc + nn1), (ns + ss1))) rfl ?_
          refine to_n 5 (fr' := (170, [(0, .ref 1000000), (1, .ref 0), (2, .ref 49), (3, .ref 85), (4, .int (nI i)), (5, .int x1)], [.int 1, .int (nI i), .ref 1000000, .ref 49], gh S a b sc1 ar1 lo1, ex1, (nc + nn1), (ns + ss1))) rfl ?_
          refine to_addN (x := i) (y := 1) rfl ?_
          refine to_ldx (i := (i + 1)) rfl (by omega) (by omega) ?_
          refine to_n 3 (fr' := (176, [(0, .ref 1000000), (1, .ref 0), (2, .ref 49), (3, .ref 85), (4, .int (nI i)), (5, .int x1)], [.int 2, .int (nI i), .ref 1000000, .int (X.2 (i + 1)), .ref 49], gh S a b sc1 ar1 lo1, ex1, (nc + nn1), (ns + ss1))) rfl ?_
          refine to_addN (x := i) (y := 2) rfl ?_
          refine to_ldx (i := (i + 2)) rfl (by omega) (by omega) ?_
          refine to_n 3 (fr' := (182, [(0, .ref 1000000), (1, .ref 0), (2, .ref 49), (3, .ref 85), (4, .int (nI i)), (5, .int x1)], [.int 3, .int (nI i), .ref 1000000, .int (X.2 (i + 2)), .int (X.2 (i + 1)), .ref 49], gh S a b sc1 ar1 lo1, ex1, (nc + nn1), (ns + ss1))) rfl ?_
          refine to_addN (x := i) (y := 3) rfl ?_
          refine to_ldx (i := (i + 3)) rfl (by omega) (by omega) ?_
          refine to_ci (q := 113) (M1 := an_X10_house) (rest := []) rfl rfl (by decide) rfl ⟨_, rfl⟩ (sf_X10_house hW hI1 (X.2 (i + 1)) (X.2 (i + 2)) (X.2 (i + 3)) (d + 34)) (fun x2 sc2 ar2 hx2 => ?_)
          obtain ⟨hI2, hG2, hx2⟩ := hx2
          have hL2 : Lw sc2 ar2 := lw_fr hL1 hG2 (by decide) (by decide) (by decide) (by decide)
          clear hx2
          have hR2 : sc2 2201 = sc2 4908 := (hG2.1 2201 (by decide)).trans (hR1.trans (hG2.1 4908 (by decide)).symm)
          refine to_eq (fr' := (187, [(0, .ref 1000000), (1, .ref 0), (2, .ref 49), (3, .ref 85), (4, .int (nI i)), (5, .int x1)], [.int x2], gh S a b sc2 ar2 lo1, ex1, (nc + nn1), (ns + ss1))) rfl ?_
          refine to_n 3 (fr' := (757, [(0, .ref 1000000), (1, .ref 0), (2, .ref 49), (3, .ref 85), (4, .int ((nI i) + 6)), (5, .int x1), (6, .int x2)], [], gh S a b sc2 ar2 lo1, ex1, (nc + nn1), (ns + ss1))) rfl ?_
          rw [show ((nI i) + 6 : Int32) = nI (i + 6) from nI_add _ 6]
          refine to_n 1 (fr' := (43, [(0, .ref 1000000), (1, .ref 0), (2, .ref 49), (3, .ref 85), (4, .int (nI (i + 6))), (5, .int x1), (6, .int x2)], [], gh S a b sc2 ar2 lo1, ex1, (nc + nn1), (ns + ss1))) rfl ?_
          refine to_lv (lv := [(0, .ref 1000000), (1, .ref 0), (2, .ref 49), (3, .ref 85), (4, .int (nI (i + 6)))]) rfl ⟨rfl, rfl, rfl, rfl, rfl, trivial⟩ ?_
          exact ih (i + 6) sc2 ar2 lo1 ex1 (nc + nn1) (ns + ss1) (by omega) (by omega) hI2 hL2 hR2 (by omega) (by omega)
        · refine to_eq (fr' := (192, [(0, .ref 1000000), (1, .ref 0), (2, .ref 49), (3, .ref 85), (4, .int (nI i))], [], gh S a b sc ar lo, ex, nc, ns)) rfl ?_
          refine to_n 4 (fr' := (197, [(0, .ref 1000000), (1, .ref 0), (2, .ref 49), (3, .ref 85), (4, .int (nI i))], [.int 1, .int (nI i), .ref 1000000, .ref 0], gh S a b sc ar lo, ex, nc, ns)) rfl ?_
          refine to_addN (x := i) (y := 1) rfl ?_
          refine to_ldx (i := (i + 1)) rfl (by omega) (by omega) ?_
          refine to_n 3 (fr' := (203, [(0, .ref 1000000), (1, .ref 0), (2, .ref 49), (3, .ref 85), (4, .int (nI i))], [.int 2, .int (nI i), .ref 1000000, .int (X.2 (i + 1)), .ref 0], gh S a b sc ar lo, ex, nc, ns)) rfl ?_
          refine to_addN (x := i) (y := 2) rfl ?_
          refine to_ldx (i := (i + 2)) rfl (by omega) (by omega) ?_
          refine to_if_eq (t := 212) rfl (fun q3 => ?_) (fun q3 => ?_)
          · refine to_n 2 (fr' := (214, [(0, .ref 1000000), (1, .ref 0), (2, .ref 49), (3, .ref 85), (4, .int (nI i))], [.ref 85, .int 0, .int (X.2 (i + 1)), .ref 0], gh S a b sc ar lo, ex, nc, ns)) rfl ?_
            refine to_cl (q := 170) (M1 := an_L_well) (rest := []) rfl rfl (by decide) rfl trivial (lc_well hW hI (X.2 (i + 1)) 0 (by omega) (d + 32)) (fun x4 sc4 ar4 lo4 ex4 nn4 ss4 hx4 hn4 hs4 => ?_)
            obtain ⟨hI4, hG4⟩ := hx4
            have hL4 : Lw sc4 ar4 := lw_fr hLw hG4 (by decide) (by decide) (by decide) (by decide)
            have hR4 : sc4 2201 = sc4 4908 := (hG4.1 2201 (by decide)).trans (hR.trans (hG4.1 4908 (by decide)).symm)
            refine to_eq (fr' := (217, [(0, .ref 1000000), (1, .ref 0), (2, .ref 49), (3, .ref 85), (4, .int (nI i))], [.int x4], gh S a b sc4 ar4 lo4, ex4, (nc + nn4), (ns + ss4))) rfl ?_
            refine to_n 5 (fr' := (224, [(0, .ref 1000000), (1, .ref 0), (2, .ref 49), (3, .ref 85), (4, .int (nI i)), (5, .int x4)], [.int 1, .int (nI i), .ref 1000000, .ref 49], gh S a b sc4 ar4 lo4, ex4, (nc + nn4), (ns + ss4))) rfl ?_
            refine to_addN (x := i) (y := 1) rfl ?_
            refine to_ldx (i := (i + 1)) rfl (by omega) (by omega) ?_
            refine to_n 3 (fr' := (230, [(0, .ref 1000000), (1, .ref 0), (2, .ref 49), (3, .ref 85), (4, .int (nI i)), (5, .int x4)], [.int 2, .int (nI i), .ref 1000000, .int (X.2 (i + 1)), .ref 49], gh S a b sc4 ar4 lo4, ex4, (nc + nn4), (ns + ss4))) rfl ?_
            refine to_addN (x := i) (y := 2) rfl ?_
            refine to_ldx (i := (i + 2)) rfl (by omega) (by omega) ?_
            refine to_if_eq (t := 239) rfl (fun q5 => ?_) (fun q5 => ?_)
            · refine to_n 1 (fr' := (240, [(0, .ref 1000000), (1, .ref 0), (2, .ref 49), (3, .ref 85), (4, .int (nI i)), (5, .int x4)], [.int 0, .int (X.2 (i + 1)), .ref 49], gh S a b sc4 ar4 lo4, ex4, (nc + nn4), (ns + ss4))) rfl ?_
              refine to_ci (q := 114) (M1 := an_X10_well) (rest := []) rfl rfl (by decide) rfl ⟨_, rfl⟩ (sf_X10_well hW hI4 (X.2 (i + 1)) 0 (by omega) (d + 34)) (fun x6 sc6 ar6 hx6 => ?_)
              obtain ⟨hI6, hG6, hx6⟩ := hx6
              have hL6 : Lw sc6 ar6 := lw_fr hL4 hG6 (by decide) (by decide) (by decide) (by decide)
              clear hx6
              have hR6 : sc6 2201 = sc6 4908 := (hG6.1 2201 (by decide)).trans (hR4.trans (hG6.1 4908 (by decide)).symm)
              refine to_eq (fr' := (243, [(0, .ref 1000000), (1, .ref 0), (2, .ref 49), (3, .ref 85), (4, .int (nI i)), (5, .int x4)], [.int x6], gh S a b sc6 ar6 lo4, ex4, (nc + nn4), (ns + ss4))) rfl ?_
              refine to_n 3 (fr' := (757, [(0, .ref 1000000), (1, .ref 0), (2, .ref 49), (3, .ref 85), (4, .int ((nI i) + 6)), (5, .int x4), (6, .int x6)], [], gh S a b sc6 ar6 lo4, ex4, (nc + nn4), (ns + ss4))) rfl ?_
              rw [show ((nI i) + 6 : Int32) = nI (i + 6) from nI_add _ 6]
              refine to_n 1 (fr' := (43, [(0, .ref 1000000), (1, .ref 0), (2, .ref 49), (3, .ref 85), (4, .int (nI (i + 6))), (5, .int x4), (6, .int x6)], [], gh S a b sc6 ar6 lo4, ex4, (nc + nn4), (ns + ss4))) rfl ?_
              refine to_lv (lv := [(0, .ref 1000000), (1, .ref 0), (2, .ref 49), (3, .ref 85), (4, .int (nI (i + 6)))]) rfl ⟨rfl, rfl, rfl, rfl, rfl, trivial⟩ ?_
              exact ih (i + 6) sc6 ar6 lo4 ex4 (nc + nn4) (ns + ss4) (by omega) (by omega) hI6 hL6 hR6 (by omega) (by omega)
            · refine to_n 2 (fr' := (240, [(0, .ref 1000000), (1, .ref 0), (2, .ref 49), (3, .ref 85), (4, .int (nI i)), (5, .int x4)], [.int 1, .int (X.2 (i + 1)), .ref 49], gh S a b sc4 ar4 lo4, ex4, (nc + nn4), (ns + ss4))) rfl ?_
              refine to_ci (q := 114) (M1 := an_X10_well) (rest := []) rfl rfl (by decide) rfl ⟨_, rfl⟩ (sf_X10_well hW hI4 (X.2 (i + 1)) 1 (by omega) (d + 34)) (fun x7 sc7 ar7 hx7 => ?_)
              obtain ⟨hI7, hG7, hx7⟩ := hx7
              have hL7 : Lw sc7 ar7 := lw_fr hL4 hG7 (by decide) (by decide) (by decide) (by decide)
              clear hx7
              have hR7 : sc7 2201 = sc7 4908 := (hG7.1 2201 (by decide)).trans (hR4.trans (hG7.1 4908 (by decide)).symm)
              refine to_eq (fr' := (243, [(0, .ref 1000000), (1, .ref 0), (2, .ref 49), (3, .ref 85), (4, .int (nI i)), (5, .int x4)], [.int x7], gh S a b sc7 ar7 lo4, ex4, (nc + nn4), (ns + ss4))) rfl ?_
              refine to_n 3 (fr' := (757, [(0, .ref 1000000), (1, .ref 0), (2, .ref 49), (3, .ref 85), (4, .int ((nI i) + 6)), (5, .int x4), (6, .int x7)], [], gh S a b sc7 ar7 lo4, ex4, (nc + nn4), (ns + ss4))) rfl ?_
              rw [show ((nI i) + 6 : Int32) = nI (i + 6) from nI_add _ 6]
              refine to_n 1 (fr' := (43, [(0, .ref 1000000), (1, .ref 0), (2, .ref 49), (3, .ref 85), (4, .int (nI (i + 6))), (5, .int x4), (6, .int x7)], [], gh S a b sc7 ar7 lo4, ex4, (nc + nn4), (ns + ss4))) rfl ?_
              refine to_lv (lv := [(0, .ref 1000000), (1, .ref 0), (2, .ref 49), (3, .ref 85), (4, .int (nI (i + 6)))]) rfl ⟨rfl, rfl, rfl, rfl, rfl, trivial⟩ ?_
              exact ih (i + 6) sc7 ar7 lo4 ex4 (nc + nn4) (ns + ss4) (by omega) (by omega) hI7 hL7 hR7 (by omega) (by omega)
          · refine to_n 3 (fr' := (214, [(0, .ref 1000000), (1, .ref 0), (2, .ref 49), (3, .ref 85), (4, .int (nI i))], [.ref 85, .int 1, .int (X.2 (i + 1)), .ref 0], gh S a b sc ar lo, ex, nc, ns)) rfl ?_
            refine to_cl (q := 170) (M1 := an_L_well) (rest := []) rfl rfl (by decide) rfl trivial (lc_well hW hI (X.2 (i + 1)) 1 (by omega) (d + 32)) (fun x8 sc8 ar8 lo8 ex8 nn8 ss8 hx8 hn8 hs8 => ?_)
            obtain ⟨hI8, hG8⟩ := hx8
            have hL8 : Lw sc8 ar8 := lw_fr hLw hG8 (by decide) (by decide) (by decide) (by decide)
            have hR8 : sc8 2201 = sc8 4908 := (hG8.1 2201 (by decide)).trans (hR.trans (hG8.1 4908 (by decide)).symm)
            refine to_eq (fr' := (217, [(0, .ref 1000000), (1, .ref 0), (2, .ref 49), (3, .ref 85), (4, .int (nI i))], [.int x8], gh S a b sc8 ar8 lo8, ex8, (nc + nn8), (ns + ss8))) rfl ?_
            refine to_n 5 (fr' := (224, [(0, .ref 1000000), (1, .ref 0), (2, .ref 49), (3, .ref 85), (4, .int (nI i)), (5, .int x8)], [.int 1, .int (nI i), .ref 1000000, .ref 49], gh S a b sc8 ar8 lo8, ex8, (nc + nn8), (ns + ss8))) rfl ?_
            refine to_addN (x := i) (y := 1) rfl ?_
            refine to_ldx (i := (i + 1)) rfl (by omega) (by omega) ?_
            refine to_n 3 (fr' := (230, [(0, .ref 1000000), (1, .ref 0), (2, .ref 49), (3, .ref 85), (4, .int (nI i)), (5, .int x8)], [.int 2, .int (nI i), .ref 1000000, .int (X.2 (i + 1)), .ref 49], gh S a b sc8 ar8 lo8, ex8, (nc + nn8), (ns + ss8))) rfl ?_
            refine to_addN (x := i) (y := 2) rfl ?_
            refine to_ldx (i := (i + 2)) rfl (by omega) (by omega) ?_
            refine to_if_eq (t := 239) rfl (fun q9 => ?_) (fun q9 => ?_)
            · refine to_n 1 (fr' := (240, [(0, .ref 1000000), (1, .ref 0), (2, .ref 49), (3, .ref 85), (4, .int (nI i)), (5, .int x8)], [.int 0, .int (X.2 (i + 1)), .ref 49], gh S a b sc8 ar8 lo8, ex8, (nc + nn8), (ns + ss8))) rfl ?_
              refine to_ci (q := 114) (M1 := an_X10_well) (rest := []) rfl rfl (by decide) rfl ⟨_, rfl⟩ (sf_X10_well hW hI8 (X.2 (i + 1)) 0 (by omega) (d + 34)) (fun x10 sc10 ar10 hx10 => ?_)
              obtain ⟨hI10, hG10, hx10⟩ := hx10
              have hL10 : Lw sc10 ar10 := lw_fr hL8 hG10 (by decide) (by decide) (by decide) (by decide)
              clear hx10
              have hR10 : sc10 2201 = sc10 4908 := (hG10.1 2201 (by decide)).trans (hR8.trans (hG10.1 4908 (by decide)).symm)
              refine to_eq (fr' := (243, [(0, .ref 1000000), (1, .ref 0), (2, .ref 49), (3, .ref 85), (4, .int (nI i)), (5, .int x8)], [.int x10], gh S a b sc10 ar10 lo8, ex8, (nc + nn8), (ns + ss8))) rfl ?_
              refine to_n 3 (fr' := (757, [(0, .ref 1000000), (1, .ref 0), (2, .ref 49), (3, .ref 85), (4, .int ((nI i) + 6)), (5, .int x8), (6, .int x10)], [], gh S a b sc10 ar10 lo8, ex8, (nc + nn8), (ns + ss8))) rfl ?_
              rw [show ((nI i) + 6 : Int32) = nI (i + 6) from nI_add _ 6]
              refine to_n 1 (fr' := (43, [(0, .ref 1000000), (1, .ref 0), (2, .ref 49), (3, .ref 85), (4, .int (nI (i + 6))), (5, .int x8), (6, .int x10)], [], gh S a b sc10 ar10 lo8, ex8, (nc + nn8), (ns + ss8))) rfl ?_
              refine to_lv (lv := [(0, .ref 1000000), (1, .ref 0), (2, .ref 49), (3, .ref 85), (4, .int (nI (i + 6)))]) rfl ⟨rfl, rfl, rfl, rfl, rfl, trivial⟩ ?_
              exact ih (i + 6) sc10 ar10 lo8 ex8 (nc + nn8) (ns + ss8) (by omega) (by omega) hI10 hL10 hR10 (by omega) (by omega)
            · refine to_n 2 (fr' := (240, [(0, .ref 1000000), (1, .ref 0), (2, .ref 49), (3, .ref 85), (4, .int (nI i)), (5, .int x8)], [.int 1, .int (X.2 (i + 1)), .ref 49], gh S a b sc8 ar8 lo8, ex8, (nc + nn8), (ns + ss8))) rfl ?_
              refine to_ci (q := 114) (M1 := an_X10_well) (rest := []) rfl rfl (by decide) rfl ⟨_, rfl⟩ (sf_X10_well hW hI8 (X.2 (i + 1)) 1 (by omega) (d + 34)) (fun x11 sc11 ar11 hx11 => ?_)
              obtain ⟨hI11, hG11, hx11⟩ := hx11
              have hL11 : Lw sc11 ar11 := lw_fr hL8 hG11 (by decide) (by decide) (by decide) (by decide)
              clear hx11
              have hR11 : sc11 2201 = sc11 4908 := (hG11.1 2201 (by decide)).trans (hR8.trans (hG11.1 4908 (by decide)).symm)
              refine to_eq (fr' := (243, [(0, .ref 1000000), (1, .ref 0), (2, .ref 49), (3, .ref 85), (4, .int (nI i)), (5, .int x8)], [.int x11], gh S a b sc11 ar11 lo8, ex8, (nc + nn8), (ns + ss8))) rfl ?_
              refine to_n 3 (fr' := (757, [(0, .ref 1000000), (1, .ref 0), (2, .ref 49), (3, .ref 85), (4, .int ((nI i) + 6)), (5, .int x8), (6, .int x11)], [], gh S a b sc11 ar11 lo8, ex8, (nc + nn8), (ns + ss8))) rfl ?_
              rw [show ((nI i) + 6 : Int32) = nI (i + 6) from nI_add _ 6]
              refine to_n 1 (fr' := (43, [(0, .ref 1000000), (1, .ref 0), (2, .ref 49), (3, .ref 85), (4, .int (nI (i + 6))), (5, .int x8), (6, .int x11)], [], gh S a b sc11 ar11 lo8, ex8, (nc + nn8), (ns + ss8))) rfl ?_
              refine to_lv (lv := [(0, .ref 1000000), (1, .ref 0), (2, .ref 49), (3, .ref 85), (4, .int (nI (i + 6)))]) rfl ⟨rfl, rfl, rfl, rfl, rfl, trivial⟩ ?_
              exact ih (i + 6) sc11 ar11 lo8 ex8 (nc + nn8) (ns + ss8) (by omega) (by omega) hI11 hL11 hR11 (by omega) (by omega)
        · refine to_eq (fr' := (248, [(0, .ref 1000000), (1, .ref 0), (2, .ref 49), (3, .ref 85), (4, .int (nI i))], [], gh S a b sc ar lo, ex, nc, ns)) rfl ?_
          refine to_n 4 (fr' := (253, [(0, .ref 1000000), (1, .ref 0), (2, .ref 49), (3, .ref 85), (4, .int (nI i))], [.int 1, .int (nI i), .ref 1000000, .ref 0], gh S a b sc ar lo, ex, nc, ns)) rfl ?_
          refine to_addN (x := i) (y := 1) rfl ?_
          refine to_ldx (i := (i + 1)) rfl (by omega) (by omega) ?_
          refine to_n 1 (fr' := (256, [(0, .ref 1000000), (1, .ref 0), (2, .ref 49), (3, .ref 85), (4, .int (nI i))], [.ref 85, .int (X.2 (i + 1)), .ref 0], gh S a b sc ar lo, ex, nc, ns)) rfl ?_
          refine to_cl (q := 171) (M1 := an_L_wind) (rest := []) rfl rfl (by decide) rfl trivial (lc_wind hW hI (X.2 (i + 1)) (d + 34)) (fun x12 sc12 ar12 lo12 ex12 nn12 ss12 hx12 hn12 hs12 => ?_)
          obtain ⟨hI12, hG12, hx12⟩ := hx12
          have hL12 : Lw sc12 ar12 := lw_fr hLw hG12 (by decide) (by decide) (by decide) (by decide)
          clear hx12
          have hR12 : sc12 2201 = sc12 4908 := (hG12.1 2201 (by decide)).trans (hR.trans (hG12.1 4908 (by decide)).symm)
          refine to_eq (fr' := (259, [(0, .ref 1000000), (1, .ref 0), (2, .ref 49), (3, .ref 85), (4, .int (nI i))], [.int x12], gh S a b sc12 ar12 lo12, ex12, (nc + nn12), (ns + ss12))) rfl ?_
          refine to_n 5 (fr' := (266, [(0, .ref 1000000), (1, .ref 0), (2, .ref 49), (3, .ref 85), (4, .int (nI i)), (5, .int x12)], [.int 1, .int (nI i), .ref 1000000, .ref 49], gh S a b sc12 ar12 lo12, ex12, (nc + nn12), (ns + ss12))) rfl ?_
          refine to_addN (x := i) (y := 1) rfl ?_
          refine to_ldx (i := (i + 1)) rfl (by omega) (by omega) ?_
          refine to_ci (q := 115) (M1 := an_X10_wind) (rest := []) rfl rfl (by decide) rfl ⟨_, rfl⟩ (sf_X10_wind hW hI12 (X.2 (i + 1)) (d + 34)) (fun x13 sc13 ar13 hx13 => ?_)
          obtain ⟨hI13, hG13, hx13⟩ := hx13
          have hL13 : Lw sc13 ar13 := lw_fr hL12 hG13 (by decide) (by decide) (by decide) (by decide)
          clear hx13
          have hR13 : sc13 2201 = sc13 4908 := (hG13.1 2201 (by decide)).trans (hR12.trans (hG13.1 4908 (by decide)).symm)
          refine to_eq (fr' := (271, [(0, .ref 1000000), (1, .ref 0), (2, .ref 49), (3, .ref 85), (4, .int (nI i)), (5, .int x12)], [.int x13], gh S a b sc13 ar13 lo12, ex12, (nc + nn12), (ns + ss12))) rfl ?_
          refine to_n 3 (fr' := (757, [(0, .ref 1000000), (1, .ref 0), (2, .ref 49), (3, .ref 85), (4, .int ((nI i) + 6)), (5, .int x12), (6, .int x13)], [], gh S a b sc13 ar13 lo12, ex12, (nc + nn12), (ns + ss12))) rfl ?_
          rw [show ((nI i) + 6 : Int32) = nI (i + 6) from nI_add _ 6]
          refine to_n 1 (fr' := (43, [(0, .ref 1000000), (1, .ref 0), (2, .ref 49), (3, .ref 85), (4, .int (nI (i + 6))), (5, .int x12), (6, .int x13)], [], gh S a b sc13 ar13 lo12, ex12, (nc + nn12), (ns + ss12))) rfl ?_
          refine to_lv (lv := [(0, .ref 1000000), (1, .ref 0), (2, .ref 49), (3, .ref 85), (4, .int (nI (i + 6)))]) rfl ⟨rfl, rfl, rfl, rfl, rfl, trivial⟩ ?_
          exact ih (i + 6) sc13 ar13 lo12 ex12 (nc + nn12) (ns + ss12) (by omega) (by omega) hI13 hL13 hR13 (by omega) (by omega)
        · refine to_eq (fr' := (276, [(0, .ref 1000000), (1, .ref 0), (2, .ref 49), (3, .ref 85), (4, .int (nI i))], [], gh S a b sc ar lo, ex, nc, ns)) rfl ?_
          refine to_n 4 (fr' := (281, [(0, .ref 1000000), (1, .ref 0), (2, .ref 49), (3, .ref 85), (4, .int (nI i))], [.int 1, .int (nI i), .ref 1000000, .ref 0], gh S a b sc ar lo, ex, nc, ns)) rfl ?_
          refine to_addN (x := i) (y := 1) rfl ?_
          refine to_ldx (i := (i + 1)) rfl (by omega) (by omega) ?_
          refine to_n 3 (fr' := (287, [(0, .ref 1000000), (1, .ref 0), (2, .ref 49), (3, .ref 85), (4, .int (nI i))], [.int 2, .int (nI i), .ref 1000000, .int (X.2 (i + 1)), .ref 0], gh S a b sc ar lo, ex, nc, ns)) rfl ?_
          refine to_addN (x := i) (y := 2) rfl ?_
          refine to_ldx (i := (i + 2)) rfl (by omega) (by omega) ?_
          refine to_n 3 (fr' := (293, [(0, .ref 1000000), (1, .ref 0), (2, .ref 49), (3, .ref 85), (4, .int (nI i))], [.int 3, .int (nI i), .ref 1000000, .int (X.2 (i + 2)), .int (X.2 (i + 1)), .ref 0], gh S a b sc ar lo, ex, nc, ns)) rfl ?_
          refine to_addN (x := i) (y := 3) rfl ?_
          refine to_ldx (i := (i + 3)) rfl (by omega) (by omega) ?_
          refine to_n 1 (fr' := (296, [(0, .ref 1000000), (1, .ref 0), (2, .ref 49), (3, .ref 85), (4, .int (nI i))], [.ref 85, .int (X.2 (i + 3)), .int (X.2 (i + 2)), .int (X.2 (i + 1)), .ref 0], gh S a b sc ar lo, ex, nc, ns)) rfl ?_
          refine to_cl (q := 172) (M1 := an_L_company) (rest := []) rfl rfl (by decide) rfl trivial (lc_company hW hI (X.2 (i + 1)) (X.2 (i + 2)) (X.2 (i + 3)) (d + 32)) (fun x14 sc14 ar14 lo14 ex14 nn14 ss14 hx14 hn14 hs14 => ?_)
          obtain ⟨hI14, hG14, hx14⟩ := hx14
          have hL14 : Lw sc14 ar14 := lw_fr hLw hG14 (by decide) (by decide) (by decide) (by decide)
          clear hx14
          have hR14 : sc14 2201 = sc14 4908 := (hG14.1 2201 (by decide)).trans (hR.trans (hG14.1 4908 (by decide)).symm)
          refine to_eq (fr' := (299, [(0, .ref 1000000), (1, .ref 0), (2, .ref 49), (3, .ref 85), (4, .int (nI i))], [.int x14], gh S a b sc14 ar14 lo14, ex14, (nc + nn14), (ns + ss14))) rfl ?_
          refine to_n 5 (fr' := (306, [(0, .ref 1000000), (1, .ref 0), (2, .ref 49), (3, .ref 85), (4, .int (nI i)), (5, .int x14)], [.int 1, .int (nI i), .ref 1000000, .ref 49], gh S a b sc14 ar14 lo14, ex14, (nc + nn14), (ns + ss14))) rfl ?_
          refine to_addN (x := i) (y := 1) rfl ?_
          refine to_ldx (i := (i + 1)) rfl (by omega) (by omega) ?_
          refine to_n 3 (fr' := (312, [(0, .ref 1000000), (1, .ref 0), (2, .ref 49), (3, .ref 85), (4, .int (nI i)), (5, .int x14)], [.int 2, .int (nI i), .ref 1000000, .int (X.2 (i + 1)), .ref 49], gh S a b sc14 ar14 lo14, ex14, (nc + nn14), (ns + ss14))) rfl ?_
          refine to_addN (x := i) (y := 2) rfl ?_
          refine to_ldx (i := (i + 2)) rfl (by omega) (by omega) ?_
          refine to_n 3 (fr' := (318, [(0, .ref 1000000), (1, .ref 0), (2, .ref 49), (3, .ref 85), (4, .int (nI i)), (5, .int x14)], [.int 3, .int (nI i), .ref 1000000, .int (X.2 (i + 2)), .int (X.2 (i + 1)), .ref 49], gh S a b sc14 ar14 lo14, ex14, (nc + nn14), (ns + ss14))) rfl ?_
          refine to_addN (x := i) (y := 3) rfl ?_
          refine to_ldx (i := (i + 3)) rfl (by omega) (by omega) ?_
          refine to_ci (q := 116) (M1 := an_X10_company) (rest := []) rfl rfl (by decide) rfl ⟨_, rfl⟩ (sf_X10_company hW hI14 (X.2 (i + 1)) (X.2 (i + 2)) (X.2 (i + 3)) (d + 34)) (fun x15 sc15 ar15 hx15 => ?_)
          obtain ⟨hI15, hG15, hx15⟩ := hx15
          have hL15 : Lw sc15 ar15 := lw_fr hL14 hG15 (by decide) (by decide) (by decide) (by decide)
          clear hx15
          have hR15 : sc15 2201 = sc15 4908 := (hG15.1 2201 (by decide)).trans (hR14.trans (hG15.1 4908 (by decide)).symm)
          refine to_eq (fr' := (323, [(0, .ref 1000000), (1, .ref 0), (2, .ref 49), (3, .ref 85), (4, .int (nI i)), (5, .int x14)], [.int x15], gh S a b sc15 ar15 lo14, ex14, (nc + nn14), (ns + ss14))) rfl ?_
          refine to_n 3 (fr' := (757, [(0, .ref 1000000), (1, .ref 0), (2, .ref 49), (3, .ref 85), (4, .int ((nI i) + 6)), (5, .int x14), (6, .int x15)], [], gh S a b sc15 ar15 lo14, ex14, (nc + nn14), (ns + ss14))) rfl ?_
          rw [show ((nI i) + 6 : Int32) = nI (i + 6) from nI_add _ 6]
          refine to_n 1 (fr' := (43, [(0, .ref 1000000), (1, .ref 0), (2, .ref 49), (3, .ref 85), (4, .int (nI (i + 6))), (5, .int x14), (6, .int x15)], [], gh S a b sc15 ar15 lo14, ex14, (nc + nn14), (ns + ss14))) rfl ?_
          refine to_lv (lv := [(0, .ref 1000000), (1, .ref 0), (2, .ref 49), (3, .ref 85), (4, .int (nI (i + 6)))]) rfl ⟨rfl, rfl, rfl, rfl, rfl, trivial⟩ ?_
          exact ih (i + 6) sc15 ar15 lo14 ex14 (nc + nn14) (ns + ss14) (by omega) (by omega) hI15 hL15 hR15 (by omega) (by omega)
        · refine to_eq (fr' := (328, [(0, .ref 1000000), (1, .ref 0), (2, .ref 49), (3, .ref 85), (4, .int (nI i))], [], gh S a b sc ar lo, ex, nc, ns)) rfl ?_
          refine to_n 4 (fr' := (333, [(0, .ref 1000000), (1, .ref 0), (2, .ref 49), (3, .ref 85), (4, .int (nI i))], [.int 1, .int (nI i), .ref 1000000, .ref 0], gh S a b sc ar lo, ex, nc, ns)) rfl ?_
          refine to_addN (x := i) (y := 1) rfl ?_
          refine to_ldx (i := (i + 1)) rfl (by omega) (by omega) ?_
          refine to_n 3 (fr' := (339, [(0, .ref 1000000), (1, .ref 0), (2, .ref 49), (3, .ref 85), (4, .int (nI i))], [.int 2, .int (nI i), .ref 1000000, .int (X.2 (i + 1)), .ref 0], gh S a b sc ar lo, ex, nc, ns)) rfl ?_
          refine to_addN (x := i) (y := 2) rfl ?_
          refine to_ldx (i := (i + 2)) rfl (by omega) (by omega) ?_
          refine to_n 3 (fr' := (345, [(0, .ref 1000000), (1, .ref 0), (2, .ref 49), (3, .ref 85), (4, .int (nI i))], [.int 3, .int (nI i), .ref 1000000, .int (X.2 (i + 2)), .int (X.2 (i + 1)), .ref 0], gh S a b sc ar lo, ex, nc, ns)) rfl ?_
          refine to_addN (x := i) (y := 3) rfl ?_
          refine to_ldx (i := (i + 3)) rfl (by omega) (by omega) ?_
          refine to_n 3 (fr' := (351, [(0, .ref 1000000), (1, .ref 0), (2, .ref 49), (3, .ref 85), (4, .int (nI i))], [.int 4, .int (nI i), .ref 1000000, .int (X.2 (i + 3)), .int (X.2 (i + 2)), .int (X.2 (i + 1)), .ref 0], gh S a b sc ar lo, ex, nc, ns)) rfl ?_
          refine to_addN (x := i) (y := 4) rfl ?_
          refine to_ldx (i := (i + 4)) rfl (by omega) (by omega) ?_
          refine to_n 3 (fr' := (357, [(0, .ref 1000000), (1, .ref 0), (2, .ref 49), (3, .ref 85), (4, .int (nI i))], [.int 5, .int (nI i), .ref 1000000, .int (X.2 (i + 4)), .int (X.2 (i + 3)), .int (X.2 (i + 2)), .int (X.2 (i + 1)), .ref 0], gh S a b sc ar lo, ex, nc, ns)) rfl ?_
          refine to_addN (x := i) (y := 5) rfl ?_
          refine to_ldx (i := (i + 5)) rfl (by omega) (by omega) ?_
          refine to_ci (q := 77) (M1 := an_X9_feed) (rest := []) rfl rfl (by decide) rfl ⟨_, rfl⟩ (sf_X9_feed hW hI (X.2 (i + 1)) (X.2 (i + 2)) (X.2 (i + 3)) (X.2 (i + 4)) (X.2 (i + 5)) (d + 34)) (fun x16 sc16 ar16 hx16 => ?_)
          obtain ⟨hI16, hG16, hx16⟩ := hx16
          have hL16 : Lw sc16 ar16 := lw_fr hLw hG16 (by decide) (by decide) (by decide) (by decide)
          refine to_eq (fr' := (362, [(0, .ref 1000000), (1, .ref 0), (2, .ref 49), (3, .ref 85), (4, .int (nI i))], [.int x16], gh S a b sc16 ar16 lo, ex, nc, ns)) rfl ?_
          refine to_n 4 (fr' := (367, [(0, .ref 1000000), (1, .ref 0), (2, .ref 49), (3, .ref 85), (4, .int (nI i))], [.int 1, .int (nI i), .ref 1000000, .ref 49, .int x16], gh S a b sc16 ar16 lo, ex, nc, ns)) rfl ?_
          refine to_addN (x := i) (y := 1) rfl ?_
          refine to_ldx (i := (i + 1)) rfl (by omega) (by omega) ?_
          refine to_n 3 (fr' := (373, [(0, .ref 1000000), (1, .ref 0), (2, .ref 49), (3, .ref 85), (4, .int (nI i))], [.int 2, .int (nI i), .ref 1000000, .int (X.2 (i + 1)), .ref 49, .int x16], gh S a b sc16 ar16 lo, ex, nc, ns)) rfl ?_
          refine to_addN (x := i) (y := 2) rfl ?_
          refine to_ldx (i := (i + 2)) rfl (by omega) (by omega) ?_
          refine to_n 3 (fr' := (379, [(0, .ref 1000000), (1, .ref 0), (2, .ref 49), (3, .ref 85), (4, .int (nI i))], [.int 3, .int (nI i), .ref 1000000, .int (X.2 (i + 2)), .int (X.2 (i + 1)), .ref 49, .int x16], gh S a b sc16 ar16 lo, ex, nc, ns)) rfl ?_
          refine to_addN (x := i) (y := 3) rfl ?_
          refine to_ldx (i := (i + 3)) rfl (by omega) (by omega) ?_
          refine to_n 3 (fr' := (385, [(0, .ref 1000000), (1, .ref 0), (2, .ref 49), (3, .ref 85), (4, .int (nI i))], [.int 4, .int (nI i), .ref 1000000, .int (X.2 (i + 3)), .int (X.2 (i + 2)), .int (X.2 (i + 1)), .ref 49, .int x16], gh S a b sc16 ar16 lo, ex, nc, ns)) rfl ?_
          refine to_addN (x := i) (y := 4) rfl ?_
          refine to_ldx (i := (i + 4)) rfl (by omega) (by omega) ?_
          refine to_n 3 (fr' := (391, [(0, .ref 1000000), (1, .ref 0), (2, .ref 49), (3, .ref 85), (4, .int (nI i))], [.int 5, .int (nI i), .ref 1000000, .int (X.2 (i + 4)), .int (X.2 (i + 3)), .int (X.2 (i + 2)), .int (X.2 (i + 1)), .ref 49, .int x16], gh S a b sc16 ar16 lo, ex, nc, ns)) rfl ?_
          refine to_addN (x := i) (y := 5) rfl ?_
          refine to_ldx (i := (i + 5)) rfl (by omega) (by omega) ?_
          refine to_ci (q := 117) (M1 := an_X10_feed) (rest := [.int x16]) rfl rfl (by decide) rfl ⟨_, rfl⟩ (sf_X10_feed hW hI16 (X.2 (i + 1)) (X.2 (i + 2)) (X.2 (i + 3)) (X.2 (i + 4)) (X.2 (i + 5)) (d + 35)) (fun x17 sc17 ar17 hx17 => ?_)
          obtain ⟨hI17, hG17, hx17⟩ := hx17
          have hL17 : Lw sc17 ar17 := lw_fr hL16 hG17 (by decide) (by decide) (by decide) (by decide)
          have hm17 : sc16 4908 = sc 2201 := (hG16.1 4908 (by decide)).trans hR.symm
          obtain ⟨hv17, hu17⟩ := fe_eq hx16 hx17 hm17
          clear hx16 hx17
          have hR17 : sc17 2201 = sc17 4908 := (hG17.1 2201 (by decide)).trans hu17
          refine to_eq (fr' := (396, [(0, .ref 1000000), (1, .ref 0), (2, .ref 49), (3, .ref 85), (4, .int (nI i))], [.int x17, .int x16], gh S a b sc17 ar17 lo, ex, nc, ns)) rfl ?_
          refine to_ic_eq_T (t := 754) rfl hv17.symm ?_
          refine to_n 1 (fr' := (757, [(0, .ref 1000000), (1, .ref 0), (2, .ref 49), (3, .ref 85), (4, .int ((nI i) + 6))], [], gh S a b sc17 ar17 lo, ex, nc, ns)) rfl ?_
          rw [show ((nI i) + 6 : Int32) = nI (i + 6) from nI_add _ 6]
          refine to_n 1 (fr' := (43, [(0, .ref 1000000), (1, .ref 0), (2, .ref 49), (3, .ref 85), (4, .int (nI (i + 6)))], [], gh S a b sc17 ar17 lo, ex, nc, ns)) rfl ?_
          exact ih (i + 6) sc17 ar17 lo ex nc ns (by omega) (by omega) hI17 hL17 hR17 (by omega) (by omega)
        · refine to_eq (fr' := (401, [(0, .ref 1000000), (1, .ref 0), (2, .ref 49), (3, .ref 85), (4, .int (nI i))], [], gh S a b sc ar lo, ex, nc, ns)) rfl ?_
          refine to_n 4 (fr' := (406, [(0, .ref 1000000), (1, .ref 0), (2, .ref 49), (3, .ref 85), (4, .int (nI i))], [.int 1, .int (nI i), .ref 1000000, .ref 0], gh S a b sc ar lo, ex, nc, ns)) rfl ?_
          refine to_addN (x := i) (y := 1) rfl ?_
          refine to_ldx (i := (i + 1)) rfl (by omega) (by omega) ?_
          refine to_n 3 (fr' := (412, [(0, .ref 1000000), (1, .ref 0), (2, .ref 49), (3, .ref 85), (4, .int (nI i))], [.int 2, .int (nI i), .ref 1000000, .int (X.2 (i + 1)), .ref 0], gh S a b sc ar lo, ex, nc, ns)) rfl ?_
          refine to_addN (x := i) (y := 2) rfl ?_
          refine to_ldx (i := (i + 2)) rfl (by omega) (by omega) ?_
          refine to_n 1 (fr' := (415, [(0, .ref 1000000), (1, .ref 0), (2, .ref 49), (3, .ref 85), (4, .int (nI i))], [.ref 85, .int (X.2 (i + 2)), .int (X.2 (i + 1)), .ref 0], gh S a b sc ar lo, ex, nc, ns)) rfl ?_
          refine to_cl (q := 173) (M1 := an_L_law) (rest := []) rfl rfl (by decide) rfl trivial (lc_law hW hI (X.2 (i + 1)) (X.2 (i + 2)) d) (fun x18 sc18 ar18 lo18 ex18 nn18 ss18 hx18 hn18 hs18 => ?_)
          obtain ⟨hI18, hG18, hx18⟩ := hx18
          have hL18 : Lw sc18 ar18 := lw_fr hLw hG18 (by decide) (by decide) (by decide) (by decide)
          refine to_eq (fr' := (418, [(0, .ref 1000000), (1, .ref 0), (2, .ref 49), (3, .ref 85), (4, .int (nI i))], [.int x18], gh S a b sc18 ar18 lo18, ex18, (nc + nn18), (ns + ss18))) rfl ?_
          refine to_n 5 (fr' := (425, [(0, .ref 1000000), (1, .ref 0), (2, .ref 49), (3, .ref 85), (4, .int (nI i)), (5, .int x18)], [.int 1, .int (nI i), .ref 1000000, .ref 49], gh S a b sc18 ar18 lo18, ex18, (nc + nn18), (ns + ss18))) rfl ?_
          refine to_addN (x := i) (y := 1) rfl ?_
          refine to_ldx (i := (i + 1)) rfl (by omega) (by omega) ?_
          refine to_n 3 (fr' := (431, [(0, .ref 1000000), (1, .ref 0), (2, .ref 49), (3, .ref 85), (4, .int (nI i)), (5, .int x18)], [.int 2, .int (nI i), .ref 1000000, .int (X.2 (i + 1)), .ref 49], gh S a b sc18 ar18 lo18, ex18, (nc + nn18), (ns + ss18))) rfl ?_
          refine to_addN (x := i) (y := 2) rfl ?_
          refine to_ldx (i := (i + 2)) rfl (by omega) (by omega) ?_
          refine to_ci (q := 131) (M1 := an_X10_law) (rest := []) rfl rfl (by decide) rfl ⟨_, rfl⟩ (sf_X10_law hW hI18 (X.2 (i + 1)) (X.2 (i + 2)) hL18 (d + 3)) (fun x19 sc19 ar19 hx19 => ?_)
          obtain ⟨hI19, hG19, hx19⟩ := hx19
          have hL19 : Lw sc19 ar19 := hx19.1
          have hR19 : sc19 2201 = sc19 4908 := ltp_R hR hx18 (hG18.1 4908 (by decide)) hx19.2 (hG19.1 2201 (by decide))
          clear hx18 hx19
          refine to_eq (fr' := (436, [(0, .ref 1000000), (1, .ref 0), (2, .ref 49), (3, .ref 85), (4, .int (nI i)), (5, .int x18)], [.int x19], gh S a b sc19 ar19 lo18, ex18, (nc + nn18), (ns + ss18))) rfl ?_
          refine to_n 3 (fr' := (757, [(0, .ref 1000000), (1, .ref 0), (2, .ref 49), (3, .ref 85), (4, .int ((nI i) + 6)), (5, .int x18), (6, .int x19)], [], gh S a b sc19 ar19 lo18, ex18, (nc + nn18), (ns + ss18))) rfl ?_
          rw [show ((nI i) + 6 : Int32) = nI (i + 6) from nI_add _ 6]
          refine to_n 1 (fr' := (43, [(0, .ref 1000000), (1, .ref 0), (2, .ref 49), (3, .ref 85), (4, .int (nI (i + 6))), (5, .int x18), (6, .int x19)], [], gh S a b sc19 ar19 lo18, ex18, (nc + nn18), (ns + ss18))) rfl ?_
          refine to_lv (lv := [(0, .ref 1000000), (1, .ref 0), (2, .ref 49), (3, .ref 85), (4, .int (nI (i + 6)))]) rfl ⟨rfl, rfl, rfl, rfl, rfl, trivial⟩ ?_
          exact ih (i + 6) sc19 ar19 lo18 ex18 (nc + nn18) (ns + ss18) (by omega) (by omega) hI19 hL19 hR19 (by omega) (by omega)
        · refine to_eq (fr' := (441, [(0, .ref 1000000), (1, .ref 0), (2, .ref 49), (3, .ref 85), (4, .int (nI i))], [], gh S a b sc ar lo, ex, nc, ns)) rfl ?_
          refine to_n 1 (fr' := (442, [(0, .ref 1000000), (1, .ref 0), (2, .ref 49), (3, .ref 85), (4, .int (nI i))], [.ref 0], gh S a b sc ar lo, ex, nc, ns)) rfl ?_
          refine to_ci (q := 79) (M1 := an_X9_fault) (rest := []) rfl rfl (by decide) rfl ⟨_, rfl⟩ (sf_X9_fault hW hI  (d + 35)) (fun x20 sc20 ar20 hx20 => ?_)
          obtain ⟨hI20, hG20, hx20⟩ := hx20
          have hL20 : Lw sc20 ar20 := lw_fr hLw hG20 (by decide) (by decide) (by decide) (by decide)
          clear hx20
          have hR20 : sc20 2201 = sc20 4908 := (hG20.1 2201 (by decide)).trans (hR.trans (hG20.1 4908 (by decide)).symm)
          refine to_eq (fr' := (445, [(0, .ref 1000000), (1, .ref 0), (2, .ref 49), (3, .ref 85), (4, .int (nI i))], [.int x20], gh S a b sc20 ar20 lo, ex, nc, ns)) rfl ?_
          refine to_n 2 (fr' := (447, [(0, .ref 1000000), (1, .ref 0), (2, .ref 49), (3, .ref 85), (4, .int (nI i))], [.ref 49], gh S a b sc20 ar20 lo, ex, nc, ns)) rfl ?_
          refine to_ci (q := 132) (M1 := an_X10_fault) (rest := []) rfl rfl (by decide) rfl ⟨_, rfl⟩ (sf_X10_fault hW hI20  (d + 35)) (fun x21 sc21 ar21 hx21 => ?_)
          obtain ⟨hI21, hG21, hx21⟩ := hx21
          have hL21 : Lw sc21 ar21 := lw_fr hL20 hG21 (by decide) (by decide) (by decide) (by decide)
          clear hx21
          have hR21 : sc21 2201 = sc21 4908 := (hG21.1 2201 (by decide)).trans (hR20.trans (hG21.1 4908 (by decide)).symm)
          refine to_eq (fr' := (450, [(0, .ref 1000000), (1, .ref 0), (2, .ref 49), (3, .ref 85), (4, .int (nI i))], [.int x21], gh S a b sc21 ar21 lo, ex, nc, ns)) rfl ?_
          refine to_n 3 (fr' := (757, [(0, .ref 1000000), (1, .ref 0), (2, .ref 49), (3, .ref 85), (4, .int ((nI i) + 6))], [], gh S a b sc21 ar21 lo, ex, nc, ns)) rfl ?_
          rw [show ((nI i) + 6 : Int32) = nI (i + 6) from nI_add _ 6]
          refine to_n 1 (fr' := (43, [(0, .ref 1000000), (1, .ref 0), (2, .ref 49), (3, .ref 85), (4, .int (nI (i + 6)))], [], gh S a b sc21 ar21 lo, ex, nc, ns)) rfl ?_
          exact ih (i + 6) sc21 ar21 lo ex nc ns (by omega) (by omega) hI21 hL21 hR21 (by omega) (by omega)
        · refine to_eq (fr' := (454, [(0, .ref 1000000), (1, .ref 0), (2, .ref 49), (3, .ref 85), (4, .int (nI i))], [], gh S a b sc ar lo, ex, nc, ns)) rfl ?_
          refine to_n 4 (fr' := (459, [(0, .ref 1000000), (1, .ref 0), (2, .ref 49), (3, .ref 85), (4, .int (nI i))], [.int 1, .int (nI i), .ref 1000000, .ref 0], gh S a b sc ar lo, ex, nc, ns)) rfl ?_
          refine to_addN (x := i) (y := 1) rfl ?_
          refine to_ldx (i := (i + 1)) rfl (by omega) (by omega) ?_
          refine to_n 1 (fr' := (462, [(0, .ref 1000000), (1, .ref 0), (2, .ref 49), (3, .ref 85), (4, .int (nI i))], [.ref 85, .int (X.2 (i + 1)), .ref 0], gh S a b sc ar lo, ex, nc, ns)) rfl ?_
          refine to_cl (q := 174) (M1 := an_L_light) (rest := []) rfl rfl (by decide) rfl trivial (lc_light hW hI (X.2 (i + 1)) (d + 28)) (fun x22 sc22 ar22 lo22 ex22 nn22 ss22 hx22 hn22 hs22 => ?_)
          obtain ⟨hI22, hG22⟩ := hx22
          have hL22 : Lw sc22 ar22 := lw_fr hLw hG22 (by decide) (by decide) (by decide) (by decide)
          have hR22 : sc22 2201 = sc22 4908 := (hG22.1 2201 (by decide)).trans (hR.trans (hG22.1 4908 (by decide)).symm)
          refine to_eq (fr' := (465, [(0, .ref 1000000), (1, .ref 0), (2, .ref 49), (3, .ref 85), (4, .int (nI i))], [.int x22], gh S a b sc22 ar22 lo22, ex22, (nc + nn22), (ns + ss22))) rfl ?_
          refine to_n 5 (fr' := (472, [(0, .ref 1000000), (1, .ref 0), (2, .ref 49), (3, .ref 85), (4, .int (nI i)), (5, .int x22)], [.int 1, .int (nI i), .ref 1000000, .ref 49], gh S a b sc22 ar22 lo22, ex22, (nc + nn22), (ns + ss22))) rfl ?_
          refine to_addN (x := i) (y := 1) rfl ?_
          refine to_ldx (i := (i + 1)) rfl (by omega) (by omega) ?_
          refine to_ci (q := 143) (M1 := an_X10_light) (rest := []) rfl rfl (by decide) rfl ⟨_, rfl⟩ (sf_X10_light hW hI22 (X.2 (i + 1)) hL22 (d + 29)) (fun x23 sc23 ar23 hx23 => ?_)
          obtain ⟨hI23, hG23, hx23⟩ := hx23
          have hL23 : Lw sc23 ar23 := lw_fr hL22 hG23 (by decide) (by decide) (by decide) (by decide)
          clear hx23
          have hR23 : sc23 2201 = sc23 4908 := (hG23.1 2201 (by decide)).trans (hR22.trans (hG23.1 4908 (by decide)).symm)
          refine to_eq (fr' := (477, [(0, .ref 1000000), (1, .ref 0), (2, .ref 49), (3, .ref 85), (4, .int (nI i)), (5, .int x22)], [.int x23], gh S a b sc23 ar23 lo22, ex22, (nc + nn22), (ns + ss22))) rfl ?_
          refine to_n 3 (fr' := (757, [(0, .ref 1000000), (1, .ref 0), (2, .ref 49), (3, .ref 85), (4, .int ((nI i) + 6)), (5, .int x22), (6, .int x23)], [], gh S a b sc23 ar23 lo22, ex22, (nc + nn22), (ns + ss22))) rfl ?_
          rw [show ((nI i) + 6 : Int32) = nI (i + 6) from nI_add _ 6]
          refine to_n 1 (fr' := (43, [(0, .ref 1000000), (1, .ref 0), (2, .ref 49), (3, .ref 85), (4, .int (nI (i + 6))), (5, .int x22), (6, .int x23)], [], gh S a b sc23 ar23 lo22, ex22, (nc + nn22), (ns + ss22))) rfl ?_
          refine to_lv (lv := [(0, .ref 1000000), (1, .ref 0), (2, .ref 49), (3, .ref 85), (4, .int (nI (i + 6)))]) rfl ⟨rfl, rfl, rfl, rfl, rfl, trivial⟩ ?_
          exact ih (i + 6) sc23 ar23 lo22 ex22 (nc + nn22) (ns + ss22) (by omega) (by omega) hI23 hL23 hR23 (by omega) (by omega)
        · refine to_eq (fr' := (482, [(0, .ref 1000000), (1, .ref 0), (2, .ref 49), (3, .ref 85), (4, .int (nI i))], [], gh S a b sc ar lo, ex, nc, ns)) rfl ?_
          refine to_n 4 (fr' := (487, [(0, .ref 1000000), (1, .ref 0), (2, .ref 49), (3, .ref 85), (4, .int (nI i))], [.int 1, .int (nI i), .ref 1000000, .ref 0], gh S a b sc ar lo, ex, nc, ns)) rfl ?_
          refine to_addN (x := i) (y := 1) rfl ?_
          refine to_ldx (i := (i + 1)) rfl (by omega) (by omega) ?_
          refine to_n 3 (fr' := (493, [(0, .ref 1000000), (1, .ref 0), (2, .ref 49), (3, .ref 85), (4, .int (nI i))], [.int 2, .int (nI i), .ref 1000000, .int (X.2 (i + 1)), .ref 0], gh S a b sc ar lo, ex, nc, ns)) rfl ?_
          refine to_addN (x := i) (y := 2) rfl ?_
          refine to_ldx (i := (i + 2)) rfl (by omega) (by omega) ?_
          refine to_n 1 (fr' := (496, [(0, .ref 1000000), (1, .ref 0), (2, .ref 49), (3, .ref 85), (4, .int (nI i))], [.ref 85, .int (X.2 (i + 2)), .int (X.2 (i + 1)), .ref 0], gh S a b sc ar lo, ex, nc, ns)) rfl ?_
          refine to_cl (q := 175) (M1 := an_L_send) (rest := []) rfl rfl (by decide) rfl trivial (lc_send hW hI (X.2 (i + 1)) (X.2 (i + 2)) (d + 31)) (fun x24 sc24 ar24 lo24 ex24 nn24 ss24 hx24 hn24 hs24 => ?_)
          obtain ⟨hI24, hG24⟩ := hx24
          have hL24 : Lw sc24 ar24 := lw_fr hLw hG24 (by decide) (by decide) (by decide) (by decide)
          have hR24 : sc24 2201 = sc24 4908 := (hG24.1 2201 (by decide)).trans (hR.trans (hG24.1 4908 (by decide)).symm)
          refine to_eq (fr' := (499, [(0, .ref 1000000), (1, .ref 0), (2, .ref 49), (3, .ref 85), (4, .int (nI i))], [.int x24], gh S a b sc24 ar24 lo24, ex24, (nc + nn24), (ns + ss24))) rfl ?_
          refine to_n 5 (fr' := (506, [(0, .ref 1000000), (1, .ref 0), (2, .ref 49), (3, .ref 85), (4, .int (nI i)), (5, .int x24)], [.int 1, .int (nI i), .ref 1000000, .ref 49], gh S a b sc24 ar24 lo24, ex24, (nc + nn24), (ns + ss24))) rfl ?_
          refine to_addN (x := i) (y := 1) rfl ?_
          refine to_ldx (i := (i + 1)) rfl (by omega) (by omega) ?_
          refine to_n 3 (fr' := (512, [(0, .ref 1000000), (1, .ref 0), (2, .ref 49), (3, .ref 85), (4, .int (nI i)), (5, .int x24)], [.int 2, .int (nI i), .ref 1000000, .int (X.2 (i + 1)), .ref 49], gh S a b sc24 ar24 lo24, ex24, (nc + nn24), (ns + ss24))) rfl ?_
          refine to_addN (x := i) (y := 2) rfl ?_
          refine to_ldx (i := (i + 2)) rfl (by omega) (by omega) ?_
          refine to_ci (q := 145) (M1 := an_X10_send) (rest := []) rfl rfl (by decide) rfl ⟨_, rfl⟩ (sf_X10_send hW hI24 (X.2 (i + 1)) (X.2 (i + 2)) (d + 33)) (fun x25 sc25 ar25 hx25 => ?_)
          obtain ⟨hI25, hG25, hx25⟩ := hx25
          have hL25 : Lw sc25 ar25 := lw_fr hL24 hG25 (by decide) (by decide) (by decide) (by decide)
          clear hx25
          have hR25 : sc25 2201 = sc25 4908 := (hG25.1 2201 (by decide)).trans (hR24.trans (hG25.1 4908 (by decide)).symm)
          refine to_eq (fr' := (517, [(0, .ref 1000000), (1, .ref 0), (2, .ref 49), (3, .ref 85), (4, .int (nI i)), (5, .int x24)], [.int x25], gh S a b sc25 ar25 lo24, ex24, (nc + nn24), (ns + ss24))) rfl ?_
          refine to_n 3 (fr' := (757, [(0, .ref 1000000), (1, .ref 0), (2, .ref 49), (3, .ref 85), (4, .int ((nI i) + 6)), (5, .int x24), (6, .int x25)], [], gh S a b sc25 ar25 lo24, ex24, (nc + nn24), (ns + ss24))) rfl ?_
          rw [show ((nI i) + 6 : Int32) = nI (i + 6) from nI_add _ 6]
          refine to_n 1 (fr' := (43, [(0, .ref 1000000), (1, .ref 0), (2, .ref 49), (3, .ref 85), (4, .int (nI (i + 6))), (5, .int x24), (6, .int x25)], [], gh S a b sc25 ar25 lo24, ex24, (nc + nn24), (ns + ss24))) rfl ?_
          refine to_lv (lv := [(0, .ref 1000000), (1, .ref 0), (2, .ref 49), (3, .ref 85), (4, .int (nI (i + 6)))]) rfl ⟨rfl, rfl, rfl, rfl, rfl, trivial⟩ ?_
          exact ih (i + 6) sc25 ar25 lo24 ex24 (nc + nn24) (ns + ss24) (by omega) (by omega) hI25 hL25 hR25 (by omega) (by omega)
        · refine to_eq (fr' := (522, [(0, .ref 1000000), (1, .ref 0), (2, .ref 49), (3, .ref 85), (4, .int (nI i))], [], gh S a b sc ar lo, ex, nc, ns)) rfl ?_
          refine to_n 4 (fr' := (527, [(0, .ref 1000000), (1, .ref 0), (2, .ref 49), (3, .ref 85), (4, .int (nI i))], [.int 1, .int (nI i), .ref 1000000, .ref 0], gh S a b sc ar lo, ex, nc, ns)) rfl ?_
          refine to_addN (x := i) (y := 1) rfl ?_
          refine to_ldx (i := (i + 1)) rfl (by omega) (by omega) ?_
          refine to_n 3 (fr' := (533, [(0, .ref 1000000), (1, .ref 0), (2, .ref 49), (3, .ref 85), (4, .int (nI i))], [.int 2, .int (nI i), .ref 1000000, .int (X.2 (i + 1)), .ref 0], gh S a b sc ar lo, ex, nc, ns)) rfl ?_
          refine to_addN (x := i) (y := 2) rfl ?_
          refine to_ldx (i := (i + 2)) rfl (by omega) (by omega) ?_
          refine to_n 1 (fr' := (536, [(0, .ref 1000000), (1, .ref 0), (2, .ref 49), (3, .ref 85), (4, .int (nI i))], [.ref 85, .int (X.2 (i + 2)), .int (X.2 (i + 1)), .ref 0], gh S a b sc ar lo, ex, nc, ns)) rfl ?_
          refine to_cl (q := 176) (M1 := an_L_pull) (rest := []) rfl rfl (by decide) rfl trivial (lc_pull hW hI (X.2 (i + 1)) (X.2 (i + 2)) (d + 31)) (fun x26 sc26 ar26 lo26 ex26 nn26 ss26 hx26 hn26 hs26 => ?_)
          obtain ⟨hI26, hG26⟩ := hx26
          have hL26 : Lw sc26 ar26 := lw_fr hLw hG26 (by decide) (by decide) (by decide) (by decide)
          have hR26 : sc26 2201 = sc26 4908 := (hG26.1 2201 (by decide)).trans (hR.trans (hG26.1 4908 (by decide)).symm)
          refine to_eq (fr' := (539, [(0, .ref 1000000), (1, .ref 0), (2, .ref 49), (3, .ref 85), (4, .int (nI i))], [.int x26], gh S a b sc26 ar26 lo26, ex26, (nc + nn26), (ns + ss26))) rfl ?_
          refine to_n 5 (fr' := (546, [(0, .ref 1000000), (1, .ref 0), (2, .ref 49), (3, .ref 85), (4, .int (nI i)), (5, .int x26)], [.int 1, .int (nI i), .ref 1000000, .ref 49], gh S a b sc26 ar26 lo26, ex26, (nc + nn26), (ns + ss26))) rfl ?_
          refine to_addN (x := i) (y := 1) rfl ?_
          refine to_ldx (i := (i + 1)) rfl (by omega) (by omega) ?_
          refine to_n 3 (fr' := (552, [(0, .ref 1000000), (1, .ref 0), (2, .ref 49), (3, .ref 85), (4, .int (nI i)), (5, .int x26)], [.int 2, .int (nI i), .ref 1000000, .int (X.2 (i + 1)), .ref 49], gh S a b sc26 ar26 lo26, ex26, (nc + nn26), (ns + ss26))) rfl ?_
          refine to_addN (x := i) (y := 2) rfl ?_
          refine to_ldx (i := (i + 2)) rfl (by omega) (by omega) ?_
          refine to_ci (q := 146) (M1 := an_X10_pull) (rest := []) rfl rfl (by decide) rfl ⟨_, rfl⟩ (sf_X10_pull hW hI26 (X.2 (i + 1)) (X.2 (i + 2)) (d + 33)) (fun x27 sc27 ar27 hx27 => ?_)
          obtain ⟨hI27, hG27, hx27⟩ := hx27
          have hL27 : Lw sc27 ar27 := lw_fr hL26 hG27 (by decide) (by decide) (by decide) (by decide)
          clear hx27
          have hR27 : sc27 2201 = sc27 4908 := (hG27.1 2201 (by decide)).trans (hR26.trans (hG27.1 4908 (by decide)).symm)
          refine to_eq (fr' := (557, [(0, .ref 1000000), (1, .ref 0), (2, .ref 49), (3, .ref 85), (4, .int (nI i)), (5, .int x26)], [.int x27], gh S a b sc27 ar27 lo26, ex26, (nc + nn26), (ns + ss26))) rfl ?_
          refine to_n 3 (fr' := (757, [(0, .ref 1000000), (1, .ref 0), (2, .ref 49), (3, .ref 85), (4, .int ((nI i) + 6)), (5, .int x26), (6, .int x27)], [], gh S a b sc27 ar27 lo26, ex26, (nc + nn26), (ns + ss26))) rfl ?_
          rw [show ((nI i) + 6 : Int32) = nI (i + 6) from nI_add _ 6]
          refine to_n 1 (fr' := (43, [(0, .ref 1000000), (1, .ref 0), (2, .ref 49), (3, .ref 85), (4, .int (nI (i + 6))), (5, .int x26), (6, .int x27)], [], gh S a b sc27 ar27 lo26, ex26, (nc + nn26), (ns + ss26))) rfl ?_
          refine to_lv (lv := [(0, .ref 1000000), (1, .ref 0), (2, .ref 49), (3, .ref 85), (4, .int (nI (i + 6)))]) rfl ⟨rfl, rfl, rfl, rfl, rfl, trivial⟩ ?_
          exact ih (i + 6) sc27 ar27 lo26 ex26 (nc + nn26) (ns + ss26) (by omega) (by omega) hI27 hL27 hR27 (by omega) (by omega)
        · refine to_eq (fr' := (562, [(0, .ref 1000000), (1, .ref 0), (2, .ref 49), (3, .ref 85), (4, .int (nI i))], [], gh S a b sc ar lo, ex, nc, ns)) rfl ?_
          refine to_n 4 (fr' := (567, [(0, .ref 1000000), (1, .ref 0), (2, .ref 49), (3, .ref 85), (4, .int (nI i))], [.int 1, .int (nI i), .ref 1000000, .ref 0], gh S a b sc ar lo, ex, nc, ns)) rfl ?_
          refine to_addN (x := i) (y := 1) rfl ?_
          refine to_ldx (i := (i + 1)) rfl (by omega) (by omega) ?_
          refine to_n 1 (fr' := (570, [(0, .ref 1000000), (1, .ref 0), (2, .ref 49), (3, .ref 85), (4, .int (nI i))], [.ref 85, .int (X.2 (i + 1)), .ref 0], gh S a b sc ar lo, ex, nc, ns)) rfl ?_
          refine to_cl (q := 177) (M1 := an_L_hours) (rest := []) rfl rfl (by decide) rfl trivial (lc_hours hW hI (X.2 (i + 1)) (d + 27)) (fun x28 sc28 ar28 lo28 ex28 nn28 ss28 hx28 hn28 hs28 => ?_)
          obtain ⟨hI28, hG28, hx28⟩ := hx28
          have hL28 : Lw sc28 ar28 := lw_fr hLw hG28 (by decide) (by decide) (by decide) (by decide)
          clear hx28
          have hR28 : sc28 2201 = sc28 4908 := (hG28.1 2201 (by decide)).trans (hR.trans (hG28.1 4908 (by decide)).symm)
          refine to_eq (fr' := (573, [(0, .ref 1000000), (1, .ref 0), (2, .ref 49), (3, .ref 85), (4, .int (nI i))], [.int x28], gh S a b sc28 ar28 lo28, ex28, (nc + nn28), (ns + ss28))) rfl ?_
          refine to_n 5 (fr' := (580, [(0, .ref 1000000), (1, .ref 0), (2, .ref 49), (3, .ref 85), (4, .int (nI i)), (5, .int x28)], [.int 1, .int (nI i), .ref 1000000, .ref 49], gh S a b sc28 ar28 lo28, ex28, (nc + nn28), (ns + ss28))) rfl ?_
          refine to_addN (x := i) (y := 1) rfl ?_
          refine to_ldx (i := (i + 1)) rfl (by omega) (by omega) ?_
          refine to_ci (q := 156) (M1 := an_X10_hours) (rest := []) rfl rfl (by decide) rfl ⟨_, rfl⟩ (sf_X10_hours hW hI28 (X.2 (i + 1)) hL28 (d + 29)) (fun x29 sc29 ar29 hx29 => ?_)
          obtain ⟨hI29, hG29, hx29⟩ := hx29
          have hL29 : Lw sc29 ar29 := lw_fr hL28 hG29 (by decide) (by decide) (by decide) (by decide)
          clear hx29
          have hR29 : sc29 2201 = sc29 4908 := (hG29.1 2201 (by decide)).trans (hR28.trans (hG29.1 4908 (by decide)).symm)
          refine to_eq (fr' := (585, [(0, .ref 1000000), (1, .ref 0), (2, .ref 49), (3, .ref 85), (4, .int (nI i)), (5, .int x28)], [.int x29], gh S a b sc29 ar29 lo28, ex28, (nc + nn28), (ns + ss28))) rfl ?_
          refine to_n 3 (fr' := (757, [(0, .ref 1000000), (1, .ref 0), (2, .ref 49), (3, .ref 85), (4, .int ((nI i) + 6)), (5, .int x28), (6, .int x29)], [], gh S a b sc29 ar29 lo28, ex28, (nc + nn28), (ns + ss28))) rfl ?_
          rw [show ((nI i) + 6 : Int32) = nI (i + 6) from nI_add _ 6]
          refine to_n 1 (fr' := (43, [(0, .ref 1000000), (1, .ref 0), (2, .ref 49), (3, .ref 85), (4, .int (nI (i + 6))), (5, .int x28), (6, .int x29)], [], gh S a b sc29 ar29 lo28, ex28, (nc + nn28), (ns + ss28))) rfl ?_
          refine to_lv (lv := [(0, .ref 1000000), (1, .ref 0), (2, .ref 49), (3, .ref 85), (4, .int (nI (i + 6)))]) rfl ⟨rfl, rfl, rfl, rfl, rfl, trivial⟩ ?_
          exact ih (i + 6) sc29 ar29 lo28 ex28 (nc + nn28) (ns + ss28) (by omega) (by omega) hI29 hL29 hR29 (by omega) (by omega)
        · refine to_eq (fr' := (590, [(0, .ref 1000000), (1, .ref 0), (2, .ref 49), (3, .ref 85), (4, .int (nI i))], [], gh S a b sc ar lo, ex, nc, ns)) rfl ?_
          refine to_n 4 (fr' := (595, [(0, .ref 1000000), (1, .ref 0), (2, .ref 49), (3, .ref 85), (4, .int (nI i))], [.int 1, .int (nI i), .ref 1000000, .ref 0], gh S a b sc ar lo, ex, nc, ns)) rfl ?_
          refine to_addN (x := i) (y := 1) rfl ?_
          refine to_ldx (i := (i + 1)) rfl (by omega) (by omega) ?_
          refine to_n 3 (fr' := (601, [(0, .ref 1000000), (1, .ref 0), (2, .ref 49), (3, .ref 85), (4, .int (nI i))], [.int 2, .int (nI i), .ref 1000000, .int (X.2 (i + 1)), .ref 0], gh S a b sc ar lo, ex, nc, ns)) rfl ?_
          refine to_addN (x := i) (y := 2) rfl ?_
          refine to_ldx (i := (i + 2)) rfl (by omega) (by omega) ?_
          refine to_n 1 (fr' := (604, [(0, .ref 1000000), (1, .ref 0), (2, .ref 49), (3, .ref 85), (4, .int (nI i))], [.ref 85, .int (X.2 (i + 2)), .int (X.2 (i + 1)), .ref 0], gh S a b sc ar lo, ex, nc, ns)) rfl ?_
          refine to_cl (q := 178) (M1 := an_L_cell_) (rest := []) rfl rfl (by decide) rfl trivial (lc_cell_ hW hI (X.2 (i + 1)) (X.2 (i + 2)) (d + 32)) (fun x30 sc30 ar30 lo30 ex30 nn30 ss30 hx30 hn30 hs30 => ?_)
          obtain ⟨hI30, hG30⟩ := hx30
          have hL30 : Lw sc30 ar30 := lw_fr hLw hG30 (by decide) (by decide) (by decide) (by decide)
          have hR30 : sc30 2201 = sc30 4908 := (hG30.1 2201 (by decide)).trans (hR.trans (hG30.1 4908 (by decide)).symm)
          refine to_eq (fr' := (607, [(0, .ref 1000000), (1, .ref 0), (2, .ref 49), (3, .ref 85), (4, .int (nI i))], [.int x30], gh S a b sc30 ar30 lo30, ex30, (nc + nn30), (ns + ss30))) rfl ?_
          refine to_n 5 (fr' := (614, [(0, .ref 1000000), (1, .ref 0), (2, .ref 49), (3, .ref 85), (4, .int (nI i)), (5, .int x30)], [.int 1, .int (nI i), .ref 1000000, .ref 49], gh S a b sc30 ar30 lo30, ex30, (nc + nn30), (ns + ss30))) rfl ?_
          refine to_addN (x := i) (y := 1) rfl ?_
          refine to_ldx (i := (i + 1)) rfl (by omega) (by omega) ?_
          refine to_n 3 (fr' := (620, [(0, .ref 1000000), (1, .ref 0), (2, .ref 49), (3, .ref 85), (4, .int (nI i)), (5, .int x30)], [.int 2, .int (nI i), .ref 1000000, .int (X.2 (i + 1)), .ref 49], gh S a b sc30 ar30 lo30, ex30, (nc + nn30), (ns + ss30))) rfl ?_
          refine to_addN (x := i) (y := 2) rfl ?_
          refine to_ldx (i := (i + 2)) rfl (by omega) (by omega) ?_
          refine to_ci (q := 157) (M1 := an_X10_cell) (rest := []) rfl rfl (by decide) rfl ⟨_, rfl⟩ (sf_X10_cell hW hI30 (X.2 (i + 1)) (X.2 (i + 2)) (d + 34)) (fun x31 sc31 ar31 hx31 => ?_)
          obtain ⟨hI31, hG31, hx31⟩ := hx31
          have hL31 : Lw sc31 ar31 := lw_fr hL30 hG31 (by decide) (by decide) (by decide) (by decide)
          clear hx31
          have hR31 : sc31 2201 = sc31 4908 := (hG31.1 2201 (by decide)).trans (hR30.trans (hG31.1 4908 (by decide)).symm)
          refine to_eq (fr' := (625, [(0, .ref 1000000), (1, .ref 0), (2, .ref 49), (3, .ref 85), (4, .int (nI i)), (5, .int x30)], [.int x31], gh S a b sc31 ar31 lo30, ex30, (nc + nn30), (ns + ss30))) rfl ?_
          refine to_n 3 (fr' := (757, [(0, .ref 1000000), (1, .ref 0), (2, .ref 49), (3, .ref 85), (4, .int ((nI i) + 6)), (5, .int x30), (6, .int x31)], [], gh S a b sc31 ar31 lo30, ex30, (nc + nn30), (ns + ss30))) rfl ?_
          rw [show ((nI i) + 6 : Int32) = nI (i + 6) from nI_add _ 6]
          refine to_n 1 (fr' := (43, [(0, .ref 1000000), (1, .ref 0), (2, .ref 49), (3, .ref 85), (4, .int (nI (i + 6))), (5, .int x30), (6, .int x31)], [], gh S a b sc31 ar31 lo30, ex30, (nc + nn30), (ns + ss30))) rfl ?_
          refine to_lv (lv := [(0, .ref 1000000), (1, .ref 0), (2, .ref 49), (3, .ref 85), (4, .int (nI (i + 6)))]) rfl ⟨rfl, rfl, rfl, rfl, rfl, trivial⟩ ?_
          exact ih (i + 6) sc31 ar31 lo30 ex30 (nc + nn30) (ns + ss30) (by omega) (by omega) hI31 hL31 hR31 (by omega) (by omega)
        · refine to_eq (fr' := (630, [(0, .ref 1000000), (1, .ref 0), (2, .ref 49), (3, .ref 85), (4, .int (nI i))], [], gh S a b sc ar lo, ex, nc, ns)) rfl ?_
          refine to_n 4 (fr' := (635, [(0, .ref 1000000), (1, .ref 0), (2, .ref 49), (3, .ref 85), (4, .int (nI i))], [.int 1, .int (nI i), .ref 1000000, .ref 0], gh S a b sc ar lo, ex, nc, ns)) rfl ?_
          refine to_addN (x := i) (y := 1) rfl ?_
          refine to_ldx (i := (i + 1)) rfl (by omega) (by omega) ?_
          refine to_n 3 (fr' := (641, [(0, .ref 1000000), (1, .ref 0), (2, .ref 49), (3, .ref 85), (4, .int (nI i))], [.int 2, .int (nI i), .ref 1000000, .int (X.2 (i + 1)), .ref 0], gh S a b sc ar lo, ex, nc, ns)) rfl ?_
          refine to_addN (x := i) (y := 2) rfl ?_
          refine to_ldx (i := (i + 2)) rfl (by omega) (by omega) ?_
          refine to_n 1 (fr' := (644, [(0, .ref 1000000), (1, .ref 0), (2, .ref 49), (3, .ref 85), (4, .int (nI i))], [.ref 85, .int (X.2 (i + 2)), .int (X.2 (i + 1)), .ref 0], gh S a b sc ar lo, ex, nc, ns)) rfl ?_
          refine to_cl (q := 179) (M1 := an_L_of) (rest := []) rfl rfl (by decide) rfl trivial (lc_of hW hI (X.2 (i + 1)) (X.2 (i + 2)) (d + 32)) (fun x32 sc32 ar32 lo32 ex32 nn32 ss32 hx32 hn32 hs32 => ?_)
          obtain ⟨hI32, hG32⟩ := hx32
          have hL32 : Lw sc32 ar32 := lw_fr hLw hG32 (by decide) (by decide) (by decide) (by decide)
          have hR32 : sc32 2201 = sc32 4908 := (hG32.1 2201 (by decide)).trans (hR.trans (hG32.1 4908 (by decide)).symm)
          refine to_eq (fr' := (647, [(0, .ref 1000000), (1, .ref 0), (2, .ref 49), (3, .ref 85), (4, .int (nI i))], [.int x32], gh S a b sc32 ar32 lo32, ex32, (nc + nn32), (ns + ss32))) rfl ?_
          refine to_n 5 (fr' := (654, [(0, .ref 1000000), (1, .ref 0), (2, .ref 49), (3, .ref 85), (4, .int (nI i)), (5, .int x32)], [.int 1, .int (nI i), .ref 1000000, .ref 49], gh S a b sc32 ar32 lo32, ex32, (nc + nn32), (ns + ss32))) rfl ?_
          refine to_addN (x := i) (y := 1) rfl ?_
          refine to_ldx (i := (i + 1)) rfl (by omega) (by omega) ?_
          refine to_n 3 (fr' := (660, [(0, .ref 1000000), (1, .ref 0), (2, .ref 49), (3, .ref 85), (4, .int (nI i)), (5, .int x32)], [.int 2, .int (nI i), .ref 1000000, .int (X.2 (i + 1)), .ref 49], gh S a b sc32 ar32 lo32, ex32, (nc + nn32), (ns + ss32))) rfl ?_
          refine to_addN (x := i) (y := 2) rfl ?_
          refine to_ldx (i := (i + 2)) rfl (by omega) (by omega) ?_
          refine to_ci (q := 158) (M1 := an_X10_of) (rest := []) rfl rfl (by decide) rfl ⟨_, rfl⟩ (sf_X10_of hW hI32 (X.2 (i + 1)) (X.2 (i + 2)) (d + 34)) (fun x33 sc33 ar33 hx33 => ?_)
          obtain ⟨hI33, hG33, hx33⟩ := hx33
          have hL33 : Lw sc33 ar33 := lw_fr hL32 hG33 (by decide) (by decide) (by decide) (by decide)
          clear hx33
          have hR33 : sc33 2201 = sc33 4908 := (hG33.1 2201 (by decide)).trans (hR32.trans (hG33.1 4908 (by decide)).symm)
          refine to_eq (fr' := (665, [(0, .ref 1000000), (1, .ref 0), (2, .ref 49), (3, .ref 85), (4, .int (nI i)), (5, .int x32)], [.int x33], gh S a b sc33 ar33 lo32, ex32, (nc + nn32), (ns + ss32))) rfl ?_
          refine to_n 3 (fr' := (757, [(0, .ref 1000000), (1, .ref 0), (2, .ref 49), (3, .ref 85), (4, .int ((nI i) + 6)), (5, .int x32), (6, .int x33)], [], gh S a b sc33 ar33 lo32, ex32, (nc + nn32), (ns + ss32))) rfl ?_
          rw [show ((nI i) + 6 : Int32) = nI (i + 6) from nI_add _ 6]
          refine to_n 1 (fr' := (43, [(0, .ref 1000000), (1, .ref 0), (2, .ref 49), (3, .ref 85), (4, .int (nI (i + 6))), (5, .int x32), (6, .int x33)], [], gh S a b sc33 ar33 lo32, ex32, (nc + nn32), (ns + ss32))) rfl ?_
          refine to_lv (lv := [(0, .ref 1000000), (1, .ref 0), (2, .ref 49), (3, .ref 85), (4, .int (nI (i + 6)))]) rfl ⟨rfl, rfl, rfl, rfl, rfl, trivial⟩ ?_
          exact ih (i + 6) sc33 ar33 lo32 ex32 (nc + nn32) (ns + ss32) (by omega) (by omega) hI33 hL33 hR33 (by omega) (by omega)
        · refine to_eq (fr' := (670, [(0, .ref 1000000), (1, .ref 0), (2, .ref 49), (3, .ref 85), (4, .int (nI i))], [], gh S a b sc ar lo, ex, nc, ns)) rfl ?_
          refine to_n 4 (fr' := (675, [(0, .ref 1000000), (1, .ref 0), (2, .ref 49), (3, .ref 85), (4, .int (nI i))], [.int 1, .int (nI i), .ref 1000000, .ref 0], gh S a b sc ar lo, ex, nc, ns)) rfl ?_
          refine to_addN (x := i) (y := 1) rfl ?_
          refine to_ldx (i := (i + 1)) rfl (by omega) (by omega) ?_
          refine to_n 1 (fr' := (678, [(0, .ref 1000000), (1, .ref 0), (2, .ref 49), (3, .ref 85), (4, .int (nI i))], [.ref 85, .int (X.2 (i + 1)), .ref 0], gh S a b sc ar lo, ex, nc, ns)) rfl ?_
          refine to_cl (q := 180) (M1 := an_L_breaks) (rest := []) rfl rfl (by decide) rfl trivial (lc_breaks hW hI (X.2 (i + 1)) (d + 29)) (fun x34 sc34 ar34 lo34 ex34 nn34 ss34 hx34 hn34 hs34 => ?_)
          obtain ⟨hI34, hG34⟩ := hx34
          have hL34 : Lw sc34 ar34 := lw_fr hLw hG34 (by decide) (by decide) (by decide) (by decide)
          have hR34 : sc34 2201 = sc34 4908 := (hG34.1 2201 (by decide)).trans (hR.trans (hG34.1 4908 (by decide)).symm)
          refine to_eq (fr' := (681, [(0, .ref 1000000), (1, .ref 0), (2, .ref 49), (3, .ref 85), (4, .int (nI i))], [.int x34], gh S a b sc34 ar34 lo34, ex34, (nc + nn34), (ns + ss34))) rfl ?_
          refine to_n 5 (fr' := (688, [(0, .ref 1000000), (1, .ref 0), (2, .ref 49), (3, .ref 85), (4, .int (nI i)), (5, .int x34)], [.int 1, .int (nI i), .ref 1000000, .ref 49], gh S a b sc34 ar34 lo34, ex34, (nc + nn34), (ns + ss34))) rfl ?_
          refine to_addN (x := i) (y := 1) rfl ?_
          refine to_ldx (i := (i + 1)) rfl (by omega) (by omega) ?_
          refine to_ci (q := 164) (M1 := an_X10_breaks) (rest := []) rfl rfl (by decide) rfl ⟨_, rfl⟩ (sf_X10_breaks hW hI34 (X.2 (i + 1)) (d + 31)) (fun x35 sc35 ar35 hx35 => ?_)
          obtain ⟨hI35, hG35, hx35⟩ := hx35
          have hL35 : Lw sc35 ar35 := lw_fr hL34 hG35 (by decide) (by decide) (by decide) (by decide)
          clear hx35
          have hR35 : sc35 2201 = sc35 4908 := (hG35.1 2201 (by decide)).trans (hR34.trans (hG35.1 4908 (by decide)).symm)
          refine to_eq (fr' := (693, [(0, .ref 1000000), (1, .ref 0), (2, .ref 49), (3, .ref 85), (4, .int (nI i)), (5, .int x34)], [.int x35], gh S a b sc35 ar35 lo34, ex34, (nc + nn34), (ns + ss34))) rfl ?_
          refine to_n 3 (fr' := (757, [(0, .ref 1000000), (1, .ref 0), (2, .ref 49), (3, .ref 85), (4, .int ((nI i) + 6)), (5, .int x34), (6, .int x35)], [], gh S a b sc35 ar35 lo34, ex34, (nc + nn34), (ns + ss34))) rfl ?_
          rw [show ((nI i) + 6 : Int32) = nI (i + 6) from nI_add _ 6]
          refine to_n 1 (fr' := (43, [(0, .ref 1000000), (1, .ref 0), (2, .ref 49), (3, .ref 85), (4, .int (nI (i + 6))), (5, .int x34), (6, .int x35)], [], gh S a b sc35 ar35 lo34, ex34, (nc + nn34), (ns + ss34))) rfl ?_
          refine to_lv (lv := [(0, .ref 1000000), (1, .ref 0), (2, .ref 49), (3, .ref 85), (4, .int (nI (i + 6)))]) rfl ⟨rfl, rfl, rfl, rfl, rfl, trivial⟩ ?_
          exact ih (i + 6) sc35 ar35 lo34 ex34 (nc + nn34) (ns + ss34) (by omega) (by omega) hI35 hL35 hR35 (by omega) (by omega)
        · refine to_eq (fr' := (698, [(0, .ref 1000000), (1, .ref 0), (2, .ref 49), (3, .ref 85), (4, .int (nI i))], [], gh S a b sc ar lo, ex, nc, ns)) rfl ?_
          refine to_n 4 (fr' := (703, [(0, .ref 1000000), (1, .ref 0), (2, .ref 49), (3, .ref 85), (4, .int (nI i))], [.int 1, .int (nI i), .ref 1000000, .ref 0], gh S a b sc ar lo, ex, nc, ns)) rfl ?_
          refine to_addN (x := i) (y := 1) rfl ?_
          refine to_ldx (i := (i + 1)) rfl (by omega) (by omega) ?_
          refine to_n 1 (fr' := (706, [(0, .ref 1000000), (1, .ref 0), (2, .ref 49), (3, .ref 85), (4, .int (nI i))], [.ref 85, .int (X.2 (i + 1)), .ref 0], gh S a b sc ar lo, ex, nc, ns)) rfl ?_
          refine to_cl (q := 181) (M1 := an_L_breaker) (rest := []) rfl rfl (by decide) rfl trivial (lc_breaker hW hI (X.2 (i + 1)) (d + 34)) (fun x36 sc36 ar36 lo36 ex36 nn36 ss36 hx36 hn36 hs36 => ?_)
          obtain ⟨hI36, hG36⟩ := hx36
          have hL36 : Lw sc36 ar36 := lw_fr hLw hG36 (by decide) (by decide) (by decide) (by decide)
          have hR36 : sc36 2201 = sc36 4908 := (hG36.1 2201 (by decide)).trans (hR.trans (hG36.1 4908 (by decide)).symm)
          refine to_eq (fr' := (709, [(0, .ref 1000000), (1, .ref 0), (2, .ref 49), (3, .ref 85), (4, .int (nI i))], [.int x36], gh S a b sc36 ar36 lo36, ex36, (nc + nn36), (ns + ss36))) rfl ?_
          refine to_n 5 (fr' := (716, [(0, .ref 1000000), (1, .ref 0), (2, .ref 49), (3, .ref 85), (4, .int (nI i)), (5, .int x36)], [.int 1, .int (nI i), .ref 1000000, .ref 49], gh S a b sc36 ar36 lo36, ex36, (nc + nn36), (ns + ss36))) rfl ?_
          refine to_addN (x := i) (y := 1) rfl ?_
          refine to_ldx (i := (i + 1)) rfl (by omega) (by omega) ?_
          refine to_ci (q := 165) (M1 := an_X10_breaker) (rest := []) rfl rfl (by decide) rfl ⟨_, rfl⟩ (sf_X10_breaker hW hI36 (X.2 (i + 1)) (d + 34)) (fun x37 sc37 ar37 hx37 => ?_)
          obtain ⟨hI37, hG37, hx37⟩ := hx37
          have hL37 : Lw sc37 ar37 := lw_fr hL36 hG37 (by decide) (by decide) (by decide) (by decide)
          clear hx37
          have hR37 : sc37 2201 = sc37 4908 := (hG37.1 2201 (by decide)).trans (hR36.trans (hG37.1 4908 (by decide)).symm)
          refine to_eq (fr' := (721, [(0, .ref 1000000), (1, .ref 0), (2, .ref 49), (3, .ref 85), (4, .int (nI i)), (5, .int x36)], [.int x37], gh S a b sc37 ar37 lo36, ex36, (nc + nn36), (ns + ss36))) rfl ?_
          refine to_n 3 (fr' := (757, [(0, .ref 1000000), (1, .ref 0), (2, .ref 49), (3, .ref 85), (4, .int ((nI i) + 6)), (5, .int x36), (6, .int x37)], [], gh S a b sc37 ar37 lo36, ex36, (nc + nn36), (ns + ss36))) rfl ?_
          rw [show ((nI i) + 6 : Int32) = nI (i + 6) from nI_add _ 6]
          refine to_n 1 (fr' := (43, [(0, .ref 1000000), (1, .ref 0), (2, .ref 49), (3, .ref 85), (4, .int (nI (i + 6))), (5, .int x36), (6, .int x37)], [], gh S a b sc37 ar37 lo36, ex36, (nc + nn36), (ns + ss36))) rfl ?_
          refine to_lv (lv := [(0, .ref 1000000), (1, .ref 0), (2, .ref 49), (3, .ref 85), (4, .int (nI (i + 6)))]) rfl ⟨rfl, rfl, rfl, rfl, rfl, trivial⟩ ?_
          exact ih (i + 6) sc37 ar37 lo36 ex36 (nc + nn36) (ns + ss36) (by omega) (by omega) hI37 hL37 hR37 (by omega) (by omega)
        · refine to_eq (fr' := (726, [(0, .ref 1000000), (1, .ref 0), (2, .ref 49), (3, .ref 85), (4, .int (nI i))], [], gh S a b sc ar lo, ex, nc, ns)) rfl ?_
          refine to_n 4 (fr' := (731, [(0, .ref 1000000), (1, .ref 0), (2, .ref 49), (3, .ref 85), (4, .int (nI i))], [.int 1, .int (nI i), .ref 1000000, .ref 0], gh S a b sc ar lo, ex, nc, ns)) rfl ?_
          refine to_addN (x := i) (y := 1) rfl ?_
          refine to_ldx (i := (i + 1)) rfl (by omega) (by omega) ?_
          refine to_n 1 (fr' := (734, [(0, .ref 1000000), (1, .ref 0), (2, .ref 49), (3, .ref 85), (4, .int (nI i))], [.ref 85, .int (X.2 (i + 1)), .ref 0], gh S a b sc ar lo, ex, nc, ns)) rfl ?_
          refine to_cl (q := 182) (M1 := an_L_count) (rest := []) rfl rfl (by decide) rfl trivial (lc_count hW hI (X.2 (i + 1)) (d + 33)) (fun x38 sc38 ar38 lo38 ex38 nn38 ss38 hx38 hn38 hs38 => ?_)
          obtain ⟨hI38, hG38⟩ := hx38
          have hL38 : Lw sc38 ar38 := lw_fr hLw hG38 (by decide) (by decide) (by decide) (by decide)
          have hR38 : sc38 2201 = sc38 4908 := (hG38.1 2201 (by decide)).trans (hR.trans (hG38.1 4908 (by decide)).symm)
          refine to_eq (fr' := (737, [(0, .ref 1000000), (1, .ref 0), (2, .ref 49), (3, .ref 85), (4, .int (nI i))], [.int x38], gh S a b sc38 ar38 lo38, ex38, (nc + nn38), (ns + ss38))) rfl ?_
          refine to_n 5 (fr' := (744, [(0, .ref 1000000), (1, .ref 0), (2, .ref 49), (3, .ref 85), (4, .int (nI i)), (5, .int x38)], [.int 1, .int (nI i), .ref 1000000, .ref 49], gh S a b sc38 ar38 lo38, ex38, (nc + nn38), (ns + ss38))) rfl ?_
          refine to_addN (x := i) (y := 1) rfl ?_
          refine to_ldx (i := (i + 1)) rfl (by omega) (by omega) ?_
          refine to_ci (q := 166) (M1 := an_X10_count) (rest := []) rfl rfl (by decide) rfl ⟨_, rfl⟩ (sf_X10_count hW hI38 (X.2 (i + 1)) (d + 34)) (fun x39 sc39 ar39 hx39 => ?_)
          obtain ⟨hI39, hG39, hx39⟩ := hx39
          have hL39 : Lw sc39 ar39 := lw_fr hL38 hG39 (by decide) (by decide) (by decide) (by decide)
          clear hx39
          have hR39 : sc39 2201 = sc39 4908 := (hG39.1 2201 (by decide)).trans (hR38.trans (hG39.1 4908 (by decide)).symm)
          refine to_eq (fr' := (749, [(0, .ref 1000000), (1, .ref 0), (2, .ref 49), (3, .ref 85), (4, .int (nI i)), (5, .int x38)], [.int x39], gh S a b sc39 ar39 lo38, ex38, (nc + nn38), (ns + ss38))) rfl ?_
          refine to_n 3 (fr' := (757, [(0, .ref 1000000), (1, .ref 0), (2, .ref 49), (3, .ref 85), (4, .int ((nI i) + 6)), (5, .int x38), (6, .int x39)], [], gh S a b sc39 ar39 lo38, ex38, (nc + nn38), (ns + ss38))) rfl ?_
          rw [show ((nI i) + 6 : Int32) = nI (i + 6) from nI_add _ 6]
          refine to_n 1 (fr' := (43, [(0, .ref 1000000), (1, .ref 0), (2, .ref 49), (3, .ref 85), (4, .int (nI (i + 6))), (5, .int x38), (6, .int x39)], [], gh S a b sc39 ar39 lo38, ex38, (nc + nn38), (ns + ss38))) rfl ?_
          refine to_lv (lv := [(0, .ref 1000000), (1, .ref 0), (2, .ref 49), (3, .ref 85), (4, .int (nI (i + 6)))]) rfl ⟨rfl, rfl, rfl, rfl, rfl, trivial⟩ ?_
          exact ih (i + 6) sc39 ar39 lo38 ex38 (nc + nn38) (ns + ss38) (by omega) (by omega) hI39 hL39 hR39 (by omega) (by omega)
        · refine to_eq (fr' := (754, [(0, .ref 1000000), (1, .ref 0), (2, .ref 49), (3, .ref 85), (4, .int (nI i))], [], gh S a b sc ar lo, ex, nc, ns)) rfl ?_
          refine to_n 1 (fr' := (757, [(0, .ref 1000000), (1, .ref 0), (2, .ref 49), (3, .ref 85), (4, .int ((nI i) + 6))], [], gh S a b sc ar lo, ex, nc, ns)) rfl ?_
          rw [show ((nI i) + 6 : Int32) = nI (i + 6) from nI_add _ 6]
          refine to_n 1 (fr' := (43, [(0, .ref 1000000), (1, .ref 0), (2, .ref 49), (3, .ref 85), (4, .int (nI (i + 6)))], [], gh S a b sc ar lo, ex, nc, ns)) rfl ?_
          exact ih (i + 6) sc ar lo ex nc ns (by omega) (by omega) hI hLw hR (by omega) (by omega)
