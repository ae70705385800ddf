/-! the law, call after call -/
theorem lg_self (x : Int64) : lg_cmp x x = 0 := by
  unfold lg_cmp
  rw [if_neg (Int64.lt_irrefl), if_pos rfl]
set_option maxRecDepth 20000 in
theorem lw_loop {X : Nat × (Nat → Int32)} {S a b B BS : Nat} (hW : Wd S a b) (hX : X.1 ≤ 3074) (d : Nat) : ∀ (m i : Nat) (sc : Nat → Int32) (ar : Nat → Nat → Int32) (lo : Nat → Int64) (ex : Bool) (nc ns : Nat), X.1 ≤ i + 6 * m → i ≤ 4000 → Iv S sc ar → Lw sc ar → (∃ n l0 h : Nat, Rl S a b n l0 h sc ar ∧ Rb sc ar) → nc + m ≤ B → ns + 6 * m ≤ BS → ag_To X (d + 33) an_law (43, [(0, .ref 1000000), (1, .ref 0), (2, .ref 49), (3, .ref 85), (4, .int (nI i))], [], gh S a b sc ar lo, ex, nc, ns) (fun o => ∃ h9 ex9 nc9 ns9, nc9 ≤ B ∧ ns9 ≤ BS ∧ o = .inl (some (.int 1), h9, ex9, nc9, ns9)) := by
  obtain ⟨ha1, ha8, hb1, hb8, hab, hS1, hS⟩ := id hW
  intro m
  induction m with
  | zero =>
    intro i sc ar lo ex nc ns hm hi hI hLw hR0 hB hBS
    refine to_n 2 (fr' := (46, [(0, .ref 1000000), (1, .ref 0), (2, .ref 49), (3, .ref 85), (4, .int (nI i))], [.ref 1000000, .int (nI i)], gh S a b sc ar lo, ex, nc, ns)) rfl ?_
    refine to_lenx rfl ?_
    refine to_n 1 (fr' := (49, [(0, .ref 1000000), (1, .ref 0), (2, .ref 49), (3, .ref 85), (4, .int (nI i))], [.int 6, .int (nI X.1), .int (nI i)], gh S a b sc ar lo, ex, nc, ns)) rfl ?_
    rcases Nat.lt_or_ge X.1 6 with w | w
    · refine to_n 1 (fr' := (50, [(0, .ref 1000000), (1, .ref 0), (2, .ref 49), (3, .ref 85), (4, .int (nI i))], [.int ((nI X.1) - (nI 6)), .int (nI i)], gh S a b sc ar lo, ex, nc, ns)) rfl ?_
      refine to_ic_gt_T (t := 788) rfl (neg_lt (by omega) (sub_neg w (by omega))) ?_
      refine to_n 1 (fr' := (789, [(0, .ref 1000000), (1, .ref 0), (2, .ref 49), (3, .ref 85), (4, .int (nI i))], [.int 1], gh S a b sc ar lo, ex, nc, ns)) rfl ?_
      exact to_rt (i := .ireturn) (tg := []) rfl rfl ⟨_, _, _, _, by omega, by omega, rfl⟩
    · refine to_subN (x := X.1) (y := 6) rfl (by omega) ?_
      refine to_nc_gt_T (t := 788) (x := i) (y := X.1 - 6) rfl (by omega) (by omega) (by omega) ?_
      refine to_n 1 (fr' := (789, [(0, .ref 1000000), (1, .ref 0), (2, .ref 49), (3, .ref 85), (4, .int (nI i))], [.int 1], gh S a b sc ar lo, ex, nc, ns)) rfl ?_
      exact to_rt (i := .ireturn) (tg := []) rfl rfl ⟨_, _, _, _, by omega, by omega, rfl⟩
  | succ m ih =>
    intro i sc ar lo ex nc ns hm hi hI hLw hR0 hB hBS
    obtain ⟨n, l0, h, hR, hRb⟩ := hR0
    obtain ⟨⟨hn9, hl7, hh24⟩, q1, q2, q3, q4, q5, q6, q7⟩ := id hR.2.2.1
    refine to_n 2 (fr' := (46, [(0, .ref 1000000), (1, .ref 0), (2, .ref 49), (3, .ref 85), (4, .int (nI i))], [.ref 1000000, .int (nI i)], gh S a b sc ar lo, ex, nc, ns)) rfl ?_
    refine to_lenx rfl ?_
    refine to_n 1 (fr' := (49, [(0, .ref 1000000), (1, .ref 0), (2, .ref 49), (3, .ref 85), (4, .int (nI i))], [.int 6, .int (nI X.1), .int (nI i)], gh S a b sc ar lo, ex, nc, ns)) rfl ?_
    rcases Nat.lt_or_ge X.1 6 with w | w
    · refine to_n 1 (fr' := (50, [(0, .ref 1000000), (1, .ref 0), (2, .ref 49), (3, .ref 85), (4, .int (nI i))], [.int ((nI X.1) - (nI 6)), .int (nI i)], gh S a b sc ar lo, ex, nc, ns)) rfl ?_
      refine to_ic_gt_T (t := 788) rfl (neg_lt (by omega) (sub_neg w (by omega))) ?_
      refine to_n 1 (fr' := (789, [(0, .ref 1000000), (1, .ref 0), (2, .ref 49), (3, .ref 85), (4, .int (nI i))], [.int 1], gh S a b sc ar lo, ex, nc, ns)) rfl ?_
      exact to_rt (i := .ireturn) (tg := []) rfl rfl ⟨_, _, _, _, by omega, by omega, rfl⟩
    · refine to_subN (x := X.1) (y := 6) rfl (by omega) ?_
      refine to_nc_gt (t := 788) (x := i) (y := X.1 - 6) rfl (by omega) (by omega) (fun q => ?_) (fun q => ?_)
      · refine to_n 1 (fr' := (789, [(0, .ref 1000000), (1, .ref 0), (2, .ref 49), (3, .ref 85), (4, .int (nI i))], [.int 1], gh S a b sc ar lo, ex, nc, ns)) rfl ?_
        exact to_rt (i := .ireturn) (tg := []) rfl rfl ⟨_, _, _, _, by omega, by omega, rfl⟩
      · refine to_n 2 (fr' := (56, [(0, .ref 1000000), (1, .ref 0), (2, .ref 49), (3, .ref 85), (4, .int (nI i))], [.int (nI i), .ref 1000000], gh S a b sc ar lo, ex, nc, ns)) rfl ?_
        refine to_ldx (i := i) rfl (by omega) (by omega) ?_
        refine to_n 2 (fr' := (60, [(0, .ref 1000000), (1, .ref 0), (2, .ref 49), (3, .ref 85), (4, .int (nI i))], [.int ((X.2 i) &&& 15)], gh S a b sc ar lo, ex, nc, ns)) rfl ?_
        refine to_tb (x := ((X.2 i) &&& 15)) rfl rfl (by decide) (fun t ht => ?_)
        obtain rfl | rfl | rfl | rfl | rfl | rfl | rfl | rfl | rfl | rfl | rfl | rfl | rfl | rfl | rfl | rfl | rfl : t = 140 ∨ t = 192 ∨ t = 248 ∨ t = 276 ∨ t = 328 ∨ t = 401 ∨ t = 441 ∨ t = 454 ∨ t = 482 ∨ t = 522 ∨ t = 562 ∨ t = 590 ∨ t = 630 ∨ t = 670 ∨ t = 698 ∨ t = 754 ∨ t = 782 := by simpa using to_mem (l := [140, 192, 248, 276, 328, 401, 441, 454, 482, 522, 562, 590, 630, 670, 698, 754, 782]) ht (by decide)
        · refine to_eq (fr' := (140, [(0, .ref 1000000), (1, .ref 0), (2, .ref 49), (3, .ref 85), (4, .int (nI i))], [], gh S a b sc ar lo, ex, nc, ns)) rfl ?_
          refine to_n 4 (fr' := (145, [(0, .ref 1000000), (1, .ref 0), (2, .ref 49), (3, .ref 85), (4, .int (nI i))], [.int 1, .int (nI i), .ref 1000000, .ref 0], gh S a b sc ar lo, ex, nc, ns)) rfl ?_
          refine to_addN (x := i) (y := 1) rfl ?_
          refine to_ldx (i := (i + 1)) rfl (by omega) (by omega) ?_
          refine to_n 3 (fr' := (151, [(0, .ref 1000000), (1, .ref 0), (2, .ref 49), (3, .ref 85), (4, .int (nI i))], [.int 2, .int (nI i), .ref 1000000, .int (X.2 (i + 1)), .ref 0], gh S a b sc ar lo, ex, nc, ns)) rfl ?_
          refine to_addN (x := i) (y := 2) rfl ?_
          refine to_ldx (i := (i + 2)) rfl (by omega) (by omega) ?_
          refine to_n 3 (fr' := (157, [(0, .ref 1000000), (1, .ref 0), (2, .ref 49), (3, .ref 85), (4, .int (nI i))], [.int 3, .int (nI i), .ref 1000000, .int (X.2 (i + 2)), .int (X.2 (i + 1)), .ref 0], gh S a b sc ar lo, ex, nc, ns)) rfl ?_
          refine to_addN (x := i) (y := 3) rfl ?_
          refine to_ldx (i := (i + 3)) rfl (by omega) (by omega) ?_
          refine to_n 1 (fr' := (160, [(0, .ref 1000000), (1, .ref 0), (2, .ref 49), (3, .ref 85), (4, .int (nI i))], [.ref 85, .int (X.2 (i + 3)), .int (X.2 (i + 2)), .int (X.2 (i + 1)), .ref 0], gh S a b sc ar lo, ex, nc, ns)) rfl ?_
          refine to_cl (q := 170) (M1 := an_L_house) (rest := []) rfl rfl (by decide) rfl trivial (lc_house hW hI (X.2 (i + 1)) (X.2 (i + 2)) (X.2 (i + 3)) (d + 29)) (fun x1 sc1 ar1 lo1 ex1 nn1 ss1 hx1 hn1 hs1 => ?_)
          obtain ⟨hI1, hG1, hx1⟩ := hx1
          have hL1 : Lw sc1 ar1 := lw_fr hLw hG1 (by decide) (by decide) (by decide) (by decide)
          refine to_eq (fr' := (163, [(0, .ref 1000000), (1, .ref 0), (2, .ref 49), (3, .ref 85), (4, .int (nI i))], [.int x1], gh S a b sc1 ar1 lo1, ex1, (nc + nn1), (ns + ss1))) rfl ?_
          refine to_n 5 (fr' := (170, [(0, .ref 1000000), (1, .ref 0), (2, .ref 49), (3, .ref 85), (4, .int (nI i)), (5, .int x1)], [.int 1, .int (nI i), .ref 1000000, .ref 49], gh S a b sc1 ar1 lo1, ex1, (nc + nn1), (ns + ss1))) rfl ?_
          refine to_addN (x := i) (y := 1) rfl ?_
          refine to_ldx (i := (i + 1)) rfl (by omega) (by omega) ?_
          refine to_n 3 (fr' := (176, [(0, .ref 1000000), (1, .ref 0), (2, .ref 49), (3, .ref 85), (4, .int (nI i)), (5, .int x1)], [.int 2, .int (nI i), .ref 1000000, .int (X.2 (i + 1)), .ref 49], gh S a b sc1 ar1 lo1, ex1, (nc + nn1), (ns + ss1))) rfl ?_
          refine to_addN (x := i) (y := 2) rfl ?_
          refine to_ldx (i := (i + 2)) rfl (by omega) (by omega) ?_
          refine to_n 3 (fr' := (182, [(0, .ref 1000000), (1, .ref 0), (2, .ref 49), (3, .ref 85), (4, .int (nI i)), (5, .int x1)], [.int 3, .int (nI i), .ref 1000000, .int (X.2 (i + 2)), .int (X.2 (i + 1)), .ref 49], gh S a b sc1 ar1 lo1, ex1, (nc + nn1), (ns + ss1))) rfl ?_
          refine to_addN (x := i) (y := 3) rfl ?_
          refine to_ldx (i := (i + 3)) rfl (by omega) (by omega) ?_
          refine to_ci (q := 114) (M1 := an_X10_house) (rest := []) rfl rfl (by decide) rfl ⟨_, rfl⟩ (sf_X10_house hW hI1 (X.2 (i + 1)) (X.2 (i + 2)) (X.2 (i + 3)) (d + 31)) (fun x2 sc2 ar2 hx2 => ?_)
          obtain ⟨hI2, hG2, hx2⟩ := hx2
          have hL2 : Lw sc2 ar2 := lw_fr hL1 hG2 (by decide) (by decide) (by decide) (by decide)
          have hP2 := pr_house hS hR hx1 hG1 hx2 hG2
          have hR2 : ∃ n l0 h : Nat, Rl S a b n l0 h sc2 ar2 ∧ Rb sc2 ar2 := ⟨n, l0, h, hP2.1, rb_f (rb_f hRb hG1 (by decide) (by decide) (by decide) (by decide)) hG2 (by decide) (by decide) (by decide) (by decide)⟩
          clear hx1 hx2 hP2
          refine to_eq (fr' := (187, [(0, .ref 1000000), (1, .ref 0), (2, .ref 49), (3, .ref 85), (4, .int (nI i)), (5, .int x1)], [.int x2], gh S a b sc2 ar2 lo1, ex1, (nc + nn1), (ns + ss1))) rfl ?_
          refine to_n 3 (fr' := (785, [(0, .ref 1000000), (1, .ref 0), (2, .ref 49), (3, .ref 85), (4, .int ((nI i) + 6)), (5, .int x1), (6, .int x2)], [], gh S a b sc2 ar2 lo1, ex1, (nc + nn1), (ns + ss1))) rfl ?_
          rw [show ((nI i) + 6 : Int32) = nI (i + 6) from nI_add _ 6]
          refine to_n 1 (fr' := (43, [(0, .ref 1000000), (1, .ref 0), (2, .ref 49), (3, .ref 85), (4, .int (nI (i + 6))), (5, .int x1), (6, .int x2)], [], gh S a b sc2 ar2 lo1, ex1, (nc + nn1), (ns + ss1))) rfl ?_
          refine to_lv (lv := [(0, .ref 1000000), (1, .ref 0), (2, .ref 49), (3, .ref 85), (4, .int (nI (i + 6)))]) rfl ⟨rfl, rfl, rfl, rfl, rfl, trivial⟩ ?_
          exact ih (i + 6) sc2 ar2 lo1 ex1 (nc + nn1) (ns + ss1) (by omega) (by omega) hI2 hL2 hR2 (by omega) (by omega)
        · refine to_eq (fr' := (192, [(0, .ref 1000000), (1, .ref 0), (2, .ref 49), (3, .ref 85), (4, .int (nI i))], [], gh S a b sc ar lo, ex, nc, ns)) rfl ?_
          refine to_n 4 (fr' := (197, [(0, .ref 1000000), (1, .ref 0), (2, .ref 49), (3, .ref 85), (4, .int (nI i))], [.int 1, .int (nI i), .ref 1000000, .ref 0], gh S a b sc ar lo, ex, nc, ns)) rfl ?_
          refine to_addN (x := i) (y := 1) rfl ?_
          refine to_ldx (i := (i + 1)) rfl (by omega) (by omega) ?_
          refine to_n 3 (fr' := (203, [(0, .ref 1000000), (1, .ref 0), (2, .ref 49), (3, .ref 85), (4, .int (nI i))], [.int 2, .int (nI i), .ref 1000000, .int (X.2 (i + 1)), .ref 0], gh S a b sc ar lo, ex, nc, ns)) rfl ?_
          refine to_addN (x := i) (y := 2) rfl ?_
          refine to_ldx (i := (i + 2)) rfl (by omega) (by omega) ?_
          refine to_if_eq (t := 212) rfl (fun q3 => ?_) (fun q3 => ?_)
          · refine to_n 2 (fr' := (214, [(0, .ref 1000000), (1, .ref 0), (2, .ref 49), (3, .ref 85), (4, .int (nI i))], [.ref 85, .int 0, .int (X.2 (i + 1)), .ref 0], gh S a b sc ar lo, ex, nc, ns)) rfl ?_
            refine to_cl (q := 171) (M1 := an_L_well) (rest := []) rfl rfl (by decide) rfl trivial (lc_well hW hI (X.2 (i + 1)) 0 (by omega) (d + 29)) (fun x4 sc4 ar4 lo4 ex4 nn4 ss4 hx4 hn4 hs4 => ?_)
            obtain ⟨hI4, hG4, hx4⟩ := hx4
            have hL4 : Lw sc4 ar4 := lw_fr hLw hG4 (by decide) (by decide) (by decide) (by decide)
            refine to_eq (fr' := (217, [(0, .ref 1000000), (1, .ref 0), (2, .ref 49), (3, .ref 85), (4, .int (nI i))], [.int x4], gh S a b sc4 ar4 lo4, ex4, (nc + nn4), (ns + ss4))) rfl ?_
            refine to_n 5 (fr' := (224, [(0, .ref 1000000), (1, .ref 0), (2, .ref 49), (3, .ref 85), (4, .int (nI i)), (5, .int x4)], [.int 1, .int (nI i), .ref 1000000, .ref 49], gh S a b sc4 ar4 lo4, ex4, (nc + nn4), (ns + ss4))) rfl ?_
            refine to_addN (x := i) (y := 1) rfl ?_
            refine to_ldx (i := (i + 1)) rfl (by omega) (by omega) ?_
            refine to_n 3 (fr' := (230, [(0, .ref 1000000), (1, .ref 0), (2, .ref 49), (3, .ref 85), (4, .int (nI i)), (5, .int x4)], [.int 2, .int (nI i), .ref 1000000, .int (X.2 (i + 1)), .ref 49], gh S a b sc4 ar4 lo4, ex4, (nc + nn4), (ns + ss4))) rfl ?_
            refine to_addN (x := i) (y := 2) rfl ?_
            refine to_ldx (i := (i + 2)) rfl (by omega) (by omega) ?_
            refine to_if_eq_T (t := 239) rfl q3 ?_
            refine to_n 1 (fr' := (240, [(0, .ref 1000000), (1, .ref 0), (2, .ref 49), (3, .ref 85), (4, .int (nI i)), (5, .int x4)], [.int 0, .int (X.2 (i + 1)), .ref 49], gh S a b sc4 ar4 lo4, ex4, (nc + nn4), (ns + ss4))) rfl ?_
            refine to_ci (q := 115) (M1 := an_X10_well) (rest := []) rfl rfl (by decide) rfl ⟨_, rfl⟩ (sf_X10_well hW hI4 (X.2 (i + 1)) 0 (by omega) (d + 31)) (fun x5 sc5 ar5 hx5 => ?_)
            obtain ⟨hI5, hG5, hx5⟩ := hx5
            have hL5 : Lw sc5 ar5 := lw_fr hL4 hG5 (by decide) (by decide) (by decide) (by decide)
            have hP5 := pr_well hS hR hx4 hG4 hx5 hG5
            have hR5 : ∃ n l0 h : Nat, Rl S a b n l0 h sc5 ar5 ∧ Rb sc5 ar5 := ⟨n, l0, h, hP5.1, rb_f (rb_f hRb hG4 (by decide) (by decide) (by decide) (by decide)) hG5 (by decide) (by decide) (by decide) (by decide)⟩
            clear hx4 hx5 hP5
            refine to_eq (fr' := (243, [(0, .ref 1000000), (1, .ref 0), (2, .ref 49), (3, .ref 85), (4, .int (nI i)), (5, .int x4)], [.int x5], gh S a b sc5 ar5 lo4, ex4, (nc + nn4), (ns + ss4))) rfl ?_
            refine to_n 3 (fr' := (785, [(0, .ref 1000000), (1, .ref 0), (2, .ref 49), (3, .ref 85), (4, .int ((nI i) + 6)), (5, .int x4), (6, .int x5)], [], gh S a b sc5 ar5 lo4, ex4, (nc + nn4), (ns + ss4))) rfl ?_
            rw [show ((nI i) + 6 : Int32) = nI (i + 6) from nI_add _ 6]
            refine to_n 1 (fr' := (43, [(0, .ref 1000000), (1, .ref 0), (2, .ref 49), (3, .ref 85), (4, .int (nI (i + 6))), (5, .int x4), (6, .int x5)], [], gh S a b sc5 ar5 lo4, ex4, (nc + nn4), (ns + ss4))) rfl ?_
            refine to_lv (lv := [(0, .ref 1000000), (1, .ref 0), (2, .ref 49), (3, .ref 85), (4, .int (nI (i + 6)))]) rfl ⟨rfl, rfl, rfl, rfl, rfl, trivial⟩ ?_
            exact ih (i + 6) sc5 ar5 lo4 ex4 (nc + nn4) (ns + ss4) (by omega) (by omega) hI5 hL5 hR5 (by omega) (by omega)
          · refine to_n 3 (fr' := (214, [(0, .ref 1000000), (1, .ref 0), (2, .ref 49), (3, .ref 85), (4, .int (nI i))], [.ref 85, .int 1, .int (X.2 (i + 1)), .ref 0], gh S a b sc ar lo, ex, nc, ns)) rfl ?_
            refine to_cl (q := 171) (M1 := an_L_well) (rest := []) rfl rfl (by decide) rfl trivial (lc_well hW hI (X.2 (i + 1)) 1 (by omega) (d + 29)) (fun x6 sc6 ar6 lo6 ex6 nn6 ss6 hx6 hn6 hs6 => ?_)
            obtain ⟨hI6, hG6, hx6⟩ := hx6
            have hL6 : Lw sc6 ar6 := lw_fr hLw hG6 (by decide) (by decide) (by decide) (by decide)
            refine to_eq (fr' := (217, [(0, .ref 1000000), (1, .ref 0), (2, .ref 49), (3, .ref 85), (4, .int (nI i))], [.int x6], gh S a b sc6 ar6 lo6, ex6, (nc + nn6), (ns + ss6))) rfl ?_
            refine to_n 5 (fr' := (224, [(0, .ref 1000000), (1, .ref 0), (2, .ref 49), (3, .ref 85), (4, .int (nI i)), (5, .int x6)], [.int 1, .int (nI i), .ref 1000000, .ref 49], gh S a b sc6 ar6 lo6, ex6, (nc + nn6), (ns + ss6))) rfl ?_
            refine to_addN (x := i) (y := 1) rfl ?_
            refine to_ldx (i := (i + 1)) rfl (by omega) (by omega) ?_
            refine to_n 3 (fr' := (230, [(0, .ref 1000000), (1, .ref 0), (2, .ref 49), (3, .ref 85), (4, .int (nI i)), (5, .int x6)], [.int 2, .int (nI i), .ref 1000000, .int (X.2 (i + 1)), .ref 49], gh S a b sc6 ar6 lo6, ex6, (nc + nn6), (ns + ss6))) rfl ?_
            refine to_addN (x := i) (y := 2) rfl ?_
            refine to_ldx (i := (i + 2)) rfl (by omega) (by omega) ?_
            refine to_if_eq_F (t := 239) rfl q3 ?_
            refine to_n 2 (fr' := (240, [(0, .ref 1000000), (1, .ref 0), (2, .ref 49), (3, .ref 85), (4, .int (nI i)), (5, .int x6)], [.int 1, .int (X.2 (i + 1)), .ref 49], gh S a b sc6 ar6 lo6, ex6, (nc + nn6), (ns + ss6))) rfl ?_
            refine to_ci (q := 115) (M1 := an_X10_well) (rest := []) rfl rfl (by decide) rfl ⟨_, rfl⟩ (sf_X10_well hW hI6 (X.2 (i + 1)) 1 (by omega) (d + 31)) (fun x7 sc7 ar7 hx7 => ?_)
            obtain ⟨hI7, hG7, hx7⟩ := hx7
            have hL7 : Lw sc7 ar7 := lw_fr hL6 hG7 (by decide) (by decide) (by decide) (by decide)
            have hP7 := pr_well hS hR hx6 hG6 hx7 hG7
            have hR7 : ∃ n l0 h : Nat, Rl S a b n l0 h sc7 ar7 ∧ Rb sc7 ar7 := ⟨n, l0, h, hP7.1, rb_f (rb_f hRb hG6 (by decide) (by decide) (by decide) (by decide)) hG7 (by decide) (by decide) (by decide) (by decide)⟩
            clear hx6 hx7 hP7
            refine to_eq (fr' := (243, [(0, .ref 1000000), (1, .ref 0), (2, .ref 49), (3, .ref 85), (4, .int (nI i)), (5, .int x6)], [.int x7], gh S a b sc7 ar7 lo6, ex6, (nc + nn6), (ns + ss6))) rfl ?_
            refine to_n 3 (fr' := (785, [(0, .ref 1000000), (1, .ref 0), (2, .ref 49), (3, .ref 85), (4, .int ((nI i) + 6)), (5, .int x6), (6, .int x7)], [], gh S a b sc7 ar7 lo6, ex6, (nc + nn6), (ns + ss6))) rfl ?_
            rw [show ((nI i) + 6 : Int32) = nI (i + 6) from nI_add _ 6]
            refine to_n 1 (fr' := (43, [(0, .ref 1000000), (1, .ref 0), (2, .ref 49), (3, .ref 85), (4, .int (nI (i + 6))), (5, .int x6), (6, .int x7)], [], gh S a b sc7 ar7 lo6, ex6, (nc + nn6), (ns + ss6))) rfl ?_
            refine to_lv (lv := [(0, .ref 1000000), (1, .ref 0), (2, .ref 49), (3, .ref 85), (4, .int (nI (i + 6)))]) rfl ⟨rfl, rfl, rfl, rfl, rfl, trivial⟩ ?_
            exact ih (i + 6) sc7 ar7 lo6 ex6 (nc + nn6) (ns + ss6) (by omega) (by omega) hI7 hL7 hR7 (by omega) (by omega)
        · refine to_eq (fr' := (248, [(0, .ref 1000000), (1, .ref 0), (2, .ref 49), (3, .ref 85), (4, .int (nI i))], [], gh S a b sc ar lo, ex, nc, ns)) rfl ?_
          refine to_n 4 (fr' := (253, [(0, .ref 1000000), (1, .ref 0), (2, .ref 49), (3, .ref 85), (4, .int (nI i))], [.int 1, .int (nI i), .ref 1000000, .ref 0], gh S a b sc ar lo, ex, nc, ns)) rfl ?_
          refine to_addN (x := i) (y := 1) rfl ?_
          refine to_ldx (i := (i + 1)) rfl (by omega) (by omega) ?_
          refine to_n 1 (fr' := (256, [(0, .ref 1000000), (1, .ref 0), (2, .ref 49), (3, .ref 85), (4, .int (nI i))], [.ref 85, .int (X.2 (i + 1)), .ref 0], gh S a b sc ar lo, ex, nc, ns)) rfl ?_
          refine to_cl (q := 172) (M1 := an_L_wind) (rest := []) rfl rfl (by decide) rfl trivial (lc_wind hW hI (X.2 (i + 1)) (d + 31)) (fun x8 sc8 ar8 lo8 ex8 nn8 ss8 hx8 hn8 hs8 => ?_)
          obtain ⟨hI8, hG8, hx8⟩ := hx8
          have hL8 : Lw sc8 ar8 := lw_fr hLw hG8 (by decide) (by decide) (by decide) (by decide)
          refine to_eq (fr' := (259, [(0, .ref 1000000), (1, .ref 0), (2, .ref 49), (3, .ref 85), (4, .int (nI i))], [.int x8], gh S a b sc8 ar8 lo8, ex8, (nc + nn8), (ns + ss8))) rfl ?_
          refine to_n 5 (fr' := (266, [(0, .ref 1000000), (1, .ref 0), (2, .ref 49), (3, .ref 85), (4, .int (nI i)), (5, .int x8)], [.int 1, .int (nI i), .ref 1000000, .ref 49], gh S a b sc8 ar8 lo8, ex8, (nc + nn8), (ns + ss8))) rfl ?_
          refine to_addN (x := i) (y := 1) rfl ?_
          refine to_ldx (i := (i + 1)) rfl (by omega) (by omega) ?_
          refine to_ci (q := 116) (M1 := an_X10_wind) (rest := []) rfl rfl (by decide) rfl ⟨_, rfl⟩ (sf_X10_wind hW hI8 (X.2 (i + 1)) (d + 31)) (fun x9 sc9 ar9 hx9 => ?_)
          obtain ⟨hI9, hG9, hx9⟩ := hx9
          have hL9 : Lw sc9 ar9 := lw_fr hL8 hG9 (by decide) (by decide) (by decide) (by decide)
          have hP9 := pr_wind hS hR hx8 hG8 hx9 hG9
          have hR9 : ∃ n l0 h : Nat, Rl S a b n l0 h sc9 ar9 ∧ Rb sc9 ar9 := ⟨n, l0, h, hP9.1, rb_f (rb_f hRb hG8 (by decide) (by decide) (by decide) (by decide)) hG9 (by decide) (by decide) (by decide) (by decide)⟩
          clear hx8 hx9 hP9
          refine to_eq (fr' := (271, [(0, .ref 1000000), (1, .ref 0), (2, .ref 49), (3, .ref 85), (4, .int (nI i)), (5, .int x8)], [.int x9], gh S a b sc9 ar9 lo8, ex8, (nc + nn8), (ns + ss8))) rfl ?_
          refine to_n 3 (fr' := (785, [(0, .ref 1000000), (1, .ref 0), (2, .ref 49), (3, .ref 85), (4, .int ((nI i) + 6)), (5, .int x8), (6, .int x9)], [], gh S a b sc9 ar9 lo8, ex8, (nc + nn8), (ns + ss8))) rfl ?_
          rw [show ((nI i) + 6 : Int32) = nI (i + 6) from nI_add _ 6]
          refine to_n 1 (fr' := (43, [(0, .ref 1000000), (1, .ref 0), (2, .ref 49), (3, .ref 85), (4, .int (nI (i + 6))), (5, .int x8), (6, .int x9)], [], gh S a b sc9 ar9 lo8, ex8, (nc + nn8), (ns + ss8))) rfl ?_
          refine to_lv (lv := [(0, .ref 1000000), (1, .ref 0), (2, .ref 49), (3, .ref 85), (4, .int (nI (i + 6)))]) rfl ⟨rfl, rfl, rfl, rfl, rfl, trivial⟩ ?_
          exact ih (i + 6) sc9 ar9 lo8 ex8 (nc + nn8) (ns + ss8) (by omega) (by omega) hI9 hL9 hR9 (by omega) (by omega)
        · refine to_eq (fr' := (276, [(0, .ref 1000000), (1, .ref 0), (2, .ref 49), (3, .ref 85), (4, .int (nI i))], [], gh S a b sc ar lo, ex, nc, ns)) rfl ?_
          refine to_n 4 (fr' := (281, [(0, .ref 1000000), (1, .ref 0), (2, .ref 49), (3, .ref 85), (4, .int (nI i))], [.int 1, .int (nI i), .ref 1000000, .ref 0], gh S a b sc ar lo, ex, nc, ns)) rfl ?_
          refine to_addN (x := i) (y := 1) rfl ?_
          refine to_ldx (i := (i + 1)) rfl (by omega) (by omega) ?_
          refine to_n 3 (fr' := (287, [(0, .ref 1000000), (1, .ref 0), (2, .ref 49), (3, .ref 85), (4, .int (nI i))], [.int 2, .int (nI i), .ref 1000000, .int (X.2 (i + 1)), .ref 0], gh S a b sc ar lo, ex, nc, ns)) rfl ?_
          refine to_addN (x := i) (y := 2) rfl ?_
          refine to_ldx (i := (i + 2)) rfl (by omega) (by omega) ?_
          refine to_n 3 (fr' := (293, [(0, .ref 1000000), (1, .ref 0), (2, .ref 49), (3, .ref 85), (4, .int (nI i))], [.int 3, .int (nI i), .ref 1000000, .int (X.2 (i + 2)), .int (X.2 (i + 1)), .ref 0], gh S a b sc ar lo, ex, nc, ns)) rfl ?_
          refine to_addN (x := i) (y := 3) rfl ?_
          refine to_ldx (i := (i + 3)) rfl (by omega) (by omega) ?_
          refine to_n 1 (fr' := (296, [(0, .ref 1000000), (1, .ref 0), (2, .ref 49), (3, .ref 85), (4, .int (nI i))], [.ref 85, .int (X.2 (i + 3)), .int (X.2 (i + 2)), .int (X.2 (i + 1)), .ref 0], gh S a b sc ar lo, ex, nc, ns)) rfl ?_
          refine to_cl (q := 173) (M1 := an_L_company) (rest := []) rfl rfl (by decide) rfl trivial (lc_company hW hI (X.2 (i + 1)) (X.2 (i + 2)) (X.2 (i + 3)) (d + 29)) (fun x10 sc10 ar10 lo10 ex10 nn10 ss10 hx10 hn10 hs10 => ?_)
          obtain ⟨hI10, hG10, hx10⟩ := hx10
          have hL10 : Lw sc10 ar10 := lw_fr hLw hG10 (by decide) (by decide) (by decide) (by decide)
          refine to_eq (fr' := (299, [(0, .ref 1000000), (1, .ref 0), (2, .ref 49), (3, .ref 85), (4, .int (nI i))], [.int x10], gh S a b sc10 ar10 lo10, ex10, (nc + nn10), (ns + ss10))) rfl ?_
          refine to_n 5 (fr' := (306, [(0, .ref 1000000), (1, .ref 0), (2, .ref 49), (3, .ref 85), (4, .int (nI i)), (5, .int x10)], [.int 1, .int (nI i), .ref 1000000, .ref 49], gh S a b sc10 ar10 lo10, ex10, (nc + nn10), (ns + ss10))) rfl ?_
          refine to_addN (x := i) (y := 1) rfl ?_
          refine to_ldx (i := (i + 1)) rfl (by omega) (by omega) ?_
          refine to_n 3 (fr' := (312, [(0, .ref 1000000), (1, .ref 0), (2, .ref 49), (3, .ref 85), (4, .int (nI i)), (5, .int x10)], [.int 2, .int (nI i), .ref 1000000, .int (X.2 (i + 1)), .ref 49], gh S a b sc10 ar10 lo10, ex10, (nc + nn10), (ns + ss10))) rfl ?_
          refine to_addN (x := i) (y := 2) rfl ?_
          refine to_ldx (i := (i + 2)) rfl (by omega) (by omega) ?_
          refine to_n 3 (fr' := (318, [(0, .ref 1000000), (1, .ref 0), (2, .ref 49), (3, .ref 85), (4, .int (nI i)), (5, .int x10)], [.int 3, .int (nI i), .ref 1000000, .int (X.2 (i + 2)), .int (X.2 (i + 1)), .ref 49], gh S a b sc10 ar10 lo10, ex10, (nc + nn10), (ns + ss10))) rfl ?_
          refine to_addN (x := i) (y := 3) rfl ?_
          refine to_ldx (i := (i + 3)) rfl (by omega) (by omega) ?_
          refine to_ci (q := 117) (M1 := an_X10_company) (rest := []) rfl rfl (by decide) rfl ⟨_, rfl⟩ (sf_X10_company hW hI10 (X.2 (i + 1)) (X.2 (i + 2)) (X.2 (i + 3)) (d + 31)) (fun x11 sc11 ar11 hx11 => ?_)
          obtain ⟨hI11, hG11, hx11⟩ := hx11
          have hL11 : Lw sc11 ar11 := lw_fr hL10 hG11 (by decide) (by decide) (by decide) (by decide)
          have hP11 := pr_company hS hR hx10 hG10 hx11 hG11
          have hR11 : ∃ n l0 h : Nat, Rl S a b n l0 h sc11 ar11 ∧ Rb sc11 ar11 := (hP11.1.elim fun n2 w => ⟨n2, l0, h, w, rb_f (rb_f hRb hG10 (by decide) (by decide) (by decide) (by decide)) hG11 (by decide) (by decide) (by decide) (by decide)⟩)
          clear hx10 hx11 hP11
          refine to_eq (fr' := (323, [(0, .ref 1000000), (1, .ref 0), (2, .ref 49), (3, .ref 85), (4, .int (nI i)), (5, .int x10)], [.int x11], gh S a b sc11 ar11 lo10, ex10, (nc + nn10), (ns + ss10))) rfl ?_
          refine to_n 3 (fr' := (785, [(0, .ref 1000000), (1, .ref 0), (2, .ref 49), (3, .ref 85), (4, .int ((nI i) + 6)), (5, .int x10), (6, .int x11)], [], gh S a b sc11 ar11 lo10, ex10, (nc + nn10), (ns + ss10))) rfl ?_
          rw [show ((nI i) + 6 : Int32) = nI (i + 6) from nI_add _ 6]
          refine to_n 1 (fr' := (43, [(0, .ref 1000000), (1, .ref 0), (2, .ref 49), (3, .ref 85), (4, .int (nI (i + 6))), (5, .int x10), (6, .int x11)], [], gh S a b sc11 ar11 lo10, ex10, (nc + nn10), (ns + ss10))) rfl ?_
          refine to_lv (lv := [(0, .ref 1000000), (1, .ref 0), (2, .ref 49), (3, .ref 85), (4, .int (nI (i + 6)))]) rfl ⟨rfl, rfl, rfl, rfl, rfl, trivial⟩ ?_
          exact ih (i + 6) sc11 ar11 lo10 ex10 (nc + nn10) (ns + ss10) (by omega) (by omega) hI11 hL11 hR11 (by omega) (by omega)
        · refine to_eq (fr' := (328, [(0, .ref 1000000), (1, .ref 0), (2, .ref 49), (3, .ref 85), (4, .int (nI i))], [], gh S a b sc ar lo, ex, nc, ns)) rfl ?_
          refine to_n 4 (fr' := (333, [(0, .ref 1000000), (1, .ref 0), (2, .ref 49), (3, .ref 85), (4, .int (nI i))], [.int 1, .int (nI i), .ref 1000000, .ref 0], gh S a b sc ar lo, ex, nc, ns)) rfl ?_
          refine to_addN (x := i) (y := 1) rfl ?_
          refine to_ldx (i := (i + 1)) rfl (by omega) (by omega) ?_
          refine to_n 3 (fr' := (339, [(0, .ref 1000000), (1, .ref 0), (2, .ref 49), (3, .ref 85), (4, .int (nI i))], [.int 2, .int (nI i), .ref 1000000, .int (X.2 (i + 1)), .ref 0], gh S a b sc ar lo, ex, nc, ns)) rfl ?_
          refine to_addN (x := i) (y := 2) rfl ?_
          refine to_ldx (i := (i + 2)) rfl (by omega) (by omega) ?_
          refine to_n 3 (fr' := (345, [(0, .ref 1000000), (1, .ref 0), (2, .ref 49), (3, .ref 85), (4, .int (nI i))], [.int 3, .int (nI i), .ref 1000000, .int (X.2 (i + 2)), .int (X.2 (i + 1)), .ref 0], gh S a b sc ar lo, ex, nc, ns)) rfl ?_
          refine to_addN (x := i) (y := 3) rfl ?_
          refine to_ldx (i := (i + 3)) rfl (by omega) (by omega) ?_
          refine to_n 3 (fr' := (351, [(0, .ref 1000000), (1, .ref 0), (2, .ref 49), (3, .ref 85), (4, .int (nI i))], [.int 4, .int (nI i), .ref 1000000, .int (X.2 (i + 3)), .int (X.2 (i + 2)), .int (X.2 (i + 1)), .ref 0], gh S a b sc ar lo, ex, nc, ns)) rfl ?_
          refine to_addN (x := i) (y := 4) rfl ?_
          refine to_ldx (i := (i + 4)) rfl (by omega) (by omega) ?_
          refine to_n 3 (fr' := (357, [(0, .ref 1000000), (1, .ref 0), (2, .ref 49), (3, .ref 85), (4, .int (nI i))], [.int 5, .int (nI i), .ref 1000000, .int (X.2 (i + 4)), .int (X.2 (i + 3)), .int (X.2 (i + 2)), .int (X.2 (i + 1)), .ref 0], gh S a b sc ar lo, ex, nc, ns)) rfl ?_
          refine to_addN (x := i) (y := 5) rfl ?_
          refine to_ldx (i := (i + 5)) rfl (by omega) (by omega) ?_
          refine to_ci (q := 77) (M1 := an_X9_feed) (rest := []) rfl rfl (by decide) rfl ⟨_, rfl⟩ (sf_X9_feed hW hI (X.2 (i + 1)) (X.2 (i + 2)) (X.2 (i + 3)) (X.2 (i + 4)) (X.2 (i + 5)) (d + 31)) (fun x12 sc12 ar12 hx12 => ?_)
          obtain ⟨hI12, hG12, hx12⟩ := hx12
          have hL12 : Lw sc12 ar12 := lw_fr hLw hG12 (by decide) (by decide) (by decide) (by decide)
          refine to_eq (fr' := (362, [(0, .ref 1000000), (1, .ref 0), (2, .ref 49), (3, .ref 85), (4, .int (nI i))], [.int x12], gh S a b sc12 ar12 lo, ex, nc, ns)) rfl ?_
          refine to_n 5 (fr' := (368, [(0, .ref 1000000), (1, .ref 0), (2, .ref 49), (3, .ref 85), (4, .int (nI i))], [.int 1, .int (nI i), .ref 1000000, .ref 49], gh S a b sc12 ar12 lo, ex, nc, ns)) rfl ?_
          refine to_addN (x := i) (y := 1) rfl ?_
          refine to_ldx (i := (i + 1)) rfl (by omega) (by omega) ?_
          refine to_n 3 (fr' := (374, [(0, .ref 1000000), (1, .ref 0), (2, .ref 49), (3, .ref 85), (4, .int (nI i))], [.int 2, .int (nI i), .ref 1000000, .int (X.2 (i + 1)), .ref 49], gh S a b sc12 ar12 lo, ex, nc, ns)) rfl ?_
          refine to_addN (x := i) (y := 2) rfl ?_
          refine to_ldx (i := (i + 2)) rfl (by omega) (by omega) ?_
          refine to_n 3 (fr' := (380, [(0, .ref 1000000), (1, .ref 0), (2, .ref 49), (3, .ref 85), (4, .int (nI i))], [.int 3, .int (nI i), .ref 1000000, .int (X.2 (i + 2)), .int (X.2 (i + 1)), .ref 49], gh S a b sc12 ar12 lo, ex, nc, ns)) rfl ?_
          refine to_addN (x := i) (y := 3) rfl ?_
          refine to_ldx (i := (i + 3)) rfl (by omega) (by omega) ?_
          refine to_n 3 (fr' := (386, [(0, .ref 1000000), (1, .ref 0), (2, .ref 49), (3, .ref 85), (4, .int (nI i))], [.int 4, .int (nI i), .ref 1000000, .int (X.2 (i + 3)), .int (X.2 (i + 2)), .int (X.2 (i + 1)), .ref 49], gh S a b sc12 ar12 lo, ex, nc, ns)) rfl ?_
          refine to_addN (x := i) (y := 4) rfl ?_
          refine to_ldx (i := (i + 4)) rfl (by omega) (by omega) ?_
          refine to_n 3 (fr' := (392, [(0, .ref 1000000), (1, .ref 0), (2, .ref 49), (3, .ref 85), (4, .int (nI i))], [.int 5, .int (nI i), .ref 1000000, .int (X.2 (i + 4)), .int (X.2 (i + 3)), .int (X.2 (i + 2)), .int (X.2 (i + 1)), .ref 49], gh S a b sc12 ar12 lo, ex, nc, ns)) rfl ?_
          refine to_addN (x := i) (y := 5) rfl ?_
          refine to_ldx (i := (i + 5)) rfl (by omega) (by omega) ?_
          refine to_ci (q := 118) (M1 := an_X10_feed) (rest := []) rfl rfl (by decide) rfl ⟨_, rfl⟩ (sf_X10_feed hW hI12 (X.2 (i + 1)) (X.2 (i + 2)) (X.2 (i + 3)) (X.2 (i + 4)) (X.2 (i + 5)) (d + 32)) (fun x13 sc13 ar13 hx13 => ?_)
          obtain ⟨hI13, hG13, hx13⟩ := hx13
          have hL13 : Lw sc13 ar13 := lw_fr hL12 hG13 (by decide) (by decide) (by decide) (by decide)
          have hP13 := pr_feed hR hx12 hG12 hx13 hG13
          have hR13 : ∃ n l0 h : Nat, Rl S a b n l0 h sc13 ar13 ∧ Rb sc13 ar13 := ⟨n, l0, h, hP13, rb_f (rb_f hRb hG12 (by decide) (by decide) (by decide) (by decide)) hG13 (by decide) (by decide) (by decide) (by decide)⟩
          clear hx12 hx13 hP13
          refine to_eq (fr' := (397, [(0, .ref 1000000), (1, .ref 0), (2, .ref 49), (3, .ref 85), (4, .int (nI i))], [.int x13], gh S a b sc13 ar13 lo, ex, nc, ns)) rfl ?_
          refine to_n 3 (fr' := (785, [(0, .ref 1000000), (1, .ref 0), (2, .ref 49), (3, .ref 85), (4, .int ((nI i) + 6))], [], gh S a b sc13 ar13 lo, ex, nc, ns)) rfl ?_
          rw [show ((nI i) + 6 : Int32) = nI (i + 6) from nI_add _ 6]
          refine to_n 1 (fr' := (43, [(0, .ref 1000000), (1, .ref 0), (2, .ref 49), (3, .ref 85), (4, .int (nI (i + 6)))], [], gh S a b sc13 ar13 lo, ex, nc, ns)) rfl ?_
          exact ih (i + 6) sc13 ar13 lo ex nc ns (by omega) (by omega) hI13 hL13 hR13 (by omega) (by omega)
        · refine to_eq (fr' := (401, [(0, .ref 1000000), (1, .ref 0), (2, .ref 49), (3, .ref 85), (4, .int (nI i))], [], gh S a b sc ar lo, ex, nc, ns)) rfl ?_
          refine to_n 4 (fr' := (406, [(0, .ref 1000000), (1, .ref 0), (2, .ref 49), (3, .ref 85), (4, .int (nI i))], [.int 1, .int (nI i), .ref 1000000, .ref 0], gh S a b sc ar lo, ex, nc, ns)) rfl ?_
          refine to_addN (x := i) (y := 1) rfl ?_
          refine to_ldx (i := (i + 1)) rfl (by omega) (by omega) ?_
          refine to_n 3 (fr' := (412, [(0, .ref 1000000), (1, .ref 0), (2, .ref 49), (3, .ref 85), (4, .int (nI i))], [.int 2, .int (nI i), .ref 1000000, .int (X.2 (i + 1)), .ref 0], gh S a b sc ar lo, ex, nc, ns)) rfl ?_
          refine to_addN (x := i) (y := 2) rfl ?_
          refine to_ldx (i := (i + 2)) rfl (by omega) (by omega) ?_
          refine to_n 1 (fr' := (415, [(0, .ref 1000000), (1, .ref 0), (2, .ref 49), (3, .ref 85), (4, .int (nI i))], [.ref 85, .int (X.2 (i + 2)), .int (X.2 (i + 1)), .ref 0], gh S a b sc ar lo, ex, nc, ns)) rfl ?_
          refine to_cl (q := 174) (M1 := an_L_law) (rest := []) rfl rfl (by decide) rfl trivial (lc_law hW hI (X.2 (i + 1)) (X.2 (i + 2)) hR.1.2.1 (d + 1)) (fun x14 sc14 ar14 lo14 ex14 nn14 ss14 hx14 hn14 hs14 => ?_)
          obtain ⟨hI14, hG14, hx14⟩ := hx14
          have hL14 : Lw sc14 ar14 := lw_fr hLw hG14 (by decide) (by decide) (by decide) (by decide)
          refine to_eq (fr' := (418, [(0, .ref 1000000), (1, .ref 0), (2, .ref 49), (3, .ref 85), (4, .int (nI i))], [.int x14], gh S a b sc14 ar14 lo14, ex14, (nc + nn14), (ns + ss14))) rfl ?_
          refine to_n 5 (fr' := (425, [(0, .ref 1000000), (1, .ref 0), (2, .ref 49), (3, .ref 85), (4, .int (nI i)), (5, .int x14)], [.int 1, .int (nI i), .ref 1000000, .ref 49], gh S a b sc14 ar14 lo14, ex14, (nc + nn14), (ns + ss14))) rfl ?_
          refine to_addN (x := i) (y := 1) rfl ?_
          refine to_ldx (i := (i + 1)) rfl (by omega) (by omega) ?_
          refine to_n 3 (fr' := (431, [(0, .ref 1000000), (1, .ref 0), (2, .ref 49), (3, .ref 85), (4, .int (nI i)), (5, .int x14)], [.int 2, .int (nI i), .ref 1000000, .int (X.2 (i + 1)), .ref 49], gh S a b sc14 ar14 lo14, ex14, (nc + nn14), (ns + ss14))) rfl ?_
          refine to_addN (x := i) (y := 2) rfl ?_
          refine to_ldx (i := (i + 2)) rfl (by omega) (by omega) ?_
          rcases hx14 with ⟨rfl, vv, ⟨tk, pl, g, sz, wsm, wo, wb, wc⟩, -⟩ | ⟨rfl, wt, ws, wa⟩
          · refine to_ci (q := 132) (M1 := an_X10_law) (rest := []) rfl rfl (by decide) rfl ⟨_, rfl⟩ (sf_X10_law hW hI14 (X.2 (i + 1)) (X.2 (i + 2)) tk pl g sz (rf_st hR.1 hG14 (by decide) wsm) hL14 d) (fun x15 sc15 ar15 hx15 => ?_)
            obtain ⟨hI15, hG15, hL15, hx15, hr15⟩ := hx15
            have hR15 : ∃ n l0 h : Nat, Rl S a b n l0 h sc15 ar15 ∧ Rb sc15 ar15 := (pr_law hR wo wb wc hG14 hx15 hr15 hG15).elim fun l2 w => ⟨n, l2, h, w, rb_f (rb_f hRb hG14 (by decide) (by decide) (by decide) (by decide)) hG15 (by decide) (by decide) (by decide) (by decide)⟩
            clear wsm wo wb wc hx15 hr15
            refine to_eq (fr' := (436, [(0, .ref 1000000), (1, .ref 0), (2, .ref 49), (3, .ref 85), (4, .int (nI i)), (5, .int 0)], [.int x15], gh S a b sc15 ar15 lo14, ex14, (nc + nn14), (ns + ss14))) rfl ?_
            refine to_n 3 (fr' := (785, [(0, .ref 1000000), (1, .ref 0), (2, .ref 49), (3, .ref 85), (4, .int ((nI i) + 6)), (5, .int 0), (6, .int x15)], [], gh S a b sc15 ar15 lo14, ex14, (nc + nn14), (ns + ss14))) rfl ?_
            rw [show ((nI i) + 6 : Int32) = nI (i + 6) from nI_add _ 6]
            refine to_n 1 (fr' := (43, [(0, .ref 1000000), (1, .ref 0), (2, .ref 49), (3, .ref 85), (4, .int (nI (i + 6))), (5, .int 0), (6, .int x15)], [], gh S a b sc15 ar15 lo14, ex14, (nc + nn14), (ns + ss14))) rfl ?_
            refine to_lv (lv := [(0, .ref 1000000), (1, .ref 0), (2, .ref 49), (3, .ref 85), (4, .int (nI (i + 6)))]) rfl ⟨rfl, rfl, rfl, rfl, rfl, trivial⟩ ?_
            exact ih (i + 6) sc15 ar15 lo14 ex14 (nc + nn14) (ns + ss14) (by omega) (by omega) hI15 hL15 hR15 (by omega) (by omega)
          · subst ws
            subst wa
            refine to_ci (q := 132) (M1 := an_X10_law) (rest := []) rfl rfl (by decide) rfl ⟨_, rfl⟩ (sf_X10_law hW hI (X.2 (i + 1)) (X.2 (i + 2)) (fun _ => 0) (fun _ => 0) (fun _ => 0) 0 (fun s n hs es e hn hx => (wt s n hs (hR.1.1.2.1.trans es) e hn hx).elim) hLw d) (fun x16 sc16 ar16 hx16 => ?_)
            obtain ⟨hI16, hG16, hL16, hx16, hr16⟩ := hx16
            have hR16 : ∃ n l0 h : Nat, Rl S a b n l0 h sc16 ar16 ∧ Rb sc16 ar16 := (pr_lawt hR wt hx16 hr16 hG16).elim fun l2 w => ⟨n, l2, h, w, rb_f (rb_f hRb hG14 (by decide) (by decide) (by decide) (by decide)) hG16 (by decide) (by decide) (by decide) (by decide)⟩
            clear wt hx16 hr16
            refine to_eq (fr' := (436, [(0, .ref 1000000), (1, .ref 0), (2, .ref 49), (3, .ref 85), (4, .int (nI i)), (5, .int 1)], [.int x16], gh S a b sc16 ar16 lo14, ex14, (nc + nn14), (ns + ss14))) rfl ?_
            refine to_n 3 (fr' := (785, [(0, .ref 1000000), (1, .ref 0), (2, .ref 49), (3, .ref 85), (4, .int ((nI i) + 6)), (5, .int 1), (6, .int x16)], [], gh S a b sc16 ar16 lo14, ex14, (nc + nn14), (ns + ss14))) rfl ?_
            rw [show ((nI i) + 6 : Int32) = nI (i + 6) from nI_add _ 6]
            refine to_n 1 (fr' := (43, [(0, .ref 1000000), (1, .ref 0), (2, .ref 49), (3, .ref 85), (4, .int (nI (i + 6))), (5, .int 1), (6, .int x16)], [], gh S a b sc16 ar16 lo14, ex14, (nc + nn14), (ns + ss14))) rfl ?_
            refine to_lv (lv := [(0, .ref 1000000), (1, .ref 0), (2, .ref 49), (3, .ref 85), (4, .int (nI (i + 6)))]) rfl ⟨rfl, rfl, rfl, rfl, rfl, trivial⟩ ?_
            exact ih (i + 6) sc16 ar16 lo14 ex14 (nc + nn14) (ns + ss14) (by omega) (by omega) hI16 hL16 hR16 (by omega) (by omega)
        · refine to_eq (fr' := (441, [(0, .ref 1000000), (1, .ref 0), (2, .ref 49), (3, .ref 85), (4, .int (nI i))], [], gh S a b sc ar lo, ex, nc, ns)) rfl ?_
          refine to_n 1 (fr' := (442, [(0, .ref 1000000), (1, .ref 0), (2, .ref 49), (3, .ref 85), (4, .int (nI i))], [.ref 0], gh S a b sc ar lo, ex, nc, ns)) rfl ?_
          refine to_ci (q := 79) (M1 := an_X9_fault) (rest := []) rfl rfl (by decide) rfl ⟨_, rfl⟩ (sf_X9_fault hW hI  (d + 32)) (fun x17 sc17 ar17 hx17 => ?_)
          obtain ⟨hI17, hG17, hx17⟩ := hx17
          have hL17 : Lw sc17 ar17 := lw_fr hLw hG17 (by decide) (by decide) (by decide) (by decide)
          refine to_eq (fr' := (445, [(0, .ref 1000000), (1, .ref 0), (2, .ref 49), (3, .ref 85), (4, .int (nI i))], [.int x17], gh S a b sc17 ar17 lo, ex, nc, ns)) rfl ?_
          refine to_n 2 (fr' := (447, [(0, .ref 1000000), (1, .ref 0), (2, .ref 49), (3, .ref 85), (4, .int (nI i))], [.ref 49], gh S a b sc17 ar17 lo, ex, nc, ns)) rfl ?_
          refine to_ci (q := 133) (M1 := an_X10_fault) (rest := []) rfl rfl (by decide) rfl ⟨_, rfl⟩ (sf_X10_fault hW hI17  (d + 32)) (fun x18 sc18 ar18 hx18 => ?_)
          obtain ⟨hI18, hG18, hx18⟩ := hx18
          have hL18 : Lw sc18 ar18 := lw_fr hL17 hG18 (by decide) (by decide) (by decide) (by decide)
          have hP18 := pr_fault hR hx17 hG17 hx18 hG18
          have hR18 : ∃ n l0 h : Nat, Rl S a b n l0 h sc18 ar18 ∧ Rb sc18 ar18 := ⟨n, l0, h, hP18, rb_f (rb_f hRb hG17 (by decide) (by decide) (by decide) (by decide)) hG18 (by decide) (by decide) (by decide) (by decide)⟩
          clear hx17 hx18 hP18
          refine to_eq (fr' := (450, [(0, .ref 1000000), (1, .ref 0), (2, .ref 49), (3, .ref 85), (4, .int (nI i))], [.int x18], gh S a b sc18 ar18 lo, ex, nc, ns)) rfl ?_
          refine to_n 3 (fr' := (785, [(0, .ref 1000000), (1, .ref 0), (2, .ref 49), (3, .ref 85), (4, .int ((nI i) + 6))], [], gh S a b sc18 ar18 lo, ex, nc, ns)) rfl ?_
          rw [show ((nI i) + 6 : Int32) = nI (i + 6) from nI_add _ 6]
          refine to_n 1 (fr' := (43, [(0, .ref 1000000), (1, .ref 0), (2, .ref 49), (3, .ref 85), (4, .int (nI (i + 6)))], [], gh S a b sc18 ar18 lo, ex, nc, ns)) rfl ?_
          exact ih (i + 6) sc18 ar18 lo ex nc ns (by omega) (by omega) hI18 hL18 hR18 (by omega) (by omega)
        · refine to_eq (fr' := (454, [(0, .ref 1000000), (1, .ref 0), (2, .ref 49), (3, .ref 85), (4, .int (nI i))], [], gh S a b sc ar lo, ex, nc, ns)) rfl ?_
          refine to_n 4 (fr' := (459, [(0, .ref 1000000), (1, .ref 0), (2, .ref 49), (3, .ref 85), (4, .int (nI i))], [.int 1, .int (nI i), .ref 1000000, .ref 0], gh S a b sc ar lo, ex, nc, ns)) rfl ?_
          refine to_addN (x := i) (y := 1) rfl ?_
          refine to_ldx (i := (i + 1)) rfl (by omega) (by omega) ?_
          refine to_n 1 (fr' := (462, [(0, .ref 1000000), (1, .ref 0), (2, .ref 49), (3, .ref 85), (4, .int (nI i))], [.ref 85, .int (X.2 (i + 1)), .ref 0], gh S a b sc ar lo, ex, nc, ns)) rfl ?_
          refine to_cl (q := 175) (M1 := an_L_light) (rest := []) rfl rfl (by decide) rfl trivial (lc_light hW hI n hn9 h hh24 l0 hl7 (X.2 (i + 1)) hR.2.1 hR.2.2.2.1.1 q1 q5 q3 (d + 25)) (fun x19 sc19 ar19 lo19 ex19 nn19 ss19 hx19 hn19 hs19 => ?_)
          obtain ⟨hI19, hG19, hx19⟩ := hx19
          have hL19 : Lw sc19 ar19 := lw_fr hLw hG19 (by decide) (by decide) (by decide) (by decide)
          refine to_eq (fr' := (465, [(0, .ref 1000000), (1, .ref 0), (2, .ref 49), (3, .ref 85), (4, .int (nI i))], [.int x19], gh S a b sc19 ar19 lo19, ex19, (nc + nn19), (ns + ss19))) rfl ?_
          refine to_n 5 (fr' := (472, [(0, .ref 1000000), (1, .ref 0), (2, .ref 49), (3, .ref 85), (4, .int (nI i)), (5, .int x19)], [.int 1, .int (nI i), .ref 1000000, .ref 49], gh S a b sc19 ar19 lo19, ex19, (nc + nn19), (ns + ss19))) rfl ?_
          refine to_addN (x := i) (y := 1) rfl ?_
          refine to_ldx (i := (i + 1)) rfl (by omega) (by omega) ?_
          refine to_ci (q := 144) (M1 := an_X10_light) (rest := []) rfl rfl (by decide) rfl ⟨_, rfl⟩ (sf_X10_light hW hI19 n hn9 h hh24 l0 hl7 (X.2 (i + 1)) hL19 (ld_fr (ld_s hR.2.2.2.1.2.1) hG19 (by decide) (by decide) (by decide)) ((hG19.1 4906 (by decide)).trans q2) ((hG19.1 4904 (by decide)).trans q6) ((hG19.1 4907 (by decide)).trans q4) (d + 26)) (fun x20 sc20 ar20 hx20 => ?_)
          obtain ⟨hI20, hG20, hx20⟩ := hx20
          have hL20 : Lw sc20 ar20 := lw_fr hL19 hG20 (by decide) (by decide) (by decide) (by decide)
          have hP20 := pr_light hS hR hx19 hG19 hx20 hG20
          have hR20 : ∃ n l0 h : Nat, Rl S a b n l0 h sc20 ar20 ∧ Rb sc20 ar20 := ⟨n, l0, h, hP20.1, rb_f (rb_f hRb hG19 (by decide) (by decide) (by decide) (by decide)) hG20 (by decide) (by decide) (by decide) (by decide)⟩
          clear hx19 hx20 hP20
          refine to_eq (fr' := (477, [(0, .ref 1000000), (1, .ref 0), (2, .ref 49), (3, .ref 85), (4, .int (nI i)), (5, .int x19)], [.int x20], gh S a b sc20 ar20 lo19, ex19, (nc + nn19), (ns + ss19))) rfl ?_
          refine to_n 3 (fr' := (785, [(0, .ref 1000000), (1, .ref 0), (2, .ref 49), (3, .ref 85), (4, .int ((nI i) + 6)), (5, .int x19), (6, .int x20)], [], gh S a b sc20 ar20 lo19, ex19, (nc + nn19), (ns + ss19))) rfl ?_
          rw [show ((nI i) + 6 : Int32) = nI (i + 6) from nI_add _ 6]
          refine to_n 1 (fr' := (43, [(0, .ref 1000000), (1, .ref 0), (2, .ref 49), (3, .ref 85), (4, .int (nI (i + 6))), (5, .int x19), (6, .int x20)], [], gh S a b sc20 ar20 lo19, ex19, (nc + nn19), (ns + ss19))) rfl ?_
          refine to_lv (lv := [(0, .ref 1000000), (1, .ref 0), (2, .ref 49), (3, .ref 85), (4, .int (nI (i + 6)))]) rfl ⟨rfl, rfl, rfl, rfl, rfl, trivial⟩ ?_
          exact ih (i + 6) sc20 ar20 lo19 ex19 (nc + nn19) (ns + ss19) (by omega) (by omega) hI20 hL20 hR20 (by omega) (by omega)
        · refine to_eq (fr' := (482, [(0, .ref 1000000), (1, .ref 0), (2, .ref 49), (3, .ref 85), (4, .int (nI i))], [], gh S a b sc ar lo, ex, nc, ns)) rfl ?_
          refine to_n 4 (fr' := (487, [(0, .ref 1000000), (1, .ref 0), (2, .ref 49), (3, .ref 85), (4, .int (nI i))], [.int 1, .int (nI i), .ref 1000000, .ref 0], gh S a b sc ar lo, ex, nc, ns)) rfl ?_
          refine to_addN (x := i) (y := 1) rfl ?_
          refine to_ldx (i := (i + 1)) rfl (by omega) (by omega) ?_
          refine to_n 3 (fr' := (493, [(0, .ref 1000000), (1, .ref 0), (2, .ref 49), (3, .ref 85), (4, .int (nI i))], [.int 2, .int (nI i), .ref 1000000, .int (X.2 (i + 1)), .ref 0], gh S a b sc ar lo, ex, nc, ns)) rfl ?_
          refine to_addN (x := i) (y := 2) rfl ?_
          refine to_ldx (i := (i + 2)) rfl (by omega) (by omega) ?_
          refine to_n 1 (fr' := (496, [(0, .ref 1000000), (1, .ref 0), (2, .ref 49), (3, .ref 85), (4, .int (nI i))], [.ref 85, .int (X.2 (i + 2)), .int (X.2 (i + 1)), .ref 0], gh S a b sc ar lo, ex, nc, ns)) rfl ?_
          refine to_cl (q := 176) (M1 := an_L_send) (rest := []) rfl rfl (by decide) rfl trivial (lc_send hW hI n hn9 (X.2 (i + 1)) (X.2 (i + 2)) q1 (d + 28)) (fun x21 sc21 ar21 lo21 ex21 nn21 ss21 hx21 hn21 hs21 => ?_)
          obtain ⟨hI21, hG21, hx21⟩ := hx21
          have hL21 : Lw sc21 ar21 := lw_fr hLw hG21 (by decide) (by decide) (by decide) (by decide)
          refine to_eq (fr' := (499, [(0, .ref 1000000), (1, .ref 0), (2, .ref 49), (3, .ref 85), (4, .int (nI i))], [.int x21], gh S a b sc21 ar21 lo21, ex21, (nc + nn21), (ns + ss21))) rfl ?_
          refine to_n 5 (fr' := (506, [(0, .ref 1000000), (1, .ref 0), (2, .ref 49), (3, .ref 85), (4, .int (nI i)), (5, .int x21)], [.int 1, .int (nI i), .ref 1000000, .ref 49], gh S a b sc21 ar21 lo21, ex21, (nc + nn21), (ns + ss21))) rfl ?_
          refine to_addN (x := i) (y := 1) rfl ?_
          refine to_ldx (i := (i + 1)) rfl (by omega) (by omega) ?_
          refine to_n 3 (fr' := (512, [(0, .ref 1000000), (1, .ref 0), (2, .ref 49), (3, .ref 85), (4, .int (nI i)), (5, .int x21)], [.int 2, .int (nI i), .ref 1000000, .int (X.2 (i + 1)), .ref 49], gh S a b sc21 ar21 lo21, ex21, (nc + nn21), (ns + ss21))) rfl ?_
          refine to_addN (x := i) (y := 2) rfl ?_
          refine to_ldx (i := (i + 2)) rfl (by omega) (by omega) ?_
          refine to_ci (q := 146) (M1 := an_X10_send) (rest := []) rfl rfl (by decide) rfl ⟨_, rfl⟩ (sf_X10_send hW hI21 n hn9 (X.2 (i + 1)) (X.2 (i + 2)) ((hG21.1 4906 (by decide)).trans q2) (d + 30)) (fun x22 sc22 ar22 hx22 => ?_)
          obtain ⟨hI22, hG22, hx22⟩ := hx22
          have hL22 : Lw sc22 ar22 := lw_fr hL21 hG22 (by decide) (by decide) (by decide) (by decide)
          have hP22 := pr_send hS hR hx21 hG21 hx22 hG22
          have hR22 : ∃ n l0 h : Nat, Rl S a b n l0 h sc22 ar22 ∧ Rb sc22 ar22 := ⟨n, l0, h, hP22.1, rb_f (rb_f hRb hG21 (by decide) (by decide) (by decide) (by decide)) hG22 (by decide) (by decide) (by decide) (by decide)⟩
          clear hx21 hx22 hP22
          refine to_eq (fr' := (517, [(0, .ref 1000000), (1, .ref 0), (2, .ref 49), (3, .ref 85), (4, .int (nI i)), (5, .int x21)], [.int x22], gh S a b sc22 ar22 lo21, ex21, (nc + nn21), (ns + ss21))) rfl ?_
          refine to_n 3 (fr' := (785, [(0, .ref 1000000), (1, .ref 0), (2, .ref 49), (3, .ref 85), (4, .int ((nI i) + 6)), (5, .int x21), (6, .int x22)], [], gh S a b sc22 ar22 lo21, ex21, (nc + nn21), (ns + ss21))) rfl ?_
          rw [show ((nI i) + 6 : Int32) = nI (i + 6) from nI_add _ 6]
          refine to_n 1 (fr' := (43, [(0, .ref 1000000), (1, .ref 0), (2, .ref 49), (3, .ref 85), (4, .int (nI (i + 6))), (5, .int x21), (6, .int x22)], [], gh S a b sc22 ar22 lo21, ex21, (nc + nn21), (ns + ss21))) rfl ?_
          refine to_lv (lv := [(0, .ref 1000000), (1, .ref 0), (2, .ref 49), (3, .ref 85), (4, .int (nI (i + 6)))]) rfl ⟨rfl, rfl, rfl, rfl, rfl, trivial⟩ ?_
          exact ih (i + 6) sc22 ar22 lo21 ex21 (nc + nn21) (ns + ss21) (by omega) (by omega) hI22 hL22 hR22 (by omega) (by omega)
        · refine to_eq (fr' := (522, [(0, .ref 1000000), (1, .ref 0), (2, .ref 49), (3, .ref 85), (4, .int (nI i))], [], gh S a b sc ar lo, ex, nc, ns)) rfl ?_
          refine to_n 4 (fr' := (527, [(0, .ref 1000000), (1, .ref 0), (2, .ref 49), (3, .ref 85), (4, .int (nI i))], [.int 1, .int (nI i), .ref 1000000, .ref 0], gh S a b sc ar lo, ex, nc, ns)) rfl ?_
          refine to_addN (x := i) (y := 1) rfl ?_
          refine to_ldx (i := (i + 1)) rfl (by omega) (by omega) ?_
          refine to_n 3 (fr' := (533, [(0, .ref 1000000), (1, .ref 0), (2, .ref 49), (3, .ref 85), (4, .int (nI i))], [.int 2, .int (nI i), .ref 1000000, .int (X.2 (i + 1)), .ref 0], gh S a b sc ar lo, ex, nc, ns)) rfl ?_
          refine to_addN (x := i) (y := 2) rfl ?_
          refine to_ldx (i := (i + 2)) rfl (by omega) (by omega) ?_
          refine to_n 1 (fr' := (536, [(0, .ref 1000000), (1, .ref 0), (2, .ref 49), (3, .ref 85), (4, .int (nI i))], [.ref 85, .int (X.2 (i + 2)), .int (X.2 (i + 1)), .ref 0], gh S a b sc ar lo, ex, nc, ns)) rfl ?_
          refine to_cl (q := 177) (M1 := an_L_pull) (rest := []) rfl rfl (by decide) rfl trivial (lc_pull hW hI n hn9 (X.2 (i + 1)) (X.2 (i + 2)) q1 (d + 28)) (fun x23 sc23 ar23 lo23 ex23 nn23 ss23 hx23 hn23 hs23 => ?_)
          obtain ⟨hI23, hG23, hx23⟩ := hx23
          have hL23 : Lw sc23 ar23 := lw_fr hLw hG23 (by decide) (by decide) (by decide) (by decide)
          refine to_eq (fr' := (539, [(0, .ref 1000000), (1, .ref 0), (2, .ref 49), (3, .ref 85), (4, .int (nI i))], [.int x23], gh S a b sc23 ar23 lo23, ex23, (nc + nn23), (ns + ss23))) rfl ?_
          refine to_n 5 (fr' := (546, [(0, .ref 1000000), (1, .ref 0), (2, .ref 49), (3, .ref 85), (4, .int (nI i)), (5, .int x23)], [.int 1, .int (nI i), .ref 1000000, .ref 49], gh S a b sc23 ar23 lo23, ex23, (nc + nn23), (ns + ss23))) rfl ?_
          refine to_addN (x := i) (y := 1) rfl ?_
          refine to_ldx (i := (i + 1)) rfl (by omega) (by omega) ?_
          refine to_n 3 (fr' := (552, [(0, .ref 1000000), (1, .ref 0), (2, .ref 49), (3, .ref 85), (4, .int (nI i)), (5, .int x23)], [.int 2, .int (nI i), .ref 1000000, .int (X.2 (i + 1)), .ref 49], gh S a b sc23 ar23 lo23, ex23, (nc + nn23), (ns + ss23))) rfl ?_
          refine to_addN (x := i) (y := 2) rfl ?_
          refine to_ldx (i := (i + 2)) rfl (by omega) (by omega) ?_
          refine to_ci (q := 147) (M1 := an_X10_pull) (rest := []) rfl rfl (by decide) rfl ⟨_, rfl⟩ (sf_X10_pull hW hI23 n hn9 (X.2 (i + 1)) (X.2 (i + 2)) ((hG23.1 4906 (by decide)).trans q2) (d + 30)) (fun x24 sc24 ar24 hx24 => ?_)
          obtain ⟨hI24, hG24, hx24⟩ := hx24
          have hL24 : Lw sc24 ar24 := lw_fr hL23 hG24 (by decide) (by decide) (by decide) (by decide)
          have hP24 := pr_pull hS hR hx23 hG23 hx24 hG24
          have hR24 : ∃ n l0 h : Nat, Rl S a b n l0 h sc24 ar24 ∧ Rb sc24 ar24 := ⟨n, l0, h, hP24.1, rb_f (rb_f hRb hG23 (by decide) (by decide) (by decide) (by decide)) hG24 (by decide) (by decide) (by decide) (by decide)⟩
          clear hx23 hx24 hP24
          refine to_eq (fr' := (557, [(0, .ref 1000000), (1, .ref 0), (2, .ref 49), (3, .ref 85), (4, .int (nI i)), (5, .int x23)], [.int x24], gh S a b sc24 ar24 lo23, ex23, (nc + nn23), (ns + ss23))) rfl ?_
          refine to_n 3 (fr' := (785, [(0, .ref 1000000), (1, .ref 0), (2, .ref 49), (3, .ref 85), (4, .int ((nI i) + 6)), (5, .int x23), (6, .int x24)], [], gh S a b sc24 ar24 lo23, ex23, (nc + nn23), (ns + ss23))) rfl ?_
          rw [show ((nI i) + 6 : Int32) = nI (i + 6) from nI_add _ 6]
          refine to_n 1 (fr' := (43, [(0, .ref 1000000), (1, .ref 0), (2, .ref 49), (3, .ref 85), (4, .int (nI (i + 6))), (5, .int x23), (6, .int x24)], [], gh S a b sc24 ar24 lo23, ex23, (nc + nn23), (ns + ss23))) rfl ?_
          refine to_lv (lv := [(0, .ref 1000000), (1, .ref 0), (2, .ref 49), (3, .ref 85), (4, .int (nI (i + 6)))]) rfl ⟨rfl, rfl, rfl, rfl, rfl, trivial⟩ ?_
          exact ih (i + 6) sc24 ar24 lo23 ex23 (nc + nn23) (ns + ss23) (by omega) (by omega) hI24 hL24 hR24 (by omega) (by omega)
        · refine to_eq (fr' := (562, [(0, .ref 1000000), (1, .ref 0), (2, .ref 49), (3, .ref 85), (4, .int (nI i))], [], gh S a b sc ar lo, ex, nc, ns)) rfl ?_
          refine to_n 4 (fr' := (567, [(0, .ref 1000000), (1, .ref 0), (2, .ref 49), (3, .ref 85), (4, .int (nI i))], [.int 1, .int (nI i), .ref 1000000, .ref 0], gh S a b sc ar lo, ex, nc, ns)) rfl ?_
          refine to_addN (x := i) (y := 1) rfl ?_
          refine to_ldx (i := (i + 1)) rfl (by omega) (by omega) ?_
          refine to_n 1 (fr' := (570, [(0, .ref 1000000), (1, .ref 0), (2, .ref 49), (3, .ref 85), (4, .int (nI i))], [.ref 85, .int (X.2 (i + 1)), .ref 0], gh S a b sc ar lo, ex, nc, ns)) rfl ?_
          refine to_cl (q := 178) (M1 := an_L_hours) (rest := []) rfl rfl (by decide) rfl trivial (lc_hours hW hI n hn9 l0 hl7 (X.2 (i + 1)) hR.2.1 hR.2.2.2.1.1 q1 q3 (d + 24)) (fun x25 sc25 ar25 lo25 ex25 nn25 ss25 hx25 hn25 hs25 => ?_)
          obtain ⟨hI25, hG25, hx25⟩ := hx25
          have hL25 : Lw sc25 ar25 := lw_fr hLw hG25 (by decide) (by decide) (by decide) (by decide)
          refine to_eq (fr' := (573, [(0, .ref 1000000), (1, .ref 0), (2, .ref 49), (3, .ref 85), (4, .int (nI i))], [.int x25], gh S a b sc25 ar25 lo25, ex25, (nc + nn25), (ns + ss25))) rfl ?_
          refine to_n 5 (fr' := (580, [(0, .ref 1000000), (1, .ref 0), (2, .ref 49), (3, .ref 85), (4, .int (nI i)), (5, .int x25)], [.int 1, .int (nI i), .ref 1000000, .ref 49], gh S a b sc25 ar25 lo25, ex25, (nc + nn25), (ns + ss25))) rfl ?_
          refine to_addN (x := i) (y := 1) rfl ?_
          refine to_ldx (i := (i + 1)) rfl (by omega) (by omega) ?_
          refine to_ci (q := 157) (M1 := an_X10_hours) (rest := []) rfl rfl (by decide) rfl ⟨_, rfl⟩ (sf_X10_hours hW hI25 n hn9 l0 hl7 (X.2 (i + 1)) hL25 (ld_fr (ld_s hR.2.2.2.1.2.1) hG25 (by decide) (by decide) (by decide)) ((hG25.1 4906 (by decide)).trans q2) ((hG25.1 4907 (by decide)).trans q4) (d + 26)) (fun x26 sc26 ar26 hx26 => ?_)
          obtain ⟨hI26, hG26, hx26⟩ := hx26
          have hL26 : Lw sc26 ar26 := lw_fr hL25 hG26 (by decide) (by decide) (by decide) (by decide)
          have hP26 := pr_hours hS hR hx25 hG25 hx26 hG26
          have hR26 : ∃ n l0 h : Nat, Rl S a b n l0 h sc26 ar26 ∧ Rb sc26 ar26 := (hP26.1.elim fun h2 w => ⟨n, l0, h2, w, rb_f (rb_f hRb hG25 (by decide) (by decide) (by decide) (by decide)) hG26 (by decide) (by decide) (by decide) (by decide)⟩)
          clear hx25 hx26 hP26
          refine to_eq (fr' := (585, [(0, .ref 1000000), (1, .ref 0), (2, .ref 49), (3, .ref 85), (4, .int (nI i)), (5, .int x25)], [.int x26], gh S a b sc26 ar26 lo25, ex25, (nc + nn25), (ns + ss25))) rfl ?_
          refine to_n 3 (fr' := (785, [(0, .ref 1000000), (1, .ref 0), (2, .ref 49), (3, .ref 85), (4, .int ((nI i) + 6)), (5, .int x25), (6, .int x26)], [], gh S a b sc26 ar26 lo25, ex25, (nc + nn25), (ns + ss25))) rfl ?_
          rw [show ((nI i) + 6 : Int32) = nI (i + 6) from nI_add _ 6]
          refine to_n 1 (fr' := (43, [(0, .ref 1000000), (1, .ref 0), (2, .ref 49), (3, .ref 85), (4, .int (nI (i + 6))), (5, .int x25), (6, .int x26)], [], gh S a b sc26 ar26 lo25, ex25, (nc + nn25), (ns + ss25))) rfl ?_
          refine to_lv (lv := [(0, .ref 1000000), (1, .ref 0), (2, .ref 49), (3, .ref 85), (4, .int (nI (i + 6)))]) rfl ⟨rfl, rfl, rfl, rfl, rfl, trivial⟩ ?_
          exact ih (i + 6) sc26 ar26 lo25 ex25 (nc + nn25) (ns + ss25) (by omega) (by omega) hI26 hL26 hR26 (by omega) (by omega)
        · refine to_eq (fr' := (590, [(0, .ref 1000000), (1, .ref 0), (2, .ref 49), (3, .ref 85), (4, .int (nI i))], [], gh S a b sc ar lo, ex, nc, ns)) rfl ?_
          refine to_n 4 (fr' := (595, [(0, .ref 1000000), (1, .ref 0), (2, .ref 49), (3, .ref 85), (4, .int (nI i))], [.int 1, .int (nI i), .ref 1000000, .ref 0], gh S a b sc ar lo, ex, nc, ns)) rfl ?_
          refine to_addN (x := i) (y := 1) rfl ?_
          refine to_ldx (i := (i + 1)) rfl (by omega) (by omega) ?_
          refine to_n 3 (fr' := (601, [(0, .ref 1000000), (1, .ref 0), (2, .ref 49), (3, .ref 85), (4, .int (nI i))], [.int 2, .int (nI i), .ref 1000000, .int (X.2 (i + 1)), .ref 0], gh S a b sc ar lo, ex, nc, ns)) rfl ?_
          refine to_addN (x := i) (y := 2) rfl ?_
          refine to_ldx (i := (i + 2)) rfl (by omega) (by omega) ?_
          refine to_n 1 (fr' := (604, [(0, .ref 1000000), (1, .ref 0), (2, .ref 49), (3, .ref 85), (4, .int (nI i))], [.ref 85, .int (X.2 (i + 2)), .int (X.2 (i + 1)), .ref 0], gh S a b sc ar lo, ex, nc, ns)) rfl ?_
          refine to_cl (q := 179) (M1 := an_L_cell_) (rest := []) rfl rfl (by decide) rfl trivial (lc_cell_ hW hI (X.2 (i + 1)) (X.2 (i + 2)) (d + 29)) (fun x27 sc27 ar27 lo27 ex27 nn27 ss27 hx27 hn27 hs27 => ?_)
          obtain ⟨hI27, hG27, hx27⟩ := hx27
          have hL27 : Lw sc27 ar27 := lw_fr hLw hG27 (by decide) (by decide) (by decide) (by decide)
          refine to_eq (fr' := (607, [(0, .ref 1000000), (1, .ref 0), (2, .ref 49), (3, .ref 85), (4, .int (nI i))], [.int x27], gh S a b sc27 ar27 lo27, ex27, (nc + nn27), (ns + ss27))) rfl ?_
          refine to_n 5 (fr' := (614, [(0, .ref 1000000), (1, .ref 0), (2, .ref 49), (3, .ref 85), (4, .int (nI i)), (5, .int x27)], [.int 1, .int (nI i), .ref 1000000, .ref 49], gh S a b sc27 ar27 lo27, ex27, (nc + nn27), (ns + ss27))) rfl ?_
          refine to_addN (x := i) (y := 1) rfl ?_
          refine to_ldx (i := (i + 1)) rfl (by omega) (by omega) ?_
          refine to_n 3 (fr' := (620, [(0, .ref 1000000), (1, .ref 0), (2, .ref 49), (3, .ref 85), (4, .int (nI i)), (5, .int x27)], [.int 2, .int (nI i), .ref 1000000, .int (X.2 (i + 1)), .ref 49], gh S a b sc27 ar27 lo27, ex27, (nc + nn27), (ns + ss27))) rfl ?_
          refine to_addN (x := i) (y := 2) rfl ?_
          refine to_ldx (i := (i + 2)) rfl (by omega) (by omega) ?_
          refine to_ci (q := 158) (M1 := an_X10_cell) (rest := []) rfl rfl (by decide) rfl ⟨_, rfl⟩ (sf_X10_cell hW hI27 (X.2 (i + 1)) (X.2 (i + 2)) (d + 31)) (fun x28 sc28 ar28 hx28 => ?_)
          obtain ⟨hI28, hG28, hx28⟩ := hx28
          have hL28 : Lw sc28 ar28 := lw_fr hL27 hG28 (by decide) (by decide) (by decide) (by decide)
          have hP28 := pr_cell hS hR hx27 hG27 hx28 hG28
          have hR28 : ∃ n l0 h : Nat, Rl S a b n l0 h sc28 ar28 ∧ Rb sc28 ar28 := ⟨n, l0, h, hP28.1, rb_f (rb_f hRb hG27 (by decide) (by decide) (by decide) (by decide)) hG28 (by decide) (by decide) (by decide) (by decide)⟩
          clear hx27 hx28 hP28
          refine to_eq (fr' := (625, [(0, .ref 1000000), (1, .ref 0), (2, .ref 49), (3, .ref 85), (4, .int (nI i)), (5, .int x27)], [.int x28], gh S a b sc28 ar28 lo27, ex27, (nc + nn27), (ns + ss27))) rfl ?_
          refine to_n 3 (fr' := (785, [(0, .ref 1000000), (1, .ref 0), (2, .ref 49), (3, .ref 85), (4, .int ((nI i) + 6)), (5, .int x27), (6, .int x28)], [], gh S a b sc28 ar28 lo27, ex27, (nc + nn27), (ns + ss27))) rfl ?_
          rw [show ((nI i) + 6 : Int32) = nI (i + 6) from nI_add _ 6]
          refine to_n 1 (fr' := (43, [(0, .ref 1000000), (1, .ref 0), (2, .ref 49), (3, .ref 85), (4, .int (nI (i + 6))), (5, .int x27), (6, .int x28)], [], gh S a b sc28 ar28 lo27, ex27, (nc + nn27), (ns + ss27))) rfl ?_
          refine to_lv (lv := [(0, .ref 1000000), (1, .ref 0), (2, .ref 49), (3, .ref 85), (4, .int (nI (i + 6)))]) rfl ⟨rfl, rfl, rfl, rfl, rfl, trivial⟩ ?_
          exact ih (i + 6) sc28 ar28 lo27 ex27 (nc + nn27) (ns + ss27) (by omega) (by omega) hI28 hL28 hR28 (by omega) (by omega)
        · refine to_eq (fr' := (630, [(0, .ref 1000000), (1, .ref 0), (2, .ref 49), (3, .ref 85), (4, .int (nI i))], [], gh S a b sc ar lo, ex, nc, ns)) rfl ?_
          refine to_n 4 (fr' := (635, [(0, .ref 1000000), (1, .ref 0), (2, .ref 49), (3, .ref 85), (4, .int (nI i))], [.int 1, .int (nI i), .ref 1000000, .ref 0], gh S a b sc ar lo, ex, nc, ns)) rfl ?_
          refine to_addN (x := i) (y := 1) rfl ?_
          refine to_ldx (i := (i + 1)) rfl (by omega) (by omega) ?_
          refine to_n 3 (fr' := (641, [(0, .ref 1000000), (1, .ref 0), (2, .ref 49), (3, .ref 85), (4, .int (nI i))], [.int 2, .int (nI i), .ref 1000000, .int (X.2 (i + 1)), .ref 0], gh S a b sc ar lo, ex, nc, ns)) rfl ?_
          refine to_addN (x := i) (y := 2) rfl ?_
          refine to_ldx (i := (i + 2)) rfl (by omega) (by omega) ?_
          refine to_n 1 (fr' := (644, [(0, .ref 1000000), (1, .ref 0), (2, .ref 49), (3, .ref 85), (4, .int (nI i))], [.ref 85, .int (X.2 (i + 2)), .int (X.2 (i + 1)), .ref 0], gh S a b sc ar lo, ex, nc, ns)) rfl ?_
          refine to_cl (q := 180) (M1 := an_L_of) (rest := []) rfl rfl (by decide) rfl trivial (lc_of hW hI n hn9 (X.2 (i + 1)) (X.2 (i + 2)) q1 (d + 29)) (fun x29 sc29 ar29 lo29 ex29 nn29 ss29 hx29 hn29 hs29 => ?_)
          obtain ⟨hI29, hG29, hx29⟩ := hx29
          have hL29 : Lw sc29 ar29 := lw_fr hLw hG29 (by decide) (by decide) (by decide) (by decide)
          refine to_eq (fr' := (647, [(0, .ref 1000000), (1, .ref 0), (2, .ref 49), (3, .ref 85), (4, .int (nI i))], [.int x29], gh S a b sc29 ar29 lo29, ex29, (nc + nn29), (ns + ss29))) rfl ?_
          refine to_n 5 (fr' := (654, [(0, .ref 1000000), (1, .ref 0), (2, .ref 49), (3, .ref 85), (4, .int (nI i)), (5, .int x29)], [.int 1, .int (nI i), .ref 1000000, .ref 49], gh S a b sc29 ar29 lo29, ex29, (nc + nn29), (ns + ss29))) rfl ?_
          refine to_addN (x := i) (y := 1) rfl ?_
          refine to_ldx (i := (i + 1)) rfl (by omega) (by omega) ?_
          refine to_n 3 (fr' := (660, [(0, .ref 1000000), (1, .ref 0), (2, .ref 49), (3, .ref 85), (4, .int (nI i)), (5, .int x29)], [.int 2, .int (nI i), .ref 1000000, .int (X.2 (i + 1)), .ref 49], gh S a b sc29 ar29 lo29, ex29, (nc + nn29), (ns + ss29))) rfl ?_
          refine to_addN (x := i) (y := 2) rfl ?_
          refine to_ldx (i := (i + 2)) rfl (by omega) (by omega) ?_
          refine to_ci (q := 159) (M1 := an_X10_of) (rest := []) rfl rfl (by decide) rfl ⟨_, rfl⟩ (sf_X10_of hW hI29 n hn9 (X.2 (i + 1)) (X.2 (i + 2)) ((hG29.1 4906 (by decide)).trans q2) (d + 31)) (fun x30 sc30 ar30 hx30 => ?_)
          obtain ⟨hI30, hG30, hx30⟩ := hx30
          have hL30 : Lw sc30 ar30 := lw_fr hL29 hG30 (by decide) (by decide) (by decide) (by decide)
          have hP30 := pr_of hS hR hx29 hG29 hx30 hG30
          have hR30 : ∃ n l0 h : Nat, Rl S a b n l0 h sc30 ar30 ∧ Rb sc30 ar30 := ⟨n, l0, h, hP30.1, rb_f (rb_f hRb hG29 (by decide) (by decide) (by decide) (by decide)) hG30 (by decide) (by decide) (by decide) (by decide)⟩
          clear hx29 hx30 hP30
          refine to_eq (fr' := (665, [(0, .ref 1000000), (1, .ref 0), (2, .ref 49), (3, .ref 85), (4, .int (nI i)), (5, .int x29)], [.int x30], gh S a b sc30 ar30 lo29, ex29, (nc + nn29), (ns + ss29))) rfl ?_
          refine to_n 3 (fr' := (785, [(0, .ref 1000000), (1, .ref 0), (2, .ref 49), (3, .ref 85), (4, .int ((nI i) + 6)), (5, .int x29), (6, .int x30)], [], gh S a b sc30 ar30 lo29, ex29, (nc + nn29), (ns + ss29))) rfl ?_
          rw [show ((nI i) + 6 : Int32) = nI (i + 6) from nI_add _ 6]
          refine to_n 1 (fr' := (43, [(0, .ref 1000000), (1, .ref 0), (2, .ref 49), (3, .ref 85), (4, .int (nI (i + 6))), (5, .int x29), (6, .int x30)], [], gh S a b sc30 ar30 lo29, ex29, (nc + nn29), (ns + ss29))) rfl ?_
          refine to_lv (lv := [(0, .ref 1000000), (1, .ref 0), (2, .ref 49), (3, .ref 85), (4, .int (nI (i + 6)))]) rfl ⟨rfl, rfl, rfl, rfl, rfl, trivial⟩ ?_
          exact ih (i + 6) sc30 ar30 lo29 ex29 (nc + nn29) (ns + ss29) (by omega) (by omega) hI30 hL30 hR30 (by omega) (by omega)
        · refine to_eq (fr' := (670, [(0, .ref 1000000), (1, .ref 0), (2, .ref 49), (3, .ref 85), (4, .int (nI i))], [], gh S a b sc ar lo, ex, nc, ns)) rfl ?_
          refine to_n 4 (fr' := (675, [(0, .ref 1000000), (1, .ref 0), (2, .ref 49), (3, .ref 85), (4, .int (nI i))], [.int 1, .int (nI i), .ref 1000000, .ref 0], gh S a b sc ar lo, ex, nc, ns)) rfl ?_
          refine to_addN (x := i) (y := 1) rfl ?_
          refine to_ldx (i := (i + 1)) rfl (by omega) (by omega) ?_
          refine to_n 1 (fr' := (678, [(0, .ref 1000000), (1, .ref 0), (2, .ref 49), (3, .ref 85), (4, .int (nI i))], [.ref 85, .int (X.2 (i + 1)), .ref 0], gh S a b sc ar lo, ex, nc, ns)) rfl ?_
          refine to_cl (q := 181) (M1 := an_L_breaks) (rest := []) rfl rfl (by decide) rfl trivial (lc_breaks hW hI (X.2 (i + 1)) hR.2.1 (d + 26)) (fun x31 sc31 ar31 lo31 ex31 nn31 ss31 hx31 hn31 hs31 => ?_)
          obtain ⟨hI31, hG31, hx31⟩ := hx31
          have hL31 : Lw sc31 ar31 := lw_fr hLw hG31 (by decide) (by decide) (by decide) (by decide)
          refine to_eq (fr' := (681, [(0, .ref 1000000), (1, .ref 0), (2, .ref 49), (3, .ref 85), (4, .int (nI i))], [.int x31], gh S a b sc31 ar31 lo31, ex31, (nc + nn31), (ns + ss31))) rfl ?_
          refine to_n 5 (fr' := (688, [(0, .ref 1000000), (1, .ref 0), (2, .ref 49), (3, .ref 85), (4, .int (nI i)), (5, .int x31)], [.int 1, .int (nI i), .ref 1000000, .ref 49], gh S a b sc31 ar31 lo31, ex31, (nc + nn31), (ns + ss31))) rfl ?_
          refine to_addN (x := i) (y := 1) rfl ?_
          refine to_ldx (i := (i + 1)) rfl (by omega) (by omega) ?_
          refine to_ci (q := 165) (M1 := an_X10_breaks) (rest := []) rfl rfl (by decide) rfl ⟨_, rfl⟩ (sf_X10_breaks hW hI31 (X.2 (i + 1)) (d + 28)) (fun x32 sc32 ar32 hx32 => ?_)
          obtain ⟨hI32, hG32, hx32⟩ := hx32
          have hL32 : Lw sc32 ar32 := lw_fr hL31 hG32 (by decide) (by decide) (by decide) (by decide)
          have hP32 := pr_breaks hRb hS hR hx31 hG31 hx32 hG32
          have hR32 : ∃ n l0 h : Nat, Rl S a b n l0 h sc32 ar32 ∧ Rb sc32 ar32 := ⟨n, l0, h, hP32.1, hP32.2.1⟩
          clear hx31 hx32 hP32
          refine to_eq (fr' := (693, [(0, .ref 1000000), (1, .ref 0), (2, .ref 49), (3, .ref 85), (4, .int (nI i)), (5, .int x31)], [.int x32], gh S a b sc32 ar32 lo31, ex31, (nc + nn31), (ns + ss31))) rfl ?_
          refine to_n 3 (fr' := (785, [(0, .ref 1000000), (1, .ref 0), (2, .ref 49), (3, .ref 85), (4, .int ((nI i) + 6)), (5, .int x31), (6, .int x32)], [], gh S a b sc32 ar32 lo31, ex31, (nc + nn31), (ns + ss31))) rfl ?_
          rw [show ((nI i) + 6 : Int32) = nI (i + 6) from nI_add _ 6]
          refine to_n 1 (fr' := (43, [(0, .ref 1000000), (1, .ref 0), (2, .ref 49), (3, .ref 85), (4, .int (nI (i + 6))), (5, .int x31), (6, .int x32)], [], gh S a b sc32 ar32 lo31, ex31, (nc + nn31), (ns + ss31))) rfl ?_
          refine to_lv (lv := [(0, .ref 1000000), (1, .ref 0), (2, .ref 49), (3, .ref 85), (4, .int (nI (i + 6)))]) rfl ⟨rfl, rfl, rfl, rfl, rfl, trivial⟩ ?_
          exact ih (i + 6) sc32 ar32 lo31 ex31 (nc + nn31) (ns + ss31) (by omega) (by omega) hI32 hL32 hR32 (by omega) (by omega)
        · refine to_eq (fr' := (698, [(0, .ref 1000000), (1, .ref 0), (2, .ref 49), (3, .ref 85), (4, .int (nI i))], [], gh S a b sc ar lo, ex, nc, ns)) rfl ?_
          refine to_n 4 (fr' := (703, [(0, .ref 1000000), (1, .ref 0), (2, .ref 49), (3, .ref 85), (4, .int (nI i))], [.int 1, .int (nI i), .ref 1000000, .ref 0], gh S a b sc ar lo, ex, nc, ns)) rfl ?_
          refine to_addN (x := i) (y := 1) rfl ?_
          refine to_ldx (i := (i + 1)) rfl (by omega) (by omega) ?_
          refine to_n 1 (fr' := (706, [(0, .ref 1000000), (1, .ref 0), (2, .ref 49), (3, .ref 85), (4, .int (nI i))], [.ref 85, .int (X.2 (i + 1)), .ref 0], gh S a b sc ar lo, ex, nc, ns)) rfl ?_
          refine to_cl (q := 182) (M1 := an_L_breaker) (rest := []) rfl rfl (by decide) rfl trivial (lc_breaker hW hI (X.2 (i + 1)) (d + 31)) (fun x33 sc33 ar33 lo33 ex33 nn33 ss33 hx33 hn33 hs33 => ?_)
          obtain ⟨hI33, hG33, hx33⟩ := hx33
          have hL33 : Lw sc33 ar33 := lw_fr hLw hG33 (by decide) (by decide) (by decide) (by decide)
          refine to_eq (fr' := (709, [(0, .ref 1000000), (1, .ref 0), (2, .ref 49), (3, .ref 85), (4, .int (nI i))], [.int x33], gh S a b sc33 ar33 lo33, ex33, (nc + nn33), (ns + ss33))) rfl ?_
          refine to_n 5 (fr' := (716, [(0, .ref 1000000), (1, .ref 0), (2, .ref 49), (3, .ref 85), (4, .int (nI i)), (5, .int x33)], [.int 1, .int (nI i), .ref 1000000, .ref 49], gh S a b sc33 ar33 lo33, ex33, (nc + nn33), (ns + ss33))) rfl ?_
          refine to_addN (x := i) (y := 1) rfl ?_
          refine to_ldx (i := (i + 1)) rfl (by omega) (by omega) ?_
          refine to_ci (q := 166) (M1 := an_X10_breaker) (rest := []) rfl rfl (by decide) rfl ⟨_, rfl⟩ (sf_X10_breaker hW hI33 (X.2 (i + 1)) (d + 31)) (fun x34 sc34 ar34 hx34 => ?_)
          obtain ⟨hI34, hG34, hx34⟩ := hx34
          have hL34 : Lw sc34 ar34 := lw_fr hL33 hG34 (by decide) (by decide) (by decide) (by decide)
          have hP34 := pr_breaker hRb hS hR hx33 hG33 hx34 hG34
          have hR34 : ∃ n l0 h : Nat, Rl S a b n l0 h sc34 ar34 ∧ Rb sc34 ar34 := ⟨n, l0, h, hP34.1, hP34.2.1⟩
          have hC34 := hP34.2.2
          clear hx33 hx34 hP34
          rcases hC34 with ⟨rfl, v5, wl⟩ | ⟨rfl, v5⟩
          · refine to_eq (fr' := (721, [(0, .ref 1000000), (1, .ref 0), (2, .ref 49), (3, .ref 85), (4, .int (nI i)), (5, .int 0)], [.int x34], gh S a b sc34 ar34 lo33, ex33, (nc + nn33), (ns + ss33))) rfl ?_
            refine to_n 2 (fr' := (724, [(0, .ref 1000000), (1, .ref 0), (2, .ref 49), (3, .ref 85), (4, .int (nI i)), (5, .int 0), (6, .int x34)], [.ref 49], gh S a b sc34 ar34 lo33, ex33, (nc + nn33), (ns + ss33))) rfl ?_
            refine to_cp (q := 108) (M1 := an_X10_thrown) (rest := []) rfl rfl (by decide) rfl ⟨_, rfl⟩ (sf_X10_thrown hW hI34 (d + 32)) (fun x35 hx35 => ?_)
            refine to_eq (fr' := (727, [(0, .ref 1000000), (1, .ref 0), (2, .ref 49), (3, .ref 85), (4, .int (nI i)), (5, .int 0), (6, .int x34)], [.int x35], gh S a b sc34 ar34 lo33, ex33, (nc + nn33), (ns + ss33))) rfl ?_
            refine to_n 1 (fr' := (729, [(0, .ref 1000000), (1, .ref 0), (2, .ref 49), (3, .ref 85), (4, .int (nI i)), (5, .int 0), (6, .int x34)], [.int 0, .int x35], gh S a b sc34 ar34 lo33, ex33, (nc + nn33), (ns + ss33))) rfl ?_
            refine to_ic_eq_T (t := 734) rfl (hx35.trans v5) ?_
            refine to_n 8 (fr' := (746, [(0, .ref 1000000), (1, .ref 0), (2, .ref 49), (3, .ref 85), (4, .int (nI i)), (5, .int 0), (6, .int x34)], [.int (lg_cmp (lo33 0) ((x34 : Int32).toInt64))], gh S a b sc34 ar34 lo33, ex33, (nc + nn33), (ns + ss33))) rfl ?_
            refine to_if_eq_T (t := 751) rfl (by rw [wl]; exact lg_self _) ?_
            refine to_n 2 (fr' := (785, [(0, .ref 1000000), (1, .ref 0), (2, .ref 49), (3, .ref 85), (4, .int ((nI i) + 6)), (5, .int 0), (6, .int x34)], [], gh S a b sc34 ar34 lo33, ex33, (nc + nn33), (ns + ss33))) rfl ?_
            rw [show ((nI i) + 6 : Int32) = nI (i + 6) from nI_add _ 6]
            refine to_n 1 (fr' := (43, [(0, .ref 1000000), (1, .ref 0), (2, .ref 49), (3, .ref 85), (4, .int (nI (i + 6))), (5, .int 0), (6, .int x34)], [], gh S a b sc34 ar34 lo33, ex33, (nc + nn33), (ns + ss33))) rfl ?_
            refine to_lv (lv := [(0, .ref 1000000), (1, .ref 0), (2, .ref 49), (3, .ref 85), (4, .int (nI (i + 6)))]) rfl ⟨rfl, rfl, rfl, rfl, rfl, trivial⟩ ?_
            exact ih (i + 6) sc34 ar34 lo33 ex33 (nc + nn33) (ns + ss33) (by omega) (by omega) hI34 hL34 hR34 (by omega) (by omega)
          · refine to_eq (fr' := (721, [(0, .ref 1000000), (1, .ref 0), (2, .ref 49), (3, .ref 85), (4, .int (nI i)), (5, .int 1)], [.int x34], gh S a b sc34 ar34 lo33, ex33, (nc + nn33), (ns + ss33))) rfl ?_
            refine to_n 2 (fr' := (724, [(0, .ref 1000000), (1, .ref 0), (2, .ref 49), (3, .ref 85), (4, .int (nI i)), (5, .int 1), (6, .int x34)], [.ref 49], gh S a b sc34 ar34 lo33, ex33, (nc + nn33), (ns + ss33))) rfl ?_
            refine to_cp (q := 108) (M1 := an_X10_thrown) (rest := []) rfl rfl (by decide) rfl ⟨_, rfl⟩ (sf_X10_thrown hW hI34 (d + 32)) (fun x36 hx36 => ?_)
            refine to_eq (fr' := (727, [(0, .ref 1000000), (1, .ref 0), (2, .ref 49), (3, .ref 85), (4, .int (nI i)), (5, .int 1), (6, .int x34)], [.int x36], gh S a b sc34 ar34 lo33, ex33, (nc + nn33), (ns + ss33))) rfl ?_
            refine to_n 1 (fr' := (729, [(0, .ref 1000000), (1, .ref 0), (2, .ref 49), (3, .ref 85), (4, .int (nI i)), (5, .int 1), (6, .int x34)], [.int 1, .int x36], gh S a b sc34 ar34 lo33, ex33, (nc + nn33), (ns + ss33))) rfl ?_
            refine to_ic_eq_T (t := 734) rfl (hx36.trans v5) ?_
            refine to_n 4 (fr' := (785, [(0, .ref 1000000), (1, .ref 0), (2, .ref 49), (3, .ref 85), (4, .int ((nI i) + 6)), (5, .int 1), (6, .int x34)], [], gh S a b sc34 ar34 lo33, ex33, (nc + nn33), (ns + ss33))) rfl ?_
            rw [show ((nI i) + 6 : Int32) = nI (i + 6) from nI_add _ 6]
            refine to_n 1 (fr' := (43, [(0, .ref 1000000), (1, .ref 0), (2, .ref 49), (3, .ref 85), (4, .int (nI (i + 6))), (5, .int 1), (6, .int x34)], [], gh S a b sc34 ar34 lo33, ex33, (nc + nn33), (ns + ss33))) rfl ?_
            refine to_lv (lv := [(0, .ref 1000000), (1, .ref 0), (2, .ref 49), (3, .ref 85), (4, .int (nI (i + 6)))]) rfl ⟨rfl, rfl, rfl, rfl, rfl, trivial⟩ ?_
            exact ih (i + 6) sc34 ar34 lo33 ex33 (nc + nn33) (ns + ss33) (by omega) (by omega) hI34 hL34 hR34 (by omega) (by omega)
        · refine to_eq (fr' := (754, [(0, .ref 1000000), (1, .ref 0), (2, .ref 49), (3, .ref 85), (4, .int (nI i))], [], gh S a b sc ar lo, ex, nc, ns)) rfl ?_
          refine to_n 4 (fr' := (759, [(0, .ref 1000000), (1, .ref 0), (2, .ref 49), (3, .ref 85), (4, .int (nI i))], [.int 1, .int (nI i), .ref 1000000, .ref 0], gh S a b sc ar lo, ex, nc, ns)) rfl ?_
          refine to_addN (x := i) (y := 1) rfl ?_
          refine to_ldx (i := (i + 1)) rfl (by omega) (by omega) ?_
          refine to_n 1 (fr' := (762, [(0, .ref 1000000), (1, .ref 0), (2, .ref 49), (3, .ref 85), (4, .int (nI i))], [.ref 85, .int (X.2 (i + 1)), .ref 0], gh S a b sc ar lo, ex, nc, ns)) rfl ?_
          refine to_cl (q := 183) (M1 := an_L_count) (rest := []) rfl rfl (by decide) rfl trivial (lc_count hW hI n hn9 h hh24 l0 hl7 (X.2 (i + 1)) q1 q5 q3 (d + 30)) (fun x37 sc37 ar37 lo37 ex37 nn37 ss37 hx37 hn37 hs37 => ?_)
          obtain ⟨hI37, hG37, hx37⟩ := hx37
          have hL37 : Lw sc37 ar37 := lw_fr hLw hG37 (by decide) (by decide) (by decide) (by decide)
          refine to_eq (fr' := (765, [(0, .ref 1000000), (1, .ref 0), (2, .ref 49), (3, .ref 85), (4, .int (nI i))], [.int x37], gh S a b sc37 ar37 lo37, ex37, (nc + nn37), (ns + ss37))) rfl ?_
          refine to_n 5 (fr' := (772, [(0, .ref 1000000), (1, .ref 0), (2, .ref 49), (3, .ref 85), (4, .int (nI i)), (5, .int x37)], [.int 1, .int (nI i), .ref 1000000, .ref 49], gh S a b sc37 ar37 lo37, ex37, (nc + nn37), (ns + ss37))) rfl ?_
          refine to_addN (x := i) (y := 1) rfl ?_
          refine to_ldx (i := (i + 1)) rfl (by omega) (by omega) ?_
          refine to_ci (q := 167) (M1 := an_X10_count) (rest := []) rfl rfl (by decide) rfl ⟨_, rfl⟩ (sf_X10_count hW hI37 n hn9 h hh24 l0 hl7 (X.2 (i + 1)) ((hG37.1 4906 (by decide)).trans q2) ((hG37.1 4904 (by decide)).trans q6) ((hG37.1 4907 (by decide)).trans q4) (d + 31)) (fun x38 sc38 ar38 hx38 => ?_)
          obtain ⟨hI38, hG38, hx38⟩ := hx38
          have hL38 : Lw sc38 ar38 := lw_fr hL37 hG38 (by decide) (by decide) (by decide) (by decide)
          have hP38 := pr_count hS hR hx37 hG37 hx38 hG38
          have hR38 : ∃ n l0 h : Nat, Rl S a b n l0 h sc38 ar38 ∧ Rb sc38 ar38 := ⟨n, l0, h, hP38.1, rb_f (rb_f hRb hG37 (by decide) (by decide) (by decide) (by decide)) hG38 (by decide) (by decide) (by decide) (by decide)⟩
          clear hx37 hx38 hP38
          refine to_eq (fr' := (777, [(0, .ref 1000000), (1, .ref 0), (2, .ref 49), (3, .ref 85), (4, .int (nI i)), (5, .int x37)], [.int x38], gh S a b sc38 ar38 lo37, ex37, (nc + nn37), (ns + ss37))) rfl ?_
          refine to_n 3 (fr' := (785, [(0, .ref 1000000), (1, .ref 0), (2, .ref 49), (3, .ref 85), (4, .int ((nI i) + 6)), (5, .int x37), (6, .int x38)], [], gh S a b sc38 ar38 lo37, ex37, (nc + nn37), (ns + ss37))) rfl ?_
          rw [show ((nI i) + 6 : Int32) = nI (i + 6) from nI_add _ 6]
          refine to_n 1 (fr' := (43, [(0, .ref 1000000), (1, .ref 0), (2, .ref 49), (3, .ref 85), (4, .int (nI (i + 6))), (5, .int x37), (6, .int x38)], [], gh S a b sc38 ar38 lo37, ex37, (nc + nn37), (ns + ss37))) rfl ?_
          refine to_lv (lv := [(0, .ref 1000000), (1, .ref 0), (2, .ref 49), (3, .ref 85), (4, .int (nI (i + 6)))]) rfl ⟨rfl, rfl, rfl, rfl, rfl, trivial⟩ ?_
          exact ih (i + 6) sc38 ar38 lo37 ex37 (nc + nn37) (ns + ss37) (by omega) (by omega) hI38 hL38 hR38 (by omega) (by omega)
        · refine to_eq (fr' := (782, [(0, .ref 1000000), (1, .ref 0), (2, .ref 49), (3, .ref 85), (4, .int (nI i))], [], gh S a b sc ar lo, ex, nc, ns)) rfl ?_
          refine to_n 1 (fr' := (785, [(0, .ref 1000000), (1, .ref 0), (2, .ref 49), (3, .ref 85), (4, .int ((nI i) + 6))], [], gh S a b sc ar lo, ex, nc, ns)) rfl ?_
          rw [show ((nI i) + 6 : Int32) = nI (i + 6) from nI_add _ 6]
          refine to_n 1 (fr' := (43, [(0, .ref 1000000), (1, .ref 0), (2, .ref 49), (3, .ref 85), (4, .int (nI (i + 6)))], [], gh S a b sc ar lo, ex, nc, ns)) rfl ?_
          exact ih (i + 6) sc ar lo ex nc ns (by omega) (by omega) hI hLw ⟨n, l0, h, hR, hRb⟩ (by omega) (by omega)
